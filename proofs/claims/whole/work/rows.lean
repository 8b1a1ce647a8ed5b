section
-- ===== PART A: goes FIRST, ahead of the names: the tables' words, and 'selects' of the private methods out of them =====
/-- a private method of a class that the tables say can be made, by its rows of tables_1 -/
def lw_okq (q : MethodName × Nat) : Prop := (q.1.cls ≠ "java/lang/invoke/MethodHandle" ∧ q.1.cls ≠ "java/lang/invoke/VarHandle") ∧ Cond.instantiable q.1.cls q.2 ∈ tables_1 ∧ Cond.privateMethod q.1 ∈ tables_1 ∧ Cond.instanceMethod q.1 ∈ tables_1
theorem lw_p0 : lw_okq (⟨"GiftMatch", "isPair", "(II)Z"⟩, 12) := ⟨⟨by decide +kernel, by decide +kernel⟩, List.mem_of_getElem? (i := 16) (by decide +kernel), List.mem_of_getElem? (i := 363) (by decide +kernel), List.mem_of_getElem? (i := 364) (by decide +kernel)⟩
theorem lw_p1 : lw_okq (⟨"GiftMatch", "isGiver", "(I)Z"⟩, 12) := ⟨⟨by decide +kernel, by decide +kernel⟩, List.mem_of_getElem? (i := 16) (by decide +kernel), List.mem_of_getElem? (i := 367) (by decide +kernel), List.mem_of_getElem? (i := 368) (by decide +kernel)⟩
theorem lw_p2 : lw_okq (⟨"GiftMatch", "isWork", "(I)Z"⟩, 12) := ⟨⟨by decide +kernel, by decide +kernel⟩, List.mem_of_getElem? (i := 16) (by decide +kernel), List.mem_of_getElem? (i := 371) (by decide +kernel), List.mem_of_getElem? (i := 372) (by decide +kernel)⟩
theorem lw_p3 : lw_okq (⟨"GiftMatch", "setKeep", "(I)I"⟩, 12) := ⟨⟨by decide +kernel, by decide +kernel⟩, List.mem_of_getElem? (i := 16) (by decide +kernel), List.mem_of_getElem? (i := 379) (by decide +kernel), List.mem_of_getElem? (i := 380) (by decide +kernel)⟩
theorem lw_p4 : lw_okq (⟨"GiftMatch", "setTheRule", "(I)I"⟩, 12) := ⟨⟨by decide +kernel, by decide +kernel⟩, List.mem_of_getElem? (i := 16) (by decide +kernel), List.mem_of_getElem? (i := 383) (by decide +kernel), List.mem_of_getElem? (i := 384) (by decide +kernel)⟩
theorem lw_p5 : lw_okq (⟨"GiftMatch", "setPurse", "(I)I"⟩, 12) := ⟨⟨by decide +kernel, by decide +kernel⟩, List.mem_of_getElem? (i := 16) (by decide +kernel), List.mem_of_getElem? (i := 390) (by decide +kernel), List.mem_of_getElem? (i := 391) (by decide +kernel)⟩
theorem lw_p6 : lw_okq (⟨"GiftMatch", "setParted", "(I)I"⟩, 12) := ⟨⟨by decide +kernel, by decide +kernel⟩, List.mem_of_getElem? (i := 16) (by decide +kernel), List.mem_of_getElem? (i := 394) (by decide +kernel), List.mem_of_getElem? (i := 395) (by decide +kernel)⟩
theorem lw_p7 : lw_okq (⟨"GiftMatch$Reader", "readCharacter", "(LGiftMatch$Rule;I)V"⟩, 5) := ⟨⟨by decide +kernel, by decide +kernel⟩, List.mem_of_getElem? (i := 137) (by decide +kernel), List.mem_of_getElem? (i := 406) (by decide +kernel), List.mem_of_getElem? (i := 407) (by decide +kernel)⟩
theorem lw_p8 : lw_okq (⟨"GiftMatch$Reader", "readDigit", "(LGiftMatch$Rule;II)V"⟩, 5) := ⟨⟨by decide +kernel, by decide +kernel⟩, List.mem_of_getElem? (i := 137) (by decide +kernel), List.mem_of_getElem? (i := 410) (by decide +kernel), List.mem_of_getElem? (i := 411) (by decide +kernel)⟩
theorem lw_p9 : lw_okq (⟨"GiftMatch$Reader", "readUnit", "(LGiftMatch$Rule;I)Z"⟩, 5) := ⟨⟨by decide +kernel, by decide +kernel⟩, List.mem_of_getElem? (i := 137) (by decide +kernel), List.mem_of_getElem? (i := 418) (by decide +kernel), List.mem_of_getElem? (i := 419) (by decide +kernel)⟩
theorem lw_p10 : lw_okq (⟨"GiftMatch$Reader", "hold", "(I)V"⟩, 5) := ⟨⟨by decide +kernel, by decide +kernel⟩, List.mem_of_getElem? (i := 137) (by decide +kernel), List.mem_of_getElem? (i := 422) (by decide +kernel), List.mem_of_getElem? (i := 423) (by decide +kernel)⟩
theorem lw_p11 : lw_okq (⟨"GiftMatch$Reader", "readBehindUnit", "(LGiftMatch$Rule;I)Z"⟩, 5) := ⟨⟨by decide +kernel, by decide +kernel⟩, List.mem_of_getElem? (i := 137) (by decide +kernel), List.mem_of_getElem? (i := 426) (by decide +kernel), List.mem_of_getElem? (i := 427) (by decide +kernel)⟩
theorem lw_p12 : lw_okq (⟨"GiftMatch$Reader", "closeBracket", "(LGiftMatch$Rule;)Z"⟩, 5) := ⟨⟨by decide +kernel, by decide +kernel⟩, List.mem_of_getElem? (i := 137) (by decide +kernel), List.mem_of_getElem? (i := 430) (by decide +kernel), List.mem_of_getElem? (i := 431) (by decide +kernel)⟩
theorem lw_p13 : lw_okq (⟨"GiftMatch$Reader", "release", "(LGiftMatch$Rule;I)V"⟩, 5) := ⟨⟨by decide +kernel, by decide +kernel⟩, List.mem_of_getElem? (i := 137) (by decide +kernel), List.mem_of_getElem? (i := 434) (by decide +kernel), List.mem_of_getElem? (i := 435) (by decide +kernel)⟩
theorem lw_p14 : lw_okq (⟨"GiftMatch$Reader", "lastRank", "()I"⟩, 5) := ⟨⟨by decide +kernel, by decide +kernel⟩, List.mem_of_getElem? (i := 137) (by decide +kernel), List.mem_of_getElem? (i := 441) (by decide +kernel), List.mem_of_getElem? (i := 442) (by decide +kernel)⟩
theorem lw_p15 : lw_okq (⟨"GiftMatch$Sight", "push", "(J)V"⟩, 7) := ⟨⟨by decide +kernel, by decide +kernel⟩, List.mem_of_getElem? (i := 160) (by decide +kernel), List.mem_of_getElem? (i := 497) (by decide +kernel), List.mem_of_getElem? (i := 498) (by decide +kernel)⟩
def lw_privs_1 : List (MethodName × Nat) := [(⟨"GiftMatch", "isPair", "(II)Z"⟩, 12), (⟨"GiftMatch", "isGiver", "(I)Z"⟩, 12), (⟨"GiftMatch", "isWork", "(I)Z"⟩, 12), (⟨"GiftMatch", "setKeep", "(I)I"⟩, 12), (⟨"GiftMatch", "setTheRule", "(I)I"⟩, 12), (⟨"GiftMatch", "setPurse", "(I)I"⟩, 12), (⟨"GiftMatch", "setParted", "(I)I"⟩, 12), (⟨"GiftMatch$Reader", "readCharacter", "(LGiftMatch$Rule;I)V"⟩, 5), (⟨"GiftMatch$Reader", "readDigit", "(LGiftMatch$Rule;II)V"⟩, 5), (⟨"GiftMatch$Reader", "readUnit", "(LGiftMatch$Rule;I)Z"⟩, 5), (⟨"GiftMatch$Reader", "hold", "(I)V"⟩, 5), (⟨"GiftMatch$Reader", "readBehindUnit", "(LGiftMatch$Rule;I)Z"⟩, 5), (⟨"GiftMatch$Reader", "closeBracket", "(LGiftMatch$Rule;)Z"⟩, 5), (⟨"GiftMatch$Reader", "release", "(LGiftMatch$Rule;I)V"⟩, 5), (⟨"GiftMatch$Reader", "lastRank", "()I"⟩, 5), (⟨"GiftMatch$Sight", "push", "(J)V"⟩, 7)]
theorem lw_r1 : ∀ q ∈ lw_privs_1, lw_okq q := List.forall_mem_cons.mpr ⟨lw_p0, List.forall_mem_cons.mpr ⟨lw_p1, List.forall_mem_cons.mpr ⟨lw_p2, List.forall_mem_cons.mpr ⟨lw_p3, List.forall_mem_cons.mpr ⟨lw_p4, List.forall_mem_cons.mpr ⟨lw_p5, List.forall_mem_cons.mpr ⟨lw_p6, List.forall_mem_cons.mpr ⟨lw_p7, List.forall_mem_cons.mpr ⟨lw_p8, List.forall_mem_cons.mpr ⟨lw_p9, List.forall_mem_cons.mpr ⟨lw_p10, List.forall_mem_cons.mpr ⟨lw_p11, List.forall_mem_cons.mpr ⟨lw_p12, List.forall_mem_cons.mpr ⟨lw_p13, List.forall_mem_cons.mpr ⟨lw_p14, List.forall_mem_cons.mpr ⟨lw_p15, fun _ h => absurd h List.not_mem_nil⟩⟩⟩⟩⟩⟩⟩⟩⟩⟩⟩⟩⟩⟩⟩⟩
theorem lw_p16 : lw_okq (⟨"GiftMatch$Sight", "doStep", "(I)V"⟩, 7) := ⟨⟨by decide +kernel, by decide +kernel⟩, List.mem_of_getElem? (i := 160) (by decide +kernel), List.mem_of_getElem? (i := 501) (by decide +kernel), List.mem_of_getElem? (i := 502) (by decide +kernel)⟩
theorem lw_p17 : lw_okq (⟨"GiftMatch$Sight", "pop", "()J"⟩, 7) := ⟨⟨by decide +kernel, by decide +kernel⟩, List.mem_of_getElem? (i := 160) (by decide +kernel), List.mem_of_getElem? (i := 506) (by decide +kernel), List.mem_of_getElem? (i := 507) (by decide +kernel)⟩
theorem lw_p18 : lw_okq (⟨"GiftMatch$Ledger", "partByShare", "(II)V"⟩, 5) := ⟨⟨by decide +kernel, by decide +kernel⟩, List.mem_of_getElem? (i := 189) (by decide +kernel), List.mem_of_getElem? (i := 524) (by decide +kernel), List.mem_of_getElem? (i := 525) (by decide +kernel)⟩
theorem lw_p19 : lw_okq (⟨"GiftMatch$Ledger", "partByNumber", "(I)V"⟩, 5) := ⟨⟨by decide +kernel, by decide +kernel⟩, List.mem_of_getElem? (i := 189) (by decide +kernel), List.mem_of_getElem? (i := 528) (by decide +kernel), List.mem_of_getElem? (i := 529) (by decide +kernel)⟩
theorem lw_p20 : lw_okq (⟨"GiftMatch$Ledger", "partByBound", "(I)V"⟩, 5) := ⟨⟨by decide +kernel, by decide +kernel⟩, List.mem_of_getElem? (i := 189) (by decide +kernel), List.mem_of_getElem? (i := 533) (by decide +kernel), List.mem_of_getElem? (i := 534) (by decide +kernel)⟩
theorem lw_p21 : lw_okq (⟨"GiftMatch$Chooser", "foresee", "(LGiftMatch$Scene;I)V"⟩, 6) := ⟨⟨by decide +kernel, by decide +kernel⟩, List.mem_of_getElem? (i := 220) (by decide +kernel), List.mem_of_getElem? (i := 576) (by decide +kernel), List.mem_of_getElem? (i := 577) (by decide +kernel)⟩
theorem lw_p22 : lw_okq (⟨"GiftMatch$Chooser", "weigh", "(LGiftMatch$Scene;IIII)V"⟩, 6) := ⟨⟨by decide +kernel, by decide +kernel⟩, List.mem_of_getElem? (i := 220) (by decide +kernel), List.mem_of_getElem? (i := 583) (by decide +kernel), List.mem_of_getElem? (i := 584) (by decide +kernel)⟩
theorem lw_p23 : lw_okq (⟨"GiftMatch$Chooser", "enter", "(II)V"⟩, 6) := ⟨⟨by decide +kernel, by decide +kernel⟩, List.mem_of_getElem? (i := 220) (by decide +kernel), List.mem_of_getElem? (i := 587) (by decide +kernel), List.mem_of_getElem? (i := 588) (by decide +kernel)⟩
theorem lw_p24 : lw_okq (⟨"GiftMatch$Rounds", "wasBefore", "(I)Z"⟩, 2) := ⟨⟨by decide +kernel, by decide +kernel⟩, List.mem_of_getElem? (i := 251) (by decide +kernel), List.mem_of_getElem? (i := 612) (by decide +kernel), List.mem_of_getElem? (i := 613) (by decide +kernel)⟩
theorem lw_p25 : lw_okq (⟨"GiftMatch$Common", "fillWorths", "(LGiftMatch$Scene;I)V"⟩, 4) := ⟨⟨by decide +kernel, by decide +kernel⟩, List.mem_of_getElem? (i := 264) (by decide +kernel), List.mem_of_getElem? (i := 629) (by decide +kernel), List.mem_of_getElem? (i := 630) (by decide +kernel)⟩
theorem lw_p26 : lw_okq (⟨"GiftMatch$Common", "firstBest", "(II)I"⟩, 4) := ⟨⟨by decide +kernel, by decide +kernel⟩, List.mem_of_getElem? (i := 264) (by decide +kernel), List.mem_of_getElem? (i := 635) (by decide +kernel), List.mem_of_getElem? (i := 636) (by decide +kernel)⟩
theorem lw_p27 : lw_okq (⟨"GiftMatch$Common", "haveBy", "(III)I"⟩, 4) := ⟨⟨by decide +kernel, by decide +kernel⟩, List.mem_of_getElem? (i := 264) (by decide +kernel), List.mem_of_getElem? (i := 639) (by decide +kernel), List.mem_of_getElem? (i := 640) (by decide +kernel)⟩
theorem lw_p28 : lw_okq (⟨"GiftMatch$Partings", "weigh", "(LGiftMatch$Scene;IIIII)V"⟩, 3) := ⟨⟨by decide +kernel, by decide +kernel⟩, List.mem_of_getElem? (i := 285) (by decide +kernel), List.mem_of_getElem? (i := 658) (by decide +kernel), List.mem_of_getElem? (i := 659) (by decide +kernel)⟩
theorem lw_p29 : lw_okq (⟨"GiftMatch$Laws", "addedTo", "(LGiftMatch$Rule;III)I"⟩, 1) := ⟨⟨by decide +kernel, by decide +kernel⟩, List.mem_of_getElem? (i := 301) (by decide +kernel), List.mem_of_getElem? (i := 700) (by decide +kernel), List.mem_of_getElem? (i := 701) (by decide +kernel)⟩
theorem lw_p30 : lw_okq (⟨"GiftMatch$Laws", "noneMoreByHands", "(LGiftMatch$Rule;III)Z"⟩, 1) := ⟨⟨by decide +kernel, by decide +kernel⟩, List.mem_of_getElem? (i := 301) (by decide +kernel), List.mem_of_getElem? (i := 707) (by decide +kernel), List.mem_of_getElem? (i := 708) (by decide +kernel)⟩
theorem lw_p31 : lw_okq (⟨"GiftMatch", "digestGivers", "(J)J"⟩, 12) := ⟨⟨by decide +kernel, by decide +kernel⟩, List.mem_of_getElem? (i := 16) (by decide +kernel), List.mem_of_getElem? (i := 741) (by decide +kernel), List.mem_of_getElem? (i := 742) (by decide +kernel)⟩
def lw_privs_2 : List (MethodName × Nat) := [(⟨"GiftMatch$Sight", "doStep", "(I)V"⟩, 7), (⟨"GiftMatch$Sight", "pop", "()J"⟩, 7), (⟨"GiftMatch$Ledger", "partByShare", "(II)V"⟩, 5), (⟨"GiftMatch$Ledger", "partByNumber", "(I)V"⟩, 5), (⟨"GiftMatch$Ledger", "partByBound", "(I)V"⟩, 5), (⟨"GiftMatch$Chooser", "foresee", "(LGiftMatch$Scene;I)V"⟩, 6), (⟨"GiftMatch$Chooser", "weigh", "(LGiftMatch$Scene;IIII)V"⟩, 6), (⟨"GiftMatch$Chooser", "enter", "(II)V"⟩, 6), (⟨"GiftMatch$Rounds", "wasBefore", "(I)Z"⟩, 2), (⟨"GiftMatch$Common", "fillWorths", "(LGiftMatch$Scene;I)V"⟩, 4), (⟨"GiftMatch$Common", "firstBest", "(II)I"⟩, 4), (⟨"GiftMatch$Common", "haveBy", "(III)I"⟩, 4), (⟨"GiftMatch$Partings", "weigh", "(LGiftMatch$Scene;IIIII)V"⟩, 3), (⟨"GiftMatch$Laws", "addedTo", "(LGiftMatch$Rule;III)I"⟩, 1), (⟨"GiftMatch$Laws", "noneMoreByHands", "(LGiftMatch$Rule;III)Z"⟩, 1), (⟨"GiftMatch", "digestGivers", "(J)J"⟩, 12)]
theorem lw_r2 : ∀ q ∈ lw_privs_2, lw_okq q := List.forall_mem_cons.mpr ⟨lw_p16, List.forall_mem_cons.mpr ⟨lw_p17, List.forall_mem_cons.mpr ⟨lw_p18, List.forall_mem_cons.mpr ⟨lw_p19, List.forall_mem_cons.mpr ⟨lw_p20, List.forall_mem_cons.mpr ⟨lw_p21, List.forall_mem_cons.mpr ⟨lw_p22, List.forall_mem_cons.mpr ⟨lw_p23, List.forall_mem_cons.mpr ⟨lw_p24, List.forall_mem_cons.mpr ⟨lw_p25, List.forall_mem_cons.mpr ⟨lw_p26, List.forall_mem_cons.mpr ⟨lw_p27, List.forall_mem_cons.mpr ⟨lw_p28, List.forall_mem_cons.mpr ⟨lw_p29, List.forall_mem_cons.mpr ⟨lw_p30, List.forall_mem_cons.mpr ⟨lw_p31, fun _ h => absurd h List.not_mem_nil⟩⟩⟩⟩⟩⟩⟩⟩⟩⟩⟩⟩⟩⟩⟩⟩
theorem lw_p32 : lw_okq (⟨"GiftMatch", "digestWorks", "(J)J"⟩, 12) := ⟨⟨by decide +kernel, by decide +kernel⟩, List.mem_of_getElem? (i := 16) (by decide +kernel), List.mem_of_getElem? (i := 745) (by decide +kernel), List.mem_of_getElem? (i := 746) (by decide +kernel)⟩
theorem lw_p33 : lw_okq (⟨"GiftMatch", "digestRules", "(J)J"⟩, 12) := ⟨⟨by decide +kernel, by decide +kernel⟩, List.mem_of_getElem? (i := 16) (by decide +kernel), List.mem_of_getElem? (i := 749) (by decide +kernel), List.mem_of_getElem? (i := 750) (by decide +kernel)⟩
theorem lw_p34 : lw_okq (⟨"GiftMatchModel", "givers", "()I"⟩, 29) := ⟨⟨by decide +kernel, by decide +kernel⟩, List.mem_of_getElem? (i := 753) (by decide +kernel), List.mem_of_getElem? (i := 855) (by decide +kernel), List.mem_of_getElem? (i := 856) (by decide +kernel)⟩
theorem lw_p35 : lw_okq (⟨"GiftMatchModel", "works", "()I"⟩, 29) := ⟨⟨by decide +kernel, by decide +kernel⟩, List.mem_of_getElem? (i := 753) (by decide +kernel), List.mem_of_getElem? (i := 864) (by decide +kernel), List.mem_of_getElem? (i := 865) (by decide +kernel)⟩
theorem lw_p36 : lw_okq (⟨"GiftMatchModel", "isGiver", "(I)Z"⟩, 29) := ⟨⟨by decide +kernel, by decide +kernel⟩, List.mem_of_getElem? (i := 753) (by decide +kernel), List.mem_of_getElem? (i := 872) (by decide +kernel), List.mem_of_getElem? (i := 873) (by decide +kernel)⟩
theorem lw_p37 : lw_okq (⟨"GiftMatchModel", "isWork", "(I)Z"⟩, 29) := ⟨⟨by decide +kernel, by decide +kernel⟩, List.mem_of_getElem? (i := 753) (by decide +kernel), List.mem_of_getElem? (i := 876) (by decide +kernel), List.mem_of_getElem? (i := 877) (by decide +kernel)⟩
theorem lw_p38 : lw_okq (⟨"GiftMatchModel", "reads", "()Z"⟩, 29) := ⟨⟨by decide +kernel, by decide +kernel⟩, List.mem_of_getElem? (i := 753) (by decide +kernel), List.mem_of_getElem? (i := 905) (by decide +kernel), List.mem_of_getElem? (i := 906) (by decide +kernel)⟩
theorem lw_p39 : lw_okq (⟨"GiftMatchModel", "ahead", "()I"⟩, 29) := ⟨⟨by decide +kernel, by decide +kernel⟩, List.mem_of_getElem? (i := 753) (by decide +kernel), List.mem_of_getElem? (i := 909) (by decide +kernel), List.mem_of_getElem? (i := 910) (by decide +kernel)⟩
theorem lw_p40 : lw_okq (⟨"GiftMatchModel", "textLong", "()I"⟩, 29) := ⟨⟨by decide +kernel, by decide +kernel⟩, List.mem_of_getElem? (i := 753) (by decide +kernel), List.mem_of_getElem? (i := 913) (by decide +kernel), List.mem_of_getElem? (i := 914) (by decide +kernel)⟩
theorem lw_p41 : lw_okq (⟨"GiftMatchModel", "charAt", "(I)I"⟩, 29) := ⟨⟨by decide +kernel, by decide +kernel⟩, List.mem_of_getElem? (i := 753) (by decide +kernel), List.mem_of_getElem? (i := 917) (by decide +kernel), List.mem_of_getElem? (i := 918) (by decide +kernel)⟩
theorem lw_p42 : lw_okq (⟨"GiftMatchModel", "digits", "()J"⟩, 29) := ⟨⟨by decide +kernel, by decide +kernel⟩, List.mem_of_getElem? (i := 753) (by decide +kernel), List.mem_of_getElem? (i := 923) (by decide +kernel), List.mem_of_getElem? (i := 924) (by decide +kernel)⟩
theorem lw_p43 : lw_okq (⟨"GiftMatchModel", "stands", "(J)V"⟩, 29) := ⟨⟨by decide +kernel, by decide +kernel⟩, List.mem_of_getElem? (i := 753) (by decide +kernel), List.mem_of_getElem? (i := 928) (by decide +kernel), List.mem_of_getElem? (i := 929) (by decide +kernel)⟩
theorem lw_p44 : lw_okq (⟨"GiftMatchModel", "workDown", "(I)V"⟩, 29) := ⟨⟨by decide +kernel, by decide +kernel⟩, List.mem_of_getElem? (i := 753) (by decide +kernel), List.mem_of_getElem? (i := 935) (by decide +kernel), List.mem_of_getElem? (i := 936) (by decide +kernel)⟩
theorem lw_p45 : lw_okq (⟨"GiftMatchModel", "workOut", "()V"⟩, 29) := ⟨⟨by decide +kernel, by decide +kernel⟩, List.mem_of_getElem? (i := 753) (by decide +kernel), List.mem_of_getElem? (i := 942) (by decide +kernel), List.mem_of_getElem? (i := 943) (by decide +kernel)⟩
theorem lw_p46 : lw_okq (⟨"GiftMatchModel", "gift", "(II)I"⟩, 29) := ⟨⟨by decide +kernel, by decide +kernel⟩, List.mem_of_getElem? (i := 753) (by decide +kernel), List.mem_of_getElem? (i := 950) (by decide +kernel), List.mem_of_getElem? (i := 951) (by decide +kernel)⟩
theorem lw_p47 : lw_okq (⟨"GiftMatchModel", "addUp", "()V"⟩, 29) := ⟨⟨by decide +kernel, by decide +kernel⟩, List.mem_of_getElem? (i := 753) (by decide +kernel), List.mem_of_getElem? (i := 958) (by decide +kernel), List.mem_of_getElem? (i := 959) (by decide +kernel)⟩
def lw_privs_3 : List (MethodName × Nat) := [(⟨"GiftMatch", "digestWorks", "(J)J"⟩, 12), (⟨"GiftMatch", "digestRules", "(J)J"⟩, 12), (⟨"GiftMatchModel", "givers", "()I"⟩, 29), (⟨"GiftMatchModel", "works", "()I"⟩, 29), (⟨"GiftMatchModel", "isGiver", "(I)Z"⟩, 29), (⟨"GiftMatchModel", "isWork", "(I)Z"⟩, 29), (⟨"GiftMatchModel", "reads", "()Z"⟩, 29), (⟨"GiftMatchModel", "ahead", "()I"⟩, 29), (⟨"GiftMatchModel", "textLong", "()I"⟩, 29), (⟨"GiftMatchModel", "charAt", "(I)I"⟩, 29), (⟨"GiftMatchModel", "digits", "()J"⟩, 29), (⟨"GiftMatchModel", "stands", "(J)V"⟩, 29), (⟨"GiftMatchModel", "workDown", "(I)V"⟩, 29), (⟨"GiftMatchModel", "workOut", "()V"⟩, 29), (⟨"GiftMatchModel", "gift", "(II)I"⟩, 29), (⟨"GiftMatchModel", "addUp", "()V"⟩, 29)]
theorem lw_r3 : ∀ q ∈ lw_privs_3, lw_okq q := List.forall_mem_cons.mpr ⟨lw_p32, List.forall_mem_cons.mpr ⟨lw_p33, List.forall_mem_cons.mpr ⟨lw_p34, List.forall_mem_cons.mpr ⟨lw_p35, List.forall_mem_cons.mpr ⟨lw_p36, List.forall_mem_cons.mpr ⟨lw_p37, List.forall_mem_cons.mpr ⟨lw_p38, List.forall_mem_cons.mpr ⟨lw_p39, List.forall_mem_cons.mpr ⟨lw_p40, List.forall_mem_cons.mpr ⟨lw_p41, List.forall_mem_cons.mpr ⟨lw_p42, List.forall_mem_cons.mpr ⟨lw_p43, List.forall_mem_cons.mpr ⟨lw_p44, List.forall_mem_cons.mpr ⟨lw_p45, List.forall_mem_cons.mpr ⟨lw_p46, List.forall_mem_cons.mpr ⟨lw_p47, fun _ h => absurd h List.not_mem_nil⟩⟩⟩⟩⟩⟩⟩⟩⟩⟩⟩⟩⟩⟩⟩⟩
theorem lw_p48 : lw_okq (⟨"GiftMatchModel", "putHand", "(I)V"⟩, 29) := ⟨⟨by decide +kernel, by decide +kernel⟩, List.mem_of_getElem? (i := 753) (by decide +kernel), List.mem_of_getElem? (i := 962) (by decide +kernel), List.mem_of_getElem? (i := 963) (by decide +kernel)⟩
theorem lw_p49 : lw_okq (⟨"GiftMatchModel", "addedBy", "(I)I"⟩, 29) := ⟨⟨by decide +kernel, by decide +kernel⟩, List.mem_of_getElem? (i := 753) (by decide +kernel), List.mem_of_getElem? (i := 966) (by decide +kernel), List.mem_of_getElem? (i := 967) (by decide +kernel)⟩
theorem lw_p50 : lw_okq (⟨"GiftMatchModel", "rootOf", "(I)J"⟩, 29) := ⟨⟨by decide +kernel, by decide +kernel⟩, List.mem_of_getElem? (i := 753) (by decide +kernel), List.mem_of_getElem? (i := 970) (by decide +kernel), List.mem_of_getElem? (i := 971) (by decide +kernel)⟩
theorem lw_p51 : lw_okq (⟨"GiftMatchModel", "part", "(II)V"⟩, 29) := ⟨⟨by decide +kernel, by decide +kernel⟩, List.mem_of_getElem? (i := 753) (by decide +kernel), List.mem_of_getElem? (i := 977) (by decide +kernel), List.mem_of_getElem? (i := 978) (by decide +kernel)⟩
theorem lw_p52 : lw_okq (⟨"GiftMatchModel", "below", "(I)I"⟩, 29) := ⟨⟨by decide +kernel, by decide +kernel⟩, List.mem_of_getElem? (i := 753) (by decide +kernel), List.mem_of_getElem? (i := 981) (by decide +kernel), List.mem_of_getElem? (i := 982) (by decide +kernel)⟩
theorem lw_p53 : lw_okq (⟨"GiftMatchModel", "allNow", "()I"⟩, 29) := ⟨⟨by decide +kernel, by decide +kernel⟩, List.mem_of_getElem? (i := 753) (by decide +kernel), List.mem_of_getElem? (i := 993) (by decide +kernel), List.mem_of_getElem? (i := 994) (by decide +kernel)⟩
theorem lw_p54 : lw_okq (⟨"GiftMatchModel", "hasNow", "(I)I"⟩, 29) := ⟨⟨by decide +kernel, by decide +kernel⟩, List.mem_of_getElem? (i := 753) (by decide +kernel), List.mem_of_getElem? (i := 997) (by decide +kernel), List.mem_of_getElem? (i := 998) (by decide +kernel)⟩
theorem lw_p55 : lw_okq (⟨"GiftMatchModel", "worthOf", "(III)I"⟩, 29) := ⟨⟨by decide +kernel, by decide +kernel⟩, List.mem_of_getElem? (i := 753) (by decide +kernel), List.mem_of_getElem? (i := 1001) (by decide +kernel), List.mem_of_getElem? (i := 1002) (by decide +kernel)⟩
theorem lw_p56 : lw_okq (⟨"GiftMatchModel", "findBest", "(I)I"⟩, 29) := ⟨⟨by decide +kernel, by decide +kernel⟩, List.mem_of_getElem? (i := 753) (by decide +kernel), List.mem_of_getElem? (i := 1009) (by decide +kernel), List.mem_of_getElem? (i := 1010) (by decide +kernel)⟩
theorem lw_p57 : lw_okq (⟨"GiftMatchModel", "setRow", "(IIII)V"⟩, 29) := ⟨⟨by decide +kernel, by decide +kernel⟩, List.mem_of_getElem? (i := 753) (by decide +kernel), List.mem_of_getElem? (i := 1013) (by decide +kernel), List.mem_of_getElem? (i := 1014) (by decide +kernel)⟩
theorem lw_p58 : lw_okq (⟨"GiftMatchModel", "goByTurns", "()I"⟩, 29) := ⟨⟨by decide +kernel, by decide +kernel⟩, List.mem_of_getElem? (i := 753) (by decide +kernel), List.mem_of_getElem? (i := 1025) (by decide +kernel), List.mem_of_getElem? (i := 1026) (by decide +kernel)⟩
theorem lw_p59 : lw_okq (⟨"GiftMatchModel", "note", "(I)V"⟩, 29) := ⟨⟨by decide +kernel, by decide +kernel⟩, List.mem_of_getElem? (i := 753) (by decide +kernel), List.mem_of_getElem? (i := 1029) (by decide +kernel), List.mem_of_getElem? (i := 1030) (by decide +kernel)⟩
theorem lw_p60 : lw_okq (⟨"GiftMatchModel", "isAgain", "(I)Z"⟩, 29) := ⟨⟨by decide +kernel, by decide +kernel⟩, List.mem_of_getElem? (i := 753) (by decide +kernel), List.mem_of_getElem? (i := 1033) (by decide +kernel), List.mem_of_getElem? (i := 1034) (by decide +kernel)⟩
theorem lw_p61 : lw_okq (⟨"GiftMatchModel", "findGood", "()I"⟩, 29) := ⟨⟨by decide +kernel, by decide +kernel⟩, List.mem_of_getElem? (i := 753) (by decide +kernel), List.mem_of_getElem? (i := 1041) (by decide +kernel), List.mem_of_getElem? (i := 1042) (by decide +kernel)⟩
theorem lw_p62 : lw_okq (⟨"GiftMatchModel", "allCoin", "()I"⟩, 29) := ⟨⟨by decide +kernel, by decide +kernel⟩, List.mem_of_getElem? (i := 753) (by decide +kernel), List.mem_of_getElem? (i := 1045) (by decide +kernel), List.mem_of_getElem? (i := 1046) (by decide +kernel)⟩
theorem lw_p63 : lw_okq (⟨"GiftMatchModel", "findHands", "(II)V"⟩, 29) := ⟨⟨by decide +kernel, by decide +kernel⟩, List.mem_of_getElem? (i := 753) (by decide +kernel), List.mem_of_getElem? (i := 1057) (by decide +kernel), List.mem_of_getElem? (i := 1058) (by decide +kernel)⟩
def lw_privs_4 : List (MethodName × Nat) := [(⟨"GiftMatchModel", "putHand", "(I)V"⟩, 29), (⟨"GiftMatchModel", "addedBy", "(I)I"⟩, 29), (⟨"GiftMatchModel", "rootOf", "(I)J"⟩, 29), (⟨"GiftMatchModel", "part", "(II)V"⟩, 29), (⟨"GiftMatchModel", "below", "(I)I"⟩, 29), (⟨"GiftMatchModel", "allNow", "()I"⟩, 29), (⟨"GiftMatchModel", "hasNow", "(I)I"⟩, 29), (⟨"GiftMatchModel", "worthOf", "(III)I"⟩, 29), (⟨"GiftMatchModel", "findBest", "(I)I"⟩, 29), (⟨"GiftMatchModel", "setRow", "(IIII)V"⟩, 29), (⟨"GiftMatchModel", "goByTurns", "()I"⟩, 29), (⟨"GiftMatchModel", "note", "(I)V"⟩, 29), (⟨"GiftMatchModel", "isAgain", "(I)Z"⟩, 29), (⟨"GiftMatchModel", "findGood", "()I"⟩, 29), (⟨"GiftMatchModel", "allCoin", "()I"⟩, 29), (⟨"GiftMatchModel", "findHands", "(II)V"⟩, 29)]
theorem lw_r4 : ∀ q ∈ lw_privs_4, lw_okq q := List.forall_mem_cons.mpr ⟨lw_p48, List.forall_mem_cons.mpr ⟨lw_p49, List.forall_mem_cons.mpr ⟨lw_p50, List.forall_mem_cons.mpr ⟨lw_p51, List.forall_mem_cons.mpr ⟨lw_p52, List.forall_mem_cons.mpr ⟨lw_p53, List.forall_mem_cons.mpr ⟨lw_p54, List.forall_mem_cons.mpr ⟨lw_p55, List.forall_mem_cons.mpr ⟨lw_p56, List.forall_mem_cons.mpr ⟨lw_p57, List.forall_mem_cons.mpr ⟨lw_p58, List.forall_mem_cons.mpr ⟨lw_p59, List.forall_mem_cons.mpr ⟨lw_p60, List.forall_mem_cons.mpr ⟨lw_p61, List.forall_mem_cons.mpr ⟨lw_p62, List.forall_mem_cons.mpr ⟨lw_p63, fun _ h => absurd h List.not_mem_nil⟩⟩⟩⟩⟩⟩⟩⟩⟩⟩⟩⟩⟩⟩⟩⟩
theorem lw_p64 : lw_okq (⟨"GiftMatchModel", "coinsGiven", "()I"⟩, 29) := ⟨⟨by decide +kernel, by decide +kernel⟩, List.mem_of_getElem? (i := 753) (by decide +kernel), List.mem_of_getElem? (i := 1069) (by decide +kernel), List.mem_of_getElem? (i := 1070) (by decide +kernel)⟩
theorem lw_p65 : lw_okq (⟨"GiftMatchModel", "holds", "(IIIII)Z"⟩, 29) := ⟨⟨by decide +kernel, by decide +kernel⟩, List.mem_of_getElem? (i := 753) (by decide +kernel), List.mem_of_getElem? (i := 1077) (by decide +kernel), List.mem_of_getElem? (i := 1078) (by decide +kernel)⟩
theorem lw_p66 : lw_okq (⟨"GiftMatchModel", "addedTo", "(IIII)I"⟩, 29) := ⟨⟨by decide +kernel, by decide +kernel⟩, List.mem_of_getElem? (i := 753) (by decide +kernel), List.mem_of_getElem? (i := 1081) (by decide +kernel), List.mem_of_getElem? (i := 1082) (by decide +kernel)⟩
def lw_privs_5 : List (MethodName × Nat) := [(⟨"GiftMatchModel", "coinsGiven", "()I"⟩, 29), (⟨"GiftMatchModel", "holds", "(IIIII)Z"⟩, 29), (⟨"GiftMatchModel", "addedTo", "(IIII)I"⟩, 29)]
theorem lw_r5 : ∀ q ∈ lw_privs_5, lw_okq q := List.forall_mem_cons.mpr ⟨lw_p64, List.forall_mem_cons.mpr ⟨lw_p65, List.forall_mem_cons.mpr ⟨lw_p66, fun _ h => absurd h List.not_mem_nil⟩⟩⟩
def lw_privs : List (MethodName × Nat) := lw_privs_1 ++ (lw_privs_2 ++ (lw_privs_3 ++ (lw_privs_4 ++ (lw_privs_5))))
def lw_tbl : List Cond := k2_sels lw_privs ++ tables_1
theorem lw_privs_ok : ∀ q ∈ lw_privs, lw_okq q := by
  show ∀ q ∈ lw_privs_1 ++ (lw_privs_2 ++ (lw_privs_3 ++ (lw_privs_4 ++ (lw_privs_5)))), lw_okq q
  exact List.forall_mem_append.mpr ⟨lw_r1, List.forall_mem_append.mpr ⟨lw_r2, List.forall_mem_append.mpr ⟨lw_r3, List.forall_mem_append.mpr ⟨lw_r4, lw_r5⟩⟩⟩⟩

def RX0 : String := "GiftMatch$Chooser"
def TX0 : u_T := fun k => match k with
  | 0 => ("GiftMatch$Chooser", "ledger", "LGiftMatch$Ledger;", true)
  | 1 => ("GiftMatch$Chooser", "wouldBy", "[I", true)
  | 2 => ("GiftMatch$Chooser", "others", "[I", true)
  | 3 => ("GiftMatch$Chooser", "row", "[I", true)
  | 4 => ("GiftMatch$Chooser", "most", "I", false)
  | _ => ("GiftMatch$Chooser", "before", "I", false)
def tyX0 : Nat → FieldType := fun k => match k with
  | 0 => .object "GiftMatch$Ledger"
  | 1 => .array .int
  | 2 => .array .int
  | 3 => .array .int
  | 4 => .int
  | _ => .int
abbrev wsX00 : List Cond := u_ws RX0 TX0 6
theorem nmX0 : ∀ a, a < 6 → ∀ b, b < 6 → a ≠ b → (TX0 a).2.1 ≠ (TX0 b).2.1 := by decide +kernel
theorem tyX0_ok : ∀ k, k < 6 → parseFieldDescriptor (TX0 k).2.2.1 = some (tyX0 k) := by decide +kernel
abbrev cX0_init : ByteArray := prog_2_method_1_code
def yX0_init : MethodName := ⟨RX0, "<init>", "(LGiftMatch$Ledger;)V"⟩
abbrev cX0_choose : ByteArray := prog_2_method_2_code
def yX0_choose : MethodName := ⟨RX0, "choose", "(LGiftMatch$Scene;I)V"⟩
abbrev cX0_foresee : ByteArray := prog_2_method_3_code
def yX0_foresee : MethodName := ⟨RX0, "foresee", "(LGiftMatch$Scene;I)V"⟩
abbrev cX0_weigh : ByteArray := prog_2_method_4_code
def yX0_weigh : MethodName := ⟨RX0, "weigh", "(LGiftMatch$Scene;IIII)V"⟩
abbrev cX0_enter : ByteArray := prog_2_method_5_code
def yX0_enter : MethodName := ⟨RX0, "enter", "(II)V"⟩
def RX1 : String := "GiftMatch$Common"
def TX1 : u_T := fun k => match k with
  | 0 => ("GiftMatch$Common", "worths", "[I", true)
  | 1 => ("GiftMatch$Common", "mostFrom", "[I", true)
  | 2 => ("GiftMatch$Common", "row", "[I", true)
  | _ => ("GiftMatch$Common", "most", "I", false)
def tyX1 : Nat → FieldType := fun k => match k with
  | 0 => .array .int
  | 1 => .array .int
  | 2 => .array .int
  | _ => .int
abbrev wsX10 : List Cond := u_ws RX1 TX1 4
theorem nmX1 : ∀ a, a < 4 → ∀ b, b < 4 → a ≠ b → (TX1 a).2.1 ≠ (TX1 b).2.1 := by decide +kernel
theorem tyX1_ok : ∀ k, k < 4 → parseFieldDescriptor (TX1 k).2.2.1 = some (tyX1 k) := by decide +kernel
abbrev cX1_init : ByteArray := prog_3_method_1_code
def yX1_init : MethodName := ⟨RX1, "<init>", "()V"⟩
abbrev cX1_find : ByteArray := prog_3_method_2_code
def yX1_find : MethodName := ⟨RX1, "find", "(LGiftMatch$Scene;)V"⟩
abbrev cX1_fillWorths : ByteArray := prog_3_method_3_code
def yX1_fillWorths : MethodName := ⟨RX1, "fillWorths", "(LGiftMatch$Scene;I)V"⟩
abbrev cX1_firstBest : ByteArray := prog_3_method_4_code
def yX1_firstBest : MethodName := ⟨RX1, "firstBest", "(II)I"⟩
abbrev cX1_haveBy : ByteArray := prog_3_method_5_code
def yX1_haveBy : MethodName := ⟨RX1, "haveBy", "(III)I"⟩
def RX2 : String := "GiftMatch$Laws"
def TX2 : u_T := fun k => match k with
  | _ => ("GiftMatch$Laws", "sight", "LGiftMatch$Sight;", true)
def tyX2 : Nat → FieldType := fun k => match k with
  | _ => .object "GiftMatch$Sight"
abbrev wsX20 : List Cond := u_ws RX2 TX2 1
theorem nmX2 : ∀ a, a < 1 → ∀ b, b < 1 → a ≠ b → (TX2 a).2.1 ≠ (TX2 b).2.1 := by decide +kernel
theorem tyX2_ok : ∀ k, k < 1 → parseFieldDescriptor (TX2 k).2.2.1 = some (tyX2 k) := by decide +kernel
abbrev cX2_init : ByteArray := prog_4_method_1_code
def yX2_init : MethodName := ⟨RX2, "<init>", "(LGiftMatch$Sight;)V"⟩
abbrev cX2_hold : ByteArray := prog_4_method_2_code
def yX2_hold : MethodName := ⟨RX2, "hold", "(LGiftMatch$Rule;IIII)Z"⟩
abbrev cX2_noneMoreByHands : ByteArray := prog_4_method_3_code
def yX2_noneMoreByHands : MethodName := ⟨RX2, "noneMoreByHands", "(LGiftMatch$Rule;III)Z"⟩
abbrev cX2_addedTo : ByteArray := prog_4_method_4_code
def yX2_addedTo : MethodName := ⟨RX2, "addedTo", "(LGiftMatch$Rule;III)I"⟩
def RX3 : String := "GiftMatch$Ledger"
def TX3 : u_T := fun k => match k with
  | 0 => ("GiftMatch$Ledger", "sight", "LGiftMatch$Sight;", true)
  | 1 => ("GiftMatch$Ledger", "gifts", "[I", true)
  | 2 => ("GiftMatch$Ledger", "would", "[I", true)
  | 3 => ("GiftMatch$Ledger", "added", "[I", true)
  | _ => ("GiftMatch$Ledger", "lacks", "Z", false)
def tyX3 : Nat → FieldType := fun k => match k with
  | 0 => .object "GiftMatch$Sight"
  | 1 => .array .int
  | 2 => .array .int
  | 3 => .array .int
  | _ => .boolean
abbrev wsX30 : List Cond := u_ws RX3 TX3 5
theorem nmX3 : ∀ a, a < 5 → ∀ b, b < 5 → a ≠ b → (TX3 a).2.1 ≠ (TX3 b).2.1 := by decide +kernel
theorem tyX3_ok : ∀ k, k < 5 → parseFieldDescriptor (TX3 k).2.2.1 = some (tyX3 k) := by decide +kernel
abbrev cX3_init : ByteArray := prog_5_method_1_code
def yX3_init : MethodName := ⟨RX3, "<init>", "(LGiftMatch$Sight;)V"⟩
abbrev cX3_fill : ByteArray := prog_5_method_2_code
def yX3_fill : MethodName := ⟨RX3, "fill", "(LGiftMatch$Scene;)V"⟩
abbrev cX3_partPurse : ByteArray := prog_5_method_3_code
def yX3_partPurse : MethodName := ⟨RX3, "partPurse", "(LGiftMatch$Scene;)V"⟩
abbrev cX3_partByShare : ByteArray := prog_5_method_4_code
def yX3_partByShare : MethodName := ⟨RX3, "partByShare", "(II)V"⟩
abbrev cX3_partByNumber : ByteArray := prog_5_method_5_code
def yX3_partByNumber : MethodName := ⟨RX3, "partByNumber", "(I)V"⟩
abbrev cX3_partByBound : ByteArray := prog_5_method_6_code
def yX3_partByBound : MethodName := ⟨RX3, "partByBound", "(I)V"⟩
abbrev cX3_haveOf : ByteArray := prog_5_method_7_code
def yX3_haveOf : MethodName := ⟨RX3, "haveOf", "(LGiftMatch$Scene;II)I"⟩
abbrev cX3_allHave : ByteArray := prog_5_method_8_code
def yX3_allHave : MethodName := ⟨RX3, "allHave", "(LGiftMatch$Scene;)I"⟩
def RX4 : String := "GiftMatch$Partings"
def TX4 : u_T := fun k => match k with
  | 0 => ("GiftMatch$Partings", "ledger", "LGiftMatch$Ledger;", true)
  | 1 => ("GiftMatch$Partings", "mostBy", "[I", true)
  | _ => ("GiftMatch$Partings", "plain", "I", false)
def tyX4 : Nat → FieldType := fun k => match k with
  | 0 => .object "GiftMatch$Ledger"
  | 1 => .array .int
  | _ => .int
abbrev wsX40 : List Cond := u_ws RX4 TX4 3
theorem nmX4 : ∀ a, a < 3 → ∀ b, b < 3 → a ≠ b → (TX4 a).2.1 ≠ (TX4 b).2.1 := by decide +kernel
theorem tyX4_ok : ∀ k, k < 3 → parseFieldDescriptor (TX4 k).2.2.1 = some (tyX4 k) := by decide +kernel
abbrev cX4_init : ByteArray := prog_6_method_1_code
def yX4_init : MethodName := ⟨RX4, "<init>", "(LGiftMatch$Ledger;)V"⟩
abbrev cX4_weighAll : ByteArray := prog_6_method_2_code
def yX4_weighAll : MethodName := ⟨RX4, "weighAll", "(LGiftMatch$Scene;II)V"⟩
abbrev cX4_weigh : ByteArray := prog_6_method_3_code
def yX4_weigh : MethodName := ⟨RX4, "weigh", "(LGiftMatch$Scene;IIIII)V"⟩
abbrev cX4_most : ByteArray := prog_6_method_4_code
def yX4_most : MethodName := ⟨RX4, "most", "()I"⟩
abbrev cX4_leastCost : ByteArray := prog_6_method_5_code
def yX4_leastCost : MethodName := ⟨RX4, "leastCost", "()I"⟩
def RX5 : String := "GiftMatch$Reader"
def TX5 : u_T := fun k => match k with
  | 0 => ("GiftMatch$Reader", "waiting", "[I", true)
  | 1 => ("GiftMatch$Reader", "waitCount", "I", false)
  | 2 => ("GiftMatch$Reader", "brackets", "I", false)
  | 3 => ("GiftMatch$Reader", "digits", "I", false)
  | _ => ("GiftMatch$Reader", "wantsUnit", "Z", false)
def tyX5 : Nat → FieldType := fun k => match k with
  | 0 => .array .int
  | 1 => .int
  | 2 => .int
  | 3 => .int
  | _ => .boolean
abbrev wsX50 : List Cond := u_ws RX5 TX5 5
theorem nmX5 : ∀ a, a < 5 → ∀ b, b < 5 → a ≠ b → (TX5 a).2.1 ≠ (TX5 b).2.1 := by decide +kernel
theorem tyX5_ok : ∀ k, k < 5 → parseFieldDescriptor (TX5 k).2.2.1 = some (tyX5 k) := by decide +kernel
abbrev cX5_init : ByteArray := prog_7_method_1_code
def yX5_init : MethodName := ⟨RX5, "<init>", "()V"⟩
abbrev cX5_read : ByteArray := prog_7_method_2_code
def yX5_read : MethodName := ⟨RX5, "read", "(LGiftMatch$Rule;)V"⟩
abbrev cX5_readCharacter : ByteArray := prog_7_method_3_code
def yX5_readCharacter : MethodName := ⟨RX5, "readCharacter", "(LGiftMatch$Rule;I)V"⟩
abbrev cX5_readDigit : ByteArray := prog_7_method_4_code
def yX5_readDigit : MethodName := ⟨RX5, "readDigit", "(LGiftMatch$Rule;II)V"⟩
abbrev cX5_readUnit : ByteArray := prog_7_method_5_code
def yX5_readUnit : MethodName := ⟨RX5, "readUnit", "(LGiftMatch$Rule;I)Z"⟩
abbrev cX5_readBehindUnit : ByteArray := prog_7_method_6_code
def yX5_readBehindUnit : MethodName := ⟨RX5, "readBehindUnit", "(LGiftMatch$Rule;I)Z"⟩
abbrev cX5_closeBracket : ByteArray := prog_7_method_7_code
def yX5_closeBracket : MethodName := ⟨RX5, "closeBracket", "(LGiftMatch$Rule;)Z"⟩
abbrev cX5_hold : ByteArray := prog_7_method_8_code
def yX5_hold : MethodName := ⟨RX5, "hold", "(I)V"⟩
abbrev cX5_release : ByteArray := prog_7_method_9_code
def yX5_release : MethodName := ⟨RX5, "release", "(LGiftMatch$Rule;I)V"⟩
abbrev cX5_lastRank : ByteArray := prog_7_method_10_code
def yX5_lastRank : MethodName := ⟨RX5, "lastRank", "()I"⟩
abbrev cX5_rankOf : ByteArray := prog_7_method_11_code
def yX5_rankOf : MethodName := ⟨RX5, "rankOf", "(I)I"⟩
def RX6 : String := "GiftMatch$Rounds"
def TX6 : u_T := fun k => match k with
  | 0 => ("GiftMatch$Rounds", "chooser", "LGiftMatch$Chooser;", true)
  | _ => ("GiftMatch$Rounds", "behind", "[J", true)
def tyX6 : Nat → FieldType := fun k => match k with
  | 0 => .object "GiftMatch$Chooser"
  | _ => .array .long
abbrev wsX60 : List Cond := u_ws RX6 TX6 2
theorem nmX6 : ∀ a, a < 2 → ∀ b, b < 2 → a ≠ b → (TX6 a).2.1 ≠ (TX6 b).2.1 := by decide +kernel
theorem tyX6_ok : ∀ k, k < 2 → parseFieldDescriptor (TX6 k).2.2.1 = some (tyX6 k) := by decide +kernel
abbrev cX6_init : ByteArray := prog_8_method_1_code
def yX6_init : MethodName := ⟨RX6, "<init>", "(LGiftMatch$Chooser;)V"⟩
abbrev cX6_run : ByteArray := prog_8_method_2_code
def yX6_run : MethodName := ⟨RX6, "run", "(LGiftMatch$Scene;)I"⟩
abbrev cX6_wasBefore : ByteArray := prog_8_method_3_code
def yX6_wasBefore : MethodName := ⟨RX6, "wasBefore", "(I)Z"⟩
def RX7 : String := "GiftMatch$Rule"
def TX7 : u_T := fun k => match k with
  | 0 => ("GiftMatch$Rule", "text", "[I", true)
  | 1 => ("GiftMatch$Rule", "steps", "[I", true)
  | 2 => ("GiftMatch$Rule", "length", "I", false)
  | 3 => ("GiftMatch$Rule", "stepCount", "I", false)
  | _ => ("GiftMatch$Rule", "flaw", "I", false)
def tyX7 : Nat → FieldType := fun k => match k with
  | 0 => .array .int
  | 1 => .array .int
  | 2 => .int
  | 3 => .int
  | _ => .int
abbrev wsX70 : List Cond := u_ws RX7 TX7 5
theorem nmX7 : ∀ a, a < 5 → ∀ b, b < 5 → a ≠ b → (TX7 a).2.1 ≠ (TX7 b).2.1 := by decide +kernel
theorem tyX7_ok : ∀ k, k < 5 → parseFieldDescriptor (TX7 k).2.2.1 = some (tyX7 k) := by decide +kernel
abbrev cX7_init : ByteArray := prog_9_method_1_code
def yX7_init : MethodName := ⟨RX7, "<init>", "()V"⟩
abbrev cX7_take : ByteArray := prog_9_method_2_code
def yX7_take : MethodName := ⟨RX7, "take", "(LGiftMatch$Rule;)V"⟩
abbrev cX7_addStep : ByteArray := prog_9_method_3_code
def yX7_addStep : MethodName := ⟨RX7, "addStep", "(I)V"⟩
def RX8 : String := "GiftMatch$Scene"
def TX8 : u_T := fun k => match k with
  | 0 => ("GiftMatch$Scene", "coin", "[I", true)
  | 1 => ("GiftMatch$Scene", "bar", "[I", true)
  | 2 => ("GiftMatch$Scene", "first", "[I", true)
  | 3 => ("GiftMatch$Scene", "fall", "[I", true)
  | 4 => ("GiftMatch$Scene", "gift", "[I", true)
  | 5 => ("GiftMatch$Scene", "rules", "[LGiftMatch$Rule;", true)
  | 6 => ("GiftMatch$Scene", "givers", "I", false)
  | 7 => ("GiftMatch$Scene", "works", "I", false)
  | 8 => ("GiftMatch$Scene", "keep", "I", false)
  | 9 => ("GiftMatch$Scene", "theRule", "I", false)
  | 10 => ("GiftMatch$Scene", "purse", "I", false)
  | _ => ("GiftMatch$Scene", "parted", "I", false)
def tyX8 : Nat → FieldType := fun k => match k with
  | 0 => .array .int
  | 1 => .array .int
  | 2 => .array .int
  | 3 => .array .int
  | 4 => .array .int
  | 5 => .array (.object "GiftMatch$Rule")
  | 6 => .int
  | 7 => .int
  | 8 => .int
  | 9 => .int
  | 10 => .int
  | _ => .int
abbrev wsX80 : List Cond := u_ws RX8 TX8 12
theorem nmX8 : ∀ a, a < 12 → ∀ b, b < 12 → a ≠ b → (TX8 a).2.1 ≠ (TX8 b).2.1 := by decide +kernel
theorem tyX8_ok : ∀ k, k < 12 → parseFieldDescriptor (TX8 k).2.2.1 = some (tyX8 k) := by decide +kernel
abbrev cX8_init : ByteArray := prog_10_method_1_code
def yX8_init : MethodName := ⟨RX8, "<init>", "()V"⟩
abbrev cX8_take : ByteArray := prog_10_method_2_code
def yX8_take : MethodName := ⟨RX8, "take", "(LGiftMatch$Scene;)V"⟩
abbrev cX8_takePeople : ByteArray := prog_10_method_3_code
def yX8_takePeople : MethodName := ⟨RX8, "takePeople", "(LGiftMatch$Scene;)V"⟩
abbrev cX8_givenBy : ByteArray := prog_10_method_4_code
def yX8_givenBy : MethodName := ⟨RX8, "givenBy", "(I)I"⟩
abbrev cX8_keptBy : ByteArray := prog_10_method_5_code
def yX8_keptBy : MethodName := ⟨RX8, "keptBy", "(I)I"⟩
abbrev cX8_givenTo : ByteArray := prog_10_method_6_code
def yX8_givenTo : MethodName := ⟨RX8, "givenTo", "(I)I"⟩
abbrev cX8_givenInAll : ByteArray := prog_10_method_7_code
def yX8_givenInAll : MethodName := ⟨RX8, "givenInAll", "()I"⟩
abbrev cX8_coinInAll : ByteArray := prog_10_method_8_code
def yX8_coinInAll : MethodName := ⟨RX8, "coinInAll", "()I"⟩
abbrev cX8_packedGifts : ByteArray := prog_10_method_9_code
def yX8_packedGifts : MethodName := ⟨RX8, "packedGifts", "()J"⟩
abbrev cX8_worthOf : ByteArray := prog_10_method_10_code
def yX8_worthOf : MethodName := ⟨RX8, "worthOf", "(III)I"⟩
def RX9 : String := "GiftMatch$Sight"
def TX9 : u_T := fun k => match k with
  | 0 => ("GiftMatch$Sight", "stack", "[J", true)
  | 1 => ("GiftMatch$Sight", "height", "I", false)
  | 2 => ("GiftMatch$Sight", "sum", "I", false)
  | 3 => ("GiftMatch$Sight", "heads", "I", false)
  | 4 => ("GiftMatch$Sight", "greatest", "I", false)
  | 5 => ("GiftMatch$Sight", "least", "I", false)
  | _ => ("GiftMatch$Sight", "rootSum", "J", false)
def tyX9 : Nat → FieldType := fun k => match k with
  | 0 => .array .long
  | 1 => .int
  | 2 => .int
  | 3 => .int
  | 4 => .int
  | 5 => .int
  | _ => .long
abbrev wsX90 : List Cond := u_ws RX9 TX9 7
theorem nmX9 : ∀ a, a < 7 → ∀ b, b < 7 → a ≠ b → (TX9 a).2.1 ≠ (TX9 b).2.1 := by decide +kernel
theorem tyX9_ok : ∀ k, k < 7 → parseFieldDescriptor (TX9 k).2.2.1 = some (tyX9 k) := by decide +kernel
abbrev cX9_init : ByteArray := prog_11_method_1_code
def yX9_init : MethodName := ⟨RX9, "<init>", "()V"⟩
abbrev cX9_clear : ByteArray := prog_11_method_2_code
def yX9_clear : MethodName := ⟨RX9, "clear", "()V"⟩
abbrev cX9_see : ByteArray := prog_11_method_3_code
def yX9_see : MethodName := ⟨RX9, "see", "(I)V"⟩
abbrev cX9_seeAllBut : ByteArray := prog_11_method_4_code
def yX9_seeAllBut : MethodName := ⟨RX9, "seeAllBut", "(LGiftMatch$Scene;II)V"⟩
abbrev cX9_toldBy : ByteArray := prog_11_method_5_code
def yX9_toldBy : MethodName := ⟨RX9, "toldBy", "(LGiftMatch$Rule;)I"⟩
abbrev cX9_doStep : ByteArray := prog_11_method_6_code
def yX9_doStep : MethodName := ⟨RX9, "doStep", "(I)V"⟩
abbrev cX9_joined : ByteArray := prog_11_method_7_code
def yX9_joined : MethodName := ⟨RX9, "joined", "(IJJ)J"⟩
abbrev cX9_push : ByteArray := prog_11_method_8_code
def yX9_push : MethodName := ⟨RX9, "push", "(J)V"⟩
abbrev cX9_pop : ByteArray := prog_11_method_9_code
def yX9_pop : MethodName := ⟨RX9, "pop", "()J"⟩
def RX10 : String := "GiftMatch"
def TX10 : u_T := fun k => match k with
  | 0 => ("GiftMatch", "scene", "LGiftMatch$Scene;", true)
  | 1 => ("GiftMatch", "bare", "LGiftMatch$Scene;", true)
  | 2 => ("GiftMatch", "images", "[LGiftMatch$Scene;", true)
  | 3 => ("GiftMatch", "isKept", "[Z", true)
  | 4 => ("GiftMatch", "reader", "LGiftMatch$Reader;", true)
  | 5 => ("GiftMatch", "sight", "LGiftMatch$Sight;", true)
  | 6 => ("GiftMatch", "ledger", "LGiftMatch$Ledger;", true)
  | 7 => ("GiftMatch", "chooser", "LGiftMatch$Chooser;", true)
  | 8 => ("GiftMatch", "rounds", "LGiftMatch$Rounds;", true)
  | 9 => ("GiftMatch", "common", "LGiftMatch$Common;", true)
  | 10 => ("GiftMatch", "partings", "LGiftMatch$Partings;", true)
  | _ => ("GiftMatch", "laws", "LGiftMatch$Laws;", true)
def tyX10 : Nat → FieldType := fun k => match k with
  | 0 => .object "GiftMatch$Scene"
  | 1 => .object "GiftMatch$Scene"
  | 2 => .array (.object "GiftMatch$Scene")
  | 3 => .array .boolean
  | 4 => .object "GiftMatch$Reader"
  | 5 => .object "GiftMatch$Sight"
  | 6 => .object "GiftMatch$Ledger"
  | 7 => .object "GiftMatch$Chooser"
  | 8 => .object "GiftMatch$Rounds"
  | 9 => .object "GiftMatch$Common"
  | 10 => .object "GiftMatch$Partings"
  | _ => .object "GiftMatch$Laws"
abbrev wsX100 : List Cond := u_ws RX10 TX10 12
theorem nmX10 : ∀ a, a < 12 → ∀ b, b < 12 → a ≠ b → (TX10 a).2.1 ≠ (TX10 b).2.1 := by decide +kernel
theorem tyX10_ok : ∀ k, k < 12 → parseFieldDescriptor (TX10 k).2.2.1 = some (tyX10 k) := by decide +kernel
abbrev cX10_init : ByteArray := prog_1_method_1_code
def yX10_init : MethodName := ⟨RX10, "<init>", "()V"⟩
abbrev cX10_giver : ByteArray := prog_1_method_2_code
def yX10_giver : MethodName := ⟨RX10, "giver", "(I)I"⟩
abbrev cX10_work : ByteArray := prog_1_method_3_code
def yX10_work : MethodName := ⟨RX10, "work", "(I)I"⟩
abbrev cX10_worth : ByteArray := prog_1_method_4_code
def yX10_worth : MethodName := ⟨RX10, "worth", "(IIII)I"⟩
abbrev cX10_set : ByteArray := prog_1_method_5_code
def yX10_set : MethodName := ⟨RX10, "set", "(II)I"⟩
abbrev cX10_write : ByteArray := prog_1_method_6_code
def yX10_write : MethodName := ⟨RX10, "write", "(II)I"⟩
abbrev cX10_erase : ByteArray := prog_1_method_7_code
def yX10_erase : MethodName := ⟨RX10, "erase", "(I)I"⟩
abbrev cX10_fault : ByteArray := prog_1_method_8_code
def yX10_fault : MethodName := ⟨RX10, "fault", "(I)I"⟩
abbrev cX10_give : ByteArray := prog_1_method_9_code
def yX10_give : MethodName := ⟨RX10, "give", "(III)I"⟩
abbrev cX10_amount : ByteArray := prog_1_method_10_code
def yX10_amount : MethodName := ⟨RX10, "amount", "(II)I"⟩
abbrev cX10_isShort : ByteArray := prog_1_method_11_code
def yX10_isShort : MethodName := ⟨RX10, "isShort", "()I"⟩
abbrev cX10_has : ByteArray := prog_1_method_12_code
def yX10_has : MethodName := ⟨RX10, "has", "(I)I"⟩
abbrev cX10_best : ByteArray := prog_1_method_13_code
def yX10_best : MethodName := ⟨RX10, "best", "(II)I"⟩
abbrev cX10_rest : ByteArray := prog_1_method_14_code
def yX10_rest : MethodName := ⟨RX10, "rest", "(I)I"⟩
abbrev cX10_turns : ByteArray := prog_1_method_15_code
def yX10_turns : MethodName := ⟨RX10, "turns", "()I"⟩
abbrev cX10_good : ByteArray := prog_1_method_16_code
def yX10_good : MethodName := ⟨RX10, "good", "(I)I"⟩
abbrev cX10_lost : ByteArray := prog_1_method_17_code
def yX10_lost : MethodName := ⟨RX10, "lost", "()I"⟩
abbrev cX10_gain : ByteArray := prog_1_method_18_code
def yX10_gain : MethodName := ⟨RX10, "gain", "(II)I"⟩
abbrev cX10_hand : ByteArray := prog_1_method_19_code
def yX10_hand : MethodName := ⟨RX10, "hand", "(II)I"⟩
abbrev cX10_anyway : ByteArray := prog_1_method_20_code
def yX10_anyway : MethodName := ⟨RX10, "anyway", "(I)I"⟩
abbrev cX10_breach : ByteArray := prog_1_method_21_code
def yX10_breach : MethodName := ⟨RX10, "breach", "(III)I"⟩
abbrev cX10_image : ByteArray := prog_1_method_22_code
def yX10_image : MethodName := ⟨RX10, "image", "(I)I"⟩
abbrev cX10_from : ByteArray := prog_1_method_23_code
def yX10_from : MethodName := ⟨RX10, "from", "(I)I"⟩
abbrev cX10_count : ByteArray := prog_1_method_24_code
def yX10_count : MethodName := ⟨RX10, "count", "(I)I"⟩
abbrev cX10_digest : ByteArray := prog_1_method_25_code
def yX10_digest : MethodName := ⟨RX10, "digest", "()J"⟩
abbrev cX10_digestGivers : ByteArray := prog_1_method_26_code
def yX10_digestGivers : MethodName := ⟨RX10, "digestGivers", "(J)J"⟩
abbrev cX10_digestWorks : ByteArray := prog_1_method_27_code
def yX10_digestWorks : MethodName := ⟨RX10, "digestWorks", "(J)J"⟩
abbrev cX10_digestRules : ByteArray := prog_1_method_28_code
def yX10_digestRules : MethodName := ⟨RX10, "digestRules", "(J)J"⟩
abbrev cX10_setKeep : ByteArray := prog_1_method_29_code
def yX10_setKeep : MethodName := ⟨RX10, "setKeep", "(I)I"⟩
abbrev cX10_setTheRule : ByteArray := prog_1_method_30_code
def yX10_setTheRule : MethodName := ⟨RX10, "setTheRule", "(I)I"⟩
abbrev cX10_setPurse : ByteArray := prog_1_method_31_code
def yX10_setPurse : MethodName := ⟨RX10, "setPurse", "(I)I"⟩
abbrev cX10_setParted : ByteArray := prog_1_method_32_code
def yX10_setParted : MethodName := ⟨RX10, "setParted", "(I)I"⟩
abbrev cX10_isWithin : ByteArray := prog_1_method_33_code
def yX10_isWithin : MethodName := ⟨RX10, "isWithin", "(II)Z"⟩
abbrev cX10_isRule : ByteArray := prog_1_method_34_code
def yX10_isRule : MethodName := ⟨RX10, "isRule", "(I)Z"⟩
abbrev cX10_isGiver : ByteArray := prog_1_method_35_code
def yX10_isGiver : MethodName := ⟨RX10, "isGiver", "(I)Z"⟩
abbrev cX10_isWork : ByteArray := prog_1_method_36_code
def yX10_isWork : MethodName := ⟨RX10, "isWork", "(I)Z"⟩
abbrev cX10_isPair : ByteArray := prog_1_method_37_code
def yX10_isPair : MethodName := ⟨RX10, "isPair", "(II)Z"⟩
def RX11 : String := "GiftMatchModel"
def TX11 : u_T := fun k => match k with
  | 0 => ("GiftMatchModel", "now", "[I", true)
  | 1 => ("GiftMatchModel", "kept", "[I", true)
  | 2 => ("GiftMatchModel", "isKept", "[Z", true)
  | 3 => ("GiftMatchModel", "text", "I", false)
  | 4 => ("GiftMatchModel", "at", "I", false)
  | 5 => ("GiftMatchModel", "fault", "I", false)
  | 6 => ("GiftMatchModel", "values", "[J", true)
  | 7 => ("GiftMatchModel", "valueMany", "I", false)
  | 8 => ("GiftMatchModel", "signs", "[I", true)
  | 9 => ("GiftMatchModel", "signMany", "I", false)
  | 10 => ("GiftMatchModel", "names", "[J", true)
  | 11 => ("GiftMatchModel", "told", "J", false)
  | 12 => ("GiftMatchModel", "hands", "[I", true)
  | 13 => ("GiftMatchModel", "handMany", "I", false)
  | 14 => ("GiftMatchModel", "roots", "[J", true)
  | 15 => ("GiftMatchModel", "would", "[I", true)
  | 16 => ("GiftMatchModel", "added", "[I", true)
  | 17 => ("GiftMatchModel", "given", "[I", true)
  | 18 => ("GiftMatchModel", "isPlain", "Z", false)
  | 19 => ("GiftMatchModel", "handGiver", "I", false)
  | 20 => ("GiftMatchModel", "handWork", "I", false)
  | 21 => ("GiftMatchModel", "parts", "[I", true)
  | 22 => ("GiftMatchModel", "bestRow", "[I", true)
  | 23 => ("GiftMatchModel", "wasRow", "[I", true)
  | 24 => ("GiftMatchModel", "rounds", "[I", true)
  | 25 => ("GiftMatchModel", "worthAll", "[I", true)
  | 26 => ("GiftMatchModel", "goodRow", "[I", true)
  | 27 => ("GiftMatchModel", "byHands", "[I", true)
  | _ => ("GiftMatchModel", "wereGifts", "[I", true)
def tyX11 : Nat → FieldType := fun k => match k with
  | 0 => .array .int
  | 1 => .array .int
  | 2 => .array .boolean
  | 3 => .int
  | 4 => .int
  | 5 => .int
  | 6 => .array .long
  | 7 => .int
  | 8 => .array .int
  | 9 => .int
  | 10 => .array .long
  | 11 => .long
  | 12 => .array .int
  | 13 => .int
  | 14 => .array .long
  | 15 => .array .int
  | 16 => .array .int
  | 17 => .array .int
  | 18 => .boolean
  | 19 => .int
  | 20 => .int
  | 21 => .array .int
  | 22 => .array .int
  | 23 => .array .int
  | 24 => .array .int
  | 25 => .array .int
  | 26 => .array .int
  | 27 => .array .int
  | _ => .array .int
abbrev wsX110 : List Cond := u_ws RX11 TX11 29
theorem nmX11 : ∀ a, a < 29 → ∀ b, b < 29 → a ≠ b → (TX11 a).2.1 ≠ (TX11 b).2.1 := by decide +kernel
theorem tyX11_ok : ∀ k, k < 29 → parseFieldDescriptor (TX11 k).2.2.1 = some (tyX11 k) := by decide +kernel
abbrev cX11_init : ByteArray := prog_13_method_1_code
def yX11_init : MethodName := ⟨RX11, "<init>", "()V"⟩
abbrev cX11_in : ByteArray := prog_13_method_3_code
def yX11_in : MethodName := ⟨RX11, "in", "(JJJ)Z"⟩
abbrev cX11_givers : ByteArray := prog_13_method_4_code
def yX11_givers : MethodName := ⟨RX11, "givers", "()I"⟩
abbrev cX11_works : ByteArray := prog_13_method_5_code
def yX11_works : MethodName := ⟨RX11, "works", "()I"⟩
abbrev cX11_isGiver : ByteArray := prog_13_method_6_code
def yX11_isGiver : MethodName := ⟨RX11, "isGiver", "(I)Z"⟩
abbrev cX11_isWork : ByteArray := prog_13_method_7_code
def yX11_isWork : MethodName := ⟨RX11, "isWork", "(I)Z"⟩
abbrev cX11_gift : ByteArray := prog_13_method_8_code
def yX11_gift : MethodName := ⟨RX11, "gift", "(II)I"⟩
abbrev cX11_giver : ByteArray := prog_13_method_9_code
def yX11_giver : MethodName := ⟨RX11, "giver", "(I)I"⟩
abbrev cX11_work : ByteArray := prog_13_method_10_code
def yX11_work : MethodName := ⟨RX11, "work", "(I)I"⟩
abbrev cX11_worth : ByteArray := prog_13_method_11_code
def yX11_worth : MethodName := ⟨RX11, "worth", "(IIII)I"⟩
abbrev cX11_set : ByteArray := prog_13_method_12_code
def yX11_set : MethodName := ⟨RX11, "set", "(II)I"⟩
abbrev cX11_isRule : ByteArray := prog_13_method_13_code
def yX11_isRule : MethodName := ⟨RX11, "isRule", "(I)Z"⟩
abbrev cX11_write : ByteArray := prog_13_method_14_code
def yX11_write : MethodName := ⟨RX11, "write", "(II)I"⟩
abbrev cX11_erase : ByteArray := prog_13_method_15_code
def yX11_erase : MethodName := ⟨RX11, "erase", "(I)I"⟩
abbrev cX11_textLong : ByteArray := prog_13_method_16_code
def yX11_textLong : MethodName := ⟨RX11, "textLong", "()I"⟩
abbrev cX11_charAt : ByteArray := prog_13_method_17_code
def yX11_charAt : MethodName := ⟨RX11, "charAt", "(I)I"⟩
abbrev cX11_ahead : ByteArray := prog_13_method_18_code
def yX11_ahead : MethodName := ⟨RX11, "ahead", "()I"⟩
abbrev cX11_rank : ByteArray := prog_13_method_19_code
def yX11_rank : MethodName := ⟨RX11, "rank", "(I)I"⟩
abbrev cX11_workOut : ByteArray := prog_13_method_20_code
def yX11_workOut : MethodName := ⟨RX11, "workOut", "()V"⟩
abbrev cX11_workDown : ByteArray := prog_13_method_21_code
def yX11_workDown : MethodName := ⟨RX11, "workDown", "(I)V"⟩
abbrev cX11_stands : ByteArray := prog_13_method_22_code
def yX11_stands : MethodName := ⟨RX11, "stands", "(J)V"⟩
abbrev cX11_nameOf : ByteArray := prog_13_method_23_code
def yX11_nameOf : MethodName := ⟨RX11, "nameOf", "(I)I"⟩
abbrev cX11_digits : ByteArray := prog_13_method_24_code
def yX11_digits : MethodName := ⟨RX11, "digits", "()J"⟩
abbrev cX11_reads : ByteArray := prog_13_method_25_code
def yX11_reads : MethodName := ⟨RX11, "reads", "()Z"⟩
abbrev cX11_fault : ByteArray := prog_13_method_26_code
def yX11_fault : MethodName := ⟨RX11, "fault", "(I)I"⟩
abbrev cX11_rootOf : ByteArray := prog_13_method_27_code
def yX11_rootOf : MethodName := ⟨RX11, "rootOf", "(I)J"⟩
abbrev cX11_putHand : ByteArray := prog_13_method_28_code
def yX11_putHand : MethodName := ⟨RX11, "putHand", "(I)V"⟩
abbrev cX11_addedBy : ByteArray := prog_13_method_29_code
def yX11_addedBy : MethodName := ⟨RX11, "addedBy", "(I)I"⟩
abbrev cX11_addUp : ByteArray := prog_13_method_30_code
def yX11_addUp : MethodName := ⟨RX11, "addUp", "()V"⟩
abbrev cX11_part : ByteArray := prog_13_method_31_code
def yX11_part : MethodName := ⟨RX11, "part", "(II)V"⟩
abbrev cX11_below : ByteArray := prog_13_method_32_code
def yX11_below : MethodName := ⟨RX11, "below", "(I)I"⟩
abbrev cX11_worthOf : ByteArray := prog_13_method_33_code
def yX11_worthOf : MethodName := ⟨RX11, "worthOf", "(III)I"⟩
abbrev cX11_hasNow : ByteArray := prog_13_method_34_code
def yX11_hasNow : MethodName := ⟨RX11, "hasNow", "(I)I"⟩
abbrev cX11_allNow : ByteArray := prog_13_method_35_code
def yX11_allNow : MethodName := ⟨RX11, "allNow", "()I"⟩
abbrev cX11_give : ByteArray := prog_13_method_36_code
def yX11_give : MethodName := ⟨RX11, "give", "(III)I"⟩
abbrev cX11_amount : ByteArray := prog_13_method_37_code
def yX11_amount : MethodName := ⟨RX11, "amount", "(II)I"⟩
abbrev cX11_isShort : ByteArray := prog_13_method_38_code
def yX11_isShort : MethodName := ⟨RX11, "isShort", "()I"⟩
abbrev cX11_has : ByteArray := prog_13_method_39_code
def yX11_has : MethodName := ⟨RX11, "has", "(I)I"⟩
abbrev cX11_setRow : ByteArray := prog_13_method_40_code
def yX11_setRow : MethodName := ⟨RX11, "setRow", "(IIII)V"⟩
abbrev cX11_findBest : ByteArray := prog_13_method_41_code
def yX11_findBest : MethodName := ⟨RX11, "findBest", "(I)I"⟩
abbrev cX11_best : ByteArray := prog_13_method_42_code
def yX11_best : MethodName := ⟨RX11, "best", "(II)I"⟩
abbrev cX11_rest : ByteArray := prog_13_method_43_code
def yX11_rest : MethodName := ⟨RX11, "rest", "(I)I"⟩
abbrev cX11_isAgain : ByteArray := prog_13_method_44_code
def yX11_isAgain : MethodName := ⟨RX11, "isAgain", "(I)Z"⟩
abbrev cX11_note : ByteArray := prog_13_method_45_code
def yX11_note : MethodName := ⟨RX11, "note", "(I)V"⟩
abbrev cX11_goByTurns : ByteArray := prog_13_method_46_code
def yX11_goByTurns : MethodName := ⟨RX11, "goByTurns", "()I"⟩
abbrev cX11_turns : ByteArray := prog_13_method_47_code
def yX11_turns : MethodName := ⟨RX11, "turns", "()I"⟩
abbrev cX11_allCoin : ByteArray := prog_13_method_48_code
def yX11_allCoin : MethodName := ⟨RX11, "allCoin", "()I"⟩
abbrev cX11_findGood : ByteArray := prog_13_method_49_code
def yX11_findGood : MethodName := ⟨RX11, "findGood", "()I"⟩
abbrev cX11_good : ByteArray := prog_13_method_50_code
def yX11_good : MethodName := ⟨RX11, "good", "(I)I"⟩
abbrev cX11_lost : ByteArray := prog_13_method_51_code
def yX11_lost : MethodName := ⟨RX11, "lost", "()I"⟩
abbrev cX11_findHands : ByteArray := prog_13_method_52_code
def yX11_findHands : MethodName := ⟨RX11, "findHands", "(II)V"⟩
abbrev cX11_gain : ByteArray := prog_13_method_53_code
def yX11_gain : MethodName := ⟨RX11, "gain", "(II)I"⟩
abbrev cX11_hand : ByteArray := prog_13_method_54_code
def yX11_hand : MethodName := ⟨RX11, "hand", "(II)I"⟩
abbrev cX11_coinsGiven : ByteArray := prog_13_method_55_code
def yX11_coinsGiven : MethodName := ⟨RX11, "coinsGiven", "()I"⟩
abbrev cX11_anyway : ByteArray := prog_13_method_56_code
def yX11_anyway : MethodName := ⟨RX11, "anyway", "(I)I"⟩
abbrev cX11_addedTo : ByteArray := prog_13_method_57_code
def yX11_addedTo : MethodName := ⟨RX11, "addedTo", "(IIII)I"⟩
abbrev cX11_holds : ByteArray := prog_13_method_58_code
def yX11_holds : MethodName := ⟨RX11, "holds", "(IIIII)Z"⟩
abbrev cX11_breach : ByteArray := prog_13_method_59_code
def yX11_breach : MethodName := ⟨RX11, "breach", "(III)I"⟩
abbrev cX11_image : ByteArray := prog_13_method_60_code
def yX11_image : MethodName := ⟨RX11, "image", "(I)I"⟩
abbrev cX11_from : ByteArray := prog_13_method_61_code
def yX11_from : MethodName := ⟨RX11, "from", "(I)I"⟩
abbrev cX11_count : ByteArray := prog_13_method_62_code
def yX11_count : MethodName := ⟨RX11, "count", "(I)I"⟩
abbrev cX11_digest : ByteArray := prog_13_method_63_code
def yX11_digest : MethodName := ⟨RX11, "digest", "()J"⟩
def RJ9 : String := "java/lang/Math"
def TJ9 : u_T := fun k => match k with
  | _ => ("", "", "", false)
def tyJ9 : Nat → FieldType := fun k => match k with
  | _ => .int
abbrev wsJ90 : List Cond := u_ws RJ9 TJ9 0
theorem nmJ9 : ∀ a, a < 0 → ∀ b, b < 0 → a ≠ b → (TJ9 a).2.1 ≠ (TJ9 b).2.1 := by decide +kernel
theorem tyJ9_ok : ∀ k, k < 0 → parseFieldDescriptor (TJ9 k).2.2.1 = some (tyJ9 k) := by decide +kernel
abbrev cJ9_max_7cf53 : ByteArray := prog_14_method_65_code
def yJ9_max_7cf53 : MethodName := ⟨RJ9, "max", "(II)I"⟩
abbrev cJ9_max_f86c9 : ByteArray := prog_14_method_66_code
def yJ9_max_f86c9 : MethodName := ⟨RJ9, "max", "(JJ)J"⟩
abbrev cJ9_min_7cf53 : ByteArray := prog_14_method_69_code
def yJ9_min_7cf53 : MethodName := ⟨RJ9, "min", "(II)I"⟩
abbrev cJ9_min_f86c9 : ByteArray := prog_14_method_70_code
def yJ9_min_f86c9 : MethodName := ⟨RJ9, "min", "(JJ)J"⟩
def RJ10 : String := "java/lang/System"
def TJ10 : u_T := fun k => match k with
  | _ => ("", "", "", false)
def tyJ10 : Nat → FieldType := fun k => match k with
  | _ => .int
abbrev wsJ100 : List Cond := u_ws RJ10 TJ10 0
theorem nmJ10 : ∀ a, a < 0 → ∀ b, b < 0 → a ≠ b → (TJ10 a).2.1 ≠ (TJ10 b).2.1 := by decide +kernel
theorem tyJ10_ok : ∀ k, k < 0 → parseFieldDescriptor (TJ10 k).2.2.1 = some (tyJ10 k) := by decide +kernel
def RL : String := "GiftMatchLaw"
abbrev cL_law : ByteArray := code
def yL_law : MethodName := ⟨RL, "law", "([I)Z"⟩
end
section
abbrev MRec : Type := MethodName × ByteArray × Nat × Option FieldType × Nat × Nat × Nat
abbrev mX0_init : MRec := (yX0_init, cX0_init, 2, none, 3, 45, 0)
abbrev mX0_choose : MRec := (yX0_choose, cX0_choose, 10, none, 0, 0, 0)
abbrev mX0_foresee : MRec := (yX0_foresee, cX0_foresee, 6, none, 0, 0, 0)
abbrev mX0_weigh : MRec := (yX0_weigh, cX0_weigh, 7, none, 0, 0, 0)
abbrev mX0_enter : MRec := (yX0_enter, cX0_enter, 3, none, 0, 0, 0)
abbrev mX1_init : MRec := (yX1_init, cX1_init, 1, none, 3, 1230, 1)
abbrev mX1_find : MRec := (yX1_find, cX1_find, 6, none, 0, 0, 1)
abbrev mX1_fillWorths : MRec := (yX1_fillWorths, cX1_fillWorths, 6, none, 0, 0, 1)
abbrev mX1_firstBest : MRec := (yX1_firstBest, cX1_firstBest, 8, (some .int), 0, 0, 1)
abbrev mX1_haveBy : MRec := (yX1_haveBy, cX1_haveBy, 4, (some .int), 0, 0, 1)
abbrev mX2_init : MRec := (yX2_init, cX2_init, 2, none, 0, 0, 2)
abbrev mX2_hold : MRec := (yX2_hold, cX2_hold, 7, (some .boolean), 0, 0, 2)
abbrev mX2_noneMoreByHands : MRec := (yX2_noneMoreByHands, cX2_noneMoreByHands, 6, (some .boolean), 0, 0, 2)
abbrev mX2_addedTo : MRec := (yX2_addedTo, cX2_addedTo, 5, (some .int), 0, 0, 2)
abbrev mX3_init : MRec := (yX3_init, cX3_init, 2, none, 3, 9, 3)
abbrev mX3_fill : MRec := (yX3_fill, cX3_fill, 3, none, 0, 0, 3)
abbrev mX3_partPurse : MRec := (yX3_partPurse, cX3_partPurse, 4, none, 0, 0, 3)
abbrev mX3_partByShare : MRec := (yX3_partByShare, cX3_partByShare, 4, none, 0, 0, 3)
abbrev mX3_partByNumber : MRec := (yX3_partByNumber, cX3_partByNumber, 4, none, 0, 0, 3)
abbrev mX3_partByBound : MRec := (yX3_partByBound, cX3_partByBound, 7, none, 0, 0, 3)
abbrev mX3_haveOf : MRec := (yX3_haveOf, cX3_haveOf, 6, (some .int), 0, 0, 3)
abbrev mX3_allHave : MRec := (yX3_allHave, cX3_allHave, 4, (some .int), 0, 0, 3)
abbrev mX4_init : MRec := (yX4_init, cX4_init, 2, none, 1, 5, 4)
abbrev mX4_weighAll : MRec := (yX4_weighAll, cX4_weighAll, 8, none, 0, 0, 4)
abbrev mX4_weigh : MRec := (yX4_weigh, cX4_weigh, 10, none, 0, 0, 4)
abbrev mX4_most : MRec := (yX4_most, cX4_most, 3, (some .int), 0, 0, 4)
abbrev mX4_leastCost : MRec := (yX4_leastCost, cX4_leastCost, 4, (some .int), 0, 0, 4)
abbrev mX5_init : MRec := (yX5_init, cX5_init, 1, none, 1, 40, 5)
abbrev mX5_read : MRec := (yX5_read, cX5_read, 3, none, 0, 0, 5)
abbrev mX5_readCharacter : MRec := (yX5_readCharacter, cX5_readCharacter, 5, none, 0, 0, 5)
abbrev mX5_readDigit : MRec := (yX5_readDigit, cX5_readDigit, 5, none, 0, 0, 5)
abbrev mX5_readUnit : MRec := (yX5_readUnit, cX5_readUnit, 4, (some .boolean), 0, 0, 5)
abbrev mX5_readBehindUnit : MRec := (yX5_readBehindUnit, cX5_readBehindUnit, 4, (some .boolean), 0, 0, 5)
abbrev mX5_closeBracket : MRec := (yX5_closeBracket, cX5_closeBracket, 2, (some .boolean), 0, 0, 5)
abbrev mX5_hold : MRec := (yX5_hold, cX5_hold, 2, none, 0, 0, 5)
abbrev mX5_release : MRec := (yX5_release, cX5_release, 3, none, 0, 0, 5)
abbrev mX5_lastRank : MRec := (yX5_lastRank, cX5_lastRank, 1, (some .int), 0, 0, 5)
abbrev mX5_rankOf : MRec := (yX5_rankOf, cX5_rankOf, 1, (some .int), 0, 0, 5)
abbrev mX6_init : MRec := (yX6_init, cX6_init, 2, none, 1, 41, 6)
abbrev mX6_run : MRec := (yX6_run, cX6_run, 5, (some .int), 0, 0, 6)
abbrev mX6_wasBefore : MRec := (yX6_wasBefore, cX6_wasBefore, 3, (some .boolean), 0, 0, 6)
abbrev mX7_init : MRec := (yX7_init, cX7_init, 1, none, 2, 80, 7)
abbrev mX7_take : MRec := (yX7_take, cX7_take, 2, none, 0, 0, 7)
abbrev mX7_addStep : MRec := (yX7_addStep, cX7_addStep, 2, none, 0, 0, 7)
abbrev mX8_init : MRec := (yX8_init, cX8_init, 2, none, 15, 311, 8)
abbrev mX8_take : MRec := (yX8_take, cX8_take, 3, none, 0, 0, 8)
abbrev mX8_takePeople : MRec := (yX8_takePeople, cX8_takePeople, 3, none, 0, 0, 8)
abbrev mX8_givenBy : MRec := (yX8_givenBy, cX8_givenBy, 4, (some .int), 0, 0, 8)
abbrev mX8_keptBy : MRec := (yX8_keptBy, cX8_keptBy, 2, (some .int), 0, 0, 8)
abbrev mX8_givenTo : MRec := (yX8_givenTo, cX8_givenTo, 4, (some .int), 0, 0, 8)
abbrev mX8_givenInAll : MRec := (yX8_givenInAll, cX8_givenInAll, 3, (some .int), 0, 0, 8)
abbrev mX8_coinInAll : MRec := (yX8_coinInAll, cX8_coinInAll, 3, (some .int), 0, 0, 8)
abbrev mX8_packedGifts : MRec := (yX8_packedGifts, cX8_packedGifts, 4, (some .long), 0, 0, 8)
abbrev mX8_worthOf : MRec := (yX8_worthOf, cX8_worthOf, 7, (some .int), 0, 0, 8)
abbrev mX9_init : MRec := (yX9_init, cX9_init, 1, none, 1, 40, 9)
abbrev mX9_clear : MRec := (yX9_clear, cX9_clear, 1, none, 0, 0, 9)
abbrev mX9_see : MRec := (yX9_see, cX9_see, 2, none, 0, 0, 9)
abbrev mX9_seeAllBut : MRec := (yX9_seeAllBut, cX9_seeAllBut, 5, none, 0, 0, 9)
abbrev mX9_toldBy : MRec := (yX9_toldBy, cX9_toldBy, 4, (some .int), 0, 0, 9)
abbrev mX9_doStep : MRec := (yX9_doStep, cX9_doStep, 6, none, 0, 0, 9)
abbrev mX9_joined : MRec := (yX9_joined, cX9_joined, 5, (some .long), 0, 0, 9)
abbrev mX9_push : MRec := (yX9_push, cX9_push, 3, none, 0, 0, 9)
abbrev mX9_pop : MRec := (yX9_pop, cX9_pop, 1, (some .long), 0, 0, 9)
abbrev mX10_init : MRec := (yX10_init, cX10_init, 2, none, 87, 3500, 10)
abbrev mX10_giver : MRec := (yX10_giver, cX10_giver, 2, (some .int), 0, 0, 10)
abbrev mX10_work : MRec := (yX10_work, cX10_work, 2, (some .int), 0, 0, 10)
abbrev mX10_worth : MRec := (yX10_worth, cX10_worth, 5, (some .int), 0, 0, 10)
abbrev mX10_set : MRec := (yX10_set, cX10_set, 3, (some .int), 0, 0, 10)
abbrev mX10_write : MRec := (yX10_write, cX10_write, 4, (some .int), 0, 0, 10)
abbrev mX10_erase : MRec := (yX10_erase, cX10_erase, 4, (some .int), 0, 0, 10)
abbrev mX10_fault : MRec := (yX10_fault, cX10_fault, 2, (some .int), 0, 0, 10)
abbrev mX10_give : MRec := (yX10_give, cX10_give, 6, (some .int), 0, 0, 10)
abbrev mX10_amount : MRec := (yX10_amount, cX10_amount, 3, (some .int), 0, 0, 10)
abbrev mX10_isShort : MRec := (yX10_isShort, cX10_isShort, 1, (some .int), 0, 0, 10)
abbrev mX10_has : MRec := (yX10_has, cX10_has, 2, (some .int), 0, 0, 10)
abbrev mX10_best : MRec := (yX10_best, cX10_best, 3, (some .int), 0, 0, 10)
abbrev mX10_rest : MRec := (yX10_rest, cX10_rest, 4, (some .int), 0, 0, 10)
abbrev mX10_turns : MRec := (yX10_turns, cX10_turns, 1, (some .int), 0, 0, 10)
abbrev mX10_good : MRec := (yX10_good, cX10_good, 2, (some .int), 0, 0, 10)
abbrev mX10_lost : MRec := (yX10_lost, cX10_lost, 1, (some .int), 0, 0, 10)
abbrev mX10_gain : MRec := (yX10_gain, cX10_gain, 3, (some .int), 0, 0, 10)
abbrev mX10_hand : MRec := (yX10_hand, cX10_hand, 4, (some .int), 0, 0, 10)
abbrev mX10_anyway : MRec := (yX10_anyway, cX10_anyway, 3, (some .int), 0, 0, 10)
abbrev mX10_breach : MRec := (yX10_breach, cX10_breach, 7, (some .int), 0, 0, 10)
abbrev mX10_image : MRec := (yX10_image, cX10_image, 2, (some .int), 0, 0, 10)
abbrev mX10_from : MRec := (yX10_from, cX10_from, 2, (some .int), 0, 0, 10)
abbrev mX10_count : MRec := (yX10_count, cX10_count, 2, (some .int), 0, 0, 10)
abbrev mX10_digest : MRec := (yX10_digest, cX10_digest, 4, (some .long), 0, 0, 10)
abbrev mX10_digestGivers : MRec := (yX10_digestGivers, cX10_digestGivers, 8, (some .long), 0, 0, 10)
abbrev mX10_digestWorks : MRec := (yX10_digestWorks, cX10_digestWorks, 6, (some .long), 0, 0, 10)
abbrev mX10_digestRules : MRec := (yX10_digestRules, cX10_digestRules, 8, (some .long), 0, 0, 10)
abbrev mX10_setKeep : MRec := (yX10_setKeep, cX10_setKeep, 3, (some .int), 0, 0, 10)
abbrev mX10_setTheRule : MRec := (yX10_setTheRule, cX10_setTheRule, 3, (some .int), 0, 0, 10)
abbrev mX10_setPurse : MRec := (yX10_setPurse, cX10_setPurse, 3, (some .int), 0, 0, 10)
abbrev mX10_setParted : MRec := (yX10_setParted, cX10_setParted, 3, (some .int), 0, 0, 10)
abbrev mX10_isWithin : MRec := (yX10_isWithin, cX10_isWithin, 2, (some .boolean), 0, 0, 10)
abbrev mX10_isRule : MRec := (yX10_isRule, cX10_isRule, 1, (some .boolean), 0, 0, 10)
abbrev mX10_isGiver : MRec := (yX10_isGiver, cX10_isGiver, 2, (some .boolean), 0, 0, 10)
abbrev mX10_isWork : MRec := (yX10_isWork, cX10_isWork, 2, (some .boolean), 0, 0, 10)
abbrev mX10_isPair : MRec := (yX10_isPair, cX10_isPair, 3, (some .boolean), 0, 0, 10)
abbrev mX11_init : MRec := (yX11_init, cX11_init, 1, none, 19, 1700, 11)
abbrev mX11_in : MRec := (yX11_in, cX11_in, 6, (some .boolean), 0, 0, 11)
abbrev mX11_givers : MRec := (yX11_givers, cX11_givers, 1, (some .int), 0, 0, 11)
abbrev mX11_works : MRec := (yX11_works, cX11_works, 1, (some .int), 0, 0, 11)
abbrev mX11_isGiver : MRec := (yX11_isGiver, cX11_isGiver, 2, (some .boolean), 0, 0, 11)
abbrev mX11_isWork : MRec := (yX11_isWork, cX11_isWork, 2, (some .boolean), 0, 0, 11)
abbrev mX11_gift : MRec := (yX11_gift, cX11_gift, 3, (some .int), 0, 0, 11)
abbrev mX11_giver : MRec := (yX11_giver, cX11_giver, 2, (some .int), 0, 0, 11)
abbrev mX11_work : MRec := (yX11_work, cX11_work, 2, (some .int), 0, 0, 11)
abbrev mX11_worth : MRec := (yX11_worth, cX11_worth, 5, (some .int), 0, 0, 11)
abbrev mX11_set : MRec := (yX11_set, cX11_set, 4, (some .int), 0, 0, 11)
abbrev mX11_isRule : MRec := (yX11_isRule, cX11_isRule, 1, (some .boolean), 0, 0, 11)
abbrev mX11_write : MRec := (yX11_write, cX11_write, 4, (some .int), 0, 0, 11)
abbrev mX11_erase : MRec := (yX11_erase, cX11_erase, 3, (some .int), 0, 0, 11)
abbrev mX11_textLong : MRec := (yX11_textLong, cX11_textLong, 1, (some .int), 0, 0, 11)
abbrev mX11_charAt : MRec := (yX11_charAt, cX11_charAt, 2, (some .int), 0, 0, 11)
abbrev mX11_ahead : MRec := (yX11_ahead, cX11_ahead, 1, (some .int), 0, 0, 11)
abbrev mX11_rank : MRec := (yX11_rank, cX11_rank, 1, (some .int), 0, 0, 11)
abbrev mX11_workOut : MRec := (yX11_workOut, cX11_workOut, 7, none, 0, 0, 11)
abbrev mX11_workDown : MRec := (yX11_workDown, cX11_workDown, 2, none, 0, 0, 11)
abbrev mX11_stands : MRec := (yX11_stands, cX11_stands, 5, none, 0, 0, 11)
abbrev mX11_nameOf : MRec := (yX11_nameOf, cX11_nameOf, 1, (some .int), 0, 0, 11)
abbrev mX11_digits : MRec := (yX11_digits, cX11_digits, 4, (some .long), 0, 0, 11)
abbrev mX11_reads : MRec := (yX11_reads, cX11_reads, 5, (some .boolean), 0, 0, 11)
abbrev mX11_fault : MRec := (yX11_fault, cX11_fault, 3, (some .int), 0, 0, 11)
abbrev mX11_rootOf : MRec := (yX11_rootOf, cX11_rootOf, 8, (some .long), 0, 0, 11)
abbrev mX11_putHand : MRec := (yX11_putHand, cX11_putHand, 2, none, 0, 0, 11)
abbrev mX11_addedBy : MRec := (yX11_addedBy, cX11_addedBy, 14, (some .int), 0, 0, 11)
abbrev mX11_addUp : MRec := (yX11_addUp, cX11_addUp, 5, none, 0, 0, 11)
abbrev mX11_part : MRec := (yX11_part, cX11_part, 6, none, 0, 0, 11)
abbrev mX11_below : MRec := (yX11_below, cX11_below, 4, (some .int), 0, 0, 11)
abbrev mX11_worthOf : MRec := (yX11_worthOf, cX11_worthOf, 7, (some .int), 0, 0, 11)
abbrev mX11_hasNow : MRec := (yX11_hasNow, cX11_hasNow, 5, (some .int), 0, 0, 11)
abbrev mX11_allNow : MRec := (yX11_allNow, cX11_allNow, 3, (some .int), 0, 0, 11)
abbrev mX11_give : MRec := (yX11_give, cX11_give, 6, (some .int), 0, 0, 11)
abbrev mX11_amount : MRec := (yX11_amount, cX11_amount, 3, (some .int), 0, 0, 11)
abbrev mX11_isShort : MRec := (yX11_isShort, cX11_isShort, 3, (some .int), 0, 0, 11)
abbrev mX11_has : MRec := (yX11_has, cX11_has, 2, (some .int), 0, 0, 11)
abbrev mX11_setRow : MRec := (yX11_setRow, cX11_setRow, 5, none, 0, 0, 11)
abbrev mX11_findBest : MRec := (yX11_findBest, cX11_findBest, 8, (some .int), 0, 0, 11)
abbrev mX11_best : MRec := (yX11_best, cX11_best, 4, (some .int), 0, 0, 11)
abbrev mX11_rest : MRec := (yX11_rest, cX11_rest, 4, (some .int), 0, 0, 11)
abbrev mX11_isAgain : MRec := (yX11_isAgain, cX11_isAgain, 5, (some .boolean), 0, 0, 11)
abbrev mX11_note : MRec := (yX11_note, cX11_note, 3, none, 0, 0, 11)
abbrev mX11_goByTurns : MRec := (yX11_goByTurns, cX11_goByTurns, 5, (some .int), 0, 0, 11)
abbrev mX11_turns : MRec := (yX11_turns, cX11_turns, 1, (some .int), 0, 0, 11)
abbrev mX11_allCoin : MRec := (yX11_allCoin, cX11_allCoin, 3, (some .int), 0, 0, 11)
abbrev mX11_findGood : MRec := (yX11_findGood, cX11_findGood, 9, (some .int), 0, 0, 11)
abbrev mX11_good : MRec := (yX11_good, cX11_good, 3, (some .int), 0, 0, 11)
abbrev mX11_lost : MRec := (yX11_lost, cX11_lost, 1, (some .int), 0, 0, 11)
abbrev mX11_findHands : MRec := (yX11_findHands, cX11_findHands, 10, none, 0, 0, 11)
abbrev mX11_gain : MRec := (yX11_gain, cX11_gain, 5, (some .int), 0, 0, 11)
abbrev mX11_hand : MRec := (yX11_hand, cX11_hand, 6, (some .int), 0, 0, 11)
abbrev mX11_coinsGiven : MRec := (yX11_coinsGiven, cX11_coinsGiven, 3, (some .int), 0, 0, 11)
abbrev mX11_anyway : MRec := (yX11_anyway, cX11_anyway, 6, (some .int), 0, 0, 11)
abbrev mX11_addedTo : MRec := (yX11_addedTo, cX11_addedTo, 5, (some .int), 0, 0, 11)
abbrev mX11_holds : MRec := (yX11_holds, cX11_holds, 9, (some .boolean), 0, 0, 11)
abbrev mX11_breach : MRec := (yX11_breach, cX11_breach, 6, (some .int), 0, 0, 11)
abbrev mX11_image : MRec := (yX11_image, cX11_image, 3, (some .int), 0, 0, 11)
abbrev mX11_from : MRec := (yX11_from, cX11_from, 3, (some .int), 0, 0, 11)
abbrev mX11_count : MRec := (yX11_count, cX11_count, 2, (some .int), 0, 0, 11)
abbrev mX11_digest : MRec := (yX11_digest, cX11_digest, 6, (some .long), 0, 0, 11)
abbrev mJ9_max_7cf53 : MRec := (yJ9_max_7cf53, cJ9_max_7cf53, 2, (some .int), 0, 0, 13)
abbrev mJ9_max_f86c9 : MRec := (yJ9_max_f86c9, cJ9_max_f86c9, 4, (some .long), 0, 0, 13)
abbrev mJ9_min_7cf53 : MRec := (yJ9_min_7cf53, cJ9_min_7cf53, 2, (some .int), 0, 0, 13)
abbrev mJ9_min_f86c9 : MRec := (yJ9_min_f86c9, cJ9_min_f86c9, 4, (some .long), 0, 0, 13)
abbrev mL_law : MRec := (yL_law, cL_law, 4, (some .boolean), 108, 7302250, 12)
def clsT : List vw_C := [(RX0, TX0, 6), (RX1, TX1, 4), (RX2, TX2, 1), (RX3, TX3, 5), (RX4, TX4, 3), (RX5, TX5, 5), (RX6, TX6, 2), (RX7, TX7, 5), (RX8, TX8, 12), (RX9, TX9, 7), (RX10, TX10, 12), (RX11, TX11, 29)]
def ownT : List String := [RX0, RX1, RX2, RX3, RX4, RX5, RX6, RX7, RX8, RX9, RX10, RX11, RL, RJ9, RJ10]
def own (oc : Nat) : String := ownT.getD oc ""
def tyT (ci : Nat) : Nat → FieldType := match ci with
  | 0 => tyX0
  | 1 => tyX1
  | 2 => tyX2
  | 3 => tyX3
  | 4 => tyX4
  | 5 => tyX5
  | 6 => tyX6
  | 7 => tyX7
  | 8 => tyX8
  | 9 => tyX9
  | 10 => tyX10
  | _ => tyX11
/-- method links: own class, index, kind (0 virtual, 2 static, 3 <init>, 4 <init> of a nest mate), parameters, the method, places of its words -/
abbrev MLE : Type := Nat × Nat × Nat × Nat × MRec × List Nat
def mlT0 : List MLE := [(0, 25, 0, 1, mX3_fill, [639, 532, 533, 73]),
  (0, 31, 0, 1, mX8_keptBy, [640, 616, 617, 69]),
  (0, 37, 0, 3, mX3_haveOf, [641, 621, 622, 73]),
  (0, 45, 0, 2, mX0_foresee, [642, 644, 21, 74]),
  (0, 58, 0, 5, mX0_weigh, [649, 651, 22, 74]),
  (0, 72, 0, 3, mX9_seeAllBut, [646, 536, 537, 72]),
  (0, 78, 0, 1, mX9_see, [647, 544, 545, 72]),
  (0, 89, 0, 1, mX9_toldBy, [648, 560, 561, 72]),
  (0, 93, 0, 2, mX0_enter, [653, 655, 23, 74]),
  (0, 97, 0, 1, mX3_partPurse, [657, 587, 588, 73])]
def mlT1 : List MLE := [(1, 21, 0, 0, mX8_coinInAll, [690, 691, 692, 69]),
  (1, 40, 0, 2, mX1_fillWorths, [695, 697, 25, 76]),
  (1, 47, 0, 2, mX1_firstBest, [701, 703, 26, 76]),
  (1, 50, 0, 3, mX1_haveBy, [705, 707, 27, 76]),
  (1, 60, 0, 3, mX8_worthOf, [699, 625, 626, 69])]
def mlT2 : List MLE := [(2, 13, 0, 4, mX2_addedTo, [766, 768, 29, 78]),
  (2, 17, 0, 4, mX2_noneMoreByHands, [773, 775, 30, 78]),
  (2, 21, 0, 0, mX9_clear, [770, 540, 541, 72]),
  (2, 26, 0, 1, mX9_see, [771, 544, 545, 72]),
  (2, 30, 0, 1, mX9_toldBy, [772, 560, 561, 72])]
def mlT3 : List MLE := [(3, 31, 0, 3, mX9_seeAllBut, [535, 536, 537, 72]),
  (3, 37, 0, 1, mX8_givenTo, [555, 556, 557, 69]),
  (3, 48, 0, 1, mX9_toldBy, [559, 560, 561, 72]),
  (3, 52, 0, 1, mX3_partPurse, [586, 587, 588, 73]),
  (3, 66, 0, 2, mX3_partByShare, [590, 592, 18, 73]),
  (3, 70, 0, 1, mX3_partByNumber, [594, 596, 19, 73]),
  (3, 74, 0, 1, mX3_partByBound, [599, 601, 20, 73]),
  (3, 86, 0, 3, mX8_worthOf, [624, 625, 626, 69]),
  (3, 93, 0, 1, mX8_keptBy, [615, 616, 617, 69]),
  (3, 96, 0, 3, mX3_haveOf, [620, 621, 622, 73])]
def mlT4 : List MLE := [(4, 19, 0, 1, mX3_fill, [721, 532, 533, 73]),
  (4, 25, 0, 1, mX8_keptBy, [722, 616, 617, 69]),
  (4, 31, 0, 3, mX3_haveOf, [723, 621, 622, 73]),
  (4, 42, 0, 6, mX4_weigh, [724, 726, 28, 77]),
  (4, 50, 0, 3, mX9_seeAllBut, [728, 536, 537, 72]),
  (4, 56, 0, 1, mX9_see, [729, 544, 545, 72]),
  (4, 70, 0, 1, mX9_toldBy, [730, 560, 561, 72]),
  (4, 74, 0, 1, mX3_partPurse, [731, 587, 588, 73])]
def mlT5 : List MLE := [(5, 40, 0, 2, mX5_readCharacter, [472, 474, 7, 71]),
  (5, 44, 0, 2, mX5_release, [500, 502, 13, 71]),
  (5, 50, 0, 3, mX5_readDigit, [476, 478, 8, 71]),
  (5, 54, 0, 2, mX5_readUnit, [484, 486, 9, 71]),
  (5, 58, 0, 2, mX5_readBehindUnit, [492, 494, 11, 71]),
  (5, 64, 0, 1, mX7_addStep, [480, 481, 482, 70]),
  (5, 68, 0, 1, mX5_hold, [488, 490, 10, 71]),
  (5, 71, 0, 1, mX5_closeBracket, [496, 498, 12, 71]),
  (5, 75, 2, 1, mX5_rankOf, [504, 505, 71]),
  (5, 79, 0, 0, mX5_lastRank, [507, 509, 14, 71])]
def mlT6 : List MLE := [(6, 19, 0, 0, mX8_packedGifts, [670, 671, 672, 69]),
  (6, 29, 0, 2, mX0_choose, [674, 636, 637, 74]),
  (6, 54, 0, 1, mX6_wasBefore, [678, 680, 24, 75])]
def mlT7 : List MLE := []
def mlT8 : List MLE := [(8, 52, 4, 0, mX7_init, [100, 70]),
  (8, 53, 0, 1, mX8_takePeople, [785, 750, 751, 69]),
  (8, 63, 0, 1, mX7_take, [786, 787, 788, 70]),
  (8, 67, 0, 1, mX8_givenBy, [619, 524, 525, 69])]
def mlT9 : List MLE := [(9, 45, 0, 0, mX9_clear, [539, 540, 541, 72]),
  (9, 56, 0, 1, mX9_see, [543, 544, 545, 72]),
  (9, 74, 0, 1, mX9_push, [563, 565, 15, 72]),
  (9, 78, 0, 1, mX9_doStep, [567, 569, 16, 72]),
  (9, 83, 0, 0, mX9_pop, [572, 574, 17, 72]),
  (9, 94, 2, 3, mX9_joined, [576, 577, 72])]
def mlT10 : List MLE := [(10, 9, 3, 0, mX8_init, [92, 93, 69]),
  (10, 29, 4, 0, mX5_init, [206, 71]),
  (10, 36, 4, 0, mX9_init, [229, 72]),
  (10, 43, 3, 1, mX3_init, [257, 258, 73]),
  (10, 52, 3, 1, mX0_init, [288, 289, 74]),
  (10, 61, 3, 1, mX6_init, [319, 320, 75]),
  (10, 70, 4, 0, mX1_init, [333, 76]),
  (10, 77, 3, 1, mX4_init, [353, 354, 77]),
  (10, 84, 3, 1, mX2_init, [369, 370, 78]),
  (10, 89, 2, 2, mX10_isWithin, [418, 419, 68]),
  (10, 107, 0, 2, mX10_isPair, [429, 431, 0, 68]),
  (10, 116, 0, 1, mX10_setKeep, [445, 447, 3, 68]),
  (10, 120, 0, 1, mX10_setTheRule, [449, 451, 4, 68]),
  (10, 123, 0, 1, mX10_setPurse, [456, 458, 5, 68]),
  (10, 126, 0, 1, mX10_setParted, [460, 462, 6, 68]),
  (10, 129, 2, 1, mX10_isRule, [453, 454, 68]),
  (10, 145, 0, 1, mX5_read, [468, 469, 470, 71]),
  (10, 155, 0, 1, mX8_givenBy, [523, 524, 525, 69]),
  (10, 158, 0, 1, mX10_isWork, [437, 439, 2, 68]),
  (10, 161, 0, 1, mX3_fill, [531, 532, 533, 73]),
  (10, 178, 0, 1, mX10_isGiver, [433, 435, 1, 68]),
  (10, 181, 0, 1, mX3_allHave, [611, 612, 613, 73]),
  (10, 185, 0, 1, mX8_keptBy, [629, 616, 617, 69]),
  (10, 188, 0, 3, mX3_haveOf, [630, 621, 622, 73]),
  (10, 192, 0, 2, mX0_choose, [635, 636, 637, 74]),
  (10, 205, 0, 1, mX6_run, [666, 667, 668, 75]),
  (10, 208, 0, 1, mX1_find, [686, 687, 688, 76]),
  (10, 213, 0, 3, mX4_weighAll, [717, 718, 719, 77]),
  (10, 217, 0, 0, mX4_most, [733, 734, 735, 77]),
  (10, 220, 0, 0, mX4_leastCost, [741, 742, 743, 77]),
  (10, 223, 0, 1, mX8_takePeople, [749, 750, 751, 69]),
  (10, 226, 0, 0, mX8_givenInAll, [754, 755, 756, 69]),
  (10, 229, 0, 5, mX2_hold, [762, 763, 764, 78]),
  (10, 233, 0, 1, mX8_take, [781, 782, 783, 69]),
  (10, 236, 0, 0, mX8_coinInAll, [799, 691, 692, 69]),
  (10, 243, 0, 1, mX10_count, [806, 796, 797, 68]),
  (10, 246, 0, 1, mX10_digestGivers, [807, 809, 31, 68]),
  (10, 250, 0, 1, mX10_digestWorks, [811, 813, 32, 68]),
  (10, 265, 0, 1, mX10_digestRules, [815, 817, 33, 68])]
def mlT11 : List MLE := [(11, 76, 0, 0, mX11_givers, [921, 923, 34, 79]),
  (11, 80, 2, 3, mX11_in, [918, 919, 79]),
  (11, 84, 0, 0, mX11_works, [930, 932, 35, 79]),
  (11, 91, 0, 1, mX11_isGiver, [938, 940, 36, 79]),
  (11, 95, 0, 1, mX11_isWork, [942, 944, 37, 79]),
  (11, 108, 2, 1, mX11_isRule, [959, 960, 79]),
  (11, 119, 0, 0, mX11_textLong, [979, 981, 40, 79]),
  (11, 122, 0, 1, mX11_charAt, [983, 985, 41, 79]),
  (11, 132, 2, 1, mX11_rank, [1005, 1006, 79]),
  (11, 135, 0, 0, mX11_workOut, [1008, 1010, 45, 79]),
  (11, 147, 0, 0, mX11_ahead, [975, 977, 39, 79]),
  (11, 150, 0, 0, mX11_digits, [989, 991, 42, 79]),
  (11, 154, 0, 1, mX11_stands, [994, 996, 43, 79]),
  (11, 158, 2, 1, mX11_nameOf, [998, 999, 79]),
  (11, 161, 0, 1, mX11_workDown, [1001, 1003, 44, 79]),
  (11, 169, 0, 0, mX11_reads, [971, 973, 38, 79]),
  (11, 180, 0, 1, mX11_rootOf, [1036, 1038, 50, 79]),
  (11, 186, 0, 2, mX11_gift, [1016, 1018, 46, 79]),
  (11, 190, 0, 1, mX11_putHand, [1028, 1030, 48, 79]),
  (11, 197, 0, 1, mX11_addedBy, [1032, 1034, 49, 79]),
  (11, 200, 0, 2, mX11_part, [1043, 1045, 51, 79]),
  (11, 204, 0, 1, mX11_below, [1047, 1049, 52, 79]),
  (11, 207, 0, 3, mX11_worthOf, [1067, 1069, 55, 79]),
  (11, 211, 0, 0, mX11_addUp, [1024, 1026, 47, 79]),
  (11, 214, 0, 1, mX11_hasNow, [1063, 1065, 54, 79]),
  (11, 217, 0, 0, mX11_allNow, [1059, 1061, 53, 79]),
  (11, 220, 0, 4, mX11_setRow, [1079, 1081, 57, 79]),
  (11, 224, 0, 1, mX11_findBest, [1075, 1077, 56, 79]),
  (11, 227, 0, 1, mX11_note, [1095, 1097, 59, 79]),
  (11, 230, 0, 1, mX11_isAgain, [1099, 1101, 60, 79]),
  (11, 233, 0, 0, mX11_goByTurns, [1091, 1093, 58, 79]),
  (11, 236, 0, 0, mX11_allCoin, [1111, 1113, 62, 79]),
  (11, 239, 0, 0, mX11_findGood, [1107, 1109, 61, 79]),
  (11, 242, 0, 2, mX11_findHands, [1123, 1125, 63, 79]),
  (11, 245, 0, 0, mX11_coinsGiven, [1135, 1137, 64, 79]),
  (11, 248, 0, 4, mX11_addedTo, [1147, 1149, 66, 79]),
  (11, 252, 0, 5, mX11_holds, [1143, 1145, 65, 79]),
  (11, 260, 0, 1, mX11_count, [1169, 1160, 1161, 79]),
  (11, 263, 0, 2, mX11_amount, [1170, 1021, 1022, 79])]
def mlT12 : List MLE := [(12, 9, 3, 0, mX10_init, [84, 85, 68]),
  (12, 12, 3, 0, mX11_init, [821, 822, 79]),
  (12, 13, 0, 1, mX10_giver, [414, 415, 416, 68]),
  (12, 17, 0, 1, mX11_giver, [913, 914, 915, 79]),
  (12, 18, 0, 1, mX10_work, [421, 422, 423, 68]),
  (12, 21, 0, 1, mX11_work, [925, 926, 927, 79]),
  (12, 22, 0, 4, mX10_worth, [425, 426, 427, 68]),
  (12, 26, 0, 4, mX11_worth, [934, 935, 936, 79]),
  (12, 27, 0, 2, mX10_set, [441, 442, 443, 68]),
  (12, 31, 0, 2, mX11_set, [948, 949, 950, 79]),
  (12, 32, 0, 2, mX10_write, [464, 465, 466, 68]),
  (12, 35, 0, 2, mX11_write, [955, 956, 957, 79]),
  (12, 36, 0, 1, mX10_erase, [511, 512, 513, 68]),
  (12, 39, 0, 1, mX11_erase, [963, 964, 965, 79]),
  (12, 40, 0, 1, mX10_fault, [515, 516, 517, 68]),
  (12, 43, 0, 1, mX11_fault, [967, 968, 969, 79]),
  (12, 44, 0, 3, mX10_give, [519, 520, 521, 68]),
  (12, 48, 0, 3, mX11_give, [1012, 1013, 1014, 79]),
  (12, 49, 0, 2, mX10_amount, [527, 528, 529, 68]),
  (12, 52, 0, 2, mX11_amount, [1020, 1021, 1022, 79]),
  (12, 53, 0, 0, mX10_isShort, [603, 604, 605, 68]),
  (12, 57, 0, 0, mX11_isShort, [1051, 1052, 1053, 79]),
  (12, 58, 0, 1, mX10_has, [607, 608, 609, 68]),
  (12, 61, 0, 1, mX11_has, [1055, 1056, 1057, 79]),
  (12, 62, 0, 2, mX10_best, [631, 632, 633, 68]),
  (12, 65, 0, 2, mX11_best, [1071, 1072, 1073, 79]),
  (12, 66, 0, 1, mX10_rest, [658, 659, 660, 68]),
  (12, 69, 0, 1, mX11_rest, [1083, 1084, 1085, 79]),
  (12, 70, 0, 0, mX10_turns, [662, 663, 664, 68]),
  (12, 73, 0, 0, mX11_turns, [1087, 1088, 1089, 79]),
  (12, 74, 0, 1, mX10_good, [682, 683, 684, 68]),
  (12, 77, 0, 1, mX11_good, [1103, 1104, 1105, 79]),
  (12, 78, 0, 0, mX10_lost, [709, 710, 711, 68]),
  (12, 81, 0, 0, mX11_lost, [1115, 1116, 1117, 79]),
  (12, 82, 0, 2, mX10_gain, [713, 714, 715, 68]),
  (12, 85, 0, 2, mX11_gain, [1119, 1120, 1121, 79]),
  (12, 86, 0, 2, mX10_hand, [737, 738, 739, 68]),
  (12, 89, 0, 2, mX11_hand, [1127, 1128, 1129, 79]),
  (12, 90, 0, 1, mX10_anyway, [745, 746, 747, 68]),
  (12, 93, 0, 1, mX11_anyway, [1131, 1132, 1133, 79]),
  (12, 94, 0, 3, mX10_breach, [758, 759, 760, 68]),
  (12, 97, 0, 3, mX11_breach, [1139, 1140, 1141, 79]),
  (12, 98, 0, 1, mX10_image, [777, 778, 779, 68]),
  (12, 101, 0, 1, mX11_image, [1151, 1152, 1153, 79]),
  (12, 102, 0, 1, mX10_from, [791, 792, 793, 68]),
  (12, 105, 0, 1, mX11_from, [1155, 1156, 1157, 79]),
  (12, 106, 0, 1, mX10_count, [795, 796, 797, 68]),
  (12, 109, 0, 1, mX11_count, [1159, 1160, 1161, 79]),
  (12, 110, 0, 0, mX10_digest, [800, 801, 802, 68]),
  (12, 114, 0, 0, mX11_digest, [1163, 1164, 1165, 79])]
def mlT13 : List MLE := []
def mlT14 : List MLE := []
def mlT (oc : Nat) : List MLE := match oc with
  | 0 => mlT0
  | 1 => mlT1
  | 2 => mlT2
  | 3 => mlT3
  | 4 => mlT4
  | 5 => mlT5
  | 6 => mlT6
  | 7 => mlT7
  | 8 => mlT8
  | 9 => mlT9
  | 10 => mlT10
  | 11 => mlT11
  | 12 => mlT12
  | 13 => mlT13
  | _ => mlT14
def ml (oc idx : Nat) : Option MLE := (mlT oc).find? (fun e => e.2.1 == idx)
def nestT : List Cond := [.methodLinkNest (own 8) 52 yX7_init "GiftMatch", .methodLinkNest (own 10) 29 yX5_init "GiftMatch", .methodLinkNest (own 10) 36 yX9_init "GiftMatch", .methodLinkNest (own 10) 70 yX1_init "GiftMatch", .fieldLinkNest (own 9) 41 "GiftMatch" "ROOTS" "[I" "GiftMatch"]
theorem nestT_in : ∀ w ∈ nestT, w ∈ lw_tbl := by
  intro w hw
  have h : nestT = [99, 205, 228, 332, 553].filterMap (fun i => lw_tbl[i]?) := by decide +kernel
  rw [h] at hw
  obtain ⟨i, -, hi⟩ := List.mem_filterMap.mp hw
  exact List.mem_of_getElem? hi
def gtbl : List Cond := lw_tbl.filter goodWord
theorem in_g {w : Cond} (h : w ∈ lw_tbl) (hg : goodWord w = true) : w ∈ gtbl := List.mem_filter.mpr ⟨h, hg⟩
def mlW (e : MLE) : List Cond := match e with
  | (oc, idx, kind, _, (y, _), _) => match kind with
    | 0 => [.methodLink (own oc) idx y, .instanceMethod y, .selects y.cls y y, .initialized y.cls]
    | 2 => [.methodLink (own oc) idx y, .static y, .initialized y.cls]
    | 3 => [.methodLink (own oc) idx y, .instanceMethod y, .initialized y.cls]
    | 4 => [.instanceMethod y, .initialized y.cls]
    | _ => []
def mlK (oc : Nat) (e : MLE) : Bool := match e with
  | (oc', _, kind, na, (y, _, mL, ret, _, _, oy), ps) => decide (oc' = oc) && decide (mlW e = ps.filterMap (fun i => lw_tbl[i]?)) && decide (y.cls = own oy) && plainName y.cls && decide (mL ≤ 22) && decide (y.cls ≠ "java/lang/invoke/MethodHandle" ∧ y.cls ≠ "java/lang/invoke/VarHandle" ∧ (parseMethodDescriptor y.desc).map (fun d => d.parameters.length) = some na)
      && decide (kind = 0 ∨ kind = 2 ∨ kind = 3 ∨ kind = 4) && ((decide (y.name = "<init>") && decide (ret = none)) || !(decide (kind = 3) || decide (kind = 4))) && ((mlW e).all goodWord) && (!(decide (kind = 4)) || nestT.contains (.methodLinkNest (own oc) e.2.1 y "GiftMatch"))
set_option maxRecDepth 100000 in
theorem mlT0_ok : (mlT0.all (mlK 0)) = true := by decide +kernel
set_option maxRecDepth 100000 in
theorem mlT1_ok : (mlT1.all (mlK 1)) = true := by decide +kernel
set_option maxRecDepth 100000 in
theorem mlT2_ok : (mlT2.all (mlK 2)) = true := by decide +kernel
set_option maxRecDepth 100000 in
theorem mlT3_ok : (mlT3.all (mlK 3)) = true := by decide +kernel
set_option maxRecDepth 100000 in
theorem mlT4_ok : (mlT4.all (mlK 4)) = true := by decide +kernel
set_option maxRecDepth 100000 in
theorem mlT5_ok : (mlT5.all (mlK 5)) = true := by decide +kernel
set_option maxRecDepth 100000 in
theorem mlT6_ok : (mlT6.all (mlK 6)) = true := by decide +kernel
set_option maxRecDepth 100000 in
theorem mlT7_ok : (mlT7.all (mlK 7)) = true := by decide +kernel
set_option maxRecDepth 100000 in
theorem mlT8_ok : (mlT8.all (mlK 8)) = true := by decide +kernel
set_option maxRecDepth 100000 in
theorem mlT9_ok : (mlT9.all (mlK 9)) = true := by decide +kernel
set_option maxRecDepth 100000 in
theorem mlT10_ok : (mlT10.all (mlK 10)) = true := by decide +kernel
set_option maxRecDepth 100000 in
theorem mlT11_ok : (mlT11.all (mlK 11)) = true := by decide +kernel
set_option maxRecDepth 100000 in
theorem mlT12_ok : (mlT12.all (mlK 12)) = true := by decide +kernel
set_option maxRecDepth 100000 in
theorem mlT13_ok : (mlT13.all (mlK 13)) = true := by decide +kernel
set_option maxRecDepth 100000 in
theorem mlT14_ok : (mlT14.all (mlK 14)) = true := by decide +kernel
set_option maxRecDepth 100000 in
theorem cw_X0_init : Cond.code yX0_init cX0_init 2 none ∈ lw_tbl := List.mem_of_getElem? (i := 290) rfl
set_option maxRecDepth 100000 in
theorem cw_X0_choose : Cond.code yX0_choose cX0_choose 10 none ∈ lw_tbl := List.mem_of_getElem? (i := 638) rfl
set_option maxRecDepth 100000 in
theorem cw_X0_foresee : Cond.code yX0_foresee cX0_foresee 6 none ∈ lw_tbl := List.mem_of_getElem? (i := 645) rfl
set_option maxRecDepth 100000 in
theorem cw_X0_weigh : Cond.code yX0_weigh cX0_weigh 7 none ∈ lw_tbl := List.mem_of_getElem? (i := 652) rfl
set_option maxRecDepth 100000 in
theorem cw_X0_enter : Cond.code yX0_enter cX0_enter 3 none ∈ lw_tbl := List.mem_of_getElem? (i := 656) rfl
set_option maxRecDepth 100000 in
theorem cw_X1_init : Cond.code yX1_init cX1_init 1 none ∈ lw_tbl := List.mem_of_getElem? (i := 334) rfl
set_option maxRecDepth 100000 in
theorem cw_X1_find : Cond.code yX1_find cX1_find 6 none ∈ lw_tbl := List.mem_of_getElem? (i := 689) rfl
set_option maxRecDepth 100000 in
theorem cw_X1_fillWorths : Cond.code yX1_fillWorths cX1_fillWorths 6 none ∈ lw_tbl := List.mem_of_getElem? (i := 698) rfl
set_option maxRecDepth 100000 in
theorem cw_X1_firstBest : Cond.code yX1_firstBest cX1_firstBest 8 (some .int) ∈ lw_tbl := List.mem_of_getElem? (i := 704) rfl
set_option maxRecDepth 100000 in
theorem cw_X1_haveBy : Cond.code yX1_haveBy cX1_haveBy 4 (some .int) ∈ lw_tbl := List.mem_of_getElem? (i := 708) rfl
set_option maxRecDepth 100000 in
theorem cw_X2_init : Cond.code yX2_init cX2_init 2 none ∈ lw_tbl := List.mem_of_getElem? (i := 371) rfl
set_option maxRecDepth 100000 in
theorem cw_X2_hold : Cond.code yX2_hold cX2_hold 7 (some .boolean) ∈ lw_tbl := List.mem_of_getElem? (i := 765) rfl
set_option maxRecDepth 100000 in
theorem cw_X2_noneMoreByHands : Cond.code yX2_noneMoreByHands cX2_noneMoreByHands 6 (some .boolean) ∈ lw_tbl := List.mem_of_getElem? (i := 776) rfl
set_option maxRecDepth 100000 in
theorem cw_X2_addedTo : Cond.code yX2_addedTo cX2_addedTo 5 (some .int) ∈ lw_tbl := List.mem_of_getElem? (i := 769) rfl
set_option maxRecDepth 100000 in
theorem cw_X3_init : Cond.code yX3_init cX3_init 2 none ∈ lw_tbl := List.mem_of_getElem? (i := 259) rfl
set_option maxRecDepth 100000 in
theorem cw_X3_fill : Cond.code yX3_fill cX3_fill 3 none ∈ lw_tbl := List.mem_of_getElem? (i := 534) rfl
set_option maxRecDepth 100000 in
theorem cw_X3_partPurse : Cond.code yX3_partPurse cX3_partPurse 4 none ∈ lw_tbl := List.mem_of_getElem? (i := 589) rfl
set_option maxRecDepth 100000 in
theorem cw_X3_partByShare : Cond.code yX3_partByShare cX3_partByShare 4 none ∈ lw_tbl := List.mem_of_getElem? (i := 593) rfl
set_option maxRecDepth 100000 in
theorem cw_X3_partByNumber : Cond.code yX3_partByNumber cX3_partByNumber 4 none ∈ lw_tbl := List.mem_of_getElem? (i := 597) rfl
set_option maxRecDepth 100000 in
theorem cw_X3_partByBound : Cond.code yX3_partByBound cX3_partByBound 7 none ∈ lw_tbl := List.mem_of_getElem? (i := 602) rfl
set_option maxRecDepth 100000 in
theorem cw_X3_haveOf : Cond.code yX3_haveOf cX3_haveOf 6 (some .int) ∈ lw_tbl := List.mem_of_getElem? (i := 623) rfl
set_option maxRecDepth 100000 in
theorem cw_X3_allHave : Cond.code yX3_allHave cX3_allHave 4 (some .int) ∈ lw_tbl := List.mem_of_getElem? (i := 614) rfl
set_option maxRecDepth 100000 in
theorem cw_X4_init : Cond.code yX4_init cX4_init 2 none ∈ lw_tbl := List.mem_of_getElem? (i := 355) rfl
set_option maxRecDepth 100000 in
theorem cw_X4_weighAll : Cond.code yX4_weighAll cX4_weighAll 8 none ∈ lw_tbl := List.mem_of_getElem? (i := 720) rfl
set_option maxRecDepth 100000 in
theorem cw_X4_weigh : Cond.code yX4_weigh cX4_weigh 10 none ∈ lw_tbl := List.mem_of_getElem? (i := 727) rfl
set_option maxRecDepth 100000 in
theorem cw_X4_most : Cond.code yX4_most cX4_most 3 (some .int) ∈ lw_tbl := List.mem_of_getElem? (i := 736) rfl
set_option maxRecDepth 100000 in
theorem cw_X4_leastCost : Cond.code yX4_leastCost cX4_leastCost 4 (some .int) ∈ lw_tbl := List.mem_of_getElem? (i := 744) rfl
set_option maxRecDepth 100000 in
theorem cw_X5_init : Cond.code yX5_init cX5_init 1 none ∈ lw_tbl := List.mem_of_getElem? (i := 207) rfl
set_option maxRecDepth 100000 in
theorem cw_X5_read : Cond.code yX5_read cX5_read 3 none ∈ lw_tbl := List.mem_of_getElem? (i := 471) rfl
set_option maxRecDepth 100000 in
theorem cw_X5_readCharacter : Cond.code yX5_readCharacter cX5_readCharacter 5 none ∈ lw_tbl := List.mem_of_getElem? (i := 475) rfl
set_option maxRecDepth 100000 in
theorem cw_X5_readDigit : Cond.code yX5_readDigit cX5_readDigit 5 none ∈ lw_tbl := List.mem_of_getElem? (i := 479) rfl
set_option maxRecDepth 100000 in
theorem cw_X5_readUnit : Cond.code yX5_readUnit cX5_readUnit 4 (some .boolean) ∈ lw_tbl := List.mem_of_getElem? (i := 487) rfl
set_option maxRecDepth 100000 in
theorem cw_X5_readBehindUnit : Cond.code yX5_readBehindUnit cX5_readBehindUnit 4 (some .boolean) ∈ lw_tbl := List.mem_of_getElem? (i := 495) rfl
set_option maxRecDepth 100000 in
theorem cw_X5_closeBracket : Cond.code yX5_closeBracket cX5_closeBracket 2 (some .boolean) ∈ lw_tbl := List.mem_of_getElem? (i := 499) rfl
set_option maxRecDepth 100000 in
theorem cw_X5_hold : Cond.code yX5_hold cX5_hold 2 none ∈ lw_tbl := List.mem_of_getElem? (i := 491) rfl
set_option maxRecDepth 100000 in
theorem cw_X5_release : Cond.code yX5_release cX5_release 3 none ∈ lw_tbl := List.mem_of_getElem? (i := 503) rfl
set_option maxRecDepth 100000 in
theorem cw_X5_lastRank : Cond.code yX5_lastRank cX5_lastRank 1 (some .int) ∈ lw_tbl := List.mem_of_getElem? (i := 510) rfl
set_option maxRecDepth 100000 in
theorem cw_X5_rankOf : Cond.code yX5_rankOf cX5_rankOf 1 (some .int) ∈ lw_tbl := List.mem_of_getElem? (i := 506) rfl
set_option maxRecDepth 100000 in
theorem cw_X6_init : Cond.code yX6_init cX6_init 2 none ∈ lw_tbl := List.mem_of_getElem? (i := 321) rfl
set_option maxRecDepth 100000 in
theorem cw_X6_run : Cond.code yX6_run cX6_run 5 (some .int) ∈ lw_tbl := List.mem_of_getElem? (i := 669) rfl
set_option maxRecDepth 100000 in
theorem cw_X6_wasBefore : Cond.code yX6_wasBefore cX6_wasBefore 3 (some .boolean) ∈ lw_tbl := List.mem_of_getElem? (i := 681) rfl
set_option maxRecDepth 100000 in
theorem cw_X7_init : Cond.code yX7_init cX7_init 1 none ∈ lw_tbl := List.mem_of_getElem? (i := 101) rfl
set_option maxRecDepth 100000 in
theorem cw_X7_take : Cond.code yX7_take cX7_take 2 none ∈ lw_tbl := List.mem_of_getElem? (i := 789) rfl
set_option maxRecDepth 100000 in
theorem cw_X7_addStep : Cond.code yX7_addStep cX7_addStep 2 none ∈ lw_tbl := List.mem_of_getElem? (i := 483) rfl
set_option maxRecDepth 100000 in
theorem cw_X8_init : Cond.code yX8_init cX8_init 2 none ∈ lw_tbl := List.mem_of_getElem? (i := 94) rfl
set_option maxRecDepth 100000 in
theorem cw_X8_take : Cond.code yX8_take cX8_take 3 none ∈ lw_tbl := List.mem_of_getElem? (i := 784) rfl
set_option maxRecDepth 100000 in
theorem cw_X8_takePeople : Cond.code yX8_takePeople cX8_takePeople 3 none ∈ lw_tbl := List.mem_of_getElem? (i := 752) rfl
set_option maxRecDepth 100000 in
theorem cw_X8_givenBy : Cond.code yX8_givenBy cX8_givenBy 4 (some .int) ∈ lw_tbl := List.mem_of_getElem? (i := 526) rfl
set_option maxRecDepth 100000 in
theorem cw_X8_keptBy : Cond.code yX8_keptBy cX8_keptBy 2 (some .int) ∈ lw_tbl := List.mem_of_getElem? (i := 618) rfl
set_option maxRecDepth 100000 in
theorem cw_X8_givenTo : Cond.code yX8_givenTo cX8_givenTo 4 (some .int) ∈ lw_tbl := List.mem_of_getElem? (i := 558) rfl
set_option maxRecDepth 100000 in
theorem cw_X8_givenInAll : Cond.code yX8_givenInAll cX8_givenInAll 3 (some .int) ∈ lw_tbl := List.mem_of_getElem? (i := 757) rfl
set_option maxRecDepth 100000 in
theorem cw_X8_coinInAll : Cond.code yX8_coinInAll cX8_coinInAll 3 (some .int) ∈ lw_tbl := List.mem_of_getElem? (i := 693) rfl
set_option maxRecDepth 100000 in
theorem cw_X8_packedGifts : Cond.code yX8_packedGifts cX8_packedGifts 4 (some .long) ∈ lw_tbl := List.mem_of_getElem? (i := 673) rfl
set_option maxRecDepth 100000 in
theorem cw_X8_worthOf : Cond.code yX8_worthOf cX8_worthOf 7 (some .int) ∈ lw_tbl := List.mem_of_getElem? (i := 627) rfl
set_option maxRecDepth 100000 in
theorem cw_X9_init : Cond.code yX9_init cX9_init 1 none ∈ lw_tbl := List.mem_of_getElem? (i := 230) rfl
set_option maxRecDepth 100000 in
theorem cw_X9_clear : Cond.code yX9_clear cX9_clear 1 none ∈ lw_tbl := List.mem_of_getElem? (i := 542) rfl
set_option maxRecDepth 100000 in
theorem cw_X9_see : Cond.code yX9_see cX9_see 2 none ∈ lw_tbl := List.mem_of_getElem? (i := 546) rfl
set_option maxRecDepth 100000 in
theorem cw_X9_seeAllBut : Cond.code yX9_seeAllBut cX9_seeAllBut 5 none ∈ lw_tbl := List.mem_of_getElem? (i := 538) rfl
set_option maxRecDepth 100000 in
theorem cw_X9_toldBy : Cond.code yX9_toldBy cX9_toldBy 4 (some .int) ∈ lw_tbl := List.mem_of_getElem? (i := 562) rfl
set_option maxRecDepth 100000 in
theorem cw_X9_doStep : Cond.code yX9_doStep cX9_doStep 6 none ∈ lw_tbl := List.mem_of_getElem? (i := 570) rfl
set_option maxRecDepth 100000 in
theorem cw_X9_joined : Cond.code yX9_joined cX9_joined 5 (some .long) ∈ lw_tbl := List.mem_of_getElem? (i := 578) rfl
set_option maxRecDepth 100000 in
theorem cw_X9_push : Cond.code yX9_push cX9_push 3 none ∈ lw_tbl := List.mem_of_getElem? (i := 566) rfl
set_option maxRecDepth 100000 in
theorem cw_X9_pop : Cond.code yX9_pop cX9_pop 1 (some .long) ∈ lw_tbl := List.mem_of_getElem? (i := 575) rfl
set_option maxRecDepth 100000 in
theorem cw_X10_init : Cond.code yX10_init cX10_init 2 none ∈ lw_tbl := List.mem_of_getElem? (i := 86) rfl
set_option maxRecDepth 100000 in
theorem cw_X10_giver : Cond.code yX10_giver cX10_giver 2 (some .int) ∈ lw_tbl := List.mem_of_getElem? (i := 417) rfl
set_option maxRecDepth 100000 in
theorem cw_X10_work : Cond.code yX10_work cX10_work 2 (some .int) ∈ lw_tbl := List.mem_of_getElem? (i := 424) rfl
set_option maxRecDepth 100000 in
theorem cw_X10_worth : Cond.code yX10_worth cX10_worth 5 (some .int) ∈ lw_tbl := List.mem_of_getElem? (i := 428) rfl
set_option maxRecDepth 100000 in
theorem cw_X10_set : Cond.code yX10_set cX10_set 3 (some .int) ∈ lw_tbl := List.mem_of_getElem? (i := 444) rfl
set_option maxRecDepth 100000 in
theorem cw_X10_write : Cond.code yX10_write cX10_write 4 (some .int) ∈ lw_tbl := List.mem_of_getElem? (i := 467) rfl
set_option maxRecDepth 100000 in
theorem cw_X10_erase : Cond.code yX10_erase cX10_erase 4 (some .int) ∈ lw_tbl := List.mem_of_getElem? (i := 514) rfl
set_option maxRecDepth 100000 in
theorem cw_X10_fault : Cond.code yX10_fault cX10_fault 2 (some .int) ∈ lw_tbl := List.mem_of_getElem? (i := 518) rfl
set_option maxRecDepth 100000 in
theorem cw_X10_give : Cond.code yX10_give cX10_give 6 (some .int) ∈ lw_tbl := List.mem_of_getElem? (i := 522) rfl
set_option maxRecDepth 100000 in
theorem cw_X10_amount : Cond.code yX10_amount cX10_amount 3 (some .int) ∈ lw_tbl := List.mem_of_getElem? (i := 530) rfl
set_option maxRecDepth 100000 in
theorem cw_X10_isShort : Cond.code yX10_isShort cX10_isShort 1 (some .int) ∈ lw_tbl := List.mem_of_getElem? (i := 606) rfl
set_option maxRecDepth 100000 in
theorem cw_X10_has : Cond.code yX10_has cX10_has 2 (some .int) ∈ lw_tbl := List.mem_of_getElem? (i := 610) rfl
set_option maxRecDepth 100000 in
theorem cw_X10_best : Cond.code yX10_best cX10_best 3 (some .int) ∈ lw_tbl := List.mem_of_getElem? (i := 634) rfl
set_option maxRecDepth 100000 in
theorem cw_X10_rest : Cond.code yX10_rest cX10_rest 4 (some .int) ∈ lw_tbl := List.mem_of_getElem? (i := 661) rfl
set_option maxRecDepth 100000 in
theorem cw_X10_turns : Cond.code yX10_turns cX10_turns 1 (some .int) ∈ lw_tbl := List.mem_of_getElem? (i := 665) rfl
set_option maxRecDepth 100000 in
theorem cw_X10_good : Cond.code yX10_good cX10_good 2 (some .int) ∈ lw_tbl := List.mem_of_getElem? (i := 685) rfl
set_option maxRecDepth 100000 in
theorem cw_X10_lost : Cond.code yX10_lost cX10_lost 1 (some .int) ∈ lw_tbl := List.mem_of_getElem? (i := 712) rfl
set_option maxRecDepth 100000 in
theorem cw_X10_gain : Cond.code yX10_gain cX10_gain 3 (some .int) ∈ lw_tbl := List.mem_of_getElem? (i := 716) rfl
set_option maxRecDepth 100000 in
theorem cw_X10_hand : Cond.code yX10_hand cX10_hand 4 (some .int) ∈ lw_tbl := List.mem_of_getElem? (i := 740) rfl
set_option maxRecDepth 100000 in
theorem cw_X10_anyway : Cond.code yX10_anyway cX10_anyway 3 (some .int) ∈ lw_tbl := List.mem_of_getElem? (i := 748) rfl
set_option maxRecDepth 100000 in
theorem cw_X10_breach : Cond.code yX10_breach cX10_breach 7 (some .int) ∈ lw_tbl := List.mem_of_getElem? (i := 761) rfl
set_option maxRecDepth 100000 in
theorem cw_X10_image : Cond.code yX10_image cX10_image 2 (some .int) ∈ lw_tbl := List.mem_of_getElem? (i := 780) rfl
set_option maxRecDepth 100000 in
theorem cw_X10_from : Cond.code yX10_from cX10_from 2 (some .int) ∈ lw_tbl := List.mem_of_getElem? (i := 794) rfl
set_option maxRecDepth 100000 in
theorem cw_X10_count : Cond.code yX10_count cX10_count 2 (some .int) ∈ lw_tbl := List.mem_of_getElem? (i := 798) rfl
set_option maxRecDepth 100000 in
theorem cw_X10_digest : Cond.code yX10_digest cX10_digest 4 (some .long) ∈ lw_tbl := List.mem_of_getElem? (i := 803) rfl
set_option maxRecDepth 100000 in
theorem cw_X10_digestGivers : Cond.code yX10_digestGivers cX10_digestGivers 8 (some .long) ∈ lw_tbl := List.mem_of_getElem? (i := 810) rfl
set_option maxRecDepth 100000 in
theorem cw_X10_digestWorks : Cond.code yX10_digestWorks cX10_digestWorks 6 (some .long) ∈ lw_tbl := List.mem_of_getElem? (i := 814) rfl
set_option maxRecDepth 100000 in
theorem cw_X10_digestRules : Cond.code yX10_digestRules cX10_digestRules 8 (some .long) ∈ lw_tbl := List.mem_of_getElem? (i := 818) rfl
set_option maxRecDepth 100000 in
theorem cw_X10_setKeep : Cond.code yX10_setKeep cX10_setKeep 3 (some .int) ∈ lw_tbl := List.mem_of_getElem? (i := 448) rfl
set_option maxRecDepth 100000 in
theorem cw_X10_setTheRule : Cond.code yX10_setTheRule cX10_setTheRule 3 (some .int) ∈ lw_tbl := List.mem_of_getElem? (i := 452) rfl
set_option maxRecDepth 100000 in
theorem cw_X10_setPurse : Cond.code yX10_setPurse cX10_setPurse 3 (some .int) ∈ lw_tbl := List.mem_of_getElem? (i := 459) rfl
set_option maxRecDepth 100000 in
theorem cw_X10_setParted : Cond.code yX10_setParted cX10_setParted 3 (some .int) ∈ lw_tbl := List.mem_of_getElem? (i := 463) rfl
set_option maxRecDepth 100000 in
theorem cw_X10_isWithin : Cond.code yX10_isWithin cX10_isWithin 2 (some .boolean) ∈ lw_tbl := List.mem_of_getElem? (i := 420) rfl
set_option maxRecDepth 100000 in
theorem cw_X10_isRule : Cond.code yX10_isRule cX10_isRule 1 (some .boolean) ∈ lw_tbl := List.mem_of_getElem? (i := 455) rfl
set_option maxRecDepth 100000 in
theorem cw_X10_isGiver : Cond.code yX10_isGiver cX10_isGiver 2 (some .boolean) ∈ lw_tbl := List.mem_of_getElem? (i := 436) rfl
set_option maxRecDepth 100000 in
theorem cw_X10_isWork : Cond.code yX10_isWork cX10_isWork 2 (some .boolean) ∈ lw_tbl := List.mem_of_getElem? (i := 440) rfl
set_option maxRecDepth 100000 in
theorem cw_X10_isPair : Cond.code yX10_isPair cX10_isPair 3 (some .boolean) ∈ lw_tbl := List.mem_of_getElem? (i := 432) rfl
set_option maxRecDepth 100000 in
theorem cw_X11_init : Cond.code yX11_init cX11_init 1 none ∈ lw_tbl := List.mem_of_getElem? (i := 823) rfl
set_option maxRecDepth 100000 in
theorem cw_X11_in : Cond.code yX11_in cX11_in 6 (some .boolean) ∈ lw_tbl := List.mem_of_getElem? (i := 920) rfl
set_option maxRecDepth 100000 in
theorem cw_X11_givers : Cond.code yX11_givers cX11_givers 1 (some .int) ∈ lw_tbl := List.mem_of_getElem? (i := 924) rfl
set_option maxRecDepth 100000 in
theorem cw_X11_works : Cond.code yX11_works cX11_works 1 (some .int) ∈ lw_tbl := List.mem_of_getElem? (i := 933) rfl
set_option maxRecDepth 100000 in
theorem cw_X11_isGiver : Cond.code yX11_isGiver cX11_isGiver 2 (some .boolean) ∈ lw_tbl := List.mem_of_getElem? (i := 941) rfl
set_option maxRecDepth 100000 in
theorem cw_X11_isWork : Cond.code yX11_isWork cX11_isWork 2 (some .boolean) ∈ lw_tbl := List.mem_of_getElem? (i := 945) rfl
set_option maxRecDepth 100000 in
theorem cw_X11_gift : Cond.code yX11_gift cX11_gift 3 (some .int) ∈ lw_tbl := List.mem_of_getElem? (i := 1019) rfl
set_option maxRecDepth 100000 in
theorem cw_X11_giver : Cond.code yX11_giver cX11_giver 2 (some .int) ∈ lw_tbl := List.mem_of_getElem? (i := 916) rfl
set_option maxRecDepth 100000 in
theorem cw_X11_work : Cond.code yX11_work cX11_work 2 (some .int) ∈ lw_tbl := List.mem_of_getElem? (i := 928) rfl
set_option maxRecDepth 100000 in
theorem cw_X11_worth : Cond.code yX11_worth cX11_worth 5 (some .int) ∈ lw_tbl := List.mem_of_getElem? (i := 937) rfl
set_option maxRecDepth 100000 in
theorem cw_X11_set : Cond.code yX11_set cX11_set 4 (some .int) ∈ lw_tbl := List.mem_of_getElem? (i := 951) rfl
set_option maxRecDepth 100000 in
theorem cw_X11_isRule : Cond.code yX11_isRule cX11_isRule 1 (some .boolean) ∈ lw_tbl := List.mem_of_getElem? (i := 961) rfl
set_option maxRecDepth 100000 in
theorem cw_X11_write : Cond.code yX11_write cX11_write 4 (some .int) ∈ lw_tbl := List.mem_of_getElem? (i := 958) rfl
set_option maxRecDepth 100000 in
theorem cw_X11_erase : Cond.code yX11_erase cX11_erase 3 (some .int) ∈ lw_tbl := List.mem_of_getElem? (i := 966) rfl
set_option maxRecDepth 100000 in
theorem cw_X11_textLong : Cond.code yX11_textLong cX11_textLong 1 (some .int) ∈ lw_tbl := List.mem_of_getElem? (i := 982) rfl
set_option maxRecDepth 100000 in
theorem cw_X11_charAt : Cond.code yX11_charAt cX11_charAt 2 (some .int) ∈ lw_tbl := List.mem_of_getElem? (i := 986) rfl
set_option maxRecDepth 100000 in
theorem cw_X11_ahead : Cond.code yX11_ahead cX11_ahead 1 (some .int) ∈ lw_tbl := List.mem_of_getElem? (i := 978) rfl
set_option maxRecDepth 100000 in
theorem cw_X11_rank : Cond.code yX11_rank cX11_rank 1 (some .int) ∈ lw_tbl := List.mem_of_getElem? (i := 1007) rfl
set_option maxRecDepth 100000 in
theorem cw_X11_workOut : Cond.code yX11_workOut cX11_workOut 7 none ∈ lw_tbl := List.mem_of_getElem? (i := 1011) rfl
set_option maxRecDepth 100000 in
theorem cw_X11_workDown : Cond.code yX11_workDown cX11_workDown 2 none ∈ lw_tbl := List.mem_of_getElem? (i := 1004) rfl
set_option maxRecDepth 100000 in
theorem cw_X11_stands : Cond.code yX11_stands cX11_stands 5 none ∈ lw_tbl := List.mem_of_getElem? (i := 997) rfl
set_option maxRecDepth 100000 in
theorem cw_X11_nameOf : Cond.code yX11_nameOf cX11_nameOf 1 (some .int) ∈ lw_tbl := List.mem_of_getElem? (i := 1000) rfl
set_option maxRecDepth 100000 in
theorem cw_X11_digits : Cond.code yX11_digits cX11_digits 4 (some .long) ∈ lw_tbl := List.mem_of_getElem? (i := 992) rfl
set_option maxRecDepth 100000 in
theorem cw_X11_reads : Cond.code yX11_reads cX11_reads 5 (some .boolean) ∈ lw_tbl := List.mem_of_getElem? (i := 974) rfl
set_option maxRecDepth 100000 in
theorem cw_X11_fault : Cond.code yX11_fault cX11_fault 3 (some .int) ∈ lw_tbl := List.mem_of_getElem? (i := 970) rfl
set_option maxRecDepth 100000 in
theorem cw_X11_rootOf : Cond.code yX11_rootOf cX11_rootOf 8 (some .long) ∈ lw_tbl := List.mem_of_getElem? (i := 1039) rfl
set_option maxRecDepth 100000 in
theorem cw_X11_putHand : Cond.code yX11_putHand cX11_putHand 2 none ∈ lw_tbl := List.mem_of_getElem? (i := 1031) rfl
set_option maxRecDepth 100000 in
theorem cw_X11_addedBy : Cond.code yX11_addedBy cX11_addedBy 14 (some .int) ∈ lw_tbl := List.mem_of_getElem? (i := 1035) rfl
set_option maxRecDepth 100000 in
theorem cw_X11_addUp : Cond.code yX11_addUp cX11_addUp 5 none ∈ lw_tbl := List.mem_of_getElem? (i := 1027) rfl
set_option maxRecDepth 100000 in
theorem cw_X11_part : Cond.code yX11_part cX11_part 6 none ∈ lw_tbl := List.mem_of_getElem? (i := 1046) rfl
set_option maxRecDepth 100000 in
theorem cw_X11_below : Cond.code yX11_below cX11_below 4 (some .int) ∈ lw_tbl := List.mem_of_getElem? (i := 1050) rfl
set_option maxRecDepth 100000 in
theorem cw_X11_worthOf : Cond.code yX11_worthOf cX11_worthOf 7 (some .int) ∈ lw_tbl := List.mem_of_getElem? (i := 1070) rfl
set_option maxRecDepth 100000 in
theorem cw_X11_hasNow : Cond.code yX11_hasNow cX11_hasNow 5 (some .int) ∈ lw_tbl := List.mem_of_getElem? (i := 1066) rfl
set_option maxRecDepth 100000 in
theorem cw_X11_allNow : Cond.code yX11_allNow cX11_allNow 3 (some .int) ∈ lw_tbl := List.mem_of_getElem? (i := 1062) rfl
set_option maxRecDepth 100000 in
theorem cw_X11_give : Cond.code yX11_give cX11_give 6 (some .int) ∈ lw_tbl := List.mem_of_getElem? (i := 1015) rfl
set_option maxRecDepth 100000 in
theorem cw_X11_amount : Cond.code yX11_amount cX11_amount 3 (some .int) ∈ lw_tbl := List.mem_of_getElem? (i := 1023) rfl
set_option maxRecDepth 100000 in
theorem cw_X11_isShort : Cond.code yX11_isShort cX11_isShort 3 (some .int) ∈ lw_tbl := List.mem_of_getElem? (i := 1054) rfl
set_option maxRecDepth 100000 in
theorem cw_X11_has : Cond.code yX11_has cX11_has 2 (some .int) ∈ lw_tbl := List.mem_of_getElem? (i := 1058) rfl
set_option maxRecDepth 100000 in
theorem cw_X11_setRow : Cond.code yX11_setRow cX11_setRow 5 none ∈ lw_tbl := List.mem_of_getElem? (i := 1082) rfl
set_option maxRecDepth 100000 in
theorem cw_X11_findBest : Cond.code yX11_findBest cX11_findBest 8 (some .int) ∈ lw_tbl := List.mem_of_getElem? (i := 1078) rfl
set_option maxRecDepth 100000 in
theorem cw_X11_best : Cond.code yX11_best cX11_best 4 (some .int) ∈ lw_tbl := List.mem_of_getElem? (i := 1074) rfl
set_option maxRecDepth 100000 in
theorem cw_X11_rest : Cond.code yX11_rest cX11_rest 4 (some .int) ∈ lw_tbl := List.mem_of_getElem? (i := 1086) rfl
set_option maxRecDepth 100000 in
theorem cw_X11_isAgain : Cond.code yX11_isAgain cX11_isAgain 5 (some .boolean) ∈ lw_tbl := List.mem_of_getElem? (i := 1102) rfl
set_option maxRecDepth 100000 in
theorem cw_X11_note : Cond.code yX11_note cX11_note 3 none ∈ lw_tbl := List.mem_of_getElem? (i := 1098) rfl
set_option maxRecDepth 100000 in
theorem cw_X11_goByTurns : Cond.code yX11_goByTurns cX11_goByTurns 5 (some .int) ∈ lw_tbl := List.mem_of_getElem? (i := 1094) rfl
set_option maxRecDepth 100000 in
theorem cw_X11_turns : Cond.code yX11_turns cX11_turns 1 (some .int) ∈ lw_tbl := List.mem_of_getElem? (i := 1090) rfl
set_option maxRecDepth 100000 in
theorem cw_X11_allCoin : Cond.code yX11_allCoin cX11_allCoin 3 (some .int) ∈ lw_tbl := List.mem_of_getElem? (i := 1114) rfl
set_option maxRecDepth 100000 in
theorem cw_X11_findGood : Cond.code yX11_findGood cX11_findGood 9 (some .int) ∈ lw_tbl := List.mem_of_getElem? (i := 1110) rfl
set_option maxRecDepth 100000 in
theorem cw_X11_good : Cond.code yX11_good cX11_good 3 (some .int) ∈ lw_tbl := List.mem_of_getElem? (i := 1106) rfl
set_option maxRecDepth 100000 in
theorem cw_X11_lost : Cond.code yX11_lost cX11_lost 1 (some .int) ∈ lw_tbl := List.mem_of_getElem? (i := 1118) rfl
set_option maxRecDepth 100000 in
theorem cw_X11_findHands : Cond.code yX11_findHands cX11_findHands 10 none ∈ lw_tbl := List.mem_of_getElem? (i := 1126) rfl
set_option maxRecDepth 100000 in
theorem cw_X11_gain : Cond.code yX11_gain cX11_gain 5 (some .int) ∈ lw_tbl := List.mem_of_getElem? (i := 1122) rfl
set_option maxRecDepth 100000 in
theorem cw_X11_hand : Cond.code yX11_hand cX11_hand 6 (some .int) ∈ lw_tbl := List.mem_of_getElem? (i := 1130) rfl
set_option maxRecDepth 100000 in
theorem cw_X11_coinsGiven : Cond.code yX11_coinsGiven cX11_coinsGiven 3 (some .int) ∈ lw_tbl := List.mem_of_getElem? (i := 1138) rfl
set_option maxRecDepth 100000 in
theorem cw_X11_anyway : Cond.code yX11_anyway cX11_anyway 6 (some .int) ∈ lw_tbl := List.mem_of_getElem? (i := 1134) rfl
set_option maxRecDepth 100000 in
theorem cw_X11_addedTo : Cond.code yX11_addedTo cX11_addedTo 5 (some .int) ∈ lw_tbl := List.mem_of_getElem? (i := 1150) rfl
set_option maxRecDepth 100000 in
theorem cw_X11_holds : Cond.code yX11_holds cX11_holds 9 (some .boolean) ∈ lw_tbl := List.mem_of_getElem? (i := 1146) rfl
set_option maxRecDepth 100000 in
theorem cw_X11_breach : Cond.code yX11_breach cX11_breach 6 (some .int) ∈ lw_tbl := List.mem_of_getElem? (i := 1142) rfl
set_option maxRecDepth 100000 in
theorem cw_X11_image : Cond.code yX11_image cX11_image 3 (some .int) ∈ lw_tbl := List.mem_of_getElem? (i := 1154) rfl
set_option maxRecDepth 100000 in
theorem cw_X11_from : Cond.code yX11_from cX11_from 3 (some .int) ∈ lw_tbl := List.mem_of_getElem? (i := 1158) rfl
set_option maxRecDepth 100000 in
theorem cw_X11_count : Cond.code yX11_count cX11_count 2 (some .int) ∈ lw_tbl := List.mem_of_getElem? (i := 1162) rfl
set_option maxRecDepth 100000 in
theorem cw_X11_digest : Cond.code yX11_digest cX11_digest 6 (some .long) ∈ lw_tbl := List.mem_of_getElem? (i := 1166) rfl
set_option maxRecDepth 100000 in
theorem cw_J9_max_7cf53 : Cond.code yJ9_max_7cf53 cJ9_max_7cf53 2 (some .int) ∈ lw_tbl := List.mem_of_getElem? (i := 549) rfl
set_option maxRecDepth 100000 in
theorem cw_J9_max_f86c9 : Cond.code yJ9_max_f86c9 cJ9_max_f86c9 4 (some .long) ∈ lw_tbl := List.mem_of_getElem? (i := 585) rfl
set_option maxRecDepth 100000 in
theorem cw_J9_min_7cf53 : Cond.code yJ9_min_7cf53 cJ9_min_7cf53 2 (some .int) ∈ lw_tbl := List.mem_of_getElem? (i := 552) rfl
set_option maxRecDepth 100000 in
theorem cw_J9_min_f86c9 : Cond.code yJ9_min_f86c9 cJ9_min_f86c9 4 (some .long) ∈ lw_tbl := List.mem_of_getElem? (i := 582) rfl
def mlC (e : MLE) : Cond := .code e.2.2.2.2.1.1 e.2.2.2.2.1.2.1 e.2.2.2.2.1.2.2.1 e.2.2.2.2.1.2.2.2.1
theorem mlT0_cw : ∀ e ∈ mlT0, mlC e ∈ lw_tbl := List.forall_mem_cons.mpr ⟨cw_X3_fill, List.forall_mem_cons.mpr ⟨cw_X8_keptBy, List.forall_mem_cons.mpr ⟨cw_X3_haveOf, List.forall_mem_cons.mpr ⟨cw_X0_foresee, List.forall_mem_cons.mpr ⟨cw_X0_weigh, List.forall_mem_cons.mpr ⟨cw_X9_seeAllBut, List.forall_mem_cons.mpr ⟨cw_X9_see, List.forall_mem_cons.mpr ⟨cw_X9_toldBy, List.forall_mem_cons.mpr ⟨cw_X0_enter, List.forall_mem_cons.mpr ⟨cw_X3_partPurse, fun _ h => absurd h List.not_mem_nil⟩⟩⟩⟩⟩⟩⟩⟩⟩⟩
theorem mlT1_cw : ∀ e ∈ mlT1, mlC e ∈ lw_tbl := List.forall_mem_cons.mpr ⟨cw_X8_coinInAll, List.forall_mem_cons.mpr ⟨cw_X1_fillWorths, List.forall_mem_cons.mpr ⟨cw_X1_firstBest, List.forall_mem_cons.mpr ⟨cw_X1_haveBy, List.forall_mem_cons.mpr ⟨cw_X8_worthOf, fun _ h => absurd h List.not_mem_nil⟩⟩⟩⟩⟩
theorem mlT2_cw : ∀ e ∈ mlT2, mlC e ∈ lw_tbl := List.forall_mem_cons.mpr ⟨cw_X2_addedTo, List.forall_mem_cons.mpr ⟨cw_X2_noneMoreByHands, List.forall_mem_cons.mpr ⟨cw_X9_clear, List.forall_mem_cons.mpr ⟨cw_X9_see, List.forall_mem_cons.mpr ⟨cw_X9_toldBy, fun _ h => absurd h List.not_mem_nil⟩⟩⟩⟩⟩
theorem mlT3_cw : ∀ e ∈ mlT3, mlC e ∈ lw_tbl := List.forall_mem_cons.mpr ⟨cw_X9_seeAllBut, List.forall_mem_cons.mpr ⟨cw_X8_givenTo, List.forall_mem_cons.mpr ⟨cw_X9_toldBy, List.forall_mem_cons.mpr ⟨cw_X3_partPurse, List.forall_mem_cons.mpr ⟨cw_X3_partByShare, List.forall_mem_cons.mpr ⟨cw_X3_partByNumber, List.forall_mem_cons.mpr ⟨cw_X3_partByBound, List.forall_mem_cons.mpr ⟨cw_X8_worthOf, List.forall_mem_cons.mpr ⟨cw_X8_keptBy, List.forall_mem_cons.mpr ⟨cw_X3_haveOf, fun _ h => absurd h List.not_mem_nil⟩⟩⟩⟩⟩⟩⟩⟩⟩⟩
theorem mlT4_cw : ∀ e ∈ mlT4, mlC e ∈ lw_tbl := List.forall_mem_cons.mpr ⟨cw_X3_fill, List.forall_mem_cons.mpr ⟨cw_X8_keptBy, List.forall_mem_cons.mpr ⟨cw_X3_haveOf, List.forall_mem_cons.mpr ⟨cw_X4_weigh, List.forall_mem_cons.mpr ⟨cw_X9_seeAllBut, List.forall_mem_cons.mpr ⟨cw_X9_see, List.forall_mem_cons.mpr ⟨cw_X9_toldBy, List.forall_mem_cons.mpr ⟨cw_X3_partPurse, fun _ h => absurd h List.not_mem_nil⟩⟩⟩⟩⟩⟩⟩⟩
theorem mlT5_cw : ∀ e ∈ mlT5, mlC e ∈ lw_tbl := List.forall_mem_cons.mpr ⟨cw_X5_readCharacter, List.forall_mem_cons.mpr ⟨cw_X5_release, List.forall_mem_cons.mpr ⟨cw_X5_readDigit, List.forall_mem_cons.mpr ⟨cw_X5_readUnit, List.forall_mem_cons.mpr ⟨cw_X5_readBehindUnit, List.forall_mem_cons.mpr ⟨cw_X7_addStep, List.forall_mem_cons.mpr ⟨cw_X5_hold, List.forall_mem_cons.mpr ⟨cw_X5_closeBracket, List.forall_mem_cons.mpr ⟨cw_X5_rankOf, List.forall_mem_cons.mpr ⟨cw_X5_lastRank, fun _ h => absurd h List.not_mem_nil⟩⟩⟩⟩⟩⟩⟩⟩⟩⟩
theorem mlT6_cw : ∀ e ∈ mlT6, mlC e ∈ lw_tbl := List.forall_mem_cons.mpr ⟨cw_X8_packedGifts, List.forall_mem_cons.mpr ⟨cw_X0_choose, List.forall_mem_cons.mpr ⟨cw_X6_wasBefore, fun _ h => absurd h List.not_mem_nil⟩⟩⟩
theorem mlT7_cw : ∀ e ∈ mlT7, mlC e ∈ lw_tbl := fun _ h => absurd h List.not_mem_nil
theorem mlT8_cw : ∀ e ∈ mlT8, mlC e ∈ lw_tbl := List.forall_mem_cons.mpr ⟨cw_X7_init, List.forall_mem_cons.mpr ⟨cw_X8_takePeople, List.forall_mem_cons.mpr ⟨cw_X7_take, List.forall_mem_cons.mpr ⟨cw_X8_givenBy, fun _ h => absurd h List.not_mem_nil⟩⟩⟩⟩
theorem mlT9_cw : ∀ e ∈ mlT9, mlC e ∈ lw_tbl := List.forall_mem_cons.mpr ⟨cw_X9_clear, List.forall_mem_cons.mpr ⟨cw_X9_see, List.forall_mem_cons.mpr ⟨cw_X9_push, List.forall_mem_cons.mpr ⟨cw_X9_doStep, List.forall_mem_cons.mpr ⟨cw_X9_pop, List.forall_mem_cons.mpr ⟨cw_X9_joined, fun _ h => absurd h List.not_mem_nil⟩⟩⟩⟩⟩⟩
theorem mlT10_cw : ∀ e ∈ mlT10, mlC e ∈ lw_tbl := List.forall_mem_cons.mpr ⟨cw_X8_init, List.forall_mem_cons.mpr ⟨cw_X5_init, List.forall_mem_cons.mpr ⟨cw_X9_init, List.forall_mem_cons.mpr ⟨cw_X3_init, List.forall_mem_cons.mpr ⟨cw_X0_init, List.forall_mem_cons.mpr ⟨cw_X6_init, List.forall_mem_cons.mpr ⟨cw_X1_init, List.forall_mem_cons.mpr ⟨cw_X4_init, List.forall_mem_cons.mpr ⟨cw_X2_init, List.forall_mem_cons.mpr ⟨cw_X10_isWithin, List.forall_mem_cons.mpr ⟨cw_X10_isPair, List.forall_mem_cons.mpr ⟨cw_X10_setKeep, List.forall_mem_cons.mpr ⟨cw_X10_setTheRule, List.forall_mem_cons.mpr ⟨cw_X10_setPurse, List.forall_mem_cons.mpr ⟨cw_X10_setParted, List.forall_mem_cons.mpr ⟨cw_X10_isRule, List.forall_mem_cons.mpr ⟨cw_X5_read, List.forall_mem_cons.mpr ⟨cw_X8_givenBy, List.forall_mem_cons.mpr ⟨cw_X10_isWork, List.forall_mem_cons.mpr ⟨cw_X3_fill, List.forall_mem_cons.mpr ⟨cw_X10_isGiver, List.forall_mem_cons.mpr ⟨cw_X3_allHave, List.forall_mem_cons.mpr ⟨cw_X8_keptBy, List.forall_mem_cons.mpr ⟨cw_X3_haveOf, List.forall_mem_cons.mpr ⟨cw_X0_choose, List.forall_mem_cons.mpr ⟨cw_X6_run, List.forall_mem_cons.mpr ⟨cw_X1_find, List.forall_mem_cons.mpr ⟨cw_X4_weighAll, List.forall_mem_cons.mpr ⟨cw_X4_most, List.forall_mem_cons.mpr ⟨cw_X4_leastCost, List.forall_mem_cons.mpr ⟨cw_X8_takePeople, List.forall_mem_cons.mpr ⟨cw_X8_givenInAll, List.forall_mem_cons.mpr ⟨cw_X2_hold, List.forall_mem_cons.mpr ⟨cw_X8_take, List.forall_mem_cons.mpr ⟨cw_X8_coinInAll, List.forall_mem_cons.mpr ⟨cw_X10_count, List.forall_mem_cons.mpr ⟨cw_X10_digestGivers, List.forall_mem_cons.mpr ⟨cw_X10_digestWorks, List.forall_mem_cons.mpr ⟨cw_X10_digestRules, fun _ h => absurd h List.not_mem_nil⟩⟩⟩⟩⟩⟩⟩⟩⟩⟩⟩⟩⟩⟩⟩⟩⟩⟩⟩⟩⟩⟩⟩⟩⟩⟩⟩⟩⟩⟩⟩⟩⟩⟩⟩⟩⟩⟩⟩
theorem mlT11_cw : ∀ e ∈ mlT11, mlC e ∈ lw_tbl := List.forall_mem_cons.mpr ⟨cw_X11_givers, List.forall_mem_cons.mpr ⟨cw_X11_in, List.forall_mem_cons.mpr ⟨cw_X11_works, List.forall_mem_cons.mpr ⟨cw_X11_isGiver, List.forall_mem_cons.mpr ⟨cw_X11_isWork, List.forall_mem_cons.mpr ⟨cw_X11_isRule, List.forall_mem_cons.mpr ⟨cw_X11_textLong, List.forall_mem_cons.mpr ⟨cw_X11_charAt, List.forall_mem_cons.mpr ⟨cw_X11_rank, List.forall_mem_cons.mpr ⟨cw_X11_workOut, List.forall_mem_cons.mpr ⟨cw_X11_ahead, List.forall_mem_cons.mpr ⟨cw_X11_digits, List.forall_mem_cons.mpr ⟨cw_X11_stands, List.forall_mem_cons.mpr ⟨cw_X11_nameOf, List.forall_mem_cons.mpr ⟨cw_X11_workDown, List.forall_mem_cons.mpr ⟨cw_X11_reads, List.forall_mem_cons.mpr ⟨cw_X11_rootOf, List.forall_mem_cons.mpr ⟨cw_X11_gift, List.forall_mem_cons.mpr ⟨cw_X11_putHand, List.forall_mem_cons.mpr ⟨cw_X11_addedBy, List.forall_mem_cons.mpr ⟨cw_X11_part, List.forall_mem_cons.mpr ⟨cw_X11_below, List.forall_mem_cons.mpr ⟨cw_X11_worthOf, List.forall_mem_cons.mpr ⟨cw_X11_addUp, List.forall_mem_cons.mpr ⟨cw_X11_hasNow, List.forall_mem_cons.mpr ⟨cw_X11_allNow, List.forall_mem_cons.mpr ⟨cw_X11_setRow, List.forall_mem_cons.mpr ⟨cw_X11_findBest, List.forall_mem_cons.mpr ⟨cw_X11_note, List.forall_mem_cons.mpr ⟨cw_X11_isAgain, List.forall_mem_cons.mpr ⟨cw_X11_goByTurns, List.forall_mem_cons.mpr ⟨cw_X11_allCoin, List.forall_mem_cons.mpr ⟨cw_X11_findGood, List.forall_mem_cons.mpr ⟨cw_X11_findHands, List.forall_mem_cons.mpr ⟨cw_X11_coinsGiven, List.forall_mem_cons.mpr ⟨cw_X11_addedTo, List.forall_mem_cons.mpr ⟨cw_X11_holds, List.forall_mem_cons.mpr ⟨cw_X11_count, List.forall_mem_cons.mpr ⟨cw_X11_amount, fun _ h => absurd h List.not_mem_nil⟩⟩⟩⟩⟩⟩⟩⟩⟩⟩⟩⟩⟩⟩⟩⟩⟩⟩⟩⟩⟩⟩⟩⟩⟩⟩⟩⟩⟩⟩⟩⟩⟩⟩⟩⟩⟩⟩⟩
theorem mlT12_cw : ∀ e ∈ mlT12, mlC e ∈ lw_tbl := List.forall_mem_cons.mpr ⟨cw_X10_init, List.forall_mem_cons.mpr ⟨cw_X11_init, List.forall_mem_cons.mpr ⟨cw_X10_giver, List.forall_mem_cons.mpr ⟨cw_X11_giver, List.forall_mem_cons.mpr ⟨cw_X10_work, List.forall_mem_cons.mpr ⟨cw_X11_work, List.forall_mem_cons.mpr ⟨cw_X10_worth, List.forall_mem_cons.mpr ⟨cw_X11_worth, List.forall_mem_cons.mpr ⟨cw_X10_set, List.forall_mem_cons.mpr ⟨cw_X11_set, List.forall_mem_cons.mpr ⟨cw_X10_write, List.forall_mem_cons.mpr ⟨cw_X11_write, List.forall_mem_cons.mpr ⟨cw_X10_erase, List.forall_mem_cons.mpr ⟨cw_X11_erase, List.forall_mem_cons.mpr ⟨cw_X10_fault, List.forall_mem_cons.mpr ⟨cw_X11_fault, List.forall_mem_cons.mpr ⟨cw_X10_give, List.forall_mem_cons.mpr ⟨cw_X11_give, List.forall_mem_cons.mpr ⟨cw_X10_amount, List.forall_mem_cons.mpr ⟨cw_X11_amount, List.forall_mem_cons.mpr ⟨cw_X10_isShort, List.forall_mem_cons.mpr ⟨cw_X11_isShort, List.forall_mem_cons.mpr ⟨cw_X10_has, List.forall_mem_cons.mpr ⟨cw_X11_has, List.forall_mem_cons.mpr ⟨cw_X10_best, List.forall_mem_cons.mpr ⟨cw_X11_best, List.forall_mem_cons.mpr ⟨cw_X10_rest, List.forall_mem_cons.mpr ⟨cw_X11_rest, List.forall_mem_cons.mpr ⟨cw_X10_turns, List.forall_mem_cons.mpr ⟨cw_X11_turns, List.forall_mem_cons.mpr ⟨cw_X10_good, List.forall_mem_cons.mpr ⟨cw_X11_good, List.forall_mem_cons.mpr ⟨cw_X10_lost, List.forall_mem_cons.mpr ⟨cw_X11_lost, List.forall_mem_cons.mpr ⟨cw_X10_gain, List.forall_mem_cons.mpr ⟨cw_X11_gain, List.forall_mem_cons.mpr ⟨cw_X10_hand, List.forall_mem_cons.mpr ⟨cw_X11_hand, List.forall_mem_cons.mpr ⟨cw_X10_anyway, List.forall_mem_cons.mpr ⟨cw_X11_anyway, List.forall_mem_cons.mpr ⟨cw_X10_breach, List.forall_mem_cons.mpr ⟨cw_X11_breach, List.forall_mem_cons.mpr ⟨cw_X10_image, List.forall_mem_cons.mpr ⟨cw_X11_image, List.forall_mem_cons.mpr ⟨cw_X10_from, List.forall_mem_cons.mpr ⟨cw_X11_from, List.forall_mem_cons.mpr ⟨cw_X10_count, List.forall_mem_cons.mpr ⟨cw_X11_count, List.forall_mem_cons.mpr ⟨cw_X10_digest, List.forall_mem_cons.mpr ⟨cw_X11_digest, fun _ h => absurd h List.not_mem_nil⟩⟩⟩⟩⟩⟩⟩⟩⟩⟩⟩⟩⟩⟩⟩⟩⟩⟩⟩⟩⟩⟩⟩⟩⟩⟩⟩⟩⟩⟩⟩⟩⟩⟩⟩⟩⟩⟩⟩⟩⟩⟩⟩⟩⟩⟩⟩⟩⟩⟩
theorem mlT13_cw : ∀ e ∈ mlT13, mlC e ∈ lw_tbl := fun _ h => absurd h List.not_mem_nil
theorem mlT14_cw : ∀ e ∈ mlT14, mlC e ∈ lw_tbl := fun _ h => absurd h List.not_mem_nil
def spT : List (Nat × Nat × Nat × Nat) := [(0, 3, 5, 291), (1, 5, 5, 335), (1, 31, 9, 694), (1, 44, 8, 700), (2, 1, 5, 372), (3, 3, 5, 260), (3, 77, 9, 598), (4, 3, 5, 356), (4, 77, 8, 732), (5, 3, 5, 208), (6, 3, 5, 322), (6, 48, 7, 675), (7, 3, 5, 102), (7, 28, 7, 790), (8, 3, 5, 95), (8, 57, 7, 753), (8, 71, 9, 628), (9, 3, 5, 231), (9, 32, 8, 547), (9, 38, 9, 550), (9, 87, 11, 580), (9, 90, 10, 583), (10, 1, 5, 87), (11, 1, 5, 824)]
def sp (oc idx : Nat) : Option (Nat × Nat) := (spT.find? (fun e => e.1 == oc && e.2.1 == idx)).map (fun e => (e.2.2.1, e.2.2.2))
def spN (k : Nat) : MethodName := match k with
  | 5 => objectInit
  | 7 => arraycopyName
  | 8 => Lib.Math.max.name
  | 9 => Lib.Math.min.name
  | 10 => Lib.MathLoose.max_long.x
  | _ => Lib.MathLoose.min_long.x
theorem spT_ok : (spT.all (fun e => decide (lw_tbl[e.2.2.2]? = some (.methodLink (own e.1) e.2.1 (spN e.2.2.1))) && decide (e.2.2.1 ≤ 11))) = true := by decide +kernel
def flT0 : List (Nat × Nat × Nat × Nat) := [(9, 0, 1, 293), (15, 0, 2, 294), (18, 0, 3, 295), (21, 0, 0, 292), (41, 0, 5, 301), (49, 0, 4, 298), (52, 8, 0, 133), (55, 8, 7, 159), (62, 3, 1, 265), (65, 8, 4, 143), (68, 3, 0, 263), (82, 8, 5, 149), (86, 8, 9, 168), (100, 3, 2, 269)]
def flT1 : List (Nat × Nat × Nat × Nat) := [(11, 1, 0, 336), (15, 1, 1, 337), (18, 1, 2, 338), (27, 8, 10, 171), (37, 8, 8, 162), (54, 1, 3, 340), (57, 8, 6, 154)]
def flT2 : List (Nat × Nat × Nat × Nat) := [(7, 2, 0, 373)]
def flT3 : List (Nat × Nat × Nat × Nat) := [(9, 3, 1, 264), (15, 3, 2, 267), (18, 3, 3, 271), (21, 3, 0, 261), (25, 8, 7, 158), (41, 8, 5, 147), (45, 8, 9, 166), (56, 8, 10, 172), (59, 3, 4, 273), (63, 8, 11, 175), (83, 8, 8, 163), (90, 8, 6, 156)]
def flT4 : List (Nat × Nat × Nat × Nat) := [(9, 4, 1, 358), (15, 4, 0, 357), (35, 4, 2, 359), (39, 8, 4, 141), (46, 3, 0, 262), (60, 3, 2, 268), (63, 8, 5, 148), (67, 8, 9, 167)]
def flT5 : List (Nat × Nat × Nat × Nat) := [(9, 5, 0, 209), (15, 5, 1, 210), (19, 5, 2, 211), (22, 5, 3, 212), (25, 5, 4, 213), (29, 7, 3, 113), (34, 7, 4, 116), (37, 7, 2, 110), (47, 7, 0, 104), (61, 7, 1, 107)]
def flT6 : List (Nat × Nat × Nat × Nat) := [(9, 6, 1, 324), (15, 6, 0, 323), (25, 8, 6, 153), (35, 0, 4, 299), (38, 0, 5, 302), (41, 0, 3, 296), (45, 8, 4, 142)]
def flT7 : List (Nat × Nat × Nat × Nat) := [(9, 7, 0, 103), (15, 7, 1, 106), (18, 7, 2, 109), (22, 7, 3, 112), (25, 7, 4, 115)]
def flT8 : List (Nat × Nat × Nat × Nat) := [(9, 8, 0, 131), (15, 8, 1, 134), (18, 8, 2, 136), (21, 8, 3, 138), (24, 8, 4, 140), (29, 8, 5, 146), (33, 8, 6, 151), (37, 8, 7, 157), (40, 8, 8, 161), (43, 8, 9, 165), (46, 8, 10, 170), (49, 8, 11, 174)]
def flT9 : List (Nat × Nat × Nat × Nat) := [(9, 9, 0, 232), (15, 9, 2, 234), (19, 9, 3, 235), (22, 9, 4, 236), (25, 9, 5, 237), (28, 9, 6, 238), (48, 8, 6, 155), (53, 8, 4, 144), (60, 7, 4, 117), (65, 9, 1, 233), (68, 7, 3, 114), (71, 7, 1, 108)]
def flT10 : List (Nat × Nat × Nat × Nat) := [(10, 10, 0, 377), (16, 10, 1, 378), (19, 10, 2, 379), (23, 10, 3, 380), (30, 10, 4, 381), (37, 10, 5, 382), (46, 10, 6, 383), (55, 10, 7, 384), (64, 10, 8, 385), (71, 10, 9, 386), (78, 10, 10, 387), (85, 10, 11, 388), (93, 8, 6, 152), (97, 8, 0, 132), (101, 8, 7, 160), (104, 8, 1, 135), (110, 8, 2, 137), (113, 8, 3, 139), (133, 8, 5, 150), (137, 7, 2, 111), (142, 7, 0, 105), (149, 7, 4, 118), (152, 8, 4, 145), (165, 3, 1, 266), (168, 3, 2, 270), (171, 3, 3, 272), (174, 3, 4, 274), (196, 0, 4, 300), (199, 0, 3, 297), (202, 0, 5, 303), (211, 1, 3, 341), (212, 1, 2, 339), (253, 8, 8, 164), (256, 8, 9, 169), (259, 8, 10, 173), (262, 8, 11, 176)]
def flT11 : List (Nat × Nat × Nat × Nat) := [(7, 11, 0, 825), (13, 11, 1, 826), (16, 11, 2, 827), (20, 11, 6, 831), (24, 11, 8, 833), (27, 11, 10, 835), (30, 11, 12, 837), (33, 11, 14, 839), (36, 11, 15, 840), (39, 11, 16, 841), (42, 11, 17, 842), (45, 11, 19, 844), (49, 11, 20, 845), (52, 11, 21, 846), (55, 11, 22, 847), (58, 11, 23, 848), (61, 11, 24, 849), (64, 11, 25, 850), (67, 11, 26, 851), (70, 11, 27, 852), (73, 11, 28, 853), (113, 11, 3, 828), (116, 11, 4, 829), (126, 11, 9, 834), (129, 11, 7, 832), (142, 11, 5, 830), (165, 11, 11, 836), (177, 11, 13, 838), (193, 11, 18, 843)]
def flT (oc : Nat) : List (Nat × Nat × Nat × Nat) := match oc with
  | 0 => flT0
  | 1 => flT1
  | 2 => flT2
  | 3 => flT3
  | 4 => flT4
  | 5 => flT5
  | 6 => flT6
  | 7 => flT7
  | 8 => flT8
  | 9 => flT9
  | 10 => flT10
  | 11 => flT11
  | _ => []
def fld (oc idx : Nat) : Option (Nat × Nat) := ((flT oc).find? (fun e => e.1 == idx)).map (fun e => (e.2.1, e.2.2.1))
def flK (oc : Nat) (e : Nat × Nat × Nat × Nat) : Bool := match clsT[e.2.1]? with
  | some (C, T, N) => decide (lw_tbl[e.2.2.2]? = some (.fieldLink (own oc) e.1 (T e.2.2.1).1 (T e.2.2.1).2.1 (T e.2.2.1).2.2.1)) && decide (e.2.2.1 < N) && decide (parseFieldDescriptor (T e.2.2.1).2.2.1 = some (tyT e.2.1 e.2.2.1))
  | none => false
set_option maxRecDepth 100000 in
theorem flT0_ok : (flT0.all (flK 0)) = true := by decide +kernel
set_option maxRecDepth 100000 in
theorem flT1_ok : (flT1.all (flK 1)) = true := by decide +kernel
set_option maxRecDepth 100000 in
theorem flT2_ok : (flT2.all (flK 2)) = true := by decide +kernel
set_option maxRecDepth 100000 in
theorem flT3_ok : (flT3.all (flK 3)) = true := by decide +kernel
set_option maxRecDepth 100000 in
theorem flT4_ok : (flT4.all (flK 4)) = true := by decide +kernel
set_option maxRecDepth 100000 in
theorem flT5_ok : (flT5.all (flK 5)) = true := by decide +kernel
set_option maxRecDepth 100000 in
theorem flT6_ok : (flT6.all (flK 6)) = true := by decide +kernel
set_option maxRecDepth 100000 in
theorem flT7_ok : (flT7.all (flK 7)) = true := by decide +kernel
set_option maxRecDepth 100000 in
theorem flT8_ok : (flT8.all (flK 8)) = true := by decide +kernel
set_option maxRecDepth 100000 in
theorem flT9_ok : (flT9.all (flK 9)) = true := by decide +kernel
set_option maxRecDepth 100000 in
theorem flT10_ok : (flT10.all (flK 10)) = true := by decide +kernel
set_option maxRecDepth 100000 in
theorem flT11_ok : (flT11.all (flK 11)) = true := by decide +kernel
def lcT : List (Nat × Nat × Int64 × Nat) := [(9, 81, 99, 579), (9, 92, 1000000000000, 571), (10, 239, 461, 804), (10, 241, 31, 805), (11, 87, 12, 917), (11, 89, 60, 929), (11, 98, 200, 946), (11, 100, 50, 947), (11, 102, 3, 952), (11, 104, 99, 953), (11, 106, 2, 954), (11, 111, 127, 962), (11, 138, 48, 987), (11, 140, 57, 988), (11, 145, 10, 993), (11, 173, 1000000, 1040), (11, 175, 4000000, 1041), (11, 184, 1000000000000, 1042), (11, 256, 461, 1167), (11, 258, 31, 1168)]
def lcn (oc idx : Nat) : Option Int64 := (lcT.find? (fun e => e.1 == oc && e.2.1 == idx)).map (fun e => e.2.2.1)
theorem lcT_ok : (lcT.all (fun e => decide (lw_tbl[e.2.2.2]? = some (.constantLong (own e.1) e.2.1 e.2.2.1)))) = true := by decide +kernel
def nwT : List (Nat × Nat × Nat × Nat × Nat × Nat) := [(8, 27, 7, 96, 98, 70), (10, 7, 8, 90, 91, 69), (10, 27, 5, 203, 204, 71), (10, 34, 9, 226, 227, 72), (10, 41, 3, 255, 256, 73), (10, 50, 0, 286, 287, 74), (10, 59, 6, 317, 318, 75), (10, 68, 1, 330, 331, 76), (10, 75, 4, 351, 352, 77), (10, 82, 2, 367, 368, 78), (12, 7, 10, 82, 83, 68), (12, 10, 11, 819, 820, 79)]
def anT : List (Nat × Nat × Nat × Nat × Nat × Nat) := [(8, 27, 7, 3, 96, 97), (10, 7, 8, 4, 90, 202)]
def nwc (oc idx : Nat) : Option Nat := (nwT.find? (fun e => e.1 == oc && e.2.1 == idx)).map (fun e => e.2.2.1)
def anc (oc idx : Nat) : Option (Nat × Nat) := (anT.find? (fun e => e.1 == oc && e.2.1 == idx)).map (fun e => (e.2.2.1, e.2.2.2.1))
def nwK (e : Nat × Nat × Nat × Nat × Nat × Nat) : Bool := match clsT[e.2.2.1]? with
  | some (C, T, N) => decide (lw_tbl[e.2.2.2.1]? = some (.classLink (own e.1) e.2.1 C)) && decide (lw_tbl[e.2.2.2.2.1]? = some (.instantiable C N)) && decide (lw_tbl[e.2.2.2.2.2]? = some (.initialized C))
  | none => false
theorem nwT_ok : (nwT.all nwK) = true := by decide +kernel
def anK (e : Nat × Nat × Nat × Nat × Nat × Nat) : Bool := match clsT[e.2.2.1]? with
  | some (C, _, _) => decide (lw_tbl[e.2.2.2.2.1]? = some (.classLink (own e.1) e.2.1 C)) && decide (lw_tbl[e.2.2.2.2.2]? = some (.arrayOver (.object C))) && ((decide (e.2.2.1 = 7) && decide (e.2.2.2.1 = 3)) || (decide (e.2.2.1 = 8) && decide (e.2.2.2.1 = 4)))
  | none => false
theorem anT_ok : (anT.all anK) = true := by decide +kernel
theorem w_oi : Cond.instanceMethod objectInit ∈ lw_tbl := List.mem_of_getElem? (i := 88) (by decide +kernel)
theorem w_oc : Cond.code objectInit ⟨#[0xb1]⟩ 1 none ∈ lw_tbl := List.mem_of_getElem? (i := 89) (by decide +kernel)
theorem w_acn : Cond.native arraycopyName ∈ lw_tbl := List.mem_of_getElem? (i := 677) (by decide +kernel)
theorem w_acs : Cond.static arraycopyName ∈ lw_tbl := List.mem_of_getElem? (i := 676) (by decide +kernel)
theorem w_aci : Cond.initialized "java/lang/System" ∈ lw_tbl := List.mem_of_getElem? (i := 81) (by decide +kernel)
theorem w_smax : Cond.static Lib.Math.max.name ∈ lw_tbl := List.mem_of_getElem? (i := 548) (by decide +kernel)
theorem w_cmax : Cond.code Lib.Math.max.name Lib.Math.max.code 2 (some .int) ∈ lw_tbl := List.mem_of_getElem? (i := 549) (by decide +kernel)
theorem w_smin : Cond.static Lib.Math.min.name ∈ lw_tbl := List.mem_of_getElem? (i := 551) (by decide +kernel)
theorem w_cmin : Cond.code Lib.Math.min.name Lib.Math.min.code 2 (some .int) ∈ lw_tbl := List.mem_of_getElem? (i := 552) (by decide +kernel)
theorem w_smaxl : Cond.static Lib.MathLoose.max_long.x ∈ lw_tbl := List.mem_of_getElem? (i := 584) (by decide +kernel)
theorem w_cmaxl : Cond.code Lib.MathLoose.max_long.x Lib.MathLoose.max_long.code 4 (some .long) ∈ lw_tbl := List.mem_of_getElem? (i := 585) (by decide +kernel)
theorem w_sminl : Cond.static Lib.MathLoose.min_long.x ∈ lw_tbl := List.mem_of_getElem? (i := 581) (by decide +kernel)
theorem w_cminl : Cond.code Lib.MathLoose.min_long.x Lib.MathLoose.min_long.code 4 (some .long) ∈ lw_tbl := List.mem_of_getElem? (i := 582) (by decide +kernel)
theorem w_mi : Cond.initialized "java/lang/Math" ∈ lw_tbl := List.mem_of_getElem? (i := 80) (by decide +kernel)
theorem w_aI : Cond.arrayClass .int ∈ lw_tbl := List.mem_of_getElem? (i := 130) (by decide +kernel)
theorem w_aJ : Cond.arrayClass .long ∈ lw_tbl := List.mem_of_getElem? (i := 254) (by decide +kernel)
theorem w_aZ : Cond.arrayClass .boolean ∈ lw_tbl := List.mem_of_getElem? (i := 225) (by decide +kernel)
theorem w_aR : Cond.arrayOver (.object "GiftMatch$Rule") ∈ lw_tbl := List.mem_of_getElem? (i := 97) (by decide +kernel)
theorem w_aS : Cond.arrayOver (.object "GiftMatch$Scene") ∈ lw_tbl := List.mem_of_getElem? (i := 202) (by decide +kernel)
theorem w_rt : Cond.fieldLinkNest (own 9) 41 "GiftMatch" "ROOTS" "[I" "GiftMatch" ∈ lw_tbl := List.mem_of_getElem? (i := 553) (by decide +kernel)
theorem w_rs : Cond.laysStatic "GiftMatch" "ROOTS" "[I" ∈ lw_tbl := List.mem_of_getElem? (i := 554) (by decide +kernel)
theorem w_ri : Cond.initialized "GiftMatch" ∈ lw_tbl := List.mem_of_getElem? (i := 68) (by decide +kernel)
theorem uin0 : ∀ w ∈ u_ws RX0 TX0 6, w ∈ lw_tbl := by
  intro w hw
  have h : u_ws RX0 TX0 6 = [304, 306, 308, 310, 312, 314].filterMap (fun i => lw_tbl[i]?) := by decide +kernel
  rw [h] at hw
  obtain ⟨i, -, hi⟩ := List.mem_filterMap.mp hw
  exact List.mem_of_getElem? hi
theorem uin1 : ∀ w ∈ u_ws RX1 TX1 4, w ∈ lw_tbl := by
  intro w hw
  have h : u_ws RX1 TX1 4 = [342, 344, 346, 348].filterMap (fun i => lw_tbl[i]?) := by decide +kernel
  rw [h] at hw
  obtain ⟨i, -, hi⟩ := List.mem_filterMap.mp hw
  exact List.mem_of_getElem? hi
theorem uin2 : ∀ w ∈ u_ws RX2 TX2 1, w ∈ lw_tbl := by
  intro w hw
  have h : u_ws RX2 TX2 1 = [374].filterMap (fun i => lw_tbl[i]?) := by decide +kernel
  rw [h] at hw
  obtain ⟨i, -, hi⟩ := List.mem_filterMap.mp hw
  exact List.mem_of_getElem? hi
theorem uin3 : ∀ w ∈ u_ws RX3 TX3 5, w ∈ lw_tbl := by
  intro w hw
  have h : u_ws RX3 TX3 5 = [275, 277, 279, 281, 283].filterMap (fun i => lw_tbl[i]?) := by decide +kernel
  rw [h] at hw
  obtain ⟨i, -, hi⟩ := List.mem_filterMap.mp hw
  exact List.mem_of_getElem? hi
theorem uin4 : ∀ w ∈ u_ws RX4 TX4 3, w ∈ lw_tbl := by
  intro w hw
  have h : u_ws RX4 TX4 3 = [360, 362, 364].filterMap (fun i => lw_tbl[i]?) := by decide +kernel
  rw [h] at hw
  obtain ⟨i, -, hi⟩ := List.mem_filterMap.mp hw
  exact List.mem_of_getElem? hi
theorem uin5 : ∀ w ∈ u_ws RX5 TX5 5, w ∈ lw_tbl := by
  intro w hw
  have h : u_ws RX5 TX5 5 = [214, 216, 218, 220, 222].filterMap (fun i => lw_tbl[i]?) := by decide +kernel
  rw [h] at hw
  obtain ⟨i, -, hi⟩ := List.mem_filterMap.mp hw
  exact List.mem_of_getElem? hi
theorem uin6 : ∀ w ∈ u_ws RX6 TX6 2, w ∈ lw_tbl := by
  intro w hw
  have h : u_ws RX6 TX6 2 = [325, 327].filterMap (fun i => lw_tbl[i]?) := by decide +kernel
  rw [h] at hw
  obtain ⟨i, -, hi⟩ := List.mem_filterMap.mp hw
  exact List.mem_of_getElem? hi
theorem uin7 : ∀ w ∈ u_ws RX7 TX7 5, w ∈ lw_tbl := by
  intro w hw
  have h : u_ws RX7 TX7 5 = [119, 121, 123, 125, 127].filterMap (fun i => lw_tbl[i]?) := by decide +kernel
  rw [h] at hw
  obtain ⟨i, -, hi⟩ := List.mem_filterMap.mp hw
  exact List.mem_of_getElem? hi
theorem uin8 : ∀ w ∈ u_ws RX8 TX8 12, w ∈ lw_tbl := by
  intro w hw
  have h : u_ws RX8 TX8 12 = [177, 179, 181, 183, 185, 187, 189, 191, 193, 195, 197, 199].filterMap (fun i => lw_tbl[i]?) := by decide +kernel
  rw [h] at hw
  obtain ⟨i, -, hi⟩ := List.mem_filterMap.mp hw
  exact List.mem_of_getElem? hi
theorem uin9 : ∀ w ∈ u_ws RX9 TX9 7, w ∈ lw_tbl := by
  intro w hw
  have h : u_ws RX9 TX9 7 = [239, 241, 243, 245, 247, 249, 251].filterMap (fun i => lw_tbl[i]?) := by decide +kernel
  rw [h] at hw
  obtain ⟨i, -, hi⟩ := List.mem_filterMap.mp hw
  exact List.mem_of_getElem? hi
theorem uin10 : ∀ w ∈ u_ws RX10 TX10 12, w ∈ lw_tbl := by
  intro w hw
  have h : u_ws RX10 TX10 12 = [389, 391, 393, 395, 397, 399, 401, 403, 405, 407, 409, 411].filterMap (fun i => lw_tbl[i]?) := by decide +kernel
  rw [h] at hw
  obtain ⟨i, -, hi⟩ := List.mem_filterMap.mp hw
  exact List.mem_of_getElem? hi
theorem uin11 : ∀ w ∈ u_ws RX11 TX11 29, w ∈ lw_tbl := by
  intro w hw
  have h : u_ws RX11 TX11 29 = [854, 856, 858, 860, 862, 864, 866, 868, 870, 872, 874, 876, 878, 880, 882, 884, 886, 888, 890, 892, 894, 896, 898, 900, 902, 904, 906, 908, 910].filterMap (fun i => lw_tbl[i]?) := by decide +kernel
  rw [h] at hw
  obtain ⟨i, -, hi⟩ := List.mem_filterMap.mp hw
  exact List.mem_of_getElem? hi
end
section
theorem dX7_init_0 : decode cX7_init 0 = .ok (.aload_n 0, 1) := by decide +kernel
theorem dX7_init_1 : decode cX7_init 1 = .ok (.invokespecial 3, 3) := by decide +kernel
theorem dX7_init_4 : decode cX7_init 4 = .ok (.aload_n 0, 1) := by decide +kernel
theorem dX7_init_5 : decode cX7_init 5 = .ok (.bipush 40, 2) := by decide +kernel
theorem dX7_init_7 : decode cX7_init 7 = .ok (.newarray .int, 2) := by decide +kernel
theorem dX7_init_9 : decode cX7_init 9 = .ok (.putfield 9, 3) := by decide +kernel
theorem dX7_init_12 : decode cX7_init 12 = .ok (.aload_n 0, 1) := by decide +kernel
theorem dX7_init_13 : decode cX7_init 13 = .ok (.bipush 40, 2) := by decide +kernel
theorem dX7_init_15 : decode cX7_init 15 = .ok (.newarray .int, 2) := by decide +kernel
theorem dX7_init_17 : decode cX7_init 17 = .ok (.putfield 15, 3) := by decide +kernel
theorem dX7_init_20 : decode cX7_init 20 = .ok (.aload_n 0, 1) := by decide +kernel
theorem dX7_init_21 : decode cX7_init 21 = .ok (.iconst 0, 1) := by decide +kernel
theorem dX7_init_22 : decode cX7_init 22 = .ok (.putfield 18, 3) := by decide +kernel
theorem dX7_init_25 : decode cX7_init 25 = .ok (.aload_n 0, 1) := by decide +kernel
theorem dX7_init_26 : decode cX7_init 26 = .ok (.iconst 0, 1) := by decide +kernel
theorem dX7_init_27 : decode cX7_init 27 = .ok (.putfield 22, 3) := by decide +kernel
theorem dX7_init_30 : decode cX7_init 30 = .ok (.aload_n 0, 1) := by decide +kernel
theorem dX7_init_31 : decode cX7_init 31 = .ok (.iconst 1, 1) := by decide +kernel
theorem dX7_init_32 : decode cX7_init 32 = .ok (.putfield 25, 3) := by decide +kernel
theorem dX7_init_35 : decode cX7_init 35 = .ok (.return_, 1) := by decide +kernel
theorem dX7_take_0 : decode cX7_take 0 = .ok (.aload_n 1, 1) := by decide +kernel
theorem dX7_take_1 : decode cX7_take 1 = .ok (.getfield 9, 3) := by decide +kernel
theorem dX7_take_4 : decode cX7_take 4 = .ok (.iconst 0, 1) := by decide +kernel
theorem dX7_take_5 : decode cX7_take 5 = .ok (.aload_n 0, 1) := by decide +kernel
theorem dX7_take_6 : decode cX7_take 6 = .ok (.getfield 9, 3) := by decide +kernel
theorem dX7_take_9 : decode cX7_take 9 = .ok (.iconst 0, 1) := by decide +kernel
theorem dX7_take_10 : decode cX7_take 10 = .ok (.bipush 40, 2) := by decide +kernel
theorem dX7_take_12 : decode cX7_take 12 = .ok (.invokestatic 28, 3) := by decide +kernel
theorem dX7_take_15 : decode cX7_take 15 = .ok (.aload_n 1, 1) := by decide +kernel
theorem dX7_take_16 : decode cX7_take 16 = .ok (.getfield 15, 3) := by decide +kernel
theorem dX7_take_19 : decode cX7_take 19 = .ok (.iconst 0, 1) := by decide +kernel
theorem dX7_take_20 : decode cX7_take 20 = .ok (.aload_n 0, 1) := by decide +kernel
theorem dX7_take_21 : decode cX7_take 21 = .ok (.getfield 15, 3) := by decide +kernel
theorem dX7_take_24 : decode cX7_take 24 = .ok (.iconst 0, 1) := by decide +kernel
theorem dX7_take_25 : decode cX7_take 25 = .ok (.bipush 40, 2) := by decide +kernel
theorem dX7_take_27 : decode cX7_take 27 = .ok (.invokestatic 28, 3) := by decide +kernel
theorem dX7_take_30 : decode cX7_take 30 = .ok (.aload_n 0, 1) := by decide +kernel
theorem dX7_take_31 : decode cX7_take 31 = .ok (.aload_n 1, 1) := by decide +kernel
theorem dX7_take_32 : decode cX7_take 32 = .ok (.getfield 18, 3) := by decide +kernel
theorem dX7_take_35 : decode cX7_take 35 = .ok (.putfield 18, 3) := by decide +kernel
theorem dX7_take_38 : decode cX7_take 38 = .ok (.aload_n 0, 1) := by decide +kernel
theorem dX7_take_39 : decode cX7_take 39 = .ok (.aload_n 1, 1) := by decide +kernel
theorem dX7_take_40 : decode cX7_take 40 = .ok (.getfield 22, 3) := by decide +kernel
theorem dX7_take_43 : decode cX7_take 43 = .ok (.putfield 22, 3) := by decide +kernel
theorem dX7_take_46 : decode cX7_take 46 = .ok (.aload_n 0, 1) := by decide +kernel
theorem dX7_take_47 : decode cX7_take 47 = .ok (.aload_n 1, 1) := by decide +kernel
theorem dX7_take_48 : decode cX7_take 48 = .ok (.getfield 25, 3) := by decide +kernel
theorem dX7_take_51 : decode cX7_take 51 = .ok (.putfield 25, 3) := by decide +kernel
theorem dX7_take_54 : decode cX7_take 54 = .ok (.return_, 1) := by decide +kernel
theorem dX7_addStep_0 : decode cX7_addStep 0 = .ok (.aload_n 0, 1) := by decide +kernel
theorem dX7_addStep_1 : decode cX7_addStep 1 = .ok (.getfield 22, 3) := by decide +kernel
theorem dX7_addStep_4 : decode cX7_addStep 4 = .ok (.bipush 40, 2) := by decide +kernel
theorem dX7_addStep_6 : decode cX7_addStep 6 = .ok (.if_icmp .ge 23, 3) := by decide +kernel
theorem dX7_addStep_9 : decode cX7_addStep 9 = .ok (.aload_n 0, 1) := by decide +kernel
theorem dX7_addStep_10 : decode cX7_addStep 10 = .ok (.getfield 15, 3) := by decide +kernel
theorem dX7_addStep_13 : decode cX7_addStep 13 = .ok (.aload_n 0, 1) := by decide +kernel
theorem dX7_addStep_14 : decode cX7_addStep 14 = .ok (.getfield 22, 3) := by decide +kernel
theorem dX7_addStep_17 : decode cX7_addStep 17 = .ok (.iload_n 1, 1) := by decide +kernel
theorem dX7_addStep_18 : decode cX7_addStep 18 = .ok (.iastore, 1) := by decide +kernel
theorem dX7_addStep_19 : decode cX7_addStep 19 = .ok (.aload_n 0, 1) := by decide +kernel
theorem dX7_addStep_20 : decode cX7_addStep 20 = .ok (.dup, 1) := by decide +kernel
theorem dX7_addStep_21 : decode cX7_addStep 21 = .ok (.getfield 22, 3) := by decide +kernel
theorem dX7_addStep_24 : decode cX7_addStep 24 = .ok (.iconst 1, 1) := by decide +kernel
theorem dX7_addStep_25 : decode cX7_addStep 25 = .ok (.iadd, 1) := by decide +kernel
theorem dX7_addStep_26 : decode cX7_addStep 26 = .ok (.putfield 22, 3) := by decide +kernel
theorem dX7_addStep_29 : decode cX7_addStep 29 = .ok (.return_, 1) := by decide +kernel
theorem dX9_init_0 : decode cX9_init 0 = .ok (.aload_n 0, 1) := by decide +kernel
theorem dX9_init_1 : decode cX9_init 1 = .ok (.invokespecial 3, 3) := by decide +kernel
theorem dX9_init_4 : decode cX9_init 4 = .ok (.aload_n 0, 1) := by decide +kernel
theorem dX9_init_5 : decode cX9_init 5 = .ok (.bipush 40, 2) := by decide +kernel
theorem dX9_init_7 : decode cX9_init 7 = .ok (.newarray .long, 2) := by decide +kernel
theorem dX9_init_9 : decode cX9_init 9 = .ok (.putfield 9, 3) := by decide +kernel
theorem dX9_init_12 : decode cX9_init 12 = .ok (.return_, 1) := by decide +kernel
theorem dX9_clear_0 : decode cX9_clear 0 = .ok (.aload_n 0, 1) := by decide +kernel
theorem dX9_clear_1 : decode cX9_clear 1 = .ok (.iconst 0, 1) := by decide +kernel
theorem dX9_clear_2 : decode cX9_clear 2 = .ok (.putfield 15, 3) := by decide +kernel
theorem dX9_clear_5 : decode cX9_clear 5 = .ok (.aload_n 0, 1) := by decide +kernel
theorem dX9_clear_6 : decode cX9_clear 6 = .ok (.iconst 0, 1) := by decide +kernel
theorem dX9_clear_7 : decode cX9_clear 7 = .ok (.putfield 19, 3) := by decide +kernel
theorem dX9_clear_10 : decode cX9_clear 10 = .ok (.aload_n 0, 1) := by decide +kernel
theorem dX9_clear_11 : decode cX9_clear 11 = .ok (.iconst 0, 1) := by decide +kernel
theorem dX9_clear_12 : decode cX9_clear 12 = .ok (.putfield 22, 3) := by decide +kernel
theorem dX9_clear_15 : decode cX9_clear 15 = .ok (.aload_n 0, 1) := by decide +kernel
theorem dX9_clear_16 : decode cX9_clear 16 = .ok (.iconst 0, 1) := by decide +kernel
theorem dX9_clear_17 : decode cX9_clear 17 = .ok (.putfield 25, 3) := by decide +kernel
theorem dX9_clear_20 : decode cX9_clear 20 = .ok (.aload_n 0, 1) := by decide +kernel
theorem dX9_clear_21 : decode cX9_clear 21 = .ok (.lconst 0, 1) := by decide +kernel
theorem dX9_clear_22 : decode cX9_clear 22 = .ok (.putfield 28, 3) := by decide +kernel
theorem dX9_clear_25 : decode cX9_clear 25 = .ok (.return_, 1) := by decide +kernel
theorem dX9_see_0 : decode cX9_see 0 = .ok (.iload_n 1, 1) := by decide +kernel
theorem dX9_see_1 : decode cX9_see 1 = .ok (.ifCond .le 9, 3) := by decide +kernel
theorem dX9_see_4 : decode cX9_see 4 = .ok (.iload_n 1, 1) := by decide +kernel
theorem dX9_see_5 : decode cX9_see 5 = .ok (.bipush 12, 2) := by decide +kernel
theorem dX9_see_7 : decode cX9_see 7 = .ok (.if_icmp .le 4, 3) := by decide +kernel
theorem dX9_see_10 : decode cX9_see 10 = .ok (.return_, 1) := by decide +kernel
theorem dX9_see_11 : decode cX9_see 11 = .ok (.aload_n 0, 1) := by decide +kernel
theorem dX9_see_12 : decode cX9_see 12 = .ok (.dup, 1) := by decide +kernel
theorem dX9_see_13 : decode cX9_see 13 = .ok (.getfield 15, 3) := by decide +kernel
theorem dX9_see_16 : decode cX9_see 16 = .ok (.iload_n 1, 1) := by decide +kernel
theorem dX9_see_17 : decode cX9_see 17 = .ok (.iadd, 1) := by decide +kernel
theorem dX9_see_18 : decode cX9_see 18 = .ok (.putfield 15, 3) := by decide +kernel
theorem dX9_see_21 : decode cX9_see 21 = .ok (.aload_n 0, 1) := by decide +kernel
theorem dX9_see_22 : decode cX9_see 22 = .ok (.dup, 1) := by decide +kernel
theorem dX9_see_23 : decode cX9_see 23 = .ok (.getfield 19, 3) := by decide +kernel
theorem dX9_see_26 : decode cX9_see 26 = .ok (.iconst 1, 1) := by decide +kernel
theorem dX9_see_27 : decode cX9_see 27 = .ok (.iadd, 1) := by decide +kernel
theorem dX9_see_28 : decode cX9_see 28 = .ok (.putfield 19, 3) := by decide +kernel
theorem dX9_see_31 : decode cX9_see 31 = .ok (.aload_n 0, 1) := by decide +kernel
theorem dX9_see_32 : decode cX9_see 32 = .ok (.aload_n 0, 1) := by decide +kernel
theorem dX9_see_33 : decode cX9_see 33 = .ok (.getfield 22, 3) := by decide +kernel
theorem dX9_see_36 : decode cX9_see 36 = .ok (.iload_n 1, 1) := by decide +kernel
theorem dX9_see_37 : decode cX9_see 37 = .ok (.invokestatic 32, 3) := by decide +kernel
theorem dX9_see_40 : decode cX9_see 40 = .ok (.putfield 22, 3) := by decide +kernel
theorem dX9_see_43 : decode cX9_see 43 = .ok (.aload_n 0, 1) := by decide +kernel
theorem dX9_see_44 : decode cX9_see 44 = .ok (.aload_n 0, 1) := by decide +kernel
theorem dX9_see_45 : decode cX9_see 45 = .ok (.getfield 25, 3) := by decide +kernel
theorem dX9_see_48 : decode cX9_see 48 = .ok (.ifCond .ne 7, 3) := by decide +kernel
theorem dX9_see_51 : decode cX9_see 51 = .ok (.iload_n 1, 1) := by decide +kernel
theorem dX9_see_52 : decode cX9_see 52 = .ok (.goto 11, 3) := by decide +kernel
theorem dX9_see_55 : decode cX9_see 55 = .ok (.aload_n 0, 1) := by decide +kernel
theorem dX9_see_56 : decode cX9_see 56 = .ok (.getfield 25, 3) := by decide +kernel
theorem dX9_see_59 : decode cX9_see 59 = .ok (.iload_n 1, 1) := by decide +kernel
theorem dX9_see_60 : decode cX9_see 60 = .ok (.invokestatic 38, 3) := by decide +kernel
theorem dX9_see_63 : decode cX9_see 63 = .ok (.putfield 25, 3) := by decide +kernel
theorem dX9_see_66 : decode cX9_see 66 = .ok (.aload_n 0, 1) := by decide +kernel
theorem dX9_see_67 : decode cX9_see 67 = .ok (.dup, 1) := by decide +kernel
theorem dX9_see_68 : decode cX9_see 68 = .ok (.getfield 28, 3) := by decide +kernel
theorem dX9_see_71 : decode cX9_see 71 = .ok (.getstatic 41, 3) := by decide +kernel
theorem dX9_see_74 : decode cX9_see 74 = .ok (.iload_n 1, 1) := by decide +kernel
theorem dX9_see_75 : decode cX9_see 75 = .ok (.iaload, 1) := by decide +kernel
theorem dX9_see_76 : decode cX9_see 76 = .ok (.i2l, 1) := by decide +kernel
theorem dX9_see_77 : decode cX9_see 77 = .ok (.ladd, 1) := by decide +kernel
theorem dX9_see_78 : decode cX9_see 78 = .ok (.putfield 28, 3) := by decide +kernel
theorem dX9_see_81 : decode cX9_see 81 = .ok (.return_, 1) := by decide +kernel
theorem dX9_seeAllBut_0 : decode cX9_seeAllBut 0 = .ok (.aload_n 0, 1) := by decide +kernel
theorem dX9_seeAllBut_1 : decode cX9_seeAllBut 1 = .ok (.invokevirtual 45, 3) := by decide +kernel
theorem dX9_seeAllBut_4 : decode cX9_seeAllBut 4 = .ok (.iconst 0, 1) := by decide +kernel
theorem dX9_seeAllBut_5 : decode cX9_seeAllBut 5 = .ok (.istore 4, 2) := by decide +kernel
theorem dX9_seeAllBut_7 : decode cX9_seeAllBut 7 = .ok (.iload 4, 2) := by decide +kernel
theorem dX9_seeAllBut_9 : decode cX9_seeAllBut 9 = .ok (.aload_n 1, 1) := by decide +kernel
theorem dX9_seeAllBut_10 : decode cX9_seeAllBut 10 = .ok (.getfield 48, 3) := by decide +kernel
theorem dX9_seeAllBut_13 : decode cX9_seeAllBut 13 = .ok (.if_icmp .ge 30, 3) := by decide +kernel
theorem dX9_seeAllBut_16 : decode cX9_seeAllBut 16 = .ok (.iload 4, 2) := by decide +kernel
theorem dX9_seeAllBut_18 : decode cX9_seeAllBut 18 = .ok (.iload_n 3, 1) := by decide +kernel
theorem dX9_seeAllBut_19 : decode cX9_seeAllBut 19 = .ok (.if_icmp .eq 18, 3) := by decide +kernel
theorem dX9_seeAllBut_22 : decode cX9_seeAllBut 22 = .ok (.aload_n 0, 1) := by decide +kernel
theorem dX9_seeAllBut_23 : decode cX9_seeAllBut 23 = .ok (.aload_n 1, 1) := by decide +kernel
theorem dX9_seeAllBut_24 : decode cX9_seeAllBut 24 = .ok (.getfield 53, 3) := by decide +kernel
theorem dX9_seeAllBut_27 : decode cX9_seeAllBut 27 = .ok (.iload 4, 2) := by decide +kernel
theorem dX9_seeAllBut_29 : decode cX9_seeAllBut 29 = .ok (.iconst 3, 1) := by decide +kernel
theorem dX9_seeAllBut_30 : decode cX9_seeAllBut 30 = .ok (.imul, 1) := by decide +kernel
theorem dX9_seeAllBut_31 : decode cX9_seeAllBut 31 = .ok (.iload_n 2, 1) := by decide +kernel
theorem dX9_seeAllBut_32 : decode cX9_seeAllBut 32 = .ok (.iadd, 1) := by decide +kernel
theorem dX9_seeAllBut_33 : decode cX9_seeAllBut 33 = .ok (.iaload, 1) := by decide +kernel
theorem dX9_seeAllBut_34 : decode cX9_seeAllBut 34 = .ok (.invokevirtual 56, 3) := by decide +kernel
theorem dX9_seeAllBut_37 : decode cX9_seeAllBut 37 = .ok (.iinc 4 1, 3) := by decide +kernel
theorem dX9_seeAllBut_40 : decode cX9_seeAllBut 40 = .ok (.goto (-33), 3) := by decide +kernel
theorem dX9_seeAllBut_43 : decode cX9_seeAllBut 43 = .ok (.return_, 1) := by decide +kernel
theorem dX9_toldBy_0 : decode cX9_toldBy 0 = .ok (.aload_n 1, 1) := by decide +kernel
theorem dX9_toldBy_1 : decode cX9_toldBy 1 = .ok (.getfield 60, 3) := by decide +kernel
theorem dX9_toldBy_4 : decode cX9_toldBy 4 = .ok (.iconst (-1), 1) := by decide +kernel
theorem dX9_toldBy_5 : decode cX9_toldBy 5 = .ok (.if_icmp .eq 5, 3) := by decide +kernel
theorem dX9_toldBy_8 : decode cX9_toldBy 8 = .ok (.iconst 0, 1) := by decide +kernel
theorem dX9_toldBy_9 : decode cX9_toldBy 9 = .ok (.ireturn, 1) := by decide +kernel
theorem dX9_toldBy_10 : decode cX9_toldBy 10 = .ok (.aload_n 0, 1) := by decide +kernel
theorem dX9_toldBy_11 : decode cX9_toldBy 11 = .ok (.iconst 0, 1) := by decide +kernel
theorem dX9_toldBy_12 : decode cX9_toldBy 12 = .ok (.putfield 65, 3) := by decide +kernel
theorem dX9_toldBy_15 : decode cX9_toldBy 15 = .ok (.iconst 0, 1) := by decide +kernel
theorem dX9_toldBy_16 : decode cX9_toldBy 16 = .ok (.istore_n 2, 1) := by decide +kernel
theorem dX9_toldBy_17 : decode cX9_toldBy 17 = .ok (.iload_n 2, 1) := by decide +kernel
theorem dX9_toldBy_18 : decode cX9_toldBy 18 = .ok (.aload_n 1, 1) := by decide +kernel
theorem dX9_toldBy_19 : decode cX9_toldBy 19 = .ok (.getfield 68, 3) := by decide +kernel
theorem dX9_toldBy_22 : decode cX9_toldBy 22 = .ok (.if_icmp .ge 35, 3) := by decide +kernel
theorem dX9_toldBy_25 : decode cX9_toldBy 25 = .ok (.aload_n 1, 1) := by decide +kernel
theorem dX9_toldBy_26 : decode cX9_toldBy 26 = .ok (.getfield 71, 3) := by decide +kernel
theorem dX9_toldBy_29 : decode cX9_toldBy 29 = .ok (.iload_n 2, 1) := by decide +kernel
theorem dX9_toldBy_30 : decode cX9_toldBy 30 = .ok (.iaload, 1) := by decide +kernel
theorem dX9_toldBy_31 : decode cX9_toldBy 31 = .ok (.istore_n 3, 1) := by decide +kernel
theorem dX9_toldBy_32 : decode cX9_toldBy 32 = .ok (.iload_n 3, 1) := by decide +kernel
theorem dX9_toldBy_33 : decode cX9_toldBy 33 = .ok (.ifCond .lt 12, 3) := by decide +kernel
theorem dX9_toldBy_36 : decode cX9_toldBy 36 = .ok (.aload_n 0, 1) := by decide +kernel
theorem dX9_toldBy_37 : decode cX9_toldBy 37 = .ok (.iload_n 3, 1) := by decide +kernel
theorem dX9_toldBy_38 : decode cX9_toldBy 38 = .ok (.i2l, 1) := by decide +kernel
theorem dX9_toldBy_39 : decode cX9_toldBy 39 = .ok (.invokevirtual 74, 3) := by decide +kernel
theorem dX9_toldBy_42 : decode cX9_toldBy 42 = .ok (.goto 9, 3) := by decide +kernel
theorem dX9_toldBy_45 : decode cX9_toldBy 45 = .ok (.aload_n 0, 1) := by decide +kernel
theorem dX9_toldBy_46 : decode cX9_toldBy 46 = .ok (.iload_n 3, 1) := by decide +kernel
theorem dX9_toldBy_47 : decode cX9_toldBy 47 = .ok (.ineg, 1) := by decide +kernel
theorem dX9_toldBy_48 : decode cX9_toldBy 48 = .ok (.invokevirtual 78, 3) := by decide +kernel
theorem dX9_toldBy_51 : decode cX9_toldBy 51 = .ok (.iinc 2 1, 3) := by decide +kernel
theorem dX9_toldBy_54 : decode cX9_toldBy 54 = .ok (.goto (-37), 3) := by decide +kernel
theorem dX9_toldBy_57 : decode cX9_toldBy 57 = .ok (.lconst 0, 1) := by decide +kernel
theorem dX9_toldBy_58 : decode cX9_toldBy 58 = .ok (.ldc2_w 81, 3) := by decide +kernel
theorem dX9_toldBy_61 : decode cX9_toldBy 61 = .ok (.aload_n 0, 1) := by decide +kernel
theorem dX9_toldBy_62 : decode cX9_toldBy 62 = .ok (.invokevirtual 83, 3) := by decide +kernel
theorem dX9_toldBy_65 : decode cX9_toldBy 65 = .ok (.invokestatic 87, 3) := by decide +kernel
theorem dX9_toldBy_68 : decode cX9_toldBy 68 = .ok (.invokestatic 90, 3) := by decide +kernel
theorem dX9_toldBy_71 : decode cX9_toldBy 71 = .ok (.l2i, 1) := by decide +kernel
theorem dX9_toldBy_72 : decode cX9_toldBy 72 = .ok (.ireturn, 1) := by decide +kernel
theorem dX9_doStep_0 : decode cX9_doStep 0 = .ok (.iload_n 1, 1) := by decide +kernel
theorem dX9_doStep_1 : decode cX9_doStep 1 = .ok (.lookupswitch 168 #[(33, 135), (108, 103), (109, 91), (110, 79), (114, 115), (115, 67), (126, 156)], 67) := by decide +kernel
theorem dX9_doStep_68 : decode cX9_doStep 68 = .ok (.aload_n 0, 1) := by decide +kernel
theorem dX9_doStep_69 : decode cX9_doStep 69 = .ok (.aload_n 0, 1) := by decide +kernel
theorem dX9_doStep_70 : decode cX9_doStep 70 = .ok (.getfield 15, 3) := by decide +kernel
theorem dX9_doStep_73 : decode cX9_doStep 73 = .ok (.i2l, 1) := by decide +kernel
theorem dX9_doStep_74 : decode cX9_doStep 74 = .ok (.invokevirtual 74, 3) := by decide +kernel
theorem dX9_doStep_77 : decode cX9_doStep 77 = .ok (.goto 114, 3) := by decide +kernel
theorem dX9_doStep_80 : decode cX9_doStep 80 = .ok (.aload_n 0, 1) := by decide +kernel
theorem dX9_doStep_81 : decode cX9_doStep 81 = .ok (.aload_n 0, 1) := by decide +kernel
theorem dX9_doStep_82 : decode cX9_doStep 82 = .ok (.getfield 19, 3) := by decide +kernel
theorem dX9_doStep_85 : decode cX9_doStep 85 = .ok (.i2l, 1) := by decide +kernel
theorem dX9_doStep_86 : decode cX9_doStep 86 = .ok (.invokevirtual 74, 3) := by decide +kernel
theorem dX9_doStep_89 : decode cX9_doStep 89 = .ok (.goto 102, 3) := by decide +kernel
theorem dX9_doStep_92 : decode cX9_doStep 92 = .ok (.aload_n 0, 1) := by decide +kernel
theorem dX9_doStep_93 : decode cX9_doStep 93 = .ok (.aload_n 0, 1) := by decide +kernel
theorem dX9_doStep_94 : decode cX9_doStep 94 = .ok (.getfield 22, 3) := by decide +kernel
theorem dX9_doStep_97 : decode cX9_doStep 97 = .ok (.i2l, 1) := by decide +kernel
theorem dX9_doStep_98 : decode cX9_doStep 98 = .ok (.invokevirtual 74, 3) := by decide +kernel
theorem dX9_doStep_101 : decode cX9_doStep 101 = .ok (.goto 90, 3) := by decide +kernel
theorem dX9_doStep_104 : decode cX9_doStep 104 = .ok (.aload_n 0, 1) := by decide +kernel
theorem dX9_doStep_105 : decode cX9_doStep 105 = .ok (.aload_n 0, 1) := by decide +kernel
theorem dX9_doStep_106 : decode cX9_doStep 106 = .ok (.getfield 25, 3) := by decide +kernel
theorem dX9_doStep_109 : decode cX9_doStep 109 = .ok (.i2l, 1) := by decide +kernel
theorem dX9_doStep_110 : decode cX9_doStep 110 = .ok (.invokevirtual 74, 3) := by decide +kernel
theorem dX9_doStep_113 : decode cX9_doStep 113 = .ok (.goto 78, 3) := by decide +kernel
theorem dX9_doStep_116 : decode cX9_doStep 116 = .ok (.aload_n 0, 1) := by decide +kernel
theorem dX9_doStep_117 : decode cX9_doStep 117 = .ok (.aload_n 0, 1) := by decide +kernel
theorem dX9_doStep_118 : decode cX9_doStep 118 = .ok (.getfield 28, 3) := by decide +kernel
theorem dX9_doStep_121 : decode cX9_doStep 121 = .ok (.aload_n 0, 1) := by decide +kernel
theorem dX9_doStep_122 : decode cX9_doStep 122 = .ok (.getfield 28, 3) := by decide +kernel
theorem dX9_doStep_125 : decode cX9_doStep 125 = .ok (.lmul, 1) := by decide +kernel
theorem dX9_doStep_126 : decode cX9_doStep 126 = .ok (.ldc2_w 92, 3) := by decide +kernel
theorem dX9_doStep_129 : decode cX9_doStep 129 = .ok (.ldiv, 1) := by decide +kernel
theorem dX9_doStep_130 : decode cX9_doStep 130 = .ok (.invokevirtual 74, 3) := by decide +kernel
theorem dX9_doStep_133 : decode cX9_doStep 133 = .ok (.goto 58, 3) := by decide +kernel
theorem dX9_doStep_136 : decode cX9_doStep 136 = .ok (.aload_n 0, 1) := by decide +kernel
theorem dX9_doStep_137 : decode cX9_doStep 137 = .ok (.aload_n 0, 1) := by decide +kernel
theorem dX9_doStep_138 : decode cX9_doStep 138 = .ok (.invokevirtual 83, 3) := by decide +kernel
theorem dX9_doStep_141 : decode cX9_doStep 141 = .ok (.lconst 0, 1) := by decide +kernel
theorem dX9_doStep_142 : decode cX9_doStep 142 = .ok (.lcmp, 1) := by decide +kernel
theorem dX9_doStep_143 : decode cX9_doStep 143 = .ok (.ifCond .ne 7, 3) := by decide +kernel
theorem dX9_doStep_146 : decode cX9_doStep 146 = .ok (.lconst 1, 1) := by decide +kernel
theorem dX9_doStep_147 : decode cX9_doStep 147 = .ok (.goto 4, 3) := by decide +kernel
theorem dX9_doStep_150 : decode cX9_doStep 150 = .ok (.lconst 0, 1) := by decide +kernel
theorem dX9_doStep_151 : decode cX9_doStep 151 = .ok (.invokevirtual 74, 3) := by decide +kernel
theorem dX9_doStep_154 : decode cX9_doStep 154 = .ok (.goto 37, 3) := by decide +kernel
theorem dX9_doStep_157 : decode cX9_doStep 157 = .ok (.aload_n 0, 1) := by decide +kernel
theorem dX9_doStep_158 : decode cX9_doStep 158 = .ok (.aload_n 0, 1) := by decide +kernel
theorem dX9_doStep_159 : decode cX9_doStep 159 = .ok (.invokevirtual 83, 3) := by decide +kernel
theorem dX9_doStep_162 : decode cX9_doStep 162 = .ok (.lneg, 1) := by decide +kernel
theorem dX9_doStep_163 : decode cX9_doStep 163 = .ok (.invokevirtual 74, 3) := by decide +kernel
theorem dX9_doStep_166 : decode cX9_doStep 166 = .ok (.goto 25, 3) := by decide +kernel
theorem dX9_doStep_169 : decode cX9_doStep 169 = .ok (.aload_n 0, 1) := by decide +kernel
theorem dX9_doStep_170 : decode cX9_doStep 170 = .ok (.invokevirtual 83, 3) := by decide +kernel
theorem dX9_doStep_173 : decode cX9_doStep 173 = .ok (.lstore_n 2, 1) := by decide +kernel
theorem dX9_doStep_174 : decode cX9_doStep 174 = .ok (.aload_n 0, 1) := by decide +kernel
theorem dX9_doStep_175 : decode cX9_doStep 175 = .ok (.invokevirtual 83, 3) := by decide +kernel
theorem dX9_doStep_178 : decode cX9_doStep 178 = .ok (.lstore 4, 2) := by decide +kernel
theorem dX9_doStep_180 : decode cX9_doStep 180 = .ok (.aload_n 0, 1) := by decide +kernel
theorem dX9_doStep_181 : decode cX9_doStep 181 = .ok (.iload_n 1, 1) := by decide +kernel
theorem dX9_doStep_182 : decode cX9_doStep 182 = .ok (.lload 4, 2) := by decide +kernel
theorem dX9_doStep_184 : decode cX9_doStep 184 = .ok (.lload_n 2, 1) := by decide +kernel
theorem dX9_doStep_185 : decode cX9_doStep 185 = .ok (.invokestatic 94, 3) := by decide +kernel
theorem dX9_doStep_188 : decode cX9_doStep 188 = .ok (.invokevirtual 74, 3) := by decide +kernel
theorem dX9_doStep_191 : decode cX9_doStep 191 = .ok (.return_, 1) := by decide +kernel
theorem dX9_joined_0 : decode cX9_joined 0 = .ok (.iload_n 0, 1) := by decide +kernel
theorem dX9_joined_1 : decode cX9_joined 1 = .ok (.lookupswitch 181 #[(38, 101), (42, 163), (43, 155), (45, 159), (47, 167), (60, 119), (61, 143), (62, 131), (124, 83)], 83) := by decide +kernel
theorem dX9_joined_84 : decode cX9_joined 84 = .ok (.lload_n 1, 1) := by decide +kernel
theorem dX9_joined_85 : decode cX9_joined 85 = .ok (.lconst 0, 1) := by decide +kernel
theorem dX9_joined_86 : decode cX9_joined 86 = .ok (.lcmp, 1) := by decide +kernel
theorem dX9_joined_87 : decode cX9_joined 87 = .ok (.ifCond .ne 9, 3) := by decide +kernel
theorem dX9_joined_90 : decode cX9_joined 90 = .ok (.lload_n 3, 1) := by decide +kernel
theorem dX9_joined_91 : decode cX9_joined 91 = .ok (.lconst 0, 1) := by decide +kernel
theorem dX9_joined_92 : decode cX9_joined 92 = .ok (.lcmp, 1) := by decide +kernel
theorem dX9_joined_93 : decode cX9_joined 93 = .ok (.ifCond .eq 7, 3) := by decide +kernel
theorem dX9_joined_96 : decode cX9_joined 96 = .ok (.lconst 1, 1) := by decide +kernel
theorem dX9_joined_97 : decode cX9_joined 97 = .ok (.goto 4, 3) := by decide +kernel
theorem dX9_joined_100 : decode cX9_joined 100 = .ok (.lconst 0, 1) := by decide +kernel
theorem dX9_joined_101 : decode cX9_joined 101 = .ok (.lreturn, 1) := by decide +kernel
theorem dX9_joined_102 : decode cX9_joined 102 = .ok (.lload_n 1, 1) := by decide +kernel
theorem dX9_joined_103 : decode cX9_joined 103 = .ok (.lconst 0, 1) := by decide +kernel
theorem dX9_joined_104 : decode cX9_joined 104 = .ok (.lcmp, 1) := by decide +kernel
theorem dX9_joined_105 : decode cX9_joined 105 = .ok (.ifCond .eq 13, 3) := by decide +kernel
theorem dX9_joined_108 : decode cX9_joined 108 = .ok (.lload_n 3, 1) := by decide +kernel
theorem dX9_joined_109 : decode cX9_joined 109 = .ok (.lconst 0, 1) := by decide +kernel
theorem dX9_joined_110 : decode cX9_joined 110 = .ok (.lcmp, 1) := by decide +kernel
theorem dX9_joined_111 : decode cX9_joined 111 = .ok (.ifCond .eq 7, 3) := by decide +kernel
theorem dX9_joined_114 : decode cX9_joined 114 = .ok (.lconst 1, 1) := by decide +kernel
theorem dX9_joined_115 : decode cX9_joined 115 = .ok (.goto 4, 3) := by decide +kernel
theorem dX9_joined_118 : decode cX9_joined 118 = .ok (.lconst 0, 1) := by decide +kernel
theorem dX9_joined_119 : decode cX9_joined 119 = .ok (.lreturn, 1) := by decide +kernel
theorem dX9_joined_120 : decode cX9_joined 120 = .ok (.lload_n 1, 1) := by decide +kernel
theorem dX9_joined_121 : decode cX9_joined 121 = .ok (.lload_n 3, 1) := by decide +kernel
theorem dX9_joined_122 : decode cX9_joined 122 = .ok (.lcmp, 1) := by decide +kernel
theorem dX9_joined_123 : decode cX9_joined 123 = .ok (.ifCond .ge 7, 3) := by decide +kernel
theorem dX9_joined_126 : decode cX9_joined 126 = .ok (.lconst 1, 1) := by decide +kernel
theorem dX9_joined_127 : decode cX9_joined 127 = .ok (.goto 4, 3) := by decide +kernel
theorem dX9_joined_130 : decode cX9_joined 130 = .ok (.lconst 0, 1) := by decide +kernel
theorem dX9_joined_131 : decode cX9_joined 131 = .ok (.lreturn, 1) := by decide +kernel
theorem dX9_joined_132 : decode cX9_joined 132 = .ok (.lload_n 1, 1) := by decide +kernel
theorem dX9_joined_133 : decode cX9_joined 133 = .ok (.lload_n 3, 1) := by decide +kernel
theorem dX9_joined_134 : decode cX9_joined 134 = .ok (.lcmp, 1) := by decide +kernel
theorem dX9_joined_135 : decode cX9_joined 135 = .ok (.ifCond .le 7, 3) := by decide +kernel
theorem dX9_joined_138 : decode cX9_joined 138 = .ok (.lconst 1, 1) := by decide +kernel
theorem dX9_joined_139 : decode cX9_joined 139 = .ok (.goto 4, 3) := by decide +kernel
theorem dX9_joined_142 : decode cX9_joined 142 = .ok (.lconst 0, 1) := by decide +kernel
theorem dX9_joined_143 : decode cX9_joined 143 = .ok (.lreturn, 1) := by decide +kernel
theorem dX9_joined_144 : decode cX9_joined 144 = .ok (.lload_n 1, 1) := by decide +kernel
theorem dX9_joined_145 : decode cX9_joined 145 = .ok (.lload_n 3, 1) := by decide +kernel
theorem dX9_joined_146 : decode cX9_joined 146 = .ok (.lcmp, 1) := by decide +kernel
theorem dX9_joined_147 : decode cX9_joined 147 = .ok (.ifCond .ne 7, 3) := by decide +kernel
theorem dX9_joined_150 : decode cX9_joined 150 = .ok (.lconst 1, 1) := by decide +kernel
theorem dX9_joined_151 : decode cX9_joined 151 = .ok (.goto 4, 3) := by decide +kernel
theorem dX9_joined_154 : decode cX9_joined 154 = .ok (.lconst 0, 1) := by decide +kernel
theorem dX9_joined_155 : decode cX9_joined 155 = .ok (.lreturn, 1) := by decide +kernel
theorem dX9_joined_156 : decode cX9_joined 156 = .ok (.lload_n 1, 1) := by decide +kernel
theorem dX9_joined_157 : decode cX9_joined 157 = .ok (.lload_n 3, 1) := by decide +kernel
theorem dX9_joined_158 : decode cX9_joined 158 = .ok (.ladd, 1) := by decide +kernel
theorem dX9_joined_159 : decode cX9_joined 159 = .ok (.lreturn, 1) := by decide +kernel
theorem dX9_joined_160 : decode cX9_joined 160 = .ok (.lload_n 1, 1) := by decide +kernel
theorem dX9_joined_161 : decode cX9_joined 161 = .ok (.lload_n 3, 1) := by decide +kernel
theorem dX9_joined_162 : decode cX9_joined 162 = .ok (.lsub, 1) := by decide +kernel
theorem dX9_joined_163 : decode cX9_joined 163 = .ok (.lreturn, 1) := by decide +kernel
theorem dX9_joined_164 : decode cX9_joined 164 = .ok (.lload_n 1, 1) := by decide +kernel
theorem dX9_joined_165 : decode cX9_joined 165 = .ok (.lload_n 3, 1) := by decide +kernel
theorem dX9_joined_166 : decode cX9_joined 166 = .ok (.lmul, 1) := by decide +kernel
theorem dX9_joined_167 : decode cX9_joined 167 = .ok (.lreturn, 1) := by decide +kernel
theorem dX9_joined_168 : decode cX9_joined 168 = .ok (.lload_n 3, 1) := by decide +kernel
theorem dX9_joined_169 : decode cX9_joined 169 = .ok (.lconst 0, 1) := by decide +kernel
theorem dX9_joined_170 : decode cX9_joined 170 = .ok (.lcmp, 1) := by decide +kernel
theorem dX9_joined_171 : decode cX9_joined 171 = .ok (.ifCond .ne 7, 3) := by decide +kernel
theorem dX9_joined_174 : decode cX9_joined 174 = .ok (.lconst 0, 1) := by decide +kernel
theorem dX9_joined_175 : decode cX9_joined 175 = .ok (.goto 6, 3) := by decide +kernel
theorem dX9_joined_178 : decode cX9_joined 178 = .ok (.lload_n 1, 1) := by decide +kernel
theorem dX9_joined_179 : decode cX9_joined 179 = .ok (.lload_n 3, 1) := by decide +kernel
theorem dX9_joined_180 : decode cX9_joined 180 = .ok (.ldiv, 1) := by decide +kernel
theorem dX9_joined_181 : decode cX9_joined 181 = .ok (.lreturn, 1) := by decide +kernel
theorem dX9_joined_182 : decode cX9_joined 182 = .ok (.lconst 0, 1) := by decide +kernel
theorem dX9_joined_183 : decode cX9_joined 183 = .ok (.lreturn, 1) := by decide +kernel
theorem dX9_push_0 : decode cX9_push 0 = .ok (.aload_n 0, 1) := by decide +kernel
theorem dX9_push_1 : decode cX9_push 1 = .ok (.getfield 65, 3) := by decide +kernel
theorem dX9_push_4 : decode cX9_push 4 = .ok (.bipush 40, 2) := by decide +kernel
theorem dX9_push_6 : decode cX9_push 6 = .ok (.if_icmp .ge 23, 3) := by decide +kernel
theorem dX9_push_9 : decode cX9_push 9 = .ok (.aload_n 0, 1) := by decide +kernel
theorem dX9_push_10 : decode cX9_push 10 = .ok (.getfield 9, 3) := by decide +kernel
theorem dX9_push_13 : decode cX9_push 13 = .ok (.aload_n 0, 1) := by decide +kernel
theorem dX9_push_14 : decode cX9_push 14 = .ok (.getfield 65, 3) := by decide +kernel
theorem dX9_push_17 : decode cX9_push 17 = .ok (.lload_n 1, 1) := by decide +kernel
theorem dX9_push_18 : decode cX9_push 18 = .ok (.lastore, 1) := by decide +kernel
theorem dX9_push_19 : decode cX9_push 19 = .ok (.aload_n 0, 1) := by decide +kernel
theorem dX9_push_20 : decode cX9_push 20 = .ok (.dup, 1) := by decide +kernel
theorem dX9_push_21 : decode cX9_push 21 = .ok (.getfield 65, 3) := by decide +kernel
theorem dX9_push_24 : decode cX9_push 24 = .ok (.iconst 1, 1) := by decide +kernel
theorem dX9_push_25 : decode cX9_push 25 = .ok (.iadd, 1) := by decide +kernel
theorem dX9_push_26 : decode cX9_push 26 = .ok (.putfield 65, 3) := by decide +kernel
theorem dX9_push_29 : decode cX9_push 29 = .ok (.return_, 1) := by decide +kernel
theorem dX9_pop_0 : decode cX9_pop 0 = .ok (.aload_n 0, 1) := by decide +kernel
theorem dX9_pop_1 : decode cX9_pop 1 = .ok (.getfield 65, 3) := by decide +kernel
theorem dX9_pop_4 : decode cX9_pop 4 = .ok (.ifCond .ne 5, 3) := by decide +kernel
theorem dX9_pop_7 : decode cX9_pop 7 = .ok (.lconst 0, 1) := by decide +kernel
theorem dX9_pop_8 : decode cX9_pop 8 = .ok (.lreturn, 1) := by decide +kernel
theorem dX9_pop_9 : decode cX9_pop 9 = .ok (.aload_n 0, 1) := by decide +kernel
theorem dX9_pop_10 : decode cX9_pop 10 = .ok (.dup, 1) := by decide +kernel
theorem dX9_pop_11 : decode cX9_pop 11 = .ok (.getfield 65, 3) := by decide +kernel
theorem dX9_pop_14 : decode cX9_pop 14 = .ok (.iconst 1, 1) := by decide +kernel
theorem dX9_pop_15 : decode cX9_pop 15 = .ok (.isub, 1) := by decide +kernel
theorem dX9_pop_16 : decode cX9_pop 16 = .ok (.putfield 65, 3) := by decide +kernel
theorem dX9_pop_19 : decode cX9_pop 19 = .ok (.aload_n 0, 1) := by decide +kernel
theorem dX9_pop_20 : decode cX9_pop 20 = .ok (.getfield 9, 3) := by decide +kernel
theorem dX9_pop_23 : decode cX9_pop 23 = .ok (.aload_n 0, 1) := by decide +kernel
theorem dX9_pop_24 : decode cX9_pop 24 = .ok (.getfield 65, 3) := by decide +kernel
theorem dX9_pop_27 : decode cX9_pop 27 = .ok (.laload, 1) := by decide +kernel
theorem dX9_pop_28 : decode cX9_pop 28 = .ok (.lreturn, 1) := by decide +kernel
theorem dX2_init_0 : decode cX2_init 0 = .ok (.aload_n 0, 1) := by decide +kernel
theorem dX2_init_1 : decode cX2_init 1 = .ok (.invokespecial 1, 3) := by decide +kernel
theorem dX2_init_4 : decode cX2_init 4 = .ok (.aload_n 0, 1) := by decide +kernel
theorem dX2_init_5 : decode cX2_init 5 = .ok (.aload_n 1, 1) := by decide +kernel
theorem dX2_init_6 : decode cX2_init 6 = .ok (.putfield 7, 3) := by decide +kernel
theorem dX2_init_9 : decode cX2_init 9 = .ok (.return_, 1) := by decide +kernel
theorem dX2_hold_0 : decode cX2_hold 0 = .ok (.aload_n 0, 1) := by decide +kernel
theorem dX2_hold_1 : decode cX2_hold 1 = .ok (.aload_n 1, 1) := by decide +kernel
theorem dX2_hold_2 : decode cX2_hold 2 = .ok (.iload 4, 2) := by decide +kernel
theorem dX2_hold_4 : decode cX2_hold 4 = .ok (.iload 5, 2) := by decide +kernel
theorem dX2_hold_6 : decode cX2_hold 6 = .ok (.iconst 0, 1) := by decide +kernel
theorem dX2_hold_7 : decode cX2_hold 7 = .ok (.invokevirtual 13, 3) := by decide +kernel
theorem dX2_hold_10 : decode cX2_hold 10 = .ok (.istore 6, 2) := by decide +kernel
theorem dX2_hold_12 : decode cX2_hold 12 = .ok (.iload_n 2, 1) := by decide +kernel
theorem dX2_hold_13 : decode cX2_hold 13 = .ok (.tableswitch 86 0 2 #[27, 58, 70], 27) := by decide +kernel
theorem dX2_hold_40 : decode cX2_hold 40 = .ok (.iload 4, 2) := by decide +kernel
theorem dX2_hold_42 : decode cX2_hold 42 = .ok (.iload_n 3, 1) := by decide +kernel
theorem dX2_hold_43 : decode cX2_hold 43 = .ok (.if_icmp .eq 22, 3) := by decide +kernel
theorem dX2_hold_46 : decode cX2_hold 46 = .ok (.iconst 1, 1) := by decide +kernel
theorem dX2_hold_47 : decode cX2_hold 47 = .ok (.aload_n 0, 1) := by decide +kernel
theorem dX2_hold_48 : decode cX2_hold 48 = .ok (.aload_n 1, 1) := by decide +kernel
theorem dX2_hold_49 : decode cX2_hold 49 = .ok (.iload 4, 2) := by decide +kernel
theorem dX2_hold_51 : decode cX2_hold 51 = .ok (.iconst 1, 1) := by decide +kernel
theorem dX2_hold_52 : decode cX2_hold 52 = .ok (.iadd, 1) := by decide +kernel
theorem dX2_hold_53 : decode cX2_hold 53 = .ok (.iload 5, 2) := by decide +kernel
theorem dX2_hold_55 : decode cX2_hold 55 = .ok (.iconst 0, 1) := by decide +kernel
theorem dX2_hold_56 : decode cX2_hold 56 = .ok (.invokevirtual 13, 3) := by decide +kernel
theorem dX2_hold_59 : decode cX2_hold 59 = .ok (.iadd, 1) := by decide +kernel
theorem dX2_hold_60 : decode cX2_hold 60 = .ok (.iload 6, 2) := by decide +kernel
theorem dX2_hold_62 : decode cX2_hold 62 = .ok (.if_icmp .lt 7, 3) := by decide +kernel
theorem dX2_hold_65 : decode cX2_hold 65 = .ok (.iconst 1, 1) := by decide +kernel
theorem dX2_hold_66 : decode cX2_hold 66 = .ok (.goto 4, 3) := by decide +kernel
theorem dX2_hold_69 : decode cX2_hold 69 = .ok (.iconst 0, 1) := by decide +kernel
theorem dX2_hold_70 : decode cX2_hold 70 = .ok (.ireturn, 1) := by decide +kernel
theorem dX2_hold_71 : decode cX2_hold 71 = .ok (.aload_n 0, 1) := by decide +kernel
theorem dX2_hold_72 : decode cX2_hold 72 = .ok (.aload_n 1, 1) := by decide +kernel
theorem dX2_hold_73 : decode cX2_hold 73 = .ok (.iload 4, 2) := by decide +kernel
theorem dX2_hold_75 : decode cX2_hold 75 = .ok (.iload 5, 2) := by decide +kernel
theorem dX2_hold_77 : decode cX2_hold 77 = .ok (.iload 6, 2) := by decide +kernel
theorem dX2_hold_79 : decode cX2_hold 79 = .ok (.invokevirtual 17, 3) := by decide +kernel
theorem dX2_hold_82 : decode cX2_hold 82 = .ok (.ireturn, 1) := by decide +kernel
theorem dX2_hold_83 : decode cX2_hold 83 = .ok (.iload 6, 2) := by decide +kernel
theorem dX2_hold_85 : decode cX2_hold 85 = .ok (.iload 4, 2) := by decide +kernel
theorem dX2_hold_87 : decode cX2_hold 87 = .ok (.iload 5, 2) := by decide +kernel
theorem dX2_hold_89 : decode cX2_hold 89 = .ok (.iadd, 1) := by decide +kernel
theorem dX2_hold_90 : decode cX2_hold 90 = .ok (.if_icmp .gt 7, 3) := by decide +kernel
theorem dX2_hold_93 : decode cX2_hold 93 = .ok (.iconst 1, 1) := by decide +kernel
theorem dX2_hold_94 : decode cX2_hold 94 = .ok (.goto 4, 3) := by decide +kernel
theorem dX2_hold_97 : decode cX2_hold 97 = .ok (.iconst 0, 1) := by decide +kernel
theorem dX2_hold_98 : decode cX2_hold 98 = .ok (.ireturn, 1) := by decide +kernel
theorem dX2_hold_99 : decode cX2_hold 99 = .ok (.iload 4, 2) := by decide +kernel
theorem dX2_hold_101 : decode cX2_hold 101 = .ok (.ifCond .eq 13, 3) := by decide +kernel
theorem dX2_hold_104 : decode cX2_hold 104 = .ok (.iload 5, 2) := by decide +kernel
theorem dX2_hold_106 : decode cX2_hold 106 = .ok (.ifCond .eq 8, 3) := by decide +kernel
theorem dX2_hold_109 : decode cX2_hold 109 = .ok (.iload 6, 2) := by decide +kernel
theorem dX2_hold_111 : decode cX2_hold 111 = .ok (.ifCond .le 7, 3) := by decide +kernel
theorem dX2_hold_114 : decode cX2_hold 114 = .ok (.iconst 1, 1) := by decide +kernel
theorem dX2_hold_115 : decode cX2_hold 115 = .ok (.goto 4, 3) := by decide +kernel
theorem dX2_hold_118 : decode cX2_hold 118 = .ok (.iconst 0, 1) := by decide +kernel
theorem dX2_hold_119 : decode cX2_hold 119 = .ok (.ireturn, 1) := by decide +kernel
theorem dX2_noneMoreByHands_0 : decode cX2_noneMoreByHands 0 = .ok (.iconst 1, 1) := by decide +kernel
theorem dX2_noneMoreByHands_1 : decode cX2_noneMoreByHands 1 = .ok (.istore 5, 2) := by decide +kernel
theorem dX2_noneMoreByHands_3 : decode cX2_noneMoreByHands 3 = .ok (.iload 5, 2) := by decide +kernel
theorem dX2_noneMoreByHands_5 : decode cX2_noneMoreByHands 5 = .ok (.iload_n 2, 1) := by decide +kernel
theorem dX2_noneMoreByHands_6 : decode cX2_noneMoreByHands 6 = .ok (.if_icmp .ge 28, 3) := by decide +kernel
theorem dX2_noneMoreByHands_9 : decode cX2_noneMoreByHands 9 = .ok (.aload_n 0, 1) := by decide +kernel
theorem dX2_noneMoreByHands_10 : decode cX2_noneMoreByHands 10 = .ok (.aload_n 1, 1) := by decide +kernel
theorem dX2_noneMoreByHands_11 : decode cX2_noneMoreByHands 11 = .ok (.iload 5, 2) := by decide +kernel
theorem dX2_noneMoreByHands_13 : decode cX2_noneMoreByHands 13 = .ok (.iload_n 3, 1) := by decide +kernel
theorem dX2_noneMoreByHands_14 : decode cX2_noneMoreByHands 14 = .ok (.iload_n 2, 1) := by decide +kernel
theorem dX2_noneMoreByHands_15 : decode cX2_noneMoreByHands 15 = .ok (.iload 5, 2) := by decide +kernel
theorem dX2_noneMoreByHands_17 : decode cX2_noneMoreByHands 17 = .ok (.isub, 1) := by decide +kernel
theorem dX2_noneMoreByHands_18 : decode cX2_noneMoreByHands 18 = .ok (.invokevirtual 13, 3) := by decide +kernel
theorem dX2_noneMoreByHands_21 : decode cX2_noneMoreByHands 21 = .ok (.iload 4, 2) := by decide +kernel
theorem dX2_noneMoreByHands_23 : decode cX2_noneMoreByHands 23 = .ok (.if_icmp .le 5, 3) := by decide +kernel
theorem dX2_noneMoreByHands_26 : decode cX2_noneMoreByHands 26 = .ok (.iconst 0, 1) := by decide +kernel
theorem dX2_noneMoreByHands_27 : decode cX2_noneMoreByHands 27 = .ok (.ireturn, 1) := by decide +kernel
theorem dX2_noneMoreByHands_28 : decode cX2_noneMoreByHands 28 = .ok (.iinc 5 1, 3) := by decide +kernel
theorem dX2_noneMoreByHands_31 : decode cX2_noneMoreByHands 31 = .ok (.goto (-28), 3) := by decide +kernel
theorem dX2_noneMoreByHands_34 : decode cX2_noneMoreByHands 34 = .ok (.iconst 1, 1) := by decide +kernel
theorem dX2_noneMoreByHands_35 : decode cX2_noneMoreByHands 35 = .ok (.ireturn, 1) := by decide +kernel
theorem dX2_addedTo_0 : decode cX2_addedTo 0 = .ok (.aload_n 0, 1) := by decide +kernel
theorem dX2_addedTo_1 : decode cX2_addedTo 1 = .ok (.getfield 7, 3) := by decide +kernel
theorem dX2_addedTo_4 : decode cX2_addedTo 4 = .ok (.invokevirtual 21, 3) := by decide +kernel
theorem dX2_addedTo_7 : decode cX2_addedTo 7 = .ok (.aload_n 0, 1) := by decide +kernel
theorem dX2_addedTo_8 : decode cX2_addedTo 8 = .ok (.getfield 7, 3) := by decide +kernel
theorem dX2_addedTo_11 : decode cX2_addedTo 11 = .ok (.iload_n 2, 1) := by decide +kernel
theorem dX2_addedTo_12 : decode cX2_addedTo 12 = .ok (.invokevirtual 26, 3) := by decide +kernel
theorem dX2_addedTo_15 : decode cX2_addedTo 15 = .ok (.aload_n 0, 1) := by decide +kernel
theorem dX2_addedTo_16 : decode cX2_addedTo 16 = .ok (.getfield 7, 3) := by decide +kernel
theorem dX2_addedTo_19 : decode cX2_addedTo 19 = .ok (.iload_n 3, 1) := by decide +kernel
theorem dX2_addedTo_20 : decode cX2_addedTo 20 = .ok (.invokevirtual 26, 3) := by decide +kernel
theorem dX2_addedTo_23 : decode cX2_addedTo 23 = .ok (.aload_n 0, 1) := by decide +kernel
theorem dX2_addedTo_24 : decode cX2_addedTo 24 = .ok (.getfield 7, 3) := by decide +kernel
theorem dX2_addedTo_27 : decode cX2_addedTo 27 = .ok (.iload 4, 2) := by decide +kernel
theorem dX2_addedTo_29 : decode cX2_addedTo 29 = .ok (.invokevirtual 26, 3) := by decide +kernel
theorem dX2_addedTo_32 : decode cX2_addedTo 32 = .ok (.aload_n 0, 1) := by decide +kernel
theorem dX2_addedTo_33 : decode cX2_addedTo 33 = .ok (.getfield 7, 3) := by decide +kernel
theorem dX2_addedTo_36 : decode cX2_addedTo 36 = .ok (.aload_n 1, 1) := by decide +kernel
theorem dX2_addedTo_37 : decode cX2_addedTo 37 = .ok (.invokevirtual 30, 3) := by decide +kernel
theorem dX2_addedTo_40 : decode cX2_addedTo 40 = .ok (.ireturn, 1) := by decide +kernel
theorem dX5_init_0 : decode cX5_init 0 = .ok (.aload_n 0, 1) := by decide +kernel
theorem dX5_init_1 : decode cX5_init 1 = .ok (.invokespecial 3, 3) := by decide +kernel
theorem dX5_init_4 : decode cX5_init 4 = .ok (.aload_n 0, 1) := by decide +kernel
theorem dX5_init_5 : decode cX5_init 5 = .ok (.bipush 40, 2) := by decide +kernel
theorem dX5_init_7 : decode cX5_init 7 = .ok (.newarray .int, 2) := by decide +kernel
theorem dX5_init_9 : decode cX5_init 9 = .ok (.putfield 9, 3) := by decide +kernel
theorem dX5_init_12 : decode cX5_init 12 = .ok (.return_, 1) := by decide +kernel
theorem dX5_read_0 : decode cX5_read 0 = .ok (.aload_n 0, 1) := by decide +kernel
theorem dX5_read_1 : decode cX5_read 1 = .ok (.iconst 0, 1) := by decide +kernel
theorem dX5_read_2 : decode cX5_read 2 = .ok (.putfield 15, 3) := by decide +kernel
theorem dX5_read_5 : decode cX5_read 5 = .ok (.aload_n 0, 1) := by decide +kernel
theorem dX5_read_6 : decode cX5_read 6 = .ok (.iconst 0, 1) := by decide +kernel
theorem dX5_read_7 : decode cX5_read 7 = .ok (.putfield 19, 3) := by decide +kernel
theorem dX5_read_10 : decode cX5_read 10 = .ok (.aload_n 0, 1) := by decide +kernel
theorem dX5_read_11 : decode cX5_read 11 = .ok (.iconst 0, 1) := by decide +kernel
theorem dX5_read_12 : decode cX5_read 12 = .ok (.putfield 22, 3) := by decide +kernel
theorem dX5_read_15 : decode cX5_read 15 = .ok (.aload_n 0, 1) := by decide +kernel
theorem dX5_read_16 : decode cX5_read 16 = .ok (.iconst 1, 1) := by decide +kernel
theorem dX5_read_17 : decode cX5_read 17 = .ok (.putfield 25, 3) := by decide +kernel
theorem dX5_read_20 : decode cX5_read 20 = .ok (.aload_n 1, 1) := by decide +kernel
theorem dX5_read_21 : decode cX5_read 21 = .ok (.iconst 0, 1) := by decide +kernel
theorem dX5_read_22 : decode cX5_read 22 = .ok (.putfield 29, 3) := by decide +kernel
theorem dX5_read_25 : decode cX5_read 25 = .ok (.aload_n 1, 1) := by decide +kernel
theorem dX5_read_26 : decode cX5_read 26 = .ok (.iconst (-1), 1) := by decide +kernel
theorem dX5_read_27 : decode cX5_read 27 = .ok (.putfield 34, 3) := by decide +kernel
theorem dX5_read_30 : decode cX5_read 30 = .ok (.iconst 0, 1) := by decide +kernel
theorem dX5_read_31 : decode cX5_read 31 = .ok (.istore_n 2, 1) := by decide +kernel
theorem dX5_read_32 : decode cX5_read 32 = .ok (.iload_n 2, 1) := by decide +kernel
theorem dX5_read_33 : decode cX5_read 33 = .ok (.aload_n 1, 1) := by decide +kernel
theorem dX5_read_34 : decode cX5_read 34 = .ok (.getfield 37, 3) := by decide +kernel
theorem dX5_read_37 : decode cX5_read 37 = .ok (.if_icmp .ge 23, 3) := by decide +kernel
theorem dX5_read_40 : decode cX5_read 40 = .ok (.aload_n 1, 1) := by decide +kernel
theorem dX5_read_41 : decode cX5_read 41 = .ok (.getfield 34, 3) := by decide +kernel
theorem dX5_read_44 : decode cX5_read 44 = .ok (.iconst (-1), 1) := by decide +kernel
theorem dX5_read_45 : decode cX5_read 45 = .ok (.if_icmp .ne 15, 3) := by decide +kernel
theorem dX5_read_48 : decode cX5_read 48 = .ok (.aload_n 0, 1) := by decide +kernel
theorem dX5_read_49 : decode cX5_read 49 = .ok (.aload_n 1, 1) := by decide +kernel
theorem dX5_read_50 : decode cX5_read 50 = .ok (.iload_n 2, 1) := by decide +kernel
theorem dX5_read_51 : decode cX5_read 51 = .ok (.invokevirtual 40, 3) := by decide +kernel
theorem dX5_read_54 : decode cX5_read 54 = .ok (.iinc 2 1, 3) := by decide +kernel
theorem dX5_read_57 : decode cX5_read 57 = .ok (.goto (-25), 3) := by decide +kernel
theorem dX5_read_60 : decode cX5_read 60 = .ok (.aload_n 1, 1) := by decide +kernel
theorem dX5_read_61 : decode cX5_read 61 = .ok (.getfield 34, 3) := by decide +kernel
theorem dX5_read_64 : decode cX5_read 64 = .ok (.iconst (-1), 1) := by decide +kernel
theorem dX5_read_65 : decode cX5_read 65 = .ok (.if_icmp .ne 30, 3) := by decide +kernel
theorem dX5_read_68 : decode cX5_read 68 = .ok (.aload_n 0, 1) := by decide +kernel
theorem dX5_read_69 : decode cX5_read 69 = .ok (.getfield 25, 3) := by decide +kernel
theorem dX5_read_72 : decode cX5_read 72 = .ok (.ifCond .ne 10, 3) := by decide +kernel
theorem dX5_read_75 : decode cX5_read 75 = .ok (.aload_n 0, 1) := by decide +kernel
theorem dX5_read_76 : decode cX5_read 76 = .ok (.getfield 19, 3) := by decide +kernel
theorem dX5_read_79 : decode cX5_read 79 = .ok (.ifCond .le 16, 3) := by decide +kernel
theorem dX5_read_82 : decode cX5_read 82 = .ok (.aload_n 1, 1) := by decide +kernel
theorem dX5_read_83 : decode cX5_read 83 = .ok (.bipush 10, 2) := by decide +kernel
theorem dX5_read_85 : decode cX5_read 85 = .ok (.aload_n 1, 1) := by decide +kernel
theorem dX5_read_86 : decode cX5_read 86 = .ok (.getfield 37, 3) := by decide +kernel
theorem dX5_read_89 : decode cX5_read 89 = .ok (.imul, 1) := by decide +kernel
theorem dX5_read_90 : decode cX5_read 90 = .ok (.iconst 1, 1) := by decide +kernel
theorem dX5_read_91 : decode cX5_read 91 = .ok (.iadd, 1) := by decide +kernel
theorem dX5_read_92 : decode cX5_read 92 = .ok (.putfield 34, 3) := by decide +kernel
theorem dX5_read_95 : decode cX5_read 95 = .ok (.aload_n 0, 1) := by decide +kernel
theorem dX5_read_96 : decode cX5_read 96 = .ok (.aload_n 1, 1) := by decide +kernel
theorem dX5_read_97 : decode cX5_read 97 = .ok (.iconst 1, 1) := by decide +kernel
theorem dX5_read_98 : decode cX5_read 98 = .ok (.invokevirtual 44, 3) := by decide +kernel
theorem dX5_read_101 : decode cX5_read 101 = .ok (.return_, 1) := by decide +kernel
theorem dX5_readCharacter_0 : decode cX5_readCharacter 0 = .ok (.aload_n 1, 1) := by decide +kernel
theorem dX5_readCharacter_1 : decode cX5_readCharacter 1 = .ok (.getfield 47, 3) := by decide +kernel
theorem dX5_readCharacter_4 : decode cX5_readCharacter 4 = .ok (.iload_n 2, 1) := by decide +kernel
theorem dX5_readCharacter_5 : decode cX5_readCharacter 5 = .ok (.iaload, 1) := by decide +kernel
theorem dX5_readCharacter_6 : decode cX5_readCharacter 6 = .ok (.istore_n 3, 1) := by decide +kernel
theorem dX5_readCharacter_7 : decode cX5_readCharacter 7 = .ok (.iload_n 3, 1) := by decide +kernel
theorem dX5_readCharacter_8 : decode cX5_readCharacter 8 = .ok (.bipush 48, 2) := by decide +kernel
theorem dX5_readCharacter_10 : decode cX5_readCharacter 10 = .ok (.if_icmp .lt 20, 3) := by decide +kernel
theorem dX5_readCharacter_13 : decode cX5_readCharacter 13 = .ok (.iload_n 3, 1) := by decide +kernel
theorem dX5_readCharacter_14 : decode cX5_readCharacter 14 = .ok (.bipush 57, 2) := by decide +kernel
theorem dX5_readCharacter_16 : decode cX5_readCharacter 16 = .ok (.if_icmp .gt 14, 3) := by decide +kernel
theorem dX5_readCharacter_19 : decode cX5_readCharacter 19 = .ok (.aload_n 0, 1) := by decide +kernel
theorem dX5_readCharacter_20 : decode cX5_readCharacter 20 = .ok (.aload_n 1, 1) := by decide +kernel
theorem dX5_readCharacter_21 : decode cX5_readCharacter 21 = .ok (.iload_n 2, 1) := by decide +kernel
theorem dX5_readCharacter_22 : decode cX5_readCharacter 22 = .ok (.iload_n 3, 1) := by decide +kernel
theorem dX5_readCharacter_23 : decode cX5_readCharacter 23 = .ok (.bipush 48, 2) := by decide +kernel
theorem dX5_readCharacter_25 : decode cX5_readCharacter 25 = .ok (.isub, 1) := by decide +kernel
theorem dX5_readCharacter_26 : decode cX5_readCharacter 26 = .ok (.invokevirtual 50, 3) := by decide +kernel
theorem dX5_readCharacter_29 : decode cX5_readCharacter 29 = .ok (.return_, 1) := by decide +kernel
theorem dX5_readCharacter_30 : decode cX5_readCharacter 30 = .ok (.aload_n 0, 1) := by decide +kernel
theorem dX5_readCharacter_31 : decode cX5_readCharacter 31 = .ok (.iconst 0, 1) := by decide +kernel
theorem dX5_readCharacter_32 : decode cX5_readCharacter 32 = .ok (.putfield 22, 3) := by decide +kernel
theorem dX5_readCharacter_35 : decode cX5_readCharacter 35 = .ok (.iload_n 3, 1) := by decide +kernel
theorem dX5_readCharacter_36 : decode cX5_readCharacter 36 = .ok (.bipush 32, 2) := by decide +kernel
theorem dX5_readCharacter_38 : decode cX5_readCharacter 38 = .ok (.if_icmp .ne 4, 3) := by decide +kernel
theorem dX5_readCharacter_41 : decode cX5_readCharacter 41 = .ok (.return_, 1) := by decide +kernel
theorem dX5_readCharacter_42 : decode cX5_readCharacter 42 = .ok (.aload_n 0, 1) := by decide +kernel
theorem dX5_readCharacter_43 : decode cX5_readCharacter 43 = .ok (.getfield 25, 3) := by decide +kernel
theorem dX5_readCharacter_46 : decode cX5_readCharacter 46 = .ok (.ifCond .eq 12, 3) := by decide +kernel
theorem dX5_readCharacter_49 : decode cX5_readCharacter 49 = .ok (.aload_n 0, 1) := by decide +kernel
theorem dX5_readCharacter_50 : decode cX5_readCharacter 50 = .ok (.aload_n 1, 1) := by decide +kernel
theorem dX5_readCharacter_51 : decode cX5_readCharacter 51 = .ok (.iload_n 2, 1) := by decide +kernel
theorem dX5_readCharacter_52 : decode cX5_readCharacter 52 = .ok (.invokevirtual 54, 3) := by decide +kernel
theorem dX5_readCharacter_55 : decode cX5_readCharacter 55 = .ok (.goto 9, 3) := by decide +kernel
theorem dX5_readCharacter_58 : decode cX5_readCharacter 58 = .ok (.aload_n 0, 1) := by decide +kernel
theorem dX5_readCharacter_59 : decode cX5_readCharacter 59 = .ok (.aload_n 1, 1) := by decide +kernel
theorem dX5_readCharacter_60 : decode cX5_readCharacter 60 = .ok (.iload_n 3, 1) := by decide +kernel
theorem dX5_readCharacter_61 : decode cX5_readCharacter 61 = .ok (.invokevirtual 58, 3) := by decide +kernel
theorem dX5_readCharacter_64 : decode cX5_readCharacter 64 = .ok (.istore 4, 2) := by decide +kernel
theorem dX5_readCharacter_66 : decode cX5_readCharacter 66 = .ok (.iload 4, 2) := by decide +kernel
theorem dX5_readCharacter_68 : decode cX5_readCharacter 68 = .ok (.ifCond .ne 21, 3) := by decide +kernel
theorem dX5_readCharacter_71 : decode cX5_readCharacter 71 = .ok (.aload_n 1, 1) := by decide +kernel
theorem dX5_readCharacter_72 : decode cX5_readCharacter 72 = .ok (.getfield 34, 3) := by decide +kernel
theorem dX5_readCharacter_75 : decode cX5_readCharacter 75 = .ok (.iconst (-1), 1) := by decide +kernel
theorem dX5_readCharacter_76 : decode cX5_readCharacter 76 = .ok (.if_icmp .ne 13, 3) := by decide +kernel
theorem dX5_readCharacter_79 : decode cX5_readCharacter 79 = .ok (.aload_n 1, 1) := by decide +kernel
theorem dX5_readCharacter_80 : decode cX5_readCharacter 80 = .ok (.bipush 10, 2) := by decide +kernel
theorem dX5_readCharacter_82 : decode cX5_readCharacter 82 = .ok (.iload_n 2, 1) := by decide +kernel
theorem dX5_readCharacter_83 : decode cX5_readCharacter 83 = .ok (.imul, 1) := by decide +kernel
theorem dX5_readCharacter_84 : decode cX5_readCharacter 84 = .ok (.iconst 1, 1) := by decide +kernel
theorem dX5_readCharacter_85 : decode cX5_readCharacter 85 = .ok (.iadd, 1) := by decide +kernel
theorem dX5_readCharacter_86 : decode cX5_readCharacter 86 = .ok (.putfield 34, 3) := by decide +kernel
theorem dX5_readCharacter_89 : decode cX5_readCharacter 89 = .ok (.return_, 1) := by decide +kernel
theorem dX5_readDigit_0 : decode cX5_readDigit 0 = .ok (.aload_n 1, 1) := by decide +kernel
theorem dX5_readDigit_1 : decode cX5_readDigit 1 = .ok (.getfield 29, 3) := by decide +kernel
theorem dX5_readDigit_4 : decode cX5_readDigit 4 = .ok (.iconst 1, 1) := by decide +kernel
theorem dX5_readDigit_5 : decode cX5_readDigit 5 = .ok (.isub, 1) := by decide +kernel
theorem dX5_readDigit_6 : decode cX5_readDigit 6 = .ok (.istore 4, 2) := by decide +kernel
theorem dX5_readDigit_8 : decode cX5_readDigit 8 = .ok (.aload_n 0, 1) := by decide +kernel
theorem dX5_readDigit_9 : decode cX5_readDigit 9 = .ok (.getfield 22, 3) := by decide +kernel
theorem dX5_readDigit_12 : decode cX5_readDigit 12 = .ok (.bipush 6, 2) := by decide +kernel
theorem dX5_readDigit_14 : decode cX5_readDigit 14 = .ok (.if_icmp .ne 19, 3) := by decide +kernel
theorem dX5_readDigit_17 : decode cX5_readDigit 17 = .ok (.aload_n 1, 1) := by decide +kernel
theorem dX5_readDigit_18 : decode cX5_readDigit 18 = .ok (.bipush 10, 2) := by decide +kernel
theorem dX5_readDigit_20 : decode cX5_readDigit 20 = .ok (.iload_n 2, 1) := by decide +kernel
theorem dX5_readDigit_21 : decode cX5_readDigit 21 = .ok (.bipush 6, 2) := by decide +kernel
theorem dX5_readDigit_23 : decode cX5_readDigit 23 = .ok (.isub, 1) := by decide +kernel
theorem dX5_readDigit_24 : decode cX5_readDigit 24 = .ok (.imul, 1) := by decide +kernel
theorem dX5_readDigit_25 : decode cX5_readDigit 25 = .ok (.iconst 2, 1) := by decide +kernel
theorem dX5_readDigit_26 : decode cX5_readDigit 26 = .ok (.iadd, 1) := by decide +kernel
theorem dX5_readDigit_27 : decode cX5_readDigit 27 = .ok (.putfield 34, 3) := by decide +kernel
theorem dX5_readDigit_30 : decode cX5_readDigit 30 = .ok (.goto 82, 3) := by decide +kernel
theorem dX5_readDigit_33 : decode cX5_readDigit 33 = .ok (.aload_n 0, 1) := by decide +kernel
theorem dX5_readDigit_34 : decode cX5_readDigit 34 = .ok (.getfield 22, 3) := by decide +kernel
theorem dX5_readDigit_37 : decode cX5_readDigit 37 = .ok (.ifCond .le 40, 3) := by decide +kernel
theorem dX5_readDigit_40 : decode cX5_readDigit 40 = .ok (.iload 4, 2) := by decide +kernel
theorem dX5_readDigit_42 : decode cX5_readDigit 42 = .ok (.ifCond .lt 35, 3) := by decide +kernel
theorem dX5_readDigit_45 : decode cX5_readDigit 45 = .ok (.aload_n 1, 1) := by decide +kernel
theorem dX5_readDigit_46 : decode cX5_readDigit 46 = .ok (.getfield 61, 3) := by decide +kernel
theorem dX5_readDigit_49 : decode cX5_readDigit 49 = .ok (.iload 4, 2) := by decide +kernel
theorem dX5_readDigit_51 : decode cX5_readDigit 51 = .ok (.bipush 10, 2) := by decide +kernel
theorem dX5_readDigit_53 : decode cX5_readDigit 53 = .ok (.aload_n 1, 1) := by decide +kernel
theorem dX5_readDigit_54 : decode cX5_readDigit 54 = .ok (.getfield 61, 3) := by decide +kernel
theorem dX5_readDigit_57 : decode cX5_readDigit 57 = .ok (.iload 4, 2) := by decide +kernel
theorem dX5_readDigit_59 : decode cX5_readDigit 59 = .ok (.iaload, 1) := by decide +kernel
theorem dX5_readDigit_60 : decode cX5_readDigit 60 = .ok (.imul, 1) := by decide +kernel
theorem dX5_readDigit_61 : decode cX5_readDigit 61 = .ok (.iload_n 3, 1) := by decide +kernel
theorem dX5_readDigit_62 : decode cX5_readDigit 62 = .ok (.iadd, 1) := by decide +kernel
theorem dX5_readDigit_63 : decode cX5_readDigit 63 = .ok (.iastore, 1) := by decide +kernel
theorem dX5_readDigit_64 : decode cX5_readDigit 64 = .ok (.aload_n 0, 1) := by decide +kernel
theorem dX5_readDigit_65 : decode cX5_readDigit 65 = .ok (.dup, 1) := by decide +kernel
theorem dX5_readDigit_66 : decode cX5_readDigit 66 = .ok (.getfield 22, 3) := by decide +kernel
theorem dX5_readDigit_69 : decode cX5_readDigit 69 = .ok (.iconst 1, 1) := by decide +kernel
theorem dX5_readDigit_70 : decode cX5_readDigit 70 = .ok (.iadd, 1) := by decide +kernel
theorem dX5_readDigit_71 : decode cX5_readDigit 71 = .ok (.putfield 22, 3) := by decide +kernel
theorem dX5_readDigit_74 : decode cX5_readDigit 74 = .ok (.goto 38, 3) := by decide +kernel
theorem dX5_readDigit_77 : decode cX5_readDigit 77 = .ok (.aload_n 0, 1) := by decide +kernel
theorem dX5_readDigit_78 : decode cX5_readDigit 78 = .ok (.getfield 25, 3) := by decide +kernel
theorem dX5_readDigit_81 : decode cX5_readDigit 81 = .ok (.ifCond .eq 21, 3) := by decide +kernel
theorem dX5_readDigit_84 : decode cX5_readDigit 84 = .ok (.aload_n 1, 1) := by decide +kernel
theorem dX5_readDigit_85 : decode cX5_readDigit 85 = .ok (.iload_n 3, 1) := by decide +kernel
theorem dX5_readDigit_86 : decode cX5_readDigit 86 = .ok (.invokevirtual 64, 3) := by decide +kernel
theorem dX5_readDigit_89 : decode cX5_readDigit 89 = .ok (.aload_n 0, 1) := by decide +kernel
theorem dX5_readDigit_90 : decode cX5_readDigit 90 = .ok (.iconst 0, 1) := by decide +kernel
theorem dX5_readDigit_91 : decode cX5_readDigit 91 = .ok (.putfield 25, 3) := by decide +kernel
theorem dX5_readDigit_94 : decode cX5_readDigit 94 = .ok (.aload_n 0, 1) := by decide +kernel
theorem dX5_readDigit_95 : decode cX5_readDigit 95 = .ok (.iconst 1, 1) := by decide +kernel
theorem dX5_readDigit_96 : decode cX5_readDigit 96 = .ok (.putfield 22, 3) := by decide +kernel
theorem dX5_readDigit_99 : decode cX5_readDigit 99 = .ok (.goto 13, 3) := by decide +kernel
theorem dX5_readDigit_102 : decode cX5_readDigit 102 = .ok (.aload_n 1, 1) := by decide +kernel
theorem dX5_readDigit_103 : decode cX5_readDigit 103 = .ok (.bipush 10, 2) := by decide +kernel
theorem dX5_readDigit_105 : decode cX5_readDigit 105 = .ok (.iload_n 2, 1) := by decide +kernel
theorem dX5_readDigit_106 : decode cX5_readDigit 106 = .ok (.imul, 1) := by decide +kernel
theorem dX5_readDigit_107 : decode cX5_readDigit 107 = .ok (.iconst 1, 1) := by decide +kernel
theorem dX5_readDigit_108 : decode cX5_readDigit 108 = .ok (.iadd, 1) := by decide +kernel
theorem dX5_readDigit_109 : decode cX5_readDigit 109 = .ok (.putfield 34, 3) := by decide +kernel
theorem dX5_readDigit_112 : decode cX5_readDigit 112 = .ok (.return_, 1) := by decide +kernel
theorem dX5_readUnit_0 : decode cX5_readUnit 0 = .ok (.aload_n 1, 1) := by decide +kernel
theorem dX5_readUnit_1 : decode cX5_readUnit 1 = .ok (.getfield 47, 3) := by decide +kernel
theorem dX5_readUnit_4 : decode cX5_readUnit 4 = .ok (.iload_n 2, 1) := by decide +kernel
theorem dX5_readUnit_5 : decode cX5_readUnit 5 = .ok (.iaload, 1) := by decide +kernel
theorem dX5_readUnit_6 : decode cX5_readUnit 6 = .ok (.istore_n 3, 1) := by decide +kernel
theorem dX5_readUnit_7 : decode cX5_readUnit 7 = .ok (.iload_n 3, 1) := by decide +kernel
theorem dX5_readUnit_8 : decode cX5_readUnit 8 = .ok (.lookupswitch 144 #[(33, 89), (40, 105), (45, 97), (108, 76), (109, 76), (110, 76), (114, 76), (115, 76)], 76) := by decide +kernel
theorem dX5_readUnit_84 : decode cX5_readUnit 84 = .ok (.aload_n 1, 1) := by decide +kernel
theorem dX5_readUnit_85 : decode cX5_readUnit 85 = .ok (.iload_n 3, 1) := by decide +kernel
theorem dX5_readUnit_86 : decode cX5_readUnit 86 = .ok (.ineg, 1) := by decide +kernel
theorem dX5_readUnit_87 : decode cX5_readUnit 87 = .ok (.invokevirtual 64, 3) := by decide +kernel
theorem dX5_readUnit_90 : decode cX5_readUnit 90 = .ok (.aload_n 0, 1) := by decide +kernel
theorem dX5_readUnit_91 : decode cX5_readUnit 91 = .ok (.iconst 0, 1) := by decide +kernel
theorem dX5_readUnit_92 : decode cX5_readUnit 92 = .ok (.putfield 25, 3) := by decide +kernel
theorem dX5_readUnit_95 : decode cX5_readUnit 95 = .ok (.iconst 1, 1) := by decide +kernel
theorem dX5_readUnit_96 : decode cX5_readUnit 96 = .ok (.ireturn, 1) := by decide +kernel
theorem dX5_readUnit_97 : decode cX5_readUnit 97 = .ok (.aload_n 0, 1) := by decide +kernel
theorem dX5_readUnit_98 : decode cX5_readUnit 98 = .ok (.bipush 33, 2) := by decide +kernel
theorem dX5_readUnit_100 : decode cX5_readUnit 100 = .ok (.invokevirtual 68, 3) := by decide +kernel
theorem dX5_readUnit_103 : decode cX5_readUnit 103 = .ok (.iconst 1, 1) := by decide +kernel
theorem dX5_readUnit_104 : decode cX5_readUnit 104 = .ok (.ireturn, 1) := by decide +kernel
theorem dX5_readUnit_105 : decode cX5_readUnit 105 = .ok (.aload_n 0, 1) := by decide +kernel
theorem dX5_readUnit_106 : decode cX5_readUnit 106 = .ok (.bipush 126, 2) := by decide +kernel
theorem dX5_readUnit_108 : decode cX5_readUnit 108 = .ok (.invokevirtual 68, 3) := by decide +kernel
theorem dX5_readUnit_111 : decode cX5_readUnit 111 = .ok (.iconst 1, 1) := by decide +kernel
theorem dX5_readUnit_112 : decode cX5_readUnit 112 = .ok (.ireturn, 1) := by decide +kernel
theorem dX5_readUnit_113 : decode cX5_readUnit 113 = .ok (.aload_n 0, 1) := by decide +kernel
theorem dX5_readUnit_114 : decode cX5_readUnit 114 = .ok (.getfield 19, 3) := by decide +kernel
theorem dX5_readUnit_117 : decode cX5_readUnit 117 = .ok (.bipush 8, 2) := by decide +kernel
theorem dX5_readUnit_119 : decode cX5_readUnit 119 = .ok (.if_icmp .lt 15, 3) := by decide +kernel
theorem dX5_readUnit_122 : decode cX5_readUnit 122 = .ok (.aload_n 1, 1) := by decide +kernel
theorem dX5_readUnit_123 : decode cX5_readUnit 123 = .ok (.bipush 10, 2) := by decide +kernel
theorem dX5_readUnit_125 : decode cX5_readUnit 125 = .ok (.iload_n 2, 1) := by decide +kernel
theorem dX5_readUnit_126 : decode cX5_readUnit 126 = .ok (.imul, 1) := by decide +kernel
theorem dX5_readUnit_127 : decode cX5_readUnit 127 = .ok (.iconst 3, 1) := by decide +kernel
theorem dX5_readUnit_128 : decode cX5_readUnit 128 = .ok (.iadd, 1) := by decide +kernel
theorem dX5_readUnit_129 : decode cX5_readUnit 129 = .ok (.putfield 34, 3) := by decide +kernel
theorem dX5_readUnit_132 : decode cX5_readUnit 132 = .ok (.iconst 0, 1) := by decide +kernel
theorem dX5_readUnit_133 : decode cX5_readUnit 133 = .ok (.ireturn, 1) := by decide +kernel
theorem dX5_readUnit_134 : decode cX5_readUnit 134 = .ok (.aload_n 0, 1) := by decide +kernel
theorem dX5_readUnit_135 : decode cX5_readUnit 135 = .ok (.dup, 1) := by decide +kernel
theorem dX5_readUnit_136 : decode cX5_readUnit 136 = .ok (.getfield 19, 3) := by decide +kernel
theorem dX5_readUnit_139 : decode cX5_readUnit 139 = .ok (.iconst 1, 1) := by decide +kernel
theorem dX5_readUnit_140 : decode cX5_readUnit 140 = .ok (.iadd, 1) := by decide +kernel
theorem dX5_readUnit_141 : decode cX5_readUnit 141 = .ok (.putfield 19, 3) := by decide +kernel
theorem dX5_readUnit_144 : decode cX5_readUnit 144 = .ok (.aload_n 0, 1) := by decide +kernel
theorem dX5_readUnit_145 : decode cX5_readUnit 145 = .ok (.bipush 40, 2) := by decide +kernel
theorem dX5_readUnit_147 : decode cX5_readUnit 147 = .ok (.invokevirtual 68, 3) := by decide +kernel
theorem dX5_readUnit_150 : decode cX5_readUnit 150 = .ok (.iconst 1, 1) := by decide +kernel
theorem dX5_readUnit_151 : decode cX5_readUnit 151 = .ok (.ireturn, 1) := by decide +kernel
theorem dX5_readUnit_152 : decode cX5_readUnit 152 = .ok (.iconst 0, 1) := by decide +kernel
theorem dX5_readUnit_153 : decode cX5_readUnit 153 = .ok (.ireturn, 1) := by decide +kernel
theorem dX5_readBehindUnit_0 : decode cX5_readBehindUnit 0 = .ok (.iload_n 2, 1) := by decide +kernel
theorem dX5_readBehindUnit_1 : decode cX5_readBehindUnit 1 = .ok (.bipush 41, 2) := by decide +kernel
theorem dX5_readBehindUnit_3 : decode cX5_readBehindUnit 3 = .ok (.if_icmp .ne 9, 3) := by decide +kernel
theorem dX5_readBehindUnit_6 : decode cX5_readBehindUnit 6 = .ok (.aload_n 0, 1) := by decide +kernel
theorem dX5_readBehindUnit_7 : decode cX5_readBehindUnit 7 = .ok (.aload_n 1, 1) := by decide +kernel
theorem dX5_readBehindUnit_8 : decode cX5_readBehindUnit 8 = .ok (.invokevirtual 71, 3) := by decide +kernel
theorem dX5_readBehindUnit_11 : decode cX5_readBehindUnit 11 = .ok (.ireturn, 1) := by decide +kernel
theorem dX5_readBehindUnit_12 : decode cX5_readBehindUnit 12 = .ok (.iload_n 2, 1) := by decide +kernel
theorem dX5_readBehindUnit_13 : decode cX5_readBehindUnit 13 = .ok (.invokestatic 75, 3) := by decide +kernel
theorem dX5_readBehindUnit_16 : decode cX5_readBehindUnit 16 = .ok (.istore_n 3, 1) := by decide +kernel
theorem dX5_readBehindUnit_17 : decode cX5_readBehindUnit 17 = .ok (.iload_n 3, 1) := by decide +kernel
theorem dX5_readBehindUnit_18 : decode cX5_readBehindUnit 18 = .ok (.ifCond .eq 9, 3) := by decide +kernel
theorem dX5_readBehindUnit_21 : decode cX5_readBehindUnit 21 = .ok (.iload_n 3, 1) := by decide +kernel
theorem dX5_readBehindUnit_22 : decode cX5_readBehindUnit 22 = .ok (.bipush 6, 2) := by decide +kernel
theorem dX5_readBehindUnit_24 : decode cX5_readBehindUnit 24 = .ok (.if_icmp .ne 5, 3) := by decide +kernel
theorem dX5_readBehindUnit_27 : decode cX5_readBehindUnit 27 = .ok (.iconst 0, 1) := by decide +kernel
theorem dX5_readBehindUnit_28 : decode cX5_readBehindUnit 28 = .ok (.ireturn, 1) := by decide +kernel
theorem dX5_readBehindUnit_29 : decode cX5_readBehindUnit 29 = .ok (.aload_n 0, 1) := by decide +kernel
theorem dX5_readBehindUnit_30 : decode cX5_readBehindUnit 30 = .ok (.aload_n 1, 1) := by decide +kernel
theorem dX5_readBehindUnit_31 : decode cX5_readBehindUnit 31 = .ok (.iload_n 3, 1) := by decide +kernel
theorem dX5_readBehindUnit_32 : decode cX5_readBehindUnit 32 = .ok (.iconst 3, 1) := by decide +kernel
theorem dX5_readBehindUnit_33 : decode cX5_readBehindUnit 33 = .ok (.if_icmp .ne 9, 3) := by decide +kernel
theorem dX5_readBehindUnit_36 : decode cX5_readBehindUnit 36 = .ok (.iload_n 3, 1) := by decide +kernel
theorem dX5_readBehindUnit_37 : decode cX5_readBehindUnit 37 = .ok (.iconst 1, 1) := by decide +kernel
theorem dX5_readBehindUnit_38 : decode cX5_readBehindUnit 38 = .ok (.iadd, 1) := by decide +kernel
theorem dX5_readBehindUnit_39 : decode cX5_readBehindUnit 39 = .ok (.goto 4, 3) := by decide +kernel
theorem dX5_readBehindUnit_42 : decode cX5_readBehindUnit 42 = .ok (.iload_n 3, 1) := by decide +kernel
theorem dX5_readBehindUnit_43 : decode cX5_readBehindUnit 43 = .ok (.invokevirtual 44, 3) := by decide +kernel
theorem dX5_readBehindUnit_46 : decode cX5_readBehindUnit 46 = .ok (.iload_n 3, 1) := by decide +kernel
theorem dX5_readBehindUnit_47 : decode cX5_readBehindUnit 47 = .ok (.iconst 3, 1) := by decide +kernel
theorem dX5_readBehindUnit_48 : decode cX5_readBehindUnit 48 = .ok (.if_icmp .ne 13, 3) := by decide +kernel
theorem dX5_readBehindUnit_51 : decode cX5_readBehindUnit 51 = .ok (.aload_n 0, 1) := by decide +kernel
theorem dX5_readBehindUnit_52 : decode cX5_readBehindUnit 52 = .ok (.invokevirtual 79, 3) := by decide +kernel
theorem dX5_readBehindUnit_55 : decode cX5_readBehindUnit 55 = .ok (.iconst 3, 1) := by decide +kernel
theorem dX5_readBehindUnit_56 : decode cX5_readBehindUnit 56 = .ok (.if_icmp .ne 5, 3) := by decide +kernel
theorem dX5_readBehindUnit_59 : decode cX5_readBehindUnit 59 = .ok (.iconst 0, 1) := by decide +kernel
theorem dX5_readBehindUnit_60 : decode cX5_readBehindUnit 60 = .ok (.ireturn, 1) := by decide +kernel
theorem dX5_readBehindUnit_61 : decode cX5_readBehindUnit 61 = .ok (.aload_n 0, 1) := by decide +kernel
theorem dX5_readBehindUnit_62 : decode cX5_readBehindUnit 62 = .ok (.iload_n 2, 1) := by decide +kernel
theorem dX5_readBehindUnit_63 : decode cX5_readBehindUnit 63 = .ok (.invokevirtual 68, 3) := by decide +kernel
theorem dX5_readBehindUnit_66 : decode cX5_readBehindUnit 66 = .ok (.aload_n 0, 1) := by decide +kernel
theorem dX5_readBehindUnit_67 : decode cX5_readBehindUnit 67 = .ok (.iconst 1, 1) := by decide +kernel
theorem dX5_readBehindUnit_68 : decode cX5_readBehindUnit 68 = .ok (.putfield 25, 3) := by decide +kernel
theorem dX5_readBehindUnit_71 : decode cX5_readBehindUnit 71 = .ok (.iconst 1, 1) := by decide +kernel
theorem dX5_readBehindUnit_72 : decode cX5_readBehindUnit 72 = .ok (.ireturn, 1) := by decide +kernel
theorem dX5_closeBracket_0 : decode cX5_closeBracket 0 = .ok (.aload_n 0, 1) := by decide +kernel
theorem dX5_closeBracket_1 : decode cX5_closeBracket 1 = .ok (.getfield 19, 3) := by decide +kernel
theorem dX5_closeBracket_4 : decode cX5_closeBracket 4 = .ok (.ifCond .ne 5, 3) := by decide +kernel
theorem dX5_closeBracket_7 : decode cX5_closeBracket 7 = .ok (.iconst 0, 1) := by decide +kernel
theorem dX5_closeBracket_8 : decode cX5_closeBracket 8 = .ok (.ireturn, 1) := by decide +kernel
theorem dX5_closeBracket_9 : decode cX5_closeBracket 9 = .ok (.aload_n 0, 1) := by decide +kernel
theorem dX5_closeBracket_10 : decode cX5_closeBracket 10 = .ok (.aload_n 1, 1) := by decide +kernel
theorem dX5_closeBracket_11 : decode cX5_closeBracket 11 = .ok (.iconst 1, 1) := by decide +kernel
theorem dX5_closeBracket_12 : decode cX5_closeBracket 12 = .ok (.invokevirtual 44, 3) := by decide +kernel
theorem dX5_closeBracket_15 : decode cX5_closeBracket 15 = .ok (.aload_n 0, 1) := by decide +kernel
theorem dX5_closeBracket_16 : decode cX5_closeBracket 16 = .ok (.dup, 1) := by decide +kernel
theorem dX5_closeBracket_17 : decode cX5_closeBracket 17 = .ok (.getfield 19, 3) := by decide +kernel
theorem dX5_closeBracket_20 : decode cX5_closeBracket 20 = .ok (.iconst 1, 1) := by decide +kernel
theorem dX5_closeBracket_21 : decode cX5_closeBracket 21 = .ok (.isub, 1) := by decide +kernel
theorem dX5_closeBracket_22 : decode cX5_closeBracket 22 = .ok (.putfield 19, 3) := by decide +kernel
theorem dX5_closeBracket_25 : decode cX5_closeBracket 25 = .ok (.aload_n 0, 1) := by decide +kernel
theorem dX5_closeBracket_26 : decode cX5_closeBracket 26 = .ok (.getfield 15, 3) := by decide +kernel
theorem dX5_closeBracket_29 : decode cX5_closeBracket 29 = .ok (.ifCond .le 13, 3) := by decide +kernel
theorem dX5_closeBracket_32 : decode cX5_closeBracket 32 = .ok (.aload_n 0, 1) := by decide +kernel
theorem dX5_closeBracket_33 : decode cX5_closeBracket 33 = .ok (.dup, 1) := by decide +kernel
theorem dX5_closeBracket_34 : decode cX5_closeBracket 34 = .ok (.getfield 15, 3) := by decide +kernel
theorem dX5_closeBracket_37 : decode cX5_closeBracket 37 = .ok (.iconst 1, 1) := by decide +kernel
theorem dX5_closeBracket_38 : decode cX5_closeBracket 38 = .ok (.isub, 1) := by decide +kernel
theorem dX5_closeBracket_39 : decode cX5_closeBracket 39 = .ok (.putfield 15, 3) := by decide +kernel
theorem dX5_closeBracket_42 : decode cX5_closeBracket 42 = .ok (.iconst 1, 1) := by decide +kernel
theorem dX5_closeBracket_43 : decode cX5_closeBracket 43 = .ok (.ireturn, 1) := by decide +kernel
theorem dX5_hold_0 : decode cX5_hold 0 = .ok (.aload_n 0, 1) := by decide +kernel
theorem dX5_hold_1 : decode cX5_hold 1 = .ok (.getfield 15, 3) := by decide +kernel
theorem dX5_hold_4 : decode cX5_hold 4 = .ok (.bipush 40, 2) := by decide +kernel
theorem dX5_hold_6 : decode cX5_hold 6 = .ok (.if_icmp .ge 23, 3) := by decide +kernel
theorem dX5_hold_9 : decode cX5_hold 9 = .ok (.aload_n 0, 1) := by decide +kernel
theorem dX5_hold_10 : decode cX5_hold 10 = .ok (.getfield 9, 3) := by decide +kernel
theorem dX5_hold_13 : decode cX5_hold 13 = .ok (.aload_n 0, 1) := by decide +kernel
theorem dX5_hold_14 : decode cX5_hold 14 = .ok (.getfield 15, 3) := by decide +kernel
theorem dX5_hold_17 : decode cX5_hold 17 = .ok (.iload_n 1, 1) := by decide +kernel
theorem dX5_hold_18 : decode cX5_hold 18 = .ok (.iastore, 1) := by decide +kernel
theorem dX5_hold_19 : decode cX5_hold 19 = .ok (.aload_n 0, 1) := by decide +kernel
theorem dX5_hold_20 : decode cX5_hold 20 = .ok (.dup, 1) := by decide +kernel
theorem dX5_hold_21 : decode cX5_hold 21 = .ok (.getfield 15, 3) := by decide +kernel
theorem dX5_hold_24 : decode cX5_hold 24 = .ok (.iconst 1, 1) := by decide +kernel
theorem dX5_hold_25 : decode cX5_hold 25 = .ok (.iadd, 1) := by decide +kernel
theorem dX5_hold_26 : decode cX5_hold 26 = .ok (.putfield 15, 3) := by decide +kernel
theorem dX5_hold_29 : decode cX5_hold 29 = .ok (.return_, 1) := by decide +kernel
theorem dX5_release_0 : decode cX5_release 0 = .ok (.aload_n 0, 1) := by decide +kernel
theorem dX5_release_1 : decode cX5_release 1 = .ok (.getfield 15, 3) := by decide +kernel
theorem dX5_release_4 : decode cX5_release 4 = .ok (.ifCond .le 48, 3) := by decide +kernel
theorem dX5_release_7 : decode cX5_release 7 = .ok (.aload_n 0, 1) := by decide +kernel
theorem dX5_release_8 : decode cX5_release 8 = .ok (.getfield 9, 3) := by decide +kernel
theorem dX5_release_11 : decode cX5_release 11 = .ok (.aload_n 0, 1) := by decide +kernel
theorem dX5_release_12 : decode cX5_release 12 = .ok (.getfield 15, 3) := by decide +kernel
theorem dX5_release_15 : decode cX5_release 15 = .ok (.iconst 1, 1) := by decide +kernel
theorem dX5_release_16 : decode cX5_release 16 = .ok (.isub, 1) := by decide +kernel
theorem dX5_release_17 : decode cX5_release 17 = .ok (.iaload, 1) := by decide +kernel
theorem dX5_release_18 : decode cX5_release 18 = .ok (.invokestatic 75, 3) := by decide +kernel
theorem dX5_release_21 : decode cX5_release 21 = .ok (.iload_n 2, 1) := by decide +kernel
theorem dX5_release_22 : decode cX5_release 22 = .ok (.if_icmp .lt 30, 3) := by decide +kernel
theorem dX5_release_25 : decode cX5_release 25 = .ok (.aload_n 0, 1) := by decide +kernel
theorem dX5_release_26 : decode cX5_release 26 = .ok (.dup, 1) := by decide +kernel
theorem dX5_release_27 : decode cX5_release 27 = .ok (.getfield 15, 3) := by decide +kernel
theorem dX5_release_30 : decode cX5_release 30 = .ok (.iconst 1, 1) := by decide +kernel
theorem dX5_release_31 : decode cX5_release 31 = .ok (.isub, 1) := by decide +kernel
theorem dX5_release_32 : decode cX5_release 32 = .ok (.putfield 15, 3) := by decide +kernel
theorem dX5_release_35 : decode cX5_release 35 = .ok (.aload_n 1, 1) := by decide +kernel
theorem dX5_release_36 : decode cX5_release 36 = .ok (.aload_n 0, 1) := by decide +kernel
theorem dX5_release_37 : decode cX5_release 37 = .ok (.getfield 9, 3) := by decide +kernel
theorem dX5_release_40 : decode cX5_release 40 = .ok (.aload_n 0, 1) := by decide +kernel
theorem dX5_release_41 : decode cX5_release 41 = .ok (.getfield 15, 3) := by decide +kernel
theorem dX5_release_44 : decode cX5_release 44 = .ok (.iaload, 1) := by decide +kernel
theorem dX5_release_45 : decode cX5_release 45 = .ok (.ineg, 1) := by decide +kernel
theorem dX5_release_46 : decode cX5_release 46 = .ok (.invokevirtual 64, 3) := by decide +kernel
theorem dX5_release_49 : decode cX5_release 49 = .ok (.goto (-49), 3) := by decide +kernel
theorem dX5_release_52 : decode cX5_release 52 = .ok (.return_, 1) := by decide +kernel
theorem dX5_lastRank_0 : decode cX5_lastRank 0 = .ok (.aload_n 0, 1) := by decide +kernel
theorem dX5_lastRank_1 : decode cX5_lastRank 1 = .ok (.getfield 15, 3) := by decide +kernel
theorem dX5_lastRank_4 : decode cX5_lastRank 4 = .ok (.ifCond .le 20, 3) := by decide +kernel
theorem dX5_lastRank_7 : decode cX5_lastRank 7 = .ok (.aload_n 0, 1) := by decide +kernel
theorem dX5_lastRank_8 : decode cX5_lastRank 8 = .ok (.getfield 9, 3) := by decide +kernel
theorem dX5_lastRank_11 : decode cX5_lastRank 11 = .ok (.aload_n 0, 1) := by decide +kernel
theorem dX5_lastRank_12 : decode cX5_lastRank 12 = .ok (.getfield 15, 3) := by decide +kernel
theorem dX5_lastRank_15 : decode cX5_lastRank 15 = .ok (.iconst 1, 1) := by decide +kernel
theorem dX5_lastRank_16 : decode cX5_lastRank 16 = .ok (.isub, 1) := by decide +kernel
theorem dX5_lastRank_17 : decode cX5_lastRank 17 = .ok (.iaload, 1) := by decide +kernel
theorem dX5_lastRank_18 : decode cX5_lastRank 18 = .ok (.invokestatic 75, 3) := by decide +kernel
theorem dX5_lastRank_21 : decode cX5_lastRank 21 = .ok (.goto 4, 3) := by decide +kernel
theorem dX5_lastRank_24 : decode cX5_lastRank 24 = .ok (.iconst 0, 1) := by decide +kernel
theorem dX5_lastRank_25 : decode cX5_lastRank 25 = .ok (.ireturn, 1) := by decide +kernel
theorem dX5_rankOf_0 : decode cX5_rankOf 0 = .ok (.iload_n 0, 1) := by decide +kernel
theorem dX5_rankOf_1 : decode cX5_rankOf 1 = .ok (.lookupswitch 112 #[(33, 109), (38, 101), (42, 107), (43, 105), (45, 105), (47, 107), (60, 103), (61, 103), (62, 103), (124, 99), (126, 109)], 99) := by decide +kernel
theorem dX5_rankOf_100 : decode cX5_rankOf 100 = .ok (.iconst 1, 1) := by decide +kernel
theorem dX5_rankOf_101 : decode cX5_rankOf 101 = .ok (.ireturn, 1) := by decide +kernel
theorem dX5_rankOf_102 : decode cX5_rankOf 102 = .ok (.iconst 2, 1) := by decide +kernel
theorem dX5_rankOf_103 : decode cX5_rankOf 103 = .ok (.ireturn, 1) := by decide +kernel
theorem dX5_rankOf_104 : decode cX5_rankOf 104 = .ok (.iconst 3, 1) := by decide +kernel
theorem dX5_rankOf_105 : decode cX5_rankOf 105 = .ok (.ireturn, 1) := by decide +kernel
theorem dX5_rankOf_106 : decode cX5_rankOf 106 = .ok (.iconst 4, 1) := by decide +kernel
theorem dX5_rankOf_107 : decode cX5_rankOf 107 = .ok (.ireturn, 1) := by decide +kernel
theorem dX5_rankOf_108 : decode cX5_rankOf 108 = .ok (.iconst 5, 1) := by decide +kernel
theorem dX5_rankOf_109 : decode cX5_rankOf 109 = .ok (.ireturn, 1) := by decide +kernel
theorem dX5_rankOf_110 : decode cX5_rankOf 110 = .ok (.bipush 6, 2) := by decide +kernel
theorem dX5_rankOf_112 : decode cX5_rankOf 112 = .ok (.ireturn, 1) := by decide +kernel
theorem dX5_rankOf_113 : decode cX5_rankOf 113 = .ok (.iconst 0, 1) := by decide +kernel
theorem dX5_rankOf_114 : decode cX5_rankOf 114 = .ok (.ireturn, 1) := by decide +kernel
theorem dX8_init_0 : decode cX8_init 0 = .ok (.aload_n 0, 1) := by decide +kernel
theorem dX8_init_1 : decode cX8_init 1 = .ok (.invokespecial 3, 3) := by decide +kernel
theorem dX8_init_4 : decode cX8_init 4 = .ok (.aload_n 0, 1) := by decide +kernel
theorem dX8_init_5 : decode cX8_init 5 = .ok (.iconst 5, 1) := by decide +kernel
theorem dX8_init_6 : decode cX8_init 6 = .ok (.newarray .int, 2) := by decide +kernel
theorem dX8_init_8 : decode cX8_init 8 = .ok (.putfield 9, 3) := by decide +kernel
theorem dX8_init_11 : decode cX8_init 11 = .ok (.aload_n 0, 1) := by decide +kernel
theorem dX8_init_12 : decode cX8_init 12 = .ok (.iconst 3, 1) := by decide +kernel
theorem dX8_init_13 : decode cX8_init 13 = .ok (.newarray .int, 2) := by decide +kernel
theorem dX8_init_15 : decode cX8_init 15 = .ok (.putfield 15, 3) := by decide +kernel
theorem dX8_init_18 : decode cX8_init 18 = .ok (.aload_n 0, 1) := by decide +kernel
theorem dX8_init_19 : decode cX8_init 19 = .ok (.bipush 15, 2) := by decide +kernel
theorem dX8_init_21 : decode cX8_init 21 = .ok (.newarray .int, 2) := by decide +kernel
theorem dX8_init_23 : decode cX8_init 23 = .ok (.putfield 18, 3) := by decide +kernel
theorem dX8_init_26 : decode cX8_init 26 = .ok (.aload_n 0, 1) := by decide +kernel
theorem dX8_init_27 : decode cX8_init 27 = .ok (.bipush 15, 2) := by decide +kernel
theorem dX8_init_29 : decode cX8_init 29 = .ok (.newarray .int, 2) := by decide +kernel
theorem dX8_init_31 : decode cX8_init 31 = .ok (.putfield 21, 3) := by decide +kernel
theorem dX8_init_34 : decode cX8_init 34 = .ok (.aload_n 0, 1) := by decide +kernel
theorem dX8_init_35 : decode cX8_init 35 = .ok (.bipush 15, 2) := by decide +kernel
theorem dX8_init_37 : decode cX8_init 37 = .ok (.newarray .int, 2) := by decide +kernel
theorem dX8_init_39 : decode cX8_init 39 = .ok (.putfield 24, 3) := by decide +kernel
theorem dX8_init_42 : decode cX8_init 42 = .ok (.aload_n 0, 1) := by decide +kernel
theorem dX8_init_43 : decode cX8_init 43 = .ok (.iconst 3, 1) := by decide +kernel
theorem dX8_init_44 : decode cX8_init 44 = .ok (.anewarray 27, 3) := by decide +kernel
theorem dX8_init_47 : decode cX8_init 47 = .ok (.putfield 29, 3) := by decide +kernel
theorem dX8_init_50 : decode cX8_init 50 = .ok (.aload_n 0, 1) := by decide +kernel
theorem dX8_init_51 : decode cX8_init 51 = .ok (.iconst 0, 1) := by decide +kernel
theorem dX8_init_52 : decode cX8_init 52 = .ok (.putfield 33, 3) := by decide +kernel
theorem dX8_init_55 : decode cX8_init 55 = .ok (.aload_n 0, 1) := by decide +kernel
theorem dX8_init_56 : decode cX8_init 56 = .ok (.iconst 0, 1) := by decide +kernel
theorem dX8_init_57 : decode cX8_init 57 = .ok (.putfield 37, 3) := by decide +kernel
theorem dX8_init_60 : decode cX8_init 60 = .ok (.aload_n 0, 1) := by decide +kernel
theorem dX8_init_61 : decode cX8_init 61 = .ok (.bipush 10, 2) := by decide +kernel
theorem dX8_init_63 : decode cX8_init 63 = .ok (.putfield 40, 3) := by decide +kernel
theorem dX8_init_66 : decode cX8_init 66 = .ok (.aload_n 0, 1) := by decide +kernel
theorem dX8_init_67 : decode cX8_init 67 = .ok (.iconst 0, 1) := by decide +kernel
theorem dX8_init_68 : decode cX8_init 68 = .ok (.putfield 43, 3) := by decide +kernel
theorem dX8_init_71 : decode cX8_init 71 = .ok (.aload_n 0, 1) := by decide +kernel
theorem dX8_init_72 : decode cX8_init 72 = .ok (.bipush 40, 2) := by decide +kernel
theorem dX8_init_74 : decode cX8_init 74 = .ok (.putfield 46, 3) := by decide +kernel
theorem dX8_init_77 : decode cX8_init 77 = .ok (.aload_n 0, 1) := by decide +kernel
theorem dX8_init_78 : decode cX8_init 78 = .ok (.iconst 0, 1) := by decide +kernel
theorem dX8_init_79 : decode cX8_init 79 = .ok (.putfield 49, 3) := by decide +kernel
theorem dX8_init_82 : decode cX8_init 82 = .ok (.iconst 0, 1) := by decide +kernel
theorem dX8_init_83 : decode cX8_init 83 = .ok (.istore_n 1, 1) := by decide +kernel
theorem dX8_init_84 : decode cX8_init 84 = .ok (.iload_n 1, 1) := by decide +kernel
theorem dX8_init_85 : decode cX8_init 85 = .ok (.iconst 3, 1) := by decide +kernel
theorem dX8_init_86 : decode cX8_init 86 = .ok (.if_icmp .ge 22, 3) := by decide +kernel
theorem dX8_init_89 : decode cX8_init 89 = .ok (.aload_n 0, 1) := by decide +kernel
theorem dX8_init_90 : decode cX8_init 90 = .ok (.getfield 29, 3) := by decide +kernel
theorem dX8_init_93 : decode cX8_init 93 = .ok (.iload_n 1, 1) := by decide +kernel
theorem dX8_init_94 : decode cX8_init 94 = .ok (.new 27, 3) := by decide +kernel
theorem dX8_init_97 : decode cX8_init 97 = .ok (.dup, 1) := by decide +kernel
theorem dX8_init_98 : decode cX8_init 98 = .ok (.invokespecial 52, 3) := by decide +kernel
theorem dX8_init_101 : decode cX8_init 101 = .ok (.aastore, 1) := by decide +kernel
theorem dX8_init_102 : decode cX8_init 102 = .ok (.iinc 1 1, 3) := by decide +kernel
theorem dX8_init_105 : decode cX8_init 105 = .ok (.goto (-21), 3) := by decide +kernel
theorem dX8_init_108 : decode cX8_init 108 = .ok (.return_, 1) := by decide +kernel
theorem dX8_take_0 : decode cX8_take 0 = .ok (.aload_n 0, 1) := by decide +kernel
theorem dX8_take_1 : decode cX8_take 1 = .ok (.aload_n 1, 1) := by decide +kernel
theorem dX8_take_2 : decode cX8_take 2 = .ok (.invokevirtual 53, 3) := by decide +kernel
theorem dX8_take_5 : decode cX8_take 5 = .ok (.aload_n 1, 1) := by decide +kernel
theorem dX8_take_6 : decode cX8_take 6 = .ok (.getfield 24, 3) := by decide +kernel
theorem dX8_take_9 : decode cX8_take 9 = .ok (.iconst 0, 1) := by decide +kernel
theorem dX8_take_10 : decode cX8_take 10 = .ok (.aload_n 0, 1) := by decide +kernel
theorem dX8_take_11 : decode cX8_take 11 = .ok (.getfield 24, 3) := by decide +kernel
theorem dX8_take_14 : decode cX8_take 14 = .ok (.iconst 0, 1) := by decide +kernel
theorem dX8_take_15 : decode cX8_take 15 = .ok (.bipush 15, 2) := by decide +kernel
theorem dX8_take_17 : decode cX8_take 17 = .ok (.invokestatic 57, 3) := by decide +kernel
theorem dX8_take_20 : decode cX8_take 20 = .ok (.iconst 0, 1) := by decide +kernel
theorem dX8_take_21 : decode cX8_take 21 = .ok (.istore_n 2, 1) := by decide +kernel
theorem dX8_take_22 : decode cX8_take 22 = .ok (.iload_n 2, 1) := by decide +kernel
theorem dX8_take_23 : decode cX8_take 23 = .ok (.iconst 3, 1) := by decide +kernel
theorem dX8_take_24 : decode cX8_take 24 = .ok (.if_icmp .ge 24, 3) := by decide +kernel
theorem dX8_take_27 : decode cX8_take 27 = .ok (.aload_n 0, 1) := by decide +kernel
theorem dX8_take_28 : decode cX8_take 28 = .ok (.getfield 29, 3) := by decide +kernel
theorem dX8_take_31 : decode cX8_take 31 = .ok (.iload_n 2, 1) := by decide +kernel
theorem dX8_take_32 : decode cX8_take 32 = .ok (.aaload, 1) := by decide +kernel
theorem dX8_take_33 : decode cX8_take 33 = .ok (.aload_n 1, 1) := by decide +kernel
theorem dX8_take_34 : decode cX8_take 34 = .ok (.getfield 29, 3) := by decide +kernel
theorem dX8_take_37 : decode cX8_take 37 = .ok (.iload_n 2, 1) := by decide +kernel
theorem dX8_take_38 : decode cX8_take 38 = .ok (.aaload, 1) := by decide +kernel
theorem dX8_take_39 : decode cX8_take 39 = .ok (.invokevirtual 63, 3) := by decide +kernel
theorem dX8_take_42 : decode cX8_take 42 = .ok (.iinc 2 1, 3) := by decide +kernel
theorem dX8_take_45 : decode cX8_take 45 = .ok (.goto (-23), 3) := by decide +kernel
theorem dX8_take_48 : decode cX8_take 48 = .ok (.aload_n 0, 1) := by decide +kernel
theorem dX8_take_49 : decode cX8_take 49 = .ok (.aload_n 1, 1) := by decide +kernel
theorem dX8_take_50 : decode cX8_take 50 = .ok (.getfield 43, 3) := by decide +kernel
theorem dX8_take_53 : decode cX8_take 53 = .ok (.putfield 43, 3) := by decide +kernel
theorem dX8_take_56 : decode cX8_take 56 = .ok (.aload_n 0, 1) := by decide +kernel
theorem dX8_take_57 : decode cX8_take 57 = .ok (.aload_n 1, 1) := by decide +kernel
theorem dX8_take_58 : decode cX8_take 58 = .ok (.getfield 46, 3) := by decide +kernel
theorem dX8_take_61 : decode cX8_take 61 = .ok (.putfield 46, 3) := by decide +kernel
theorem dX8_take_64 : decode cX8_take 64 = .ok (.aload_n 0, 1) := by decide +kernel
theorem dX8_take_65 : decode cX8_take 65 = .ok (.aload_n 1, 1) := by decide +kernel
theorem dX8_take_66 : decode cX8_take 66 = .ok (.getfield 49, 3) := by decide +kernel
theorem dX8_take_69 : decode cX8_take 69 = .ok (.putfield 49, 3) := by decide +kernel
theorem dX8_take_72 : decode cX8_take 72 = .ok (.return_, 1) := by decide +kernel
theorem dX8_takePeople_0 : decode cX8_takePeople 0 = .ok (.aload_n 1, 1) := by decide +kernel
theorem dX8_takePeople_1 : decode cX8_takePeople 1 = .ok (.getfield 9, 3) := by decide +kernel
theorem dX8_takePeople_4 : decode cX8_takePeople 4 = .ok (.iconst 0, 1) := by decide +kernel
theorem dX8_takePeople_5 : decode cX8_takePeople 5 = .ok (.aload_n 0, 1) := by decide +kernel
theorem dX8_takePeople_6 : decode cX8_takePeople 6 = .ok (.getfield 9, 3) := by decide +kernel
theorem dX8_takePeople_9 : decode cX8_takePeople 9 = .ok (.iconst 0, 1) := by decide +kernel
theorem dX8_takePeople_10 : decode cX8_takePeople 10 = .ok (.iconst 5, 1) := by decide +kernel
theorem dX8_takePeople_11 : decode cX8_takePeople 11 = .ok (.invokestatic 57, 3) := by decide +kernel
theorem dX8_takePeople_14 : decode cX8_takePeople 14 = .ok (.aload_n 1, 1) := by decide +kernel
theorem dX8_takePeople_15 : decode cX8_takePeople 15 = .ok (.getfield 15, 3) := by decide +kernel
theorem dX8_takePeople_18 : decode cX8_takePeople 18 = .ok (.iconst 0, 1) := by decide +kernel
theorem dX8_takePeople_19 : decode cX8_takePeople 19 = .ok (.aload_n 0, 1) := by decide +kernel
theorem dX8_takePeople_20 : decode cX8_takePeople 20 = .ok (.getfield 15, 3) := by decide +kernel
theorem dX8_takePeople_23 : decode cX8_takePeople 23 = .ok (.iconst 0, 1) := by decide +kernel
theorem dX8_takePeople_24 : decode cX8_takePeople 24 = .ok (.iconst 3, 1) := by decide +kernel
theorem dX8_takePeople_25 : decode cX8_takePeople 25 = .ok (.invokestatic 57, 3) := by decide +kernel
theorem dX8_takePeople_28 : decode cX8_takePeople 28 = .ok (.aload_n 1, 1) := by decide +kernel
theorem dX8_takePeople_29 : decode cX8_takePeople 29 = .ok (.getfield 18, 3) := by decide +kernel
theorem dX8_takePeople_32 : decode cX8_takePeople 32 = .ok (.iconst 0, 1) := by decide +kernel
theorem dX8_takePeople_33 : decode cX8_takePeople 33 = .ok (.aload_n 0, 1) := by decide +kernel
theorem dX8_takePeople_34 : decode cX8_takePeople 34 = .ok (.getfield 18, 3) := by decide +kernel
theorem dX8_takePeople_37 : decode cX8_takePeople 37 = .ok (.iconst 0, 1) := by decide +kernel
theorem dX8_takePeople_38 : decode cX8_takePeople 38 = .ok (.bipush 15, 2) := by decide +kernel
theorem dX8_takePeople_40 : decode cX8_takePeople 40 = .ok (.invokestatic 57, 3) := by decide +kernel
theorem dX8_takePeople_43 : decode cX8_takePeople 43 = .ok (.aload_n 1, 1) := by decide +kernel
theorem dX8_takePeople_44 : decode cX8_takePeople 44 = .ok (.getfield 21, 3) := by decide +kernel
theorem dX8_takePeople_47 : decode cX8_takePeople 47 = .ok (.iconst 0, 1) := by decide +kernel
theorem dX8_takePeople_48 : decode cX8_takePeople 48 = .ok (.aload_n 0, 1) := by decide +kernel
theorem dX8_takePeople_49 : decode cX8_takePeople 49 = .ok (.getfield 21, 3) := by decide +kernel
theorem dX8_takePeople_52 : decode cX8_takePeople 52 = .ok (.iconst 0, 1) := by decide +kernel
theorem dX8_takePeople_53 : decode cX8_takePeople 53 = .ok (.bipush 15, 2) := by decide +kernel
theorem dX8_takePeople_55 : decode cX8_takePeople 55 = .ok (.invokestatic 57, 3) := by decide +kernel
theorem dX8_takePeople_58 : decode cX8_takePeople 58 = .ok (.aload_n 0, 1) := by decide +kernel
theorem dX8_takePeople_59 : decode cX8_takePeople 59 = .ok (.aload_n 1, 1) := by decide +kernel
theorem dX8_takePeople_60 : decode cX8_takePeople 60 = .ok (.getfield 33, 3) := by decide +kernel
theorem dX8_takePeople_63 : decode cX8_takePeople 63 = .ok (.putfield 33, 3) := by decide +kernel
theorem dX8_takePeople_66 : decode cX8_takePeople 66 = .ok (.aload_n 0, 1) := by decide +kernel
theorem dX8_takePeople_67 : decode cX8_takePeople 67 = .ok (.aload_n 1, 1) := by decide +kernel
theorem dX8_takePeople_68 : decode cX8_takePeople 68 = .ok (.getfield 37, 3) := by decide +kernel
theorem dX8_takePeople_71 : decode cX8_takePeople 71 = .ok (.putfield 37, 3) := by decide +kernel
theorem dX8_takePeople_74 : decode cX8_takePeople 74 = .ok (.aload_n 0, 1) := by decide +kernel
theorem dX8_takePeople_75 : decode cX8_takePeople 75 = .ok (.aload_n 1, 1) := by decide +kernel
theorem dX8_takePeople_76 : decode cX8_takePeople 76 = .ok (.getfield 40, 3) := by decide +kernel
theorem dX8_takePeople_79 : decode cX8_takePeople 79 = .ok (.putfield 40, 3) := by decide +kernel
theorem dX8_takePeople_82 : decode cX8_takePeople 82 = .ok (.iconst 0, 1) := by decide +kernel
theorem dX8_takePeople_83 : decode cX8_takePeople 83 = .ok (.istore_n 2, 1) := by decide +kernel
theorem dX8_takePeople_84 : decode cX8_takePeople 84 = .ok (.iload_n 2, 1) := by decide +kernel
theorem dX8_takePeople_85 : decode cX8_takePeople 85 = .ok (.bipush 15, 2) := by decide +kernel
theorem dX8_takePeople_87 : decode cX8_takePeople 87 = .ok (.if_icmp .ge 16, 3) := by decide +kernel
theorem dX8_takePeople_90 : decode cX8_takePeople 90 = .ok (.aload_n 0, 1) := by decide +kernel
theorem dX8_takePeople_91 : decode cX8_takePeople 91 = .ok (.getfield 24, 3) := by decide +kernel
theorem dX8_takePeople_94 : decode cX8_takePeople 94 = .ok (.iload_n 2, 1) := by decide +kernel
theorem dX8_takePeople_95 : decode cX8_takePeople 95 = .ok (.iconst 0, 1) := by decide +kernel
theorem dX8_takePeople_96 : decode cX8_takePeople 96 = .ok (.iastore, 1) := by decide +kernel
theorem dX8_takePeople_97 : decode cX8_takePeople 97 = .ok (.iinc 2 1, 3) := by decide +kernel
theorem dX8_takePeople_100 : decode cX8_takePeople 100 = .ok (.goto (-16), 3) := by decide +kernel
theorem dX8_takePeople_103 : decode cX8_takePeople 103 = .ok (.return_, 1) := by decide +kernel
theorem dX8_givenBy_0 : decode cX8_givenBy 0 = .ok (.iconst 0, 1) := by decide +kernel
theorem dX8_givenBy_1 : decode cX8_givenBy 1 = .ok (.istore_n 2, 1) := by decide +kernel
theorem dX8_givenBy_2 : decode cX8_givenBy 2 = .ok (.iconst 0, 1) := by decide +kernel
theorem dX8_givenBy_3 : decode cX8_givenBy 3 = .ok (.istore_n 3, 1) := by decide +kernel
theorem dX8_givenBy_4 : decode cX8_givenBy 4 = .ok (.iload_n 3, 1) := by decide +kernel
theorem dX8_givenBy_5 : decode cX8_givenBy 5 = .ok (.iconst 3, 1) := by decide +kernel
theorem dX8_givenBy_6 : decode cX8_givenBy 6 = .ok (.if_icmp .ge 22, 3) := by decide +kernel
theorem dX8_givenBy_9 : decode cX8_givenBy 9 = .ok (.iload_n 2, 1) := by decide +kernel
theorem dX8_givenBy_10 : decode cX8_givenBy 10 = .ok (.aload_n 0, 1) := by decide +kernel
theorem dX8_givenBy_11 : decode cX8_givenBy 11 = .ok (.getfield 24, 3) := by decide +kernel
theorem dX8_givenBy_14 : decode cX8_givenBy 14 = .ok (.iload_n 1, 1) := by decide +kernel
theorem dX8_givenBy_15 : decode cX8_givenBy 15 = .ok (.iconst 3, 1) := by decide +kernel
theorem dX8_givenBy_16 : decode cX8_givenBy 16 = .ok (.imul, 1) := by decide +kernel
theorem dX8_givenBy_17 : decode cX8_givenBy 17 = .ok (.iload_n 3, 1) := by decide +kernel
theorem dX8_givenBy_18 : decode cX8_givenBy 18 = .ok (.iadd, 1) := by decide +kernel
theorem dX8_givenBy_19 : decode cX8_givenBy 19 = .ok (.iaload, 1) := by decide +kernel
theorem dX8_givenBy_20 : decode cX8_givenBy 20 = .ok (.iadd, 1) := by decide +kernel
theorem dX8_givenBy_21 : decode cX8_givenBy 21 = .ok (.istore_n 2, 1) := by decide +kernel
theorem dX8_givenBy_22 : decode cX8_givenBy 22 = .ok (.iinc 3 1, 3) := by decide +kernel
theorem dX8_givenBy_25 : decode cX8_givenBy 25 = .ok (.goto (-21), 3) := by decide +kernel
theorem dX8_givenBy_28 : decode cX8_givenBy 28 = .ok (.iload_n 2, 1) := by decide +kernel
theorem dX8_givenBy_29 : decode cX8_givenBy 29 = .ok (.ireturn, 1) := by decide +kernel
theorem dX8_keptBy_0 : decode cX8_keptBy 0 = .ok (.aload_n 0, 1) := by decide +kernel
theorem dX8_keptBy_1 : decode cX8_keptBy 1 = .ok (.getfield 9, 3) := by decide +kernel
theorem dX8_keptBy_4 : decode cX8_keptBy 4 = .ok (.iload_n 1, 1) := by decide +kernel
theorem dX8_keptBy_5 : decode cX8_keptBy 5 = .ok (.iaload, 1) := by decide +kernel
theorem dX8_keptBy_6 : decode cX8_keptBy 6 = .ok (.aload_n 0, 1) := by decide +kernel
theorem dX8_keptBy_7 : decode cX8_keptBy 7 = .ok (.iload_n 1, 1) := by decide +kernel
theorem dX8_keptBy_8 : decode cX8_keptBy 8 = .ok (.invokevirtual 67, 3) := by decide +kernel
theorem dX8_keptBy_11 : decode cX8_keptBy 11 = .ok (.isub, 1) := by decide +kernel
theorem dX8_keptBy_12 : decode cX8_keptBy 12 = .ok (.ireturn, 1) := by decide +kernel
theorem dX8_givenTo_0 : decode cX8_givenTo 0 = .ok (.iconst 0, 1) := by decide +kernel
theorem dX8_givenTo_1 : decode cX8_givenTo 1 = .ok (.istore_n 2, 1) := by decide +kernel
theorem dX8_givenTo_2 : decode cX8_givenTo 2 = .ok (.iconst 0, 1) := by decide +kernel
theorem dX8_givenTo_3 : decode cX8_givenTo 3 = .ok (.istore_n 3, 1) := by decide +kernel
theorem dX8_givenTo_4 : decode cX8_givenTo 4 = .ok (.iload_n 3, 1) := by decide +kernel
theorem dX8_givenTo_5 : decode cX8_givenTo 5 = .ok (.aload_n 0, 1) := by decide +kernel
theorem dX8_givenTo_6 : decode cX8_givenTo 6 = .ok (.getfield 33, 3) := by decide +kernel
theorem dX8_givenTo_9 : decode cX8_givenTo 9 = .ok (.if_icmp .ge 22, 3) := by decide +kernel
theorem dX8_givenTo_12 : decode cX8_givenTo 12 = .ok (.iload_n 2, 1) := by decide +kernel
theorem dX8_givenTo_13 : decode cX8_givenTo 13 = .ok (.aload_n 0, 1) := by decide +kernel
theorem dX8_givenTo_14 : decode cX8_givenTo 14 = .ok (.getfield 24, 3) := by decide +kernel
theorem dX8_givenTo_17 : decode cX8_givenTo 17 = .ok (.iload_n 3, 1) := by decide +kernel
theorem dX8_givenTo_18 : decode cX8_givenTo 18 = .ok (.iconst 3, 1) := by decide +kernel
theorem dX8_givenTo_19 : decode cX8_givenTo 19 = .ok (.imul, 1) := by decide +kernel
theorem dX8_givenTo_20 : decode cX8_givenTo 20 = .ok (.iload_n 1, 1) := by decide +kernel
theorem dX8_givenTo_21 : decode cX8_givenTo 21 = .ok (.iadd, 1) := by decide +kernel
theorem dX8_givenTo_22 : decode cX8_givenTo 22 = .ok (.iaload, 1) := by decide +kernel
theorem dX8_givenTo_23 : decode cX8_givenTo 23 = .ok (.iadd, 1) := by decide +kernel
theorem dX8_givenTo_24 : decode cX8_givenTo 24 = .ok (.istore_n 2, 1) := by decide +kernel
theorem dX8_givenTo_25 : decode cX8_givenTo 25 = .ok (.iinc 3 1, 3) := by decide +kernel
theorem dX8_givenTo_28 : decode cX8_givenTo 28 = .ok (.goto (-24), 3) := by decide +kernel
theorem dX8_givenTo_31 : decode cX8_givenTo 31 = .ok (.iload_n 2, 1) := by decide +kernel
theorem dX8_givenTo_32 : decode cX8_givenTo 32 = .ok (.ireturn, 1) := by decide +kernel
theorem dX8_givenInAll_0 : decode cX8_givenInAll 0 = .ok (.iconst 0, 1) := by decide +kernel
theorem dX8_givenInAll_1 : decode cX8_givenInAll 1 = .ok (.istore_n 1, 1) := by decide +kernel
theorem dX8_givenInAll_2 : decode cX8_givenInAll 2 = .ok (.iconst 0, 1) := by decide +kernel
theorem dX8_givenInAll_3 : decode cX8_givenInAll 3 = .ok (.istore_n 2, 1) := by decide +kernel
theorem dX8_givenInAll_4 : decode cX8_givenInAll 4 = .ok (.iload_n 2, 1) := by decide +kernel
theorem dX8_givenInAll_5 : decode cX8_givenInAll 5 = .ok (.aload_n 0, 1) := by decide +kernel
theorem dX8_givenInAll_6 : decode cX8_givenInAll 6 = .ok (.getfield 33, 3) := by decide +kernel
theorem dX8_givenInAll_9 : decode cX8_givenInAll 9 = .ok (.if_icmp .ge 17, 3) := by decide +kernel
theorem dX8_givenInAll_12 : decode cX8_givenInAll 12 = .ok (.iload_n 1, 1) := by decide +kernel
theorem dX8_givenInAll_13 : decode cX8_givenInAll 13 = .ok (.aload_n 0, 1) := by decide +kernel
theorem dX8_givenInAll_14 : decode cX8_givenInAll 14 = .ok (.iload_n 2, 1) := by decide +kernel
theorem dX8_givenInAll_15 : decode cX8_givenInAll 15 = .ok (.invokevirtual 67, 3) := by decide +kernel
theorem dX8_givenInAll_18 : decode cX8_givenInAll 18 = .ok (.iadd, 1) := by decide +kernel
theorem dX8_givenInAll_19 : decode cX8_givenInAll 19 = .ok (.istore_n 1, 1) := by decide +kernel
theorem dX8_givenInAll_20 : decode cX8_givenInAll 20 = .ok (.iinc 2 1, 3) := by decide +kernel
theorem dX8_givenInAll_23 : decode cX8_givenInAll 23 = .ok (.goto (-19), 3) := by decide +kernel
theorem dX8_givenInAll_26 : decode cX8_givenInAll 26 = .ok (.iload_n 1, 1) := by decide +kernel
theorem dX8_givenInAll_27 : decode cX8_givenInAll 27 = .ok (.ireturn, 1) := by decide +kernel
theorem dX8_coinInAll_0 : decode cX8_coinInAll 0 = .ok (.iconst 0, 1) := by decide +kernel
theorem dX8_coinInAll_1 : decode cX8_coinInAll 1 = .ok (.istore_n 1, 1) := by decide +kernel
theorem dX8_coinInAll_2 : decode cX8_coinInAll 2 = .ok (.iconst 0, 1) := by decide +kernel
theorem dX8_coinInAll_3 : decode cX8_coinInAll 3 = .ok (.istore_n 2, 1) := by decide +kernel
theorem dX8_coinInAll_4 : decode cX8_coinInAll 4 = .ok (.iload_n 2, 1) := by decide +kernel
theorem dX8_coinInAll_5 : decode cX8_coinInAll 5 = .ok (.aload_n 0, 1) := by decide +kernel
theorem dX8_coinInAll_6 : decode cX8_coinInAll 6 = .ok (.getfield 33, 3) := by decide +kernel
theorem dX8_coinInAll_9 : decode cX8_coinInAll 9 = .ok (.if_icmp .ge 18, 3) := by decide +kernel
theorem dX8_coinInAll_12 : decode cX8_coinInAll 12 = .ok (.iload_n 1, 1) := by decide +kernel
theorem dX8_coinInAll_13 : decode cX8_coinInAll 13 = .ok (.aload_n 0, 1) := by decide +kernel
theorem dX8_coinInAll_14 : decode cX8_coinInAll 14 = .ok (.getfield 9, 3) := by decide +kernel
theorem dX8_coinInAll_17 : decode cX8_coinInAll 17 = .ok (.iload_n 2, 1) := by decide +kernel
theorem dX8_coinInAll_18 : decode cX8_coinInAll 18 = .ok (.iaload, 1) := by decide +kernel
theorem dX8_coinInAll_19 : decode cX8_coinInAll 19 = .ok (.iadd, 1) := by decide +kernel
theorem dX8_coinInAll_20 : decode cX8_coinInAll 20 = .ok (.istore_n 1, 1) := by decide +kernel
theorem dX8_coinInAll_21 : decode cX8_coinInAll 21 = .ok (.iinc 2 1, 3) := by decide +kernel
theorem dX8_coinInAll_24 : decode cX8_coinInAll 24 = .ok (.goto (-20), 3) := by decide +kernel
theorem dX8_coinInAll_27 : decode cX8_coinInAll 27 = .ok (.iload_n 1, 1) := by decide +kernel
theorem dX8_coinInAll_28 : decode cX8_coinInAll 28 = .ok (.ireturn, 1) := by decide +kernel
theorem dX8_packedGifts_0 : decode cX8_packedGifts 0 = .ok (.lconst 0, 1) := by decide +kernel
theorem dX8_packedGifts_1 : decode cX8_packedGifts 1 = .ok (.lstore_n 1, 1) := by decide +kernel
theorem dX8_packedGifts_2 : decode cX8_packedGifts 2 = .ok (.iconst 0, 1) := by decide +kernel
theorem dX8_packedGifts_3 : decode cX8_packedGifts 3 = .ok (.istore_n 3, 1) := by decide +kernel
theorem dX8_packedGifts_4 : decode cX8_packedGifts 4 = .ok (.iload_n 3, 1) := by decide +kernel
theorem dX8_packedGifts_5 : decode cX8_packedGifts 5 = .ok (.bipush 15, 2) := by decide +kernel
theorem dX8_packedGifts_7 : decode cX8_packedGifts 7 = .ok (.if_icmp .ge 21, 3) := by decide +kernel
theorem dX8_packedGifts_10 : decode cX8_packedGifts 10 = .ok (.lload_n 1, 1) := by decide +kernel
theorem dX8_packedGifts_11 : decode cX8_packedGifts 11 = .ok (.iconst 4, 1) := by decide +kernel
theorem dX8_packedGifts_12 : decode cX8_packedGifts 12 = .ok (.lshl, 1) := by decide +kernel
theorem dX8_packedGifts_13 : decode cX8_packedGifts 13 = .ok (.aload_n 0, 1) := by decide +kernel
theorem dX8_packedGifts_14 : decode cX8_packedGifts 14 = .ok (.getfield 24, 3) := by decide +kernel
theorem dX8_packedGifts_17 : decode cX8_packedGifts 17 = .ok (.iload_n 3, 1) := by decide +kernel
theorem dX8_packedGifts_18 : decode cX8_packedGifts 18 = .ok (.iaload, 1) := by decide +kernel
theorem dX8_packedGifts_19 : decode cX8_packedGifts 19 = .ok (.i2l, 1) := by decide +kernel
theorem dX8_packedGifts_20 : decode cX8_packedGifts 20 = .ok (.lor, 1) := by decide +kernel
theorem dX8_packedGifts_21 : decode cX8_packedGifts 21 = .ok (.lstore_n 1, 1) := by decide +kernel
theorem dX8_packedGifts_22 : decode cX8_packedGifts 22 = .ok (.iinc 3 1, 3) := by decide +kernel
theorem dX8_packedGifts_25 : decode cX8_packedGifts 25 = .ok (.goto (-21), 3) := by decide +kernel
theorem dX8_packedGifts_28 : decode cX8_packedGifts 28 = .ok (.lload_n 1, 1) := by decide +kernel
theorem dX8_packedGifts_29 : decode cX8_packedGifts 29 = .ok (.lreturn, 1) := by decide +kernel
theorem dX8_worthOf_0 : decode cX8_worthOf 0 = .ok (.iload_n 3, 1) := by decide +kernel
theorem dX8_worthOf_1 : decode cX8_worthOf 1 = .ok (.aload_n 0, 1) := by decide +kernel
theorem dX8_worthOf_2 : decode cX8_worthOf 2 = .ok (.getfield 15, 3) := by decide +kernel
theorem dX8_worthOf_5 : decode cX8_worthOf 5 = .ok (.iload_n 2, 1) := by decide +kernel
theorem dX8_worthOf_6 : decode cX8_worthOf 6 = .ok (.iaload, 1) := by decide +kernel
theorem dX8_worthOf_7 : decode cX8_worthOf 7 = .ok (.if_icmp .ge 5, 3) := by decide +kernel
theorem dX8_worthOf_10 : decode cX8_worthOf 10 = .ok (.iconst 0, 1) := by decide +kernel
theorem dX8_worthOf_11 : decode cX8_worthOf 11 = .ok (.ireturn, 1) := by decide +kernel
theorem dX8_worthOf_12 : decode cX8_worthOf 12 = .ok (.aload_n 0, 1) := by decide +kernel
theorem dX8_worthOf_13 : decode cX8_worthOf 13 = .ok (.getfield 18, 3) := by decide +kernel
theorem dX8_worthOf_16 : decode cX8_worthOf 16 = .ok (.iload_n 1, 1) := by decide +kernel
theorem dX8_worthOf_17 : decode cX8_worthOf 17 = .ok (.iconst 3, 1) := by decide +kernel
theorem dX8_worthOf_18 : decode cX8_worthOf 18 = .ok (.imul, 1) := by decide +kernel
theorem dX8_worthOf_19 : decode cX8_worthOf 19 = .ok (.iload_n 2, 1) := by decide +kernel
theorem dX8_worthOf_20 : decode cX8_worthOf 20 = .ok (.iadd, 1) := by decide +kernel
theorem dX8_worthOf_21 : decode cX8_worthOf 21 = .ok (.iaload, 1) := by decide +kernel
theorem dX8_worthOf_22 : decode cX8_worthOf 22 = .ok (.istore 4, 2) := by decide +kernel
theorem dX8_worthOf_24 : decode cX8_worthOf 24 = .ok (.aload_n 0, 1) := by decide +kernel
theorem dX8_worthOf_25 : decode cX8_worthOf 25 = .ok (.getfield 21, 3) := by decide +kernel
theorem dX8_worthOf_28 : decode cX8_worthOf 28 = .ok (.iload_n 1, 1) := by decide +kernel
theorem dX8_worthOf_29 : decode cX8_worthOf 29 = .ok (.iconst 3, 1) := by decide +kernel
theorem dX8_worthOf_30 : decode cX8_worthOf 30 = .ok (.imul, 1) := by decide +kernel
theorem dX8_worthOf_31 : decode cX8_worthOf 31 = .ok (.iload_n 2, 1) := by decide +kernel
theorem dX8_worthOf_32 : decode cX8_worthOf 32 = .ok (.iadd, 1) := by decide +kernel
theorem dX8_worthOf_33 : decode cX8_worthOf 33 = .ok (.iaload, 1) := by decide +kernel
theorem dX8_worthOf_34 : decode cX8_worthOf 34 = .ok (.istore 5, 2) := by decide +kernel
theorem dX8_worthOf_36 : decode cX8_worthOf 36 = .ok (.iload_n 3, 1) := by decide +kernel
theorem dX8_worthOf_37 : decode cX8_worthOf 37 = .ok (.bipush 60, 2) := by decide +kernel
theorem dX8_worthOf_39 : decode cX8_worthOf 39 = .ok (.invokestatic 71, 3) := by decide +kernel
theorem dX8_worthOf_42 : decode cX8_worthOf 42 = .ok (.istore 6, 2) := by decide +kernel
theorem dX8_worthOf_44 : decode cX8_worthOf 44 = .ok (.iload 5, 2) := by decide +kernel
theorem dX8_worthOf_46 : decode cX8_worthOf 46 = .ok (.ifCond .le 20, 3) := by decide +kernel
theorem dX8_worthOf_49 : decode cX8_worthOf 49 = .ok (.iload 6, 2) := by decide +kernel
theorem dX8_worthOf_51 : decode cX8_worthOf 51 = .ok (.iload 4, 2) := by decide +kernel
theorem dX8_worthOf_53 : decode cX8_worthOf 53 = .ok (.iload 5, 2) := by decide +kernel
theorem dX8_worthOf_55 : decode cX8_worthOf 55 = .ok (.iadd, 1) := by decide +kernel
theorem dX8_worthOf_56 : decode cX8_worthOf 56 = .ok (.iconst 1, 1) := by decide +kernel
theorem dX8_worthOf_57 : decode cX8_worthOf 57 = .ok (.isub, 1) := by decide +kernel
theorem dX8_worthOf_58 : decode cX8_worthOf 58 = .ok (.iload 5, 2) := by decide +kernel
theorem dX8_worthOf_60 : decode cX8_worthOf 60 = .ok (.idiv, 1) := by decide +kernel
theorem dX8_worthOf_61 : decode cX8_worthOf 61 = .ok (.invokestatic 71, 3) := by decide +kernel
theorem dX8_worthOf_64 : decode cX8_worthOf 64 = .ok (.istore 6, 2) := by decide +kernel
theorem dX8_worthOf_66 : decode cX8_worthOf 66 = .ok (.iload 6, 2) := by decide +kernel
theorem dX8_worthOf_68 : decode cX8_worthOf 68 = .ok (.iload 4, 2) := by decide +kernel
theorem dX8_worthOf_70 : decode cX8_worthOf 70 = .ok (.imul, 1) := by decide +kernel
theorem dX8_worthOf_71 : decode cX8_worthOf 71 = .ok (.iload 5, 2) := by decide +kernel
theorem dX8_worthOf_73 : decode cX8_worthOf 73 = .ok (.iload 6, 2) := by decide +kernel
theorem dX8_worthOf_75 : decode cX8_worthOf 75 = .ok (.iload 6, 2) := by decide +kernel
theorem dX8_worthOf_77 : decode cX8_worthOf 77 = .ok (.iconst 1, 1) := by decide +kernel
theorem dX8_worthOf_78 : decode cX8_worthOf 78 = .ok (.isub, 1) := by decide +kernel
theorem dX8_worthOf_79 : decode cX8_worthOf 79 = .ok (.imul, 1) := by decide +kernel
theorem dX8_worthOf_80 : decode cX8_worthOf 80 = .ok (.iconst 2, 1) := by decide +kernel
theorem dX8_worthOf_81 : decode cX8_worthOf 81 = .ok (.idiv, 1) := by decide +kernel
theorem dX8_worthOf_82 : decode cX8_worthOf 82 = .ok (.imul, 1) := by decide +kernel
theorem dX8_worthOf_83 : decode cX8_worthOf 83 = .ok (.isub, 1) := by decide +kernel
theorem dX8_worthOf_84 : decode cX8_worthOf 84 = .ok (.ireturn, 1) := by decide +kernel
theorem dX1_init_0 : decode cX1_init 0 = .ok (.aload_n 0, 1) := by decide +kernel
theorem dX1_init_1 : decode cX1_init 1 = .ok (.invokespecial 5, 3) := by decide +kernel
theorem dX1_init_4 : decode cX1_init 4 = .ok (.aload_n 0, 1) := by decide +kernel
theorem dX1_init_5 : decode cX1_init 5 = .ok (.sipush 183, 3) := by decide +kernel
theorem dX1_init_8 : decode cX1_init 8 = .ok (.newarray .int, 2) := by decide +kernel
theorem dX1_init_10 : decode cX1_init 10 = .ok (.putfield 11, 3) := by decide +kernel
theorem dX1_init_13 : decode cX1_init 13 = .ok (.aload_n 0, 1) := by decide +kernel
theorem dX1_init_14 : decode cX1_init 14 = .ok (.sipush 1044, 3) := by decide +kernel
theorem dX1_init_17 : decode cX1_init 17 = .ok (.newarray .int, 2) := by decide +kernel
theorem dX1_init_19 : decode cX1_init 19 = .ok (.putfield 15, 3) := by decide +kernel
theorem dX1_init_22 : decode cX1_init 22 = .ok (.aload_n 0, 1) := by decide +kernel
theorem dX1_init_23 : decode cX1_init 23 = .ok (.iconst 3, 1) := by decide +kernel
theorem dX1_init_24 : decode cX1_init 24 = .ok (.newarray .int, 2) := by decide +kernel
theorem dX1_init_26 : decode cX1_init 26 = .ok (.putfield 18, 3) := by decide +kernel
theorem dX1_init_29 : decode cX1_init 29 = .ok (.return_, 1) := by decide +kernel
theorem dX1_find_0 : decode cX1_find 0 = .ok (.aload_n 1, 1) := by decide +kernel
theorem dX1_find_1 : decode cX1_find 1 = .ok (.invokevirtual 21, 3) := by decide +kernel
theorem dX1_find_4 : decode cX1_find 4 = .ok (.istore_n 2, 1) := by decide +kernel
theorem dX1_find_5 : decode cX1_find 5 = .ok (.sipush 260, 3) := by decide +kernel
theorem dX1_find_8 : decode cX1_find 8 = .ok (.iload_n 2, 1) := by decide +kernel
theorem dX1_find_9 : decode cX1_find 9 = .ok (.aload_n 1, 1) := by decide +kernel
theorem dX1_find_10 : decode cX1_find 10 = .ok (.getfield 27, 3) := by decide +kernel
end
section
theorem dX1_find_13 : decode cX1_find 13 = .ok (.iadd, 1) := by decide +kernel
theorem dX1_find_14 : decode cX1_find 14 = .ok (.invokestatic 31, 3) := by decide +kernel
theorem dX1_find_17 : decode cX1_find 17 = .ok (.istore_n 3, 1) := by decide +kernel
theorem dX1_find_18 : decode cX1_find 18 = .ok (.iconst 0, 1) := by decide +kernel
theorem dX1_find_19 : decode cX1_find 19 = .ok (.istore 4, 2) := by decide +kernel
theorem dX1_find_21 : decode cX1_find 21 = .ok (.iload 4, 2) := by decide +kernel
theorem dX1_find_23 : decode cX1_find 23 = .ok (.iload_n 3, 1) := by decide +kernel
theorem dX1_find_24 : decode cX1_find 24 = .ok (.if_icmp .gt 31, 3) := by decide +kernel
theorem dX1_find_27 : decode cX1_find 27 = .ok (.aload_n 0, 1) := by decide +kernel
theorem dX1_find_28 : decode cX1_find 28 = .ok (.getfield 15, 3) := by decide +kernel
theorem dX1_find_31 : decode cX1_find 31 = .ok (.sipush 783, 3) := by decide +kernel
theorem dX1_find_34 : decode cX1_find 34 = .ok (.iload 4, 2) := by decide +kernel
theorem dX1_find_36 : decode cX1_find 36 = .ok (.iadd, 1) := by decide +kernel
theorem dX1_find_37 : decode cX1_find 37 = .ok (.aload_n 1, 1) := by decide +kernel
theorem dX1_find_38 : decode cX1_find 38 = .ok (.getfield 37, 3) := by decide +kernel
theorem dX1_find_41 : decode cX1_find 41 = .ok (.iload 4, 2) := by decide +kernel
theorem dX1_find_43 : decode cX1_find 43 = .ok (.iload_n 2, 1) := by decide +kernel
theorem dX1_find_44 : decode cX1_find 44 = .ok (.invokestatic 31, 3) := by decide +kernel
theorem dX1_find_47 : decode cX1_find 47 = .ok (.imul, 1) := by decide +kernel
theorem dX1_find_48 : decode cX1_find 48 = .ok (.iastore, 1) := by decide +kernel
theorem dX1_find_49 : decode cX1_find 49 = .ok (.iinc 4 1, 3) := by decide +kernel
theorem dX1_find_52 : decode cX1_find 52 = .ok (.goto (-31), 3) := by decide +kernel
theorem dX1_find_55 : decode cX1_find 55 = .ok (.iconst 2, 1) := by decide +kernel
theorem dX1_find_56 : decode cX1_find 56 = .ok (.istore 4, 2) := by decide +kernel
theorem dX1_find_58 : decode cX1_find 58 = .ok (.iload 4, 2) := by decide +kernel
theorem dX1_find_60 : decode cX1_find 60 = .ok (.ifCond .lt 71, 3) := by decide +kernel
theorem dX1_find_63 : decode cX1_find 63 = .ok (.aload_n 0, 1) := by decide +kernel
theorem dX1_find_64 : decode cX1_find 64 = .ok (.aload_n 1, 1) := by decide +kernel
theorem dX1_find_65 : decode cX1_find 65 = .ok (.iload 4, 2) := by decide +kernel
theorem dX1_find_67 : decode cX1_find 67 = .ok (.invokevirtual 40, 3) := by decide +kernel
theorem dX1_find_70 : decode cX1_find 70 = .ok (.iconst 0, 1) := by decide +kernel
theorem dX1_find_71 : decode cX1_find 71 = .ok (.iload_n 3, 1) := by decide +kernel
theorem dX1_find_72 : decode cX1_find 72 = .ok (.iload 4, 2) := by decide +kernel
theorem dX1_find_74 : decode cX1_find 74 = .ok (.bipush 60, 2) := by decide +kernel
theorem dX1_find_76 : decode cX1_find 76 = .ok (.imul, 1) := by decide +kernel
theorem dX1_find_77 : decode cX1_find 77 = .ok (.isub, 1) := by decide +kernel
theorem dX1_find_78 : decode cX1_find 78 = .ok (.invokestatic 44, 3) := by decide +kernel
theorem dX1_find_81 : decode cX1_find 81 = .ok (.istore 5, 2) := by decide +kernel
theorem dX1_find_83 : decode cX1_find 83 = .ok (.iload 5, 2) := by decide +kernel
theorem dX1_find_85 : decode cX1_find 85 = .ok (.iload_n 3, 1) := by decide +kernel
theorem dX1_find_86 : decode cX1_find 86 = .ok (.if_icmp .gt 39, 3) := by decide +kernel
theorem dX1_find_89 : decode cX1_find 89 = .ok (.aload_n 0, 1) := by decide +kernel
theorem dX1_find_90 : decode cX1_find 90 = .ok (.getfield 15, 3) := by decide +kernel
theorem dX1_find_93 : decode cX1_find 93 = .ok (.iload 4, 2) := by decide +kernel
theorem dX1_find_95 : decode cX1_find 95 = .ok (.sipush 261, 3) := by decide +kernel
theorem dX1_find_98 : decode cX1_find 98 = .ok (.imul, 1) := by decide +kernel
theorem dX1_find_99 : decode cX1_find 99 = .ok (.iload 5, 2) := by decide +kernel
theorem dX1_find_101 : decode cX1_find 101 = .ok (.iadd, 1) := by decide +kernel
theorem dX1_find_102 : decode cX1_find 102 = .ok (.aload_n 0, 1) := by decide +kernel
theorem dX1_find_103 : decode cX1_find 103 = .ok (.iload 4, 2) := by decide +kernel
theorem dX1_find_105 : decode cX1_find 105 = .ok (.iload 5, 2) := by decide +kernel
theorem dX1_find_107 : decode cX1_find 107 = .ok (.aload_n 0, 1) := by decide +kernel
theorem dX1_find_108 : decode cX1_find 108 = .ok (.iload 4, 2) := by decide +kernel
theorem dX1_find_110 : decode cX1_find 110 = .ok (.iload 5, 2) := by decide +kernel
theorem dX1_find_112 : decode cX1_find 112 = .ok (.invokevirtual 47, 3) := by decide +kernel
theorem dX1_find_115 : decode cX1_find 115 = .ok (.invokevirtual 50, 3) := by decide +kernel
theorem dX1_find_118 : decode cX1_find 118 = .ok (.iastore, 1) := by decide +kernel
theorem dX1_find_119 : decode cX1_find 119 = .ok (.iinc 5 1, 3) := by decide +kernel
theorem dX1_find_122 : decode cX1_find 122 = .ok (.goto (-39), 3) := by decide +kernel
theorem dX1_find_125 : decode cX1_find 125 = .ok (.iinc 4 (-1), 3) := by decide +kernel
theorem dX1_find_128 : decode cX1_find 128 = .ok (.goto (-70), 3) := by decide +kernel
theorem dX1_find_131 : decode cX1_find 131 = .ok (.aload_n 0, 1) := by decide +kernel
theorem dX1_find_132 : decode cX1_find 132 = .ok (.aload_n 0, 1) := by decide +kernel
theorem dX1_find_133 : decode cX1_find 133 = .ok (.getfield 15, 3) := by decide +kernel
theorem dX1_find_136 : decode cX1_find 136 = .ok (.iload_n 3, 1) := by decide +kernel
theorem dX1_find_137 : decode cX1_find 137 = .ok (.iaload, 1) := by decide +kernel
theorem dX1_find_138 : decode cX1_find 138 = .ok (.putfield 54, 3) := by decide +kernel
theorem dX1_find_141 : decode cX1_find 141 = .ok (.iload_n 3, 1) := by decide +kernel
theorem dX1_find_142 : decode cX1_find 142 = .ok (.istore 4, 2) := by decide +kernel
theorem dX1_find_144 : decode cX1_find 144 = .ok (.iconst 0, 1) := by decide +kernel
theorem dX1_find_145 : decode cX1_find 145 = .ok (.istore 5, 2) := by decide +kernel
theorem dX1_find_147 : decode cX1_find 147 = .ok (.iload 5, 2) := by decide +kernel
theorem dX1_find_149 : decode cX1_find 149 = .ok (.iconst 3, 1) := by decide +kernel
theorem dX1_find_150 : decode cX1_find 150 = .ok (.if_icmp .ge 36, 3) := by decide +kernel
theorem dX1_find_153 : decode cX1_find 153 = .ok (.aload_n 0, 1) := by decide +kernel
theorem dX1_find_154 : decode cX1_find 154 = .ok (.getfield 18, 3) := by decide +kernel
theorem dX1_find_157 : decode cX1_find 157 = .ok (.iload 5, 2) := by decide +kernel
theorem dX1_find_159 : decode cX1_find 159 = .ok (.aload_n 0, 1) := by decide +kernel
theorem dX1_find_160 : decode cX1_find 160 = .ok (.iload 5, 2) := by decide +kernel
theorem dX1_find_162 : decode cX1_find 162 = .ok (.iload 4, 2) := by decide +kernel
theorem dX1_find_164 : decode cX1_find 164 = .ok (.invokevirtual 47, 3) := by decide +kernel
theorem dX1_find_167 : decode cX1_find 167 = .ok (.iastore, 1) := by decide +kernel
theorem dX1_find_168 : decode cX1_find 168 = .ok (.iload 4, 2) := by decide +kernel
theorem dX1_find_170 : decode cX1_find 170 = .ok (.aload_n 0, 1) := by decide +kernel
theorem dX1_find_171 : decode cX1_find 171 = .ok (.getfield 18, 3) := by decide +kernel
theorem dX1_find_174 : decode cX1_find 174 = .ok (.iload 5, 2) := by decide +kernel
theorem dX1_find_176 : decode cX1_find 176 = .ok (.iaload, 1) := by decide +kernel
theorem dX1_find_177 : decode cX1_find 177 = .ok (.isub, 1) := by decide +kernel
theorem dX1_find_178 : decode cX1_find 178 = .ok (.istore 4, 2) := by decide +kernel
theorem dX1_find_180 : decode cX1_find 180 = .ok (.iinc 5 1, 3) := by decide +kernel
theorem dX1_find_183 : decode cX1_find 183 = .ok (.goto (-36), 3) := by decide +kernel
theorem dX1_find_186 : decode cX1_find 186 = .ok (.return_, 1) := by decide +kernel
theorem dX1_fillWorths_0 : decode cX1_fillWorths 0 = .ok (.iconst 0, 1) := by decide +kernel
theorem dX1_fillWorths_1 : decode cX1_fillWorths 1 = .ok (.istore_n 3, 1) := by decide +kernel
theorem dX1_fillWorths_2 : decode cX1_fillWorths 2 = .ok (.iload_n 3, 1) := by decide +kernel
theorem dX1_fillWorths_3 : decode cX1_fillWorths 3 = .ok (.bipush 61, 2) := by decide +kernel
theorem dX1_fillWorths_5 : decode cX1_fillWorths 5 = .ok (.if_icmp .ge 56, 3) := by decide +kernel
theorem dX1_fillWorths_8 : decode cX1_fillWorths 8 = .ok (.iconst 0, 1) := by decide +kernel
theorem dX1_fillWorths_9 : decode cX1_fillWorths 9 = .ok (.istore 4, 2) := by decide +kernel
theorem dX1_fillWorths_11 : decode cX1_fillWorths 11 = .ok (.iconst 0, 1) := by decide +kernel
theorem dX1_fillWorths_12 : decode cX1_fillWorths 12 = .ok (.istore 5, 2) := by decide +kernel
theorem dX1_fillWorths_14 : decode cX1_fillWorths 14 = .ok (.iload 5, 2) := by decide +kernel
theorem dX1_fillWorths_16 : decode cX1_fillWorths 16 = .ok (.aload_n 1, 1) := by decide +kernel
theorem dX1_fillWorths_17 : decode cX1_fillWorths 17 = .ok (.getfield 57, 3) := by decide +kernel
theorem dX1_fillWorths_20 : decode cX1_fillWorths 20 = .ok (.if_icmp .ge 22, 3) := by decide +kernel
theorem dX1_fillWorths_23 : decode cX1_fillWorths 23 = .ok (.iload 4, 2) := by decide +kernel
theorem dX1_fillWorths_25 : decode cX1_fillWorths 25 = .ok (.aload_n 1, 1) := by decide +kernel
theorem dX1_fillWorths_26 : decode cX1_fillWorths 26 = .ok (.iload 5, 2) := by decide +kernel
theorem dX1_fillWorths_28 : decode cX1_fillWorths 28 = .ok (.iload_n 2, 1) := by decide +kernel
theorem dX1_fillWorths_29 : decode cX1_fillWorths 29 = .ok (.iload_n 3, 1) := by decide +kernel
theorem dX1_fillWorths_30 : decode cX1_fillWorths 30 = .ok (.invokevirtual 60, 3) := by decide +kernel
theorem dX1_fillWorths_33 : decode cX1_fillWorths 33 = .ok (.iadd, 1) := by decide +kernel
theorem dX1_fillWorths_34 : decode cX1_fillWorths 34 = .ok (.istore 4, 2) := by decide +kernel
theorem dX1_fillWorths_36 : decode cX1_fillWorths 36 = .ok (.iinc 5 1, 3) := by decide +kernel
theorem dX1_fillWorths_39 : decode cX1_fillWorths 39 = .ok (.goto (-25), 3) := by decide +kernel
theorem dX1_fillWorths_42 : decode cX1_fillWorths 42 = .ok (.aload_n 0, 1) := by decide +kernel
theorem dX1_fillWorths_43 : decode cX1_fillWorths 43 = .ok (.getfield 11, 3) := by decide +kernel
theorem dX1_fillWorths_46 : decode cX1_fillWorths 46 = .ok (.iload_n 2, 1) := by decide +kernel
theorem dX1_fillWorths_47 : decode cX1_fillWorths 47 = .ok (.bipush 61, 2) := by decide +kernel
theorem dX1_fillWorths_49 : decode cX1_fillWorths 49 = .ok (.imul, 1) := by decide +kernel
theorem dX1_fillWorths_50 : decode cX1_fillWorths 50 = .ok (.iload_n 3, 1) := by decide +kernel
theorem dX1_fillWorths_51 : decode cX1_fillWorths 51 = .ok (.iadd, 1) := by decide +kernel
theorem dX1_fillWorths_52 : decode cX1_fillWorths 52 = .ok (.iload 4, 2) := by decide +kernel
theorem dX1_fillWorths_54 : decode cX1_fillWorths 54 = .ok (.iastore, 1) := by decide +kernel
theorem dX1_fillWorths_55 : decode cX1_fillWorths 55 = .ok (.iinc 3 1, 3) := by decide +kernel
theorem dX1_fillWorths_58 : decode cX1_fillWorths 58 = .ok (.goto (-56), 3) := by decide +kernel
theorem dX1_fillWorths_61 : decode cX1_fillWorths 61 = .ok (.return_, 1) := by decide +kernel
theorem dX1_firstBest_0 : decode cX1_firstBest 0 = .ok (.iconst 0, 1) := by decide +kernel
theorem dX1_firstBest_1 : decode cX1_firstBest 1 = .ok (.istore_n 3, 1) := by decide +kernel
theorem dX1_firstBest_2 : decode cX1_firstBest 2 = .ok (.aload_n 0, 1) := by decide +kernel
theorem dX1_firstBest_3 : decode cX1_firstBest 3 = .ok (.iload_n 1, 1) := by decide +kernel
theorem dX1_firstBest_4 : decode cX1_firstBest 4 = .ok (.iload_n 2, 1) := by decide +kernel
theorem dX1_firstBest_5 : decode cX1_firstBest 5 = .ok (.iconst 0, 1) := by decide +kernel
theorem dX1_firstBest_6 : decode cX1_firstBest 6 = .ok (.invokevirtual 50, 3) := by decide +kernel
theorem dX1_firstBest_9 : decode cX1_firstBest 9 = .ok (.istore 4, 2) := by decide +kernel
theorem dX1_firstBest_11 : decode cX1_firstBest 11 = .ok (.bipush 60, 2) := by decide +kernel
theorem dX1_firstBest_13 : decode cX1_firstBest 13 = .ok (.iload_n 2, 1) := by decide +kernel
theorem dX1_firstBest_14 : decode cX1_firstBest 14 = .ok (.invokestatic 31, 3) := by decide +kernel
theorem dX1_firstBest_17 : decode cX1_firstBest 17 = .ok (.istore 5, 2) := by decide +kernel
theorem dX1_firstBest_19 : decode cX1_firstBest 19 = .ok (.iconst 1, 1) := by decide +kernel
theorem dX1_firstBest_20 : decode cX1_firstBest 20 = .ok (.istore 6, 2) := by decide +kernel
theorem dX1_firstBest_22 : decode cX1_firstBest 22 = .ok (.iload 6, 2) := by decide +kernel
theorem dX1_firstBest_24 : decode cX1_firstBest 24 = .ok (.iload 5, 2) := by decide +kernel
theorem dX1_firstBest_26 : decode cX1_firstBest 26 = .ok (.if_icmp .gt 33, 3) := by decide +kernel
theorem dX1_firstBest_29 : decode cX1_firstBest 29 = .ok (.aload_n 0, 1) := by decide +kernel
theorem dX1_firstBest_30 : decode cX1_firstBest 30 = .ok (.iload_n 1, 1) := by decide +kernel
theorem dX1_firstBest_31 : decode cX1_firstBest 31 = .ok (.iload_n 2, 1) := by decide +kernel
theorem dX1_firstBest_32 : decode cX1_firstBest 32 = .ok (.iload 6, 2) := by decide +kernel
theorem dX1_firstBest_34 : decode cX1_firstBest 34 = .ok (.invokevirtual 50, 3) := by decide +kernel
theorem dX1_firstBest_37 : decode cX1_firstBest 37 = .ok (.istore 7, 2) := by decide +kernel
theorem dX1_firstBest_39 : decode cX1_firstBest 39 = .ok (.iload 7, 2) := by decide +kernel
theorem dX1_firstBest_41 : decode cX1_firstBest 41 = .ok (.iload 4, 2) := by decide +kernel
theorem dX1_firstBest_43 : decode cX1_firstBest 43 = .ok (.if_icmp .le 10, 3) := by decide +kernel
theorem dX1_firstBest_46 : decode cX1_firstBest 46 = .ok (.iload 7, 2) := by decide +kernel
theorem dX1_firstBest_48 : decode cX1_firstBest 48 = .ok (.istore 4, 2) := by decide +kernel
theorem dX1_firstBest_50 : decode cX1_firstBest 50 = .ok (.iload 6, 2) := by decide +kernel
theorem dX1_firstBest_52 : decode cX1_firstBest 52 = .ok (.istore_n 3, 1) := by decide +kernel
theorem dX1_firstBest_53 : decode cX1_firstBest 53 = .ok (.iinc 6 1, 3) := by decide +kernel
theorem dX1_firstBest_56 : decode cX1_firstBest 56 = .ok (.goto (-34), 3) := by decide +kernel
theorem dX1_firstBest_59 : decode cX1_firstBest 59 = .ok (.iload_n 3, 1) := by decide +kernel
theorem dX1_firstBest_60 : decode cX1_firstBest 60 = .ok (.ireturn, 1) := by decide +kernel
theorem dX1_haveBy_0 : decode cX1_haveBy 0 = .ok (.aload_n 0, 1) := by decide +kernel
theorem dX1_haveBy_1 : decode cX1_haveBy 1 = .ok (.getfield 11, 3) := by decide +kernel
theorem dX1_haveBy_4 : decode cX1_haveBy 4 = .ok (.iload_n 1, 1) := by decide +kernel
theorem dX1_haveBy_5 : decode cX1_haveBy 5 = .ok (.bipush 61, 2) := by decide +kernel
theorem dX1_haveBy_7 : decode cX1_haveBy 7 = .ok (.imul, 1) := by decide +kernel
theorem dX1_haveBy_8 : decode cX1_haveBy 8 = .ok (.iload_n 3, 1) := by decide +kernel
theorem dX1_haveBy_9 : decode cX1_haveBy 9 = .ok (.iadd, 1) := by decide +kernel
theorem dX1_haveBy_10 : decode cX1_haveBy 10 = .ok (.iaload, 1) := by decide +kernel
theorem dX1_haveBy_11 : decode cX1_haveBy 11 = .ok (.aload_n 0, 1) := by decide +kernel
theorem dX1_haveBy_12 : decode cX1_haveBy 12 = .ok (.getfield 15, 3) := by decide +kernel
theorem dX1_haveBy_15 : decode cX1_haveBy 15 = .ok (.iload_n 1, 1) := by decide +kernel
theorem dX1_haveBy_16 : decode cX1_haveBy 16 = .ok (.iconst 1, 1) := by decide +kernel
theorem dX1_haveBy_17 : decode cX1_haveBy 17 = .ok (.iadd, 1) := by decide +kernel
theorem dX1_haveBy_18 : decode cX1_haveBy 18 = .ok (.sipush 261, 3) := by decide +kernel
theorem dX1_haveBy_21 : decode cX1_haveBy 21 = .ok (.imul, 1) := by decide +kernel
theorem dX1_haveBy_22 : decode cX1_haveBy 22 = .ok (.iload_n 2, 1) := by decide +kernel
theorem dX1_haveBy_23 : decode cX1_haveBy 23 = .ok (.iadd, 1) := by decide +kernel
theorem dX1_haveBy_24 : decode cX1_haveBy 24 = .ok (.iload_n 3, 1) := by decide +kernel
theorem dX1_haveBy_25 : decode cX1_haveBy 25 = .ok (.isub, 1) := by decide +kernel
theorem dX1_haveBy_26 : decode cX1_haveBy 26 = .ok (.iaload, 1) := by decide +kernel
theorem dX1_haveBy_27 : decode cX1_haveBy 27 = .ok (.iadd, 1) := by decide +kernel
theorem dX1_haveBy_28 : decode cX1_haveBy 28 = .ok (.ireturn, 1) := by decide +kernel
theorem dX3_init_0 : decode cX3_init 0 = .ok (.aload_n 0, 1) := by decide +kernel
theorem dX3_init_1 : decode cX3_init 1 = .ok (.invokespecial 3, 3) := by decide +kernel
theorem dX3_init_4 : decode cX3_init 4 = .ok (.aload_n 0, 1) := by decide +kernel
theorem dX3_init_5 : decode cX3_init 5 = .ok (.iconst 3, 1) := by decide +kernel
theorem dX3_init_6 : decode cX3_init 6 = .ok (.newarray .int, 2) := by decide +kernel
theorem dX3_init_8 : decode cX3_init 8 = .ok (.putfield 9, 3) := by decide +kernel
theorem dX3_init_11 : decode cX3_init 11 = .ok (.aload_n 0, 1) := by decide +kernel
theorem dX3_init_12 : decode cX3_init 12 = .ok (.iconst 3, 1) := by decide +kernel
theorem dX3_init_13 : decode cX3_init 13 = .ok (.newarray .int, 2) := by decide +kernel
theorem dX3_init_15 : decode cX3_init 15 = .ok (.putfield 15, 3) := by decide +kernel
theorem dX3_init_18 : decode cX3_init 18 = .ok (.aload_n 0, 1) := by decide +kernel
theorem dX3_init_19 : decode cX3_init 19 = .ok (.iconst 3, 1) := by decide +kernel
theorem dX3_init_20 : decode cX3_init 20 = .ok (.newarray .int, 2) := by decide +kernel
theorem dX3_init_22 : decode cX3_init 22 = .ok (.putfield 18, 3) := by decide +kernel
theorem dX3_init_25 : decode cX3_init 25 = .ok (.aload_n 0, 1) := by decide +kernel
theorem dX3_init_26 : decode cX3_init 26 = .ok (.aload_n 1, 1) := by decide +kernel
theorem dX3_init_27 : decode cX3_init 27 = .ok (.putfield 21, 3) := by decide +kernel
theorem dX3_init_30 : decode cX3_init 30 = .ok (.return_, 1) := by decide +kernel
theorem dX3_fill_0 : decode cX3_fill 0 = .ok (.iconst 0, 1) := by decide +kernel
theorem dX3_fill_1 : decode cX3_fill 1 = .ok (.istore_n 2, 1) := by decide +kernel
theorem dX3_fill_2 : decode cX3_fill 2 = .ok (.iload_n 2, 1) := by decide +kernel
theorem dX3_fill_3 : decode cX3_fill 3 = .ok (.iconst 3, 1) := by decide +kernel
theorem dX3_fill_4 : decode cX3_fill 4 = .ok (.if_icmp .ge 23, 3) := by decide +kernel
theorem dX3_fill_7 : decode cX3_fill 7 = .ok (.aload_n 0, 1) := by decide +kernel
theorem dX3_fill_8 : decode cX3_fill 8 = .ok (.getfield 9, 3) := by decide +kernel
theorem dX3_fill_11 : decode cX3_fill 11 = .ok (.iload_n 2, 1) := by decide +kernel
theorem dX3_fill_12 : decode cX3_fill 12 = .ok (.iconst 0, 1) := by decide +kernel
theorem dX3_fill_13 : decode cX3_fill 13 = .ok (.iastore, 1) := by decide +kernel
theorem dX3_fill_14 : decode cX3_fill 14 = .ok (.aload_n 0, 1) := by decide +kernel
theorem dX3_fill_15 : decode cX3_fill 15 = .ok (.getfield 15, 3) := by decide +kernel
theorem dX3_fill_18 : decode cX3_fill 18 = .ok (.iload_n 2, 1) := by decide +kernel
theorem dX3_fill_19 : decode cX3_fill 19 = .ok (.iconst 0, 1) := by decide +kernel
theorem dX3_fill_20 : decode cX3_fill 20 = .ok (.iastore, 1) := by decide +kernel
theorem dX3_fill_21 : decode cX3_fill 21 = .ok (.iinc 2 1, 3) := by decide +kernel
theorem dX3_fill_24 : decode cX3_fill 24 = .ok (.goto (-22), 3) := by decide +kernel
theorem dX3_fill_27 : decode cX3_fill 27 = .ok (.iconst 0, 1) := by decide +kernel
theorem dX3_fill_28 : decode cX3_fill 28 = .ok (.istore_n 2, 1) := by decide +kernel
theorem dX3_fill_29 : decode cX3_fill 29 = .ok (.iload_n 2, 1) := by decide +kernel
theorem dX3_fill_30 : decode cX3_fill 30 = .ok (.aload_n 1, 1) := by decide +kernel
theorem dX3_fill_31 : decode cX3_fill 31 = .ok (.getfield 25, 3) := by decide +kernel
theorem dX3_fill_34 : decode cX3_fill 34 = .ok (.if_icmp .ge 52, 3) := by decide +kernel
theorem dX3_fill_37 : decode cX3_fill 37 = .ok (.aload_n 0, 1) := by decide +kernel
theorem dX3_fill_38 : decode cX3_fill 38 = .ok (.getfield 21, 3) := by decide +kernel
theorem dX3_fill_41 : decode cX3_fill 41 = .ok (.aload_n 1, 1) := by decide +kernel
theorem dX3_fill_42 : decode cX3_fill 42 = .ok (.iload_n 2, 1) := by decide +kernel
theorem dX3_fill_43 : decode cX3_fill 43 = .ok (.iconst (-1), 1) := by decide +kernel
theorem dX3_fill_44 : decode cX3_fill 44 = .ok (.invokevirtual 31, 3) := by decide +kernel
theorem dX3_fill_47 : decode cX3_fill 47 = .ok (.aload_n 0, 1) := by decide +kernel
theorem dX3_fill_48 : decode cX3_fill 48 = .ok (.getfield 9, 3) := by decide +kernel
theorem dX3_fill_51 : decode cX3_fill 51 = .ok (.iload_n 2, 1) := by decide +kernel
theorem dX3_fill_52 : decode cX3_fill 52 = .ok (.aload_n 1, 1) := by decide +kernel
theorem dX3_fill_53 : decode cX3_fill 53 = .ok (.iload_n 2, 1) := by decide +kernel
theorem dX3_fill_54 : decode cX3_fill 54 = .ok (.invokevirtual 37, 3) := by decide +kernel
theorem dX3_fill_57 : decode cX3_fill 57 = .ok (.iastore, 1) := by decide +kernel
theorem dX3_fill_58 : decode cX3_fill 58 = .ok (.aload_n 0, 1) := by decide +kernel
theorem dX3_fill_59 : decode cX3_fill 59 = .ok (.getfield 15, 3) := by decide +kernel
theorem dX3_fill_62 : decode cX3_fill 62 = .ok (.iload_n 2, 1) := by decide +kernel
theorem dX3_fill_63 : decode cX3_fill 63 = .ok (.aload_n 0, 1) := by decide +kernel
theorem dX3_fill_64 : decode cX3_fill 64 = .ok (.getfield 21, 3) := by decide +kernel
theorem dX3_fill_67 : decode cX3_fill 67 = .ok (.aload_n 1, 1) := by decide +kernel
theorem dX3_fill_68 : decode cX3_fill 68 = .ok (.getfield 41, 3) := by decide +kernel
theorem dX3_fill_71 : decode cX3_fill 71 = .ok (.aload_n 1, 1) := by decide +kernel
theorem dX3_fill_72 : decode cX3_fill 72 = .ok (.getfield 45, 3) := by decide +kernel
theorem dX3_fill_75 : decode cX3_fill 75 = .ok (.aaload, 1) := by decide +kernel
theorem dX3_fill_76 : decode cX3_fill 76 = .ok (.invokevirtual 48, 3) := by decide +kernel
theorem dX3_fill_79 : decode cX3_fill 79 = .ok (.iastore, 1) := by decide +kernel
theorem dX3_fill_80 : decode cX3_fill 80 = .ok (.iinc 2 1, 3) := by decide +kernel
theorem dX3_fill_83 : decode cX3_fill 83 = .ok (.goto (-54), 3) := by decide +kernel
theorem dX3_fill_86 : decode cX3_fill 86 = .ok (.aload_n 0, 1) := by decide +kernel
theorem dX3_fill_87 : decode cX3_fill 87 = .ok (.aload_n 1, 1) := by decide +kernel
theorem dX3_fill_88 : decode cX3_fill 88 = .ok (.invokevirtual 52, 3) := by decide +kernel
theorem dX3_fill_91 : decode cX3_fill 91 = .ok (.return_, 1) := by decide +kernel
theorem dX3_partPurse_0 : decode cX3_partPurse 0 = .ok (.iconst 0, 1) := by decide +kernel
theorem dX3_partPurse_1 : decode cX3_partPurse 1 = .ok (.istore_n 2, 1) := by decide +kernel
theorem dX3_partPurse_2 : decode cX3_partPurse 2 = .ok (.iconst 0, 1) := by decide +kernel
theorem dX3_partPurse_3 : decode cX3_partPurse 3 = .ok (.istore_n 3, 1) := by decide +kernel
theorem dX3_partPurse_4 : decode cX3_partPurse 4 = .ok (.iload_n 3, 1) := by decide +kernel
theorem dX3_partPurse_5 : decode cX3_partPurse 5 = .ok (.iconst 3, 1) := by decide +kernel
theorem dX3_partPurse_6 : decode cX3_partPurse 6 = .ok (.if_icmp .ge 30, 3) := by decide +kernel
theorem dX3_partPurse_9 : decode cX3_partPurse 9 = .ok (.iload_n 2, 1) := by decide +kernel
theorem dX3_partPurse_10 : decode cX3_partPurse 10 = .ok (.aload_n 0, 1) := by decide +kernel
theorem dX3_partPurse_11 : decode cX3_partPurse 11 = .ok (.getfield 15, 3) := by decide +kernel
theorem dX3_partPurse_14 : decode cX3_partPurse 14 = .ok (.iload_n 3, 1) := by decide +kernel
theorem dX3_partPurse_15 : decode cX3_partPurse 15 = .ok (.iaload, 1) := by decide +kernel
theorem dX3_partPurse_16 : decode cX3_partPurse 16 = .ok (.iadd, 1) := by decide +kernel
theorem dX3_partPurse_17 : decode cX3_partPurse 17 = .ok (.istore_n 2, 1) := by decide +kernel
theorem dX3_partPurse_18 : decode cX3_partPurse 18 = .ok (.aload_n 0, 1) := by decide +kernel
theorem dX3_partPurse_19 : decode cX3_partPurse 19 = .ok (.getfield 18, 3) := by decide +kernel
theorem dX3_partPurse_22 : decode cX3_partPurse 22 = .ok (.iload_n 3, 1) := by decide +kernel
theorem dX3_partPurse_23 : decode cX3_partPurse 23 = .ok (.aload_n 0, 1) := by decide +kernel
theorem dX3_partPurse_24 : decode cX3_partPurse 24 = .ok (.getfield 15, 3) := by decide +kernel
theorem dX3_partPurse_27 : decode cX3_partPurse 27 = .ok (.iload_n 3, 1) := by decide +kernel
theorem dX3_partPurse_28 : decode cX3_partPurse 28 = .ok (.iaload, 1) := by decide +kernel
theorem dX3_partPurse_29 : decode cX3_partPurse 29 = .ok (.iastore, 1) := by decide +kernel
theorem dX3_partPurse_30 : decode cX3_partPurse 30 = .ok (.iinc 3 1, 3) := by decide +kernel
theorem dX3_partPurse_33 : decode cX3_partPurse 33 = .ok (.goto (-29), 3) := by decide +kernel
theorem dX3_partPurse_36 : decode cX3_partPurse 36 = .ok (.aload_n 0, 1) := by decide +kernel
theorem dX3_partPurse_37 : decode cX3_partPurse 37 = .ok (.iload_n 2, 1) := by decide +kernel
theorem dX3_partPurse_38 : decode cX3_partPurse 38 = .ok (.aload_n 1, 1) := by decide +kernel
theorem dX3_partPurse_39 : decode cX3_partPurse 39 = .ok (.getfield 56, 3) := by decide +kernel
theorem dX3_partPurse_42 : decode cX3_partPurse 42 = .ok (.if_icmp .le 7, 3) := by decide +kernel
theorem dX3_partPurse_45 : decode cX3_partPurse 45 = .ok (.iconst 1, 1) := by decide +kernel
theorem dX3_partPurse_46 : decode cX3_partPurse 46 = .ok (.goto 4, 3) := by decide +kernel
theorem dX3_partPurse_49 : decode cX3_partPurse 49 = .ok (.iconst 0, 1) := by decide +kernel
theorem dX3_partPurse_50 : decode cX3_partPurse 50 = .ok (.putfield 59, 3) := by decide +kernel
theorem dX3_partPurse_53 : decode cX3_partPurse 53 = .ok (.aload_n 0, 1) := by decide +kernel
theorem dX3_partPurse_54 : decode cX3_partPurse 54 = .ok (.getfield 59, 3) := by decide +kernel
theorem dX3_partPurse_57 : decode cX3_partPurse 57 = .ok (.ifCond .ne 4, 3) := by decide +kernel
theorem dX3_partPurse_60 : decode cX3_partPurse 60 = .ok (.return_, 1) := by decide +kernel
theorem dX3_partPurse_61 : decode cX3_partPurse 61 = .ok (.aload_n 1, 1) := by decide +kernel
theorem dX3_partPurse_62 : decode cX3_partPurse 62 = .ok (.getfield 63, 3) := by decide +kernel
theorem dX3_partPurse_65 : decode cX3_partPurse 65 = .ok (.ifCond .ne 15, 3) := by decide +kernel
theorem dX3_partPurse_68 : decode cX3_partPurse 68 = .ok (.aload_n 0, 1) := by decide +kernel
theorem dX3_partPurse_69 : decode cX3_partPurse 69 = .ok (.aload_n 1, 1) := by decide +kernel
theorem dX3_partPurse_70 : decode cX3_partPurse 70 = .ok (.getfield 56, 3) := by decide +kernel
theorem dX3_partPurse_73 : decode cX3_partPurse 73 = .ok (.iload_n 2, 1) := by decide +kernel
theorem dX3_partPurse_74 : decode cX3_partPurse 74 = .ok (.invokevirtual 66, 3) := by decide +kernel
theorem dX3_partPurse_77 : decode cX3_partPurse 77 = .ok (.goto 30, 3) := by decide +kernel
theorem dX3_partPurse_80 : decode cX3_partPurse 80 = .ok (.aload_n 1, 1) := by decide +kernel
theorem dX3_partPurse_81 : decode cX3_partPurse 81 = .ok (.getfield 63, 3) := by decide +kernel
theorem dX3_partPurse_84 : decode cX3_partPurse 84 = .ok (.iconst 1, 1) := by decide +kernel
theorem dX3_partPurse_85 : decode cX3_partPurse 85 = .ok (.if_icmp .ne 14, 3) := by decide +kernel
theorem dX3_partPurse_88 : decode cX3_partPurse 88 = .ok (.aload_n 0, 1) := by decide +kernel
theorem dX3_partPurse_89 : decode cX3_partPurse 89 = .ok (.aload_n 1, 1) := by decide +kernel
theorem dX3_partPurse_90 : decode cX3_partPurse 90 = .ok (.getfield 56, 3) := by decide +kernel
theorem dX3_partPurse_93 : decode cX3_partPurse 93 = .ok (.invokevirtual 70, 3) := by decide +kernel
theorem dX3_partPurse_96 : decode cX3_partPurse 96 = .ok (.goto 11, 3) := by decide +kernel
theorem dX3_partPurse_99 : decode cX3_partPurse 99 = .ok (.aload_n 0, 1) := by decide +kernel
theorem dX3_partPurse_100 : decode cX3_partPurse 100 = .ok (.aload_n 1, 1) := by decide +kernel
theorem dX3_partPurse_101 : decode cX3_partPurse 101 = .ok (.getfield 56, 3) := by decide +kernel
theorem dX3_partPurse_104 : decode cX3_partPurse 104 = .ok (.invokevirtual 74, 3) := by decide +kernel
theorem dX3_partPurse_107 : decode cX3_partPurse 107 = .ok (.return_, 1) := by decide +kernel
theorem dX3_partByShare_0 : decode cX3_partByShare 0 = .ok (.iconst 0, 1) := by decide +kernel
theorem dX3_partByShare_1 : decode cX3_partByShare 1 = .ok (.istore_n 3, 1) := by decide +kernel
theorem dX3_partByShare_2 : decode cX3_partByShare 2 = .ok (.iload_n 3, 1) := by decide +kernel
theorem dX3_partByShare_3 : decode cX3_partByShare 3 = .ok (.iconst 3, 1) := by decide +kernel
theorem dX3_partByShare_4 : decode cX3_partByShare 4 = .ok (.if_icmp .ge 33, 3) := by decide +kernel
theorem dX3_partByShare_7 : decode cX3_partByShare 7 = .ok (.aload_n 0, 1) := by decide +kernel
theorem dX3_partByShare_8 : decode cX3_partByShare 8 = .ok (.getfield 18, 3) := by decide +kernel
theorem dX3_partByShare_11 : decode cX3_partByShare 11 = .ok (.iload_n 3, 1) := by decide +kernel
theorem dX3_partByShare_12 : decode cX3_partByShare 12 = .ok (.iload_n 2, 1) := by decide +kernel
theorem dX3_partByShare_13 : decode cX3_partByShare 13 = .ok (.ifCond .le 16, 3) := by decide +kernel
theorem dX3_partByShare_16 : decode cX3_partByShare 16 = .ok (.aload_n 0, 1) := by decide +kernel
theorem dX3_partByShare_17 : decode cX3_partByShare 17 = .ok (.getfield 15, 3) := by decide +kernel
theorem dX3_partByShare_20 : decode cX3_partByShare 20 = .ok (.iload_n 3, 1) := by decide +kernel
theorem dX3_partByShare_21 : decode cX3_partByShare 21 = .ok (.iaload, 1) := by decide +kernel
theorem dX3_partByShare_22 : decode cX3_partByShare 22 = .ok (.iload_n 1, 1) := by decide +kernel
theorem dX3_partByShare_23 : decode cX3_partByShare 23 = .ok (.imul, 1) := by decide +kernel
theorem dX3_partByShare_24 : decode cX3_partByShare 24 = .ok (.iload_n 2, 1) := by decide +kernel
theorem dX3_partByShare_25 : decode cX3_partByShare 25 = .ok (.idiv, 1) := by decide +kernel
theorem dX3_partByShare_26 : decode cX3_partByShare 26 = .ok (.goto 4, 3) := by decide +kernel
theorem dX3_partByShare_29 : decode cX3_partByShare 29 = .ok (.iconst 0, 1) := by decide +kernel
theorem dX3_partByShare_30 : decode cX3_partByShare 30 = .ok (.iastore, 1) := by decide +kernel
theorem dX3_partByShare_31 : decode cX3_partByShare 31 = .ok (.iinc 3 1, 3) := by decide +kernel
theorem dX3_partByShare_34 : decode cX3_partByShare 34 = .ok (.goto (-32), 3) := by decide +kernel
theorem dX3_partByShare_37 : decode cX3_partByShare 37 = .ok (.return_, 1) := by decide +kernel
theorem dX3_partByNumber_0 : decode cX3_partByNumber 0 = .ok (.iload_n 1, 1) := by decide +kernel
theorem dX3_partByNumber_1 : decode cX3_partByNumber 1 = .ok (.istore_n 2, 1) := by decide +kernel
theorem dX3_partByNumber_2 : decode cX3_partByNumber 2 = .ok (.iconst 0, 1) := by decide +kernel
theorem dX3_partByNumber_3 : decode cX3_partByNumber 3 = .ok (.istore_n 3, 1) := by decide +kernel
theorem dX3_partByNumber_4 : decode cX3_partByNumber 4 = .ok (.iload_n 3, 1) := by decide +kernel
theorem dX3_partByNumber_5 : decode cX3_partByNumber 5 = .ok (.iconst 3, 1) := by decide +kernel
theorem dX3_partByNumber_6 : decode cX3_partByNumber 6 = .ok (.if_icmp .ge 34, 3) := by decide +kernel
theorem dX3_partByNumber_9 : decode cX3_partByNumber 9 = .ok (.aload_n 0, 1) := by decide +kernel
theorem dX3_partByNumber_10 : decode cX3_partByNumber 10 = .ok (.getfield 18, 3) := by decide +kernel
theorem dX3_partByNumber_13 : decode cX3_partByNumber 13 = .ok (.iload_n 3, 1) := by decide +kernel
theorem dX3_partByNumber_14 : decode cX3_partByNumber 14 = .ok (.aload_n 0, 1) := by decide +kernel
theorem dX3_partByNumber_15 : decode cX3_partByNumber 15 = .ok (.getfield 15, 3) := by decide +kernel
theorem dX3_partByNumber_18 : decode cX3_partByNumber 18 = .ok (.iload_n 3, 1) := by decide +kernel
theorem dX3_partByNumber_19 : decode cX3_partByNumber 19 = .ok (.iaload, 1) := by decide +kernel
theorem dX3_partByNumber_20 : decode cX3_partByNumber 20 = .ok (.iload_n 2, 1) := by decide +kernel
theorem dX3_partByNumber_21 : decode cX3_partByNumber 21 = .ok (.invokestatic 77, 3) := by decide +kernel
theorem dX3_partByNumber_24 : decode cX3_partByNumber 24 = .ok (.iastore, 1) := by decide +kernel
theorem dX3_partByNumber_25 : decode cX3_partByNumber 25 = .ok (.iload_n 2, 1) := by decide +kernel
theorem dX3_partByNumber_26 : decode cX3_partByNumber 26 = .ok (.aload_n 0, 1) := by decide +kernel
theorem dX3_partByNumber_27 : decode cX3_partByNumber 27 = .ok (.getfield 18, 3) := by decide +kernel
theorem dX3_partByNumber_30 : decode cX3_partByNumber 30 = .ok (.iload_n 3, 1) := by decide +kernel
theorem dX3_partByNumber_31 : decode cX3_partByNumber 31 = .ok (.iaload, 1) := by decide +kernel
theorem dX3_partByNumber_32 : decode cX3_partByNumber 32 = .ok (.isub, 1) := by decide +kernel
theorem dX3_partByNumber_33 : decode cX3_partByNumber 33 = .ok (.istore_n 2, 1) := by decide +kernel
theorem dX3_partByNumber_34 : decode cX3_partByNumber 34 = .ok (.iinc 3 1, 3) := by decide +kernel
theorem dX3_partByNumber_37 : decode cX3_partByNumber 37 = .ok (.goto (-33), 3) := by decide +kernel
theorem dX3_partByNumber_40 : decode cX3_partByNumber 40 = .ok (.return_, 1) := by decide +kernel
theorem dX3_partByBound_0 : decode cX3_partByBound 0 = .ok (.iconst 0, 1) := by decide +kernel
theorem dX3_partByBound_1 : decode cX3_partByBound 1 = .ok (.istore_n 2, 1) := by decide +kernel
theorem dX3_partByBound_2 : decode cX3_partByBound 2 = .ok (.iconst 0, 1) := by decide +kernel
theorem dX3_partByBound_3 : decode cX3_partByBound 3 = .ok (.istore_n 3, 1) := by decide +kernel
theorem dX3_partByBound_4 : decode cX3_partByBound 4 = .ok (.iload_n 3, 1) := by decide +kernel
theorem dX3_partByBound_5 : decode cX3_partByBound 5 = .ok (.iconst 3, 1) := by decide +kernel
theorem dX3_partByBound_6 : decode cX3_partByBound 6 = .ok (.if_icmp .gt 98, 3) := by decide +kernel
theorem dX3_partByBound_9 : decode cX3_partByBound 9 = .ok (.iload_n 1, 1) := by decide +kernel
theorem dX3_partByBound_10 : decode cX3_partByBound 10 = .ok (.istore 4, 2) := by decide +kernel
theorem dX3_partByBound_12 : decode cX3_partByBound 12 = .ok (.iconst 0, 1) := by decide +kernel
theorem dX3_partByBound_13 : decode cX3_partByBound 13 = .ok (.istore 5, 2) := by decide +kernel
theorem dX3_partByBound_15 : decode cX3_partByBound 15 = .ok (.iconst 0, 1) := by decide +kernel
theorem dX3_partByBound_16 : decode cX3_partByBound 16 = .ok (.istore 6, 2) := by decide +kernel
theorem dX3_partByBound_18 : decode cX3_partByBound 18 = .ok (.iload 6, 2) := by decide +kernel
theorem dX3_partByBound_20 : decode cX3_partByBound 20 = .ok (.iconst 3, 1) := by decide +kernel
theorem dX3_partByBound_21 : decode cX3_partByBound 21 = .ok (.if_icmp .ge 60, 3) := by decide +kernel
theorem dX3_partByBound_24 : decode cX3_partByBound 24 = .ok (.aload_n 0, 1) := by decide +kernel
theorem dX3_partByBound_25 : decode cX3_partByBound 25 = .ok (.getfield 18, 3) := by decide +kernel
theorem dX3_partByBound_28 : decode cX3_partByBound 28 = .ok (.iload 6, 2) := by decide +kernel
theorem dX3_partByBound_30 : decode cX3_partByBound 30 = .ok (.aload_n 0, 1) := by decide +kernel
theorem dX3_partByBound_31 : decode cX3_partByBound 31 = .ok (.getfield 15, 3) := by decide +kernel
theorem dX3_partByBound_34 : decode cX3_partByBound 34 = .ok (.iload 6, 2) := by decide +kernel
theorem dX3_partByBound_36 : decode cX3_partByBound 36 = .ok (.iaload, 1) := by decide +kernel
theorem dX3_partByBound_37 : decode cX3_partByBound 37 = .ok (.iload_n 2, 1) := by decide +kernel
theorem dX3_partByBound_38 : decode cX3_partByBound 38 = .ok (.invokestatic 77, 3) := by decide +kernel
theorem dX3_partByBound_41 : decode cX3_partByBound 41 = .ok (.iastore, 1) := by decide +kernel
theorem dX3_partByBound_42 : decode cX3_partByBound 42 = .ok (.iload 4, 2) := by decide +kernel
theorem dX3_partByBound_44 : decode cX3_partByBound 44 = .ok (.aload_n 0, 1) := by decide +kernel
theorem dX3_partByBound_45 : decode cX3_partByBound 45 = .ok (.getfield 18, 3) := by decide +kernel
theorem dX3_partByBound_48 : decode cX3_partByBound 48 = .ok (.iload 6, 2) := by decide +kernel
theorem dX3_partByBound_50 : decode cX3_partByBound 50 = .ok (.iaload, 1) := by decide +kernel
theorem dX3_partByBound_51 : decode cX3_partByBound 51 = .ok (.isub, 1) := by decide +kernel
theorem dX3_partByBound_52 : decode cX3_partByBound 52 = .ok (.istore 4, 2) := by decide +kernel
theorem dX3_partByBound_54 : decode cX3_partByBound 54 = .ok (.iload 5, 2) := by decide +kernel
theorem dX3_partByBound_56 : decode cX3_partByBound 56 = .ok (.aload_n 0, 1) := by decide +kernel
theorem dX3_partByBound_57 : decode cX3_partByBound 57 = .ok (.getfield 15, 3) := by decide +kernel
theorem dX3_partByBound_60 : decode cX3_partByBound 60 = .ok (.iload 6, 2) := by decide +kernel
theorem dX3_partByBound_62 : decode cX3_partByBound 62 = .ok (.iaload, 1) := by decide +kernel
theorem dX3_partByBound_63 : decode cX3_partByBound 63 = .ok (.iload_n 2, 1) := by decide +kernel
theorem dX3_partByBound_64 : decode cX3_partByBound 64 = .ok (.if_icmp .le 7, 3) := by decide +kernel
theorem dX3_partByBound_67 : decode cX3_partByBound 67 = .ok (.iconst 1, 1) := by decide +kernel
theorem dX3_partByBound_68 : decode cX3_partByBound 68 = .ok (.goto 4, 3) := by decide +kernel
theorem dX3_partByBound_71 : decode cX3_partByBound 71 = .ok (.iconst 0, 1) := by decide +kernel
theorem dX3_partByBound_72 : decode cX3_partByBound 72 = .ok (.iadd, 1) := by decide +kernel
theorem dX3_partByBound_73 : decode cX3_partByBound 73 = .ok (.istore 5, 2) := by decide +kernel
theorem dX3_partByBound_75 : decode cX3_partByBound 75 = .ok (.iinc 6 1, 3) := by decide +kernel
theorem dX3_partByBound_78 : decode cX3_partByBound 78 = .ok (.goto (-60), 3) := by decide +kernel
theorem dX3_partByBound_81 : decode cX3_partByBound 81 = .ok (.iload_n 2, 1) := by decide +kernel
theorem dX3_partByBound_82 : decode cX3_partByBound 82 = .ok (.iload 5, 2) := by decide +kernel
theorem dX3_partByBound_84 : decode cX3_partByBound 84 = .ok (.ifCond .le 11, 3) := by decide +kernel
theorem dX3_partByBound_87 : decode cX3_partByBound 87 = .ok (.iload 4, 2) := by decide +kernel
theorem dX3_partByBound_89 : decode cX3_partByBound 89 = .ok (.iload 5, 2) := by decide +kernel
theorem dX3_partByBound_91 : decode cX3_partByBound 91 = .ok (.idiv, 1) := by decide +kernel
theorem dX3_partByBound_92 : decode cX3_partByBound 92 = .ok (.goto 4, 3) := by decide +kernel
theorem dX3_partByBound_95 : decode cX3_partByBound 95 = .ok (.iconst 0, 1) := by decide +kernel
theorem dX3_partByBound_96 : decode cX3_partByBound 96 = .ok (.iadd, 1) := by decide +kernel
theorem dX3_partByBound_97 : decode cX3_partByBound 97 = .ok (.istore_n 2, 1) := by decide +kernel
theorem dX3_partByBound_98 : decode cX3_partByBound 98 = .ok (.iinc 3 1, 3) := by decide +kernel
theorem dX3_partByBound_101 : decode cX3_partByBound 101 = .ok (.goto (-97), 3) := by decide +kernel
theorem dX3_partByBound_104 : decode cX3_partByBound 104 = .ok (.return_, 1) := by decide +kernel
theorem dX3_haveOf_0 : decode cX3_haveOf 0 = .ok (.aload_n 1, 1) := by decide +kernel
theorem dX3_haveOf_1 : decode cX3_haveOf 1 = .ok (.getfield 83, 3) := by decide +kernel
theorem dX3_haveOf_4 : decode cX3_haveOf 4 = .ok (.iload_n 3, 1) := by decide +kernel
theorem dX3_haveOf_5 : decode cX3_haveOf 5 = .ok (.imul, 1) := by decide +kernel
theorem dX3_haveOf_6 : decode cX3_haveOf 6 = .ok (.istore 4, 2) := by decide +kernel
theorem dX3_haveOf_8 : decode cX3_haveOf 8 = .ok (.iconst 0, 1) := by decide +kernel
theorem dX3_haveOf_9 : decode cX3_haveOf 9 = .ok (.istore 5, 2) := by decide +kernel
theorem dX3_haveOf_11 : decode cX3_haveOf 11 = .ok (.iload 5, 2) := by decide +kernel
theorem dX3_haveOf_13 : decode cX3_haveOf 13 = .ok (.iconst 3, 1) := by decide +kernel
theorem dX3_haveOf_14 : decode cX3_haveOf 14 = .ok (.if_icmp .ge 36, 3) := by decide +kernel
theorem dX3_haveOf_17 : decode cX3_haveOf 17 = .ok (.iload 4, 2) := by decide +kernel
theorem dX3_haveOf_19 : decode cX3_haveOf 19 = .ok (.aload_n 1, 1) := by decide +kernel
theorem dX3_haveOf_20 : decode cX3_haveOf 20 = .ok (.iload_n 2, 1) := by decide +kernel
theorem dX3_haveOf_21 : decode cX3_haveOf 21 = .ok (.iload 5, 2) := by decide +kernel
theorem dX3_haveOf_23 : decode cX3_haveOf 23 = .ok (.aload_n 0, 1) := by decide +kernel
theorem dX3_haveOf_24 : decode cX3_haveOf 24 = .ok (.getfield 9, 3) := by decide +kernel
theorem dX3_haveOf_27 : decode cX3_haveOf 27 = .ok (.iload 5, 2) := by decide +kernel
theorem dX3_haveOf_29 : decode cX3_haveOf 29 = .ok (.iaload, 1) := by decide +kernel
theorem dX3_haveOf_30 : decode cX3_haveOf 30 = .ok (.aload_n 0, 1) := by decide +kernel
theorem dX3_haveOf_31 : decode cX3_haveOf 31 = .ok (.getfield 18, 3) := by decide +kernel
theorem dX3_haveOf_34 : decode cX3_haveOf 34 = .ok (.iload 5, 2) := by decide +kernel
theorem dX3_haveOf_36 : decode cX3_haveOf 36 = .ok (.iaload, 1) := by decide +kernel
theorem dX3_haveOf_37 : decode cX3_haveOf 37 = .ok (.iadd, 1) := by decide +kernel
theorem dX3_haveOf_38 : decode cX3_haveOf 38 = .ok (.invokevirtual 86, 3) := by decide +kernel
theorem dX3_haveOf_41 : decode cX3_haveOf 41 = .ok (.iadd, 1) := by decide +kernel
theorem dX3_haveOf_42 : decode cX3_haveOf 42 = .ok (.istore 4, 2) := by decide +kernel
theorem dX3_haveOf_44 : decode cX3_haveOf 44 = .ok (.iinc 5 1, 3) := by decide +kernel
theorem dX3_haveOf_47 : decode cX3_haveOf 47 = .ok (.goto (-36), 3) := by decide +kernel
theorem dX3_haveOf_50 : decode cX3_haveOf 50 = .ok (.iload 4, 2) := by decide +kernel
theorem dX3_haveOf_52 : decode cX3_haveOf 52 = .ok (.ireturn, 1) := by decide +kernel
theorem dX3_allHave_0 : decode cX3_allHave 0 = .ok (.iconst 0, 1) := by decide +kernel
theorem dX3_allHave_1 : decode cX3_allHave 1 = .ok (.istore_n 2, 1) := by decide +kernel
theorem dX3_allHave_2 : decode cX3_allHave 2 = .ok (.iconst 0, 1) := by decide +kernel
theorem dX3_allHave_3 : decode cX3_allHave 3 = .ok (.istore_n 3, 1) := by decide +kernel
theorem dX3_allHave_4 : decode cX3_allHave 4 = .ok (.iload_n 3, 1) := by decide +kernel
theorem dX3_allHave_5 : decode cX3_allHave 5 = .ok (.aload_n 1, 1) := by decide +kernel
theorem dX3_allHave_6 : decode cX3_allHave 6 = .ok (.getfield 90, 3) := by decide +kernel
theorem dX3_allHave_9 : decode cX3_allHave 9 = .ok (.if_icmp .ge 23, 3) := by decide +kernel
theorem dX3_allHave_12 : decode cX3_allHave 12 = .ok (.iload_n 2, 1) := by decide +kernel
theorem dX3_allHave_13 : decode cX3_allHave 13 = .ok (.aload_n 0, 1) := by decide +kernel
theorem dX3_allHave_14 : decode cX3_allHave 14 = .ok (.aload_n 1, 1) := by decide +kernel
theorem dX3_allHave_15 : decode cX3_allHave 15 = .ok (.iload_n 3, 1) := by decide +kernel
theorem dX3_allHave_16 : decode cX3_allHave 16 = .ok (.aload_n 1, 1) := by decide +kernel
theorem dX3_allHave_17 : decode cX3_allHave 17 = .ok (.iload_n 3, 1) := by decide +kernel
theorem dX3_allHave_18 : decode cX3_allHave 18 = .ok (.invokevirtual 93, 3) := by decide +kernel
theorem dX3_allHave_21 : decode cX3_allHave 21 = .ok (.invokevirtual 96, 3) := by decide +kernel
theorem dX3_allHave_24 : decode cX3_allHave 24 = .ok (.iadd, 1) := by decide +kernel
theorem dX3_allHave_25 : decode cX3_allHave 25 = .ok (.istore_n 2, 1) := by decide +kernel
theorem dX3_allHave_26 : decode cX3_allHave 26 = .ok (.iinc 3 1, 3) := by decide +kernel
theorem dX3_allHave_29 : decode cX3_allHave 29 = .ok (.goto (-25), 3) := by decide +kernel
theorem dX3_allHave_32 : decode cX3_allHave 32 = .ok (.iload_n 2, 1) := by decide +kernel
theorem dX3_allHave_33 : decode cX3_allHave 33 = .ok (.ireturn, 1) := by decide +kernel
theorem dX0_init_0 : decode cX0_init 0 = .ok (.aload_n 0, 1) := by decide +kernel
theorem dX0_init_1 : decode cX0_init 1 = .ok (.invokespecial 3, 3) := by decide +kernel
theorem dX0_init_4 : decode cX0_init 4 = .ok (.aload_n 0, 1) := by decide +kernel
theorem dX0_init_5 : decode cX0_init 5 = .ok (.bipush 39, 2) := by decide +kernel
theorem dX0_init_7 : decode cX0_init 7 = .ok (.newarray .int, 2) := by decide +kernel
theorem dX0_init_9 : decode cX0_init 9 = .ok (.putfield 9, 3) := by decide +kernel
theorem dX0_init_12 : decode cX0_init 12 = .ok (.aload_n 0, 1) := by decide +kernel
theorem dX0_init_13 : decode cX0_init 13 = .ok (.iconst 3, 1) := by decide +kernel
theorem dX0_init_14 : decode cX0_init 14 = .ok (.newarray .int, 2) := by decide +kernel
theorem dX0_init_16 : decode cX0_init 16 = .ok (.putfield 15, 3) := by decide +kernel
theorem dX0_init_19 : decode cX0_init 19 = .ok (.aload_n 0, 1) := by decide +kernel
theorem dX0_init_20 : decode cX0_init 20 = .ok (.iconst 3, 1) := by decide +kernel
theorem dX0_init_21 : decode cX0_init 21 = .ok (.newarray .int, 2) := by decide +kernel
theorem dX0_init_23 : decode cX0_init 23 = .ok (.putfield 18, 3) := by decide +kernel
theorem dX0_init_26 : decode cX0_init 26 = .ok (.aload_n 0, 1) := by decide +kernel
theorem dX0_init_27 : decode cX0_init 27 = .ok (.aload_n 1, 1) := by decide +kernel
theorem dX0_init_28 : decode cX0_init 28 = .ok (.putfield 21, 3) := by decide +kernel
theorem dX0_init_31 : decode cX0_init 31 = .ok (.return_, 1) := by decide +kernel
theorem dX0_choose_0 : decode cX0_choose 0 = .ok (.aload_n 0, 1) := by decide +kernel
theorem dX0_choose_1 : decode cX0_choose 1 = .ok (.getfield 21, 3) := by decide +kernel
theorem dX0_choose_4 : decode cX0_choose 4 = .ok (.aload_n 1, 1) := by decide +kernel
theorem dX0_choose_5 : decode cX0_choose 5 = .ok (.invokevirtual 25, 3) := by decide +kernel
theorem dX0_choose_8 : decode cX0_choose 8 = .ok (.aload_n 0, 1) := by decide +kernel
theorem dX0_choose_9 : decode cX0_choose 9 = .ok (.aload_n 0, 1) := by decide +kernel
theorem dX0_choose_10 : decode cX0_choose 10 = .ok (.getfield 21, 3) := by decide +kernel
theorem dX0_choose_13 : decode cX0_choose 13 = .ok (.aload_n 1, 1) := by decide +kernel
theorem dX0_choose_14 : decode cX0_choose 14 = .ok (.iload_n 2, 1) := by decide +kernel
theorem dX0_choose_15 : decode cX0_choose 15 = .ok (.aload_n 1, 1) := by decide +kernel
theorem dX0_choose_16 : decode cX0_choose 16 = .ok (.iload_n 2, 1) := by decide +kernel
theorem dX0_choose_17 : decode cX0_choose 17 = .ok (.invokevirtual 31, 3) := by decide +kernel
theorem dX0_choose_20 : decode cX0_choose 20 = .ok (.invokevirtual 37, 3) := by decide +kernel
theorem dX0_choose_23 : decode cX0_choose 23 = .ok (.putfield 41, 3) := by decide +kernel
theorem dX0_choose_26 : decode cX0_choose 26 = .ok (.aload_n 0, 1) := by decide +kernel
theorem dX0_choose_27 : decode cX0_choose 27 = .ok (.aload_n 1, 1) := by decide +kernel
theorem dX0_choose_28 : decode cX0_choose 28 = .ok (.iload_n 2, 1) := by decide +kernel
theorem dX0_choose_29 : decode cX0_choose 29 = .ok (.invokevirtual 45, 3) := by decide +kernel
theorem dX0_choose_32 : decode cX0_choose 32 = .ok (.aload_n 0, 1) := by decide +kernel
theorem dX0_choose_33 : decode cX0_choose 33 = .ok (.iconst (-1), 1) := by decide +kernel
theorem dX0_choose_34 : decode cX0_choose 34 = .ok (.putfield 49, 3) := by decide +kernel
theorem dX0_choose_37 : decode cX0_choose 37 = .ok (.aload_n 1, 1) := by decide +kernel
theorem dX0_choose_38 : decode cX0_choose 38 = .ok (.getfield 52, 3) := by decide +kernel
theorem dX0_choose_41 : decode cX0_choose 41 = .ok (.iload_n 2, 1) := by decide +kernel
theorem dX0_choose_42 : decode cX0_choose 42 = .ok (.iaload, 1) := by decide +kernel
theorem dX0_choose_43 : decode cX0_choose 43 = .ok (.istore_n 3, 1) := by decide +kernel
theorem dX0_choose_44 : decode cX0_choose 44 = .ok (.aload_n 1, 1) := by decide +kernel
theorem dX0_choose_45 : decode cX0_choose 45 = .ok (.getfield 55, 3) := by decide +kernel
theorem dX0_choose_48 : decode cX0_choose 48 = .ok (.ifCond .le 7, 3) := by decide +kernel
theorem dX0_choose_51 : decode cX0_choose 51 = .ok (.iload_n 3, 1) := by decide +kernel
theorem dX0_choose_52 : decode cX0_choose 52 = .ok (.goto 4, 3) := by decide +kernel
theorem dX0_choose_55 : decode cX0_choose 55 = .ok (.iconst 0, 1) := by decide +kernel
theorem dX0_choose_56 : decode cX0_choose 56 = .ok (.istore 4, 2) := by decide +kernel
theorem dX0_choose_58 : decode cX0_choose 58 = .ok (.iconst 0, 1) := by decide +kernel
theorem dX0_choose_59 : decode cX0_choose 59 = .ok (.istore 5, 2) := by decide +kernel
theorem dX0_choose_61 : decode cX0_choose 61 = .ok (.iload 5, 2) := by decide +kernel
theorem dX0_choose_63 : decode cX0_choose 63 = .ok (.iload 4, 2) := by decide +kernel
theorem dX0_choose_65 : decode cX0_choose 65 = .ok (.if_icmp .gt 92, 3) := by decide +kernel
theorem dX0_choose_68 : decode cX0_choose 68 = .ok (.aload_n 1, 1) := by decide +kernel
theorem dX0_choose_69 : decode cX0_choose 69 = .ok (.getfield 55, 3) := by decide +kernel
theorem dX0_choose_72 : decode cX0_choose 72 = .ok (.iconst 1, 1) := by decide +kernel
theorem dX0_choose_73 : decode cX0_choose 73 = .ok (.if_icmp .le 10, 3) := by decide +kernel
theorem dX0_choose_76 : decode cX0_choose 76 = .ok (.iload_n 3, 1) := by decide +kernel
theorem dX0_choose_77 : decode cX0_choose 77 = .ok (.iload 5, 2) := by decide +kernel
theorem dX0_choose_79 : decode cX0_choose 79 = .ok (.isub, 1) := by decide +kernel
theorem dX0_choose_80 : decode cX0_choose 80 = .ok (.goto 4, 3) := by decide +kernel
theorem dX0_choose_83 : decode cX0_choose 83 = .ok (.iconst 0, 1) := by decide +kernel
theorem dX0_choose_84 : decode cX0_choose 84 = .ok (.istore 6, 2) := by decide +kernel
theorem dX0_choose_86 : decode cX0_choose 86 = .ok (.iconst 0, 1) := by decide +kernel
theorem dX0_choose_87 : decode cX0_choose 87 = .ok (.istore 7, 2) := by decide +kernel
theorem dX0_choose_89 : decode cX0_choose 89 = .ok (.iload 7, 2) := by decide +kernel
theorem dX0_choose_91 : decode cX0_choose 91 = .ok (.iload 6, 2) := by decide +kernel
theorem dX0_choose_93 : decode cX0_choose 93 = .ok (.if_icmp .gt 58, 3) := by decide +kernel
theorem dX0_choose_96 : decode cX0_choose 96 = .ok (.aload_n 1, 1) := by decide +kernel
theorem dX0_choose_97 : decode cX0_choose 97 = .ok (.getfield 55, 3) := by decide +kernel
theorem dX0_choose_100 : decode cX0_choose 100 = .ok (.iconst 2, 1) := by decide +kernel
theorem dX0_choose_101 : decode cX0_choose 101 = .ok (.if_icmp .le 13, 3) := by decide +kernel
theorem dX0_choose_104 : decode cX0_choose 104 = .ok (.iload_n 3, 1) := by decide +kernel
theorem dX0_choose_105 : decode cX0_choose 105 = .ok (.iload 5, 2) := by decide +kernel
theorem dX0_choose_107 : decode cX0_choose 107 = .ok (.isub, 1) := by decide +kernel
theorem dX0_choose_108 : decode cX0_choose 108 = .ok (.iload 7, 2) := by decide +kernel
theorem dX0_choose_110 : decode cX0_choose 110 = .ok (.isub, 1) := by decide +kernel
theorem dX0_choose_111 : decode cX0_choose 111 = .ok (.goto 4, 3) := by decide +kernel
theorem dX0_choose_114 : decode cX0_choose 114 = .ok (.iconst 0, 1) := by decide +kernel
theorem dX0_choose_115 : decode cX0_choose 115 = .ok (.istore 8, 2) := by decide +kernel
theorem dX0_choose_117 : decode cX0_choose 117 = .ok (.iconst 0, 1) := by decide +kernel
theorem dX0_choose_118 : decode cX0_choose 118 = .ok (.istore 9, 2) := by decide +kernel
theorem dX0_choose_120 : decode cX0_choose 120 = .ok (.iload 9, 2) := by decide +kernel
theorem dX0_choose_122 : decode cX0_choose 122 = .ok (.iload 8, 2) := by decide +kernel
theorem dX0_choose_124 : decode cX0_choose 124 = .ok (.if_icmp .gt 21, 3) := by decide +kernel
theorem dX0_choose_127 : decode cX0_choose 127 = .ok (.aload_n 0, 1) := by decide +kernel
theorem dX0_choose_128 : decode cX0_choose 128 = .ok (.aload_n 1, 1) := by decide +kernel
theorem dX0_choose_129 : decode cX0_choose 129 = .ok (.iload_n 2, 1) := by decide +kernel
theorem dX0_choose_130 : decode cX0_choose 130 = .ok (.iload 5, 2) := by decide +kernel
theorem dX0_choose_132 : decode cX0_choose 132 = .ok (.iload 7, 2) := by decide +kernel
theorem dX0_choose_134 : decode cX0_choose 134 = .ok (.iload 9, 2) := by decide +kernel
theorem dX0_choose_136 : decode cX0_choose 136 = .ok (.invokevirtual 58, 3) := by decide +kernel
theorem dX0_choose_139 : decode cX0_choose 139 = .ok (.iinc 9 1, 3) := by decide +kernel
theorem dX0_choose_142 : decode cX0_choose 142 = .ok (.goto (-22), 3) := by decide +kernel
theorem dX0_choose_145 : decode cX0_choose 145 = .ok (.iinc 7 1, 3) := by decide +kernel
theorem dX0_choose_148 : decode cX0_choose 148 = .ok (.goto (-59), 3) := by decide +kernel
theorem dX0_choose_151 : decode cX0_choose 151 = .ok (.iinc 5 1, 3) := by decide +kernel
theorem dX0_choose_154 : decode cX0_choose 154 = .ok (.goto (-93), 3) := by decide +kernel
theorem dX0_choose_157 : decode cX0_choose 157 = .ok (.return_, 1) := by decide +kernel
theorem dX0_foresee_0 : decode cX0_foresee 0 = .ok (.iconst 0, 1) := by decide +kernel
theorem dX0_foresee_1 : decode cX0_foresee 1 = .ok (.istore_n 3, 1) := by decide +kernel
theorem dX0_foresee_2 : decode cX0_foresee 2 = .ok (.iload_n 3, 1) := by decide +kernel
theorem dX0_foresee_3 : decode cX0_foresee 3 = .ok (.iconst 3, 1) := by decide +kernel
theorem dX0_foresee_4 : decode cX0_foresee 4 = .ok (.if_icmp .ge 45, 3) := by decide +kernel
theorem dX0_foresee_7 : decode cX0_foresee 7 = .ok (.aload_n 0, 1) := by decide +kernel
theorem dX0_foresee_8 : decode cX0_foresee 8 = .ok (.getfield 15, 3) := by decide +kernel
theorem dX0_foresee_11 : decode cX0_foresee 11 = .ok (.iload_n 3, 1) := by decide +kernel
theorem dX0_foresee_12 : decode cX0_foresee 12 = .ok (.aload_n 0, 1) := by decide +kernel
theorem dX0_foresee_13 : decode cX0_foresee 13 = .ok (.getfield 21, 3) := by decide +kernel
theorem dX0_foresee_16 : decode cX0_foresee 16 = .ok (.getfield 62, 3) := by decide +kernel
theorem dX0_foresee_19 : decode cX0_foresee 19 = .ok (.iload_n 3, 1) := by decide +kernel
theorem dX0_foresee_20 : decode cX0_foresee 20 = .ok (.iaload, 1) := by decide +kernel
theorem dX0_foresee_21 : decode cX0_foresee 21 = .ok (.aload_n 1, 1) := by decide +kernel
theorem dX0_foresee_22 : decode cX0_foresee 22 = .ok (.getfield 65, 3) := by decide +kernel
theorem dX0_foresee_25 : decode cX0_foresee 25 = .ok (.iload_n 2, 1) := by decide +kernel
theorem dX0_foresee_26 : decode cX0_foresee 26 = .ok (.iconst 3, 1) := by decide +kernel
theorem dX0_foresee_27 : decode cX0_foresee 27 = .ok (.imul, 1) := by decide +kernel
theorem dX0_foresee_28 : decode cX0_foresee 28 = .ok (.iload_n 3, 1) := by decide +kernel
theorem dX0_foresee_29 : decode cX0_foresee 29 = .ok (.iadd, 1) := by decide +kernel
theorem dX0_foresee_30 : decode cX0_foresee 30 = .ok (.iaload, 1) := by decide +kernel
theorem dX0_foresee_31 : decode cX0_foresee 31 = .ok (.isub, 1) := by decide +kernel
theorem dX0_foresee_32 : decode cX0_foresee 32 = .ok (.iastore, 1) := by decide +kernel
theorem dX0_foresee_33 : decode cX0_foresee 33 = .ok (.aload_n 0, 1) := by decide +kernel
theorem dX0_foresee_34 : decode cX0_foresee 34 = .ok (.getfield 9, 3) := by decide +kernel
theorem dX0_foresee_37 : decode cX0_foresee 37 = .ok (.iload_n 3, 1) := by decide +kernel
theorem dX0_foresee_38 : decode cX0_foresee 38 = .ok (.bipush 13, 2) := by decide +kernel
theorem dX0_foresee_40 : decode cX0_foresee 40 = .ok (.imul, 1) := by decide +kernel
theorem dX0_foresee_41 : decode cX0_foresee 41 = .ok (.iconst 0, 1) := by decide +kernel
theorem dX0_foresee_42 : decode cX0_foresee 42 = .ok (.iastore, 1) := by decide +kernel
theorem dX0_foresee_43 : decode cX0_foresee 43 = .ok (.iinc 3 1, 3) := by decide +kernel
theorem dX0_foresee_46 : decode cX0_foresee 46 = .ok (.goto (-44), 3) := by decide +kernel
theorem dX0_foresee_49 : decode cX0_foresee 49 = .ok (.aload_n 0, 1) := by decide +kernel
theorem dX0_foresee_50 : decode cX0_foresee 50 = .ok (.getfield 21, 3) := by decide +kernel
theorem dX0_foresee_53 : decode cX0_foresee 53 = .ok (.getfield 68, 3) := by decide +kernel
theorem dX0_foresee_56 : decode cX0_foresee 56 = .ok (.astore_n 3, 1) := by decide +kernel
theorem dX0_foresee_57 : decode cX0_foresee 57 = .ok (.iconst 0, 1) := by decide +kernel
theorem dX0_foresee_58 : decode cX0_foresee 58 = .ok (.istore 4, 2) := by decide +kernel
theorem dX0_foresee_60 : decode cX0_foresee 60 = .ok (.iload 4, 2) := by decide +kernel
theorem dX0_foresee_62 : decode cX0_foresee 62 = .ok (.aload_n 1, 1) := by decide +kernel
theorem dX0_foresee_63 : decode cX0_foresee 63 = .ok (.getfield 55, 3) := by decide +kernel
theorem dX0_foresee_66 : decode cX0_foresee 66 = .ok (.if_icmp .ge 69, 3) := by decide +kernel
theorem dX0_foresee_69 : decode cX0_foresee 69 = .ok (.iconst 0, 1) := by decide +kernel
theorem dX0_foresee_70 : decode cX0_foresee 70 = .ok (.istore 5, 2) := by decide +kernel
theorem dX0_foresee_72 : decode cX0_foresee 72 = .ok (.iload 5, 2) := by decide +kernel
theorem dX0_foresee_74 : decode cX0_foresee 74 = .ok (.aload_n 1, 1) := by decide +kernel
theorem dX0_foresee_75 : decode cX0_foresee 75 = .ok (.getfield 52, 3) := by decide +kernel
theorem dX0_foresee_78 : decode cX0_foresee 78 = .ok (.iload_n 2, 1) := by decide +kernel
theorem dX0_foresee_79 : decode cX0_foresee 79 = .ok (.iaload, 1) := by decide +kernel
theorem dX0_foresee_80 : decode cX0_foresee 80 = .ok (.if_icmp .gt 49, 3) := by decide +kernel
theorem dX0_foresee_83 : decode cX0_foresee 83 = .ok (.aload_n 3, 1) := by decide +kernel
theorem dX0_foresee_84 : decode cX0_foresee 84 = .ok (.aload_n 1, 1) := by decide +kernel
theorem dX0_foresee_85 : decode cX0_foresee 85 = .ok (.iload 4, 2) := by decide +kernel
theorem dX0_foresee_87 : decode cX0_foresee 87 = .ok (.iload_n 2, 1) := by decide +kernel
theorem dX0_foresee_88 : decode cX0_foresee 88 = .ok (.invokevirtual 72, 3) := by decide +kernel
theorem dX0_foresee_91 : decode cX0_foresee 91 = .ok (.aload_n 3, 1) := by decide +kernel
theorem dX0_foresee_92 : decode cX0_foresee 92 = .ok (.iload 5, 2) := by decide +kernel
theorem dX0_foresee_94 : decode cX0_foresee 94 = .ok (.invokevirtual 78, 3) := by decide +kernel
theorem dX0_foresee_97 : decode cX0_foresee 97 = .ok (.aload_n 0, 1) := by decide +kernel
theorem dX0_foresee_98 : decode cX0_foresee 98 = .ok (.getfield 9, 3) := by decide +kernel
theorem dX0_foresee_101 : decode cX0_foresee 101 = .ok (.iload 4, 2) := by decide +kernel
theorem dX0_foresee_103 : decode cX0_foresee 103 = .ok (.bipush 13, 2) := by decide +kernel
theorem dX0_foresee_105 : decode cX0_foresee 105 = .ok (.imul, 1) := by decide +kernel
theorem dX0_foresee_106 : decode cX0_foresee 106 = .ok (.iload 5, 2) := by decide +kernel
theorem dX0_foresee_108 : decode cX0_foresee 108 = .ok (.iadd, 1) := by decide +kernel
theorem dX0_foresee_109 : decode cX0_foresee 109 = .ok (.aload_n 3, 1) := by decide +kernel
theorem dX0_foresee_110 : decode cX0_foresee 110 = .ok (.aload_n 1, 1) := by decide +kernel
theorem dX0_foresee_111 : decode cX0_foresee 111 = .ok (.getfield 82, 3) := by decide +kernel
theorem dX0_foresee_114 : decode cX0_foresee 114 = .ok (.aload_n 1, 1) := by decide +kernel
theorem dX0_foresee_115 : decode cX0_foresee 115 = .ok (.getfield 86, 3) := by decide +kernel
theorem dX0_foresee_118 : decode cX0_foresee 118 = .ok (.aaload, 1) := by decide +kernel
theorem dX0_foresee_119 : decode cX0_foresee 119 = .ok (.invokevirtual 89, 3) := by decide +kernel
theorem dX0_foresee_122 : decode cX0_foresee 122 = .ok (.iastore, 1) := by decide +kernel
theorem dX0_foresee_123 : decode cX0_foresee 123 = .ok (.iinc 5 1, 3) := by decide +kernel
theorem dX0_foresee_126 : decode cX0_foresee 126 = .ok (.goto (-54), 3) := by decide +kernel
theorem dX0_foresee_129 : decode cX0_foresee 129 = .ok (.iinc 4 1, 3) := by decide +kernel
theorem dX0_foresee_132 : decode cX0_foresee 132 = .ok (.goto (-72), 3) := by decide +kernel
theorem dX0_foresee_135 : decode cX0_foresee 135 = .ok (.return_, 1) := by decide +kernel
theorem dX0_weigh_0 : decode cX0_weigh 0 = .ok (.aload_n 0, 1) := by decide +kernel
theorem dX0_weigh_1 : decode cX0_weigh 1 = .ok (.iconst 0, 1) := by decide +kernel
theorem dX0_weigh_2 : decode cX0_weigh 2 = .ok (.iload_n 3, 1) := by decide +kernel
theorem dX0_weigh_3 : decode cX0_weigh 3 = .ok (.invokevirtual 93, 3) := by decide +kernel
theorem dX0_weigh_6 : decode cX0_weigh 6 = .ok (.aload_n 0, 1) := by decide +kernel
theorem dX0_weigh_7 : decode cX0_weigh 7 = .ok (.iconst 1, 1) := by decide +kernel
theorem dX0_weigh_8 : decode cX0_weigh 8 = .ok (.iload 4, 2) := by decide +kernel
theorem dX0_weigh_10 : decode cX0_weigh 10 = .ok (.invokevirtual 93, 3) := by decide +kernel
theorem dX0_weigh_13 : decode cX0_weigh 13 = .ok (.aload_n 0, 1) := by decide +kernel
theorem dX0_weigh_14 : decode cX0_weigh 14 = .ok (.iconst 2, 1) := by decide +kernel
theorem dX0_weigh_15 : decode cX0_weigh 15 = .ok (.iload 5, 2) := by decide +kernel
theorem dX0_weigh_17 : decode cX0_weigh 17 = .ok (.invokevirtual 93, 3) := by decide +kernel
theorem dX0_weigh_20 : decode cX0_weigh 20 = .ok (.aload_n 0, 1) := by decide +kernel
theorem dX0_weigh_21 : decode cX0_weigh 21 = .ok (.getfield 21, 3) := by decide +kernel
theorem dX0_weigh_24 : decode cX0_weigh 24 = .ok (.aload_n 1, 1) := by decide +kernel
theorem dX0_weigh_25 : decode cX0_weigh 25 = .ok (.invokevirtual 97, 3) := by decide +kernel
theorem dX0_weigh_28 : decode cX0_weigh 28 = .ok (.aload_n 0, 1) := by decide +kernel
theorem dX0_weigh_29 : decode cX0_weigh 29 = .ok (.getfield 21, 3) := by decide +kernel
theorem dX0_weigh_32 : decode cX0_weigh 32 = .ok (.aload_n 1, 1) := by decide +kernel
theorem dX0_weigh_33 : decode cX0_weigh 33 = .ok (.iload_n 2, 1) := by decide +kernel
theorem dX0_weigh_34 : decode cX0_weigh 34 = .ok (.aload_n 1, 1) := by decide +kernel
theorem dX0_weigh_35 : decode cX0_weigh 35 = .ok (.getfield 52, 3) := by decide +kernel
theorem dX0_weigh_38 : decode cX0_weigh 38 = .ok (.iload_n 2, 1) := by decide +kernel
theorem dX0_weigh_39 : decode cX0_weigh 39 = .ok (.iaload, 1) := by decide +kernel
theorem dX0_weigh_40 : decode cX0_weigh 40 = .ok (.iload_n 3, 1) := by decide +kernel
theorem dX0_weigh_41 : decode cX0_weigh 41 = .ok (.isub, 1) := by decide +kernel
theorem dX0_weigh_42 : decode cX0_weigh 42 = .ok (.iload 4, 2) := by decide +kernel
theorem dX0_weigh_44 : decode cX0_weigh 44 = .ok (.isub, 1) := by decide +kernel
theorem dX0_weigh_45 : decode cX0_weigh 45 = .ok (.iload 5, 2) := by decide +kernel
theorem dX0_weigh_47 : decode cX0_weigh 47 = .ok (.isub, 1) := by decide +kernel
theorem dX0_weigh_48 : decode cX0_weigh 48 = .ok (.invokevirtual 37, 3) := by decide +kernel
theorem dX0_weigh_51 : decode cX0_weigh 51 = .ok (.istore 6, 2) := by decide +kernel
theorem dX0_weigh_53 : decode cX0_weigh 53 = .ok (.iload 6, 2) := by decide +kernel
theorem dX0_weigh_55 : decode cX0_weigh 55 = .ok (.aload_n 0, 1) := by decide +kernel
theorem dX0_weigh_56 : decode cX0_weigh 56 = .ok (.getfield 49, 3) := by decide +kernel
theorem dX0_weigh_59 : decode cX0_weigh 59 = .ok (.if_icmp .le 32, 3) := by decide +kernel
theorem dX0_weigh_62 : decode cX0_weigh 62 = .ok (.aload_n 0, 1) := by decide +kernel
theorem dX0_weigh_63 : decode cX0_weigh 63 = .ok (.iload 6, 2) := by decide +kernel
theorem dX0_weigh_65 : decode cX0_weigh 65 = .ok (.putfield 49, 3) := by decide +kernel
theorem dX0_weigh_68 : decode cX0_weigh 68 = .ok (.aload_n 0, 1) := by decide +kernel
theorem dX0_weigh_69 : decode cX0_weigh 69 = .ok (.getfield 18, 3) := by decide +kernel
theorem dX0_weigh_72 : decode cX0_weigh 72 = .ok (.iconst 0, 1) := by decide +kernel
theorem dX0_weigh_73 : decode cX0_weigh 73 = .ok (.iload_n 3, 1) := by decide +kernel
theorem dX0_weigh_74 : decode cX0_weigh 74 = .ok (.iastore, 1) := by decide +kernel
theorem dX0_weigh_75 : decode cX0_weigh 75 = .ok (.aload_n 0, 1) := by decide +kernel
theorem dX0_weigh_76 : decode cX0_weigh 76 = .ok (.getfield 18, 3) := by decide +kernel
theorem dX0_weigh_79 : decode cX0_weigh 79 = .ok (.iconst 1, 1) := by decide +kernel
theorem dX0_weigh_80 : decode cX0_weigh 80 = .ok (.iload 4, 2) := by decide +kernel
theorem dX0_weigh_82 : decode cX0_weigh 82 = .ok (.iastore, 1) := by decide +kernel
theorem dX0_weigh_83 : decode cX0_weigh 83 = .ok (.aload_n 0, 1) := by decide +kernel
theorem dX0_weigh_84 : decode cX0_weigh 84 = .ok (.getfield 18, 3) := by decide +kernel
theorem dX0_weigh_87 : decode cX0_weigh 87 = .ok (.iconst 2, 1) := by decide +kernel
theorem dX0_weigh_88 : decode cX0_weigh 88 = .ok (.iload 5, 2) := by decide +kernel
theorem dX0_weigh_90 : decode cX0_weigh 90 = .ok (.iastore, 1) := by decide +kernel
theorem dX0_weigh_91 : decode cX0_weigh 91 = .ok (.return_, 1) := by decide +kernel
theorem dX0_enter_0 : decode cX0_enter 0 = .ok (.aload_n 0, 1) := by decide +kernel
theorem dX0_enter_1 : decode cX0_enter 1 = .ok (.getfield 21, 3) := by decide +kernel
theorem dX0_enter_4 : decode cX0_enter 4 = .ok (.getfield 62, 3) := by decide +kernel
theorem dX0_enter_7 : decode cX0_enter 7 = .ok (.iload_n 1, 1) := by decide +kernel
theorem dX0_enter_8 : decode cX0_enter 8 = .ok (.aload_n 0, 1) := by decide +kernel
theorem dX0_enter_9 : decode cX0_enter 9 = .ok (.getfield 15, 3) := by decide +kernel
theorem dX0_enter_12 : decode cX0_enter 12 = .ok (.iload_n 1, 1) := by decide +kernel
theorem dX0_enter_13 : decode cX0_enter 13 = .ok (.iaload, 1) := by decide +kernel
theorem dX0_enter_14 : decode cX0_enter 14 = .ok (.iload_n 2, 1) := by decide +kernel
theorem dX0_enter_15 : decode cX0_enter 15 = .ok (.iadd, 1) := by decide +kernel
theorem dX0_enter_16 : decode cX0_enter 16 = .ok (.iastore, 1) := by decide +kernel
theorem dX0_enter_17 : decode cX0_enter 17 = .ok (.aload_n 0, 1) := by decide +kernel
theorem dX0_enter_18 : decode cX0_enter 18 = .ok (.getfield 21, 3) := by decide +kernel
theorem dX0_enter_21 : decode cX0_enter 21 = .ok (.getfield 100, 3) := by decide +kernel
theorem dX0_enter_24 : decode cX0_enter 24 = .ok (.iload_n 1, 1) := by decide +kernel
theorem dX0_enter_25 : decode cX0_enter 25 = .ok (.aload_n 0, 1) := by decide +kernel
theorem dX0_enter_26 : decode cX0_enter 26 = .ok (.getfield 9, 3) := by decide +kernel
theorem dX0_enter_29 : decode cX0_enter 29 = .ok (.iload_n 1, 1) := by decide +kernel
theorem dX0_enter_30 : decode cX0_enter 30 = .ok (.bipush 13, 2) := by decide +kernel
theorem dX0_enter_32 : decode cX0_enter 32 = .ok (.imul, 1) := by decide +kernel
theorem dX0_enter_33 : decode cX0_enter 33 = .ok (.iload_n 2, 1) := by decide +kernel
theorem dX0_enter_34 : decode cX0_enter 34 = .ok (.iadd, 1) := by decide +kernel
theorem dX0_enter_35 : decode cX0_enter 35 = .ok (.iaload, 1) := by decide +kernel
theorem dX0_enter_36 : decode cX0_enter 36 = .ok (.iastore, 1) := by decide +kernel
theorem dX0_enter_37 : decode cX0_enter 37 = .ok (.return_, 1) := by decide +kernel
theorem dX4_init_0 : decode cX4_init 0 = .ok (.aload_n 0, 1) := by decide +kernel
theorem dX4_init_1 : decode cX4_init 1 = .ok (.invokespecial 3, 3) := by decide +kernel
theorem dX4_init_4 : decode cX4_init 4 = .ok (.aload_n 0, 1) := by decide +kernel
theorem dX4_init_5 : decode cX4_init 5 = .ok (.iconst 5, 1) := by decide +kernel
theorem dX4_init_6 : decode cX4_init 6 = .ok (.newarray .int, 2) := by decide +kernel
theorem dX4_init_8 : decode cX4_init 8 = .ok (.putfield 9, 3) := by decide +kernel
theorem dX4_init_11 : decode cX4_init 11 = .ok (.aload_n 0, 1) := by decide +kernel
theorem dX4_init_12 : decode cX4_init 12 = .ok (.aload_n 1, 1) := by decide +kernel
theorem dX4_init_13 : decode cX4_init 13 = .ok (.putfield 15, 3) := by decide +kernel
theorem dX4_init_16 : decode cX4_init 16 = .ok (.return_, 1) := by decide +kernel
theorem dX4_weighAll_0 : decode cX4_weighAll 0 = .ok (.iconst 0, 1) := by decide +kernel
theorem dX4_weighAll_1 : decode cX4_weighAll 1 = .ok (.istore 4, 2) := by decide +kernel
theorem dX4_weighAll_3 : decode cX4_weighAll 3 = .ok (.iload 4, 2) := by decide +kernel
theorem dX4_weighAll_5 : decode cX4_weighAll 5 = .ok (.iconst 4, 1) := by decide +kernel
theorem dX4_weighAll_6 : decode cX4_weighAll 6 = .ok (.if_icmp .gt 17, 3) := by decide +kernel
theorem dX4_weighAll_9 : decode cX4_weighAll 9 = .ok (.aload_n 0, 1) := by decide +kernel
theorem dX4_weighAll_10 : decode cX4_weighAll 10 = .ok (.getfield 9, 3) := by decide +kernel
theorem dX4_weighAll_13 : decode cX4_weighAll 13 = .ok (.iload 4, 2) := by decide +kernel
theorem dX4_weighAll_15 : decode cX4_weighAll 15 = .ok (.iconst 0, 1) := by decide +kernel
theorem dX4_weighAll_16 : decode cX4_weighAll 16 = .ok (.iastore, 1) := by decide +kernel
theorem dX4_weighAll_17 : decode cX4_weighAll 17 = .ok (.iinc 4 1, 3) := by decide +kernel
theorem dX4_weighAll_20 : decode cX4_weighAll 20 = .ok (.goto (-17), 3) := by decide +kernel
theorem dX4_weighAll_23 : decode cX4_weighAll 23 = .ok (.aload_n 0, 1) := by decide +kernel
theorem dX4_weighAll_24 : decode cX4_weighAll 24 = .ok (.getfield 15, 3) := by decide +kernel
theorem dX4_weighAll_27 : decode cX4_weighAll 27 = .ok (.aload_n 1, 1) := by decide +kernel
theorem dX4_weighAll_28 : decode cX4_weighAll 28 = .ok (.invokevirtual 19, 3) := by decide +kernel
theorem dX4_weighAll_31 : decode cX4_weighAll 31 = .ok (.aload_n 0, 1) := by decide +kernel
theorem dX4_weighAll_32 : decode cX4_weighAll 32 = .ok (.aload_n 0, 1) := by decide +kernel
theorem dX4_weighAll_33 : decode cX4_weighAll 33 = .ok (.getfield 15, 3) := by decide +kernel
theorem dX4_weighAll_36 : decode cX4_weighAll 36 = .ok (.aload_n 1, 1) := by decide +kernel
theorem dX4_weighAll_37 : decode cX4_weighAll 37 = .ok (.iload_n 2, 1) := by decide +kernel
theorem dX4_weighAll_38 : decode cX4_weighAll 38 = .ok (.aload_n 1, 1) := by decide +kernel
theorem dX4_weighAll_39 : decode cX4_weighAll 39 = .ok (.iload_n 2, 1) := by decide +kernel
theorem dX4_weighAll_40 : decode cX4_weighAll 40 = .ok (.invokevirtual 25, 3) := by decide +kernel
theorem dX4_weighAll_43 : decode cX4_weighAll 43 = .ok (.invokevirtual 31, 3) := by decide +kernel
theorem dX4_weighAll_46 : decode cX4_weighAll 46 = .ok (.putfield 35, 3) := by decide +kernel
theorem dX4_weighAll_49 : decode cX4_weighAll 49 = .ok (.aload_n 1, 1) := by decide +kernel
theorem dX4_weighAll_50 : decode cX4_weighAll 50 = .ok (.getfield 39, 3) := by decide +kernel
theorem dX4_weighAll_53 : decode cX4_weighAll 53 = .ok (.iload_n 2, 1) := by decide +kernel
theorem dX4_weighAll_54 : decode cX4_weighAll 54 = .ok (.iconst 3, 1) := by decide +kernel
theorem dX4_weighAll_55 : decode cX4_weighAll 55 = .ok (.imul, 1) := by decide +kernel
theorem dX4_weighAll_56 : decode cX4_weighAll 56 = .ok (.iload_n 3, 1) := by decide +kernel
theorem dX4_weighAll_57 : decode cX4_weighAll 57 = .ok (.iadd, 1) := by decide +kernel
theorem dX4_weighAll_58 : decode cX4_weighAll 58 = .ok (.iaload, 1) := by decide +kernel
theorem dX4_weighAll_59 : decode cX4_weighAll 59 = .ok (.istore 4, 2) := by decide +kernel
theorem dX4_weighAll_61 : decode cX4_weighAll 61 = .ok (.iconst 1, 1) := by decide +kernel
theorem dX4_weighAll_62 : decode cX4_weighAll 62 = .ok (.istore 5, 2) := by decide +kernel
theorem dX4_weighAll_64 : decode cX4_weighAll 64 = .ok (.iload 5, 2) := by decide +kernel
theorem dX4_weighAll_66 : decode cX4_weighAll 66 = .ok (.iload 4, 2) := by decide +kernel
theorem dX4_weighAll_68 : decode cX4_weighAll 68 = .ok (.iconst 2, 1) := by decide +kernel
theorem dX4_weighAll_69 : decode cX4_weighAll 69 = .ok (.idiv, 1) := by decide +kernel
theorem dX4_weighAll_70 : decode cX4_weighAll 70 = .ok (.if_icmp .gt 70, 3) := by decide +kernel
theorem dX4_weighAll_73 : decode cX4_weighAll 73 = .ok (.iconst 0, 1) := by decide +kernel
theorem dX4_weighAll_74 : decode cX4_weighAll 74 = .ok (.istore 6, 2) := by decide +kernel
theorem dX4_weighAll_76 : decode cX4_weighAll 76 = .ok (.iload 6, 2) := by decide +kernel
theorem dX4_weighAll_78 : decode cX4_weighAll 78 = .ok (.iload 5, 2) := by decide +kernel
theorem dX4_weighAll_80 : decode cX4_weighAll 80 = .ok (.if_icmp .gt 54, 3) := by decide +kernel
theorem dX4_weighAll_83 : decode cX4_weighAll 83 = .ok (.iconst 0, 1) := by decide +kernel
theorem dX4_weighAll_84 : decode cX4_weighAll 84 = .ok (.istore 7, 2) := by decide +kernel
theorem dX4_weighAll_86 : decode cX4_weighAll 86 = .ok (.iload 7, 2) := by decide +kernel
theorem dX4_weighAll_88 : decode cX4_weighAll 88 = .ok (.iload 6, 2) := by decide +kernel
theorem dX4_weighAll_90 : decode cX4_weighAll 90 = .ok (.if_icmp .gt 38, 3) := by decide +kernel
theorem dX4_weighAll_93 : decode cX4_weighAll 93 = .ok (.iload 4, 2) := by decide +kernel
theorem dX4_weighAll_95 : decode cX4_weighAll 95 = .ok (.iload 5, 2) := by decide +kernel
theorem dX4_weighAll_97 : decode cX4_weighAll 97 = .ok (.isub, 1) := by decide +kernel
theorem dX4_weighAll_98 : decode cX4_weighAll 98 = .ok (.iload 6, 2) := by decide +kernel
theorem dX4_weighAll_100 : decode cX4_weighAll 100 = .ok (.isub, 1) := by decide +kernel
theorem dX4_weighAll_101 : decode cX4_weighAll 101 = .ok (.iload 7, 2) := by decide +kernel
theorem dX4_weighAll_103 : decode cX4_weighAll 103 = .ok (.isub, 1) := by decide +kernel
theorem dX4_weighAll_104 : decode cX4_weighAll 104 = .ok (.iload 5, 2) := by decide +kernel
theorem dX4_weighAll_106 : decode cX4_weighAll 106 = .ok (.if_icmp .lt 16, 3) := by decide +kernel
theorem dX4_weighAll_109 : decode cX4_weighAll 109 = .ok (.aload_n 0, 1) := by decide +kernel
theorem dX4_weighAll_110 : decode cX4_weighAll 110 = .ok (.aload_n 1, 1) := by decide +kernel
theorem dX4_weighAll_111 : decode cX4_weighAll 111 = .ok (.iload_n 2, 1) := by decide +kernel
theorem dX4_weighAll_112 : decode cX4_weighAll 112 = .ok (.iload_n 3, 1) := by decide +kernel
theorem dX4_weighAll_113 : decode cX4_weighAll 113 = .ok (.iload 5, 2) := by decide +kernel
theorem dX4_weighAll_115 : decode cX4_weighAll 115 = .ok (.iload 6, 2) := by decide +kernel
theorem dX4_weighAll_117 : decode cX4_weighAll 117 = .ok (.iload 7, 2) := by decide +kernel
theorem dX4_weighAll_119 : decode cX4_weighAll 119 = .ok (.invokevirtual 42, 3) := by decide +kernel
theorem dX4_weighAll_122 : decode cX4_weighAll 122 = .ok (.iinc 7 1, 3) := by decide +kernel
theorem dX4_weighAll_125 : decode cX4_weighAll 125 = .ok (.goto (-39), 3) := by decide +kernel
theorem dX4_weighAll_128 : decode cX4_weighAll 128 = .ok (.iinc 6 1, 3) := by decide +kernel
theorem dX4_weighAll_131 : decode cX4_weighAll 131 = .ok (.goto (-55), 3) := by decide +kernel
theorem dX4_weighAll_134 : decode cX4_weighAll 134 = .ok (.iinc 5 1, 3) := by decide +kernel
theorem dX4_weighAll_137 : decode cX4_weighAll 137 = .ok (.goto (-73), 3) := by decide +kernel
theorem dX4_weighAll_140 : decode cX4_weighAll 140 = .ok (.return_, 1) := by decide +kernel
theorem dX4_weigh_0 : decode cX4_weigh 0 = .ok (.aload_n 0, 1) := by decide +kernel
theorem dX4_weigh_1 : decode cX4_weigh 1 = .ok (.getfield 15, 3) := by decide +kernel
theorem dX4_weigh_4 : decode cX4_weigh 4 = .ok (.getfield 46, 3) := by decide +kernel
theorem dX4_weigh_7 : decode cX4_weigh 7 = .ok (.astore 7, 2) := by decide +kernel
theorem dX4_weigh_9 : decode cX4_weigh 9 = .ok (.aload 7, 2) := by decide +kernel
theorem dX4_weigh_11 : decode cX4_weigh 11 = .ok (.aload_n 1, 1) := by decide +kernel
theorem dX4_weigh_12 : decode cX4_weigh 12 = .ok (.iload_n 3, 1) := by decide +kernel
theorem dX4_weigh_13 : decode cX4_weigh 13 = .ok (.iload_n 2, 1) := by decide +kernel
theorem dX4_weigh_14 : decode cX4_weigh 14 = .ok (.invokevirtual 50, 3) := by decide +kernel
theorem dX4_weigh_17 : decode cX4_weigh 17 = .ok (.aload 7, 2) := by decide +kernel
theorem dX4_weigh_19 : decode cX4_weigh 19 = .ok (.aload_n 1, 1) := by decide +kernel
theorem dX4_weigh_20 : decode cX4_weigh 20 = .ok (.getfield 39, 3) := by decide +kernel
theorem dX4_weigh_23 : decode cX4_weigh 23 = .ok (.iload_n 2, 1) := by decide +kernel
theorem dX4_weigh_24 : decode cX4_weigh 24 = .ok (.iconst 3, 1) := by decide +kernel
theorem dX4_weigh_25 : decode cX4_weigh 25 = .ok (.imul, 1) := by decide +kernel
theorem dX4_weigh_26 : decode cX4_weigh 26 = .ok (.iload_n 3, 1) := by decide +kernel
theorem dX4_weigh_27 : decode cX4_weigh 27 = .ok (.iadd, 1) := by decide +kernel
theorem dX4_weigh_28 : decode cX4_weigh 28 = .ok (.iaload, 1) := by decide +kernel
theorem dX4_weigh_29 : decode cX4_weigh 29 = .ok (.iload 4, 2) := by decide +kernel
theorem dX4_weigh_31 : decode cX4_weigh 31 = .ok (.isub, 1) := by decide +kernel
theorem dX4_weigh_32 : decode cX4_weigh 32 = .ok (.iload 5, 2) := by decide +kernel
theorem dX4_weigh_34 : decode cX4_weigh 34 = .ok (.isub, 1) := by decide +kernel
theorem dX4_weigh_35 : decode cX4_weigh 35 = .ok (.iload 6, 2) := by decide +kernel
theorem dX4_weigh_37 : decode cX4_weigh 37 = .ok (.isub, 1) := by decide +kernel
theorem dX4_weigh_38 : decode cX4_weigh 38 = .ok (.invokevirtual 56, 3) := by decide +kernel
theorem dX4_weigh_41 : decode cX4_weigh 41 = .ok (.aload 7, 2) := by decide +kernel
theorem dX4_weigh_43 : decode cX4_weigh 43 = .ok (.iload 4, 2) := by decide +kernel
theorem dX4_weigh_45 : decode cX4_weigh 45 = .ok (.invokevirtual 56, 3) := by decide +kernel
theorem dX4_weigh_48 : decode cX4_weigh 48 = .ok (.aload 7, 2) := by decide +kernel
theorem dX4_weigh_50 : decode cX4_weigh 50 = .ok (.iload 5, 2) := by decide +kernel
theorem dX4_weigh_52 : decode cX4_weigh 52 = .ok (.invokevirtual 56, 3) := by decide +kernel
theorem dX4_weigh_55 : decode cX4_weigh 55 = .ok (.aload 7, 2) := by decide +kernel
theorem dX4_weigh_57 : decode cX4_weigh 57 = .ok (.iload 6, 2) := by decide +kernel
theorem dX4_weigh_59 : decode cX4_weigh 59 = .ok (.invokevirtual 56, 3) := by decide +kernel
theorem dX4_weigh_62 : decode cX4_weigh 62 = .ok (.aload_n 0, 1) := by decide +kernel
theorem dX4_weigh_63 : decode cX4_weigh 63 = .ok (.getfield 15, 3) := by decide +kernel
theorem dX4_weigh_66 : decode cX4_weigh 66 = .ok (.getfield 60, 3) := by decide +kernel
theorem dX4_weigh_69 : decode cX4_weigh 69 = .ok (.iload_n 3, 1) := by decide +kernel
theorem dX4_weigh_70 : decode cX4_weigh 70 = .ok (.aload 7, 2) := by decide +kernel
theorem dX4_weigh_72 : decode cX4_weigh 72 = .ok (.aload_n 1, 1) := by decide +kernel
theorem dX4_weigh_73 : decode cX4_weigh 73 = .ok (.getfield 63, 3) := by decide +kernel
theorem dX4_weigh_76 : decode cX4_weigh 76 = .ok (.aload_n 1, 1) := by decide +kernel
theorem dX4_weigh_77 : decode cX4_weigh 77 = .ok (.getfield 67, 3) := by decide +kernel
theorem dX4_weigh_80 : decode cX4_weigh 80 = .ok (.aaload, 1) := by decide +kernel
theorem dX4_weigh_81 : decode cX4_weigh 81 = .ok (.invokevirtual 70, 3) := by decide +kernel
theorem dX4_weigh_84 : decode cX4_weigh 84 = .ok (.iastore, 1) := by decide +kernel
theorem dX4_weigh_85 : decode cX4_weigh 85 = .ok (.aload_n 0, 1) := by decide +kernel
theorem dX4_weigh_86 : decode cX4_weigh 86 = .ok (.getfield 15, 3) := by decide +kernel
theorem dX4_weigh_89 : decode cX4_weigh 89 = .ok (.aload_n 1, 1) := by decide +kernel
theorem dX4_weigh_90 : decode cX4_weigh 90 = .ok (.invokevirtual 74, 3) := by decide +kernel
theorem dX4_weigh_93 : decode cX4_weigh 93 = .ok (.aload_n 0, 1) := by decide +kernel
theorem dX4_weigh_94 : decode cX4_weigh 94 = .ok (.getfield 15, 3) := by decide +kernel
theorem dX4_weigh_97 : decode cX4_weigh 97 = .ok (.aload_n 1, 1) := by decide +kernel
theorem dX4_weigh_98 : decode cX4_weigh 98 = .ok (.iload_n 2, 1) := by decide +kernel
theorem dX4_weigh_99 : decode cX4_weigh 99 = .ok (.aload_n 1, 1) := by decide +kernel
theorem dX4_weigh_100 : decode cX4_weigh 100 = .ok (.iload_n 2, 1) := by decide +kernel
theorem dX4_weigh_101 : decode cX4_weigh 101 = .ok (.invokevirtual 25, 3) := by decide +kernel
theorem dX4_weigh_104 : decode cX4_weigh 104 = .ok (.invokevirtual 31, 3) := by decide +kernel
theorem dX4_weigh_107 : decode cX4_weigh 107 = .ok (.aload_n 0, 1) := by decide +kernel
theorem dX4_weigh_108 : decode cX4_weigh 108 = .ok (.getfield 35, 3) := by decide +kernel
theorem dX4_weigh_111 : decode cX4_weigh 111 = .ok (.isub, 1) := by decide +kernel
theorem dX4_weigh_112 : decode cX4_weigh 112 = .ok (.istore 8, 2) := by decide +kernel
theorem dX4_weigh_114 : decode cX4_weigh 114 = .ok (.iload 6, 2) := by decide +kernel
theorem dX4_weigh_116 : decode cX4_weigh 116 = .ok (.ifCond .le 7, 3) := by decide +kernel
theorem dX4_weigh_119 : decode cX4_weigh 119 = .ok (.iconst 4, 1) := by decide +kernel
theorem dX4_weigh_120 : decode cX4_weigh 120 = .ok (.goto 13, 3) := by decide +kernel
theorem dX4_weigh_123 : decode cX4_weigh 123 = .ok (.iload 5, 2) := by decide +kernel
theorem dX4_weigh_125 : decode cX4_weigh 125 = .ok (.ifCond .le 7, 3) := by decide +kernel
theorem dX4_weigh_128 : decode cX4_weigh 128 = .ok (.iconst 3, 1) := by decide +kernel
theorem dX4_weigh_129 : decode cX4_weigh 129 = .ok (.goto 4, 3) := by decide +kernel
theorem dX4_weigh_132 : decode cX4_weigh 132 = .ok (.iconst 2, 1) := by decide +kernel
theorem dX4_weigh_133 : decode cX4_weigh 133 = .ok (.istore 9, 2) := by decide +kernel
theorem dX4_weigh_135 : decode cX4_weigh 135 = .ok (.aload_n 0, 1) := by decide +kernel
theorem dX4_weigh_136 : decode cX4_weigh 136 = .ok (.getfield 9, 3) := by decide +kernel
theorem dX4_weigh_139 : decode cX4_weigh 139 = .ok (.iload 9, 2) := by decide +kernel
theorem dX4_weigh_141 : decode cX4_weigh 141 = .ok (.aload_n 0, 1) := by decide +kernel
theorem dX4_weigh_142 : decode cX4_weigh 142 = .ok (.getfield 9, 3) := by decide +kernel
theorem dX4_weigh_145 : decode cX4_weigh 145 = .ok (.iload 9, 2) := by decide +kernel
theorem dX4_weigh_147 : decode cX4_weigh 147 = .ok (.iaload, 1) := by decide +kernel
theorem dX4_weigh_148 : decode cX4_weigh 148 = .ok (.iload 8, 2) := by decide +kernel
theorem dX4_weigh_150 : decode cX4_weigh 150 = .ok (.invokestatic 77, 3) := by decide +kernel
theorem dX4_weigh_153 : decode cX4_weigh 153 = .ok (.iastore, 1) := by decide +kernel
theorem dX4_weigh_154 : decode cX4_weigh 154 = .ok (.return_, 1) := by decide +kernel
theorem dX4_most_0 : decode cX4_most 0 = .ok (.iconst 0, 1) := by decide +kernel
theorem dX4_most_1 : decode cX4_most 1 = .ok (.istore_n 1, 1) := by decide +kernel
theorem dX4_most_2 : decode cX4_most 2 = .ok (.iconst 2, 1) := by decide +kernel
theorem dX4_most_3 : decode cX4_most 3 = .ok (.istore_n 2, 1) := by decide +kernel
theorem dX4_most_4 : decode cX4_most 4 = .ok (.iload_n 2, 1) := by decide +kernel
theorem dX4_most_5 : decode cX4_most 5 = .ok (.iconst 4, 1) := by decide +kernel
theorem dX4_most_6 : decode cX4_most 6 = .ok (.if_icmp .gt 20, 3) := by decide +kernel
theorem dX4_most_9 : decode cX4_most 9 = .ok (.iload_n 1, 1) := by decide +kernel
theorem dX4_most_10 : decode cX4_most 10 = .ok (.aload_n 0, 1) := by decide +kernel
theorem dX4_most_11 : decode cX4_most 11 = .ok (.getfield 9, 3) := by decide +kernel
theorem dX4_most_14 : decode cX4_most 14 = .ok (.iload_n 2, 1) := by decide +kernel
theorem dX4_most_15 : decode cX4_most 15 = .ok (.iaload, 1) := by decide +kernel
theorem dX4_most_16 : decode cX4_most 16 = .ok (.invokestatic 77, 3) := by decide +kernel
theorem dX4_most_19 : decode cX4_most 19 = .ok (.istore_n 1, 1) := by decide +kernel
theorem dX4_most_20 : decode cX4_most 20 = .ok (.iinc 2 1, 3) := by decide +kernel
theorem dX4_most_23 : decode cX4_most 23 = .ok (.goto (-19), 3) := by decide +kernel
theorem dX4_most_26 : decode cX4_most 26 = .ok (.iload_n 1, 1) := by decide +kernel
theorem dX4_most_27 : decode cX4_most 27 = .ok (.ireturn, 1) := by decide +kernel
theorem dX4_leastCost_0 : decode cX4_leastCost 0 = .ok (.iconst 0, 1) := by decide +kernel
theorem dX4_leastCost_1 : decode cX4_leastCost 1 = .ok (.istore_n 1, 1) := by decide +kernel
theorem dX4_leastCost_2 : decode cX4_leastCost 2 = .ok (.iconst 2, 1) := by decide +kernel
theorem dX4_leastCost_3 : decode cX4_leastCost 3 = .ok (.istore_n 2, 1) := by decide +kernel
theorem dX4_leastCost_4 : decode cX4_leastCost 4 = .ok (.iload_n 2, 1) := by decide +kernel
theorem dX4_leastCost_5 : decode cX4_leastCost 5 = .ok (.iconst 4, 1) := by decide +kernel
theorem dX4_leastCost_6 : decode cX4_leastCost 6 = .ok (.if_icmp .gt 30, 3) := by decide +kernel
theorem dX4_leastCost_9 : decode cX4_leastCost 9 = .ok (.iload_n 2, 1) := by decide +kernel
theorem dX4_leastCost_10 : decode cX4_leastCost 10 = .ok (.iconst 1, 1) := by decide +kernel
theorem dX4_leastCost_11 : decode cX4_leastCost 11 = .ok (.isub, 1) := by decide +kernel
theorem dX4_leastCost_12 : decode cX4_leastCost 12 = .ok (.istore_n 3, 1) := by decide +kernel
theorem dX4_leastCost_13 : decode cX4_leastCost 13 = .ok (.iload_n 1, 1) := by decide +kernel
theorem dX4_leastCost_14 : decode cX4_leastCost 14 = .ok (.aload_n 0, 1) := by decide +kernel
theorem dX4_leastCost_15 : decode cX4_leastCost 15 = .ok (.getfield 9, 3) := by decide +kernel
theorem dX4_leastCost_18 : decode cX4_leastCost 18 = .ok (.iload_n 2, 1) := by decide +kernel
theorem dX4_leastCost_19 : decode cX4_leastCost 19 = .ok (.iaload, 1) := by decide +kernel
theorem dX4_leastCost_20 : decode cX4_leastCost 20 = .ok (.iload_n 3, 1) := by decide +kernel
theorem dX4_leastCost_21 : decode cX4_leastCost 21 = .ok (.iadd, 1) := by decide +kernel
theorem dX4_leastCost_22 : decode cX4_leastCost 22 = .ok (.iconst 1, 1) := by decide +kernel
theorem dX4_leastCost_23 : decode cX4_leastCost 23 = .ok (.isub, 1) := by decide +kernel
theorem dX4_leastCost_24 : decode cX4_leastCost 24 = .ok (.iload_n 3, 1) := by decide +kernel
theorem dX4_leastCost_25 : decode cX4_leastCost 25 = .ok (.idiv, 1) := by decide +kernel
theorem dX4_leastCost_26 : decode cX4_leastCost 26 = .ok (.invokestatic 77, 3) := by decide +kernel
theorem dX4_leastCost_29 : decode cX4_leastCost 29 = .ok (.istore_n 1, 1) := by decide +kernel
theorem dX4_leastCost_30 : decode cX4_leastCost 30 = .ok (.iinc 2 1, 3) := by decide +kernel
theorem dX4_leastCost_33 : decode cX4_leastCost 33 = .ok (.goto (-29), 3) := by decide +kernel
theorem dX4_leastCost_36 : decode cX4_leastCost 36 = .ok (.iload_n 1, 1) := by decide +kernel
theorem dX4_leastCost_37 : decode cX4_leastCost 37 = .ok (.ireturn, 1) := by decide +kernel
theorem dX6_init_0 : decode cX6_init 0 = .ok (.aload_n 0, 1) := by decide +kernel
theorem dX6_init_1 : decode cX6_init 1 = .ok (.invokespecial 3, 3) := by decide +kernel
theorem dX6_init_4 : decode cX6_init 4 = .ok (.aload_n 0, 1) := by decide +kernel
theorem dX6_init_5 : decode cX6_init 5 = .ok (.bipush 41, 2) := by decide +kernel
theorem dX6_init_7 : decode cX6_init 7 = .ok (.newarray .long, 2) := by decide +kernel
theorem dX6_init_9 : decode cX6_init 9 = .ok (.putfield 9, 3) := by decide +kernel
theorem dX6_init_12 : decode cX6_init 12 = .ok (.aload_n 0, 1) := by decide +kernel
theorem dX6_init_13 : decode cX6_init 13 = .ok (.aload_n 1, 1) := by decide +kernel
theorem dX6_init_14 : decode cX6_init 14 = .ok (.putfield 15, 3) := by decide +kernel
theorem dX6_init_17 : decode cX6_init 17 = .ok (.return_, 1) := by decide +kernel
theorem dX6_run_0 : decode cX6_run 0 = .ok (.iconst 0, 1) := by decide +kernel
theorem dX6_run_1 : decode cX6_run 1 = .ok (.istore_n 2, 1) := by decide +kernel
theorem dX6_run_2 : decode cX6_run 2 = .ok (.aload_n 0, 1) := by decide +kernel
theorem dX6_run_3 : decode cX6_run 3 = .ok (.getfield 9, 3) := by decide +kernel
theorem dX6_run_6 : decode cX6_run 6 = .ok (.iconst 0, 1) := by decide +kernel
theorem dX6_run_7 : decode cX6_run 7 = .ok (.aload_n 1, 1) := by decide +kernel
theorem dX6_run_8 : decode cX6_run 8 = .ok (.invokevirtual 19, 3) := by decide +kernel
theorem dX6_run_11 : decode cX6_run 11 = .ok (.lastore, 1) := by decide +kernel
theorem dX6_run_12 : decode cX6_run 12 = .ok (.iconst 1, 1) := by decide +kernel
theorem dX6_run_13 : decode cX6_run 13 = .ok (.istore_n 3, 1) := by decide +kernel
theorem dX6_run_14 : decode cX6_run 14 = .ok (.iload_n 3, 1) := by decide +kernel
theorem dX6_run_15 : decode cX6_run 15 = .ok (.bipush 40, 2) := by decide +kernel
theorem dX6_run_17 : decode cX6_run 17 = .ok (.if_icmp .gt 109, 3) := by decide +kernel
theorem dX6_run_20 : decode cX6_run 20 = .ok (.iconst 0, 1) := by decide +kernel
theorem dX6_run_21 : decode cX6_run 21 = .ok (.istore 4, 2) := by decide +kernel
theorem dX6_run_23 : decode cX6_run 23 = .ok (.iload 4, 2) := by decide +kernel
theorem dX6_run_25 : decode cX6_run 25 = .ok (.aload_n 1, 1) := by decide +kernel
theorem dX6_run_26 : decode cX6_run 26 = .ok (.getfield 25, 3) := by decide +kernel
theorem dX6_run_29 : decode cX6_run 29 = .ok (.if_icmp .ge 71, 3) := by decide +kernel
theorem dX6_run_32 : decode cX6_run 32 = .ok (.iinc 2 1, 3) := by decide +kernel
theorem dX6_run_35 : decode cX6_run 35 = .ok (.aload_n 0, 1) := by decide +kernel
theorem dX6_run_36 : decode cX6_run 36 = .ok (.getfield 15, 3) := by decide +kernel
theorem dX6_run_39 : decode cX6_run 39 = .ok (.aload_n 1, 1) := by decide +kernel
theorem dX6_run_40 : decode cX6_run 40 = .ok (.iload 4, 2) := by decide +kernel
theorem dX6_run_42 : decode cX6_run 42 = .ok (.invokevirtual 29, 3) := by decide +kernel
theorem dX6_run_45 : decode cX6_run 45 = .ok (.aload_n 0, 1) := by decide +kernel
theorem dX6_run_46 : decode cX6_run 46 = .ok (.getfield 15, 3) := by decide +kernel
theorem dX6_run_49 : decode cX6_run 49 = .ok (.getfield 35, 3) := by decide +kernel
theorem dX6_run_52 : decode cX6_run 52 = .ok (.aload_n 0, 1) := by decide +kernel
theorem dX6_run_53 : decode cX6_run 53 = .ok (.getfield 15, 3) := by decide +kernel
theorem dX6_run_56 : decode cX6_run 56 = .ok (.getfield 38, 3) := by decide +kernel
theorem dX6_run_59 : decode cX6_run 59 = .ok (.if_icmp .le 25, 3) := by decide +kernel
theorem dX6_run_62 : decode cX6_run 62 = .ok (.aload_n 0, 1) := by decide +kernel
theorem dX6_run_63 : decode cX6_run 63 = .ok (.getfield 15, 3) := by decide +kernel
theorem dX6_run_66 : decode cX6_run 66 = .ok (.getfield 41, 3) := by decide +kernel
theorem dX6_run_69 : decode cX6_run 69 = .ok (.iconst 0, 1) := by decide +kernel
theorem dX6_run_70 : decode cX6_run 70 = .ok (.aload_n 1, 1) := by decide +kernel
theorem dX6_run_71 : decode cX6_run 71 = .ok (.getfield 45, 3) := by decide +kernel
theorem dX6_run_74 : decode cX6_run 74 = .ok (.iload 4, 2) := by decide +kernel
theorem dX6_run_76 : decode cX6_run 76 = .ok (.iconst 3, 1) := by decide +kernel
theorem dX6_run_77 : decode cX6_run 77 = .ok (.imul, 1) := by decide +kernel
theorem dX6_run_78 : decode cX6_run 78 = .ok (.iconst 3, 1) := by decide +kernel
theorem dX6_run_79 : decode cX6_run 79 = .ok (.invokestatic 48, 3) := by decide +kernel
theorem dX6_run_82 : decode cX6_run 82 = .ok (.iconst 0, 1) := by decide +kernel
theorem dX6_run_83 : decode cX6_run 83 = .ok (.istore_n 2, 1) := by decide +kernel
theorem dX6_run_84 : decode cX6_run 84 = .ok (.iload_n 2, 1) := by decide +kernel
theorem dX6_run_85 : decode cX6_run 85 = .ok (.aload_n 1, 1) := by decide +kernel
theorem dX6_run_86 : decode cX6_run 86 = .ok (.getfield 25, 3) := by decide +kernel
theorem dX6_run_89 : decode cX6_run 89 = .ok (.if_icmp .ne 5, 3) := by decide +kernel
theorem dX6_run_92 : decode cX6_run 92 = .ok (.iconst 0, 1) := by decide +kernel
theorem dX6_run_93 : decode cX6_run 93 = .ok (.ireturn, 1) := by decide +kernel
theorem dX6_run_94 : decode cX6_run 94 = .ok (.iinc 4 1, 3) := by decide +kernel
theorem dX6_run_97 : decode cX6_run 97 = .ok (.goto (-74), 3) := by decide +kernel
theorem dX6_run_100 : decode cX6_run 100 = .ok (.aload_n 0, 1) := by decide +kernel
theorem dX6_run_101 : decode cX6_run 101 = .ok (.getfield 9, 3) := by decide +kernel
theorem dX6_run_104 : decode cX6_run 104 = .ok (.iload_n 3, 1) := by decide +kernel
theorem dX6_run_105 : decode cX6_run 105 = .ok (.aload_n 1, 1) := by decide +kernel
theorem dX6_run_106 : decode cX6_run 106 = .ok (.invokevirtual 19, 3) := by decide +kernel
theorem dX6_run_109 : decode cX6_run 109 = .ok (.lastore, 1) := by decide +kernel
theorem dX6_run_110 : decode cX6_run 110 = .ok (.aload_n 0, 1) := by decide +kernel
theorem dX6_run_111 : decode cX6_run 111 = .ok (.iload_n 3, 1) := by decide +kernel
theorem dX6_run_112 : decode cX6_run 112 = .ok (.invokevirtual 54, 3) := by decide +kernel
theorem dX6_run_115 : decode cX6_run 115 = .ok (.ifCond .eq 5, 3) := by decide +kernel
theorem dX6_run_118 : decode cX6_run 118 = .ok (.iconst 1, 1) := by decide +kernel
theorem dX6_run_119 : decode cX6_run 119 = .ok (.ireturn, 1) := by decide +kernel
theorem dX6_run_120 : decode cX6_run 120 = .ok (.iinc 3 1, 3) := by decide +kernel
theorem dX6_run_123 : decode cX6_run 123 = .ok (.goto (-109), 3) := by decide +kernel
theorem dX6_run_126 : decode cX6_run 126 = .ok (.iconst 2, 1) := by decide +kernel
theorem dX6_run_127 : decode cX6_run 127 = .ok (.ireturn, 1) := by decide +kernel
theorem dX6_wasBefore_0 : decode cX6_wasBefore 0 = .ok (.iconst 0, 1) := by decide +kernel
theorem dX6_wasBefore_1 : decode cX6_wasBefore 1 = .ok (.istore_n 2, 1) := by decide +kernel
theorem dX6_wasBefore_2 : decode cX6_wasBefore 2 = .ok (.iload_n 2, 1) := by decide +kernel
theorem dX6_wasBefore_3 : decode cX6_wasBefore 3 = .ok (.iload_n 1, 1) := by decide +kernel
theorem dX6_wasBefore_4 : decode cX6_wasBefore 4 = .ok (.if_icmp .ge 27, 3) := by decide +kernel
theorem dX6_wasBefore_7 : decode cX6_wasBefore 7 = .ok (.aload_n 0, 1) := by decide +kernel
theorem dX6_wasBefore_8 : decode cX6_wasBefore 8 = .ok (.getfield 9, 3) := by decide +kernel
theorem dX6_wasBefore_11 : decode cX6_wasBefore 11 = .ok (.iload_n 2, 1) := by decide +kernel
theorem dX6_wasBefore_12 : decode cX6_wasBefore 12 = .ok (.laload, 1) := by decide +kernel
theorem dX6_wasBefore_13 : decode cX6_wasBefore 13 = .ok (.aload_n 0, 1) := by decide +kernel
theorem dX6_wasBefore_14 : decode cX6_wasBefore 14 = .ok (.getfield 9, 3) := by decide +kernel
theorem dX6_wasBefore_17 : decode cX6_wasBefore 17 = .ok (.iload_n 1, 1) := by decide +kernel
theorem dX6_wasBefore_18 : decode cX6_wasBefore 18 = .ok (.laload, 1) := by decide +kernel
theorem dX6_wasBefore_19 : decode cX6_wasBefore 19 = .ok (.lcmp, 1) := by decide +kernel
theorem dX6_wasBefore_20 : decode cX6_wasBefore 20 = .ok (.ifCond .ne 5, 3) := by decide +kernel
theorem dX6_wasBefore_23 : decode cX6_wasBefore 23 = .ok (.iconst 1, 1) := by decide +kernel
theorem dX6_wasBefore_24 : decode cX6_wasBefore 24 = .ok (.ireturn, 1) := by decide +kernel
theorem dX6_wasBefore_25 : decode cX6_wasBefore 25 = .ok (.iinc 2 1, 3) := by decide +kernel
theorem dX6_wasBefore_28 : decode cX6_wasBefore 28 = .ok (.goto (-26), 3) := by decide +kernel
theorem dX6_wasBefore_31 : decode cX6_wasBefore 31 = .ok (.iconst 0, 1) := by decide +kernel
theorem dX6_wasBefore_32 : decode cX6_wasBefore 32 = .ok (.ireturn, 1) := by decide +kernel
theorem dX10_init_0 : decode cX10_init 0 = .ok (.aload_n 0, 1) := by decide +kernel
theorem dX10_init_1 : decode cX10_init 1 = .ok (.invokespecial 1, 3) := by decide +kernel
theorem dX10_init_4 : decode cX10_init 4 = .ok (.aload_n 0, 1) := by decide +kernel
theorem dX10_init_5 : decode cX10_init 5 = .ok (.new 7, 3) := by decide +kernel
theorem dX10_init_8 : decode cX10_init 8 = .ok (.dup, 1) := by decide +kernel
theorem dX10_init_9 : decode cX10_init 9 = .ok (.invokespecial 9, 3) := by decide +kernel
theorem dX10_init_12 : decode cX10_init 12 = .ok (.putfield 10, 3) := by decide +kernel
theorem dX10_init_15 : decode cX10_init 15 = .ok (.aload_n 0, 1) := by decide +kernel
theorem dX10_init_16 : decode cX10_init 16 = .ok (.new 7, 3) := by decide +kernel
theorem dX10_init_19 : decode cX10_init 19 = .ok (.dup, 1) := by decide +kernel
theorem dX10_init_20 : decode cX10_init 20 = .ok (.invokespecial 9, 3) := by decide +kernel
theorem dX10_init_23 : decode cX10_init 23 = .ok (.putfield 16, 3) := by decide +kernel
theorem dX10_init_26 : decode cX10_init 26 = .ok (.aload_n 0, 1) := by decide +kernel
theorem dX10_init_27 : decode cX10_init 27 = .ok (.iconst 2, 1) := by decide +kernel
theorem dX10_init_28 : decode cX10_init 28 = .ok (.anewarray 7, 3) := by decide +kernel
theorem dX10_init_31 : decode cX10_init 31 = .ok (.putfield 19, 3) := by decide +kernel
theorem dX10_init_34 : decode cX10_init 34 = .ok (.aload_n 0, 1) := by decide +kernel
theorem dX10_init_35 : decode cX10_init 35 = .ok (.iconst 2, 1) := by decide +kernel
theorem dX10_init_36 : decode cX10_init 36 = .ok (.newarray .boolean, 2) := by decide +kernel
theorem dX10_init_38 : decode cX10_init 38 = .ok (.putfield 23, 3) := by decide +kernel
theorem dX10_init_41 : decode cX10_init 41 = .ok (.aload_n 0, 1) := by decide +kernel
theorem dX10_init_42 : decode cX10_init 42 = .ok (.new 27, 3) := by decide +kernel
theorem dX10_init_45 : decode cX10_init 45 = .ok (.dup, 1) := by decide +kernel
theorem dX10_init_46 : decode cX10_init 46 = .ok (.invokespecial 29, 3) := by decide +kernel
theorem dX10_init_49 : decode cX10_init 49 = .ok (.putfield 30, 3) := by decide +kernel
theorem dX10_init_52 : decode cX10_init 52 = .ok (.aload_n 0, 1) := by decide +kernel
theorem dX10_init_53 : decode cX10_init 53 = .ok (.new 34, 3) := by decide +kernel
theorem dX10_init_56 : decode cX10_init 56 = .ok (.dup, 1) := by decide +kernel
theorem dX10_init_57 : decode cX10_init 57 = .ok (.invokespecial 36, 3) := by decide +kernel
theorem dX10_init_60 : decode cX10_init 60 = .ok (.putfield 37, 3) := by decide +kernel
theorem dX10_init_63 : decode cX10_init 63 = .ok (.aload_n 0, 1) := by decide +kernel
theorem dX10_init_64 : decode cX10_init 64 = .ok (.new 41, 3) := by decide +kernel
theorem dX10_init_67 : decode cX10_init 67 = .ok (.dup, 1) := by decide +kernel
theorem dX10_init_68 : decode cX10_init 68 = .ok (.aload_n 0, 1) := by decide +kernel
theorem dX10_init_69 : decode cX10_init 69 = .ok (.getfield 37, 3) := by decide +kernel
theorem dX10_init_72 : decode cX10_init 72 = .ok (.invokespecial 43, 3) := by decide +kernel
theorem dX10_init_75 : decode cX10_init 75 = .ok (.putfield 46, 3) := by decide +kernel
theorem dX10_init_78 : decode cX10_init 78 = .ok (.aload_n 0, 1) := by decide +kernel
theorem dX10_init_79 : decode cX10_init 79 = .ok (.new 50, 3) := by decide +kernel
theorem dX10_init_82 : decode cX10_init 82 = .ok (.dup, 1) := by decide +kernel
theorem dX10_init_83 : decode cX10_init 83 = .ok (.aload_n 0, 1) := by decide +kernel
theorem dX10_init_84 : decode cX10_init 84 = .ok (.getfield 46, 3) := by decide +kernel
theorem dX10_init_87 : decode cX10_init 87 = .ok (.invokespecial 52, 3) := by decide +kernel
theorem dX10_init_90 : decode cX10_init 90 = .ok (.putfield 55, 3) := by decide +kernel
theorem dX10_init_93 : decode cX10_init 93 = .ok (.aload_n 0, 1) := by decide +kernel
theorem dX10_init_94 : decode cX10_init 94 = .ok (.new 59, 3) := by decide +kernel
theorem dX10_init_97 : decode cX10_init 97 = .ok (.dup, 1) := by decide +kernel
theorem dX10_init_98 : decode cX10_init 98 = .ok (.aload_n 0, 1) := by decide +kernel
theorem dX10_init_99 : decode cX10_init 99 = .ok (.getfield 55, 3) := by decide +kernel
theorem dX10_init_102 : decode cX10_init 102 = .ok (.invokespecial 61, 3) := by decide +kernel
theorem dX10_init_105 : decode cX10_init 105 = .ok (.putfield 64, 3) := by decide +kernel
theorem dX10_init_108 : decode cX10_init 108 = .ok (.aload_n 0, 1) := by decide +kernel
theorem dX10_init_109 : decode cX10_init 109 = .ok (.new 68, 3) := by decide +kernel
theorem dX10_init_112 : decode cX10_init 112 = .ok (.dup, 1) := by decide +kernel
theorem dX10_init_113 : decode cX10_init 113 = .ok (.invokespecial 70, 3) := by decide +kernel
theorem dX10_init_116 : decode cX10_init 116 = .ok (.putfield 71, 3) := by decide +kernel
theorem dX10_init_119 : decode cX10_init 119 = .ok (.aload_n 0, 1) := by decide +kernel
theorem dX10_init_120 : decode cX10_init 120 = .ok (.new 75, 3) := by decide +kernel
theorem dX10_init_123 : decode cX10_init 123 = .ok (.dup, 1) := by decide +kernel
theorem dX10_init_124 : decode cX10_init 124 = .ok (.aload_n 0, 1) := by decide +kernel
theorem dX10_init_125 : decode cX10_init 125 = .ok (.getfield 46, 3) := by decide +kernel
theorem dX10_init_128 : decode cX10_init 128 = .ok (.invokespecial 77, 3) := by decide +kernel
theorem dX10_init_131 : decode cX10_init 131 = .ok (.putfield 78, 3) := by decide +kernel
theorem dX10_init_134 : decode cX10_init 134 = .ok (.aload_n 0, 1) := by decide +kernel
theorem dX10_init_135 : decode cX10_init 135 = .ok (.new 82, 3) := by decide +kernel
theorem dX10_init_138 : decode cX10_init 138 = .ok (.dup, 1) := by decide +kernel
theorem dX10_init_139 : decode cX10_init 139 = .ok (.aload_n 0, 1) := by decide +kernel
theorem dX10_init_140 : decode cX10_init 140 = .ok (.getfield 37, 3) := by decide +kernel
theorem dX10_init_143 : decode cX10_init 143 = .ok (.invokespecial 84, 3) := by decide +kernel
theorem dX10_init_146 : decode cX10_init 146 = .ok (.putfield 85, 3) := by decide +kernel
theorem dX10_init_149 : decode cX10_init 149 = .ok (.iconst 0, 1) := by decide +kernel
theorem dX10_init_150 : decode cX10_init 150 = .ok (.istore_n 1, 1) := by decide +kernel
theorem dX10_init_151 : decode cX10_init 151 = .ok (.iload_n 1, 1) := by decide +kernel
theorem dX10_init_152 : decode cX10_init 152 = .ok (.iconst 2, 1) := by decide +kernel
theorem dX10_init_153 : decode cX10_init 153 = .ok (.if_icmp .ge 22, 3) := by decide +kernel
theorem dX10_init_156 : decode cX10_init 156 = .ok (.aload_n 0, 1) := by decide +kernel
theorem dX10_init_157 : decode cX10_init 157 = .ok (.getfield 19, 3) := by decide +kernel
theorem dX10_init_160 : decode cX10_init 160 = .ok (.iload_n 1, 1) := by decide +kernel
theorem dX10_init_161 : decode cX10_init 161 = .ok (.new 7, 3) := by decide +kernel
theorem dX10_init_164 : decode cX10_init 164 = .ok (.dup, 1) := by decide +kernel
theorem dX10_init_165 : decode cX10_init 165 = .ok (.invokespecial 9, 3) := by decide +kernel
theorem dX10_init_168 : decode cX10_init 168 = .ok (.aastore, 1) := by decide +kernel
theorem dX10_init_169 : decode cX10_init 169 = .ok (.iinc 1 1, 3) := by decide +kernel
theorem dX10_init_172 : decode cX10_init 172 = .ok (.goto (-21), 3) := by decide +kernel
theorem dX10_init_175 : decode cX10_init 175 = .ok (.return_, 1) := by decide +kernel
theorem dX10_giver_0 : decode cX10_giver 0 = .ok (.iload_n 1, 1) := by decide +kernel
theorem dX10_giver_1 : decode cX10_giver 1 = .ok (.bipush 12, 2) := by decide +kernel
theorem dX10_giver_3 : decode cX10_giver 3 = .ok (.invokestatic 89, 3) := by decide +kernel
theorem dX10_giver_6 : decode cX10_giver 6 = .ok (.ifCond .ne 6, 3) := by decide +kernel
theorem dX10_giver_9 : decode cX10_giver 9 = .ok (.bipush (-2), 2) := by decide +kernel
theorem dX10_giver_11 : decode cX10_giver 11 = .ok (.ireturn, 1) := by decide +kernel
theorem dX10_giver_12 : decode cX10_giver 12 = .ok (.aload_n 0, 1) := by decide +kernel
theorem dX10_giver_13 : decode cX10_giver 13 = .ok (.getfield 10, 3) := by decide +kernel
theorem dX10_giver_16 : decode cX10_giver 16 = .ok (.getfield 93, 3) := by decide +kernel
theorem dX10_giver_19 : decode cX10_giver 19 = .ok (.iconst 5, 1) := by decide +kernel
theorem dX10_giver_20 : decode cX10_giver 20 = .ok (.if_icmp .lt 6, 3) := by decide +kernel
theorem dX10_giver_23 : decode cX10_giver 23 = .ok (.bipush (-4), 2) := by decide +kernel
theorem dX10_giver_25 : decode cX10_giver 25 = .ok (.ireturn, 1) := by decide +kernel
theorem dX10_giver_26 : decode cX10_giver 26 = .ok (.aload_n 0, 1) := by decide +kernel
theorem dX10_giver_27 : decode cX10_giver 27 = .ok (.getfield 10, 3) := by decide +kernel
theorem dX10_giver_30 : decode cX10_giver 30 = .ok (.getfield 97, 3) := by decide +kernel
theorem dX10_giver_33 : decode cX10_giver 33 = .ok (.aload_n 0, 1) := by decide +kernel
theorem dX10_giver_34 : decode cX10_giver 34 = .ok (.getfield 10, 3) := by decide +kernel
theorem dX10_giver_37 : decode cX10_giver 37 = .ok (.getfield 93, 3) := by decide +kernel
theorem dX10_giver_40 : decode cX10_giver 40 = .ok (.iload_n 1, 1) := by decide +kernel
theorem dX10_giver_41 : decode cX10_giver 41 = .ok (.iastore, 1) := by decide +kernel
theorem dX10_giver_42 : decode cX10_giver 42 = .ok (.aload_n 0, 1) := by decide +kernel
theorem dX10_giver_43 : decode cX10_giver 43 = .ok (.getfield 10, 3) := by decide +kernel
theorem dX10_giver_46 : decode cX10_giver 46 = .ok (.dup, 1) := by decide +kernel
theorem dX10_giver_47 : decode cX10_giver 47 = .ok (.getfield 93, 3) := by decide +kernel
theorem dX10_giver_50 : decode cX10_giver 50 = .ok (.iconst 1, 1) := by decide +kernel
theorem dX10_giver_51 : decode cX10_giver 51 = .ok (.iadd, 1) := by decide +kernel
theorem dX10_giver_52 : decode cX10_giver 52 = .ok (.putfield 93, 3) := by decide +kernel
theorem dX10_giver_55 : decode cX10_giver 55 = .ok (.aload_n 0, 1) := by decide +kernel
theorem dX10_giver_56 : decode cX10_giver 56 = .ok (.getfield 10, 3) := by decide +kernel
theorem dX10_giver_59 : decode cX10_giver 59 = .ok (.getfield 93, 3) := by decide +kernel
theorem dX10_giver_62 : decode cX10_giver 62 = .ok (.iconst 1, 1) := by decide +kernel
theorem dX10_giver_63 : decode cX10_giver 63 = .ok (.isub, 1) := by decide +kernel
theorem dX10_giver_64 : decode cX10_giver 64 = .ok (.ireturn, 1) := by decide +kernel
theorem dX10_work_0 : decode cX10_work 0 = .ok (.iload_n 1, 1) := by decide +kernel
theorem dX10_work_1 : decode cX10_work 1 = .ok (.bipush 60, 2) := by decide +kernel
theorem dX10_work_3 : decode cX10_work 3 = .ok (.invokestatic 89, 3) := by decide +kernel
theorem dX10_work_6 : decode cX10_work 6 = .ok (.ifCond .ne 6, 3) := by decide +kernel
theorem dX10_work_9 : decode cX10_work 9 = .ok (.bipush (-2), 2) := by decide +kernel
theorem dX10_work_11 : decode cX10_work 11 = .ok (.ireturn, 1) := by decide +kernel
theorem dX10_work_12 : decode cX10_work 12 = .ok (.aload_n 0, 1) := by decide +kernel
theorem dX10_work_13 : decode cX10_work 13 = .ok (.getfield 10, 3) := by decide +kernel
theorem dX10_work_16 : decode cX10_work 16 = .ok (.getfield 101, 3) := by decide +kernel
theorem dX10_work_19 : decode cX10_work 19 = .ok (.iconst 3, 1) := by decide +kernel
theorem dX10_work_20 : decode cX10_work 20 = .ok (.if_icmp .lt 6, 3) := by decide +kernel
theorem dX10_work_23 : decode cX10_work 23 = .ok (.bipush (-4), 2) := by decide +kernel
theorem dX10_work_25 : decode cX10_work 25 = .ok (.ireturn, 1) := by decide +kernel
theorem dX10_work_26 : decode cX10_work 26 = .ok (.aload_n 0, 1) := by decide +kernel
theorem dX10_work_27 : decode cX10_work 27 = .ok (.getfield 10, 3) := by decide +kernel
theorem dX10_work_30 : decode cX10_work 30 = .ok (.getfield 104, 3) := by decide +kernel
theorem dX10_work_33 : decode cX10_work 33 = .ok (.aload_n 0, 1) := by decide +kernel
theorem dX10_work_34 : decode cX10_work 34 = .ok (.getfield 10, 3) := by decide +kernel
theorem dX10_work_37 : decode cX10_work 37 = .ok (.getfield 101, 3) := by decide +kernel
theorem dX10_work_40 : decode cX10_work 40 = .ok (.iload_n 1, 1) := by decide +kernel
theorem dX10_work_41 : decode cX10_work 41 = .ok (.iastore, 1) := by decide +kernel
theorem dX10_work_42 : decode cX10_work 42 = .ok (.aload_n 0, 1) := by decide +kernel
theorem dX10_work_43 : decode cX10_work 43 = .ok (.getfield 10, 3) := by decide +kernel
theorem dX10_work_46 : decode cX10_work 46 = .ok (.dup, 1) := by decide +kernel
theorem dX10_work_47 : decode cX10_work 47 = .ok (.getfield 101, 3) := by decide +kernel
theorem dX10_work_50 : decode cX10_work 50 = .ok (.iconst 1, 1) := by decide +kernel
theorem dX10_work_51 : decode cX10_work 51 = .ok (.iadd, 1) := by decide +kernel
theorem dX10_work_52 : decode cX10_work 52 = .ok (.putfield 101, 3) := by decide +kernel
end
section
theorem dX10_work_55 : decode cX10_work 55 = .ok (.aload_n 0, 1) := by decide +kernel
theorem dX10_work_56 : decode cX10_work 56 = .ok (.getfield 10, 3) := by decide +kernel
theorem dX10_work_59 : decode cX10_work 59 = .ok (.getfield 101, 3) := by decide +kernel
theorem dX10_work_62 : decode cX10_work 62 = .ok (.iconst 1, 1) := by decide +kernel
theorem dX10_work_63 : decode cX10_work 63 = .ok (.isub, 1) := by decide +kernel
theorem dX10_work_64 : decode cX10_work 64 = .ok (.ireturn, 1) := by decide +kernel
theorem dX10_worth_0 : decode cX10_worth 0 = .ok (.aload_n 0, 1) := by decide +kernel
theorem dX10_worth_1 : decode cX10_worth 1 = .ok (.iload_n 1, 1) := by decide +kernel
theorem dX10_worth_2 : decode cX10_worth 2 = .ok (.iload_n 2, 1) := by decide +kernel
theorem dX10_worth_3 : decode cX10_worth 3 = .ok (.invokevirtual 107, 3) := by decide +kernel
theorem dX10_worth_6 : decode cX10_worth 6 = .ok (.ifCond .eq 23, 3) := by decide +kernel
theorem dX10_worth_9 : decode cX10_worth 9 = .ok (.iload_n 3, 1) := by decide +kernel
theorem dX10_worth_10 : decode cX10_worth 10 = .ok (.sipush 200, 3) := by decide +kernel
theorem dX10_worth_13 : decode cX10_worth 13 = .ok (.invokestatic 89, 3) := by decide +kernel
theorem dX10_worth_16 : decode cX10_worth 16 = .ok (.ifCond .eq 13, 3) := by decide +kernel
theorem dX10_worth_19 : decode cX10_worth 19 = .ok (.iload 4, 2) := by decide +kernel
theorem dX10_worth_21 : decode cX10_worth 21 = .ok (.bipush 50, 2) := by decide +kernel
theorem dX10_worth_23 : decode cX10_worth 23 = .ok (.invokestatic 89, 3) := by decide +kernel
theorem dX10_worth_26 : decode cX10_worth 26 = .ok (.ifCond .ne 6, 3) := by decide +kernel
theorem dX10_worth_29 : decode cX10_worth 29 = .ok (.bipush (-2), 2) := by decide +kernel
theorem dX10_worth_31 : decode cX10_worth 31 = .ok (.ireturn, 1) := by decide +kernel
theorem dX10_worth_32 : decode cX10_worth 32 = .ok (.aload_n 0, 1) := by decide +kernel
theorem dX10_worth_33 : decode cX10_worth 33 = .ok (.getfield 10, 3) := by decide +kernel
theorem dX10_worth_36 : decode cX10_worth 36 = .ok (.getfield 110, 3) := by decide +kernel
theorem dX10_worth_39 : decode cX10_worth 39 = .ok (.iload_n 1, 1) := by decide +kernel
theorem dX10_worth_40 : decode cX10_worth 40 = .ok (.iconst 3, 1) := by decide +kernel
theorem dX10_worth_41 : decode cX10_worth 41 = .ok (.imul, 1) := by decide +kernel
theorem dX10_worth_42 : decode cX10_worth 42 = .ok (.iload_n 2, 1) := by decide +kernel
theorem dX10_worth_43 : decode cX10_worth 43 = .ok (.iadd, 1) := by decide +kernel
theorem dX10_worth_44 : decode cX10_worth 44 = .ok (.iload_n 3, 1) := by decide +kernel
theorem dX10_worth_45 : decode cX10_worth 45 = .ok (.iastore, 1) := by decide +kernel
theorem dX10_worth_46 : decode cX10_worth 46 = .ok (.aload_n 0, 1) := by decide +kernel
theorem dX10_worth_47 : decode cX10_worth 47 = .ok (.getfield 10, 3) := by decide +kernel
theorem dX10_worth_50 : decode cX10_worth 50 = .ok (.getfield 113, 3) := by decide +kernel
theorem dX10_worth_53 : decode cX10_worth 53 = .ok (.iload_n 1, 1) := by decide +kernel
theorem dX10_worth_54 : decode cX10_worth 54 = .ok (.iconst 3, 1) := by decide +kernel
theorem dX10_worth_55 : decode cX10_worth 55 = .ok (.imul, 1) := by decide +kernel
theorem dX10_worth_56 : decode cX10_worth 56 = .ok (.iload_n 2, 1) := by decide +kernel
theorem dX10_worth_57 : decode cX10_worth 57 = .ok (.iadd, 1) := by decide +kernel
theorem dX10_worth_58 : decode cX10_worth 58 = .ok (.iload 4, 2) := by decide +kernel
theorem dX10_worth_60 : decode cX10_worth 60 = .ok (.iastore, 1) := by decide +kernel
theorem dX10_worth_61 : decode cX10_worth 61 = .ok (.iconst 1, 1) := by decide +kernel
theorem dX10_worth_62 : decode cX10_worth 62 = .ok (.ireturn, 1) := by decide +kernel
theorem dX10_set_0 : decode cX10_set 0 = .ok (.iload_n 1, 1) := by decide +kernel
theorem dX10_set_1 : decode cX10_set 1 = .ok (.tableswitch 55 0 3 #[31, 37, 43, 49], 31) := by decide +kernel
theorem dX10_set_32 : decode cX10_set 32 = .ok (.aload_n 0, 1) := by decide +kernel
theorem dX10_set_33 : decode cX10_set 33 = .ok (.iload_n 2, 1) := by decide +kernel
theorem dX10_set_34 : decode cX10_set 34 = .ok (.invokevirtual 116, 3) := by decide +kernel
theorem dX10_set_37 : decode cX10_set 37 = .ok (.ireturn, 1) := by decide +kernel
theorem dX10_set_38 : decode cX10_set 38 = .ok (.aload_n 0, 1) := by decide +kernel
theorem dX10_set_39 : decode cX10_set 39 = .ok (.iload_n 2, 1) := by decide +kernel
theorem dX10_set_40 : decode cX10_set 40 = .ok (.invokevirtual 120, 3) := by decide +kernel
theorem dX10_set_43 : decode cX10_set 43 = .ok (.ireturn, 1) := by decide +kernel
theorem dX10_set_44 : decode cX10_set 44 = .ok (.aload_n 0, 1) := by decide +kernel
theorem dX10_set_45 : decode cX10_set 45 = .ok (.iload_n 2, 1) := by decide +kernel
theorem dX10_set_46 : decode cX10_set 46 = .ok (.invokevirtual 123, 3) := by decide +kernel
theorem dX10_set_49 : decode cX10_set 49 = .ok (.ireturn, 1) := by decide +kernel
theorem dX10_set_50 : decode cX10_set 50 = .ok (.aload_n 0, 1) := by decide +kernel
theorem dX10_set_51 : decode cX10_set 51 = .ok (.iload_n 2, 1) := by decide +kernel
theorem dX10_set_52 : decode cX10_set 52 = .ok (.invokevirtual 126, 3) := by decide +kernel
theorem dX10_set_55 : decode cX10_set 55 = .ok (.ireturn, 1) := by decide +kernel
theorem dX10_set_56 : decode cX10_set 56 = .ok (.bipush (-2), 2) := by decide +kernel
theorem dX10_set_58 : decode cX10_set 58 = .ok (.ireturn, 1) := by decide +kernel
theorem dX10_write_0 : decode cX10_write 0 = .ok (.iload_n 1, 1) := by decide +kernel
theorem dX10_write_1 : decode cX10_write 1 = .ok (.invokestatic 129, 3) := by decide +kernel
theorem dX10_write_4 : decode cX10_write 4 = .ok (.ifCond .eq 12, 3) := by decide +kernel
theorem dX10_write_7 : decode cX10_write 7 = .ok (.iload_n 2, 1) := by decide +kernel
theorem dX10_write_8 : decode cX10_write 8 = .ok (.bipush 127, 2) := by decide +kernel
theorem dX10_write_10 : decode cX10_write 10 = .ok (.invokestatic 89, 3) := by decide +kernel
theorem dX10_write_13 : decode cX10_write 13 = .ok (.ifCond .ne 6, 3) := by decide +kernel
theorem dX10_write_16 : decode cX10_write 16 = .ok (.bipush (-2), 2) := by decide +kernel
theorem dX10_write_18 : decode cX10_write 18 = .ok (.ireturn, 1) := by decide +kernel
theorem dX10_write_19 : decode cX10_write 19 = .ok (.aload_n 0, 1) := by decide +kernel
theorem dX10_write_20 : decode cX10_write 20 = .ok (.getfield 10, 3) := by decide +kernel
theorem dX10_write_23 : decode cX10_write 23 = .ok (.getfield 133, 3) := by decide +kernel
theorem dX10_write_26 : decode cX10_write 26 = .ok (.iload_n 1, 1) := by decide +kernel
theorem dX10_write_27 : decode cX10_write 27 = .ok (.aaload, 1) := by decide +kernel
theorem dX10_write_28 : decode cX10_write 28 = .ok (.astore_n 3, 1) := by decide +kernel
theorem dX10_write_29 : decode cX10_write 29 = .ok (.aload_n 3, 1) := by decide +kernel
theorem dX10_write_30 : decode cX10_write 30 = .ok (.getfield 137, 3) := by decide +kernel
theorem dX10_write_33 : decode cX10_write 33 = .ok (.bipush 40, 2) := by decide +kernel
theorem dX10_write_35 : decode cX10_write 35 = .ok (.if_icmp .lt 6, 3) := by decide +kernel
theorem dX10_write_38 : decode cX10_write 38 = .ok (.bipush (-4), 2) := by decide +kernel
theorem dX10_write_40 : decode cX10_write 40 = .ok (.ireturn, 1) := by decide +kernel
theorem dX10_write_41 : decode cX10_write 41 = .ok (.aload_n 3, 1) := by decide +kernel
theorem dX10_write_42 : decode cX10_write 42 = .ok (.getfield 142, 3) := by decide +kernel
theorem dX10_write_45 : decode cX10_write 45 = .ok (.aload_n 3, 1) := by decide +kernel
theorem dX10_write_46 : decode cX10_write 46 = .ok (.getfield 137, 3) := by decide +kernel
theorem dX10_write_49 : decode cX10_write 49 = .ok (.iload_n 2, 1) := by decide +kernel
theorem dX10_write_50 : decode cX10_write 50 = .ok (.iastore, 1) := by decide +kernel
theorem dX10_write_51 : decode cX10_write 51 = .ok (.aload_n 3, 1) := by decide +kernel
theorem dX10_write_52 : decode cX10_write 52 = .ok (.dup, 1) := by decide +kernel
theorem dX10_write_53 : decode cX10_write 53 = .ok (.getfield 137, 3) := by decide +kernel
theorem dX10_write_56 : decode cX10_write 56 = .ok (.iconst 1, 1) := by decide +kernel
theorem dX10_write_57 : decode cX10_write 57 = .ok (.iadd, 1) := by decide +kernel
theorem dX10_write_58 : decode cX10_write 58 = .ok (.putfield 137, 3) := by decide +kernel
theorem dX10_write_61 : decode cX10_write 61 = .ok (.aload_n 0, 1) := by decide +kernel
theorem dX10_write_62 : decode cX10_write 62 = .ok (.getfield 30, 3) := by decide +kernel
theorem dX10_write_65 : decode cX10_write 65 = .ok (.aload_n 3, 1) := by decide +kernel
theorem dX10_write_66 : decode cX10_write 66 = .ok (.invokevirtual 145, 3) := by decide +kernel
theorem dX10_write_69 : decode cX10_write 69 = .ok (.aload_n 3, 1) := by decide +kernel
theorem dX10_write_70 : decode cX10_write 70 = .ok (.getfield 137, 3) := by decide +kernel
theorem dX10_write_73 : decode cX10_write 73 = .ok (.ireturn, 1) := by decide +kernel
theorem dX10_erase_0 : decode cX10_erase 0 = .ok (.iload_n 1, 1) := by decide +kernel
theorem dX10_erase_1 : decode cX10_erase 1 = .ok (.invokestatic 129, 3) := by decide +kernel
theorem dX10_erase_4 : decode cX10_erase 4 = .ok (.ifCond .ne 6, 3) := by decide +kernel
theorem dX10_erase_7 : decode cX10_erase 7 = .ok (.bipush (-2), 2) := by decide +kernel
theorem dX10_erase_9 : decode cX10_erase 9 = .ok (.ireturn, 1) := by decide +kernel
theorem dX10_erase_10 : decode cX10_erase 10 = .ok (.aload_n 0, 1) := by decide +kernel
theorem dX10_erase_11 : decode cX10_erase 11 = .ok (.getfield 10, 3) := by decide +kernel
theorem dX10_erase_14 : decode cX10_erase 14 = .ok (.getfield 133, 3) := by decide +kernel
theorem dX10_erase_17 : decode cX10_erase 17 = .ok (.iload_n 1, 1) := by decide +kernel
theorem dX10_erase_18 : decode cX10_erase 18 = .ok (.aaload, 1) := by decide +kernel
theorem dX10_erase_19 : decode cX10_erase 19 = .ok (.astore_n 2, 1) := by decide +kernel
theorem dX10_erase_20 : decode cX10_erase 20 = .ok (.aload_n 2, 1) := by decide +kernel
theorem dX10_erase_21 : decode cX10_erase 21 = .ok (.getfield 137, 3) := by decide +kernel
theorem dX10_erase_24 : decode cX10_erase 24 = .ok (.istore_n 3, 1) := by decide +kernel
theorem dX10_erase_25 : decode cX10_erase 25 = .ok (.aload_n 2, 1) := by decide +kernel
theorem dX10_erase_26 : decode cX10_erase 26 = .ok (.iconst 0, 1) := by decide +kernel
theorem dX10_erase_27 : decode cX10_erase 27 = .ok (.putfield 137, 3) := by decide +kernel
theorem dX10_erase_30 : decode cX10_erase 30 = .ok (.aload_n 0, 1) := by decide +kernel
theorem dX10_erase_31 : decode cX10_erase 31 = .ok (.getfield 30, 3) := by decide +kernel
theorem dX10_erase_34 : decode cX10_erase 34 = .ok (.aload_n 2, 1) := by decide +kernel
theorem dX10_erase_35 : decode cX10_erase 35 = .ok (.invokevirtual 145, 3) := by decide +kernel
theorem dX10_erase_38 : decode cX10_erase 38 = .ok (.iload_n 3, 1) := by decide +kernel
theorem dX10_erase_39 : decode cX10_erase 39 = .ok (.ireturn, 1) := by decide +kernel
theorem dX10_fault_0 : decode cX10_fault 0 = .ok (.iload_n 1, 1) := by decide +kernel
theorem dX10_fault_1 : decode cX10_fault 1 = .ok (.invokestatic 129, 3) := by decide +kernel
theorem dX10_fault_4 : decode cX10_fault 4 = .ok (.ifCond .eq 18, 3) := by decide +kernel
theorem dX10_fault_7 : decode cX10_fault 7 = .ok (.aload_n 0, 1) := by decide +kernel
theorem dX10_fault_8 : decode cX10_fault 8 = .ok (.getfield 10, 3) := by decide +kernel
theorem dX10_fault_11 : decode cX10_fault 11 = .ok (.getfield 133, 3) := by decide +kernel
theorem dX10_fault_14 : decode cX10_fault 14 = .ok (.iload_n 1, 1) := by decide +kernel
theorem dX10_fault_15 : decode cX10_fault 15 = .ok (.aaload, 1) := by decide +kernel
theorem dX10_fault_16 : decode cX10_fault 16 = .ok (.getfield 149, 3) := by decide +kernel
theorem dX10_fault_19 : decode cX10_fault 19 = .ok (.goto 5, 3) := by decide +kernel
theorem dX10_fault_22 : decode cX10_fault 22 = .ok (.bipush (-2), 2) := by decide +kernel
theorem dX10_fault_24 : decode cX10_fault 24 = .ok (.ireturn, 1) := by decide +kernel
theorem dX10_give_0 : decode cX10_give 0 = .ok (.aload_n 0, 1) := by decide +kernel
theorem dX10_give_1 : decode cX10_give 1 = .ok (.iload_n 1, 1) := by decide +kernel
theorem dX10_give_2 : decode cX10_give 2 = .ok (.iload_n 2, 1) := by decide +kernel
theorem dX10_give_3 : decode cX10_give 3 = .ok (.invokevirtual 107, 3) := by decide +kernel
theorem dX10_give_6 : decode cX10_give 6 = .ok (.ifCond .eq 12, 3) := by decide +kernel
theorem dX10_give_9 : decode cX10_give 9 = .ok (.iload_n 3, 1) := by decide +kernel
theorem dX10_give_10 : decode cX10_give 10 = .ok (.bipush 12, 2) := by decide +kernel
theorem dX10_give_12 : decode cX10_give 12 = .ok (.invokestatic 89, 3) := by decide +kernel
theorem dX10_give_15 : decode cX10_give 15 = .ok (.ifCond .ne 6, 3) := by decide +kernel
theorem dX10_give_18 : decode cX10_give 18 = .ok (.bipush (-2), 2) := by decide +kernel
theorem dX10_give_20 : decode cX10_give 20 = .ok (.ireturn, 1) := by decide +kernel
theorem dX10_give_21 : decode cX10_give 21 = .ok (.iload_n 1, 1) := by decide +kernel
theorem dX10_give_22 : decode cX10_give 22 = .ok (.iconst 3, 1) := by decide +kernel
theorem dX10_give_23 : decode cX10_give 23 = .ok (.imul, 1) := by decide +kernel
theorem dX10_give_24 : decode cX10_give 24 = .ok (.iload_n 2, 1) := by decide +kernel
theorem dX10_give_25 : decode cX10_give 25 = .ok (.iadd, 1) := by decide +kernel
theorem dX10_give_26 : decode cX10_give 26 = .ok (.istore 4, 2) := by decide +kernel
theorem dX10_give_28 : decode cX10_give 28 = .ok (.aload_n 0, 1) := by decide +kernel
theorem dX10_give_29 : decode cX10_give 29 = .ok (.getfield 10, 3) := by decide +kernel
theorem dX10_give_32 : decode cX10_give 32 = .ok (.getfield 152, 3) := by decide +kernel
theorem dX10_give_35 : decode cX10_give 35 = .ok (.iload 4, 2) := by decide +kernel
theorem dX10_give_37 : decode cX10_give 37 = .ok (.iaload, 1) := by decide +kernel
theorem dX10_give_38 : decode cX10_give 38 = .ok (.istore 5, 2) := by decide +kernel
theorem dX10_give_40 : decode cX10_give 40 = .ok (.aload_n 0, 1) := by decide +kernel
theorem dX10_give_41 : decode cX10_give 41 = .ok (.getfield 10, 3) := by decide +kernel
theorem dX10_give_44 : decode cX10_give 44 = .ok (.iload_n 1, 1) := by decide +kernel
theorem dX10_give_45 : decode cX10_give 45 = .ok (.invokevirtual 155, 3) := by decide +kernel
theorem dX10_give_48 : decode cX10_give 48 = .ok (.iload 5, 2) := by decide +kernel
theorem dX10_give_50 : decode cX10_give 50 = .ok (.isub, 1) := by decide +kernel
theorem dX10_give_51 : decode cX10_give 51 = .ok (.iload_n 3, 1) := by decide +kernel
theorem dX10_give_52 : decode cX10_give 52 = .ok (.iadd, 1) := by decide +kernel
theorem dX10_give_53 : decode cX10_give 53 = .ok (.aload_n 0, 1) := by decide +kernel
theorem dX10_give_54 : decode cX10_give 54 = .ok (.getfield 10, 3) := by decide +kernel
theorem dX10_give_57 : decode cX10_give 57 = .ok (.getfield 97, 3) := by decide +kernel
theorem dX10_give_60 : decode cX10_give 60 = .ok (.iload_n 1, 1) := by decide +kernel
theorem dX10_give_61 : decode cX10_give 61 = .ok (.iaload, 1) := by decide +kernel
theorem dX10_give_62 : decode cX10_give 62 = .ok (.if_icmp .le 6, 3) := by decide +kernel
theorem dX10_give_65 : decode cX10_give 65 = .ok (.bipush (-2), 2) := by decide +kernel
theorem dX10_give_67 : decode cX10_give 67 = .ok (.ireturn, 1) := by decide +kernel
theorem dX10_give_68 : decode cX10_give 68 = .ok (.aload_n 0, 1) := by decide +kernel
theorem dX10_give_69 : decode cX10_give 69 = .ok (.getfield 10, 3) := by decide +kernel
theorem dX10_give_72 : decode cX10_give 72 = .ok (.getfield 152, 3) := by decide +kernel
theorem dX10_give_75 : decode cX10_give 75 = .ok (.iload 4, 2) := by decide +kernel
theorem dX10_give_77 : decode cX10_give 77 = .ok (.iload_n 3, 1) := by decide +kernel
theorem dX10_give_78 : decode cX10_give 78 = .ok (.iastore, 1) := by decide +kernel
theorem dX10_give_79 : decode cX10_give 79 = .ok (.iload 5, 2) := by decide +kernel
theorem dX10_give_81 : decode cX10_give 81 = .ok (.ireturn, 1) := by decide +kernel
theorem dX10_amount_0 : decode cX10_amount 0 = .ok (.aload_n 0, 1) := by decide +kernel
theorem dX10_amount_1 : decode cX10_amount 1 = .ok (.iload_n 1, 1) := by decide +kernel
theorem dX10_amount_2 : decode cX10_amount 2 = .ok (.invokevirtual 158, 3) := by decide +kernel
theorem dX10_amount_5 : decode cX10_amount 5 = .ok (.ifCond .ne 6, 3) := by decide +kernel
theorem dX10_amount_8 : decode cX10_amount 8 = .ok (.bipush (-2), 2) := by decide +kernel
theorem dX10_amount_10 : decode cX10_amount 10 = .ok (.ireturn, 1) := by decide +kernel
theorem dX10_amount_11 : decode cX10_amount 11 = .ok (.aload_n 0, 1) := by decide +kernel
theorem dX10_amount_12 : decode cX10_amount 12 = .ok (.getfield 46, 3) := by decide +kernel
theorem dX10_amount_15 : decode cX10_amount 15 = .ok (.aload_n 0, 1) := by decide +kernel
theorem dX10_amount_16 : decode cX10_amount 16 = .ok (.getfield 10, 3) := by decide +kernel
theorem dX10_amount_19 : decode cX10_amount 19 = .ok (.invokevirtual 161, 3) := by decide +kernel
theorem dX10_amount_22 : decode cX10_amount 22 = .ok (.iload_n 2, 1) := by decide +kernel
theorem dX10_amount_23 : decode cX10_amount 23 = .ok (.tableswitch 79 0 3 #[29, 39, 49, 59], 29) := by decide +kernel
theorem dX10_amount_52 : decode cX10_amount 52 = .ok (.aload_n 0, 1) := by decide +kernel
theorem dX10_amount_53 : decode cX10_amount 53 = .ok (.getfield 46, 3) := by decide +kernel
theorem dX10_amount_56 : decode cX10_amount 56 = .ok (.getfield 165, 3) := by decide +kernel
theorem dX10_amount_59 : decode cX10_amount 59 = .ok (.iload_n 1, 1) := by decide +kernel
theorem dX10_amount_60 : decode cX10_amount 60 = .ok (.iaload, 1) := by decide +kernel
theorem dX10_amount_61 : decode cX10_amount 61 = .ok (.ireturn, 1) := by decide +kernel
theorem dX10_amount_62 : decode cX10_amount 62 = .ok (.aload_n 0, 1) := by decide +kernel
theorem dX10_amount_63 : decode cX10_amount 63 = .ok (.getfield 46, 3) := by decide +kernel
theorem dX10_amount_66 : decode cX10_amount 66 = .ok (.getfield 168, 3) := by decide +kernel
theorem dX10_amount_69 : decode cX10_amount 69 = .ok (.iload_n 1, 1) := by decide +kernel
theorem dX10_amount_70 : decode cX10_amount 70 = .ok (.iaload, 1) := by decide +kernel
theorem dX10_amount_71 : decode cX10_amount 71 = .ok (.ireturn, 1) := by decide +kernel
theorem dX10_amount_72 : decode cX10_amount 72 = .ok (.aload_n 0, 1) := by decide +kernel
theorem dX10_amount_73 : decode cX10_amount 73 = .ok (.getfield 46, 3) := by decide +kernel
theorem dX10_amount_76 : decode cX10_amount 76 = .ok (.getfield 171, 3) := by decide +kernel
theorem dX10_amount_79 : decode cX10_amount 79 = .ok (.iload_n 1, 1) := by decide +kernel
theorem dX10_amount_80 : decode cX10_amount 80 = .ok (.iaload, 1) := by decide +kernel
theorem dX10_amount_81 : decode cX10_amount 81 = .ok (.ireturn, 1) := by decide +kernel
theorem dX10_amount_82 : decode cX10_amount 82 = .ok (.aload_n 0, 1) := by decide +kernel
theorem dX10_amount_83 : decode cX10_amount 83 = .ok (.getfield 46, 3) := by decide +kernel
theorem dX10_amount_86 : decode cX10_amount 86 = .ok (.getfield 165, 3) := by decide +kernel
theorem dX10_amount_89 : decode cX10_amount 89 = .ok (.iload_n 1, 1) := by decide +kernel
theorem dX10_amount_90 : decode cX10_amount 90 = .ok (.iaload, 1) := by decide +kernel
theorem dX10_amount_91 : decode cX10_amount 91 = .ok (.aload_n 0, 1) := by decide +kernel
theorem dX10_amount_92 : decode cX10_amount 92 = .ok (.getfield 46, 3) := by decide +kernel
theorem dX10_amount_95 : decode cX10_amount 95 = .ok (.getfield 171, 3) := by decide +kernel
theorem dX10_amount_98 : decode cX10_amount 98 = .ok (.iload_n 1, 1) := by decide +kernel
theorem dX10_amount_99 : decode cX10_amount 99 = .ok (.iaload, 1) := by decide +kernel
theorem dX10_amount_100 : decode cX10_amount 100 = .ok (.iadd, 1) := by decide +kernel
theorem dX10_amount_101 : decode cX10_amount 101 = .ok (.ireturn, 1) := by decide +kernel
theorem dX10_amount_102 : decode cX10_amount 102 = .ok (.bipush (-2), 2) := by decide +kernel
theorem dX10_amount_104 : decode cX10_amount 104 = .ok (.ireturn, 1) := by decide +kernel
theorem dX10_isShort_0 : decode cX10_isShort 0 = .ok (.aload_n 0, 1) := by decide +kernel
theorem dX10_isShort_1 : decode cX10_isShort 1 = .ok (.getfield 46, 3) := by decide +kernel
theorem dX10_isShort_4 : decode cX10_isShort 4 = .ok (.aload_n 0, 1) := by decide +kernel
theorem dX10_isShort_5 : decode cX10_isShort 5 = .ok (.getfield 10, 3) := by decide +kernel
theorem dX10_isShort_8 : decode cX10_isShort 8 = .ok (.invokevirtual 161, 3) := by decide +kernel
theorem dX10_isShort_11 : decode cX10_isShort 11 = .ok (.aload_n 0, 1) := by decide +kernel
theorem dX10_isShort_12 : decode cX10_isShort 12 = .ok (.getfield 46, 3) := by decide +kernel
theorem dX10_isShort_15 : decode cX10_isShort 15 = .ok (.getfield 174, 3) := by decide +kernel
theorem dX10_isShort_18 : decode cX10_isShort 18 = .ok (.ifCond .eq 7, 3) := by decide +kernel
theorem dX10_isShort_21 : decode cX10_isShort 21 = .ok (.iconst 1, 1) := by decide +kernel
theorem dX10_isShort_22 : decode cX10_isShort 22 = .ok (.goto 4, 3) := by decide +kernel
theorem dX10_isShort_25 : decode cX10_isShort 25 = .ok (.iconst 0, 1) := by decide +kernel
theorem dX10_isShort_26 : decode cX10_isShort 26 = .ok (.ireturn, 1) := by decide +kernel
theorem dX10_has_0 : decode cX10_has 0 = .ok (.iload_n 1, 1) := by decide +kernel
theorem dX10_has_1 : decode cX10_has 1 = .ok (.iconst (-1), 1) := by decide +kernel
theorem dX10_has_2 : decode cX10_has 2 = .ok (.if_icmp .eq 14, 3) := by decide +kernel
theorem dX10_has_5 : decode cX10_has 5 = .ok (.aload_n 0, 1) := by decide +kernel
theorem dX10_has_6 : decode cX10_has 6 = .ok (.iload_n 1, 1) := by decide +kernel
theorem dX10_has_7 : decode cX10_has 7 = .ok (.invokevirtual 178, 3) := by decide +kernel
theorem dX10_has_10 : decode cX10_has 10 = .ok (.ifCond .ne 6, 3) := by decide +kernel
theorem dX10_has_13 : decode cX10_has 13 = .ok (.bipush (-2), 2) := by decide +kernel
theorem dX10_has_15 : decode cX10_has 15 = .ok (.ireturn, 1) := by decide +kernel
theorem dX10_has_16 : decode cX10_has 16 = .ok (.aload_n 0, 1) := by decide +kernel
theorem dX10_has_17 : decode cX10_has 17 = .ok (.getfield 46, 3) := by decide +kernel
theorem dX10_has_20 : decode cX10_has 20 = .ok (.aload_n 0, 1) := by decide +kernel
theorem dX10_has_21 : decode cX10_has 21 = .ok (.getfield 10, 3) := by decide +kernel
theorem dX10_has_24 : decode cX10_has 24 = .ok (.invokevirtual 161, 3) := by decide +kernel
theorem dX10_has_27 : decode cX10_has 27 = .ok (.iload_n 1, 1) := by decide +kernel
theorem dX10_has_28 : decode cX10_has 28 = .ok (.iconst (-1), 1) := by decide +kernel
theorem dX10_has_29 : decode cX10_has 29 = .ok (.if_icmp .ne 17, 3) := by decide +kernel
theorem dX10_has_32 : decode cX10_has 32 = .ok (.aload_n 0, 1) := by decide +kernel
theorem dX10_has_33 : decode cX10_has 33 = .ok (.getfield 46, 3) := by decide +kernel
theorem dX10_has_36 : decode cX10_has 36 = .ok (.aload_n 0, 1) := by decide +kernel
theorem dX10_has_37 : decode cX10_has 37 = .ok (.getfield 10, 3) := by decide +kernel
theorem dX10_has_40 : decode cX10_has 40 = .ok (.invokevirtual 181, 3) := by decide +kernel
theorem dX10_has_43 : decode cX10_has 43 = .ok (.goto 23, 3) := by decide +kernel
theorem dX10_has_46 : decode cX10_has 46 = .ok (.aload_n 0, 1) := by decide +kernel
theorem dX10_has_47 : decode cX10_has 47 = .ok (.getfield 46, 3) := by decide +kernel
theorem dX10_has_50 : decode cX10_has 50 = .ok (.aload_n 0, 1) := by decide +kernel
theorem dX10_has_51 : decode cX10_has 51 = .ok (.getfield 10, 3) := by decide +kernel
theorem dX10_has_54 : decode cX10_has 54 = .ok (.iload_n 1, 1) := by decide +kernel
theorem dX10_has_55 : decode cX10_has 55 = .ok (.aload_n 0, 1) := by decide +kernel
theorem dX10_has_56 : decode cX10_has 56 = .ok (.getfield 10, 3) := by decide +kernel
theorem dX10_has_59 : decode cX10_has 59 = .ok (.iload_n 1, 1) := by decide +kernel
theorem dX10_has_60 : decode cX10_has 60 = .ok (.invokevirtual 185, 3) := by decide +kernel
theorem dX10_has_63 : decode cX10_has 63 = .ok (.invokevirtual 188, 3) := by decide +kernel
theorem dX10_has_66 : decode cX10_has 66 = .ok (.ireturn, 1) := by decide +kernel
theorem dX10_best_0 : decode cX10_best 0 = .ok (.aload_n 0, 1) := by decide +kernel
theorem dX10_best_1 : decode cX10_best 1 = .ok (.iload_n 1, 1) := by decide +kernel
theorem dX10_best_2 : decode cX10_best 2 = .ok (.invokevirtual 178, 3) := by decide +kernel
theorem dX10_best_5 : decode cX10_best 5 = .ok (.ifCond .eq 16, 3) := by decide +kernel
theorem dX10_best_8 : decode cX10_best 8 = .ok (.iload_n 2, 1) := by decide +kernel
theorem dX10_best_9 : decode cX10_best 9 = .ok (.iconst (-1), 1) := by decide +kernel
theorem dX10_best_10 : decode cX10_best 10 = .ok (.if_icmp .eq 14, 3) := by decide +kernel
theorem dX10_best_13 : decode cX10_best 13 = .ok (.aload_n 0, 1) := by decide +kernel
theorem dX10_best_14 : decode cX10_best 14 = .ok (.iload_n 2, 1) := by decide +kernel
theorem dX10_best_15 : decode cX10_best 15 = .ok (.invokevirtual 158, 3) := by decide +kernel
theorem dX10_best_18 : decode cX10_best 18 = .ok (.ifCond .ne 6, 3) := by decide +kernel
theorem dX10_best_21 : decode cX10_best 21 = .ok (.bipush (-10), 2) := by decide +kernel
theorem dX10_best_23 : decode cX10_best 23 = .ok (.ireturn, 1) := by decide +kernel
theorem dX10_best_24 : decode cX10_best 24 = .ok (.aload_n 0, 1) := by decide +kernel
theorem dX10_best_25 : decode cX10_best 25 = .ok (.getfield 55, 3) := by decide +kernel
theorem dX10_best_28 : decode cX10_best 28 = .ok (.aload_n 0, 1) := by decide +kernel
theorem dX10_best_29 : decode cX10_best 29 = .ok (.getfield 10, 3) := by decide +kernel
theorem dX10_best_32 : decode cX10_best 32 = .ok (.iload_n 1, 1) := by decide +kernel
theorem dX10_best_33 : decode cX10_best 33 = .ok (.invokevirtual 192, 3) := by decide +kernel
theorem dX10_best_36 : decode cX10_best 36 = .ok (.iload_n 2, 1) := by decide +kernel
theorem dX10_best_37 : decode cX10_best 37 = .ok (.iconst (-1), 1) := by decide +kernel
theorem dX10_best_38 : decode cX10_best 38 = .ok (.if_icmp .ne 13, 3) := by decide +kernel
theorem dX10_best_41 : decode cX10_best 41 = .ok (.aload_n 0, 1) := by decide +kernel
theorem dX10_best_42 : decode cX10_best 42 = .ok (.getfield 55, 3) := by decide +kernel
theorem dX10_best_45 : decode cX10_best 45 = .ok (.getfield 196, 3) := by decide +kernel
theorem dX10_best_48 : decode cX10_best 48 = .ok (.goto 12, 3) := by decide +kernel
theorem dX10_best_51 : decode cX10_best 51 = .ok (.aload_n 0, 1) := by decide +kernel
theorem dX10_best_52 : decode cX10_best 52 = .ok (.getfield 55, 3) := by decide +kernel
theorem dX10_best_55 : decode cX10_best 55 = .ok (.getfield 199, 3) := by decide +kernel
theorem dX10_best_58 : decode cX10_best 58 = .ok (.iload_n 2, 1) := by decide +kernel
theorem dX10_best_59 : decode cX10_best 59 = .ok (.iaload, 1) := by decide +kernel
theorem dX10_best_60 : decode cX10_best 60 = .ok (.ireturn, 1) := by decide +kernel
theorem dX10_rest_0 : decode cX10_rest 0 = .ok (.iload_n 1, 1) := by decide +kernel
theorem dX10_rest_1 : decode cX10_rest 1 = .ok (.iconst 1, 1) := by decide +kernel
theorem dX10_rest_2 : decode cX10_rest 2 = .ok (.invokestatic 89, 3) := by decide +kernel
theorem dX10_rest_5 : decode cX10_rest 5 = .ok (.ifCond .ne 6, 3) := by decide +kernel
theorem dX10_rest_8 : decode cX10_rest 8 = .ok (.bipush (-10), 2) := by decide +kernel
theorem dX10_rest_10 : decode cX10_rest 10 = .ok (.ireturn, 1) := by decide +kernel
theorem dX10_rest_11 : decode cX10_rest 11 = .ok (.iconst 0, 1) := by decide +kernel
theorem dX10_rest_12 : decode cX10_rest 12 = .ok (.istore_n 2, 1) := by decide +kernel
theorem dX10_rest_13 : decode cX10_rest 13 = .ok (.iload_n 2, 1) := by decide +kernel
theorem dX10_rest_14 : decode cX10_rest 14 = .ok (.aload_n 0, 1) := by decide +kernel
theorem dX10_rest_15 : decode cX10_rest 15 = .ok (.getfield 10, 3) := by decide +kernel
theorem dX10_rest_18 : decode cX10_rest 18 = .ok (.getfield 93, 3) := by decide +kernel
theorem dX10_rest_21 : decode cX10_rest 21 = .ok (.if_icmp .ge 51, 3) := by decide +kernel
theorem dX10_rest_24 : decode cX10_rest 24 = .ok (.aload_n 0, 1) := by decide +kernel
theorem dX10_rest_25 : decode cX10_rest 25 = .ok (.getfield 55, 3) := by decide +kernel
theorem dX10_rest_28 : decode cX10_rest 28 = .ok (.aload_n 0, 1) := by decide +kernel
theorem dX10_rest_29 : decode cX10_rest 29 = .ok (.getfield 10, 3) := by decide +kernel
theorem dX10_rest_32 : decode cX10_rest 32 = .ok (.iload_n 2, 1) := by decide +kernel
theorem dX10_rest_33 : decode cX10_rest 33 = .ok (.invokevirtual 192, 3) := by decide +kernel
theorem dX10_rest_36 : decode cX10_rest 36 = .ok (.aload_n 0, 1) := by decide +kernel
theorem dX10_rest_37 : decode cX10_rest 37 = .ok (.getfield 55, 3) := by decide +kernel
theorem dX10_rest_40 : decode cX10_rest 40 = .ok (.getfield 196, 3) := by decide +kernel
theorem dX10_rest_43 : decode cX10_rest 43 = .ok (.aload_n 0, 1) := by decide +kernel
theorem dX10_rest_44 : decode cX10_rest 44 = .ok (.getfield 55, 3) := by decide +kernel
theorem dX10_rest_47 : decode cX10_rest 47 = .ok (.getfield 202, 3) := by decide +kernel
theorem dX10_rest_50 : decode cX10_rest 50 = .ok (.isub, 1) := by decide +kernel
theorem dX10_rest_51 : decode cX10_rest 51 = .ok (.istore_n 3, 1) := by decide +kernel
theorem dX10_rest_52 : decode cX10_rest 52 = .ok (.iload_n 3, 1) := by decide +kernel
theorem dX10_rest_53 : decode cX10_rest 53 = .ok (.ifCond .le 13, 3) := by decide +kernel
theorem dX10_rest_56 : decode cX10_rest 56 = .ok (.iload_n 1, 1) := by decide +kernel
theorem dX10_rest_57 : decode cX10_rest 57 = .ok (.ifCond .ne 7, 3) := by decide +kernel
theorem dX10_rest_60 : decode cX10_rest 60 = .ok (.iload_n 2, 1) := by decide +kernel
theorem dX10_rest_61 : decode cX10_rest 61 = .ok (.goto 4, 3) := by decide +kernel
theorem dX10_rest_64 : decode cX10_rest 64 = .ok (.iload_n 3, 1) := by decide +kernel
theorem dX10_rest_65 : decode cX10_rest 65 = .ok (.ireturn, 1) := by decide +kernel
theorem dX10_rest_66 : decode cX10_rest 66 = .ok (.iinc 2 1, 3) := by decide +kernel
theorem dX10_rest_69 : decode cX10_rest 69 = .ok (.goto (-56), 3) := by decide +kernel
theorem dX10_rest_72 : decode cX10_rest 72 = .ok (.iconst (-1), 1) := by decide +kernel
theorem dX10_rest_73 : decode cX10_rest 73 = .ok (.ireturn, 1) := by decide +kernel
theorem dX10_turns_0 : decode cX10_turns 0 = .ok (.aload_n 0, 1) := by decide +kernel
theorem dX10_turns_1 : decode cX10_turns 1 = .ok (.getfield 10, 3) := by decide +kernel
theorem dX10_turns_4 : decode cX10_turns 4 = .ok (.getfield 93, 3) := by decide +kernel
theorem dX10_turns_7 : decode cX10_turns 7 = .ok (.ifCond .ne 8, 3) := by decide +kernel
theorem dX10_turns_10 : decode cX10_turns 10 = .ok (.bipush (-5), 2) := by decide +kernel
theorem dX10_turns_12 : decode cX10_turns 12 = .ok (.goto 14, 3) := by decide +kernel
theorem dX10_turns_15 : decode cX10_turns 15 = .ok (.aload_n 0, 1) := by decide +kernel
theorem dX10_turns_16 : decode cX10_turns 16 = .ok (.getfield 64, 3) := by decide +kernel
theorem dX10_turns_19 : decode cX10_turns 19 = .ok (.aload_n 0, 1) := by decide +kernel
theorem dX10_turns_20 : decode cX10_turns 20 = .ok (.getfield 10, 3) := by decide +kernel
theorem dX10_turns_23 : decode cX10_turns 23 = .ok (.invokevirtual 205, 3) := by decide +kernel
theorem dX10_turns_26 : decode cX10_turns 26 = .ok (.ireturn, 1) := by decide +kernel
theorem dX10_good_0 : decode cX10_good 0 = .ok (.iload_n 1, 1) := by decide +kernel
theorem dX10_good_1 : decode cX10_good 1 = .ok (.iconst (-1), 1) := by decide +kernel
theorem dX10_good_2 : decode cX10_good 2 = .ok (.if_icmp .eq 14, 3) := by decide +kernel
theorem dX10_good_5 : decode cX10_good 5 = .ok (.aload_n 0, 1) := by decide +kernel
theorem dX10_good_6 : decode cX10_good 6 = .ok (.iload_n 1, 1) := by decide +kernel
theorem dX10_good_7 : decode cX10_good 7 = .ok (.invokevirtual 158, 3) := by decide +kernel
theorem dX10_good_10 : decode cX10_good 10 = .ok (.ifCond .ne 6, 3) := by decide +kernel
theorem dX10_good_13 : decode cX10_good 13 = .ok (.bipush (-10), 2) := by decide +kernel
theorem dX10_good_15 : decode cX10_good 15 = .ok (.ireturn, 1) := by decide +kernel
theorem dX10_good_16 : decode cX10_good 16 = .ok (.aload_n 0, 1) := by decide +kernel
theorem dX10_good_17 : decode cX10_good 17 = .ok (.getfield 71, 3) := by decide +kernel
theorem dX10_good_20 : decode cX10_good 20 = .ok (.aload_n 0, 1) := by decide +kernel
theorem dX10_good_21 : decode cX10_good 21 = .ok (.getfield 10, 3) := by decide +kernel
theorem dX10_good_24 : decode cX10_good 24 = .ok (.invokevirtual 208, 3) := by decide +kernel
theorem dX10_good_27 : decode cX10_good 27 = .ok (.iload_n 1, 1) := by decide +kernel
theorem dX10_good_28 : decode cX10_good 28 = .ok (.iconst (-1), 1) := by decide +kernel
theorem dX10_good_29 : decode cX10_good 29 = .ok (.if_icmp .ne 13, 3) := by decide +kernel
theorem dX10_good_32 : decode cX10_good 32 = .ok (.aload_n 0, 1) := by decide +kernel
theorem dX10_good_33 : decode cX10_good 33 = .ok (.getfield 71, 3) := by decide +kernel
theorem dX10_good_36 : decode cX10_good 36 = .ok (.getfield 211, 3) := by decide +kernel
theorem dX10_good_39 : decode cX10_good 39 = .ok (.goto 12, 3) := by decide +kernel
theorem dX10_good_42 : decode cX10_good 42 = .ok (.aload_n 0, 1) := by decide +kernel
theorem dX10_good_43 : decode cX10_good 43 = .ok (.getfield 71, 3) := by decide +kernel
theorem dX10_good_46 : decode cX10_good 46 = .ok (.getfield 212, 3) := by decide +kernel
theorem dX10_good_49 : decode cX10_good 49 = .ok (.iload_n 1, 1) := by decide +kernel
theorem dX10_good_50 : decode cX10_good 50 = .ok (.iaload, 1) := by decide +kernel
theorem dX10_good_51 : decode cX10_good 51 = .ok (.ireturn, 1) := by decide +kernel
theorem dX10_lost_0 : decode cX10_lost 0 = .ok (.aload_n 0, 1) := by decide +kernel
theorem dX10_lost_1 : decode cX10_lost 1 = .ok (.getfield 71, 3) := by decide +kernel
theorem dX10_lost_4 : decode cX10_lost 4 = .ok (.aload_n 0, 1) := by decide +kernel
theorem dX10_lost_5 : decode cX10_lost 5 = .ok (.getfield 10, 3) := by decide +kernel
theorem dX10_lost_8 : decode cX10_lost 8 = .ok (.invokevirtual 208, 3) := by decide +kernel
theorem dX10_lost_11 : decode cX10_lost 11 = .ok (.aload_n 0, 1) := by decide +kernel
theorem dX10_lost_12 : decode cX10_lost 12 = .ok (.getfield 46, 3) := by decide +kernel
theorem dX10_lost_15 : decode cX10_lost 15 = .ok (.aload_n 0, 1) := by decide +kernel
theorem dX10_lost_16 : decode cX10_lost 16 = .ok (.getfield 10, 3) := by decide +kernel
theorem dX10_lost_19 : decode cX10_lost 19 = .ok (.invokevirtual 161, 3) := by decide +kernel
theorem dX10_lost_22 : decode cX10_lost 22 = .ok (.aload_n 0, 1) := by decide +kernel
theorem dX10_lost_23 : decode cX10_lost 23 = .ok (.getfield 71, 3) := by decide +kernel
theorem dX10_lost_26 : decode cX10_lost 26 = .ok (.getfield 211, 3) := by decide +kernel
theorem dX10_lost_29 : decode cX10_lost 29 = .ok (.aload_n 0, 1) := by decide +kernel
theorem dX10_lost_30 : decode cX10_lost 30 = .ok (.getfield 46, 3) := by decide +kernel
theorem dX10_lost_33 : decode cX10_lost 33 = .ok (.aload_n 0, 1) := by decide +kernel
theorem dX10_lost_34 : decode cX10_lost 34 = .ok (.getfield 10, 3) := by decide +kernel
theorem dX10_lost_37 : decode cX10_lost 37 = .ok (.invokevirtual 181, 3) := by decide +kernel
theorem dX10_lost_40 : decode cX10_lost 40 = .ok (.isub, 1) := by decide +kernel
theorem dX10_lost_41 : decode cX10_lost 41 = .ok (.ireturn, 1) := by decide +kernel
theorem dX10_gain_0 : decode cX10_gain 0 = .ok (.aload_n 0, 1) := by decide +kernel
theorem dX10_gain_1 : decode cX10_gain 1 = .ok (.iload_n 1, 1) := by decide +kernel
theorem dX10_gain_2 : decode cX10_gain 2 = .ok (.iload_n 2, 1) := by decide +kernel
theorem dX10_gain_3 : decode cX10_gain 3 = .ok (.invokevirtual 107, 3) := by decide +kernel
theorem dX10_gain_6 : decode cX10_gain 6 = .ok (.ifCond .ne 6, 3) := by decide +kernel
theorem dX10_gain_9 : decode cX10_gain 9 = .ok (.bipush (-2), 2) := by decide +kernel
theorem dX10_gain_11 : decode cX10_gain 11 = .ok (.ireturn, 1) := by decide +kernel
theorem dX10_gain_12 : decode cX10_gain 12 = .ok (.aload_n 0, 1) := by decide +kernel
theorem dX10_gain_13 : decode cX10_gain 13 = .ok (.getfield 78, 3) := by decide +kernel
theorem dX10_gain_16 : decode cX10_gain 16 = .ok (.aload_n 0, 1) := by decide +kernel
theorem dX10_gain_17 : decode cX10_gain 17 = .ok (.getfield 10, 3) := by decide +kernel
theorem dX10_gain_20 : decode cX10_gain 20 = .ok (.iload_n 1, 1) := by decide +kernel
theorem dX10_gain_21 : decode cX10_gain 21 = .ok (.iload_n 2, 1) := by decide +kernel
theorem dX10_gain_22 : decode cX10_gain 22 = .ok (.invokevirtual 213, 3) := by decide +kernel
theorem dX10_gain_25 : decode cX10_gain 25 = .ok (.aload_n 0, 1) := by decide +kernel
theorem dX10_gain_26 : decode cX10_gain 26 = .ok (.getfield 78, 3) := by decide +kernel
theorem dX10_gain_29 : decode cX10_gain 29 = .ok (.invokevirtual 217, 3) := by decide +kernel
theorem dX10_gain_32 : decode cX10_gain 32 = .ok (.ireturn, 1) := by decide +kernel
theorem dX10_hand_0 : decode cX10_hand 0 = .ok (.aload_n 0, 1) := by decide +kernel
theorem dX10_hand_1 : decode cX10_hand 1 = .ok (.iload_n 1, 1) := by decide +kernel
theorem dX10_hand_2 : decode cX10_hand 2 = .ok (.iload_n 2, 1) := by decide +kernel
theorem dX10_hand_3 : decode cX10_hand 3 = .ok (.invokevirtual 107, 3) := by decide +kernel
theorem dX10_hand_6 : decode cX10_hand 6 = .ok (.ifCond .ne 6, 3) := by decide +kernel
theorem dX10_hand_9 : decode cX10_hand 9 = .ok (.bipush (-2), 2) := by decide +kernel
theorem dX10_hand_11 : decode cX10_hand 11 = .ok (.ireturn, 1) := by decide +kernel
theorem dX10_hand_12 : decode cX10_hand 12 = .ok (.aload_n 0, 1) := by decide +kernel
theorem dX10_hand_13 : decode cX10_hand 13 = .ok (.getfield 78, 3) := by decide +kernel
theorem dX10_hand_16 : decode cX10_hand 16 = .ok (.aload_n 0, 1) := by decide +kernel
theorem dX10_hand_17 : decode cX10_hand 17 = .ok (.getfield 10, 3) := by decide +kernel
theorem dX10_hand_20 : decode cX10_hand 20 = .ok (.iload_n 1, 1) := by decide +kernel
theorem dX10_hand_21 : decode cX10_hand 21 = .ok (.iload_n 2, 1) := by decide +kernel
theorem dX10_hand_22 : decode cX10_hand 22 = .ok (.invokevirtual 213, 3) := by decide +kernel
theorem dX10_hand_25 : decode cX10_hand 25 = .ok (.aload_n 0, 1) := by decide +kernel
theorem dX10_hand_26 : decode cX10_hand 26 = .ok (.getfield 78, 3) := by decide +kernel
theorem dX10_hand_29 : decode cX10_hand 29 = .ok (.invokevirtual 220, 3) := by decide +kernel
theorem dX10_hand_32 : decode cX10_hand 32 = .ok (.istore_n 3, 1) := by decide +kernel
theorem dX10_hand_33 : decode cX10_hand 33 = .ok (.iload_n 3, 1) := by decide +kernel
theorem dX10_hand_34 : decode cX10_hand 34 = .ok (.sipush 999, 3) := by decide +kernel
theorem dX10_hand_37 : decode cX10_hand 37 = .ok (.if_icmp .le 7, 3) := by decide +kernel
theorem dX10_hand_40 : decode cX10_hand 40 = .ok (.iconst (-1), 1) := by decide +kernel
theorem dX10_hand_41 : decode cX10_hand 41 = .ok (.goto 4, 3) := by decide +kernel
theorem dX10_hand_44 : decode cX10_hand 44 = .ok (.iload_n 3, 1) := by decide +kernel
theorem dX10_hand_45 : decode cX10_hand 45 = .ok (.ireturn, 1) := by decide +kernel
theorem dX10_anyway_0 : decode cX10_anyway 0 = .ok (.iload_n 1, 1) := by decide +kernel
theorem dX10_anyway_1 : decode cX10_anyway 1 = .ok (.iconst 1, 1) := by decide +kernel
theorem dX10_anyway_2 : decode cX10_anyway 2 = .ok (.invokestatic 89, 3) := by decide +kernel
theorem dX10_anyway_5 : decode cX10_anyway 5 = .ok (.ifCond .ne 7, 3) := by decide +kernel
theorem dX10_anyway_8 : decode cX10_anyway 8 = .ok (.sipush (-1000), 3) := by decide +kernel
theorem dX10_anyway_11 : decode cX10_anyway 11 = .ok (.ireturn, 1) := by decide +kernel
theorem dX10_anyway_12 : decode cX10_anyway 12 = .ok (.aload_n 0, 1) := by decide +kernel
theorem dX10_anyway_13 : decode cX10_anyway 13 = .ok (.getfield 16, 3) := by decide +kernel
theorem dX10_anyway_16 : decode cX10_anyway 16 = .ok (.aload_n 0, 1) := by decide +kernel
theorem dX10_anyway_17 : decode cX10_anyway 17 = .ok (.getfield 10, 3) := by decide +kernel
theorem dX10_anyway_20 : decode cX10_anyway 20 = .ok (.invokevirtual 223, 3) := by decide +kernel
theorem dX10_anyway_23 : decode cX10_anyway 23 = .ok (.aload_n 0, 1) := by decide +kernel
theorem dX10_anyway_24 : decode cX10_anyway 24 = .ok (.getfield 64, 3) := by decide +kernel
theorem dX10_anyway_27 : decode cX10_anyway 27 = .ok (.aload_n 0, 1) := by decide +kernel
theorem dX10_anyway_28 : decode cX10_anyway 28 = .ok (.getfield 16, 3) := by decide +kernel
theorem dX10_anyway_31 : decode cX10_anyway 31 = .ok (.invokevirtual 205, 3) := by decide +kernel
theorem dX10_anyway_34 : decode cX10_anyway 34 = .ok (.pop, 1) := by decide +kernel
theorem dX10_anyway_35 : decode cX10_anyway 35 = .ok (.aload_n 0, 1) := by decide +kernel
theorem dX10_anyway_36 : decode cX10_anyway 36 = .ok (.getfield 16, 3) := by decide +kernel
theorem dX10_anyway_39 : decode cX10_anyway 39 = .ok (.invokevirtual 226, 3) := by decide +kernel
theorem dX10_anyway_42 : decode cX10_anyway 42 = .ok (.istore_n 2, 1) := by decide +kernel
theorem dX10_anyway_43 : decode cX10_anyway 43 = .ok (.iload_n 1, 1) := by decide +kernel
theorem dX10_anyway_44 : decode cX10_anyway 44 = .ok (.ifCond .ne 7, 3) := by decide +kernel
theorem dX10_anyway_47 : decode cX10_anyway 47 = .ok (.iload_n 2, 1) := by decide +kernel
theorem dX10_anyway_48 : decode cX10_anyway 48 = .ok (.goto 12, 3) := by decide +kernel
theorem dX10_anyway_51 : decode cX10_anyway 51 = .ok (.aload_n 0, 1) := by decide +kernel
theorem dX10_anyway_52 : decode cX10_anyway 52 = .ok (.getfield 10, 3) := by decide +kernel
theorem dX10_anyway_55 : decode cX10_anyway 55 = .ok (.invokevirtual 226, 3) := by decide +kernel
theorem dX10_anyway_58 : decode cX10_anyway 58 = .ok (.iload_n 2, 1) := by decide +kernel
theorem dX10_anyway_59 : decode cX10_anyway 59 = .ok (.isub, 1) := by decide +kernel
theorem dX10_anyway_60 : decode cX10_anyway 60 = .ok (.ireturn, 1) := by decide +kernel
theorem dX10_breach_0 : decode cX10_breach 0 = .ok (.iload_n 1, 1) := by decide +kernel
theorem dX10_breach_1 : decode cX10_breach 1 = .ok (.invokestatic 129, 3) := by decide +kernel
theorem dX10_breach_4 : decode cX10_breach 4 = .ok (.ifCond .eq 22, 3) := by decide +kernel
theorem dX10_breach_7 : decode cX10_breach 7 = .ok (.iload_n 2, 1) := by decide +kernel
theorem dX10_breach_8 : decode cX10_breach 8 = .ok (.iconst 3, 1) := by decide +kernel
theorem dX10_breach_9 : decode cX10_breach 9 = .ok (.invokestatic 89, 3) := by decide +kernel
theorem dX10_breach_12 : decode cX10_breach 12 = .ok (.ifCond .eq 14, 3) := by decide +kernel
theorem dX10_breach_15 : decode cX10_breach 15 = .ok (.iload_n 3, 1) := by decide +kernel
theorem dX10_breach_16 : decode cX10_breach 16 = .ok (.iconst 1, 1) := by decide +kernel
theorem dX10_breach_17 : decode cX10_breach 17 = .ok (.if_icmp .lt 9, 3) := by decide +kernel
theorem dX10_breach_20 : decode cX10_breach 20 = .ok (.iload_n 3, 1) := by decide +kernel
theorem dX10_breach_21 : decode cX10_breach 21 = .ok (.bipush 12, 2) := by decide +kernel
theorem dX10_breach_23 : decode cX10_breach 23 = .ok (.if_icmp .le 6, 3) := by decide +kernel
theorem dX10_breach_26 : decode cX10_breach 26 = .ok (.bipush (-2), 2) := by decide +kernel
theorem dX10_breach_28 : decode cX10_breach 28 = .ok (.ireturn, 1) := by decide +kernel
theorem dX10_breach_29 : decode cX10_breach 29 = .ok (.aload_n 0, 1) := by decide +kernel
theorem dX10_breach_30 : decode cX10_breach 30 = .ok (.getfield 10, 3) := by decide +kernel
theorem dX10_breach_33 : decode cX10_breach 33 = .ok (.getfield 133, 3) := by decide +kernel
theorem dX10_breach_36 : decode cX10_breach 36 = .ok (.iload_n 1, 1) := by decide +kernel
theorem dX10_breach_37 : decode cX10_breach 37 = .ok (.aaload, 1) := by decide +kernel
theorem dX10_breach_38 : decode cX10_breach 38 = .ok (.astore 4, 2) := by decide +kernel
theorem dX10_breach_40 : decode cX10_breach 40 = .ok (.iconst 0, 1) := by decide +kernel
theorem dX10_breach_41 : decode cX10_breach 41 = .ok (.istore 5, 2) := by decide +kernel
theorem dX10_breach_43 : decode cX10_breach 43 = .ok (.iload 5, 2) := by decide +kernel
theorem dX10_breach_45 : decode cX10_breach 45 = .ok (.iload_n 3, 1) := by decide +kernel
theorem dX10_breach_46 : decode cX10_breach 46 = .ok (.if_icmp .gt 51, 3) := by decide +kernel
theorem dX10_breach_49 : decode cX10_breach 49 = .ok (.iconst 0, 1) := by decide +kernel
theorem dX10_breach_50 : decode cX10_breach 50 = .ok (.istore 6, 2) := by decide +kernel
theorem dX10_breach_52 : decode cX10_breach 52 = .ok (.iload 6, 2) := by decide +kernel
theorem dX10_breach_54 : decode cX10_breach 54 = .ok (.iload_n 3, 1) := by decide +kernel
theorem dX10_breach_55 : decode cX10_breach 55 = .ok (.if_icmp .gt 36, 3) := by decide +kernel
theorem dX10_breach_58 : decode cX10_breach 58 = .ok (.aload_n 0, 1) := by decide +kernel
theorem dX10_breach_59 : decode cX10_breach 59 = .ok (.getfield 85, 3) := by decide +kernel
theorem dX10_breach_62 : decode cX10_breach 62 = .ok (.aload 4, 2) := by decide +kernel
theorem dX10_breach_64 : decode cX10_breach 64 = .ok (.iload_n 2, 1) := by decide +kernel
theorem dX10_breach_65 : decode cX10_breach 65 = .ok (.iload_n 3, 1) := by decide +kernel
theorem dX10_breach_66 : decode cX10_breach 66 = .ok (.iload 5, 2) := by decide +kernel
theorem dX10_breach_68 : decode cX10_breach 68 = .ok (.iload 6, 2) := by decide +kernel
theorem dX10_breach_70 : decode cX10_breach 70 = .ok (.invokevirtual 229, 3) := by decide +kernel
theorem dX10_breach_73 : decode cX10_breach 73 = .ok (.ifCond .ne 12, 3) := by decide +kernel
theorem dX10_breach_76 : decode cX10_breach 76 = .ok (.bipush 100, 2) := by decide +kernel
theorem dX10_breach_78 : decode cX10_breach 78 = .ok (.iload 5, 2) := by decide +kernel
theorem dX10_breach_80 : decode cX10_breach 80 = .ok (.imul, 1) := by decide +kernel
theorem dX10_breach_81 : decode cX10_breach 81 = .ok (.iload 6, 2) := by decide +kernel
theorem dX10_breach_83 : decode cX10_breach 83 = .ok (.iadd, 1) := by decide +kernel
theorem dX10_breach_84 : decode cX10_breach 84 = .ok (.ireturn, 1) := by decide +kernel
theorem dX10_breach_85 : decode cX10_breach 85 = .ok (.iinc 6 1, 3) := by decide +kernel
theorem dX10_breach_88 : decode cX10_breach 88 = .ok (.goto (-36), 3) := by decide +kernel
theorem dX10_breach_91 : decode cX10_breach 91 = .ok (.iinc 5 1, 3) := by decide +kernel
theorem dX10_breach_94 : decode cX10_breach 94 = .ok (.goto (-51), 3) := by decide +kernel
theorem dX10_breach_97 : decode cX10_breach 97 = .ok (.iconst (-1), 1) := by decide +kernel
theorem dX10_breach_98 : decode cX10_breach 98 = .ok (.ireturn, 1) := by decide +kernel
theorem dX10_image_0 : decode cX10_image 0 = .ok (.iload_n 1, 1) := by decide +kernel
theorem dX10_image_1 : decode cX10_image 1 = .ok (.iconst 1, 1) := by decide +kernel
theorem dX10_image_2 : decode cX10_image 2 = .ok (.invokestatic 89, 3) := by decide +kernel
theorem dX10_image_5 : decode cX10_image 5 = .ok (.ifCond .ne 6, 3) := by decide +kernel
theorem dX10_image_8 : decode cX10_image 8 = .ok (.bipush (-2), 2) := by decide +kernel
theorem dX10_image_10 : decode cX10_image 10 = .ok (.ireturn, 1) := by decide +kernel
theorem dX10_image_11 : decode cX10_image 11 = .ok (.aload_n 0, 1) := by decide +kernel
theorem dX10_image_12 : decode cX10_image 12 = .ok (.getfield 19, 3) := by decide +kernel
theorem dX10_image_15 : decode cX10_image 15 = .ok (.iload_n 1, 1) := by decide +kernel
theorem dX10_image_16 : decode cX10_image 16 = .ok (.aaload, 1) := by decide +kernel
theorem dX10_image_17 : decode cX10_image 17 = .ok (.aload_n 0, 1) := by decide +kernel
theorem dX10_image_18 : decode cX10_image 18 = .ok (.getfield 10, 3) := by decide +kernel
theorem dX10_image_21 : decode cX10_image 21 = .ok (.invokevirtual 233, 3) := by decide +kernel
theorem dX10_image_24 : decode cX10_image 24 = .ok (.aload_n 0, 1) := by decide +kernel
theorem dX10_image_25 : decode cX10_image 25 = .ok (.getfield 23, 3) := by decide +kernel
theorem dX10_image_28 : decode cX10_image 28 = .ok (.iload_n 1, 1) := by decide +kernel
theorem dX10_image_29 : decode cX10_image 29 = .ok (.iconst 1, 1) := by decide +kernel
theorem dX10_image_30 : decode cX10_image 30 = .ok (.bastore, 1) := by decide +kernel
theorem dX10_image_31 : decode cX10_image 31 = .ok (.iconst 1, 1) := by decide +kernel
theorem dX10_image_32 : decode cX10_image 32 = .ok (.ireturn, 1) := by decide +kernel
theorem dX10_from_0 : decode cX10_from 0 = .ok (.iload_n 1, 1) := by decide +kernel
theorem dX10_from_1 : decode cX10_from 1 = .ok (.iconst 1, 1) := by decide +kernel
theorem dX10_from_2 : decode cX10_from 2 = .ok (.invokestatic 89, 3) := by decide +kernel
theorem dX10_from_5 : decode cX10_from 5 = .ok (.ifCond .ne 6, 3) := by decide +kernel
theorem dX10_from_8 : decode cX10_from 8 = .ok (.bipush (-2), 2) := by decide +kernel
theorem dX10_from_10 : decode cX10_from 10 = .ok (.ireturn, 1) := by decide +kernel
theorem dX10_from_11 : decode cX10_from 11 = .ok (.aload_n 0, 1) := by decide +kernel
theorem dX10_from_12 : decode cX10_from 12 = .ok (.getfield 23, 3) := by decide +kernel
theorem dX10_from_15 : decode cX10_from 15 = .ok (.iload_n 1, 1) := by decide +kernel
theorem dX10_from_16 : decode cX10_from 16 = .ok (.baload, 1) := by decide +kernel
theorem dX10_from_17 : decode cX10_from 17 = .ok (.ifCond .ne 6, 3) := by decide +kernel
theorem dX10_from_20 : decode cX10_from 20 = .ok (.bipush (-3), 2) := by decide +kernel
theorem dX10_from_22 : decode cX10_from 22 = .ok (.ireturn, 1) := by decide +kernel
theorem dX10_from_23 : decode cX10_from 23 = .ok (.aload_n 0, 1) := by decide +kernel
theorem dX10_from_24 : decode cX10_from 24 = .ok (.getfield 10, 3) := by decide +kernel
theorem dX10_from_27 : decode cX10_from 27 = .ok (.aload_n 0, 1) := by decide +kernel
theorem dX10_from_28 : decode cX10_from 28 = .ok (.getfield 19, 3) := by decide +kernel
theorem dX10_from_31 : decode cX10_from 31 = .ok (.iload_n 1, 1) := by decide +kernel
theorem dX10_from_32 : decode cX10_from 32 = .ok (.aaload, 1) := by decide +kernel
theorem dX10_from_33 : decode cX10_from 33 = .ok (.invokevirtual 233, 3) := by decide +kernel
theorem dX10_from_36 : decode cX10_from 36 = .ok (.iconst 1, 1) := by decide +kernel
theorem dX10_from_37 : decode cX10_from 37 = .ok (.ireturn, 1) := by decide +kernel
theorem dX10_count_0 : decode cX10_count 0 = .ok (.iload_n 1, 1) := by decide +kernel
theorem dX10_count_1 : decode cX10_count 1 = .ok (.tableswitch 63 0 3 #[31, 39, 47, 55], 31) := by decide +kernel
theorem dX10_count_32 : decode cX10_count 32 = .ok (.aload_n 0, 1) := by decide +kernel
theorem dX10_count_33 : decode cX10_count 33 = .ok (.getfield 10, 3) := by decide +kernel
theorem dX10_count_36 : decode cX10_count 36 = .ok (.getfield 93, 3) := by decide +kernel
theorem dX10_count_39 : decode cX10_count 39 = .ok (.ireturn, 1) := by decide +kernel
theorem dX10_count_40 : decode cX10_count 40 = .ok (.aload_n 0, 1) := by decide +kernel
theorem dX10_count_41 : decode cX10_count 41 = .ok (.getfield 10, 3) := by decide +kernel
theorem dX10_count_44 : decode cX10_count 44 = .ok (.getfield 101, 3) := by decide +kernel
theorem dX10_count_47 : decode cX10_count 47 = .ok (.ireturn, 1) := by decide +kernel
theorem dX10_count_48 : decode cX10_count 48 = .ok (.aload_n 0, 1) := by decide +kernel
theorem dX10_count_49 : decode cX10_count 49 = .ok (.getfield 10, 3) := by decide +kernel
theorem dX10_count_52 : decode cX10_count 52 = .ok (.invokevirtual 226, 3) := by decide +kernel
theorem dX10_count_55 : decode cX10_count 55 = .ok (.ireturn, 1) := by decide +kernel
theorem dX10_count_56 : decode cX10_count 56 = .ok (.aload_n 0, 1) := by decide +kernel
theorem dX10_count_57 : decode cX10_count 57 = .ok (.getfield 10, 3) := by decide +kernel
theorem dX10_count_60 : decode cX10_count 60 = .ok (.invokevirtual 236, 3) := by decide +kernel
theorem dX10_count_63 : decode cX10_count 63 = .ok (.ireturn, 1) := by decide +kernel
theorem dX10_count_64 : decode cX10_count 64 = .ok (.bipush (-2), 2) := by decide +kernel
theorem dX10_count_66 : decode cX10_count 66 = .ok (.ireturn, 1) := by decide +kernel
theorem dX10_digest_0 : decode cX10_digest 0 = .ok (.aload_n 0, 1) := by decide +kernel
theorem dX10_digest_1 : decode cX10_digest 1 = .ok (.getfield 46, 3) := by decide +kernel
theorem dX10_digest_4 : decode cX10_digest 4 = .ok (.aload_n 0, 1) := by decide +kernel
theorem dX10_digest_5 : decode cX10_digest 5 = .ok (.getfield 10, 3) := by decide +kernel
theorem dX10_digest_8 : decode cX10_digest 8 = .ok (.invokevirtual 161, 3) := by decide +kernel
theorem dX10_digest_11 : decode cX10_digest 11 = .ok (.ldc2_w 239, 3) := by decide +kernel
theorem dX10_digest_14 : decode cX10_digest 14 = .ok (.lstore_n 1, 1) := by decide +kernel
theorem dX10_digest_15 : decode cX10_digest 15 = .ok (.iconst 0, 1) := by decide +kernel
theorem dX10_digest_16 : decode cX10_digest 16 = .ok (.istore_n 3, 1) := by decide +kernel
theorem dX10_digest_17 : decode cX10_digest 17 = .ok (.iload_n 3, 1) := by decide +kernel
theorem dX10_digest_18 : decode cX10_digest 18 = .ok (.iconst 3, 1) := by decide +kernel
theorem dX10_digest_19 : decode cX10_digest 19 = .ok (.if_icmp .gt 22, 3) := by decide +kernel
theorem dX10_digest_22 : decode cX10_digest 22 = .ok (.ldc2_w 241, 3) := by decide +kernel
theorem dX10_digest_25 : decode cX10_digest 25 = .ok (.lload_n 1, 1) := by decide +kernel
theorem dX10_digest_26 : decode cX10_digest 26 = .ok (.lmul, 1) := by decide +kernel
theorem dX10_digest_27 : decode cX10_digest 27 = .ok (.aload_n 0, 1) := by decide +kernel
theorem dX10_digest_28 : decode cX10_digest 28 = .ok (.iload_n 3, 1) := by decide +kernel
theorem dX10_digest_29 : decode cX10_digest 29 = .ok (.invokevirtual 243, 3) := by decide +kernel
theorem dX10_digest_32 : decode cX10_digest 32 = .ok (.i2l, 1) := by decide +kernel
theorem dX10_digest_33 : decode cX10_digest 33 = .ok (.ladd, 1) := by decide +kernel
theorem dX10_digest_34 : decode cX10_digest 34 = .ok (.lstore_n 1, 1) := by decide +kernel
theorem dX10_digest_35 : decode cX10_digest 35 = .ok (.iinc 3 1, 3) := by decide +kernel
theorem dX10_digest_38 : decode cX10_digest 38 = .ok (.goto (-21), 3) := by decide +kernel
theorem dX10_digest_41 : decode cX10_digest 41 = .ok (.aload_n 0, 1) := by decide +kernel
theorem dX10_digest_42 : decode cX10_digest 42 = .ok (.lload_n 1, 1) := by decide +kernel
theorem dX10_digest_43 : decode cX10_digest 43 = .ok (.invokevirtual 246, 3) := by decide +kernel
theorem dX10_digest_46 : decode cX10_digest 46 = .ok (.lstore_n 1, 1) := by decide +kernel
theorem dX10_digest_47 : decode cX10_digest 47 = .ok (.aload_n 0, 1) := by decide +kernel
theorem dX10_digest_48 : decode cX10_digest 48 = .ok (.lload_n 1, 1) := by decide +kernel
theorem dX10_digest_49 : decode cX10_digest 49 = .ok (.invokevirtual 250, 3) := by decide +kernel
theorem dX10_digest_52 : decode cX10_digest 52 = .ok (.lstore_n 1, 1) := by decide +kernel
theorem dX10_digest_53 : decode cX10_digest 53 = .ok (.ldc2_w 241, 3) := by decide +kernel
theorem dX10_digest_56 : decode cX10_digest 56 = .ok (.lload_n 1, 1) := by decide +kernel
theorem dX10_digest_57 : decode cX10_digest 57 = .ok (.lmul, 1) := by decide +kernel
theorem dX10_digest_58 : decode cX10_digest 58 = .ok (.aload_n 0, 1) := by decide +kernel
theorem dX10_digest_59 : decode cX10_digest 59 = .ok (.getfield 10, 3) := by decide +kernel
theorem dX10_digest_62 : decode cX10_digest 62 = .ok (.getfield 253, 3) := by decide +kernel
theorem dX10_digest_65 : decode cX10_digest 65 = .ok (.i2l, 1) := by decide +kernel
theorem dX10_digest_66 : decode cX10_digest 66 = .ok (.ladd, 1) := by decide +kernel
theorem dX10_digest_67 : decode cX10_digest 67 = .ok (.lstore_n 1, 1) := by decide +kernel
theorem dX10_digest_68 : decode cX10_digest 68 = .ok (.ldc2_w 241, 3) := by decide +kernel
theorem dX10_digest_71 : decode cX10_digest 71 = .ok (.lload_n 1, 1) := by decide +kernel
theorem dX10_digest_72 : decode cX10_digest 72 = .ok (.lmul, 1) := by decide +kernel
theorem dX10_digest_73 : decode cX10_digest 73 = .ok (.aload_n 0, 1) := by decide +kernel
theorem dX10_digest_74 : decode cX10_digest 74 = .ok (.getfield 10, 3) := by decide +kernel
theorem dX10_digest_77 : decode cX10_digest 77 = .ok (.getfield 256, 3) := by decide +kernel
theorem dX10_digest_80 : decode cX10_digest 80 = .ok (.i2l, 1) := by decide +kernel
theorem dX10_digest_81 : decode cX10_digest 81 = .ok (.ladd, 1) := by decide +kernel
theorem dX10_digest_82 : decode cX10_digest 82 = .ok (.lstore_n 1, 1) := by decide +kernel
theorem dX10_digest_83 : decode cX10_digest 83 = .ok (.ldc2_w 241, 3) := by decide +kernel
theorem dX10_digest_86 : decode cX10_digest 86 = .ok (.lload_n 1, 1) := by decide +kernel
theorem dX10_digest_87 : decode cX10_digest 87 = .ok (.lmul, 1) := by decide +kernel
theorem dX10_digest_88 : decode cX10_digest 88 = .ok (.aload_n 0, 1) := by decide +kernel
theorem dX10_digest_89 : decode cX10_digest 89 = .ok (.getfield 10, 3) := by decide +kernel
theorem dX10_digest_92 : decode cX10_digest 92 = .ok (.getfield 259, 3) := by decide +kernel
theorem dX10_digest_95 : decode cX10_digest 95 = .ok (.i2l, 1) := by decide +kernel
theorem dX10_digest_96 : decode cX10_digest 96 = .ok (.ladd, 1) := by decide +kernel
theorem dX10_digest_97 : decode cX10_digest 97 = .ok (.lstore_n 1, 1) := by decide +kernel
theorem dX10_digest_98 : decode cX10_digest 98 = .ok (.ldc2_w 241, 3) := by decide +kernel
theorem dX10_digest_101 : decode cX10_digest 101 = .ok (.lload_n 1, 1) := by decide +kernel
theorem dX10_digest_102 : decode cX10_digest 102 = .ok (.lmul, 1) := by decide +kernel
theorem dX10_digest_103 : decode cX10_digest 103 = .ok (.aload_n 0, 1) := by decide +kernel
theorem dX10_digest_104 : decode cX10_digest 104 = .ok (.getfield 10, 3) := by decide +kernel
theorem dX10_digest_107 : decode cX10_digest 107 = .ok (.getfield 262, 3) := by decide +kernel
theorem dX10_digest_110 : decode cX10_digest 110 = .ok (.i2l, 1) := by decide +kernel
theorem dX10_digest_111 : decode cX10_digest 111 = .ok (.ladd, 1) := by decide +kernel
theorem dX10_digest_112 : decode cX10_digest 112 = .ok (.lstore_n 1, 1) := by decide +kernel
theorem dX10_digest_113 : decode cX10_digest 113 = .ok (.aload_n 0, 1) := by decide +kernel
theorem dX10_digest_114 : decode cX10_digest 114 = .ok (.lload_n 1, 1) := by decide +kernel
theorem dX10_digest_115 : decode cX10_digest 115 = .ok (.invokevirtual 265, 3) := by decide +kernel
theorem dX10_digest_118 : decode cX10_digest 118 = .ok (.lstore_n 1, 1) := by decide +kernel
theorem dX10_digest_119 : decode cX10_digest 119 = .ok (.ldc2_w 241, 3) := by decide +kernel
theorem dX10_digest_122 : decode cX10_digest 122 = .ok (.lload_n 1, 1) := by decide +kernel
theorem dX10_digest_123 : decode cX10_digest 123 = .ok (.lmul, 1) := by decide +kernel
theorem dX10_digest_124 : decode cX10_digest 124 = .ok (.aload_n 0, 1) := by decide +kernel
theorem dX10_digest_125 : decode cX10_digest 125 = .ok (.getfield 46, 3) := by decide +kernel
theorem dX10_digest_128 : decode cX10_digest 128 = .ok (.aload_n 0, 1) := by decide +kernel
theorem dX10_digest_129 : decode cX10_digest 129 = .ok (.getfield 10, 3) := by decide +kernel
theorem dX10_digest_132 : decode cX10_digest 132 = .ok (.invokevirtual 181, 3) := by decide +kernel
theorem dX10_digest_135 : decode cX10_digest 135 = .ok (.i2l, 1) := by decide +kernel
theorem dX10_digest_136 : decode cX10_digest 136 = .ok (.ladd, 1) := by decide +kernel
theorem dX10_digest_137 : decode cX10_digest 137 = .ok (.lreturn, 1) := by decide +kernel
theorem dX10_digestGivers_0 : decode cX10_digestGivers 0 = .ok (.lload_n 1, 1) := by decide +kernel
theorem dX10_digestGivers_1 : decode cX10_digestGivers 1 = .ok (.lstore_n 3, 1) := by decide +kernel
theorem dX10_digestGivers_2 : decode cX10_digestGivers 2 = .ok (.iconst 0, 1) := by decide +kernel
theorem dX10_digestGivers_3 : decode cX10_digestGivers 3 = .ok (.istore 5, 2) := by decide +kernel
theorem dX10_digestGivers_5 : decode cX10_digestGivers 5 = .ok (.iload 5, 2) := by decide +kernel
theorem dX10_digestGivers_7 : decode cX10_digestGivers 7 = .ok (.aload_n 0, 1) := by decide +kernel
theorem dX10_digestGivers_8 : decode cX10_digestGivers 8 = .ok (.getfield 10, 3) := by decide +kernel
theorem dX10_digestGivers_11 : decode cX10_digestGivers 11 = .ok (.getfield 93, 3) := by decide +kernel
theorem dX10_digestGivers_14 : decode cX10_digestGivers 14 = .ok (.if_icmp .ge 105, 3) := by decide +kernel
theorem dX10_digestGivers_17 : decode cX10_digestGivers 17 = .ok (.ldc2_w 241, 3) := by decide +kernel
theorem dX10_digestGivers_20 : decode cX10_digestGivers 20 = .ok (.lload_n 3, 1) := by decide +kernel
theorem dX10_digestGivers_21 : decode cX10_digestGivers 21 = .ok (.lmul, 1) := by decide +kernel
theorem dX10_digestGivers_22 : decode cX10_digestGivers 22 = .ok (.aload_n 0, 1) := by decide +kernel
theorem dX10_digestGivers_23 : decode cX10_digestGivers 23 = .ok (.getfield 10, 3) := by decide +kernel
theorem dX10_digestGivers_26 : decode cX10_digestGivers 26 = .ok (.getfield 97, 3) := by decide +kernel
theorem dX10_digestGivers_29 : decode cX10_digestGivers 29 = .ok (.iload 5, 2) := by decide +kernel
theorem dX10_digestGivers_31 : decode cX10_digestGivers 31 = .ok (.iaload, 1) := by decide +kernel
theorem dX10_digestGivers_32 : decode cX10_digestGivers 32 = .ok (.i2l, 1) := by decide +kernel
theorem dX10_digestGivers_33 : decode cX10_digestGivers 33 = .ok (.ladd, 1) := by decide +kernel
theorem dX10_digestGivers_34 : decode cX10_digestGivers 34 = .ok (.lstore_n 3, 1) := by decide +kernel
theorem dX10_digestGivers_35 : decode cX10_digestGivers 35 = .ok (.iconst 0, 1) := by decide +kernel
theorem dX10_digestGivers_36 : decode cX10_digestGivers 36 = .ok (.istore 6, 2) := by decide +kernel
theorem dX10_digestGivers_38 : decode cX10_digestGivers 38 = .ok (.iload 6, 2) := by decide +kernel
theorem dX10_digestGivers_40 : decode cX10_digestGivers 40 = .ok (.iconst 3, 1) := by decide +kernel
theorem dX10_digestGivers_41 : decode cX10_digestGivers 41 = .ok (.if_icmp .ge 72, 3) := by decide +kernel
theorem dX10_digestGivers_44 : decode cX10_digestGivers 44 = .ok (.iload 5, 2) := by decide +kernel
theorem dX10_digestGivers_46 : decode cX10_digestGivers 46 = .ok (.iconst 3, 1) := by decide +kernel
theorem dX10_digestGivers_47 : decode cX10_digestGivers 47 = .ok (.imul, 1) := by decide +kernel
theorem dX10_digestGivers_48 : decode cX10_digestGivers 48 = .ok (.iload 6, 2) := by decide +kernel
theorem dX10_digestGivers_50 : decode cX10_digestGivers 50 = .ok (.iadd, 1) := by decide +kernel
theorem dX10_digestGivers_51 : decode cX10_digestGivers 51 = .ok (.istore 7, 2) := by decide +kernel
theorem dX10_digestGivers_53 : decode cX10_digestGivers 53 = .ok (.ldc2_w 241, 3) := by decide +kernel
theorem dX10_digestGivers_56 : decode cX10_digestGivers 56 = .ok (.lload_n 3, 1) := by decide +kernel
theorem dX10_digestGivers_57 : decode cX10_digestGivers 57 = .ok (.lmul, 1) := by decide +kernel
theorem dX10_digestGivers_58 : decode cX10_digestGivers 58 = .ok (.aload_n 0, 1) := by decide +kernel
theorem dX10_digestGivers_59 : decode cX10_digestGivers 59 = .ok (.getfield 10, 3) := by decide +kernel
theorem dX10_digestGivers_62 : decode cX10_digestGivers 62 = .ok (.getfield 110, 3) := by decide +kernel
theorem dX10_digestGivers_65 : decode cX10_digestGivers 65 = .ok (.iload 7, 2) := by decide +kernel
theorem dX10_digestGivers_67 : decode cX10_digestGivers 67 = .ok (.iaload, 1) := by decide +kernel
theorem dX10_digestGivers_68 : decode cX10_digestGivers 68 = .ok (.i2l, 1) := by decide +kernel
theorem dX10_digestGivers_69 : decode cX10_digestGivers 69 = .ok (.ladd, 1) := by decide +kernel
theorem dX10_digestGivers_70 : decode cX10_digestGivers 70 = .ok (.lstore_n 3, 1) := by decide +kernel
theorem dX10_digestGivers_71 : decode cX10_digestGivers 71 = .ok (.ldc2_w 241, 3) := by decide +kernel
theorem dX10_digestGivers_74 : decode cX10_digestGivers 74 = .ok (.lload_n 3, 1) := by decide +kernel
theorem dX10_digestGivers_75 : decode cX10_digestGivers 75 = .ok (.lmul, 1) := by decide +kernel
theorem dX10_digestGivers_76 : decode cX10_digestGivers 76 = .ok (.aload_n 0, 1) := by decide +kernel
theorem dX10_digestGivers_77 : decode cX10_digestGivers 77 = .ok (.getfield 10, 3) := by decide +kernel
theorem dX10_digestGivers_80 : decode cX10_digestGivers 80 = .ok (.getfield 113, 3) := by decide +kernel
theorem dX10_digestGivers_83 : decode cX10_digestGivers 83 = .ok (.iload 7, 2) := by decide +kernel
theorem dX10_digestGivers_85 : decode cX10_digestGivers 85 = .ok (.iaload, 1) := by decide +kernel
theorem dX10_digestGivers_86 : decode cX10_digestGivers 86 = .ok (.i2l, 1) := by decide +kernel
theorem dX10_digestGivers_87 : decode cX10_digestGivers 87 = .ok (.ladd, 1) := by decide +kernel
theorem dX10_digestGivers_88 : decode cX10_digestGivers 88 = .ok (.lstore_n 3, 1) := by decide +kernel
theorem dX10_digestGivers_89 : decode cX10_digestGivers 89 = .ok (.ldc2_w 241, 3) := by decide +kernel
theorem dX10_digestGivers_92 : decode cX10_digestGivers 92 = .ok (.lload_n 3, 1) := by decide +kernel
theorem dX10_digestGivers_93 : decode cX10_digestGivers 93 = .ok (.lmul, 1) := by decide +kernel
theorem dX10_digestGivers_94 : decode cX10_digestGivers 94 = .ok (.aload_n 0, 1) := by decide +kernel
theorem dX10_digestGivers_95 : decode cX10_digestGivers 95 = .ok (.getfield 10, 3) := by decide +kernel
theorem dX10_digestGivers_98 : decode cX10_digestGivers 98 = .ok (.getfield 152, 3) := by decide +kernel
theorem dX10_digestGivers_101 : decode cX10_digestGivers 101 = .ok (.iload 7, 2) := by decide +kernel
theorem dX10_digestGivers_103 : decode cX10_digestGivers 103 = .ok (.iaload, 1) := by decide +kernel
theorem dX10_digestGivers_104 : decode cX10_digestGivers 104 = .ok (.i2l, 1) := by decide +kernel
theorem dX10_digestGivers_105 : decode cX10_digestGivers 105 = .ok (.ladd, 1) := by decide +kernel
theorem dX10_digestGivers_106 : decode cX10_digestGivers 106 = .ok (.lstore_n 3, 1) := by decide +kernel
theorem dX10_digestGivers_107 : decode cX10_digestGivers 107 = .ok (.iinc 6 1, 3) := by decide +kernel
theorem dX10_digestGivers_110 : decode cX10_digestGivers 110 = .ok (.goto (-72), 3) := by decide +kernel
theorem dX10_digestGivers_113 : decode cX10_digestGivers 113 = .ok (.iinc 5 1, 3) := by decide +kernel
theorem dX10_digestGivers_116 : decode cX10_digestGivers 116 = .ok (.goto (-111), 3) := by decide +kernel
theorem dX10_digestGivers_119 : decode cX10_digestGivers 119 = .ok (.lload_n 3, 1) := by decide +kernel
theorem dX10_digestGivers_120 : decode cX10_digestGivers 120 = .ok (.lreturn, 1) := by decide +kernel
theorem dX10_digestWorks_0 : decode cX10_digestWorks 0 = .ok (.lload_n 1, 1) := by decide +kernel
theorem dX10_digestWorks_1 : decode cX10_digestWorks 1 = .ok (.lstore_n 3, 1) := by decide +kernel
theorem dX10_digestWorks_2 : decode cX10_digestWorks 2 = .ok (.iconst 0, 1) := by decide +kernel
theorem dX10_digestWorks_3 : decode cX10_digestWorks 3 = .ok (.istore 5, 2) := by decide +kernel
theorem dX10_digestWorks_5 : decode cX10_digestWorks 5 = .ok (.iload 5, 2) := by decide +kernel
theorem dX10_digestWorks_7 : decode cX10_digestWorks 7 = .ok (.aload_n 0, 1) := by decide +kernel
theorem dX10_digestWorks_8 : decode cX10_digestWorks 8 = .ok (.getfield 10, 3) := by decide +kernel
theorem dX10_digestWorks_11 : decode cX10_digestWorks 11 = .ok (.getfield 101, 3) := by decide +kernel
theorem dX10_digestWorks_14 : decode cX10_digestWorks 14 = .ok (.if_icmp .ge 111, 3) := by decide +kernel
theorem dX10_digestWorks_17 : decode cX10_digestWorks 17 = .ok (.ldc2_w 241, 3) := by decide +kernel
theorem dX10_digestWorks_20 : decode cX10_digestWorks 20 = .ok (.lload_n 3, 1) := by decide +kernel
theorem dX10_digestWorks_21 : decode cX10_digestWorks 21 = .ok (.lmul, 1) := by decide +kernel
theorem dX10_digestWorks_22 : decode cX10_digestWorks 22 = .ok (.aload_n 0, 1) := by decide +kernel
theorem dX10_digestWorks_23 : decode cX10_digestWorks 23 = .ok (.getfield 10, 3) := by decide +kernel
theorem dX10_digestWorks_26 : decode cX10_digestWorks 26 = .ok (.getfield 104, 3) := by decide +kernel
theorem dX10_digestWorks_29 : decode cX10_digestWorks 29 = .ok (.iload 5, 2) := by decide +kernel
theorem dX10_digestWorks_31 : decode cX10_digestWorks 31 = .ok (.iaload, 1) := by decide +kernel
theorem dX10_digestWorks_32 : decode cX10_digestWorks 32 = .ok (.i2l, 1) := by decide +kernel
theorem dX10_digestWorks_33 : decode cX10_digestWorks 33 = .ok (.ladd, 1) := by decide +kernel
theorem dX10_digestWorks_34 : decode cX10_digestWorks 34 = .ok (.lstore_n 3, 1) := by decide +kernel
theorem dX10_digestWorks_35 : decode cX10_digestWorks 35 = .ok (.ldc2_w 241, 3) := by decide +kernel
theorem dX10_digestWorks_38 : decode cX10_digestWorks 38 = .ok (.lload_n 3, 1) := by decide +kernel
theorem dX10_digestWorks_39 : decode cX10_digestWorks 39 = .ok (.lmul, 1) := by decide +kernel
theorem dX10_digestWorks_40 : decode cX10_digestWorks 40 = .ok (.aload_n 0, 1) := by decide +kernel
theorem dX10_digestWorks_41 : decode cX10_digestWorks 41 = .ok (.getfield 46, 3) := by decide +kernel
theorem dX10_digestWorks_44 : decode cX10_digestWorks 44 = .ok (.getfield 165, 3) := by decide +kernel
theorem dX10_digestWorks_47 : decode cX10_digestWorks 47 = .ok (.iload 5, 2) := by decide +kernel
theorem dX10_digestWorks_49 : decode cX10_digestWorks 49 = .ok (.iaload, 1) := by decide +kernel
theorem dX10_digestWorks_50 : decode cX10_digestWorks 50 = .ok (.i2l, 1) := by decide +kernel
theorem dX10_digestWorks_51 : decode cX10_digestWorks 51 = .ok (.ladd, 1) := by decide +kernel
theorem dX10_digestWorks_52 : decode cX10_digestWorks 52 = .ok (.lstore_n 3, 1) := by decide +kernel
theorem dX10_digestWorks_53 : decode cX10_digestWorks 53 = .ok (.ldc2_w 241, 3) := by decide +kernel
theorem dX10_digestWorks_56 : decode cX10_digestWorks 56 = .ok (.lload_n 3, 1) := by decide +kernel
theorem dX10_digestWorks_57 : decode cX10_digestWorks 57 = .ok (.lmul, 1) := by decide +kernel
theorem dX10_digestWorks_58 : decode cX10_digestWorks 58 = .ok (.aload_n 0, 1) := by decide +kernel
theorem dX10_digestWorks_59 : decode cX10_digestWorks 59 = .ok (.getfield 46, 3) := by decide +kernel
theorem dX10_digestWorks_62 : decode cX10_digestWorks 62 = .ok (.getfield 168, 3) := by decide +kernel
theorem dX10_digestWorks_65 : decode cX10_digestWorks 65 = .ok (.iload 5, 2) := by decide +kernel
theorem dX10_digestWorks_67 : decode cX10_digestWorks 67 = .ok (.iaload, 1) := by decide +kernel
theorem dX10_digestWorks_68 : decode cX10_digestWorks 68 = .ok (.i2l, 1) := by decide +kernel
theorem dX10_digestWorks_69 : decode cX10_digestWorks 69 = .ok (.ladd, 1) := by decide +kernel
theorem dX10_digestWorks_70 : decode cX10_digestWorks 70 = .ok (.lstore_n 3, 1) := by decide +kernel
theorem dX10_digestWorks_71 : decode cX10_digestWorks 71 = .ok (.ldc2_w 241, 3) := by decide +kernel
theorem dX10_digestWorks_74 : decode cX10_digestWorks 74 = .ok (.lload_n 3, 1) := by decide +kernel
theorem dX10_digestWorks_75 : decode cX10_digestWorks 75 = .ok (.lmul, 1) := by decide +kernel
theorem dX10_digestWorks_76 : decode cX10_digestWorks 76 = .ok (.aload_n 0, 1) := by decide +kernel
theorem dX10_digestWorks_77 : decode cX10_digestWorks 77 = .ok (.getfield 46, 3) := by decide +kernel
theorem dX10_digestWorks_80 : decode cX10_digestWorks 80 = .ok (.getfield 171, 3) := by decide +kernel
theorem dX10_digestWorks_83 : decode cX10_digestWorks 83 = .ok (.iload 5, 2) := by decide +kernel
theorem dX10_digestWorks_85 : decode cX10_digestWorks 85 = .ok (.iaload, 1) := by decide +kernel
theorem dX10_digestWorks_86 : decode cX10_digestWorks 86 = .ok (.i2l, 1) := by decide +kernel
theorem dX10_digestWorks_87 : decode cX10_digestWorks 87 = .ok (.ladd, 1) := by decide +kernel
theorem dX10_digestWorks_88 : decode cX10_digestWorks 88 = .ok (.lstore_n 3, 1) := by decide +kernel
theorem dX10_digestWorks_89 : decode cX10_digestWorks 89 = .ok (.ldc2_w 241, 3) := by decide +kernel
theorem dX10_digestWorks_92 : decode cX10_digestWorks 92 = .ok (.lload_n 3, 1) := by decide +kernel
theorem dX10_digestWorks_93 : decode cX10_digestWorks 93 = .ok (.lmul, 1) := by decide +kernel
theorem dX10_digestWorks_94 : decode cX10_digestWorks 94 = .ok (.aload_n 0, 1) := by decide +kernel
theorem dX10_digestWorks_95 : decode cX10_digestWorks 95 = .ok (.getfield 46, 3) := by decide +kernel
theorem dX10_digestWorks_98 : decode cX10_digestWorks 98 = .ok (.getfield 165, 3) := by decide +kernel
theorem dX10_digestWorks_101 : decode cX10_digestWorks 101 = .ok (.iload 5, 2) := by decide +kernel
theorem dX10_digestWorks_103 : decode cX10_digestWorks 103 = .ok (.iaload, 1) := by decide +kernel
theorem dX10_digestWorks_104 : decode cX10_digestWorks 104 = .ok (.i2l, 1) := by decide +kernel
theorem dX10_digestWorks_105 : decode cX10_digestWorks 105 = .ok (.ladd, 1) := by decide +kernel
theorem dX10_digestWorks_106 : decode cX10_digestWorks 106 = .ok (.aload_n 0, 1) := by decide +kernel
theorem dX10_digestWorks_107 : decode cX10_digestWorks 107 = .ok (.getfield 46, 3) := by decide +kernel
theorem dX10_digestWorks_110 : decode cX10_digestWorks 110 = .ok (.getfield 171, 3) := by decide +kernel
theorem dX10_digestWorks_113 : decode cX10_digestWorks 113 = .ok (.iload 5, 2) := by decide +kernel
theorem dX10_digestWorks_115 : decode cX10_digestWorks 115 = .ok (.iaload, 1) := by decide +kernel
theorem dX10_digestWorks_116 : decode cX10_digestWorks 116 = .ok (.i2l, 1) := by decide +kernel
theorem dX10_digestWorks_117 : decode cX10_digestWorks 117 = .ok (.ladd, 1) := by decide +kernel
theorem dX10_digestWorks_118 : decode cX10_digestWorks 118 = .ok (.lstore_n 3, 1) := by decide +kernel
theorem dX10_digestWorks_119 : decode cX10_digestWorks 119 = .ok (.iinc 5 1, 3) := by decide +kernel
theorem dX10_digestWorks_122 : decode cX10_digestWorks 122 = .ok (.goto (-117), 3) := by decide +kernel
theorem dX10_digestWorks_125 : decode cX10_digestWorks 125 = .ok (.lload_n 3, 1) := by decide +kernel
theorem dX10_digestWorks_126 : decode cX10_digestWorks 126 = .ok (.lreturn, 1) := by decide +kernel
theorem dX10_digestRules_0 : decode cX10_digestRules 0 = .ok (.lload_n 1, 1) := by decide +kernel
theorem dX10_digestRules_1 : decode cX10_digestRules 1 = .ok (.lstore_n 3, 1) := by decide +kernel
theorem dX10_digestRules_2 : decode cX10_digestRules 2 = .ok (.iconst 0, 1) := by decide +kernel
theorem dX10_digestRules_3 : decode cX10_digestRules 3 = .ok (.istore 5, 2) := by decide +kernel
theorem dX10_digestRules_5 : decode cX10_digestRules 5 = .ok (.iload 5, 2) := by decide +kernel
theorem dX10_digestRules_7 : decode cX10_digestRules 7 = .ok (.iconst 3, 1) := by decide +kernel
theorem dX10_digestRules_8 : decode cX10_digestRules 8 = .ok (.if_icmp .ge 69, 3) := by decide +kernel
theorem dX10_digestRules_11 : decode cX10_digestRules 11 = .ok (.aload_n 0, 1) := by decide +kernel
theorem dX10_digestRules_12 : decode cX10_digestRules 12 = .ok (.getfield 10, 3) := by decide +kernel
theorem dX10_digestRules_15 : decode cX10_digestRules 15 = .ok (.getfield 133, 3) := by decide +kernel
theorem dX10_digestRules_18 : decode cX10_digestRules 18 = .ok (.iload 5, 2) := by decide +kernel
theorem dX10_digestRules_20 : decode cX10_digestRules 20 = .ok (.aaload, 1) := by decide +kernel
theorem dX10_digestRules_21 : decode cX10_digestRules 21 = .ok (.astore 6, 2) := by decide +kernel
theorem dX10_digestRules_23 : decode cX10_digestRules 23 = .ok (.ldc2_w 241, 3) := by decide +kernel
theorem dX10_digestRules_26 : decode cX10_digestRules 26 = .ok (.lload_n 3, 1) := by decide +kernel
theorem dX10_digestRules_27 : decode cX10_digestRules 27 = .ok (.lmul, 1) := by decide +kernel
theorem dX10_digestRules_28 : decode cX10_digestRules 28 = .ok (.aload 6, 2) := by decide +kernel
theorem dX10_digestRules_30 : decode cX10_digestRules 30 = .ok (.getfield 137, 3) := by decide +kernel
theorem dX10_digestRules_33 : decode cX10_digestRules 33 = .ok (.i2l, 1) := by decide +kernel
theorem dX10_digestRules_34 : decode cX10_digestRules 34 = .ok (.ladd, 1) := by decide +kernel
theorem dX10_digestRules_35 : decode cX10_digestRules 35 = .ok (.lstore_n 3, 1) := by decide +kernel
theorem dX10_digestRules_36 : decode cX10_digestRules 36 = .ok (.iconst 0, 1) := by decide +kernel
theorem dX10_digestRules_37 : decode cX10_digestRules 37 = .ok (.istore 7, 2) := by decide +kernel
theorem dX10_digestRules_39 : decode cX10_digestRules 39 = .ok (.iload 7, 2) := by decide +kernel
theorem dX10_digestRules_41 : decode cX10_digestRules 41 = .ok (.aload 6, 2) := by decide +kernel
theorem dX10_digestRules_43 : decode cX10_digestRules 43 = .ok (.getfield 137, 3) := by decide +kernel
theorem dX10_digestRules_46 : decode cX10_digestRules 46 = .ok (.if_icmp .ge 25, 3) := by decide +kernel
theorem dX10_digestRules_49 : decode cX10_digestRules 49 = .ok (.ldc2_w 241, 3) := by decide +kernel
theorem dX10_digestRules_52 : decode cX10_digestRules 52 = .ok (.lload_n 3, 1) := by decide +kernel
theorem dX10_digestRules_53 : decode cX10_digestRules 53 = .ok (.lmul, 1) := by decide +kernel
theorem dX10_digestRules_54 : decode cX10_digestRules 54 = .ok (.aload 6, 2) := by decide +kernel
theorem dX10_digestRules_56 : decode cX10_digestRules 56 = .ok (.getfield 142, 3) := by decide +kernel
theorem dX10_digestRules_59 : decode cX10_digestRules 59 = .ok (.iload 7, 2) := by decide +kernel
theorem dX10_digestRules_61 : decode cX10_digestRules 61 = .ok (.iaload, 1) := by decide +kernel
theorem dX10_digestRules_62 : decode cX10_digestRules 62 = .ok (.i2l, 1) := by decide +kernel
theorem dX10_digestRules_63 : decode cX10_digestRules 63 = .ok (.ladd, 1) := by decide +kernel
theorem dX10_digestRules_64 : decode cX10_digestRules 64 = .ok (.lstore_n 3, 1) := by decide +kernel
theorem dX10_digestRules_65 : decode cX10_digestRules 65 = .ok (.iinc 7 1, 3) := by decide +kernel
theorem dX10_digestRules_68 : decode cX10_digestRules 68 = .ok (.goto (-29), 3) := by decide +kernel
theorem dX10_digestRules_71 : decode cX10_digestRules 71 = .ok (.iinc 5 1, 3) := by decide +kernel
theorem dX10_digestRules_74 : decode cX10_digestRules 74 = .ok (.goto (-69), 3) := by decide +kernel
theorem dX10_digestRules_77 : decode cX10_digestRules 77 = .ok (.lload_n 3, 1) := by decide +kernel
theorem dX10_digestRules_78 : decode cX10_digestRules 78 = .ok (.lreturn, 1) := by decide +kernel
theorem dX10_setKeep_0 : decode cX10_setKeep 0 = .ok (.iload_n 1, 1) := by decide +kernel
theorem dX10_setKeep_1 : decode cX10_setKeep 1 = .ok (.bipush 99, 2) := by decide +kernel
theorem dX10_setKeep_3 : decode cX10_setKeep 3 = .ok (.invokestatic 89, 3) := by decide +kernel
theorem dX10_setKeep_6 : decode cX10_setKeep 6 = .ok (.ifCond .ne 6, 3) := by decide +kernel
theorem dX10_setKeep_9 : decode cX10_setKeep 9 = .ok (.bipush (-2), 2) := by decide +kernel
theorem dX10_setKeep_11 : decode cX10_setKeep 11 = .ok (.ireturn, 1) := by decide +kernel
theorem dX10_setKeep_12 : decode cX10_setKeep 12 = .ok (.aload_n 0, 1) := by decide +kernel
theorem dX10_setKeep_13 : decode cX10_setKeep 13 = .ok (.getfield 10, 3) := by decide +kernel
theorem dX10_setKeep_16 : decode cX10_setKeep 16 = .ok (.getfield 253, 3) := by decide +kernel
theorem dX10_setKeep_19 : decode cX10_setKeep 19 = .ok (.istore_n 2, 1) := by decide +kernel
theorem dX10_setKeep_20 : decode cX10_setKeep 20 = .ok (.aload_n 0, 1) := by decide +kernel
theorem dX10_setKeep_21 : decode cX10_setKeep 21 = .ok (.getfield 10, 3) := by decide +kernel
theorem dX10_setKeep_24 : decode cX10_setKeep 24 = .ok (.iload_n 1, 1) := by decide +kernel
theorem dX10_setKeep_25 : decode cX10_setKeep 25 = .ok (.putfield 253, 3) := by decide +kernel
theorem dX10_setKeep_28 : decode cX10_setKeep 28 = .ok (.iload_n 2, 1) := by decide +kernel
theorem dX10_setKeep_29 : decode cX10_setKeep 29 = .ok (.ireturn, 1) := by decide +kernel
theorem dX10_setTheRule_0 : decode cX10_setTheRule 0 = .ok (.iload_n 1, 1) := by decide +kernel
theorem dX10_setTheRule_1 : decode cX10_setTheRule 1 = .ok (.invokestatic 129, 3) := by decide +kernel
theorem dX10_setTheRule_4 : decode cX10_setTheRule 4 = .ok (.ifCond .ne 6, 3) := by decide +kernel
theorem dX10_setTheRule_7 : decode cX10_setTheRule 7 = .ok (.bipush (-2), 2) := by decide +kernel
theorem dX10_setTheRule_9 : decode cX10_setTheRule 9 = .ok (.ireturn, 1) := by decide +kernel
theorem dX10_setTheRule_10 : decode cX10_setTheRule 10 = .ok (.aload_n 0, 1) := by decide +kernel
theorem dX10_setTheRule_11 : decode cX10_setTheRule 11 = .ok (.getfield 10, 3) := by decide +kernel
theorem dX10_setTheRule_14 : decode cX10_setTheRule 14 = .ok (.getfield 256, 3) := by decide +kernel
theorem dX10_setTheRule_17 : decode cX10_setTheRule 17 = .ok (.istore_n 2, 1) := by decide +kernel
theorem dX10_setTheRule_18 : decode cX10_setTheRule 18 = .ok (.aload_n 0, 1) := by decide +kernel
theorem dX10_setTheRule_19 : decode cX10_setTheRule 19 = .ok (.getfield 10, 3) := by decide +kernel
theorem dX10_setTheRule_22 : decode cX10_setTheRule 22 = .ok (.iload_n 1, 1) := by decide +kernel
theorem dX10_setTheRule_23 : decode cX10_setTheRule 23 = .ok (.putfield 256, 3) := by decide +kernel
theorem dX10_setTheRule_26 : decode cX10_setTheRule 26 = .ok (.iload_n 2, 1) := by decide +kernel
theorem dX10_setTheRule_27 : decode cX10_setTheRule 27 = .ok (.ireturn, 1) := by decide +kernel
theorem dX10_setPurse_0 : decode cX10_setPurse 0 = .ok (.iload_n 1, 1) := by decide +kernel
theorem dX10_setPurse_1 : decode cX10_setPurse 1 = .ok (.sipush 200, 3) := by decide +kernel
theorem dX10_setPurse_4 : decode cX10_setPurse 4 = .ok (.invokestatic 89, 3) := by decide +kernel
theorem dX10_setPurse_7 : decode cX10_setPurse 7 = .ok (.ifCond .ne 6, 3) := by decide +kernel
theorem dX10_setPurse_10 : decode cX10_setPurse 10 = .ok (.bipush (-2), 2) := by decide +kernel
theorem dX10_setPurse_12 : decode cX10_setPurse 12 = .ok (.ireturn, 1) := by decide +kernel
theorem dX10_setPurse_13 : decode cX10_setPurse 13 = .ok (.aload_n 0, 1) := by decide +kernel
theorem dX10_setPurse_14 : decode cX10_setPurse 14 = .ok (.getfield 10, 3) := by decide +kernel
theorem dX10_setPurse_17 : decode cX10_setPurse 17 = .ok (.getfield 259, 3) := by decide +kernel
theorem dX10_setPurse_20 : decode cX10_setPurse 20 = .ok (.istore_n 2, 1) := by decide +kernel
theorem dX10_setPurse_21 : decode cX10_setPurse 21 = .ok (.aload_n 0, 1) := by decide +kernel
theorem dX10_setPurse_22 : decode cX10_setPurse 22 = .ok (.getfield 10, 3) := by decide +kernel
theorem dX10_setPurse_25 : decode cX10_setPurse 25 = .ok (.iload_n 1, 1) := by decide +kernel
theorem dX10_setPurse_26 : decode cX10_setPurse 26 = .ok (.putfield 259, 3) := by decide +kernel
theorem dX10_setPurse_29 : decode cX10_setPurse 29 = .ok (.iload_n 2, 1) := by decide +kernel
theorem dX10_setPurse_30 : decode cX10_setPurse 30 = .ok (.ireturn, 1) := by decide +kernel
theorem dX10_setParted_0 : decode cX10_setParted 0 = .ok (.iload_n 1, 1) := by decide +kernel
theorem dX10_setParted_1 : decode cX10_setParted 1 = .ok (.iconst 2, 1) := by decide +kernel
theorem dX10_setParted_2 : decode cX10_setParted 2 = .ok (.invokestatic 89, 3) := by decide +kernel
theorem dX10_setParted_5 : decode cX10_setParted 5 = .ok (.ifCond .ne 6, 3) := by decide +kernel
theorem dX10_setParted_8 : decode cX10_setParted 8 = .ok (.bipush (-2), 2) := by decide +kernel
theorem dX10_setParted_10 : decode cX10_setParted 10 = .ok (.ireturn, 1) := by decide +kernel
theorem dX10_setParted_11 : decode cX10_setParted 11 = .ok (.aload_n 0, 1) := by decide +kernel
theorem dX10_setParted_12 : decode cX10_setParted 12 = .ok (.getfield 10, 3) := by decide +kernel
theorem dX10_setParted_15 : decode cX10_setParted 15 = .ok (.getfield 262, 3) := by decide +kernel
theorem dX10_setParted_18 : decode cX10_setParted 18 = .ok (.istore_n 2, 1) := by decide +kernel
theorem dX10_setParted_19 : decode cX10_setParted 19 = .ok (.aload_n 0, 1) := by decide +kernel
theorem dX10_setParted_20 : decode cX10_setParted 20 = .ok (.getfield 10, 3) := by decide +kernel
theorem dX10_setParted_23 : decode cX10_setParted 23 = .ok (.iload_n 1, 1) := by decide +kernel
theorem dX10_setParted_24 : decode cX10_setParted 24 = .ok (.putfield 262, 3) := by decide +kernel
theorem dX10_setParted_27 : decode cX10_setParted 27 = .ok (.iload_n 2, 1) := by decide +kernel
theorem dX10_setParted_28 : decode cX10_setParted 28 = .ok (.ireturn, 1) := by decide +kernel
theorem dX10_isWithin_0 : decode cX10_isWithin 0 = .ok (.iload_n 0, 1) := by decide +kernel
theorem dX10_isWithin_1 : decode cX10_isWithin 1 = .ok (.ifCond .lt 12, 3) := by decide +kernel
theorem dX10_isWithin_4 : decode cX10_isWithin 4 = .ok (.iload_n 0, 1) := by decide +kernel
theorem dX10_isWithin_5 : decode cX10_isWithin 5 = .ok (.iload_n 1, 1) := by decide +kernel
theorem dX10_isWithin_6 : decode cX10_isWithin 6 = .ok (.if_icmp .gt 7, 3) := by decide +kernel
theorem dX10_isWithin_9 : decode cX10_isWithin 9 = .ok (.iconst 1, 1) := by decide +kernel
theorem dX10_isWithin_10 : decode cX10_isWithin 10 = .ok (.goto 4, 3) := by decide +kernel
theorem dX10_isWithin_13 : decode cX10_isWithin 13 = .ok (.iconst 0, 1) := by decide +kernel
theorem dX10_isWithin_14 : decode cX10_isWithin 14 = .ok (.ireturn, 1) := by decide +kernel
theorem dX10_isRule_0 : decode cX10_isRule 0 = .ok (.iload_n 0, 1) := by decide +kernel
theorem dX10_isRule_1 : decode cX10_isRule 1 = .ok (.iconst 2, 1) := by decide +kernel
theorem dX10_isRule_2 : decode cX10_isRule 2 = .ok (.invokestatic 89, 3) := by decide +kernel
theorem dX10_isRule_5 : decode cX10_isRule 5 = .ok (.ireturn, 1) := by decide +kernel
theorem dX10_isGiver_0 : decode cX10_isGiver 0 = .ok (.iload_n 1, 1) := by decide +kernel
theorem dX10_isGiver_1 : decode cX10_isGiver 1 = .ok (.ifCond .lt 18, 3) := by decide +kernel
theorem dX10_isGiver_4 : decode cX10_isGiver 4 = .ok (.iload_n 1, 1) := by decide +kernel
theorem dX10_isGiver_5 : decode cX10_isGiver 5 = .ok (.aload_n 0, 1) := by decide +kernel
theorem dX10_isGiver_6 : decode cX10_isGiver 6 = .ok (.getfield 10, 3) := by decide +kernel
theorem dX10_isGiver_9 : decode cX10_isGiver 9 = .ok (.getfield 93, 3) := by decide +kernel
theorem dX10_isGiver_12 : decode cX10_isGiver 12 = .ok (.if_icmp .ge 7, 3) := by decide +kernel
theorem dX10_isGiver_15 : decode cX10_isGiver 15 = .ok (.iconst 1, 1) := by decide +kernel
theorem dX10_isGiver_16 : decode cX10_isGiver 16 = .ok (.goto 4, 3) := by decide +kernel
theorem dX10_isGiver_19 : decode cX10_isGiver 19 = .ok (.iconst 0, 1) := by decide +kernel
theorem dX10_isGiver_20 : decode cX10_isGiver 20 = .ok (.ireturn, 1) := by decide +kernel
theorem dX10_isWork_0 : decode cX10_isWork 0 = .ok (.iload_n 1, 1) := by decide +kernel
theorem dX10_isWork_1 : decode cX10_isWork 1 = .ok (.ifCond .lt 18, 3) := by decide +kernel
theorem dX10_isWork_4 : decode cX10_isWork 4 = .ok (.iload_n 1, 1) := by decide +kernel
theorem dX10_isWork_5 : decode cX10_isWork 5 = .ok (.aload_n 0, 1) := by decide +kernel
theorem dX10_isWork_6 : decode cX10_isWork 6 = .ok (.getfield 10, 3) := by decide +kernel
theorem dX10_isWork_9 : decode cX10_isWork 9 = .ok (.getfield 101, 3) := by decide +kernel
theorem dX10_isWork_12 : decode cX10_isWork 12 = .ok (.if_icmp .ge 7, 3) := by decide +kernel
theorem dX10_isWork_15 : decode cX10_isWork 15 = .ok (.iconst 1, 1) := by decide +kernel
theorem dX10_isWork_16 : decode cX10_isWork 16 = .ok (.goto 4, 3) := by decide +kernel
theorem dX10_isWork_19 : decode cX10_isWork 19 = .ok (.iconst 0, 1) := by decide +kernel
theorem dX10_isWork_20 : decode cX10_isWork 20 = .ok (.ireturn, 1) := by decide +kernel
theorem dX10_isPair_0 : decode cX10_isPair 0 = .ok (.aload_n 0, 1) := by decide +kernel
theorem dX10_isPair_1 : decode cX10_isPair 1 = .ok (.iload_n 1, 1) := by decide +kernel
theorem dX10_isPair_2 : decode cX10_isPair 2 = .ok (.invokevirtual 178, 3) := by decide +kernel
theorem dX10_isPair_5 : decode cX10_isPair 5 = .ok (.ifCond .eq 15, 3) := by decide +kernel
theorem dX10_isPair_8 : decode cX10_isPair 8 = .ok (.aload_n 0, 1) := by decide +kernel
theorem dX10_isPair_9 : decode cX10_isPair 9 = .ok (.iload_n 2, 1) := by decide +kernel
theorem dX10_isPair_10 : decode cX10_isPair 10 = .ok (.invokevirtual 158, 3) := by decide +kernel
theorem dX10_isPair_13 : decode cX10_isPair 13 = .ok (.ifCond .eq 7, 3) := by decide +kernel
theorem dX10_isPair_16 : decode cX10_isPair 16 = .ok (.iconst 1, 1) := by decide +kernel
theorem dX10_isPair_17 : decode cX10_isPair 17 = .ok (.goto 4, 3) := by decide +kernel
theorem dX10_isPair_20 : decode cX10_isPair 20 = .ok (.iconst 0, 1) := by decide +kernel
theorem dX10_isPair_21 : decode cX10_isPair 21 = .ok (.ireturn, 1) := by decide +kernel
theorem dX11_init_0 : decode cX11_init 0 = .ok (.aload_n 0, 1) := by decide +kernel
theorem dX11_init_1 : decode cX11_init 1 = .ok (.invokespecial 1, 3) := by decide +kernel
theorem dX11_init_4 : decode cX11_init 4 = .ok (.aload_n 0, 1) := by decide +kernel
theorem dX11_init_5 : decode cX11_init 5 = .ok (.sipush 182, 3) := by decide +kernel
theorem dX11_init_8 : decode cX11_init 8 = .ok (.newarray .int, 2) := by decide +kernel
theorem dX11_init_10 : decode cX11_init 10 = .ok (.putfield 7, 3) := by decide +kernel
theorem dX11_init_13 : decode cX11_init 13 = .ok (.aload_n 0, 1) := by decide +kernel
theorem dX11_init_14 : decode cX11_init 14 = .ok (.sipush 364, 3) := by decide +kernel
theorem dX11_init_17 : decode cX11_init 17 = .ok (.newarray .int, 2) := by decide +kernel
theorem dX11_init_19 : decode cX11_init 19 = .ok (.putfield 13, 3) := by decide +kernel
theorem dX11_init_22 : decode cX11_init 22 = .ok (.aload_n 0, 1) := by decide +kernel
theorem dX11_init_23 : decode cX11_init 23 = .ok (.iconst 2, 1) := by decide +kernel
theorem dX11_init_24 : decode cX11_init 24 = .ok (.newarray .boolean, 2) := by decide +kernel
theorem dX11_init_26 : decode cX11_init 26 = .ok (.putfield 16, 3) := by decide +kernel
theorem dX11_init_29 : decode cX11_init 29 = .ok (.aload_n 0, 1) := by decide +kernel
theorem dX11_init_30 : decode cX11_init 30 = .ok (.bipush 64, 2) := by decide +kernel
theorem dX11_init_32 : decode cX11_init 32 = .ok (.newarray .long, 2) := by decide +kernel
theorem dX11_init_34 : decode cX11_init 34 = .ok (.putfield 20, 3) := by decide +kernel
theorem dX11_init_37 : decode cX11_init 37 = .ok (.aload_n 0, 1) := by decide +kernel
theorem dX11_init_38 : decode cX11_init 38 = .ok (.sipush 128, 3) := by decide +kernel
theorem dX11_init_41 : decode cX11_init 41 = .ok (.newarray .int, 2) := by decide +kernel
theorem dX11_init_43 : decode cX11_init 43 = .ok (.putfield 24, 3) := by decide +kernel
theorem dX11_init_46 : decode cX11_init 46 = .ok (.aload_n 0, 1) := by decide +kernel
theorem dX11_init_47 : decode cX11_init 47 = .ok (.iconst 5, 1) := by decide +kernel
theorem dX11_init_48 : decode cX11_init 48 = .ok (.newarray .long, 2) := by decide +kernel
theorem dX11_init_50 : decode cX11_init 50 = .ok (.putfield 27, 3) := by decide +kernel
theorem dX11_init_53 : decode cX11_init 53 = .ok (.aload_n 0, 1) := by decide +kernel
theorem dX11_init_54 : decode cX11_init 54 = .ok (.bipush 16, 2) := by decide +kernel
theorem dX11_init_56 : decode cX11_init 56 = .ok (.newarray .int, 2) := by decide +kernel
theorem dX11_init_58 : decode cX11_init 58 = .ok (.putfield 30, 3) := by decide +kernel
theorem dX11_init_61 : decode cX11_init 61 = .ok (.aload_n 0, 1) := by decide +kernel
theorem dX11_init_62 : decode cX11_init 62 = .ok (.bipush 13, 2) := by decide +kernel
theorem dX11_init_64 : decode cX11_init 64 = .ok (.newarray .long, 2) := by decide +kernel
theorem dX11_init_66 : decode cX11_init 66 = .ok (.putfield 33, 3) := by decide +kernel
theorem dX11_init_69 : decode cX11_init 69 = .ok (.aload_n 0, 1) := by decide +kernel
theorem dX11_init_70 : decode cX11_init 70 = .ok (.iconst 3, 1) := by decide +kernel
theorem dX11_init_71 : decode cX11_init 71 = .ok (.newarray .int, 2) := by decide +kernel
theorem dX11_init_73 : decode cX11_init 73 = .ok (.putfield 36, 3) := by decide +kernel
theorem dX11_init_76 : decode cX11_init 76 = .ok (.aload_n 0, 1) := by decide +kernel
theorem dX11_init_77 : decode cX11_init 77 = .ok (.iconst 3, 1) := by decide +kernel
theorem dX11_init_78 : decode cX11_init 78 = .ok (.newarray .int, 2) := by decide +kernel
theorem dX11_init_80 : decode cX11_init 80 = .ok (.putfield 39, 3) := by decide +kernel
theorem dX11_init_83 : decode cX11_init 83 = .ok (.aload_n 0, 1) := by decide +kernel
theorem dX11_init_84 : decode cX11_init 84 = .ok (.iconst 3, 1) := by decide +kernel
theorem dX11_init_85 : decode cX11_init 85 = .ok (.newarray .int, 2) := by decide +kernel
theorem dX11_init_87 : decode cX11_init 87 = .ok (.putfield 42, 3) := by decide +kernel
theorem dX11_init_90 : decode cX11_init 90 = .ok (.aload_n 0, 1) := by decide +kernel
theorem dX11_init_91 : decode cX11_init 91 = .ok (.iconst (-1), 1) := by decide +kernel
theorem dX11_init_92 : decode cX11_init 92 = .ok (.putfield 45, 3) := by decide +kernel
theorem dX11_init_95 : decode cX11_init 95 = .ok (.aload_n 0, 1) := by decide +kernel
theorem dX11_init_96 : decode cX11_init 96 = .ok (.iconst (-1), 1) := by decide +kernel
theorem dX11_init_97 : decode cX11_init 97 = .ok (.putfield 49, 3) := by decide +kernel
theorem dX11_init_100 : decode cX11_init 100 = .ok (.aload_n 0, 1) := by decide +kernel
theorem dX11_init_101 : decode cX11_init 101 = .ok (.iconst 4, 1) := by decide +kernel
theorem dX11_init_102 : decode cX11_init 102 = .ok (.newarray .int, 2) := by decide +kernel
theorem dX11_init_104 : decode cX11_init 104 = .ok (.putfield 52, 3) := by decide +kernel
theorem dX11_init_107 : decode cX11_init 107 = .ok (.aload_n 0, 1) := by decide +kernel
theorem dX11_init_108 : decode cX11_init 108 = .ok (.iconst 3, 1) := by decide +kernel
theorem dX11_init_109 : decode cX11_init 109 = .ok (.newarray .int, 2) := by decide +kernel
theorem dX11_init_111 : decode cX11_init 111 = .ok (.putfield 55, 3) := by decide +kernel
theorem dX11_init_114 : decode cX11_init 114 = .ok (.aload_n 0, 1) := by decide +kernel
theorem dX11_init_115 : decode cX11_init 115 = .ok (.iconst 3, 1) := by decide +kernel
theorem dX11_init_116 : decode cX11_init 116 = .ok (.newarray .int, 2) := by decide +kernel
theorem dX11_init_118 : decode cX11_init 118 = .ok (.putfield 58, 3) := by decide +kernel
theorem dX11_init_121 : decode cX11_init 121 = .ok (.aload_n 0, 1) := by decide +kernel
theorem dX11_init_122 : decode cX11_init 122 = .ok (.sipush 615, 3) := by decide +kernel
theorem dX11_init_125 : decode cX11_init 125 = .ok (.newarray .int, 2) := by decide +kernel
theorem dX11_init_127 : decode cX11_init 127 = .ok (.putfield 61, 3) := by decide +kernel
theorem dX11_init_130 : decode cX11_init 130 = .ok (.aload_n 0, 1) := by decide +kernel
theorem dX11_init_131 : decode cX11_init 131 = .ok (.sipush 183, 3) := by decide +kernel
theorem dX11_init_134 : decode cX11_init 134 = .ok (.newarray .int, 2) := by decide +kernel
theorem dX11_init_136 : decode cX11_init 136 = .ok (.putfield 64, 3) := by decide +kernel
theorem dX11_init_139 : decode cX11_init 139 = .ok (.aload_n 0, 1) := by decide +kernel
theorem dX11_init_140 : decode cX11_init 140 = .ok (.iconst 3, 1) := by decide +kernel
theorem dX11_init_141 : decode cX11_init 141 = .ok (.newarray .int, 2) := by decide +kernel
theorem dX11_init_143 : decode cX11_init 143 = .ok (.putfield 67, 3) := by decide +kernel
theorem dX11_init_146 : decode cX11_init 146 = .ok (.aload_n 0, 1) := by decide +kernel
theorem dX11_init_147 : decode cX11_init 147 = .ok (.iconst 5, 1) := by decide +kernel
theorem dX11_init_148 : decode cX11_init 148 = .ok (.newarray .int, 2) := by decide +kernel
theorem dX11_init_150 : decode cX11_init 150 = .ok (.putfield 70, 3) := by decide +kernel
theorem dX11_init_153 : decode cX11_init 153 = .ok (.aload_n 0, 1) := by decide +kernel
theorem dX11_init_154 : decode cX11_init 154 = .ok (.bipush 15, 2) := by decide +kernel
theorem dX11_init_156 : decode cX11_init 156 = .ok (.newarray .int, 2) := by decide +kernel
theorem dX11_init_158 : decode cX11_init 158 = .ok (.putfield 73, 3) := by decide +kernel
theorem dX11_init_161 : decode cX11_init 161 = .ok (.aload_n 0, 1) := by decide +kernel
theorem dX11_init_162 : decode cX11_init 162 = .ok (.getfield 7, 3) := by decide +kernel
theorem dX11_init_165 : decode cX11_init 165 = .ok (.bipush 53, 2) := by decide +kernel
theorem dX11_init_167 : decode cX11_init 167 = .ok (.bipush 10, 2) := by decide +kernel
theorem dX11_init_169 : decode cX11_init 169 = .ok (.iastore, 1) := by decide +kernel
theorem dX11_init_170 : decode cX11_init 170 = .ok (.aload_n 0, 1) := by decide +kernel
theorem dX11_init_171 : decode cX11_init 171 = .ok (.getfield 7, 3) := by decide +kernel
theorem dX11_init_174 : decode cX11_init 174 = .ok (.bipush 55, 2) := by decide +kernel
theorem dX11_init_176 : decode cX11_init 176 = .ok (.bipush 40, 2) := by decide +kernel
theorem dX11_init_178 : decode cX11_init 178 = .ok (.iastore, 1) := by decide +kernel
theorem dX11_init_179 : decode cX11_init 179 = .ok (.return_, 1) := by decide +kernel
theorem dX11_in_0 : decode cX11_in 0 = .ok (.lload_n 0, 1) := by decide +kernel
theorem dX11_in_1 : decode cX11_in 1 = .ok (.lload_n 2, 1) := by decide +kernel
theorem dX11_in_2 : decode cX11_in 2 = .ok (.lcmp, 1) := by decide +kernel
theorem dX11_in_3 : decode cX11_in 3 = .ok (.ifCond .lt 14, 3) := by decide +kernel
theorem dX11_in_6 : decode cX11_in 6 = .ok (.lload_n 0, 1) := by decide +kernel
theorem dX11_in_7 : decode cX11_in 7 = .ok (.lload 4, 2) := by decide +kernel
theorem dX11_in_9 : decode cX11_in 9 = .ok (.lcmp, 1) := by decide +kernel
theorem dX11_in_10 : decode cX11_in 10 = .ok (.ifCond .gt 7, 3) := by decide +kernel
theorem dX11_in_13 : decode cX11_in 13 = .ok (.iconst 1, 1) := by decide +kernel
theorem dX11_in_14 : decode cX11_in 14 = .ok (.goto 4, 3) := by decide +kernel
theorem dX11_in_17 : decode cX11_in 17 = .ok (.iconst 0, 1) := by decide +kernel
theorem dX11_in_18 : decode cX11_in 18 = .ok (.ireturn, 1) := by decide +kernel
theorem dX11_givers_0 : decode cX11_givers 0 = .ok (.aload_n 0, 1) := by decide +kernel
theorem dX11_givers_1 : decode cX11_givers 1 = .ok (.getfield 7, 3) := by decide +kernel
theorem dX11_givers_4 : decode cX11_givers 4 = .ok (.sipush 180, 3) := by decide +kernel
theorem dX11_givers_7 : decode cX11_givers 7 = .ok (.iaload, 1) := by decide +kernel
theorem dX11_givers_8 : decode cX11_givers 8 = .ok (.ireturn, 1) := by decide +kernel
theorem dX11_works_0 : decode cX11_works 0 = .ok (.aload_n 0, 1) := by decide +kernel
theorem dX11_works_1 : decode cX11_works 1 = .ok (.getfield 7, 3) := by decide +kernel
theorem dX11_works_4 : decode cX11_works 4 = .ok (.sipush 181, 3) := by decide +kernel
theorem dX11_works_7 : decode cX11_works 7 = .ok (.iaload, 1) := by decide +kernel
theorem dX11_works_8 : decode cX11_works 8 = .ok (.ireturn, 1) := by decide +kernel
theorem dX11_isGiver_0 : decode cX11_isGiver 0 = .ok (.iload_n 1, 1) := by decide +kernel
theorem dX11_isGiver_1 : decode cX11_isGiver 1 = .ok (.i2l, 1) := by decide +kernel
theorem dX11_isGiver_2 : decode cX11_isGiver 2 = .ok (.lconst 0, 1) := by decide +kernel
theorem dX11_isGiver_3 : decode cX11_isGiver 3 = .ok (.aload_n 0, 1) := by decide +kernel
theorem dX11_isGiver_4 : decode cX11_isGiver 4 = .ok (.invokevirtual 76, 3) := by decide +kernel
theorem dX11_isGiver_7 : decode cX11_isGiver 7 = .ok (.iconst 1, 1) := by decide +kernel
theorem dX11_isGiver_8 : decode cX11_isGiver 8 = .ok (.isub, 1) := by decide +kernel
theorem dX11_isGiver_9 : decode cX11_isGiver 9 = .ok (.i2l, 1) := by decide +kernel
theorem dX11_isGiver_10 : decode cX11_isGiver 10 = .ok (.invokestatic 80, 3) := by decide +kernel
theorem dX11_isGiver_13 : decode cX11_isGiver 13 = .ok (.ireturn, 1) := by decide +kernel
theorem dX11_isWork_0 : decode cX11_isWork 0 = .ok (.iload_n 1, 1) := by decide +kernel
theorem dX11_isWork_1 : decode cX11_isWork 1 = .ok (.i2l, 1) := by decide +kernel
theorem dX11_isWork_2 : decode cX11_isWork 2 = .ok (.lconst 0, 1) := by decide +kernel
theorem dX11_isWork_3 : decode cX11_isWork 3 = .ok (.aload_n 0, 1) := by decide +kernel
theorem dX11_isWork_4 : decode cX11_isWork 4 = .ok (.invokevirtual 84, 3) := by decide +kernel
theorem dX11_isWork_7 : decode cX11_isWork 7 = .ok (.iconst 1, 1) := by decide +kernel
theorem dX11_isWork_8 : decode cX11_isWork 8 = .ok (.isub, 1) := by decide +kernel
theorem dX11_isWork_9 : decode cX11_isWork 9 = .ok (.i2l, 1) := by decide +kernel
theorem dX11_isWork_10 : decode cX11_isWork 10 = .ok (.invokestatic 80, 3) := by decide +kernel
theorem dX11_isWork_13 : decode cX11_isWork 13 = .ok (.ireturn, 1) := by decide +kernel
theorem dX11_gift_0 : decode cX11_gift 0 = .ok (.aload_n 0, 1) := by decide +kernel
theorem dX11_gift_1 : decode cX11_gift 1 = .ok (.getfield 7, 3) := by decide +kernel
theorem dX11_gift_4 : decode cX11_gift 4 = .ok (.bipush 35, 2) := by decide +kernel
theorem dX11_gift_6 : decode cX11_gift 6 = .ok (.iconst 3, 1) := by decide +kernel
theorem dX11_gift_7 : decode cX11_gift 7 = .ok (.iload_n 1, 1) := by decide +kernel
theorem dX11_gift_8 : decode cX11_gift 8 = .ok (.imul, 1) := by decide +kernel
theorem dX11_gift_9 : decode cX11_gift 9 = .ok (.iadd, 1) := by decide +kernel
theorem dX11_gift_10 : decode cX11_gift 10 = .ok (.iload_n 2, 1) := by decide +kernel
theorem dX11_gift_11 : decode cX11_gift 11 = .ok (.iadd, 1) := by decide +kernel
theorem dX11_gift_12 : decode cX11_gift 12 = .ok (.iaload, 1) := by decide +kernel
theorem dX11_gift_13 : decode cX11_gift 13 = .ok (.ireturn, 1) := by decide +kernel
theorem dX11_giver_0 : decode cX11_giver 0 = .ok (.iload_n 1, 1) := by decide +kernel
theorem dX11_giver_1 : decode cX11_giver 1 = .ok (.i2l, 1) := by decide +kernel
theorem dX11_giver_2 : decode cX11_giver 2 = .ok (.lconst 0, 1) := by decide +kernel
theorem dX11_giver_3 : decode cX11_giver 3 = .ok (.ldc2_w 87, 3) := by decide +kernel
theorem dX11_giver_6 : decode cX11_giver 6 = .ok (.invokestatic 80, 3) := by decide +kernel
theorem dX11_giver_9 : decode cX11_giver 9 = .ok (.ifCond .ne 6, 3) := by decide +kernel
theorem dX11_giver_12 : decode cX11_giver 12 = .ok (.bipush (-2), 2) := by decide +kernel
theorem dX11_giver_14 : decode cX11_giver 14 = .ok (.ireturn, 1) := by decide +kernel
theorem dX11_giver_15 : decode cX11_giver 15 = .ok (.aload_n 0, 1) := by decide +kernel
theorem dX11_giver_16 : decode cX11_giver 16 = .ok (.invokevirtual 76, 3) := by decide +kernel
theorem dX11_giver_19 : decode cX11_giver 19 = .ok (.iconst 5, 1) := by decide +kernel
theorem dX11_giver_20 : decode cX11_giver 20 = .ok (.if_icmp .ne 6, 3) := by decide +kernel
theorem dX11_giver_23 : decode cX11_giver 23 = .ok (.bipush (-4), 2) := by decide +kernel
theorem dX11_giver_25 : decode cX11_giver 25 = .ok (.ireturn, 1) := by decide +kernel
theorem dX11_giver_26 : decode cX11_giver 26 = .ok (.aload_n 0, 1) := by decide +kernel
theorem dX11_giver_27 : decode cX11_giver 27 = .ok (.getfield 7, 3) := by decide +kernel
theorem dX11_giver_30 : decode cX11_giver 30 = .ok (.iconst 0, 1) := by decide +kernel
theorem dX11_giver_31 : decode cX11_giver 31 = .ok (.aload_n 0, 1) := by decide +kernel
theorem dX11_giver_32 : decode cX11_giver 32 = .ok (.invokevirtual 76, 3) := by decide +kernel
theorem dX11_giver_35 : decode cX11_giver 35 = .ok (.iadd, 1) := by decide +kernel
theorem dX11_giver_36 : decode cX11_giver 36 = .ok (.iload_n 1, 1) := by decide +kernel
theorem dX11_giver_37 : decode cX11_giver 37 = .ok (.iastore, 1) := by decide +kernel
theorem dX11_giver_38 : decode cX11_giver 38 = .ok (.aload_n 0, 1) := by decide +kernel
theorem dX11_giver_39 : decode cX11_giver 39 = .ok (.getfield 7, 3) := by decide +kernel
theorem dX11_giver_42 : decode cX11_giver 42 = .ok (.sipush 180, 3) := by decide +kernel
theorem dX11_giver_45 : decode cX11_giver 45 = .ok (.dup2, 1) := by decide +kernel
theorem dX11_giver_46 : decode cX11_giver 46 = .ok (.iaload, 1) := by decide +kernel
theorem dX11_giver_47 : decode cX11_giver 47 = .ok (.iconst 1, 1) := by decide +kernel
theorem dX11_giver_48 : decode cX11_giver 48 = .ok (.iadd, 1) := by decide +kernel
theorem dX11_giver_49 : decode cX11_giver 49 = .ok (.iastore, 1) := by decide +kernel
theorem dX11_giver_50 : decode cX11_giver 50 = .ok (.aload_n 0, 1) := by decide +kernel
theorem dX11_giver_51 : decode cX11_giver 51 = .ok (.invokevirtual 76, 3) := by decide +kernel
theorem dX11_giver_54 : decode cX11_giver 54 = .ok (.iconst 1, 1) := by decide +kernel
theorem dX11_giver_55 : decode cX11_giver 55 = .ok (.isub, 1) := by decide +kernel
theorem dX11_giver_56 : decode cX11_giver 56 = .ok (.ireturn, 1) := by decide +kernel
theorem dX11_work_0 : decode cX11_work 0 = .ok (.iload_n 1, 1) := by decide +kernel
theorem dX11_work_1 : decode cX11_work 1 = .ok (.i2l, 1) := by decide +kernel
theorem dX11_work_2 : decode cX11_work 2 = .ok (.lconst 0, 1) := by decide +kernel
theorem dX11_work_3 : decode cX11_work 3 = .ok (.ldc2_w 89, 3) := by decide +kernel
theorem dX11_work_6 : decode cX11_work 6 = .ok (.invokestatic 80, 3) := by decide +kernel
theorem dX11_work_9 : decode cX11_work 9 = .ok (.ifCond .ne 6, 3) := by decide +kernel
theorem dX11_work_12 : decode cX11_work 12 = .ok (.bipush (-2), 2) := by decide +kernel
theorem dX11_work_14 : decode cX11_work 14 = .ok (.ireturn, 1) := by decide +kernel
theorem dX11_work_15 : decode cX11_work 15 = .ok (.aload_n 0, 1) := by decide +kernel
theorem dX11_work_16 : decode cX11_work 16 = .ok (.invokevirtual 84, 3) := by decide +kernel
theorem dX11_work_19 : decode cX11_work 19 = .ok (.iconst 3, 1) := by decide +kernel
theorem dX11_work_20 : decode cX11_work 20 = .ok (.if_icmp .ne 6, 3) := by decide +kernel
theorem dX11_work_23 : decode cX11_work 23 = .ok (.bipush (-4), 2) := by decide +kernel
theorem dX11_work_25 : decode cX11_work 25 = .ok (.ireturn, 1) := by decide +kernel
theorem dX11_work_26 : decode cX11_work 26 = .ok (.aload_n 0, 1) := by decide +kernel
theorem dX11_work_27 : decode cX11_work 27 = .ok (.getfield 7, 3) := by decide +kernel
theorem dX11_work_30 : decode cX11_work 30 = .ok (.bipush 50, 2) := by decide +kernel
theorem dX11_work_32 : decode cX11_work 32 = .ok (.aload_n 0, 1) := by decide +kernel
theorem dX11_work_33 : decode cX11_work 33 = .ok (.invokevirtual 84, 3) := by decide +kernel
theorem dX11_work_36 : decode cX11_work 36 = .ok (.iadd, 1) := by decide +kernel
theorem dX11_work_37 : decode cX11_work 37 = .ok (.iload_n 1, 1) := by decide +kernel
theorem dX11_work_38 : decode cX11_work 38 = .ok (.iastore, 1) := by decide +kernel
theorem dX11_work_39 : decode cX11_work 39 = .ok (.aload_n 0, 1) := by decide +kernel
theorem dX11_work_40 : decode cX11_work 40 = .ok (.getfield 7, 3) := by decide +kernel
theorem dX11_work_43 : decode cX11_work 43 = .ok (.sipush 181, 3) := by decide +kernel
theorem dX11_work_46 : decode cX11_work 46 = .ok (.dup2, 1) := by decide +kernel
theorem dX11_work_47 : decode cX11_work 47 = .ok (.iaload, 1) := by decide +kernel
theorem dX11_work_48 : decode cX11_work 48 = .ok (.iconst 1, 1) := by decide +kernel
theorem dX11_work_49 : decode cX11_work 49 = .ok (.iadd, 1) := by decide +kernel
theorem dX11_work_50 : decode cX11_work 50 = .ok (.iastore, 1) := by decide +kernel
theorem dX11_work_51 : decode cX11_work 51 = .ok (.aload_n 0, 1) := by decide +kernel
theorem dX11_work_52 : decode cX11_work 52 = .ok (.invokevirtual 84, 3) := by decide +kernel
theorem dX11_work_55 : decode cX11_work 55 = .ok (.iconst 1, 1) := by decide +kernel
theorem dX11_work_56 : decode cX11_work 56 = .ok (.isub, 1) := by decide +kernel
theorem dX11_work_57 : decode cX11_work 57 = .ok (.ireturn, 1) := by decide +kernel
theorem dX11_worth_0 : decode cX11_worth 0 = .ok (.aload_n 0, 1) := by decide +kernel
theorem dX11_worth_1 : decode cX11_worth 1 = .ok (.iload_n 1, 1) := by decide +kernel
theorem dX11_worth_2 : decode cX11_worth 2 = .ok (.invokevirtual 91, 3) := by decide +kernel
theorem dX11_worth_5 : decode cX11_worth 5 = .ok (.ifCond .eq 36, 3) := by decide +kernel
theorem dX11_worth_8 : decode cX11_worth 8 = .ok (.aload_n 0, 1) := by decide +kernel
theorem dX11_worth_9 : decode cX11_worth 9 = .ok (.iload_n 2, 1) := by decide +kernel
theorem dX11_worth_10 : decode cX11_worth 10 = .ok (.invokevirtual 95, 3) := by decide +kernel
end
section
theorem dX11_worth_13 : decode cX11_worth 13 = .ok (.ifCond .eq 28, 3) := by decide +kernel
theorem dX11_worth_16 : decode cX11_worth 16 = .ok (.iload_n 3, 1) := by decide +kernel
theorem dX11_worth_17 : decode cX11_worth 17 = .ok (.i2l, 1) := by decide +kernel
theorem dX11_worth_18 : decode cX11_worth 18 = .ok (.lconst 0, 1) := by decide +kernel
theorem dX11_worth_19 : decode cX11_worth 19 = .ok (.ldc2_w 98, 3) := by decide +kernel
theorem dX11_worth_22 : decode cX11_worth 22 = .ok (.invokestatic 80, 3) := by decide +kernel
theorem dX11_worth_25 : decode cX11_worth 25 = .ok (.ifCond .eq 16, 3) := by decide +kernel
theorem dX11_worth_28 : decode cX11_worth 28 = .ok (.iload 4, 2) := by decide +kernel
theorem dX11_worth_30 : decode cX11_worth 30 = .ok (.i2l, 1) := by decide +kernel
theorem dX11_worth_31 : decode cX11_worth 31 = .ok (.lconst 0, 1) := by decide +kernel
theorem dX11_worth_32 : decode cX11_worth 32 = .ok (.ldc2_w 100, 3) := by decide +kernel
theorem dX11_worth_35 : decode cX11_worth 35 = .ok (.invokestatic 80, 3) := by decide +kernel
theorem dX11_worth_38 : decode cX11_worth 38 = .ok (.ifCond .ne 6, 3) := by decide +kernel
theorem dX11_worth_41 : decode cX11_worth 41 = .ok (.bipush (-2), 2) := by decide +kernel
theorem dX11_worth_43 : decode cX11_worth 43 = .ok (.ireturn, 1) := by decide +kernel
theorem dX11_worth_44 : decode cX11_worth 44 = .ok (.aload_n 0, 1) := by decide +kernel
theorem dX11_worth_45 : decode cX11_worth 45 = .ok (.getfield 7, 3) := by decide +kernel
theorem dX11_worth_48 : decode cX11_worth 48 = .ok (.iconst 5, 1) := by decide +kernel
theorem dX11_worth_49 : decode cX11_worth 49 = .ok (.bipush 6, 2) := by decide +kernel
theorem dX11_worth_51 : decode cX11_worth 51 = .ok (.iload_n 1, 1) := by decide +kernel
theorem dX11_worth_52 : decode cX11_worth 52 = .ok (.imul, 1) := by decide +kernel
theorem dX11_worth_53 : decode cX11_worth 53 = .ok (.iadd, 1) := by decide +kernel
theorem dX11_worth_54 : decode cX11_worth 54 = .ok (.iconst 2, 1) := by decide +kernel
theorem dX11_worth_55 : decode cX11_worth 55 = .ok (.iload_n 2, 1) := by decide +kernel
theorem dX11_worth_56 : decode cX11_worth 56 = .ok (.imul, 1) := by decide +kernel
theorem dX11_worth_57 : decode cX11_worth 57 = .ok (.iadd, 1) := by decide +kernel
theorem dX11_worth_58 : decode cX11_worth 58 = .ok (.iload_n 3, 1) := by decide +kernel
theorem dX11_worth_59 : decode cX11_worth 59 = .ok (.iastore, 1) := by decide +kernel
theorem dX11_worth_60 : decode cX11_worth 60 = .ok (.aload_n 0, 1) := by decide +kernel
theorem dX11_worth_61 : decode cX11_worth 61 = .ok (.getfield 7, 3) := by decide +kernel
theorem dX11_worth_64 : decode cX11_worth 64 = .ok (.iconst 5, 1) := by decide +kernel
theorem dX11_worth_65 : decode cX11_worth 65 = .ok (.bipush 6, 2) := by decide +kernel
theorem dX11_worth_67 : decode cX11_worth 67 = .ok (.iload_n 1, 1) := by decide +kernel
theorem dX11_worth_68 : decode cX11_worth 68 = .ok (.imul, 1) := by decide +kernel
theorem dX11_worth_69 : decode cX11_worth 69 = .ok (.iadd, 1) := by decide +kernel
theorem dX11_worth_70 : decode cX11_worth 70 = .ok (.iconst 2, 1) := by decide +kernel
theorem dX11_worth_71 : decode cX11_worth 71 = .ok (.iload_n 2, 1) := by decide +kernel
theorem dX11_worth_72 : decode cX11_worth 72 = .ok (.imul, 1) := by decide +kernel
theorem dX11_worth_73 : decode cX11_worth 73 = .ok (.iadd, 1) := by decide +kernel
theorem dX11_worth_74 : decode cX11_worth 74 = .ok (.iconst 1, 1) := by decide +kernel
theorem dX11_worth_75 : decode cX11_worth 75 = .ok (.iadd, 1) := by decide +kernel
theorem dX11_worth_76 : decode cX11_worth 76 = .ok (.iload 4, 2) := by decide +kernel
theorem dX11_worth_78 : decode cX11_worth 78 = .ok (.iastore, 1) := by decide +kernel
theorem dX11_worth_79 : decode cX11_worth 79 = .ok (.iconst 1, 1) := by decide +kernel
theorem dX11_worth_80 : decode cX11_worth 80 = .ok (.ireturn, 1) := by decide +kernel
theorem dX11_set_0 : decode cX11_set 0 = .ok (.iload_n 1, 1) := by decide +kernel
theorem dX11_set_1 : decode cX11_set 1 = .ok (.i2l, 1) := by decide +kernel
theorem dX11_set_2 : decode cX11_set 2 = .ok (.lconst 0, 1) := by decide +kernel
theorem dX11_set_3 : decode cX11_set 3 = .ok (.ldc2_w 102, 3) := by decide +kernel
theorem dX11_set_6 : decode cX11_set 6 = .ok (.invokestatic 80, 3) := by decide +kernel
theorem dX11_set_9 : decode cX11_set 9 = .ok (.ifCond .eq 36, 3) := by decide +kernel
theorem dX11_set_12 : decode cX11_set 12 = .ok (.iload_n 2, 1) := by decide +kernel
theorem dX11_set_13 : decode cX11_set 13 = .ok (.i2l, 1) := by decide +kernel
theorem dX11_set_14 : decode cX11_set 14 = .ok (.lconst 0, 1) := by decide +kernel
theorem dX11_set_15 : decode cX11_set 15 = .ok (.iload_n 1, 1) := by decide +kernel
theorem dX11_set_16 : decode cX11_set 16 = .ok (.ifCond .ne 9, 3) := by decide +kernel
theorem dX11_set_19 : decode cX11_set 19 = .ok (.ldc2_w 104, 3) := by decide +kernel
theorem dX11_set_22 : decode cX11_set 22 = .ok (.goto 17, 3) := by decide +kernel
theorem dX11_set_25 : decode cX11_set 25 = .ok (.iload_n 1, 1) := by decide +kernel
theorem dX11_set_26 : decode cX11_set 26 = .ok (.iconst 2, 1) := by decide +kernel
theorem dX11_set_27 : decode cX11_set 27 = .ok (.if_icmp .ne 9, 3) := by decide +kernel
theorem dX11_set_30 : decode cX11_set 30 = .ok (.ldc2_w 98, 3) := by decide +kernel
theorem dX11_set_33 : decode cX11_set 33 = .ok (.goto 6, 3) := by decide +kernel
theorem dX11_set_36 : decode cX11_set 36 = .ok (.ldc2_w 106, 3) := by decide +kernel
theorem dX11_set_39 : decode cX11_set 39 = .ok (.invokestatic 80, 3) := by decide +kernel
theorem dX11_set_42 : decode cX11_set 42 = .ok (.ifCond .ne 6, 3) := by decide +kernel
theorem dX11_set_45 : decode cX11_set 45 = .ok (.bipush (-2), 2) := by decide +kernel
theorem dX11_set_47 : decode cX11_set 47 = .ok (.ireturn, 1) := by decide +kernel
theorem dX11_set_48 : decode cX11_set 48 = .ok (.aload_n 0, 1) := by decide +kernel
theorem dX11_set_49 : decode cX11_set 49 = .ok (.getfield 7, 3) := by decide +kernel
theorem dX11_set_52 : decode cX11_set 52 = .ok (.bipush 53, 2) := by decide +kernel
theorem dX11_set_54 : decode cX11_set 54 = .ok (.iload_n 1, 1) := by decide +kernel
theorem dX11_set_55 : decode cX11_set 55 = .ok (.iadd, 1) := by decide +kernel
theorem dX11_set_56 : decode cX11_set 56 = .ok (.iaload, 1) := by decide +kernel
theorem dX11_set_57 : decode cX11_set 57 = .ok (.istore_n 3, 1) := by decide +kernel
theorem dX11_set_58 : decode cX11_set 58 = .ok (.aload_n 0, 1) := by decide +kernel
theorem dX11_set_59 : decode cX11_set 59 = .ok (.getfield 7, 3) := by decide +kernel
theorem dX11_set_62 : decode cX11_set 62 = .ok (.bipush 53, 2) := by decide +kernel
theorem dX11_set_64 : decode cX11_set 64 = .ok (.iload_n 1, 1) := by decide +kernel
theorem dX11_set_65 : decode cX11_set 65 = .ok (.iadd, 1) := by decide +kernel
theorem dX11_set_66 : decode cX11_set 66 = .ok (.iload_n 2, 1) := by decide +kernel
theorem dX11_set_67 : decode cX11_set 67 = .ok (.iastore, 1) := by decide +kernel
theorem dX11_set_68 : decode cX11_set 68 = .ok (.iload_n 3, 1) := by decide +kernel
theorem dX11_set_69 : decode cX11_set 69 = .ok (.ireturn, 1) := by decide +kernel
theorem dX11_isRule_0 : decode cX11_isRule 0 = .ok (.iload_n 0, 1) := by decide +kernel
theorem dX11_isRule_1 : decode cX11_isRule 1 = .ok (.i2l, 1) := by decide +kernel
theorem dX11_isRule_2 : decode cX11_isRule 2 = .ok (.lconst 0, 1) := by decide +kernel
theorem dX11_isRule_3 : decode cX11_isRule 3 = .ok (.ldc2_w 106, 3) := by decide +kernel
theorem dX11_isRule_6 : decode cX11_isRule 6 = .ok (.invokestatic 80, 3) := by decide +kernel
theorem dX11_isRule_9 : decode cX11_isRule 9 = .ok (.ireturn, 1) := by decide +kernel
theorem dX11_write_0 : decode cX11_write 0 = .ok (.iload_n 1, 1) := by decide +kernel
theorem dX11_write_1 : decode cX11_write 1 = .ok (.invokestatic 108, 3) := by decide +kernel
theorem dX11_write_4 : decode cX11_write 4 = .ok (.ifCond .eq 15, 3) := by decide +kernel
theorem dX11_write_7 : decode cX11_write 7 = .ok (.iload_n 2, 1) := by decide +kernel
theorem dX11_write_8 : decode cX11_write 8 = .ok (.i2l, 1) := by decide +kernel
theorem dX11_write_9 : decode cX11_write 9 = .ok (.lconst 0, 1) := by decide +kernel
theorem dX11_write_10 : decode cX11_write 10 = .ok (.ldc2_w 111, 3) := by decide +kernel
theorem dX11_write_13 : decode cX11_write 13 = .ok (.invokestatic 80, 3) := by decide +kernel
theorem dX11_write_16 : decode cX11_write 16 = .ok (.ifCond .ne 6, 3) := by decide +kernel
theorem dX11_write_19 : decode cX11_write 19 = .ok (.bipush (-2), 2) := by decide +kernel
theorem dX11_write_21 : decode cX11_write 21 = .ok (.ireturn, 1) := by decide +kernel
theorem dX11_write_22 : decode cX11_write 22 = .ok (.aload_n 0, 1) := by decide +kernel
theorem dX11_write_23 : decode cX11_write 23 = .ok (.getfield 7, 3) := by decide +kernel
theorem dX11_write_26 : decode cX11_write 26 = .ok (.bipush 57, 2) := by decide +kernel
theorem dX11_write_28 : decode cX11_write 28 = .ok (.bipush 41, 2) := by decide +kernel
theorem dX11_write_30 : decode cX11_write 30 = .ok (.iload_n 1, 1) := by decide +kernel
theorem dX11_write_31 : decode cX11_write 31 = .ok (.imul, 1) := by decide +kernel
theorem dX11_write_32 : decode cX11_write 32 = .ok (.iadd, 1) := by decide +kernel
theorem dX11_write_33 : decode cX11_write 33 = .ok (.iaload, 1) := by decide +kernel
theorem dX11_write_34 : decode cX11_write 34 = .ok (.istore_n 3, 1) := by decide +kernel
theorem dX11_write_35 : decode cX11_write 35 = .ok (.iload_n 3, 1) := by decide +kernel
theorem dX11_write_36 : decode cX11_write 36 = .ok (.bipush 40, 2) := by decide +kernel
theorem dX11_write_38 : decode cX11_write 38 = .ok (.if_icmp .ne 6, 3) := by decide +kernel
theorem dX11_write_41 : decode cX11_write 41 = .ok (.bipush (-4), 2) := by decide +kernel
theorem dX11_write_43 : decode cX11_write 43 = .ok (.ireturn, 1) := by decide +kernel
theorem dX11_write_44 : decode cX11_write 44 = .ok (.aload_n 0, 1) := by decide +kernel
theorem dX11_write_45 : decode cX11_write 45 = .ok (.getfield 7, 3) := by decide +kernel
theorem dX11_write_48 : decode cX11_write 48 = .ok (.bipush 57, 2) := by decide +kernel
theorem dX11_write_50 : decode cX11_write 50 = .ok (.bipush 41, 2) := by decide +kernel
theorem dX11_write_52 : decode cX11_write 52 = .ok (.iload_n 1, 1) := by decide +kernel
theorem dX11_write_53 : decode cX11_write 53 = .ok (.imul, 1) := by decide +kernel
theorem dX11_write_54 : decode cX11_write 54 = .ok (.iadd, 1) := by decide +kernel
theorem dX11_write_55 : decode cX11_write 55 = .ok (.iconst 1, 1) := by decide +kernel
theorem dX11_write_56 : decode cX11_write 56 = .ok (.iadd, 1) := by decide +kernel
theorem dX11_write_57 : decode cX11_write 57 = .ok (.iload_n 3, 1) := by decide +kernel
theorem dX11_write_58 : decode cX11_write 58 = .ok (.iadd, 1) := by decide +kernel
theorem dX11_write_59 : decode cX11_write 59 = .ok (.iload_n 2, 1) := by decide +kernel
theorem dX11_write_60 : decode cX11_write 60 = .ok (.iastore, 1) := by decide +kernel
theorem dX11_write_61 : decode cX11_write 61 = .ok (.aload_n 0, 1) := by decide +kernel
theorem dX11_write_62 : decode cX11_write 62 = .ok (.getfield 7, 3) := by decide +kernel
theorem dX11_write_65 : decode cX11_write 65 = .ok (.bipush 57, 2) := by decide +kernel
theorem dX11_write_67 : decode cX11_write 67 = .ok (.bipush 41, 2) := by decide +kernel
theorem dX11_write_69 : decode cX11_write 69 = .ok (.iload_n 1, 1) := by decide +kernel
theorem dX11_write_70 : decode cX11_write 70 = .ok (.imul, 1) := by decide +kernel
theorem dX11_write_71 : decode cX11_write 71 = .ok (.iadd, 1) := by decide +kernel
theorem dX11_write_72 : decode cX11_write 72 = .ok (.iload_n 3, 1) := by decide +kernel
theorem dX11_write_73 : decode cX11_write 73 = .ok (.iconst 1, 1) := by decide +kernel
theorem dX11_write_74 : decode cX11_write 74 = .ok (.iadd, 1) := by decide +kernel
theorem dX11_write_75 : decode cX11_write 75 = .ok (.iastore, 1) := by decide +kernel
theorem dX11_write_76 : decode cX11_write 76 = .ok (.iload_n 3, 1) := by decide +kernel
theorem dX11_write_77 : decode cX11_write 77 = .ok (.iconst 1, 1) := by decide +kernel
theorem dX11_write_78 : decode cX11_write 78 = .ok (.iadd, 1) := by decide +kernel
theorem dX11_write_79 : decode cX11_write 79 = .ok (.ireturn, 1) := by decide +kernel
theorem dX11_erase_0 : decode cX11_erase 0 = .ok (.iload_n 1, 1) := by decide +kernel
theorem dX11_erase_1 : decode cX11_erase 1 = .ok (.invokestatic 108, 3) := by decide +kernel
theorem dX11_erase_4 : decode cX11_erase 4 = .ok (.ifCond .ne 6, 3) := by decide +kernel
theorem dX11_erase_7 : decode cX11_erase 7 = .ok (.bipush (-2), 2) := by decide +kernel
theorem dX11_erase_9 : decode cX11_erase 9 = .ok (.ireturn, 1) := by decide +kernel
theorem dX11_erase_10 : decode cX11_erase 10 = .ok (.aload_n 0, 1) := by decide +kernel
theorem dX11_erase_11 : decode cX11_erase 11 = .ok (.getfield 7, 3) := by decide +kernel
theorem dX11_erase_14 : decode cX11_erase 14 = .ok (.bipush 57, 2) := by decide +kernel
theorem dX11_erase_16 : decode cX11_erase 16 = .ok (.bipush 41, 2) := by decide +kernel
theorem dX11_erase_18 : decode cX11_erase 18 = .ok (.iload_n 1, 1) := by decide +kernel
theorem dX11_erase_19 : decode cX11_erase 19 = .ok (.imul, 1) := by decide +kernel
theorem dX11_erase_20 : decode cX11_erase 20 = .ok (.iadd, 1) := by decide +kernel
theorem dX11_erase_21 : decode cX11_erase 21 = .ok (.iaload, 1) := by decide +kernel
theorem dX11_erase_22 : decode cX11_erase 22 = .ok (.istore_n 2, 1) := by decide +kernel
theorem dX11_erase_23 : decode cX11_erase 23 = .ok (.aload_n 0, 1) := by decide +kernel
theorem dX11_erase_24 : decode cX11_erase 24 = .ok (.getfield 7, 3) := by decide +kernel
theorem dX11_erase_27 : decode cX11_erase 27 = .ok (.bipush 57, 2) := by decide +kernel
theorem dX11_erase_29 : decode cX11_erase 29 = .ok (.bipush 41, 2) := by decide +kernel
theorem dX11_erase_31 : decode cX11_erase 31 = .ok (.iload_n 1, 1) := by decide +kernel
theorem dX11_erase_32 : decode cX11_erase 32 = .ok (.imul, 1) := by decide +kernel
theorem dX11_erase_33 : decode cX11_erase 33 = .ok (.iadd, 1) := by decide +kernel
theorem dX11_erase_34 : decode cX11_erase 34 = .ok (.iconst 0, 1) := by decide +kernel
theorem dX11_erase_35 : decode cX11_erase 35 = .ok (.iastore, 1) := by decide +kernel
theorem dX11_erase_36 : decode cX11_erase 36 = .ok (.iload_n 2, 1) := by decide +kernel
theorem dX11_erase_37 : decode cX11_erase 37 = .ok (.ireturn, 1) := by decide +kernel
theorem dX11_textLong_0 : decode cX11_textLong 0 = .ok (.aload_n 0, 1) := by decide +kernel
theorem dX11_textLong_1 : decode cX11_textLong 1 = .ok (.getfield 7, 3) := by decide +kernel
theorem dX11_textLong_4 : decode cX11_textLong 4 = .ok (.bipush 57, 2) := by decide +kernel
theorem dX11_textLong_6 : decode cX11_textLong 6 = .ok (.bipush 41, 2) := by decide +kernel
theorem dX11_textLong_8 : decode cX11_textLong 8 = .ok (.aload_n 0, 1) := by decide +kernel
theorem dX11_textLong_9 : decode cX11_textLong 9 = .ok (.getfield 113, 3) := by decide +kernel
theorem dX11_textLong_12 : decode cX11_textLong 12 = .ok (.imul, 1) := by decide +kernel
theorem dX11_textLong_13 : decode cX11_textLong 13 = .ok (.iadd, 1) := by decide +kernel
theorem dX11_textLong_14 : decode cX11_textLong 14 = .ok (.iaload, 1) := by decide +kernel
theorem dX11_textLong_15 : decode cX11_textLong 15 = .ok (.ireturn, 1) := by decide +kernel
theorem dX11_charAt_0 : decode cX11_charAt 0 = .ok (.aload_n 0, 1) := by decide +kernel
theorem dX11_charAt_1 : decode cX11_charAt 1 = .ok (.getfield 7, 3) := by decide +kernel
theorem dX11_charAt_4 : decode cX11_charAt 4 = .ok (.bipush 57, 2) := by decide +kernel
theorem dX11_charAt_6 : decode cX11_charAt 6 = .ok (.bipush 41, 2) := by decide +kernel
theorem dX11_charAt_8 : decode cX11_charAt 8 = .ok (.aload_n 0, 1) := by decide +kernel
theorem dX11_charAt_9 : decode cX11_charAt 9 = .ok (.getfield 113, 3) := by decide +kernel
theorem dX11_charAt_12 : decode cX11_charAt 12 = .ok (.imul, 1) := by decide +kernel
theorem dX11_charAt_13 : decode cX11_charAt 13 = .ok (.iadd, 1) := by decide +kernel
theorem dX11_charAt_14 : decode cX11_charAt 14 = .ok (.iconst 1, 1) := by decide +kernel
theorem dX11_charAt_15 : decode cX11_charAt 15 = .ok (.iadd, 1) := by decide +kernel
theorem dX11_charAt_16 : decode cX11_charAt 16 = .ok (.iload_n 1, 1) := by decide +kernel
theorem dX11_charAt_17 : decode cX11_charAt 17 = .ok (.iadd, 1) := by decide +kernel
theorem dX11_charAt_18 : decode cX11_charAt 18 = .ok (.iaload, 1) := by decide +kernel
theorem dX11_charAt_19 : decode cX11_charAt 19 = .ok (.ireturn, 1) := by decide +kernel
theorem dX11_ahead_0 : decode cX11_ahead 0 = .ok (.aload_n 0, 1) := by decide +kernel
theorem dX11_ahead_1 : decode cX11_ahead 1 = .ok (.getfield 116, 3) := by decide +kernel
theorem dX11_ahead_4 : decode cX11_ahead 4 = .ok (.aload_n 0, 1) := by decide +kernel
theorem dX11_ahead_5 : decode cX11_ahead 5 = .ok (.invokevirtual 119, 3) := by decide +kernel
theorem dX11_ahead_8 : decode cX11_ahead 8 = .ok (.if_icmp .ge 29, 3) := by decide +kernel
theorem dX11_ahead_11 : decode cX11_ahead 11 = .ok (.aload_n 0, 1) := by decide +kernel
theorem dX11_ahead_12 : decode cX11_ahead 12 = .ok (.aload_n 0, 1) := by decide +kernel
theorem dX11_ahead_13 : decode cX11_ahead 13 = .ok (.getfield 116, 3) := by decide +kernel
theorem dX11_ahead_16 : decode cX11_ahead 16 = .ok (.invokevirtual 122, 3) := by decide +kernel
theorem dX11_ahead_19 : decode cX11_ahead 19 = .ok (.bipush 32, 2) := by decide +kernel
theorem dX11_ahead_21 : decode cX11_ahead 21 = .ok (.if_icmp .ne 16, 3) := by decide +kernel
theorem dX11_ahead_24 : decode cX11_ahead 24 = .ok (.aload_n 0, 1) := by decide +kernel
theorem dX11_ahead_25 : decode cX11_ahead 25 = .ok (.dup, 1) := by decide +kernel
theorem dX11_ahead_26 : decode cX11_ahead 26 = .ok (.getfield 116, 3) := by decide +kernel
theorem dX11_ahead_29 : decode cX11_ahead 29 = .ok (.iconst 1, 1) := by decide +kernel
theorem dX11_ahead_30 : decode cX11_ahead 30 = .ok (.iadd, 1) := by decide +kernel
theorem dX11_ahead_31 : decode cX11_ahead 31 = .ok (.putfield 116, 3) := by decide +kernel
theorem dX11_ahead_34 : decode cX11_ahead 34 = .ok (.goto (-34), 3) := by decide +kernel
theorem dX11_ahead_37 : decode cX11_ahead 37 = .ok (.aload_n 0, 1) := by decide +kernel
theorem dX11_ahead_38 : decode cX11_ahead 38 = .ok (.getfield 116, 3) := by decide +kernel
theorem dX11_ahead_41 : decode cX11_ahead 41 = .ok (.aload_n 0, 1) := by decide +kernel
theorem dX11_ahead_42 : decode cX11_ahead 42 = .ok (.invokevirtual 119, 3) := by decide +kernel
theorem dX11_ahead_45 : decode cX11_ahead 45 = .ok (.if_icmp .ge 14, 3) := by decide +kernel
theorem dX11_ahead_48 : decode cX11_ahead 48 = .ok (.aload_n 0, 1) := by decide +kernel
theorem dX11_ahead_49 : decode cX11_ahead 49 = .ok (.aload_n 0, 1) := by decide +kernel
theorem dX11_ahead_50 : decode cX11_ahead 50 = .ok (.getfield 116, 3) := by decide +kernel
theorem dX11_ahead_53 : decode cX11_ahead 53 = .ok (.invokevirtual 122, 3) := by decide +kernel
theorem dX11_ahead_56 : decode cX11_ahead 56 = .ok (.goto 4, 3) := by decide +kernel
theorem dX11_ahead_59 : decode cX11_ahead 59 = .ok (.iconst (-1), 1) := by decide +kernel
theorem dX11_ahead_60 : decode cX11_ahead 60 = .ok (.ireturn, 1) := by decide +kernel
theorem dX11_rank_0 : decode cX11_rank 0 = .ok (.iload_n 0, 1) := by decide +kernel
theorem dX11_rank_1 : decode cX11_rank 1 = .ok (.lookupswitch 93 #[(38, 85), (42, 91), (43, 89), (45, 89), (47, 91), (60, 87), (61, 87), (62, 87), (124, 83)], 83) := by decide +kernel
theorem dX11_rank_84 : decode cX11_rank 84 = .ok (.iconst 1, 1) := by decide +kernel
theorem dX11_rank_85 : decode cX11_rank 85 = .ok (.ireturn, 1) := by decide +kernel
theorem dX11_rank_86 : decode cX11_rank 86 = .ok (.iconst 2, 1) := by decide +kernel
theorem dX11_rank_87 : decode cX11_rank 87 = .ok (.ireturn, 1) := by decide +kernel
theorem dX11_rank_88 : decode cX11_rank 88 = .ok (.iconst 3, 1) := by decide +kernel
theorem dX11_rank_89 : decode cX11_rank 89 = .ok (.ireturn, 1) := by decide +kernel
theorem dX11_rank_90 : decode cX11_rank 90 = .ok (.iconst 4, 1) := by decide +kernel
theorem dX11_rank_91 : decode cX11_rank 91 = .ok (.ireturn, 1) := by decide +kernel
theorem dX11_rank_92 : decode cX11_rank 92 = .ok (.iconst 5, 1) := by decide +kernel
theorem dX11_rank_93 : decode cX11_rank 93 = .ok (.ireturn, 1) := by decide +kernel
theorem dX11_rank_94 : decode cX11_rank 94 = .ok (.iconst 0, 1) := by decide +kernel
theorem dX11_rank_95 : decode cX11_rank 95 = .ok (.ireturn, 1) := by decide +kernel
theorem dX11_workOut_0 : decode cX11_workOut 0 = .ok (.aload_n 0, 1) := by decide +kernel
theorem dX11_workOut_1 : decode cX11_workOut 1 = .ok (.dup, 1) := by decide +kernel
theorem dX11_workOut_2 : decode cX11_workOut 2 = .ok (.getfield 126, 3) := by decide +kernel
theorem dX11_workOut_5 : decode cX11_workOut 5 = .ok (.iconst 1, 1) := by decide +kernel
theorem dX11_workOut_6 : decode cX11_workOut 6 = .ok (.isub, 1) := by decide +kernel
theorem dX11_workOut_7 : decode cX11_workOut 7 = .ok (.putfield 126, 3) := by decide +kernel
theorem dX11_workOut_10 : decode cX11_workOut 10 = .ok (.aload_n 0, 1) := by decide +kernel
theorem dX11_workOut_11 : decode cX11_workOut 11 = .ok (.dup, 1) := by decide +kernel
theorem dX11_workOut_12 : decode cX11_workOut 12 = .ok (.getfield 129, 3) := by decide +kernel
theorem dX11_workOut_15 : decode cX11_workOut 15 = .ok (.iconst 1, 1) := by decide +kernel
theorem dX11_workOut_16 : decode cX11_workOut 16 = .ok (.isub, 1) := by decide +kernel
theorem dX11_workOut_17 : decode cX11_workOut 17 = .ok (.putfield 129, 3) := by decide +kernel
theorem dX11_workOut_20 : decode cX11_workOut 20 = .ok (.aload_n 0, 1) := by decide +kernel
theorem dX11_workOut_21 : decode cX11_workOut 21 = .ok (.getfield 20, 3) := by decide +kernel
theorem dX11_workOut_24 : decode cX11_workOut 24 = .ok (.aload_n 0, 1) := by decide +kernel
theorem dX11_workOut_25 : decode cX11_workOut 25 = .ok (.getfield 129, 3) := by decide +kernel
theorem dX11_workOut_28 : decode cX11_workOut 28 = .ok (.iconst 1, 1) := by decide +kernel
theorem dX11_workOut_29 : decode cX11_workOut 29 = .ok (.isub, 1) := by decide +kernel
theorem dX11_workOut_30 : decode cX11_workOut 30 = .ok (.laload, 1) := by decide +kernel
theorem dX11_workOut_31 : decode cX11_workOut 31 = .ok (.lstore_n 1, 1) := by decide +kernel
theorem dX11_workOut_32 : decode cX11_workOut 32 = .ok (.aload_n 0, 1) := by decide +kernel
theorem dX11_workOut_33 : decode cX11_workOut 33 = .ok (.getfield 20, 3) := by decide +kernel
theorem dX11_workOut_36 : decode cX11_workOut 36 = .ok (.aload_n 0, 1) := by decide +kernel
theorem dX11_workOut_37 : decode cX11_workOut 37 = .ok (.getfield 129, 3) := by decide +kernel
theorem dX11_workOut_40 : decode cX11_workOut 40 = .ok (.laload, 1) := by decide +kernel
theorem dX11_workOut_41 : decode cX11_workOut 41 = .ok (.lstore_n 3, 1) := by decide +kernel
theorem dX11_workOut_42 : decode cX11_workOut 42 = .ok (.lconst 0, 1) := by decide +kernel
theorem dX11_workOut_43 : decode cX11_workOut 43 = .ok (.lstore 5, 2) := by decide +kernel
theorem dX11_workOut_45 : decode cX11_workOut 45 = .ok (.aload_n 0, 1) := by decide +kernel
theorem dX11_workOut_46 : decode cX11_workOut 46 = .ok (.getfield 24, 3) := by decide +kernel
theorem dX11_workOut_49 : decode cX11_workOut 49 = .ok (.aload_n 0, 1) := by decide +kernel
theorem dX11_workOut_50 : decode cX11_workOut 50 = .ok (.getfield 126, 3) := by decide +kernel
theorem dX11_workOut_53 : decode cX11_workOut 53 = .ok (.iaload, 1) := by decide +kernel
theorem dX11_workOut_54 : decode cX11_workOut 54 = .ok (.lookupswitch 190 #[(38, 96), (42, 182), (43, 166), (45, 174), (60, 118), (61, 150), (62, 134), (124, 74)], 74) := by decide +kernel
theorem dX11_workOut_128 : decode cX11_workOut 128 = .ok (.lload_n 1, 1) := by decide +kernel
theorem dX11_workOut_129 : decode cX11_workOut 129 = .ok (.lconst 0, 1) := by decide +kernel
theorem dX11_workOut_130 : decode cX11_workOut 130 = .ok (.lcmp, 1) := by decide +kernel
theorem dX11_workOut_131 : decode cX11_workOut 131 = .ok (.ifCond .ne 9, 3) := by decide +kernel
theorem dX11_workOut_134 : decode cX11_workOut 134 = .ok (.lload_n 3, 1) := by decide +kernel
theorem dX11_workOut_135 : decode cX11_workOut 135 = .ok (.lconst 0, 1) := by decide +kernel
theorem dX11_workOut_136 : decode cX11_workOut 136 = .ok (.lcmp, 1) := by decide +kernel
theorem dX11_workOut_137 : decode cX11_workOut 137 = .ok (.ifCond .eq 7, 3) := by decide +kernel
theorem dX11_workOut_140 : decode cX11_workOut 140 = .ok (.lconst 1, 1) := by decide +kernel
theorem dX11_workOut_141 : decode cX11_workOut 141 = .ok (.goto 4, 3) := by decide +kernel
theorem dX11_workOut_144 : decode cX11_workOut 144 = .ok (.lconst 0, 1) := by decide +kernel
theorem dX11_workOut_145 : decode cX11_workOut 145 = .ok (.lstore 5, 2) := by decide +kernel
theorem dX11_workOut_147 : decode cX11_workOut 147 = .ok (.goto 112, 3) := by decide +kernel
theorem dX11_workOut_150 : decode cX11_workOut 150 = .ok (.lload_n 1, 1) := by decide +kernel
theorem dX11_workOut_151 : decode cX11_workOut 151 = .ok (.lconst 0, 1) := by decide +kernel
theorem dX11_workOut_152 : decode cX11_workOut 152 = .ok (.lcmp, 1) := by decide +kernel
theorem dX11_workOut_153 : decode cX11_workOut 153 = .ok (.ifCond .eq 13, 3) := by decide +kernel
theorem dX11_workOut_156 : decode cX11_workOut 156 = .ok (.lload_n 3, 1) := by decide +kernel
theorem dX11_workOut_157 : decode cX11_workOut 157 = .ok (.lconst 0, 1) := by decide +kernel
theorem dX11_workOut_158 : decode cX11_workOut 158 = .ok (.lcmp, 1) := by decide +kernel
theorem dX11_workOut_159 : decode cX11_workOut 159 = .ok (.ifCond .eq 7, 3) := by decide +kernel
theorem dX11_workOut_162 : decode cX11_workOut 162 = .ok (.lconst 1, 1) := by decide +kernel
theorem dX11_workOut_163 : decode cX11_workOut 163 = .ok (.goto 4, 3) := by decide +kernel
theorem dX11_workOut_166 : decode cX11_workOut 166 = .ok (.lconst 0, 1) := by decide +kernel
theorem dX11_workOut_167 : decode cX11_workOut 167 = .ok (.lstore 5, 2) := by decide +kernel
theorem dX11_workOut_169 : decode cX11_workOut 169 = .ok (.goto 90, 3) := by decide +kernel
theorem dX11_workOut_172 : decode cX11_workOut 172 = .ok (.lload_n 1, 1) := by decide +kernel
theorem dX11_workOut_173 : decode cX11_workOut 173 = .ok (.lload_n 3, 1) := by decide +kernel
theorem dX11_workOut_174 : decode cX11_workOut 174 = .ok (.lcmp, 1) := by decide +kernel
theorem dX11_workOut_175 : decode cX11_workOut 175 = .ok (.ifCond .ge 7, 3) := by decide +kernel
theorem dX11_workOut_178 : decode cX11_workOut 178 = .ok (.lconst 1, 1) := by decide +kernel
theorem dX11_workOut_179 : decode cX11_workOut 179 = .ok (.goto 4, 3) := by decide +kernel
theorem dX11_workOut_182 : decode cX11_workOut 182 = .ok (.lconst 0, 1) := by decide +kernel
theorem dX11_workOut_183 : decode cX11_workOut 183 = .ok (.lstore 5, 2) := by decide +kernel
theorem dX11_workOut_185 : decode cX11_workOut 185 = .ok (.goto 74, 3) := by decide +kernel
theorem dX11_workOut_188 : decode cX11_workOut 188 = .ok (.lload_n 1, 1) := by decide +kernel
theorem dX11_workOut_189 : decode cX11_workOut 189 = .ok (.lload_n 3, 1) := by decide +kernel
theorem dX11_workOut_190 : decode cX11_workOut 190 = .ok (.lcmp, 1) := by decide +kernel
theorem dX11_workOut_191 : decode cX11_workOut 191 = .ok (.ifCond .le 7, 3) := by decide +kernel
theorem dX11_workOut_194 : decode cX11_workOut 194 = .ok (.lconst 1, 1) := by decide +kernel
theorem dX11_workOut_195 : decode cX11_workOut 195 = .ok (.goto 4, 3) := by decide +kernel
theorem dX11_workOut_198 : decode cX11_workOut 198 = .ok (.lconst 0, 1) := by decide +kernel
theorem dX11_workOut_199 : decode cX11_workOut 199 = .ok (.lstore 5, 2) := by decide +kernel
theorem dX11_workOut_201 : decode cX11_workOut 201 = .ok (.goto 58, 3) := by decide +kernel
theorem dX11_workOut_204 : decode cX11_workOut 204 = .ok (.lload_n 1, 1) := by decide +kernel
theorem dX11_workOut_205 : decode cX11_workOut 205 = .ok (.lload_n 3, 1) := by decide +kernel
theorem dX11_workOut_206 : decode cX11_workOut 206 = .ok (.lcmp, 1) := by decide +kernel
theorem dX11_workOut_207 : decode cX11_workOut 207 = .ok (.ifCond .ne 7, 3) := by decide +kernel
theorem dX11_workOut_210 : decode cX11_workOut 210 = .ok (.lconst 1, 1) := by decide +kernel
theorem dX11_workOut_211 : decode cX11_workOut 211 = .ok (.goto 4, 3) := by decide +kernel
theorem dX11_workOut_214 : decode cX11_workOut 214 = .ok (.lconst 0, 1) := by decide +kernel
theorem dX11_workOut_215 : decode cX11_workOut 215 = .ok (.lstore 5, 2) := by decide +kernel
theorem dX11_workOut_217 : decode cX11_workOut 217 = .ok (.goto 42, 3) := by decide +kernel
theorem dX11_workOut_220 : decode cX11_workOut 220 = .ok (.lload_n 1, 1) := by decide +kernel
theorem dX11_workOut_221 : decode cX11_workOut 221 = .ok (.lload_n 3, 1) := by decide +kernel
theorem dX11_workOut_222 : decode cX11_workOut 222 = .ok (.ladd, 1) := by decide +kernel
theorem dX11_workOut_223 : decode cX11_workOut 223 = .ok (.lstore 5, 2) := by decide +kernel
theorem dX11_workOut_225 : decode cX11_workOut 225 = .ok (.goto 34, 3) := by decide +kernel
theorem dX11_workOut_228 : decode cX11_workOut 228 = .ok (.lload_n 1, 1) := by decide +kernel
theorem dX11_workOut_229 : decode cX11_workOut 229 = .ok (.lload_n 3, 1) := by decide +kernel
theorem dX11_workOut_230 : decode cX11_workOut 230 = .ok (.lsub, 1) := by decide +kernel
theorem dX11_workOut_231 : decode cX11_workOut 231 = .ok (.lstore 5, 2) := by decide +kernel
theorem dX11_workOut_233 : decode cX11_workOut 233 = .ok (.goto 26, 3) := by decide +kernel
theorem dX11_workOut_236 : decode cX11_workOut 236 = .ok (.lload_n 1, 1) := by decide +kernel
theorem dX11_workOut_237 : decode cX11_workOut 237 = .ok (.lload_n 3, 1) := by decide +kernel
theorem dX11_workOut_238 : decode cX11_workOut 238 = .ok (.lmul, 1) := by decide +kernel
theorem dX11_workOut_239 : decode cX11_workOut 239 = .ok (.lstore 5, 2) := by decide +kernel
theorem dX11_workOut_241 : decode cX11_workOut 241 = .ok (.goto 18, 3) := by decide +kernel
theorem dX11_workOut_244 : decode cX11_workOut 244 = .ok (.lload_n 3, 1) := by decide +kernel
theorem dX11_workOut_245 : decode cX11_workOut 245 = .ok (.lconst 0, 1) := by decide +kernel
theorem dX11_workOut_246 : decode cX11_workOut 246 = .ok (.lcmp, 1) := by decide +kernel
theorem dX11_workOut_247 : decode cX11_workOut 247 = .ok (.ifCond .ne 7, 3) := by decide +kernel
theorem dX11_workOut_250 : decode cX11_workOut 250 = .ok (.lconst 0, 1) := by decide +kernel
theorem dX11_workOut_251 : decode cX11_workOut 251 = .ok (.goto 6, 3) := by decide +kernel
theorem dX11_workOut_254 : decode cX11_workOut 254 = .ok (.lload_n 1, 1) := by decide +kernel
theorem dX11_workOut_255 : decode cX11_workOut 255 = .ok (.lload_n 3, 1) := by decide +kernel
theorem dX11_workOut_256 : decode cX11_workOut 256 = .ok (.ldiv, 1) := by decide +kernel
theorem dX11_workOut_257 : decode cX11_workOut 257 = .ok (.lstore 5, 2) := by decide +kernel
theorem dX11_workOut_259 : decode cX11_workOut 259 = .ok (.aload_n 0, 1) := by decide +kernel
theorem dX11_workOut_260 : decode cX11_workOut 260 = .ok (.getfield 20, 3) := by decide +kernel
theorem dX11_workOut_263 : decode cX11_workOut 263 = .ok (.aload_n 0, 1) := by decide +kernel
theorem dX11_workOut_264 : decode cX11_workOut 264 = .ok (.getfield 129, 3) := by decide +kernel
theorem dX11_workOut_267 : decode cX11_workOut 267 = .ok (.iconst 1, 1) := by decide +kernel
theorem dX11_workOut_268 : decode cX11_workOut 268 = .ok (.isub, 1) := by decide +kernel
theorem dX11_workOut_269 : decode cX11_workOut 269 = .ok (.lload 5, 2) := by decide +kernel
theorem dX11_workOut_271 : decode cX11_workOut 271 = .ok (.lastore, 1) := by decide +kernel
theorem dX11_workOut_272 : decode cX11_workOut 272 = .ok (.return_, 1) := by decide +kernel
theorem dX11_workDown_0 : decode cX11_workDown 0 = .ok (.aload_n 0, 1) := by decide +kernel
theorem dX11_workDown_1 : decode cX11_workDown 1 = .ok (.getfield 126, 3) := by decide +kernel
theorem dX11_workDown_4 : decode cX11_workDown 4 = .ok (.ifCond .le 45, 3) := by decide +kernel
theorem dX11_workDown_7 : decode cX11_workDown 7 = .ok (.aload_n 0, 1) := by decide +kernel
theorem dX11_workDown_8 : decode cX11_workDown 8 = .ok (.getfield 24, 3) := by decide +kernel
theorem dX11_workDown_11 : decode cX11_workDown 11 = .ok (.aload_n 0, 1) := by decide +kernel
theorem dX11_workDown_12 : decode cX11_workDown 12 = .ok (.getfield 126, 3) := by decide +kernel
theorem dX11_workDown_15 : decode cX11_workDown 15 = .ok (.iconst 1, 1) := by decide +kernel
theorem dX11_workDown_16 : decode cX11_workDown 16 = .ok (.isub, 1) := by decide +kernel
theorem dX11_workDown_17 : decode cX11_workDown 17 = .ok (.iaload, 1) := by decide +kernel
theorem dX11_workDown_18 : decode cX11_workDown 18 = .ok (.sipush 1000, 3) := by decide +kernel
theorem dX11_workDown_21 : decode cX11_workDown 21 = .ok (.if_icmp .ge 28, 3) := by decide +kernel
theorem dX11_workDown_24 : decode cX11_workDown 24 = .ok (.aload_n 0, 1) := by decide +kernel
theorem dX11_workDown_25 : decode cX11_workDown 25 = .ok (.getfield 24, 3) := by decide +kernel
theorem dX11_workDown_28 : decode cX11_workDown 28 = .ok (.aload_n 0, 1) := by decide +kernel
theorem dX11_workDown_29 : decode cX11_workDown 29 = .ok (.getfield 126, 3) := by decide +kernel
theorem dX11_workDown_32 : decode cX11_workDown 32 = .ok (.iconst 1, 1) := by decide +kernel
theorem dX11_workDown_33 : decode cX11_workDown 33 = .ok (.isub, 1) := by decide +kernel
theorem dX11_workDown_34 : decode cX11_workDown 34 = .ok (.iaload, 1) := by decide +kernel
theorem dX11_workDown_35 : decode cX11_workDown 35 = .ok (.invokestatic 132, 3) := by decide +kernel
theorem dX11_workDown_38 : decode cX11_workDown 38 = .ok (.iload_n 1, 1) := by decide +kernel
theorem dX11_workDown_39 : decode cX11_workDown 39 = .ok (.if_icmp .lt 10, 3) := by decide +kernel
theorem dX11_workDown_42 : decode cX11_workDown 42 = .ok (.aload_n 0, 1) := by decide +kernel
theorem dX11_workDown_43 : decode cX11_workDown 43 = .ok (.invokevirtual 135, 3) := by decide +kernel
theorem dX11_workDown_46 : decode cX11_workDown 46 = .ok (.goto (-46), 3) := by decide +kernel
theorem dX11_workDown_49 : decode cX11_workDown 49 = .ok (.return_, 1) := by decide +kernel
theorem dX11_stands_0 : decode cX11_stands 0 = .ok (.lload_n 1, 1) := by decide +kernel
theorem dX11_stands_1 : decode cX11_stands 1 = .ok (.lstore_n 3, 1) := by decide +kernel
theorem dX11_stands_2 : decode cX11_stands 2 = .ok (.aload_n 0, 1) := by decide +kernel
theorem dX11_stands_3 : decode cX11_stands 3 = .ok (.getfield 126, 3) := by decide +kernel
theorem dX11_stands_6 : decode cX11_stands 6 = .ok (.ifCond .le 67, 3) := by decide +kernel
theorem dX11_stands_9 : decode cX11_stands 9 = .ok (.aload_n 0, 1) := by decide +kernel
theorem dX11_stands_10 : decode cX11_stands 10 = .ok (.getfield 24, 3) := by decide +kernel
theorem dX11_stands_13 : decode cX11_stands 13 = .ok (.aload_n 0, 1) := by decide +kernel
theorem dX11_stands_14 : decode cX11_stands 14 = .ok (.getfield 126, 3) := by decide +kernel
theorem dX11_stands_17 : decode cX11_stands 17 = .ok (.iconst 1, 1) := by decide +kernel
theorem dX11_stands_18 : decode cX11_stands 18 = .ok (.isub, 1) := by decide +kernel
theorem dX11_stands_19 : decode cX11_stands 19 = .ok (.iaload, 1) := by decide +kernel
theorem dX11_stands_20 : decode cX11_stands 20 = .ok (.sipush 1000, 3) := by decide +kernel
theorem dX11_stands_23 : decode cX11_stands 23 = .ok (.if_icmp .le 50, 3) := by decide +kernel
theorem dX11_stands_26 : decode cX11_stands 26 = .ok (.aload_n 0, 1) := by decide +kernel
theorem dX11_stands_27 : decode cX11_stands 27 = .ok (.getfield 24, 3) := by decide +kernel
theorem dX11_stands_30 : decode cX11_stands 30 = .ok (.aload_n 0, 1) := by decide +kernel
theorem dX11_stands_31 : decode cX11_stands 31 = .ok (.getfield 126, 3) := by decide +kernel
theorem dX11_stands_34 : decode cX11_stands 34 = .ok (.iconst 1, 1) := by decide +kernel
theorem dX11_stands_35 : decode cX11_stands 35 = .ok (.isub, 1) := by decide +kernel
theorem dX11_stands_36 : decode cX11_stands 36 = .ok (.iaload, 1) := by decide +kernel
theorem dX11_stands_37 : decode cX11_stands 37 = .ok (.sipush 1001, 3) := by decide +kernel
theorem dX11_stands_40 : decode cX11_stands 40 = .ok (.if_icmp .ne 17, 3) := by decide +kernel
theorem dX11_stands_43 : decode cX11_stands 43 = .ok (.lload_n 3, 1) := by decide +kernel
theorem dX11_stands_44 : decode cX11_stands 44 = .ok (.lconst 0, 1) := by decide +kernel
theorem dX11_stands_45 : decode cX11_stands 45 = .ok (.lcmp, 1) := by decide +kernel
theorem dX11_stands_46 : decode cX11_stands 46 = .ok (.ifCond .ne 7, 3) := by decide +kernel
theorem dX11_stands_49 : decode cX11_stands 49 = .ok (.lconst 1, 1) := by decide +kernel
theorem dX11_stands_50 : decode cX11_stands 50 = .ok (.goto 9, 3) := by decide +kernel
theorem dX11_stands_53 : decode cX11_stands 53 = .ok (.lconst 0, 1) := by decide +kernel
theorem dX11_stands_54 : decode cX11_stands 54 = .ok (.goto 5, 3) := by decide +kernel
theorem dX11_stands_57 : decode cX11_stands 57 = .ok (.lload_n 3, 1) := by decide +kernel
theorem dX11_stands_58 : decode cX11_stands 58 = .ok (.lneg, 1) := by decide +kernel
theorem dX11_stands_59 : decode cX11_stands 59 = .ok (.lstore_n 3, 1) := by decide +kernel
theorem dX11_stands_60 : decode cX11_stands 60 = .ok (.aload_n 0, 1) := by decide +kernel
theorem dX11_stands_61 : decode cX11_stands 61 = .ok (.dup, 1) := by decide +kernel
theorem dX11_stands_62 : decode cX11_stands 62 = .ok (.getfield 126, 3) := by decide +kernel
theorem dX11_stands_65 : decode cX11_stands 65 = .ok (.iconst 1, 1) := by decide +kernel
theorem dX11_stands_66 : decode cX11_stands 66 = .ok (.isub, 1) := by decide +kernel
theorem dX11_stands_67 : decode cX11_stands 67 = .ok (.putfield 126, 3) := by decide +kernel
theorem dX11_stands_70 : decode cX11_stands 70 = .ok (.goto (-68), 3) := by decide +kernel
theorem dX11_stands_73 : decode cX11_stands 73 = .ok (.aload_n 0, 1) := by decide +kernel
theorem dX11_stands_74 : decode cX11_stands 74 = .ok (.getfield 20, 3) := by decide +kernel
theorem dX11_stands_77 : decode cX11_stands 77 = .ok (.aload_n 0, 1) := by decide +kernel
theorem dX11_stands_78 : decode cX11_stands 78 = .ok (.getfield 129, 3) := by decide +kernel
theorem dX11_stands_81 : decode cX11_stands 81 = .ok (.lload_n 3, 1) := by decide +kernel
theorem dX11_stands_82 : decode cX11_stands 82 = .ok (.lastore, 1) := by decide +kernel
theorem dX11_stands_83 : decode cX11_stands 83 = .ok (.aload_n 0, 1) := by decide +kernel
theorem dX11_stands_84 : decode cX11_stands 84 = .ok (.dup, 1) := by decide +kernel
theorem dX11_stands_85 : decode cX11_stands 85 = .ok (.getfield 129, 3) := by decide +kernel
theorem dX11_stands_88 : decode cX11_stands 88 = .ok (.iconst 1, 1) := by decide +kernel
theorem dX11_stands_89 : decode cX11_stands 89 = .ok (.iadd, 1) := by decide +kernel
theorem dX11_stands_90 : decode cX11_stands 90 = .ok (.putfield 129, 3) := by decide +kernel
theorem dX11_stands_93 : decode cX11_stands 93 = .ok (.return_, 1) := by decide +kernel
theorem dX11_nameOf_0 : decode cX11_nameOf 0 = .ok (.iload_n 0, 1) := by decide +kernel
theorem dX11_nameOf_1 : decode cX11_nameOf 1 = .ok (.bipush 115, 2) := by decide +kernel
theorem dX11_nameOf_3 : decode cX11_nameOf 3 = .ok (.if_icmp .ne 7, 3) := by decide +kernel
theorem dX11_nameOf_6 : decode cX11_nameOf 6 = .ok (.iconst 0, 1) := by decide +kernel
theorem dX11_nameOf_7 : decode cX11_nameOf 7 = .ok (.goto 44, 3) := by decide +kernel
theorem dX11_nameOf_10 : decode cX11_nameOf 10 = .ok (.iload_n 0, 1) := by decide +kernel
theorem dX11_nameOf_11 : decode cX11_nameOf 11 = .ok (.bipush 110, 2) := by decide +kernel
theorem dX11_nameOf_13 : decode cX11_nameOf 13 = .ok (.if_icmp .ne 7, 3) := by decide +kernel
theorem dX11_nameOf_16 : decode cX11_nameOf 16 = .ok (.iconst 1, 1) := by decide +kernel
theorem dX11_nameOf_17 : decode cX11_nameOf 17 = .ok (.goto 34, 3) := by decide +kernel
theorem dX11_nameOf_20 : decode cX11_nameOf 20 = .ok (.iload_n 0, 1) := by decide +kernel
theorem dX11_nameOf_21 : decode cX11_nameOf 21 = .ok (.bipush 109, 2) := by decide +kernel
theorem dX11_nameOf_23 : decode cX11_nameOf 23 = .ok (.if_icmp .ne 7, 3) := by decide +kernel
theorem dX11_nameOf_26 : decode cX11_nameOf 26 = .ok (.iconst 2, 1) := by decide +kernel
theorem dX11_nameOf_27 : decode cX11_nameOf 27 = .ok (.goto 24, 3) := by decide +kernel
theorem dX11_nameOf_30 : decode cX11_nameOf 30 = .ok (.iload_n 0, 1) := by decide +kernel
theorem dX11_nameOf_31 : decode cX11_nameOf 31 = .ok (.bipush 108, 2) := by decide +kernel
theorem dX11_nameOf_33 : decode cX11_nameOf 33 = .ok (.if_icmp .ne 7, 3) := by decide +kernel
theorem dX11_nameOf_36 : decode cX11_nameOf 36 = .ok (.iconst 3, 1) := by decide +kernel
theorem dX11_nameOf_37 : decode cX11_nameOf 37 = .ok (.goto 14, 3) := by decide +kernel
theorem dX11_nameOf_40 : decode cX11_nameOf 40 = .ok (.iload_n 0, 1) := by decide +kernel
theorem dX11_nameOf_41 : decode cX11_nameOf 41 = .ok (.bipush 114, 2) := by decide +kernel
theorem dX11_nameOf_43 : decode cX11_nameOf 43 = .ok (.if_icmp .ne 7, 3) := by decide +kernel
theorem dX11_nameOf_46 : decode cX11_nameOf 46 = .ok (.iconst 4, 1) := by decide +kernel
theorem dX11_nameOf_47 : decode cX11_nameOf 47 = .ok (.goto 4, 3) := by decide +kernel
theorem dX11_nameOf_50 : decode cX11_nameOf 50 = .ok (.iconst (-1), 1) := by decide +kernel
theorem dX11_nameOf_51 : decode cX11_nameOf 51 = .ok (.ireturn, 1) := by decide +kernel
theorem dX11_digits_0 : decode cX11_digits 0 = .ok (.aload_n 0, 1) := by decide +kernel
theorem dX11_digits_1 : decode cX11_digits 1 = .ok (.getfield 116, 3) := by decide +kernel
theorem dX11_digits_4 : decode cX11_digits 4 = .ok (.istore_n 1, 1) := by decide +kernel
theorem dX11_digits_5 : decode cX11_digits 5 = .ok (.lconst 0, 1) := by decide +kernel
theorem dX11_digits_6 : decode cX11_digits 6 = .ok (.lstore_n 2, 1) := by decide +kernel
theorem dX11_digits_7 : decode cX11_digits 7 = .ok (.aload_n 0, 1) := by decide +kernel
theorem dX11_digits_8 : decode cX11_digits 8 = .ok (.getfield 116, 3) := by decide +kernel
theorem dX11_digits_11 : decode cX11_digits 11 = .ok (.aload_n 0, 1) := by decide +kernel
theorem dX11_digits_12 : decode cX11_digits 12 = .ok (.invokevirtual 119, 3) := by decide +kernel
theorem dX11_digits_15 : decode cX11_digits 15 = .ok (.if_icmp .ge 80, 3) := by decide +kernel
theorem dX11_digits_18 : decode cX11_digits 18 = .ok (.aload_n 0, 1) := by decide +kernel
theorem dX11_digits_19 : decode cX11_digits 19 = .ok (.aload_n 0, 1) := by decide +kernel
theorem dX11_digits_20 : decode cX11_digits 20 = .ok (.getfield 116, 3) := by decide +kernel
theorem dX11_digits_23 : decode cX11_digits 23 = .ok (.invokevirtual 122, 3) := by decide +kernel
theorem dX11_digits_26 : decode cX11_digits 26 = .ok (.i2l, 1) := by decide +kernel
theorem dX11_digits_27 : decode cX11_digits 27 = .ok (.ldc2_w 138, 3) := by decide +kernel
theorem dX11_digits_30 : decode cX11_digits 30 = .ok (.ldc2_w 140, 3) := by decide +kernel
theorem dX11_digits_33 : decode cX11_digits 33 = .ok (.invokestatic 80, 3) := by decide +kernel
theorem dX11_digits_36 : decode cX11_digits 36 = .ok (.ifCond .eq 59, 3) := by decide +kernel
theorem dX11_digits_39 : decode cX11_digits 39 = .ok (.aload_n 0, 1) := by decide +kernel
theorem dX11_digits_40 : decode cX11_digits 40 = .ok (.getfield 116, 3) := by decide +kernel
theorem dX11_digits_43 : decode cX11_digits 43 = .ok (.iload_n 1, 1) := by decide +kernel
theorem dX11_digits_44 : decode cX11_digits 44 = .ok (.isub, 1) := by decide +kernel
theorem dX11_digits_45 : decode cX11_digits 45 = .ok (.bipush 6, 2) := by decide +kernel
theorem dX11_digits_47 : decode cX11_digits 47 = .ok (.if_icmp .ne 15, 3) := by decide +kernel
theorem dX11_digits_50 : decode cX11_digits 50 = .ok (.aload_n 0, 1) := by decide +kernel
theorem dX11_digits_51 : decode cX11_digits 51 = .ok (.bipush 10, 2) := by decide +kernel
theorem dX11_digits_53 : decode cX11_digits 53 = .ok (.iload_n 1, 1) := by decide +kernel
theorem dX11_digits_54 : decode cX11_digits 54 = .ok (.imul, 1) := by decide +kernel
theorem dX11_digits_55 : decode cX11_digits 55 = .ok (.iconst 2, 1) := by decide +kernel
theorem dX11_digits_56 : decode cX11_digits 56 = .ok (.iadd, 1) := by decide +kernel
theorem dX11_digits_57 : decode cX11_digits 57 = .ok (.putfield 142, 3) := by decide +kernel
theorem dX11_digits_60 : decode cX11_digits 60 = .ok (.lconst 0, 1) := by decide +kernel
theorem dX11_digits_61 : decode cX11_digits 61 = .ok (.lreturn, 1) := by decide +kernel
theorem dX11_digits_62 : decode cX11_digits 62 = .ok (.ldc2_w 145, 3) := by decide +kernel
theorem dX11_digits_65 : decode cX11_digits 65 = .ok (.lload_n 2, 1) := by decide +kernel
theorem dX11_digits_66 : decode cX11_digits 66 = .ok (.lmul, 1) := by decide +kernel
theorem dX11_digits_67 : decode cX11_digits 67 = .ok (.aload_n 0, 1) := by decide +kernel
theorem dX11_digits_68 : decode cX11_digits 68 = .ok (.aload_n 0, 1) := by decide +kernel
theorem dX11_digits_69 : decode cX11_digits 69 = .ok (.getfield 116, 3) := by decide +kernel
theorem dX11_digits_72 : decode cX11_digits 72 = .ok (.invokevirtual 122, 3) := by decide +kernel
theorem dX11_digits_75 : decode cX11_digits 75 = .ok (.i2l, 1) := by decide +kernel
theorem dX11_digits_76 : decode cX11_digits 76 = .ok (.ladd, 1) := by decide +kernel
theorem dX11_digits_77 : decode cX11_digits 77 = .ok (.ldc2_w 138, 3) := by decide +kernel
theorem dX11_digits_80 : decode cX11_digits 80 = .ok (.lsub, 1) := by decide +kernel
theorem dX11_digits_81 : decode cX11_digits 81 = .ok (.lstore_n 2, 1) := by decide +kernel
theorem dX11_digits_82 : decode cX11_digits 82 = .ok (.aload_n 0, 1) := by decide +kernel
theorem dX11_digits_83 : decode cX11_digits 83 = .ok (.dup, 1) := by decide +kernel
theorem dX11_digits_84 : decode cX11_digits 84 = .ok (.getfield 116, 3) := by decide +kernel
theorem dX11_digits_87 : decode cX11_digits 87 = .ok (.iconst 1, 1) := by decide +kernel
theorem dX11_digits_88 : decode cX11_digits 88 = .ok (.iadd, 1) := by decide +kernel
theorem dX11_digits_89 : decode cX11_digits 89 = .ok (.putfield 116, 3) := by decide +kernel
theorem dX11_digits_92 : decode cX11_digits 92 = .ok (.goto (-85), 3) := by decide +kernel
theorem dX11_digits_95 : decode cX11_digits 95 = .ok (.lload_n 2, 1) := by decide +kernel
theorem dX11_digits_96 : decode cX11_digits 96 = .ok (.lreturn, 1) := by decide +kernel
theorem dX11_reads_0 : decode cX11_reads 0 = .ok (.aload_n 0, 1) := by decide +kernel
theorem dX11_reads_1 : decode cX11_reads 1 = .ok (.iconst 0, 1) := by decide +kernel
theorem dX11_reads_2 : decode cX11_reads 2 = .ok (.putfield 116, 3) := by decide +kernel
theorem dX11_reads_5 : decode cX11_reads 5 = .ok (.aload_n 0, 1) := by decide +kernel
theorem dX11_reads_6 : decode cX11_reads 6 = .ok (.iconst (-1), 1) := by decide +kernel
theorem dX11_reads_7 : decode cX11_reads 7 = .ok (.putfield 142, 3) := by decide +kernel
theorem dX11_reads_10 : decode cX11_reads 10 = .ok (.aload_n 0, 1) := by decide +kernel
theorem dX11_reads_11 : decode cX11_reads 11 = .ok (.iconst 0, 1) := by decide +kernel
theorem dX11_reads_12 : decode cX11_reads 12 = .ok (.putfield 129, 3) := by decide +kernel
theorem dX11_reads_15 : decode cX11_reads 15 = .ok (.aload_n 0, 1) := by decide +kernel
theorem dX11_reads_16 : decode cX11_reads 16 = .ok (.iconst 0, 1) := by decide +kernel
theorem dX11_reads_17 : decode cX11_reads 17 = .ok (.putfield 126, 3) := by decide +kernel
theorem dX11_reads_20 : decode cX11_reads 20 = .ok (.iconst 0, 1) := by decide +kernel
theorem dX11_reads_21 : decode cX11_reads 21 = .ok (.istore_n 1, 1) := by decide +kernel
theorem dX11_reads_22 : decode cX11_reads 22 = .ok (.iconst 1, 1) := by decide +kernel
theorem dX11_reads_23 : decode cX11_reads 23 = .ok (.istore_n 2, 1) := by decide +kernel
theorem dX11_reads_24 : decode cX11_reads 24 = .ok (.iconst 1, 1) := by decide +kernel
theorem dX11_reads_25 : decode cX11_reads 25 = .ok (.istore_n 3, 1) := by decide +kernel
theorem dX11_reads_26 : decode cX11_reads 26 = .ok (.iload_n 3, 1) := by decide +kernel
theorem dX11_reads_27 : decode cX11_reads 27 = .ok (.ifCond .eq 461, 3) := by decide +kernel
theorem dX11_reads_30 : decode cX11_reads 30 = .ok (.aload_n 0, 1) := by decide +kernel
theorem dX11_reads_31 : decode cX11_reads 31 = .ok (.getfield 142, 3) := by decide +kernel
theorem dX11_reads_34 : decode cX11_reads 34 = .ok (.iconst (-1), 1) := by decide +kernel
theorem dX11_reads_35 : decode cX11_reads 35 = .ok (.if_icmp .ne 453, 3) := by decide +kernel
theorem dX11_reads_38 : decode cX11_reads 38 = .ok (.aload_n 0, 1) := by decide +kernel
theorem dX11_reads_39 : decode cX11_reads 39 = .ok (.invokevirtual 147, 3) := by decide +kernel
theorem dX11_reads_42 : decode cX11_reads 42 = .ok (.istore 4, 2) := by decide +kernel
theorem dX11_reads_44 : decode cX11_reads 44 = .ok (.iload_n 2, 1) := by decide +kernel
theorem dX11_reads_45 : decode cX11_reads 45 = .ok (.ifCond .eq 209, 3) := by decide +kernel
theorem dX11_reads_48 : decode cX11_reads 48 = .ok (.iload 4, 2) := by decide +kernel
theorem dX11_reads_50 : decode cX11_reads 50 = .ok (.i2l, 1) := by decide +kernel
theorem dX11_reads_51 : decode cX11_reads 51 = .ok (.ldc2_w 138, 3) := by decide +kernel
theorem dX11_reads_54 : decode cX11_reads 54 = .ok (.ldc2_w 140, 3) := by decide +kernel
theorem dX11_reads_57 : decode cX11_reads 57 = .ok (.invokestatic 80, 3) := by decide +kernel
theorem dX11_reads_60 : decode cX11_reads 60 = .ok (.ifCond .eq 16, 3) := by decide +kernel
theorem dX11_reads_63 : decode cX11_reads 63 = .ok (.aload_n 0, 1) := by decide +kernel
theorem dX11_reads_64 : decode cX11_reads 64 = .ok (.aload_n 0, 1) := by decide +kernel
theorem dX11_reads_65 : decode cX11_reads 65 = .ok (.invokevirtual 150, 3) := by decide +kernel
theorem dX11_reads_68 : decode cX11_reads 68 = .ok (.invokevirtual 154, 3) := by decide +kernel
theorem dX11_reads_71 : decode cX11_reads 71 = .ok (.iconst 0, 1) := by decide +kernel
theorem dX11_reads_72 : decode cX11_reads 72 = .ok (.istore_n 2, 1) := by decide +kernel
theorem dX11_reads_73 : decode cX11_reads 73 = .ok (.goto 412, 3) := by decide +kernel
theorem dX11_reads_76 : decode cX11_reads 76 = .ok (.iload 4, 2) := by decide +kernel
theorem dX11_reads_78 : decode cX11_reads 78 = .ok (.invokestatic 158, 3) := by decide +kernel
theorem dX11_reads_81 : decode cX11_reads 81 = .ok (.iconst (-1), 1) := by decide +kernel
theorem dX11_reads_82 : decode cX11_reads 82 = .ok (.if_icmp .eq 32, 3) := by decide +kernel
theorem dX11_reads_85 : decode cX11_reads 85 = .ok (.aload_n 0, 1) := by decide +kernel
theorem dX11_reads_86 : decode cX11_reads 86 = .ok (.dup, 1) := by decide +kernel
theorem dX11_reads_87 : decode cX11_reads 87 = .ok (.getfield 116, 3) := by decide +kernel
theorem dX11_reads_90 : decode cX11_reads 90 = .ok (.iconst 1, 1) := by decide +kernel
theorem dX11_reads_91 : decode cX11_reads 91 = .ok (.iadd, 1) := by decide +kernel
theorem dX11_reads_92 : decode cX11_reads 92 = .ok (.putfield 116, 3) := by decide +kernel
theorem dX11_reads_95 : decode cX11_reads 95 = .ok (.aload_n 0, 1) := by decide +kernel
theorem dX11_reads_96 : decode cX11_reads 96 = .ok (.aload_n 0, 1) := by decide +kernel
theorem dX11_reads_97 : decode cX11_reads 97 = .ok (.getfield 27, 3) := by decide +kernel
theorem dX11_reads_100 : decode cX11_reads 100 = .ok (.iload 4, 2) := by decide +kernel
theorem dX11_reads_102 : decode cX11_reads 102 = .ok (.invokestatic 158, 3) := by decide +kernel
theorem dX11_reads_105 : decode cX11_reads 105 = .ok (.laload, 1) := by decide +kernel
theorem dX11_reads_106 : decode cX11_reads 106 = .ok (.invokevirtual 154, 3) := by decide +kernel
theorem dX11_reads_109 : decode cX11_reads 109 = .ok (.iconst 0, 1) := by decide +kernel
theorem dX11_reads_110 : decode cX11_reads 110 = .ok (.istore_n 2, 1) := by decide +kernel
theorem dX11_reads_111 : decode cX11_reads 111 = .ok (.goto 374, 3) := by decide +kernel
theorem dX11_reads_114 : decode cX11_reads 114 = .ok (.iload 4, 2) := by decide +kernel
theorem dX11_reads_116 : decode cX11_reads 116 = .ok (.bipush 33, 2) := by decide +kernel
theorem dX11_reads_118 : decode cX11_reads 118 = .ok (.if_icmp .eq 10, 3) := by decide +kernel
theorem dX11_reads_121 : decode cX11_reads 121 = .ok (.iload 4, 2) := by decide +kernel
theorem dX11_reads_123 : decode cX11_reads 123 = .ok (.bipush 45, 2) := by decide +kernel
theorem dX11_reads_125 : decode cX11_reads 125 = .ok (.if_icmp .ne 51, 3) := by decide +kernel
theorem dX11_reads_128 : decode cX11_reads 128 = .ok (.aload_n 0, 1) := by decide +kernel
theorem dX11_reads_129 : decode cX11_reads 129 = .ok (.dup, 1) := by decide +kernel
theorem dX11_reads_130 : decode cX11_reads 130 = .ok (.getfield 116, 3) := by decide +kernel
theorem dX11_reads_133 : decode cX11_reads 133 = .ok (.iconst 1, 1) := by decide +kernel
theorem dX11_reads_134 : decode cX11_reads 134 = .ok (.iadd, 1) := by decide +kernel
theorem dX11_reads_135 : decode cX11_reads 135 = .ok (.putfield 116, 3) := by decide +kernel
theorem dX11_reads_138 : decode cX11_reads 138 = .ok (.aload_n 0, 1) := by decide +kernel
theorem dX11_reads_139 : decode cX11_reads 139 = .ok (.getfield 24, 3) := by decide +kernel
theorem dX11_reads_142 : decode cX11_reads 142 = .ok (.aload_n 0, 1) := by decide +kernel
theorem dX11_reads_143 : decode cX11_reads 143 = .ok (.getfield 126, 3) := by decide +kernel
theorem dX11_reads_146 : decode cX11_reads 146 = .ok (.iload 4, 2) := by decide +kernel
theorem dX11_reads_148 : decode cX11_reads 148 = .ok (.bipush 33, 2) := by decide +kernel
theorem dX11_reads_150 : decode cX11_reads 150 = .ok (.if_icmp .ne 9, 3) := by decide +kernel
theorem dX11_reads_153 : decode cX11_reads 153 = .ok (.sipush 1001, 3) := by decide +kernel
theorem dX11_reads_156 : decode cX11_reads 156 = .ok (.goto 6, 3) := by decide +kernel
theorem dX11_reads_159 : decode cX11_reads 159 = .ok (.sipush 1002, 3) := by decide +kernel
theorem dX11_reads_162 : decode cX11_reads 162 = .ok (.iastore, 1) := by decide +kernel
theorem dX11_reads_163 : decode cX11_reads 163 = .ok (.aload_n 0, 1) := by decide +kernel
theorem dX11_reads_164 : decode cX11_reads 164 = .ok (.dup, 1) := by decide +kernel
theorem dX11_reads_165 : decode cX11_reads 165 = .ok (.getfield 126, 3) := by decide +kernel
theorem dX11_reads_168 : decode cX11_reads 168 = .ok (.iconst 1, 1) := by decide +kernel
theorem dX11_reads_169 : decode cX11_reads 169 = .ok (.iadd, 1) := by decide +kernel
theorem dX11_reads_170 : decode cX11_reads 170 = .ok (.putfield 126, 3) := by decide +kernel
theorem dX11_reads_173 : decode cX11_reads 173 = .ok (.goto 312, 3) := by decide +kernel
theorem dX11_reads_176 : decode cX11_reads 176 = .ok (.iload 4, 2) := by decide +kernel
theorem dX11_reads_178 : decode cX11_reads 178 = .ok (.bipush 40, 2) := by decide +kernel
theorem dX11_reads_180 : decode cX11_reads 180 = .ok (.if_icmp .ne 47, 3) := by decide +kernel
theorem dX11_reads_183 : decode cX11_reads 183 = .ok (.iload_n 1, 1) := by decide +kernel
theorem dX11_reads_184 : decode cX11_reads 184 = .ok (.bipush 8, 2) := by decide +kernel
theorem dX11_reads_186 : decode cX11_reads 186 = .ok (.if_icmp .ge 41, 3) := by decide +kernel
theorem dX11_reads_189 : decode cX11_reads 189 = .ok (.aload_n 0, 1) := by decide +kernel
theorem dX11_reads_190 : decode cX11_reads 190 = .ok (.dup, 1) := by decide +kernel
theorem dX11_reads_191 : decode cX11_reads 191 = .ok (.getfield 116, 3) := by decide +kernel
theorem dX11_reads_194 : decode cX11_reads 194 = .ok (.iconst 1, 1) := by decide +kernel
theorem dX11_reads_195 : decode cX11_reads 195 = .ok (.iadd, 1) := by decide +kernel
theorem dX11_reads_196 : decode cX11_reads 196 = .ok (.putfield 116, 3) := by decide +kernel
theorem dX11_reads_199 : decode cX11_reads 199 = .ok (.iinc 1 1, 3) := by decide +kernel
theorem dX11_reads_202 : decode cX11_reads 202 = .ok (.aload_n 0, 1) := by decide +kernel
theorem dX11_reads_203 : decode cX11_reads 203 = .ok (.getfield 24, 3) := by decide +kernel
theorem dX11_reads_206 : decode cX11_reads 206 = .ok (.aload_n 0, 1) := by decide +kernel
theorem dX11_reads_207 : decode cX11_reads 207 = .ok (.getfield 126, 3) := by decide +kernel
theorem dX11_reads_210 : decode cX11_reads 210 = .ok (.sipush 1000, 3) := by decide +kernel
theorem dX11_reads_213 : decode cX11_reads 213 = .ok (.iastore, 1) := by decide +kernel
theorem dX11_reads_214 : decode cX11_reads 214 = .ok (.aload_n 0, 1) := by decide +kernel
theorem dX11_reads_215 : decode cX11_reads 215 = .ok (.dup, 1) := by decide +kernel
theorem dX11_reads_216 : decode cX11_reads 216 = .ok (.getfield 126, 3) := by decide +kernel
theorem dX11_reads_219 : decode cX11_reads 219 = .ok (.iconst 1, 1) := by decide +kernel
theorem dX11_reads_220 : decode cX11_reads 220 = .ok (.iadd, 1) := by decide +kernel
theorem dX11_reads_221 : decode cX11_reads 221 = .ok (.putfield 126, 3) := by decide +kernel
theorem dX11_reads_224 : decode cX11_reads 224 = .ok (.goto 261, 3) := by decide +kernel
theorem dX11_reads_227 : decode cX11_reads 227 = .ok (.aload_n 0, 1) := by decide +kernel
theorem dX11_reads_228 : decode cX11_reads 228 = .ok (.bipush 10, 2) := by decide +kernel
theorem dX11_reads_230 : decode cX11_reads 230 = .ok (.aload_n 0, 1) := by decide +kernel
theorem dX11_reads_231 : decode cX11_reads 231 = .ok (.getfield 116, 3) := by decide +kernel
theorem dX11_reads_234 : decode cX11_reads 234 = .ok (.imul, 1) := by decide +kernel
theorem dX11_reads_235 : decode cX11_reads 235 = .ok (.iload 4, 2) := by decide +kernel
theorem dX11_reads_237 : decode cX11_reads 237 = .ok (.bipush 40, 2) := by decide +kernel
theorem dX11_reads_239 : decode cX11_reads 239 = .ok (.if_icmp .ne 7, 3) := by decide +kernel
theorem dX11_reads_242 : decode cX11_reads 242 = .ok (.iconst 3, 1) := by decide +kernel
theorem dX11_reads_243 : decode cX11_reads 243 = .ok (.goto 4, 3) := by decide +kernel
theorem dX11_reads_246 : decode cX11_reads 246 = .ok (.iconst 1, 1) := by decide +kernel
theorem dX11_reads_247 : decode cX11_reads 247 = .ok (.iadd, 1) := by decide +kernel
theorem dX11_reads_248 : decode cX11_reads 248 = .ok (.putfield 142, 3) := by decide +kernel
theorem dX11_reads_251 : decode cX11_reads 251 = .ok (.goto 234, 3) := by decide +kernel
theorem dX11_reads_254 : decode cX11_reads 254 = .ok (.iload 4, 2) := by decide +kernel
theorem dX11_reads_256 : decode cX11_reads 256 = .ok (.bipush 41, 2) := by decide +kernel
theorem dX11_reads_258 : decode cX11_reads 258 = .ok (.if_icmp .ne 61, 3) := by decide +kernel
theorem dX11_reads_261 : decode cX11_reads 261 = .ok (.iload_n 1, 1) := by decide +kernel
theorem dX11_reads_262 : decode cX11_reads 262 = .ok (.ifCond .le 57, 3) := by decide +kernel
theorem dX11_reads_265 : decode cX11_reads 265 = .ok (.aload_n 0, 1) := by decide +kernel
theorem dX11_reads_266 : decode cX11_reads 266 = .ok (.dup, 1) := by decide +kernel
theorem dX11_reads_267 : decode cX11_reads 267 = .ok (.getfield 116, 3) := by decide +kernel
theorem dX11_reads_270 : decode cX11_reads 270 = .ok (.iconst 1, 1) := by decide +kernel
theorem dX11_reads_271 : decode cX11_reads 271 = .ok (.iadd, 1) := by decide +kernel
theorem dX11_reads_272 : decode cX11_reads 272 = .ok (.putfield 116, 3) := by decide +kernel
theorem dX11_reads_275 : decode cX11_reads 275 = .ok (.iinc 1 (-1), 3) := by decide +kernel
theorem dX11_reads_278 : decode cX11_reads 278 = .ok (.aload_n 0, 1) := by decide +kernel
theorem dX11_reads_279 : decode cX11_reads 279 = .ok (.iconst 1, 1) := by decide +kernel
theorem dX11_reads_280 : decode cX11_reads 280 = .ok (.invokevirtual 161, 3) := by decide +kernel
theorem dX11_reads_283 : decode cX11_reads 283 = .ok (.aload_n 0, 1) := by decide +kernel
theorem dX11_reads_284 : decode cX11_reads 284 = .ok (.dup, 1) := by decide +kernel
theorem dX11_reads_285 : decode cX11_reads 285 = .ok (.getfield 126, 3) := by decide +kernel
theorem dX11_reads_288 : decode cX11_reads 288 = .ok (.iconst 1, 1) := by decide +kernel
theorem dX11_reads_289 : decode cX11_reads 289 = .ok (.isub, 1) := by decide +kernel
theorem dX11_reads_290 : decode cX11_reads 290 = .ok (.putfield 126, 3) := by decide +kernel
theorem dX11_reads_293 : decode cX11_reads 293 = .ok (.aload_n 0, 1) := by decide +kernel
theorem dX11_reads_294 : decode cX11_reads 294 = .ok (.dup, 1) := by decide +kernel
theorem dX11_reads_295 : decode cX11_reads 295 = .ok (.getfield 129, 3) := by decide +kernel
theorem dX11_reads_298 : decode cX11_reads 298 = .ok (.iconst 1, 1) := by decide +kernel
theorem dX11_reads_299 : decode cX11_reads 299 = .ok (.isub, 1) := by decide +kernel
theorem dX11_reads_300 : decode cX11_reads 300 = .ok (.putfield 129, 3) := by decide +kernel
theorem dX11_reads_303 : decode cX11_reads 303 = .ok (.aload_n 0, 1) := by decide +kernel
theorem dX11_reads_304 : decode cX11_reads 304 = .ok (.aload_n 0, 1) := by decide +kernel
theorem dX11_reads_305 : decode cX11_reads 305 = .ok (.getfield 20, 3) := by decide +kernel
theorem dX11_reads_308 : decode cX11_reads 308 = .ok (.aload_n 0, 1) := by decide +kernel
theorem dX11_reads_309 : decode cX11_reads 309 = .ok (.getfield 129, 3) := by decide +kernel
theorem dX11_reads_312 : decode cX11_reads 312 = .ok (.laload, 1) := by decide +kernel
theorem dX11_reads_313 : decode cX11_reads 313 = .ok (.invokevirtual 154, 3) := by decide +kernel
theorem dX11_reads_316 : decode cX11_reads 316 = .ok (.goto 169, 3) := by decide +kernel
theorem dX11_reads_319 : decode cX11_reads 319 = .ok (.iload 4, 2) := by decide +kernel
theorem dX11_reads_321 : decode cX11_reads 321 = .ok (.invokestatic 132, 3) := by decide +kernel
theorem dX11_reads_324 : decode cX11_reads 324 = .ok (.ifCond .le 128, 3) := by decide +kernel
theorem dX11_reads_327 : decode cX11_reads 327 = .ok (.aload_n 0, 1) := by decide +kernel
theorem dX11_reads_328 : decode cX11_reads 328 = .ok (.iload 4, 2) := by decide +kernel
theorem dX11_reads_330 : decode cX11_reads 330 = .ok (.invokestatic 132, 3) := by decide +kernel
theorem dX11_reads_333 : decode cX11_reads 333 = .ok (.iconst 3, 1) := by decide +kernel
theorem dX11_reads_334 : decode cX11_reads 334 = .ok (.if_icmp .ne 7, 3) := by decide +kernel
theorem dX11_reads_337 : decode cX11_reads 337 = .ok (.iconst 4, 1) := by decide +kernel
theorem dX11_reads_338 : decode cX11_reads 338 = .ok (.goto 8, 3) := by decide +kernel
theorem dX11_reads_341 : decode cX11_reads 341 = .ok (.iload 4, 2) := by decide +kernel
theorem dX11_reads_343 : decode cX11_reads 343 = .ok (.invokestatic 132, 3) := by decide +kernel
theorem dX11_reads_346 : decode cX11_reads 346 = .ok (.invokevirtual 161, 3) := by decide +kernel
theorem dX11_reads_349 : decode cX11_reads 349 = .ok (.iload 4, 2) := by decide +kernel
theorem dX11_reads_351 : decode cX11_reads 351 = .ok (.invokestatic 132, 3) := by decide +kernel
theorem dX11_reads_354 : decode cX11_reads 354 = .ok (.iconst 3, 1) := by decide +kernel
theorem dX11_reads_355 : decode cX11_reads 355 = .ok (.if_icmp .ne 61, 3) := by decide +kernel
theorem dX11_reads_358 : decode cX11_reads 358 = .ok (.aload_n 0, 1) := by decide +kernel
theorem dX11_reads_359 : decode cX11_reads 359 = .ok (.getfield 126, 3) := by decide +kernel
theorem dX11_reads_362 : decode cX11_reads 362 = .ok (.ifCond .le 54, 3) := by decide +kernel
theorem dX11_reads_365 : decode cX11_reads 365 = .ok (.aload_n 0, 1) := by decide +kernel
theorem dX11_reads_366 : decode cX11_reads 366 = .ok (.getfield 24, 3) := by decide +kernel
theorem dX11_reads_369 : decode cX11_reads 369 = .ok (.aload_n 0, 1) := by decide +kernel
theorem dX11_reads_370 : decode cX11_reads 370 = .ok (.getfield 126, 3) := by decide +kernel
theorem dX11_reads_373 : decode cX11_reads 373 = .ok (.iconst 1, 1) := by decide +kernel
theorem dX11_reads_374 : decode cX11_reads 374 = .ok (.isub, 1) := by decide +kernel
theorem dX11_reads_375 : decode cX11_reads 375 = .ok (.iaload, 1) := by decide +kernel
theorem dX11_reads_376 : decode cX11_reads 376 = .ok (.sipush 1000, 3) := by decide +kernel
theorem dX11_reads_379 : decode cX11_reads 379 = .ok (.if_icmp .ge 37, 3) := by decide +kernel
theorem dX11_reads_382 : decode cX11_reads 382 = .ok (.aload_n 0, 1) := by decide +kernel
theorem dX11_reads_383 : decode cX11_reads 383 = .ok (.getfield 24, 3) := by decide +kernel
theorem dX11_reads_386 : decode cX11_reads 386 = .ok (.aload_n 0, 1) := by decide +kernel
theorem dX11_reads_387 : decode cX11_reads 387 = .ok (.getfield 126, 3) := by decide +kernel
theorem dX11_reads_390 : decode cX11_reads 390 = .ok (.iconst 1, 1) := by decide +kernel
theorem dX11_reads_391 : decode cX11_reads 391 = .ok (.isub, 1) := by decide +kernel
theorem dX11_reads_392 : decode cX11_reads 392 = .ok (.iaload, 1) := by decide +kernel
theorem dX11_reads_393 : decode cX11_reads 393 = .ok (.invokestatic 132, 3) := by decide +kernel
theorem dX11_reads_396 : decode cX11_reads 396 = .ok (.iconst 3, 1) := by decide +kernel
theorem dX11_reads_397 : decode cX11_reads 397 = .ok (.if_icmp .ne 19, 3) := by decide +kernel
theorem dX11_reads_400 : decode cX11_reads 400 = .ok (.aload_n 0, 1) := by decide +kernel
theorem dX11_reads_401 : decode cX11_reads 401 = .ok (.bipush 10, 2) := by decide +kernel
theorem dX11_reads_403 : decode cX11_reads 403 = .ok (.aload_n 0, 1) := by decide +kernel
theorem dX11_reads_404 : decode cX11_reads 404 = .ok (.getfield 116, 3) := by decide +kernel
theorem dX11_reads_407 : decode cX11_reads 407 = .ok (.imul, 1) := by decide +kernel
theorem dX11_reads_408 : decode cX11_reads 408 = .ok (.iconst 1, 1) := by decide +kernel
theorem dX11_reads_409 : decode cX11_reads 409 = .ok (.iadd, 1) := by decide +kernel
theorem dX11_reads_410 : decode cX11_reads 410 = .ok (.putfield 142, 3) := by decide +kernel
theorem dX11_reads_413 : decode cX11_reads 413 = .ok (.goto 72, 3) := by decide +kernel
theorem dX11_reads_416 : decode cX11_reads 416 = .ok (.aload_n 0, 1) := by decide +kernel
theorem dX11_reads_417 : decode cX11_reads 417 = .ok (.dup, 1) := by decide +kernel
theorem dX11_reads_418 : decode cX11_reads 418 = .ok (.getfield 116, 3) := by decide +kernel
theorem dX11_reads_421 : decode cX11_reads 421 = .ok (.iconst 1, 1) := by decide +kernel
theorem dX11_reads_422 : decode cX11_reads 422 = .ok (.iadd, 1) := by decide +kernel
theorem dX11_reads_423 : decode cX11_reads 423 = .ok (.putfield 116, 3) := by decide +kernel
theorem dX11_reads_426 : decode cX11_reads 426 = .ok (.aload_n 0, 1) := by decide +kernel
theorem dX11_reads_427 : decode cX11_reads 427 = .ok (.getfield 24, 3) := by decide +kernel
theorem dX11_reads_430 : decode cX11_reads 430 = .ok (.aload_n 0, 1) := by decide +kernel
theorem dX11_reads_431 : decode cX11_reads 431 = .ok (.getfield 126, 3) := by decide +kernel
theorem dX11_reads_434 : decode cX11_reads 434 = .ok (.iload 4, 2) := by decide +kernel
theorem dX11_reads_436 : decode cX11_reads 436 = .ok (.iastore, 1) := by decide +kernel
theorem dX11_reads_437 : decode cX11_reads 437 = .ok (.aload_n 0, 1) := by decide +kernel
theorem dX11_reads_438 : decode cX11_reads 438 = .ok (.dup, 1) := by decide +kernel
theorem dX11_reads_439 : decode cX11_reads 439 = .ok (.getfield 126, 3) := by decide +kernel
theorem dX11_reads_442 : decode cX11_reads 442 = .ok (.iconst 1, 1) := by decide +kernel
theorem dX11_reads_443 : decode cX11_reads 443 = .ok (.iadd, 1) := by decide +kernel
theorem dX11_reads_444 : decode cX11_reads 444 = .ok (.putfield 126, 3) := by decide +kernel
theorem dX11_reads_447 : decode cX11_reads 447 = .ok (.iconst 1, 1) := by decide +kernel
theorem dX11_reads_448 : decode cX11_reads 448 = .ok (.istore_n 2, 1) := by decide +kernel
theorem dX11_reads_449 : decode cX11_reads 449 = .ok (.goto 36, 3) := by decide +kernel
theorem dX11_reads_452 : decode cX11_reads 452 = .ok (.iload 4, 2) := by decide +kernel
theorem dX11_reads_454 : decode cX11_reads 454 = .ok (.iconst (-1), 1) := by decide +kernel
theorem dX11_reads_455 : decode cX11_reads 455 = .ok (.if_icmp .ne 17, 3) := by decide +kernel
theorem dX11_reads_458 : decode cX11_reads 458 = .ok (.iload_n 1, 1) := by decide +kernel
theorem dX11_reads_459 : decode cX11_reads 459 = .ok (.ifCond .ne 13, 3) := by decide +kernel
theorem dX11_reads_462 : decode cX11_reads 462 = .ok (.aload_n 0, 1) := by decide +kernel
theorem dX11_reads_463 : decode cX11_reads 463 = .ok (.iconst 1, 1) := by decide +kernel
theorem dX11_reads_464 : decode cX11_reads 464 = .ok (.invokevirtual 161, 3) := by decide +kernel
theorem dX11_reads_467 : decode cX11_reads 467 = .ok (.iconst 0, 1) := by decide +kernel
theorem dX11_reads_468 : decode cX11_reads 468 = .ok (.istore_n 3, 1) := by decide +kernel
theorem dX11_reads_469 : decode cX11_reads 469 = .ok (.goto 16, 3) := by decide +kernel
theorem dX11_reads_472 : decode cX11_reads 472 = .ok (.aload_n 0, 1) := by decide +kernel
theorem dX11_reads_473 : decode cX11_reads 473 = .ok (.bipush 10, 2) := by decide +kernel
theorem dX11_reads_475 : decode cX11_reads 475 = .ok (.aload_n 0, 1) := by decide +kernel
theorem dX11_reads_476 : decode cX11_reads 476 = .ok (.getfield 116, 3) := by decide +kernel
theorem dX11_reads_479 : decode cX11_reads 479 = .ok (.imul, 1) := by decide +kernel
theorem dX11_reads_480 : decode cX11_reads 480 = .ok (.iconst 1, 1) := by decide +kernel
theorem dX11_reads_481 : decode cX11_reads 481 = .ok (.iadd, 1) := by decide +kernel
theorem dX11_reads_482 : decode cX11_reads 482 = .ok (.putfield 142, 3) := by decide +kernel
theorem dX11_reads_485 : decode cX11_reads 485 = .ok (.goto (-459), 3) := by decide +kernel
theorem dX11_reads_488 : decode cX11_reads 488 = .ok (.aload_n 0, 1) := by decide +kernel
theorem dX11_reads_489 : decode cX11_reads 489 = .ok (.aload_n 0, 1) := by decide +kernel
theorem dX11_reads_490 : decode cX11_reads 490 = .ok (.getfield 142, 3) := by decide +kernel
theorem dX11_reads_493 : decode cX11_reads 493 = .ok (.iconst (-1), 1) := by decide +kernel
theorem dX11_reads_494 : decode cX11_reads 494 = .ok (.if_icmp .ne 12, 3) := by decide +kernel
theorem dX11_reads_497 : decode cX11_reads 497 = .ok (.aload_n 0, 1) := by decide +kernel
theorem dX11_reads_498 : decode cX11_reads 498 = .ok (.getfield 20, 3) := by decide +kernel
theorem dX11_reads_501 : decode cX11_reads 501 = .ok (.iconst 0, 1) := by decide +kernel
theorem dX11_reads_502 : decode cX11_reads 502 = .ok (.laload, 1) := by decide +kernel
theorem dX11_reads_503 : decode cX11_reads 503 = .ok (.goto 4, 3) := by decide +kernel
theorem dX11_reads_506 : decode cX11_reads 506 = .ok (.lconst 0, 1) := by decide +kernel
theorem dX11_reads_507 : decode cX11_reads 507 = .ok (.putfield 165, 3) := by decide +kernel
theorem dX11_reads_510 : decode cX11_reads 510 = .ok (.aload_n 0, 1) := by decide +kernel
theorem dX11_reads_511 : decode cX11_reads 511 = .ok (.getfield 142, 3) := by decide +kernel
theorem dX11_reads_514 : decode cX11_reads 514 = .ok (.iconst (-1), 1) := by decide +kernel
theorem dX11_reads_515 : decode cX11_reads 515 = .ok (.if_icmp .ne 7, 3) := by decide +kernel
theorem dX11_reads_518 : decode cX11_reads 518 = .ok (.iconst 1, 1) := by decide +kernel
theorem dX11_reads_519 : decode cX11_reads 519 = .ok (.goto 4, 3) := by decide +kernel
theorem dX11_reads_522 : decode cX11_reads 522 = .ok (.iconst 0, 1) := by decide +kernel
theorem dX11_reads_523 : decode cX11_reads 523 = .ok (.ireturn, 1) := by decide +kernel
theorem dX11_fault_0 : decode cX11_fault 0 = .ok (.iload_n 1, 1) := by decide +kernel
theorem dX11_fault_1 : decode cX11_fault 1 = .ok (.invokestatic 108, 3) := by decide +kernel
theorem dX11_fault_4 : decode cX11_fault 4 = .ok (.ifCond .ne 6, 3) := by decide +kernel
theorem dX11_fault_7 : decode cX11_fault 7 = .ok (.bipush (-2), 2) := by decide +kernel
theorem dX11_fault_9 : decode cX11_fault 9 = .ok (.ireturn, 1) := by decide +kernel
theorem dX11_fault_10 : decode cX11_fault 10 = .ok (.aload_n 0, 1) := by decide +kernel
theorem dX11_fault_11 : decode cX11_fault 11 = .ok (.iload_n 1, 1) := by decide +kernel
theorem dX11_fault_12 : decode cX11_fault 12 = .ok (.putfield 113, 3) := by decide +kernel
theorem dX11_fault_15 : decode cX11_fault 15 = .ok (.aload_n 0, 1) := by decide +kernel
theorem dX11_fault_16 : decode cX11_fault 16 = .ok (.invokevirtual 169, 3) := by decide +kernel
theorem dX11_fault_19 : decode cX11_fault 19 = .ok (.istore_n 2, 1) := by decide +kernel
theorem dX11_fault_20 : decode cX11_fault 20 = .ok (.aload_n 0, 1) := by decide +kernel
theorem dX11_fault_21 : decode cX11_fault 21 = .ok (.getfield 142, 3) := by decide +kernel
theorem dX11_fault_24 : decode cX11_fault 24 = .ok (.ireturn, 1) := by decide +kernel
theorem dX11_rootOf_0 : decode cX11_rootOf 0 = .ok (.iload_n 1, 1) := by decide +kernel
theorem dX11_rootOf_1 : decode cX11_rootOf 1 = .ok (.ifCond .le 81, 3) := by decide +kernel
theorem dX11_rootOf_4 : decode cX11_rootOf 4 = .ok (.aload_n 0, 1) := by decide +kernel
theorem dX11_rootOf_5 : decode cX11_rootOf 5 = .ok (.getfield 33, 3) := by decide +kernel
theorem dX11_rootOf_8 : decode cX11_rootOf 8 = .ok (.iload_n 1, 1) := by decide +kernel
theorem dX11_rootOf_9 : decode cX11_rootOf 9 = .ok (.laload, 1) := by decide +kernel
theorem dX11_rootOf_10 : decode cX11_rootOf 10 = .ok (.lconst 0, 1) := by decide +kernel
theorem dX11_rootOf_11 : decode cX11_rootOf 11 = .ok (.lcmp, 1) := by decide +kernel
theorem dX11_rootOf_12 : decode cX11_rootOf 12 = .ok (.ifCond .ne 70, 3) := by decide +kernel
theorem dX11_rootOf_15 : decode cX11_rootOf 15 = .ok (.ldc2_w 173, 3) := by decide +kernel
theorem dX11_rootOf_18 : decode cX11_rootOf 18 = .ok (.lstore_n 2, 1) := by decide +kernel
theorem dX11_rootOf_19 : decode cX11_rootOf 19 = .ok (.ldc2_w 175, 3) := by decide +kernel
theorem dX11_rootOf_22 : decode cX11_rootOf 22 = .ok (.lstore 4, 2) := by decide +kernel
theorem dX11_rootOf_24 : decode cX11_rootOf 24 = .ok (.lload_n 2, 1) := by decide +kernel
theorem dX11_rootOf_25 : decode cX11_rootOf 25 = .ok (.lconst 1, 1) := by decide +kernel
theorem dX11_rootOf_26 : decode cX11_rootOf 26 = .ok (.ladd, 1) := by decide +kernel
theorem dX11_rootOf_27 : decode cX11_rootOf 27 = .ok (.lload 4, 2) := by decide +kernel
theorem dX11_rootOf_29 : decode cX11_rootOf 29 = .ok (.lcmp, 1) := by decide +kernel
theorem dX11_rootOf_30 : decode cX11_rootOf 30 = .ok (.ifCond .ge 45, 3) := by decide +kernel
theorem dX11_rootOf_33 : decode cX11_rootOf 33 = .ok (.lload_n 2, 1) := by decide +kernel
theorem dX11_rootOf_34 : decode cX11_rootOf 34 = .ok (.lload 4, 2) := by decide +kernel
theorem dX11_rootOf_36 : decode cX11_rootOf 36 = .ok (.ladd, 1) := by decide +kernel
theorem dX11_rootOf_37 : decode cX11_rootOf 37 = .ok (.ldc2_w 106, 3) := by decide +kernel
theorem dX11_rootOf_40 : decode cX11_rootOf 40 = .ok (.ldiv, 1) := by decide +kernel
theorem dX11_rootOf_41 : decode cX11_rootOf 41 = .ok (.lstore 6, 2) := by decide +kernel
theorem dX11_rootOf_43 : decode cX11_rootOf 43 = .ok (.lload 6, 2) := by decide +kernel
theorem dX11_rootOf_45 : decode cX11_rootOf 45 = .ok (.lload 6, 2) := by decide +kernel
theorem dX11_rootOf_47 : decode cX11_rootOf 47 = .ok (.lmul, 1) := by decide +kernel
theorem dX11_rootOf_48 : decode cX11_rootOf 48 = .ok (.iload_n 1, 1) := by decide +kernel
theorem dX11_rootOf_49 : decode cX11_rootOf 49 = .ok (.i2l, 1) := by decide +kernel
theorem dX11_rootOf_50 : decode cX11_rootOf 50 = .ok (.ldc2_w 173, 3) := by decide +kernel
theorem dX11_rootOf_53 : decode cX11_rootOf 53 = .ok (.lmul, 1) := by decide +kernel
theorem dX11_rootOf_54 : decode cX11_rootOf 54 = .ok (.ldc2_w 173, 3) := by decide +kernel
theorem dX11_rootOf_57 : decode cX11_rootOf 57 = .ok (.lmul, 1) := by decide +kernel
theorem dX11_rootOf_58 : decode cX11_rootOf 58 = .ok (.lcmp, 1) := by decide +kernel
theorem dX11_rootOf_59 : decode cX11_rootOf 59 = .ok (.ifCond .gt 9, 3) := by decide +kernel
theorem dX11_rootOf_62 : decode cX11_rootOf 62 = .ok (.lload 6, 2) := by decide +kernel
theorem dX11_rootOf_64 : decode cX11_rootOf 64 = .ok (.lstore_n 2, 1) := by decide +kernel
theorem dX11_rootOf_65 : decode cX11_rootOf 65 = .ok (.goto 7, 3) := by decide +kernel
theorem dX11_rootOf_68 : decode cX11_rootOf 68 = .ok (.lload 6, 2) := by decide +kernel
theorem dX11_rootOf_70 : decode cX11_rootOf 70 = .ok (.lstore 4, 2) := by decide +kernel
theorem dX11_rootOf_72 : decode cX11_rootOf 72 = .ok (.goto (-48), 3) := by decide +kernel
theorem dX11_rootOf_75 : decode cX11_rootOf 75 = .ok (.aload_n 0, 1) := by decide +kernel
theorem dX11_rootOf_76 : decode cX11_rootOf 76 = .ok (.getfield 33, 3) := by decide +kernel
theorem dX11_rootOf_79 : decode cX11_rootOf 79 = .ok (.iload_n 1, 1) := by decide +kernel
theorem dX11_rootOf_80 : decode cX11_rootOf 80 = .ok (.lload_n 2, 1) := by decide +kernel
theorem dX11_rootOf_81 : decode cX11_rootOf 81 = .ok (.lastore, 1) := by decide +kernel
theorem dX11_rootOf_82 : decode cX11_rootOf 82 = .ok (.aload_n 0, 1) := by decide +kernel
theorem dX11_rootOf_83 : decode cX11_rootOf 83 = .ok (.getfield 33, 3) := by decide +kernel
theorem dX11_rootOf_86 : decode cX11_rootOf 86 = .ok (.iload_n 1, 1) := by decide +kernel
theorem dX11_rootOf_87 : decode cX11_rootOf 87 = .ok (.laload, 1) := by decide +kernel
theorem dX11_rootOf_88 : decode cX11_rootOf 88 = .ok (.lreturn, 1) := by decide +kernel
theorem dX11_putHand_0 : decode cX11_putHand 0 = .ok (.aload_n 0, 1) := by decide +kernel
theorem dX11_putHand_1 : decode cX11_putHand 1 = .ok (.getfield 30, 3) := by decide +kernel
theorem dX11_putHand_4 : decode cX11_putHand 4 = .ok (.aload_n 0, 1) := by decide +kernel
theorem dX11_putHand_5 : decode cX11_putHand 5 = .ok (.getfield 177, 3) := by decide +kernel
theorem dX11_putHand_8 : decode cX11_putHand 8 = .ok (.iload_n 1, 1) := by decide +kernel
theorem dX11_putHand_9 : decode cX11_putHand 9 = .ok (.iastore, 1) := by decide +kernel
theorem dX11_putHand_10 : decode cX11_putHand 10 = .ok (.aload_n 0, 1) := by decide +kernel
theorem dX11_putHand_11 : decode cX11_putHand 11 = .ok (.dup, 1) := by decide +kernel
theorem dX11_putHand_12 : decode cX11_putHand 12 = .ok (.getfield 177, 3) := by decide +kernel
theorem dX11_putHand_15 : decode cX11_putHand 15 = .ok (.iconst 1, 1) := by decide +kernel
theorem dX11_putHand_16 : decode cX11_putHand 16 = .ok (.iadd, 1) := by decide +kernel
theorem dX11_putHand_17 : decode cX11_putHand 17 = .ok (.putfield 177, 3) := by decide +kernel
theorem dX11_putHand_20 : decode cX11_putHand 20 = .ok (.return_, 1) := by decide +kernel
theorem dX11_addedBy_0 : decode cX11_addedBy 0 = .ok (.lconst 0, 1) := by decide +kernel
theorem dX11_addedBy_1 : decode cX11_addedBy 1 = .ok (.lstore_n 2, 1) := by decide +kernel
theorem dX11_addedBy_2 : decode cX11_addedBy 2 = .ok (.lconst 0, 1) := by decide +kernel
theorem dX11_addedBy_3 : decode cX11_addedBy 3 = .ok (.lstore 4, 2) := by decide +kernel
theorem dX11_addedBy_5 : decode cX11_addedBy 5 = .ok (.lconst 0, 1) := by decide +kernel
theorem dX11_addedBy_6 : decode cX11_addedBy 6 = .ok (.lstore 6, 2) := by decide +kernel
theorem dX11_addedBy_8 : decode cX11_addedBy 8 = .ok (.lconst 0, 1) := by decide +kernel
theorem dX11_addedBy_9 : decode cX11_addedBy 9 = .ok (.lstore 8, 2) := by decide +kernel
theorem dX11_addedBy_11 : decode cX11_addedBy 11 = .ok (.lconst 0, 1) := by decide +kernel
theorem dX11_addedBy_12 : decode cX11_addedBy 12 = .ok (.lstore 10, 2) := by decide +kernel
theorem dX11_addedBy_14 : decode cX11_addedBy 14 = .ok (.iconst 0, 1) := by decide +kernel
theorem dX11_addedBy_15 : decode cX11_addedBy 15 = .ok (.istore 12, 2) := by decide +kernel
theorem dX11_addedBy_17 : decode cX11_addedBy 17 = .ok (.iload 12, 2) := by decide +kernel
theorem dX11_addedBy_19 : decode cX11_addedBy 19 = .ok (.aload_n 0, 1) := by decide +kernel
theorem dX11_addedBy_20 : decode cX11_addedBy 20 = .ok (.getfield 177, 3) := by decide +kernel
theorem dX11_addedBy_23 : decode cX11_addedBy 23 = .ok (.if_icmp .ge 91, 3) := by decide +kernel
theorem dX11_addedBy_26 : decode cX11_addedBy 26 = .ok (.aload_n 0, 1) := by decide +kernel
theorem dX11_addedBy_27 : decode cX11_addedBy 27 = .ok (.getfield 30, 3) := by decide +kernel
theorem dX11_addedBy_30 : decode cX11_addedBy 30 = .ok (.iload 12, 2) := by decide +kernel
theorem dX11_addedBy_32 : decode cX11_addedBy 32 = .ok (.iaload, 1) := by decide +kernel
theorem dX11_addedBy_33 : decode cX11_addedBy 33 = .ok (.istore 13, 2) := by decide +kernel
theorem dX11_addedBy_35 : decode cX11_addedBy 35 = .ok (.iload 13, 2) := by decide +kernel
theorem dX11_addedBy_37 : decode cX11_addedBy 37 = .ok (.ifCond .le 71, 3) := by decide +kernel
theorem dX11_addedBy_40 : decode cX11_addedBy 40 = .ok (.lload_n 2, 1) := by decide +kernel
theorem dX11_addedBy_41 : decode cX11_addedBy 41 = .ok (.iload 13, 2) := by decide +kernel
theorem dX11_addedBy_43 : decode cX11_addedBy 43 = .ok (.i2l, 1) := by decide +kernel
theorem dX11_addedBy_44 : decode cX11_addedBy 44 = .ok (.ladd, 1) := by decide +kernel
theorem dX11_addedBy_45 : decode cX11_addedBy 45 = .ok (.lstore_n 2, 1) := by decide +kernel
theorem dX11_addedBy_46 : decode cX11_addedBy 46 = .ok (.lload 4, 2) := by decide +kernel
theorem dX11_addedBy_48 : decode cX11_addedBy 48 = .ok (.lconst 1, 1) := by decide +kernel
theorem dX11_addedBy_49 : decode cX11_addedBy 49 = .ok (.ladd, 1) := by decide +kernel
theorem dX11_addedBy_50 : decode cX11_addedBy 50 = .ok (.lstore 4, 2) := by decide +kernel
theorem dX11_addedBy_52 : decode cX11_addedBy 52 = .ok (.iload 13, 2) := by decide +kernel
theorem dX11_addedBy_54 : decode cX11_addedBy 54 = .ok (.i2l, 1) := by decide +kernel
theorem dX11_addedBy_55 : decode cX11_addedBy 55 = .ok (.lload 6, 2) := by decide +kernel
theorem dX11_addedBy_57 : decode cX11_addedBy 57 = .ok (.lcmp, 1) := by decide +kernel
theorem dX11_addedBy_58 : decode cX11_addedBy 58 = .ok (.ifCond .le 9, 3) := by decide +kernel
theorem dX11_addedBy_61 : decode cX11_addedBy 61 = .ok (.iload 13, 2) := by decide +kernel
theorem dX11_addedBy_63 : decode cX11_addedBy 63 = .ok (.i2l, 1) := by decide +kernel
theorem dX11_addedBy_64 : decode cX11_addedBy 64 = .ok (.goto 5, 3) := by decide +kernel
theorem dX11_addedBy_67 : decode cX11_addedBy 67 = .ok (.lload 6, 2) := by decide +kernel
theorem dX11_addedBy_69 : decode cX11_addedBy 69 = .ok (.lstore 6, 2) := by decide +kernel
theorem dX11_addedBy_71 : decode cX11_addedBy 71 = .ok (.lload 8, 2) := by decide +kernel
theorem dX11_addedBy_73 : decode cX11_addedBy 73 = .ok (.lconst 0, 1) := by decide +kernel
theorem dX11_addedBy_74 : decode cX11_addedBy 74 = .ok (.lcmp, 1) := by decide +kernel
theorem dX11_addedBy_75 : decode cX11_addedBy 75 = .ok (.ifCond .eq 12, 3) := by decide +kernel
theorem dX11_addedBy_78 : decode cX11_addedBy 78 = .ok (.iload 13, 2) := by decide +kernel
theorem dX11_addedBy_80 : decode cX11_addedBy 80 = .ok (.i2l, 1) := by decide +kernel
theorem dX11_addedBy_81 : decode cX11_addedBy 81 = .ok (.lload 8, 2) := by decide +kernel
theorem dX11_addedBy_83 : decode cX11_addedBy 83 = .ok (.lcmp, 1) := by decide +kernel
theorem dX11_addedBy_84 : decode cX11_addedBy 84 = .ok (.ifCond .ge 9, 3) := by decide +kernel
theorem dX11_addedBy_87 : decode cX11_addedBy 87 = .ok (.iload 13, 2) := by decide +kernel
theorem dX11_addedBy_89 : decode cX11_addedBy 89 = .ok (.i2l, 1) := by decide +kernel
theorem dX11_addedBy_90 : decode cX11_addedBy 90 = .ok (.goto 5, 3) := by decide +kernel
theorem dX11_addedBy_93 : decode cX11_addedBy 93 = .ok (.lload 8, 2) := by decide +kernel
theorem dX11_addedBy_95 : decode cX11_addedBy 95 = .ok (.lstore 8, 2) := by decide +kernel
theorem dX11_addedBy_97 : decode cX11_addedBy 97 = .ok (.lload 10, 2) := by decide +kernel
theorem dX11_addedBy_99 : decode cX11_addedBy 99 = .ok (.aload_n 0, 1) := by decide +kernel
theorem dX11_addedBy_100 : decode cX11_addedBy 100 = .ok (.iload 13, 2) := by decide +kernel
theorem dX11_addedBy_102 : decode cX11_addedBy 102 = .ok (.invokevirtual 180, 3) := by decide +kernel
theorem dX11_addedBy_105 : decode cX11_addedBy 105 = .ok (.ladd, 1) := by decide +kernel
theorem dX11_addedBy_106 : decode cX11_addedBy 106 = .ok (.lstore 10, 2) := by decide +kernel
theorem dX11_addedBy_108 : decode cX11_addedBy 108 = .ok (.iinc 12 1, 3) := by decide +kernel
theorem dX11_addedBy_111 : decode cX11_addedBy 111 = .ok (.goto (-94), 3) := by decide +kernel
theorem dX11_addedBy_114 : decode cX11_addedBy 114 = .ok (.aload_n 0, 1) := by decide +kernel
theorem dX11_addedBy_115 : decode cX11_addedBy 115 = .ok (.getfield 27, 3) := by decide +kernel
theorem dX11_addedBy_118 : decode cX11_addedBy 118 = .ok (.iconst 0, 1) := by decide +kernel
theorem dX11_addedBy_119 : decode cX11_addedBy 119 = .ok (.lload_n 2, 1) := by decide +kernel
theorem dX11_addedBy_120 : decode cX11_addedBy 120 = .ok (.lastore, 1) := by decide +kernel
theorem dX11_addedBy_121 : decode cX11_addedBy 121 = .ok (.aload_n 0, 1) := by decide +kernel
theorem dX11_addedBy_122 : decode cX11_addedBy 122 = .ok (.getfield 27, 3) := by decide +kernel
theorem dX11_addedBy_125 : decode cX11_addedBy 125 = .ok (.iconst 1, 1) := by decide +kernel
theorem dX11_addedBy_126 : decode cX11_addedBy 126 = .ok (.lload 4, 2) := by decide +kernel
theorem dX11_addedBy_128 : decode cX11_addedBy 128 = .ok (.lastore, 1) := by decide +kernel
theorem dX11_addedBy_129 : decode cX11_addedBy 129 = .ok (.aload_n 0, 1) := by decide +kernel
theorem dX11_addedBy_130 : decode cX11_addedBy 130 = .ok (.getfield 27, 3) := by decide +kernel
theorem dX11_addedBy_133 : decode cX11_addedBy 133 = .ok (.iconst 2, 1) := by decide +kernel
theorem dX11_addedBy_134 : decode cX11_addedBy 134 = .ok (.lload 6, 2) := by decide +kernel
theorem dX11_addedBy_136 : decode cX11_addedBy 136 = .ok (.lastore, 1) := by decide +kernel
theorem dX11_addedBy_137 : decode cX11_addedBy 137 = .ok (.aload_n 0, 1) := by decide +kernel
theorem dX11_addedBy_138 : decode cX11_addedBy 138 = .ok (.getfield 27, 3) := by decide +kernel
theorem dX11_addedBy_141 : decode cX11_addedBy 141 = .ok (.iconst 3, 1) := by decide +kernel
theorem dX11_addedBy_142 : decode cX11_addedBy 142 = .ok (.lload 8, 2) := by decide +kernel
theorem dX11_addedBy_144 : decode cX11_addedBy 144 = .ok (.lastore, 1) := by decide +kernel
theorem dX11_addedBy_145 : decode cX11_addedBy 145 = .ok (.aload_n 0, 1) := by decide +kernel
theorem dX11_addedBy_146 : decode cX11_addedBy 146 = .ok (.getfield 27, 3) := by decide +kernel
theorem dX11_addedBy_149 : decode cX11_addedBy 149 = .ok (.iconst 4, 1) := by decide +kernel
theorem dX11_addedBy_150 : decode cX11_addedBy 150 = .ok (.lload 10, 2) := by decide +kernel
theorem dX11_addedBy_152 : decode cX11_addedBy 152 = .ok (.lload 10, 2) := by decide +kernel
theorem dX11_addedBy_154 : decode cX11_addedBy 154 = .ok (.lmul, 1) := by decide +kernel
theorem dX11_addedBy_155 : decode cX11_addedBy 155 = .ok (.ldc2_w 184, 3) := by decide +kernel
theorem dX11_addedBy_158 : decode cX11_addedBy 158 = .ok (.ldiv, 1) := by decide +kernel
theorem dX11_addedBy_159 : decode cX11_addedBy 159 = .ok (.lastore, 1) := by decide +kernel
theorem dX11_addedBy_160 : decode cX11_addedBy 160 = .ok (.aload_n 0, 1) := by decide +kernel
theorem dX11_addedBy_161 : decode cX11_addedBy 161 = .ok (.iload_n 1, 1) := by decide +kernel
theorem dX11_addedBy_162 : decode cX11_addedBy 162 = .ok (.putfield 113, 3) := by decide +kernel
theorem dX11_addedBy_165 : decode cX11_addedBy 165 = .ok (.aload_n 0, 1) := by decide +kernel
theorem dX11_addedBy_166 : decode cX11_addedBy 166 = .ok (.invokevirtual 169, 3) := by decide +kernel
theorem dX11_addedBy_169 : decode cX11_addedBy 169 = .ok (.ifCond .ne 5, 3) := by decide +kernel
theorem dX11_addedBy_172 : decode cX11_addedBy 172 = .ok (.iconst 0, 1) := by decide +kernel
theorem dX11_addedBy_173 : decode cX11_addedBy 173 = .ok (.ireturn, 1) := by decide +kernel
theorem dX11_addedBy_174 : decode cX11_addedBy 174 = .ok (.aload_n 0, 1) := by decide +kernel
theorem dX11_addedBy_175 : decode cX11_addedBy 175 = .ok (.getfield 165, 3) := by decide +kernel
theorem dX11_addedBy_178 : decode cX11_addedBy 178 = .ok (.lconst 0, 1) := by decide +kernel
theorem dX11_addedBy_179 : decode cX11_addedBy 179 = .ok (.lcmp, 1) := by decide +kernel
theorem dX11_addedBy_180 : decode cX11_addedBy 180 = .ok (.ifCond .ge 7, 3) := by decide +kernel
theorem dX11_addedBy_183 : decode cX11_addedBy 183 = .ok (.lconst 0, 1) := by decide +kernel
theorem dX11_addedBy_184 : decode cX11_addedBy 184 = .ok (.goto 24, 3) := by decide +kernel
theorem dX11_addedBy_187 : decode cX11_addedBy 187 = .ok (.aload_n 0, 1) := by decide +kernel
theorem dX11_addedBy_188 : decode cX11_addedBy 188 = .ok (.getfield 165, 3) := by decide +kernel
theorem dX11_addedBy_191 : decode cX11_addedBy 191 = .ok (.ldc2_w 104, 3) := by decide +kernel
theorem dX11_addedBy_194 : decode cX11_addedBy 194 = .ok (.lcmp, 1) := by decide +kernel
theorem dX11_addedBy_195 : decode cX11_addedBy 195 = .ok (.ifCond .le 9, 3) := by decide +kernel
theorem dX11_addedBy_198 : decode cX11_addedBy 198 = .ok (.ldc2_w 104, 3) := by decide +kernel
theorem dX11_addedBy_201 : decode cX11_addedBy 201 = .ok (.goto 7, 3) := by decide +kernel
theorem dX11_addedBy_204 : decode cX11_addedBy 204 = .ok (.aload_n 0, 1) := by decide +kernel
theorem dX11_addedBy_205 : decode cX11_addedBy 205 = .ok (.getfield 165, 3) := by decide +kernel
theorem dX11_addedBy_208 : decode cX11_addedBy 208 = .ok (.l2i, 1) := by decide +kernel
theorem dX11_addedBy_209 : decode cX11_addedBy 209 = .ok (.ireturn, 1) := by decide +kernel
theorem dX11_addUp_0 : decode cX11_addUp 0 = .ok (.iconst 0, 1) := by decide +kernel
theorem dX11_addUp_1 : decode cX11_addUp 1 = .ok (.istore_n 1, 1) := by decide +kernel
theorem dX11_addUp_2 : decode cX11_addUp 2 = .ok (.iconst 0, 1) := by decide +kernel
theorem dX11_addUp_3 : decode cX11_addUp 3 = .ok (.istore_n 2, 1) := by decide +kernel
theorem dX11_addUp_4 : decode cX11_addUp 4 = .ok (.iload_n 2, 1) := by decide +kernel
theorem dX11_addUp_5 : decode cX11_addUp 5 = .ok (.aload_n 0, 1) := by decide +kernel
theorem dX11_addUp_6 : decode cX11_addUp 6 = .ok (.invokevirtual 84, 3) := by decide +kernel
theorem dX11_addUp_9 : decode cX11_addUp 9 = .ok (.if_icmp .ge 156, 3) := by decide +kernel
theorem dX11_addUp_12 : decode cX11_addUp 12 = .ok (.aload_n 0, 1) := by decide +kernel
theorem dX11_addUp_13 : decode cX11_addUp 13 = .ok (.iconst 0, 1) := by decide +kernel
theorem dX11_addUp_14 : decode cX11_addUp 14 = .ok (.putfield 177, 3) := by decide +kernel
theorem dX11_addUp_17 : decode cX11_addUp 17 = .ok (.aload_n 0, 1) := by decide +kernel
theorem dX11_addUp_18 : decode cX11_addUp 18 = .ok (.getfield 42, 3) := by decide +kernel
theorem dX11_addUp_21 : decode cX11_addUp 21 = .ok (.iload_n 2, 1) := by decide +kernel
theorem dX11_addUp_22 : decode cX11_addUp 22 = .ok (.iconst 0, 1) := by decide +kernel
theorem dX11_addUp_23 : decode cX11_addUp 23 = .ok (.iastore, 1) := by decide +kernel
theorem dX11_addUp_24 : decode cX11_addUp 24 = .ok (.iconst 0, 1) := by decide +kernel
theorem dX11_addUp_25 : decode cX11_addUp 25 = .ok (.istore_n 3, 1) := by decide +kernel
theorem dX11_addUp_26 : decode cX11_addUp 26 = .ok (.iload_n 3, 1) := by decide +kernel
theorem dX11_addUp_27 : decode cX11_addUp 27 = .ok (.aload_n 0, 1) := by decide +kernel
theorem dX11_addUp_28 : decode cX11_addUp 28 = .ok (.invokevirtual 76, 3) := by decide +kernel
theorem dX11_addUp_31 : decode cX11_addUp 31 = .ok (.if_icmp .ge 79, 3) := by decide +kernel
theorem dX11_addUp_34 : decode cX11_addUp 34 = .ok (.aload_n 0, 1) := by decide +kernel
theorem dX11_addUp_35 : decode cX11_addUp 35 = .ok (.getfield 42, 3) := by decide +kernel
theorem dX11_addUp_38 : decode cX11_addUp 38 = .ok (.iload_n 2, 1) := by decide +kernel
theorem dX11_addUp_39 : decode cX11_addUp 39 = .ok (.dup2, 1) := by decide +kernel
theorem dX11_addUp_40 : decode cX11_addUp 40 = .ok (.iaload, 1) := by decide +kernel
theorem dX11_addUp_41 : decode cX11_addUp 41 = .ok (.aload_n 0, 1) := by decide +kernel
theorem dX11_addUp_42 : decode cX11_addUp 42 = .ok (.iload_n 3, 1) := by decide +kernel
theorem dX11_addUp_43 : decode cX11_addUp 43 = .ok (.iload_n 2, 1) := by decide +kernel
theorem dX11_addUp_44 : decode cX11_addUp 44 = .ok (.invokevirtual 186, 3) := by decide +kernel
theorem dX11_addUp_47 : decode cX11_addUp 47 = .ok (.iadd, 1) := by decide +kernel
theorem dX11_addUp_48 : decode cX11_addUp 48 = .ok (.iastore, 1) := by decide +kernel
theorem dX11_addUp_49 : decode cX11_addUp 49 = .ok (.iload_n 3, 1) := by decide +kernel
theorem dX11_addUp_50 : decode cX11_addUp 50 = .ok (.aload_n 0, 1) := by decide +kernel
theorem dX11_addUp_51 : decode cX11_addUp 51 = .ok (.getfield 45, 3) := by decide +kernel
theorem dX11_addUp_54 : decode cX11_addUp 54 = .ok (.if_icmp .ne 40, 3) := by decide +kernel
theorem dX11_addUp_57 : decode cX11_addUp 57 = .ok (.iload_n 2, 1) := by decide +kernel
theorem dX11_addUp_58 : decode cX11_addUp 58 = .ok (.aload_n 0, 1) := by decide +kernel
theorem dX11_addUp_59 : decode cX11_addUp 59 = .ok (.getfield 49, 3) := by decide +kernel
theorem dX11_addUp_62 : decode cX11_addUp 62 = .ok (.if_icmp .ne 32, 3) := by decide +kernel
theorem dX11_addUp_65 : decode cX11_addUp 65 = .ok (.iconst 0, 1) := by decide +kernel
theorem dX11_addUp_66 : decode cX11_addUp 66 = .ok (.istore 4, 2) := by decide +kernel
theorem dX11_addUp_68 : decode cX11_addUp 68 = .ok (.iload 4, 2) := by decide +kernel
theorem dX11_addUp_70 : decode cX11_addUp 70 = .ok (.iconst 4, 1) := by decide +kernel
theorem dX11_addUp_71 : decode cX11_addUp 71 = .ok (.if_icmp .ge 20, 3) := by decide +kernel
theorem dX11_addUp_74 : decode cX11_addUp 74 = .ok (.aload_n 0, 1) := by decide +kernel
theorem dX11_addUp_75 : decode cX11_addUp 75 = .ok (.aload_n 0, 1) := by decide +kernel
theorem dX11_addUp_76 : decode cX11_addUp 76 = .ok (.getfield 52, 3) := by decide +kernel
theorem dX11_addUp_79 : decode cX11_addUp 79 = .ok (.iload 4, 2) := by decide +kernel
theorem dX11_addUp_81 : decode cX11_addUp 81 = .ok (.iaload, 1) := by decide +kernel
theorem dX11_addUp_82 : decode cX11_addUp 82 = .ok (.invokevirtual 190, 3) := by decide +kernel
theorem dX11_addUp_85 : decode cX11_addUp 85 = .ok (.iinc 4 1, 3) := by decide +kernel
theorem dX11_addUp_88 : decode cX11_addUp 88 = .ok (.goto (-20), 3) := by decide +kernel
theorem dX11_addUp_91 : decode cX11_addUp 91 = .ok (.goto 13, 3) := by decide +kernel
theorem dX11_addUp_94 : decode cX11_addUp 94 = .ok (.aload_n 0, 1) := by decide +kernel
theorem dX11_addUp_95 : decode cX11_addUp 95 = .ok (.aload_n 0, 1) := by decide +kernel
theorem dX11_addUp_96 : decode cX11_addUp 96 = .ok (.iload_n 3, 1) := by decide +kernel
theorem dX11_addUp_97 : decode cX11_addUp 97 = .ok (.iload_n 2, 1) := by decide +kernel
theorem dX11_addUp_98 : decode cX11_addUp 98 = .ok (.invokevirtual 186, 3) := by decide +kernel
theorem dX11_addUp_101 : decode cX11_addUp 101 = .ok (.invokevirtual 190, 3) := by decide +kernel
theorem dX11_addUp_104 : decode cX11_addUp 104 = .ok (.iinc 3 1, 3) := by decide +kernel
theorem dX11_addUp_107 : decode cX11_addUp 107 = .ok (.goto (-81), 3) := by decide +kernel
theorem dX11_addUp_110 : decode cX11_addUp 110 = .ok (.aload_n 0, 1) := by decide +kernel
theorem dX11_addUp_111 : decode cX11_addUp 111 = .ok (.getfield 36, 3) := by decide +kernel
theorem dX11_addUp_114 : decode cX11_addUp 114 = .ok (.iload_n 2, 1) := by decide +kernel
theorem dX11_addUp_115 : decode cX11_addUp 115 = .ok (.aload_n 0, 1) := by decide +kernel
theorem dX11_addUp_116 : decode cX11_addUp 116 = .ok (.getfield 193, 3) := by decide +kernel
theorem dX11_addUp_119 : decode cX11_addUp 119 = .ok (.ifCond .eq 7, 3) := by decide +kernel
theorem dX11_addUp_122 : decode cX11_addUp 122 = .ok (.iconst 0, 1) := by decide +kernel
theorem dX11_addUp_123 : decode cX11_addUp 123 = .ok (.goto 14, 3) := by decide +kernel
theorem dX11_addUp_126 : decode cX11_addUp 126 = .ok (.aload_n 0, 1) := by decide +kernel
theorem dX11_addUp_127 : decode cX11_addUp 127 = .ok (.aload_n 0, 1) := by decide +kernel
theorem dX11_addUp_128 : decode cX11_addUp 128 = .ok (.getfield 7, 3) := by decide +kernel
theorem dX11_addUp_131 : decode cX11_addUp 131 = .ok (.bipush 54, 2) := by decide +kernel
theorem dX11_addUp_133 : decode cX11_addUp 133 = .ok (.iaload, 1) := by decide +kernel
theorem dX11_addUp_134 : decode cX11_addUp 134 = .ok (.invokevirtual 197, 3) := by decide +kernel
theorem dX11_addUp_137 : decode cX11_addUp 137 = .ok (.iastore, 1) := by decide +kernel
theorem dX11_addUp_138 : decode cX11_addUp 138 = .ok (.aload_n 0, 1) := by decide +kernel
theorem dX11_addUp_139 : decode cX11_addUp 139 = .ok (.getfield 39, 3) := by decide +kernel
theorem dX11_addUp_142 : decode cX11_addUp 142 = .ok (.iload_n 2, 1) := by decide +kernel
theorem dX11_addUp_143 : decode cX11_addUp 143 = .ok (.aload_n 0, 1) := by decide +kernel
theorem dX11_addUp_144 : decode cX11_addUp 144 = .ok (.getfield 36, 3) := by decide +kernel
theorem dX11_addUp_147 : decode cX11_addUp 147 = .ok (.iload_n 2, 1) := by decide +kernel
theorem dX11_addUp_148 : decode cX11_addUp 148 = .ok (.iaload, 1) := by decide +kernel
theorem dX11_addUp_149 : decode cX11_addUp 149 = .ok (.iastore, 1) := by decide +kernel
theorem dX11_addUp_150 : decode cX11_addUp 150 = .ok (.iload_n 1, 1) := by decide +kernel
theorem dX11_addUp_151 : decode cX11_addUp 151 = .ok (.aload_n 0, 1) := by decide +kernel
theorem dX11_addUp_152 : decode cX11_addUp 152 = .ok (.getfield 36, 3) := by decide +kernel
theorem dX11_addUp_155 : decode cX11_addUp 155 = .ok (.iload_n 2, 1) := by decide +kernel
theorem dX11_addUp_156 : decode cX11_addUp 156 = .ok (.iaload, 1) := by decide +kernel
theorem dX11_addUp_157 : decode cX11_addUp 157 = .ok (.iadd, 1) := by decide +kernel
theorem dX11_addUp_158 : decode cX11_addUp 158 = .ok (.istore_n 1, 1) := by decide +kernel
theorem dX11_addUp_159 : decode cX11_addUp 159 = .ok (.iinc 2 1, 3) := by decide +kernel
theorem dX11_addUp_162 : decode cX11_addUp 162 = .ok (.goto (-158), 3) := by decide +kernel
theorem dX11_addUp_165 : decode cX11_addUp 165 = .ok (.aload_n 0, 1) := by decide +kernel
theorem dX11_addUp_166 : decode cX11_addUp 166 = .ok (.getfield 7, 3) := by decide +kernel
theorem dX11_addUp_169 : decode cX11_addUp 169 = .ok (.bipush 55, 2) := by decide +kernel
theorem dX11_addUp_171 : decode cX11_addUp 171 = .ok (.iaload, 1) := by decide +kernel
theorem dX11_addUp_172 : decode cX11_addUp 172 = .ok (.istore_n 2, 1) := by decide +kernel
theorem dX11_addUp_173 : decode cX11_addUp 173 = .ok (.iload_n 1, 1) := by decide +kernel
theorem dX11_addUp_174 : decode cX11_addUp 174 = .ok (.iload_n 2, 1) := by decide +kernel
theorem dX11_addUp_175 : decode cX11_addUp 175 = .ok (.if_icmp .le 9, 3) := by decide +kernel
theorem dX11_addUp_178 : decode cX11_addUp 178 = .ok (.aload_n 0, 1) := by decide +kernel
theorem dX11_addUp_179 : decode cX11_addUp 179 = .ok (.iload_n 1, 1) := by decide +kernel
theorem dX11_addUp_180 : decode cX11_addUp 180 = .ok (.iload_n 2, 1) := by decide +kernel
theorem dX11_addUp_181 : decode cX11_addUp 181 = .ok (.invokevirtual 200, 3) := by decide +kernel
theorem dX11_addUp_184 : decode cX11_addUp 184 = .ok (.return_, 1) := by decide +kernel
theorem dX11_part_0 : decode cX11_part 0 = .ok (.bipush 99, 2) := by decide +kernel
theorem dX11_part_2 : decode cX11_part 2 = .ok (.istore_n 3, 1) := by decide +kernel
theorem dX11_part_3 : decode cX11_part 3 = .ok (.aload_n 0, 1) := by decide +kernel
theorem dX11_part_4 : decode cX11_part 4 = .ok (.getfield 7, 3) := by decide +kernel
theorem dX11_part_7 : decode cX11_part 7 = .ok (.bipush 56, 2) := by decide +kernel
theorem dX11_part_9 : decode cX11_part 9 = .ok (.iaload, 1) := by decide +kernel
theorem dX11_part_10 : decode cX11_part 10 = .ok (.iconst 2, 1) := by decide +kernel
theorem dX11_part_11 : decode cX11_part 11 = .ok (.if_icmp .ne 18, 3) := by decide +kernel
theorem dX11_part_14 : decode cX11_part 14 = .ok (.aload_n 0, 1) := by decide +kernel
theorem dX11_part_15 : decode cX11_part 15 = .ok (.iload_n 3, 1) := by decide +kernel
theorem dX11_part_16 : decode cX11_part 16 = .ok (.invokevirtual 204, 3) := by decide +kernel
theorem dX11_part_19 : decode cX11_part 19 = .ok (.iload_n 2, 1) := by decide +kernel
theorem dX11_part_20 : decode cX11_part 20 = .ok (.if_icmp .le 9, 3) := by decide +kernel
theorem dX11_part_23 : decode cX11_part 23 = .ok (.iinc 3 (-1), 3) := by decide +kernel
theorem dX11_part_26 : decode cX11_part 26 = .ok (.goto (-23), 3) := by decide +kernel
theorem dX11_part_29 : decode cX11_part 29 = .ok (.iload_n 2, 1) := by decide +kernel
theorem dX11_part_30 : decode cX11_part 30 = .ok (.istore 4, 2) := by decide +kernel
theorem dX11_part_32 : decode cX11_part 32 = .ok (.iconst 0, 1) := by decide +kernel
theorem dX11_part_33 : decode cX11_part 33 = .ok (.istore 5, 2) := by decide +kernel
theorem dX11_part_35 : decode cX11_part 35 = .ok (.iload 5, 2) := by decide +kernel
theorem dX11_part_37 : decode cX11_part 37 = .ok (.aload_n 0, 1) := by decide +kernel
theorem dX11_part_38 : decode cX11_part 38 = .ok (.invokevirtual 84, 3) := by decide +kernel
theorem dX11_part_41 : decode cX11_part 41 = .ok (.if_icmp .ge 126, 3) := by decide +kernel
theorem dX11_part_44 : decode cX11_part 44 = .ok (.aload_n 0, 1) := by decide +kernel
theorem dX11_part_45 : decode cX11_part 45 = .ok (.getfield 7, 3) := by decide +kernel
theorem dX11_part_48 : decode cX11_part 48 = .ok (.bipush 56, 2) := by decide +kernel
theorem dX11_part_50 : decode cX11_part 50 = .ok (.iaload, 1) := by decide +kernel
theorem dX11_part_51 : decode cX11_part 51 = .ok (.ifCond .ne 24, 3) := by decide +kernel
theorem dX11_part_54 : decode cX11_part 54 = .ok (.aload_n 0, 1) := by decide +kernel
theorem dX11_part_55 : decode cX11_part 55 = .ok (.getfield 39, 3) := by decide +kernel
theorem dX11_part_58 : decode cX11_part 58 = .ok (.iload 5, 2) := by decide +kernel
theorem dX11_part_60 : decode cX11_part 60 = .ok (.aload_n 0, 1) := by decide +kernel
theorem dX11_part_61 : decode cX11_part 61 = .ok (.getfield 36, 3) := by decide +kernel
theorem dX11_part_64 : decode cX11_part 64 = .ok (.iload 5, 2) := by decide +kernel
theorem dX11_part_66 : decode cX11_part 66 = .ok (.iaload, 1) := by decide +kernel
theorem dX11_part_67 : decode cX11_part 67 = .ok (.iload_n 2, 1) := by decide +kernel
theorem dX11_part_68 : decode cX11_part 68 = .ok (.imul, 1) := by decide +kernel
theorem dX11_part_69 : decode cX11_part 69 = .ok (.iload_n 1, 1) := by decide +kernel
theorem dX11_part_70 : decode cX11_part 70 = .ok (.idiv, 1) := by decide +kernel
theorem dX11_part_71 : decode cX11_part 71 = .ok (.iastore, 1) := by decide +kernel
theorem dX11_part_72 : decode cX11_part 72 = .ok (.goto 89, 3) := by decide +kernel
theorem dX11_part_75 : decode cX11_part 75 = .ok (.aload_n 0, 1) := by decide +kernel
theorem dX11_part_76 : decode cX11_part 76 = .ok (.getfield 7, 3) := by decide +kernel
theorem dX11_part_79 : decode cX11_part 79 = .ok (.bipush 56, 2) := by decide +kernel
theorem dX11_part_81 : decode cX11_part 81 = .ok (.iaload, 1) := by decide +kernel
theorem dX11_part_82 : decode cX11_part 82 = .ok (.iconst 1, 1) := by decide +kernel
theorem dX11_part_83 : decode cX11_part 83 = .ok (.if_icmp .ne 49, 3) := by decide +kernel
theorem dX11_part_86 : decode cX11_part 86 = .ok (.aload_n 0, 1) := by decide +kernel
theorem dX11_part_87 : decode cX11_part 87 = .ok (.getfield 39, 3) := by decide +kernel
theorem dX11_part_90 : decode cX11_part 90 = .ok (.iload 5, 2) := by decide +kernel
theorem dX11_part_92 : decode cX11_part 92 = .ok (.aload_n 0, 1) := by decide +kernel
theorem dX11_part_93 : decode cX11_part 93 = .ok (.getfield 36, 3) := by decide +kernel
theorem dX11_part_96 : decode cX11_part 96 = .ok (.iload 5, 2) := by decide +kernel
theorem dX11_part_98 : decode cX11_part 98 = .ok (.iaload, 1) := by decide +kernel
theorem dX11_part_99 : decode cX11_part 99 = .ok (.iload 4, 2) := by decide +kernel
theorem dX11_part_101 : decode cX11_part 101 = .ok (.if_icmp .ge 13, 3) := by decide +kernel
theorem dX11_part_104 : decode cX11_part 104 = .ok (.aload_n 0, 1) := by decide +kernel
theorem dX11_part_105 : decode cX11_part 105 = .ok (.getfield 36, 3) := by decide +kernel
theorem dX11_part_108 : decode cX11_part 108 = .ok (.iload 5, 2) := by decide +kernel
theorem dX11_part_110 : decode cX11_part 110 = .ok (.iaload, 1) := by decide +kernel
theorem dX11_part_111 : decode cX11_part 111 = .ok (.goto 5, 3) := by decide +kernel
theorem dX11_part_114 : decode cX11_part 114 = .ok (.iload 4, 2) := by decide +kernel
theorem dX11_part_116 : decode cX11_part 116 = .ok (.iastore, 1) := by decide +kernel
theorem dX11_part_117 : decode cX11_part 117 = .ok (.iload 4, 2) := by decide +kernel
theorem dX11_part_119 : decode cX11_part 119 = .ok (.aload_n 0, 1) := by decide +kernel
theorem dX11_part_120 : decode cX11_part 120 = .ok (.getfield 39, 3) := by decide +kernel
theorem dX11_part_123 : decode cX11_part 123 = .ok (.iload 5, 2) := by decide +kernel
theorem dX11_part_125 : decode cX11_part 125 = .ok (.iaload, 1) := by decide +kernel
theorem dX11_part_126 : decode cX11_part 126 = .ok (.isub, 1) := by decide +kernel
theorem dX11_part_127 : decode cX11_part 127 = .ok (.istore 4, 2) := by decide +kernel
theorem dX11_part_129 : decode cX11_part 129 = .ok (.goto 32, 3) := by decide +kernel
theorem dX11_part_132 : decode cX11_part 132 = .ok (.aload_n 0, 1) := by decide +kernel
theorem dX11_part_133 : decode cX11_part 133 = .ok (.getfield 39, 3) := by decide +kernel
theorem dX11_part_136 : decode cX11_part 136 = .ok (.iload 5, 2) := by decide +kernel
theorem dX11_part_138 : decode cX11_part 138 = .ok (.aload_n 0, 1) := by decide +kernel
theorem dX11_part_139 : decode cX11_part 139 = .ok (.getfield 36, 3) := by decide +kernel
theorem dX11_part_142 : decode cX11_part 142 = .ok (.iload 5, 2) := by decide +kernel
theorem dX11_part_144 : decode cX11_part 144 = .ok (.iaload, 1) := by decide +kernel
theorem dX11_part_145 : decode cX11_part 145 = .ok (.iload_n 3, 1) := by decide +kernel
theorem dX11_part_146 : decode cX11_part 146 = .ok (.if_icmp .ge 13, 3) := by decide +kernel
theorem dX11_part_149 : decode cX11_part 149 = .ok (.aload_n 0, 1) := by decide +kernel
theorem dX11_part_150 : decode cX11_part 150 = .ok (.getfield 36, 3) := by decide +kernel
theorem dX11_part_153 : decode cX11_part 153 = .ok (.iload 5, 2) := by decide +kernel
theorem dX11_part_155 : decode cX11_part 155 = .ok (.iaload, 1) := by decide +kernel
theorem dX11_part_156 : decode cX11_part 156 = .ok (.goto 4, 3) := by decide +kernel
theorem dX11_part_159 : decode cX11_part 159 = .ok (.iload_n 3, 1) := by decide +kernel
theorem dX11_part_160 : decode cX11_part 160 = .ok (.iastore, 1) := by decide +kernel
theorem dX11_part_161 : decode cX11_part 161 = .ok (.iinc 5 1, 3) := by decide +kernel
theorem dX11_part_164 : decode cX11_part 164 = .ok (.goto (-129), 3) := by decide +kernel
theorem dX11_part_167 : decode cX11_part 167 = .ok (.return_, 1) := by decide +kernel
theorem dX11_below_0 : decode cX11_below 0 = .ok (.iconst 0, 1) := by decide +kernel
theorem dX11_below_1 : decode cX11_below 1 = .ok (.istore_n 2, 1) := by decide +kernel
theorem dX11_below_2 : decode cX11_below 2 = .ok (.iconst 0, 1) := by decide +kernel
theorem dX11_below_3 : decode cX11_below 3 = .ok (.istore_n 3, 1) := by decide +kernel
theorem dX11_below_4 : decode cX11_below 4 = .ok (.iload_n 3, 1) := by decide +kernel
theorem dX11_below_5 : decode cX11_below 5 = .ok (.aload_n 0, 1) := by decide +kernel
theorem dX11_below_6 : decode cX11_below 6 = .ok (.invokevirtual 84, 3) := by decide +kernel
theorem dX11_below_9 : decode cX11_below 9 = .ok (.if_icmp .ge 32, 3) := by decide +kernel
theorem dX11_below_12 : decode cX11_below 12 = .ok (.iload_n 2, 1) := by decide +kernel
end
section
theorem dX11_below_13 : decode cX11_below 13 = .ok (.aload_n 0, 1) := by decide +kernel
theorem dX11_below_14 : decode cX11_below 14 = .ok (.getfield 36, 3) := by decide +kernel
theorem dX11_below_17 : decode cX11_below 17 = .ok (.iload_n 3, 1) := by decide +kernel
theorem dX11_below_18 : decode cX11_below 18 = .ok (.iaload, 1) := by decide +kernel
theorem dX11_below_19 : decode cX11_below 19 = .ok (.iload_n 1, 1) := by decide +kernel
theorem dX11_below_20 : decode cX11_below 20 = .ok (.if_icmp .ge 12, 3) := by decide +kernel
theorem dX11_below_23 : decode cX11_below 23 = .ok (.aload_n 0, 1) := by decide +kernel
theorem dX11_below_24 : decode cX11_below 24 = .ok (.getfield 36, 3) := by decide +kernel
theorem dX11_below_27 : decode cX11_below 27 = .ok (.iload_n 3, 1) := by decide +kernel
theorem dX11_below_28 : decode cX11_below 28 = .ok (.iaload, 1) := by decide +kernel
theorem dX11_below_29 : decode cX11_below 29 = .ok (.goto 4, 3) := by decide +kernel
theorem dX11_below_32 : decode cX11_below 32 = .ok (.iload_n 1, 1) := by decide +kernel
theorem dX11_below_33 : decode cX11_below 33 = .ok (.iadd, 1) := by decide +kernel
theorem dX11_below_34 : decode cX11_below 34 = .ok (.istore_n 2, 1) := by decide +kernel
theorem dX11_below_35 : decode cX11_below 35 = .ok (.iinc 3 1, 3) := by decide +kernel
theorem dX11_below_38 : decode cX11_below 38 = .ok (.goto (-34), 3) := by decide +kernel
theorem dX11_below_41 : decode cX11_below 41 = .ok (.iload_n 2, 1) := by decide +kernel
theorem dX11_below_42 : decode cX11_below 42 = .ok (.ireturn, 1) := by decide +kernel
theorem dX11_worthOf_0 : decode cX11_worthOf 0 = .ok (.iload_n 3, 1) := by decide +kernel
theorem dX11_worthOf_1 : decode cX11_worthOf 1 = .ok (.aload_n 0, 1) := by decide +kernel
theorem dX11_worthOf_2 : decode cX11_worthOf 2 = .ok (.getfield 7, 3) := by decide +kernel
theorem dX11_worthOf_5 : decode cX11_worthOf 5 = .ok (.bipush 50, 2) := by decide +kernel
theorem dX11_worthOf_7 : decode cX11_worthOf 7 = .ok (.iload_n 2, 1) := by decide +kernel
theorem dX11_worthOf_8 : decode cX11_worthOf 8 = .ok (.iadd, 1) := by decide +kernel
theorem dX11_worthOf_9 : decode cX11_worthOf 9 = .ok (.iaload, 1) := by decide +kernel
theorem dX11_worthOf_10 : decode cX11_worthOf 10 = .ok (.if_icmp .ge 5, 3) := by decide +kernel
theorem dX11_worthOf_13 : decode cX11_worthOf 13 = .ok (.iconst 0, 1) := by decide +kernel
theorem dX11_worthOf_14 : decode cX11_worthOf 14 = .ok (.ireturn, 1) := by decide +kernel
theorem dX11_worthOf_15 : decode cX11_worthOf 15 = .ok (.iconst 0, 1) := by decide +kernel
theorem dX11_worthOf_16 : decode cX11_worthOf 16 = .ok (.istore 4, 2) := by decide +kernel
theorem dX11_worthOf_18 : decode cX11_worthOf 18 = .ok (.iconst 0, 1) := by decide +kernel
theorem dX11_worthOf_19 : decode cX11_worthOf 19 = .ok (.istore 5, 2) := by decide +kernel
theorem dX11_worthOf_21 : decode cX11_worthOf 21 = .ok (.iload 5, 2) := by decide +kernel
theorem dX11_worthOf_23 : decode cX11_worthOf 23 = .ok (.iload_n 3, 1) := by decide +kernel
theorem dX11_worthOf_24 : decode cX11_worthOf 24 = .ok (.if_icmp .ge 70, 3) := by decide +kernel
theorem dX11_worthOf_27 : decode cX11_worthOf 27 = .ok (.iload 5, 2) := by decide +kernel
theorem dX11_worthOf_29 : decode cX11_worthOf 29 = .ok (.bipush 60, 2) := by decide +kernel
theorem dX11_worthOf_31 : decode cX11_worthOf 31 = .ok (.if_icmp .ge 63, 3) := by decide +kernel
theorem dX11_worthOf_34 : decode cX11_worthOf 34 = .ok (.aload_n 0, 1) := by decide +kernel
theorem dX11_worthOf_35 : decode cX11_worthOf 35 = .ok (.getfield 7, 3) := by decide +kernel
theorem dX11_worthOf_38 : decode cX11_worthOf 38 = .ok (.iconst 5, 1) := by decide +kernel
theorem dX11_worthOf_39 : decode cX11_worthOf 39 = .ok (.bipush 6, 2) := by decide +kernel
theorem dX11_worthOf_41 : decode cX11_worthOf 41 = .ok (.iload_n 1, 1) := by decide +kernel
theorem dX11_worthOf_42 : decode cX11_worthOf 42 = .ok (.imul, 1) := by decide +kernel
theorem dX11_worthOf_43 : decode cX11_worthOf 43 = .ok (.iadd, 1) := by decide +kernel
theorem dX11_worthOf_44 : decode cX11_worthOf 44 = .ok (.iconst 2, 1) := by decide +kernel
theorem dX11_worthOf_45 : decode cX11_worthOf 45 = .ok (.iload_n 2, 1) := by decide +kernel
theorem dX11_worthOf_46 : decode cX11_worthOf 46 = .ok (.imul, 1) := by decide +kernel
theorem dX11_worthOf_47 : decode cX11_worthOf 47 = .ok (.iadd, 1) := by decide +kernel
theorem dX11_worthOf_48 : decode cX11_worthOf 48 = .ok (.iaload, 1) := by decide +kernel
theorem dX11_worthOf_49 : decode cX11_worthOf 49 = .ok (.aload_n 0, 1) := by decide +kernel
theorem dX11_worthOf_50 : decode cX11_worthOf 50 = .ok (.getfield 7, 3) := by decide +kernel
theorem dX11_worthOf_53 : decode cX11_worthOf 53 = .ok (.iconst 5, 1) := by decide +kernel
theorem dX11_worthOf_54 : decode cX11_worthOf 54 = .ok (.bipush 6, 2) := by decide +kernel
theorem dX11_worthOf_56 : decode cX11_worthOf 56 = .ok (.iload_n 1, 1) := by decide +kernel
theorem dX11_worthOf_57 : decode cX11_worthOf 57 = .ok (.imul, 1) := by decide +kernel
theorem dX11_worthOf_58 : decode cX11_worthOf 58 = .ok (.iadd, 1) := by decide +kernel
theorem dX11_worthOf_59 : decode cX11_worthOf 59 = .ok (.iconst 2, 1) := by decide +kernel
theorem dX11_worthOf_60 : decode cX11_worthOf 60 = .ok (.iload_n 2, 1) := by decide +kernel
theorem dX11_worthOf_61 : decode cX11_worthOf 61 = .ok (.imul, 1) := by decide +kernel
theorem dX11_worthOf_62 : decode cX11_worthOf 62 = .ok (.iadd, 1) := by decide +kernel
theorem dX11_worthOf_63 : decode cX11_worthOf 63 = .ok (.iconst 1, 1) := by decide +kernel
theorem dX11_worthOf_64 : decode cX11_worthOf 64 = .ok (.iadd, 1) := by decide +kernel
theorem dX11_worthOf_65 : decode cX11_worthOf 65 = .ok (.iaload, 1) := by decide +kernel
theorem dX11_worthOf_66 : decode cX11_worthOf 66 = .ok (.iload 5, 2) := by decide +kernel
theorem dX11_worthOf_68 : decode cX11_worthOf 68 = .ok (.imul, 1) := by decide +kernel
theorem dX11_worthOf_69 : decode cX11_worthOf 69 = .ok (.isub, 1) := by decide +kernel
theorem dX11_worthOf_70 : decode cX11_worthOf 70 = .ok (.istore 6, 2) := by decide +kernel
theorem dX11_worthOf_72 : decode cX11_worthOf 72 = .ok (.iload 4, 2) := by decide +kernel
theorem dX11_worthOf_74 : decode cX11_worthOf 74 = .ok (.iload 6, 2) := by decide +kernel
theorem dX11_worthOf_76 : decode cX11_worthOf 76 = .ok (.ifCond .le 8, 3) := by decide +kernel
theorem dX11_worthOf_79 : decode cX11_worthOf 79 = .ok (.iload 6, 2) := by decide +kernel
theorem dX11_worthOf_81 : decode cX11_worthOf 81 = .ok (.goto 4, 3) := by decide +kernel
theorem dX11_worthOf_84 : decode cX11_worthOf 84 = .ok (.iconst 0, 1) := by decide +kernel
theorem dX11_worthOf_85 : decode cX11_worthOf 85 = .ok (.iadd, 1) := by decide +kernel
theorem dX11_worthOf_86 : decode cX11_worthOf 86 = .ok (.istore 4, 2) := by decide +kernel
theorem dX11_worthOf_88 : decode cX11_worthOf 88 = .ok (.iinc 5 1, 3) := by decide +kernel
theorem dX11_worthOf_91 : decode cX11_worthOf 91 = .ok (.goto (-70), 3) := by decide +kernel
theorem dX11_worthOf_94 : decode cX11_worthOf 94 = .ok (.iload 4, 2) := by decide +kernel
theorem dX11_worthOf_96 : decode cX11_worthOf 96 = .ok (.ireturn, 1) := by decide +kernel
theorem dX11_hasNow_0 : decode cX11_hasNow 0 = .ok (.iconst 0, 1) := by decide +kernel
theorem dX11_hasNow_1 : decode cX11_hasNow 1 = .ok (.istore_n 2, 1) := by decide +kernel
theorem dX11_hasNow_2 : decode cX11_hasNow 2 = .ok (.aload_n 0, 1) := by decide +kernel
theorem dX11_hasNow_3 : decode cX11_hasNow 3 = .ok (.getfield 7, 3) := by decide +kernel
theorem dX11_hasNow_6 : decode cX11_hasNow 6 = .ok (.iconst 0, 1) := by decide +kernel
theorem dX11_hasNow_7 : decode cX11_hasNow 7 = .ok (.iload_n 1, 1) := by decide +kernel
theorem dX11_hasNow_8 : decode cX11_hasNow 8 = .ok (.iadd, 1) := by decide +kernel
theorem dX11_hasNow_9 : decode cX11_hasNow 9 = .ok (.iaload, 1) := by decide +kernel
theorem dX11_hasNow_10 : decode cX11_hasNow 10 = .ok (.istore_n 3, 1) := by decide +kernel
theorem dX11_hasNow_11 : decode cX11_hasNow 11 = .ok (.iconst 0, 1) := by decide +kernel
theorem dX11_hasNow_12 : decode cX11_hasNow 12 = .ok (.istore 4, 2) := by decide +kernel
theorem dX11_hasNow_14 : decode cX11_hasNow 14 = .ok (.iload 4, 2) := by decide +kernel
theorem dX11_hasNow_16 : decode cX11_hasNow 16 = .ok (.aload_n 0, 1) := by decide +kernel
theorem dX11_hasNow_17 : decode cX11_hasNow 17 = .ok (.invokevirtual 84, 3) := by decide +kernel
theorem dX11_hasNow_20 : decode cX11_hasNow 20 = .ok (.if_icmp .ge 44, 3) := by decide +kernel
theorem dX11_hasNow_23 : decode cX11_hasNow 23 = .ok (.iload_n 2, 1) := by decide +kernel
theorem dX11_hasNow_24 : decode cX11_hasNow 24 = .ok (.aload_n 0, 1) := by decide +kernel
theorem dX11_hasNow_25 : decode cX11_hasNow 25 = .ok (.iload_n 1, 1) := by decide +kernel
theorem dX11_hasNow_26 : decode cX11_hasNow 26 = .ok (.iload 4, 2) := by decide +kernel
theorem dX11_hasNow_28 : decode cX11_hasNow 28 = .ok (.aload_n 0, 1) := by decide +kernel
theorem dX11_hasNow_29 : decode cX11_hasNow 29 = .ok (.getfield 42, 3) := by decide +kernel
theorem dX11_hasNow_32 : decode cX11_hasNow 32 = .ok (.iload 4, 2) := by decide +kernel
theorem dX11_hasNow_34 : decode cX11_hasNow 34 = .ok (.iaload, 1) := by decide +kernel
theorem dX11_hasNow_35 : decode cX11_hasNow 35 = .ok (.aload_n 0, 1) := by decide +kernel
theorem dX11_hasNow_36 : decode cX11_hasNow 36 = .ok (.getfield 39, 3) := by decide +kernel
theorem dX11_hasNow_39 : decode cX11_hasNow 39 = .ok (.iload 4, 2) := by decide +kernel
theorem dX11_hasNow_41 : decode cX11_hasNow 41 = .ok (.iaload, 1) := by decide +kernel
theorem dX11_hasNow_42 : decode cX11_hasNow 42 = .ok (.iadd, 1) := by decide +kernel
theorem dX11_hasNow_43 : decode cX11_hasNow 43 = .ok (.invokevirtual 207, 3) := by decide +kernel
theorem dX11_hasNow_46 : decode cX11_hasNow 46 = .ok (.iadd, 1) := by decide +kernel
theorem dX11_hasNow_47 : decode cX11_hasNow 47 = .ok (.istore_n 2, 1) := by decide +kernel
theorem dX11_hasNow_48 : decode cX11_hasNow 48 = .ok (.iload_n 3, 1) := by decide +kernel
theorem dX11_hasNow_49 : decode cX11_hasNow 49 = .ok (.aload_n 0, 1) := by decide +kernel
theorem dX11_hasNow_50 : decode cX11_hasNow 50 = .ok (.iload_n 1, 1) := by decide +kernel
theorem dX11_hasNow_51 : decode cX11_hasNow 51 = .ok (.iload 4, 2) := by decide +kernel
theorem dX11_hasNow_53 : decode cX11_hasNow 53 = .ok (.invokevirtual 186, 3) := by decide +kernel
theorem dX11_hasNow_56 : decode cX11_hasNow 56 = .ok (.isub, 1) := by decide +kernel
theorem dX11_hasNow_57 : decode cX11_hasNow 57 = .ok (.istore_n 3, 1) := by decide +kernel
theorem dX11_hasNow_58 : decode cX11_hasNow 58 = .ok (.iinc 4 1, 3) := by decide +kernel
theorem dX11_hasNow_61 : decode cX11_hasNow 61 = .ok (.goto (-47), 3) := by decide +kernel
theorem dX11_hasNow_64 : decode cX11_hasNow 64 = .ok (.iload_n 2, 1) := by decide +kernel
theorem dX11_hasNow_65 : decode cX11_hasNow 65 = .ok (.aload_n 0, 1) := by decide +kernel
theorem dX11_hasNow_66 : decode cX11_hasNow 66 = .ok (.getfield 7, 3) := by decide +kernel
theorem dX11_hasNow_69 : decode cX11_hasNow 69 = .ok (.bipush 53, 2) := by decide +kernel
theorem dX11_hasNow_71 : decode cX11_hasNow 71 = .ok (.iaload, 1) := by decide +kernel
theorem dX11_hasNow_72 : decode cX11_hasNow 72 = .ok (.iload_n 3, 1) := by decide +kernel
theorem dX11_hasNow_73 : decode cX11_hasNow 73 = .ok (.imul, 1) := by decide +kernel
theorem dX11_hasNow_74 : decode cX11_hasNow 74 = .ok (.iadd, 1) := by decide +kernel
theorem dX11_hasNow_75 : decode cX11_hasNow 75 = .ok (.ireturn, 1) := by decide +kernel
theorem dX11_allNow_0 : decode cX11_allNow 0 = .ok (.aload_n 0, 1) := by decide +kernel
theorem dX11_allNow_1 : decode cX11_allNow 1 = .ok (.invokevirtual 211, 3) := by decide +kernel
theorem dX11_allNow_4 : decode cX11_allNow 4 = .ok (.iconst 0, 1) := by decide +kernel
theorem dX11_allNow_5 : decode cX11_allNow 5 = .ok (.istore_n 1, 1) := by decide +kernel
theorem dX11_allNow_6 : decode cX11_allNow 6 = .ok (.iconst 0, 1) := by decide +kernel
theorem dX11_allNow_7 : decode cX11_allNow 7 = .ok (.istore_n 2, 1) := by decide +kernel
theorem dX11_allNow_8 : decode cX11_allNow 8 = .ok (.iload_n 2, 1) := by decide +kernel
theorem dX11_allNow_9 : decode cX11_allNow 9 = .ok (.aload_n 0, 1) := by decide +kernel
theorem dX11_allNow_10 : decode cX11_allNow 10 = .ok (.invokevirtual 76, 3) := by decide +kernel
theorem dX11_allNow_13 : decode cX11_allNow 13 = .ok (.if_icmp .ge 17, 3) := by decide +kernel
theorem dX11_allNow_16 : decode cX11_allNow 16 = .ok (.iload_n 1, 1) := by decide +kernel
theorem dX11_allNow_17 : decode cX11_allNow 17 = .ok (.aload_n 0, 1) := by decide +kernel
theorem dX11_allNow_18 : decode cX11_allNow 18 = .ok (.iload_n 2, 1) := by decide +kernel
theorem dX11_allNow_19 : decode cX11_allNow 19 = .ok (.invokevirtual 214, 3) := by decide +kernel
theorem dX11_allNow_22 : decode cX11_allNow 22 = .ok (.iadd, 1) := by decide +kernel
theorem dX11_allNow_23 : decode cX11_allNow 23 = .ok (.istore_n 1, 1) := by decide +kernel
theorem dX11_allNow_24 : decode cX11_allNow 24 = .ok (.iinc 2 1, 3) := by decide +kernel
theorem dX11_allNow_27 : decode cX11_allNow 27 = .ok (.goto (-19), 3) := by decide +kernel
theorem dX11_allNow_30 : decode cX11_allNow 30 = .ok (.iload_n 1, 1) := by decide +kernel
theorem dX11_allNow_31 : decode cX11_allNow 31 = .ok (.ireturn, 1) := by decide +kernel
theorem dX11_give_0 : decode cX11_give 0 = .ok (.aload_n 0, 1) := by decide +kernel
theorem dX11_give_1 : decode cX11_give 1 = .ok (.iload_n 1, 1) := by decide +kernel
theorem dX11_give_2 : decode cX11_give 2 = .ok (.invokevirtual 91, 3) := by decide +kernel
theorem dX11_give_5 : decode cX11_give 5 = .ok (.ifCond .eq 11, 3) := by decide +kernel
theorem dX11_give_8 : decode cX11_give 8 = .ok (.aload_n 0, 1) := by decide +kernel
theorem dX11_give_9 : decode cX11_give 9 = .ok (.iload_n 2, 1) := by decide +kernel
theorem dX11_give_10 : decode cX11_give 10 = .ok (.invokevirtual 95, 3) := by decide +kernel
theorem dX11_give_13 : decode cX11_give 13 = .ok (.ifCond .ne 6, 3) := by decide +kernel
theorem dX11_give_16 : decode cX11_give 16 = .ok (.bipush (-2), 2) := by decide +kernel
theorem dX11_give_18 : decode cX11_give 18 = .ok (.ireturn, 1) := by decide +kernel
theorem dX11_give_19 : decode cX11_give 19 = .ok (.iconst 0, 1) := by decide +kernel
theorem dX11_give_20 : decode cX11_give 20 = .ok (.istore 4, 2) := by decide +kernel
theorem dX11_give_22 : decode cX11_give 22 = .ok (.iconst 0, 1) := by decide +kernel
theorem dX11_give_23 : decode cX11_give 23 = .ok (.istore 5, 2) := by decide +kernel
theorem dX11_give_25 : decode cX11_give 25 = .ok (.iload 5, 2) := by decide +kernel
theorem dX11_give_27 : decode cX11_give 27 = .ok (.iconst 3, 1) := by decide +kernel
theorem dX11_give_28 : decode cX11_give 28 = .ok (.if_icmp .ge 31, 3) := by decide +kernel
theorem dX11_give_31 : decode cX11_give 31 = .ok (.iload 4, 2) := by decide +kernel
theorem dX11_give_33 : decode cX11_give 33 = .ok (.iload 5, 2) := by decide +kernel
theorem dX11_give_35 : decode cX11_give 35 = .ok (.iload_n 2, 1) := by decide +kernel
theorem dX11_give_36 : decode cX11_give 36 = .ok (.if_icmp .ne 7, 3) := by decide +kernel
theorem dX11_give_39 : decode cX11_give 39 = .ok (.iconst 0, 1) := by decide +kernel
theorem dX11_give_40 : decode cX11_give 40 = .ok (.goto 10, 3) := by decide +kernel
theorem dX11_give_43 : decode cX11_give 43 = .ok (.aload_n 0, 1) := by decide +kernel
theorem dX11_give_44 : decode cX11_give 44 = .ok (.iload_n 1, 1) := by decide +kernel
theorem dX11_give_45 : decode cX11_give 45 = .ok (.iload 5, 2) := by decide +kernel
theorem dX11_give_47 : decode cX11_give 47 = .ok (.invokevirtual 186, 3) := by decide +kernel
theorem dX11_give_50 : decode cX11_give 50 = .ok (.iadd, 1) := by decide +kernel
theorem dX11_give_51 : decode cX11_give 51 = .ok (.istore 4, 2) := by decide +kernel
theorem dX11_give_53 : decode cX11_give 53 = .ok (.iinc 5 1, 3) := by decide +kernel
theorem dX11_give_56 : decode cX11_give 56 = .ok (.goto (-31), 3) := by decide +kernel
theorem dX11_give_59 : decode cX11_give 59 = .ok (.iload_n 3, 1) := by decide +kernel
theorem dX11_give_60 : decode cX11_give 60 = .ok (.i2l, 1) := by decide +kernel
theorem dX11_give_61 : decode cX11_give 61 = .ok (.lconst 0, 1) := by decide +kernel
theorem dX11_give_62 : decode cX11_give 62 = .ok (.aload_n 0, 1) := by decide +kernel
theorem dX11_give_63 : decode cX11_give 63 = .ok (.getfield 7, 3) := by decide +kernel
theorem dX11_give_66 : decode cX11_give 66 = .ok (.iconst 0, 1) := by decide +kernel
theorem dX11_give_67 : decode cX11_give 67 = .ok (.iload_n 1, 1) := by decide +kernel
theorem dX11_give_68 : decode cX11_give 68 = .ok (.iadd, 1) := by decide +kernel
theorem dX11_give_69 : decode cX11_give 69 = .ok (.iaload, 1) := by decide +kernel
theorem dX11_give_70 : decode cX11_give 70 = .ok (.iload 4, 2) := by decide +kernel
theorem dX11_give_72 : decode cX11_give 72 = .ok (.isub, 1) := by decide +kernel
theorem dX11_give_73 : decode cX11_give 73 = .ok (.i2l, 1) := by decide +kernel
theorem dX11_give_74 : decode cX11_give 74 = .ok (.invokestatic 80, 3) := by decide +kernel
theorem dX11_give_77 : decode cX11_give 77 = .ok (.ifCond .ne 6, 3) := by decide +kernel
theorem dX11_give_80 : decode cX11_give 80 = .ok (.bipush (-2), 2) := by decide +kernel
theorem dX11_give_82 : decode cX11_give 82 = .ok (.ireturn, 1) := by decide +kernel
theorem dX11_give_83 : decode cX11_give 83 = .ok (.aload_n 0, 1) := by decide +kernel
theorem dX11_give_84 : decode cX11_give 84 = .ok (.iload_n 1, 1) := by decide +kernel
theorem dX11_give_85 : decode cX11_give 85 = .ok (.iload_n 2, 1) := by decide +kernel
theorem dX11_give_86 : decode cX11_give 86 = .ok (.invokevirtual 186, 3) := by decide +kernel
theorem dX11_give_89 : decode cX11_give 89 = .ok (.istore 5, 2) := by decide +kernel
theorem dX11_give_91 : decode cX11_give 91 = .ok (.aload_n 0, 1) := by decide +kernel
theorem dX11_give_92 : decode cX11_give 92 = .ok (.getfield 7, 3) := by decide +kernel
theorem dX11_give_95 : decode cX11_give 95 = .ok (.bipush 35, 2) := by decide +kernel
theorem dX11_give_97 : decode cX11_give 97 = .ok (.iconst 3, 1) := by decide +kernel
theorem dX11_give_98 : decode cX11_give 98 = .ok (.iload_n 1, 1) := by decide +kernel
theorem dX11_give_99 : decode cX11_give 99 = .ok (.imul, 1) := by decide +kernel
theorem dX11_give_100 : decode cX11_give 100 = .ok (.iadd, 1) := by decide +kernel
theorem dX11_give_101 : decode cX11_give 101 = .ok (.iload_n 2, 1) := by decide +kernel
theorem dX11_give_102 : decode cX11_give 102 = .ok (.iadd, 1) := by decide +kernel
theorem dX11_give_103 : decode cX11_give 103 = .ok (.iload_n 3, 1) := by decide +kernel
theorem dX11_give_104 : decode cX11_give 104 = .ok (.iastore, 1) := by decide +kernel
theorem dX11_give_105 : decode cX11_give 105 = .ok (.iload 5, 2) := by decide +kernel
theorem dX11_give_107 : decode cX11_give 107 = .ok (.ireturn, 1) := by decide +kernel
theorem dX11_amount_0 : decode cX11_amount 0 = .ok (.aload_n 0, 1) := by decide +kernel
theorem dX11_amount_1 : decode cX11_amount 1 = .ok (.iload_n 1, 1) := by decide +kernel
theorem dX11_amount_2 : decode cX11_amount 2 = .ok (.invokevirtual 95, 3) := by decide +kernel
theorem dX11_amount_5 : decode cX11_amount 5 = .ok (.ifCond .eq 15, 3) := by decide +kernel
theorem dX11_amount_8 : decode cX11_amount 8 = .ok (.iload_n 2, 1) := by decide +kernel
theorem dX11_amount_9 : decode cX11_amount 9 = .ok (.i2l, 1) := by decide +kernel
theorem dX11_amount_10 : decode cX11_amount 10 = .ok (.lconst 0, 1) := by decide +kernel
theorem dX11_amount_11 : decode cX11_amount 11 = .ok (.ldc2_w 102, 3) := by decide +kernel
theorem dX11_amount_14 : decode cX11_amount 14 = .ok (.invokestatic 80, 3) := by decide +kernel
theorem dX11_amount_17 : decode cX11_amount 17 = .ok (.ifCond .ne 6, 3) := by decide +kernel
theorem dX11_amount_20 : decode cX11_amount 20 = .ok (.bipush (-2), 2) := by decide +kernel
theorem dX11_amount_22 : decode cX11_amount 22 = .ok (.ireturn, 1) := by decide +kernel
theorem dX11_amount_23 : decode cX11_amount 23 = .ok (.aload_n 0, 1) := by decide +kernel
theorem dX11_amount_24 : decode cX11_amount 24 = .ok (.invokevirtual 211, 3) := by decide +kernel
theorem dX11_amount_27 : decode cX11_amount 27 = .ok (.iload_n 2, 1) := by decide +kernel
theorem dX11_amount_28 : decode cX11_amount 28 = .ok (.ifCond .ne 12, 3) := by decide +kernel
theorem dX11_amount_31 : decode cX11_amount 31 = .ok (.aload_n 0, 1) := by decide +kernel
theorem dX11_amount_32 : decode cX11_amount 32 = .ok (.getfield 42, 3) := by decide +kernel
theorem dX11_amount_35 : decode cX11_amount 35 = .ok (.iload_n 1, 1) := by decide +kernel
theorem dX11_amount_36 : decode cX11_amount 36 = .ok (.iaload, 1) := by decide +kernel
theorem dX11_amount_37 : decode cX11_amount 37 = .ok (.goto 44, 3) := by decide +kernel
theorem dX11_amount_40 : decode cX11_amount 40 = .ok (.iload_n 2, 1) := by decide +kernel
theorem dX11_amount_41 : decode cX11_amount 41 = .ok (.iconst 1, 1) := by decide +kernel
theorem dX11_amount_42 : decode cX11_amount 42 = .ok (.if_icmp .ne 12, 3) := by decide +kernel
theorem dX11_amount_45 : decode cX11_amount 45 = .ok (.aload_n 0, 1) := by decide +kernel
theorem dX11_amount_46 : decode cX11_amount 46 = .ok (.getfield 36, 3) := by decide +kernel
theorem dX11_amount_49 : decode cX11_amount 49 = .ok (.iload_n 1, 1) := by decide +kernel
theorem dX11_amount_50 : decode cX11_amount 50 = .ok (.iaload, 1) := by decide +kernel
theorem dX11_amount_51 : decode cX11_amount 51 = .ok (.goto 30, 3) := by decide +kernel
theorem dX11_amount_54 : decode cX11_amount 54 = .ok (.iload_n 2, 1) := by decide +kernel
theorem dX11_amount_55 : decode cX11_amount 55 = .ok (.iconst 2, 1) := by decide +kernel
theorem dX11_amount_56 : decode cX11_amount 56 = .ok (.if_icmp .ne 12, 3) := by decide +kernel
theorem dX11_amount_59 : decode cX11_amount 59 = .ok (.aload_n 0, 1) := by decide +kernel
theorem dX11_amount_60 : decode cX11_amount 60 = .ok (.getfield 39, 3) := by decide +kernel
theorem dX11_amount_63 : decode cX11_amount 63 = .ok (.iload_n 1, 1) := by decide +kernel
theorem dX11_amount_64 : decode cX11_amount 64 = .ok (.iaload, 1) := by decide +kernel
theorem dX11_amount_65 : decode cX11_amount 65 = .ok (.goto 16, 3) := by decide +kernel
theorem dX11_amount_68 : decode cX11_amount 68 = .ok (.aload_n 0, 1) := by decide +kernel
theorem dX11_amount_69 : decode cX11_amount 69 = .ok (.getfield 42, 3) := by decide +kernel
theorem dX11_amount_72 : decode cX11_amount 72 = .ok (.iload_n 1, 1) := by decide +kernel
theorem dX11_amount_73 : decode cX11_amount 73 = .ok (.iaload, 1) := by decide +kernel
theorem dX11_amount_74 : decode cX11_amount 74 = .ok (.aload_n 0, 1) := by decide +kernel
theorem dX11_amount_75 : decode cX11_amount 75 = .ok (.getfield 39, 3) := by decide +kernel
theorem dX11_amount_78 : decode cX11_amount 78 = .ok (.iload_n 1, 1) := by decide +kernel
theorem dX11_amount_79 : decode cX11_amount 79 = .ok (.iaload, 1) := by decide +kernel
theorem dX11_amount_80 : decode cX11_amount 80 = .ok (.iadd, 1) := by decide +kernel
theorem dX11_amount_81 : decode cX11_amount 81 = .ok (.ireturn, 1) := by decide +kernel
theorem dX11_isShort_0 : decode cX11_isShort 0 = .ok (.aload_n 0, 1) := by decide +kernel
theorem dX11_isShort_1 : decode cX11_isShort 1 = .ok (.invokevirtual 211, 3) := by decide +kernel
theorem dX11_isShort_4 : decode cX11_isShort 4 = .ok (.iconst 0, 1) := by decide +kernel
theorem dX11_isShort_5 : decode cX11_isShort 5 = .ok (.istore_n 1, 1) := by decide +kernel
theorem dX11_isShort_6 : decode cX11_isShort 6 = .ok (.iconst 0, 1) := by decide +kernel
theorem dX11_isShort_7 : decode cX11_isShort 7 = .ok (.istore_n 2, 1) := by decide +kernel
theorem dX11_isShort_8 : decode cX11_isShort 8 = .ok (.iload_n 2, 1) := by decide +kernel
theorem dX11_isShort_9 : decode cX11_isShort 9 = .ok (.aload_n 0, 1) := by decide +kernel
theorem dX11_isShort_10 : decode cX11_isShort 10 = .ok (.invokevirtual 84, 3) := by decide +kernel
theorem dX11_isShort_13 : decode cX11_isShort 13 = .ok (.if_icmp .ge 18, 3) := by decide +kernel
theorem dX11_isShort_16 : decode cX11_isShort 16 = .ok (.iload_n 1, 1) := by decide +kernel
theorem dX11_isShort_17 : decode cX11_isShort 17 = .ok (.aload_n 0, 1) := by decide +kernel
theorem dX11_isShort_18 : decode cX11_isShort 18 = .ok (.getfield 36, 3) := by decide +kernel
theorem dX11_isShort_21 : decode cX11_isShort 21 = .ok (.iload_n 2, 1) := by decide +kernel
theorem dX11_isShort_22 : decode cX11_isShort 22 = .ok (.iaload, 1) := by decide +kernel
theorem dX11_isShort_23 : decode cX11_isShort 23 = .ok (.iadd, 1) := by decide +kernel
theorem dX11_isShort_24 : decode cX11_isShort 24 = .ok (.istore_n 1, 1) := by decide +kernel
theorem dX11_isShort_25 : decode cX11_isShort 25 = .ok (.iinc 2 1, 3) := by decide +kernel
theorem dX11_isShort_28 : decode cX11_isShort 28 = .ok (.goto (-20), 3) := by decide +kernel
theorem dX11_isShort_31 : decode cX11_isShort 31 = .ok (.iload_n 1, 1) := by decide +kernel
theorem dX11_isShort_32 : decode cX11_isShort 32 = .ok (.aload_n 0, 1) := by decide +kernel
theorem dX11_isShort_33 : decode cX11_isShort 33 = .ok (.getfield 7, 3) := by decide +kernel
theorem dX11_isShort_36 : decode cX11_isShort 36 = .ok (.bipush 55, 2) := by decide +kernel
theorem dX11_isShort_38 : decode cX11_isShort 38 = .ok (.iaload, 1) := by decide +kernel
theorem dX11_isShort_39 : decode cX11_isShort 39 = .ok (.if_icmp .le 7, 3) := by decide +kernel
theorem dX11_isShort_42 : decode cX11_isShort 42 = .ok (.iconst 1, 1) := by decide +kernel
theorem dX11_isShort_43 : decode cX11_isShort 43 = .ok (.goto 4, 3) := by decide +kernel
theorem dX11_isShort_46 : decode cX11_isShort 46 = .ok (.iconst 0, 1) := by decide +kernel
theorem dX11_isShort_47 : decode cX11_isShort 47 = .ok (.ireturn, 1) := by decide +kernel
theorem dX11_has_0 : decode cX11_has 0 = .ok (.iload_n 1, 1) := by decide +kernel
theorem dX11_has_1 : decode cX11_has 1 = .ok (.iconst (-1), 1) := by decide +kernel
theorem dX11_has_2 : decode cX11_has 2 = .ok (.if_icmp .ne 8, 3) := by decide +kernel
theorem dX11_has_5 : decode cX11_has 5 = .ok (.aload_n 0, 1) := by decide +kernel
theorem dX11_has_6 : decode cX11_has 6 = .ok (.invokevirtual 217, 3) := by decide +kernel
theorem dX11_has_9 : decode cX11_has 9 = .ok (.ireturn, 1) := by decide +kernel
theorem dX11_has_10 : decode cX11_has 10 = .ok (.aload_n 0, 1) := by decide +kernel
theorem dX11_has_11 : decode cX11_has 11 = .ok (.iload_n 1, 1) := by decide +kernel
theorem dX11_has_12 : decode cX11_has 12 = .ok (.invokevirtual 91, 3) := by decide +kernel
theorem dX11_has_15 : decode cX11_has 15 = .ok (.ifCond .ne 6, 3) := by decide +kernel
theorem dX11_has_18 : decode cX11_has 18 = .ok (.bipush (-2), 2) := by decide +kernel
theorem dX11_has_20 : decode cX11_has 20 = .ok (.ireturn, 1) := by decide +kernel
theorem dX11_has_21 : decode cX11_has 21 = .ok (.aload_n 0, 1) := by decide +kernel
theorem dX11_has_22 : decode cX11_has 22 = .ok (.invokevirtual 211, 3) := by decide +kernel
theorem dX11_has_25 : decode cX11_has 25 = .ok (.aload_n 0, 1) := by decide +kernel
theorem dX11_has_26 : decode cX11_has 26 = .ok (.iload_n 1, 1) := by decide +kernel
theorem dX11_has_27 : decode cX11_has 27 = .ok (.invokevirtual 214, 3) := by decide +kernel
theorem dX11_has_30 : decode cX11_has 30 = .ok (.ireturn, 1) := by decide +kernel
theorem dX11_setRow_0 : decode cX11_setRow 0 = .ok (.aload_n 0, 1) := by decide +kernel
theorem dX11_setRow_1 : decode cX11_setRow 1 = .ok (.getfield 7, 3) := by decide +kernel
theorem dX11_setRow_4 : decode cX11_setRow 4 = .ok (.bipush 35, 2) := by decide +kernel
theorem dX11_setRow_6 : decode cX11_setRow 6 = .ok (.iconst 3, 1) := by decide +kernel
theorem dX11_setRow_7 : decode cX11_setRow 7 = .ok (.iload_n 1, 1) := by decide +kernel
theorem dX11_setRow_8 : decode cX11_setRow 8 = .ok (.imul, 1) := by decide +kernel
theorem dX11_setRow_9 : decode cX11_setRow 9 = .ok (.iadd, 1) := by decide +kernel
theorem dX11_setRow_10 : decode cX11_setRow 10 = .ok (.iload_n 2, 1) := by decide +kernel
theorem dX11_setRow_11 : decode cX11_setRow 11 = .ok (.iastore, 1) := by decide +kernel
theorem dX11_setRow_12 : decode cX11_setRow 12 = .ok (.aload_n 0, 1) := by decide +kernel
theorem dX11_setRow_13 : decode cX11_setRow 13 = .ok (.getfield 7, 3) := by decide +kernel
theorem dX11_setRow_16 : decode cX11_setRow 16 = .ok (.bipush 35, 2) := by decide +kernel
theorem dX11_setRow_18 : decode cX11_setRow 18 = .ok (.iconst 3, 1) := by decide +kernel
theorem dX11_setRow_19 : decode cX11_setRow 19 = .ok (.iload_n 1, 1) := by decide +kernel
theorem dX11_setRow_20 : decode cX11_setRow 20 = .ok (.imul, 1) := by decide +kernel
theorem dX11_setRow_21 : decode cX11_setRow 21 = .ok (.iadd, 1) := by decide +kernel
theorem dX11_setRow_22 : decode cX11_setRow 22 = .ok (.iconst 1, 1) := by decide +kernel
theorem dX11_setRow_23 : decode cX11_setRow 23 = .ok (.iadd, 1) := by decide +kernel
theorem dX11_setRow_24 : decode cX11_setRow 24 = .ok (.iload_n 3, 1) := by decide +kernel
theorem dX11_setRow_25 : decode cX11_setRow 25 = .ok (.iastore, 1) := by decide +kernel
theorem dX11_setRow_26 : decode cX11_setRow 26 = .ok (.aload_n 0, 1) := by decide +kernel
theorem dX11_setRow_27 : decode cX11_setRow 27 = .ok (.getfield 7, 3) := by decide +kernel
theorem dX11_setRow_30 : decode cX11_setRow 30 = .ok (.bipush 35, 2) := by decide +kernel
theorem dX11_setRow_32 : decode cX11_setRow 32 = .ok (.iconst 3, 1) := by decide +kernel
theorem dX11_setRow_33 : decode cX11_setRow 33 = .ok (.iload_n 1, 1) := by decide +kernel
theorem dX11_setRow_34 : decode cX11_setRow 34 = .ok (.imul, 1) := by decide +kernel
theorem dX11_setRow_35 : decode cX11_setRow 35 = .ok (.iadd, 1) := by decide +kernel
theorem dX11_setRow_36 : decode cX11_setRow 36 = .ok (.iconst 2, 1) := by decide +kernel
theorem dX11_setRow_37 : decode cX11_setRow 37 = .ok (.iadd, 1) := by decide +kernel
theorem dX11_setRow_38 : decode cX11_setRow 38 = .ok (.iload 4, 2) := by decide +kernel
theorem dX11_setRow_40 : decode cX11_setRow 40 = .ok (.iastore, 1) := by decide +kernel
theorem dX11_setRow_41 : decode cX11_setRow 41 = .ok (.return_, 1) := by decide +kernel
theorem dX11_findBest_0 : decode cX11_findBest 0 = .ok (.iconst 0, 1) := by decide +kernel
theorem dX11_findBest_1 : decode cX11_findBest 1 = .ok (.istore_n 2, 1) := by decide +kernel
theorem dX11_findBest_2 : decode cX11_findBest 2 = .ok (.iload_n 2, 1) := by decide +kernel
theorem dX11_findBest_3 : decode cX11_findBest 3 = .ok (.iconst 3, 1) := by decide +kernel
theorem dX11_findBest_4 : decode cX11_findBest 4 = .ok (.if_icmp .ge 21, 3) := by decide +kernel
theorem dX11_findBest_7 : decode cX11_findBest 7 = .ok (.aload_n 0, 1) := by decide +kernel
theorem dX11_findBest_8 : decode cX11_findBest 8 = .ok (.getfield 58, 3) := by decide +kernel
theorem dX11_findBest_11 : decode cX11_findBest 11 = .ok (.iload_n 2, 1) := by decide +kernel
theorem dX11_findBest_12 : decode cX11_findBest 12 = .ok (.aload_n 0, 1) := by decide +kernel
theorem dX11_findBest_13 : decode cX11_findBest 13 = .ok (.iload_n 1, 1) := by decide +kernel
theorem dX11_findBest_14 : decode cX11_findBest 14 = .ok (.iload_n 2, 1) := by decide +kernel
theorem dX11_findBest_15 : decode cX11_findBest 15 = .ok (.invokevirtual 186, 3) := by decide +kernel
theorem dX11_findBest_18 : decode cX11_findBest 18 = .ok (.iastore, 1) := by decide +kernel
theorem dX11_findBest_19 : decode cX11_findBest 19 = .ok (.iinc 2 1, 3) := by decide +kernel
theorem dX11_findBest_22 : decode cX11_findBest 22 = .ok (.goto (-20), 3) := by decide +kernel
theorem dX11_findBest_25 : decode cX11_findBest 25 = .ok (.aload_n 0, 1) := by decide +kernel
theorem dX11_findBest_26 : decode cX11_findBest 26 = .ok (.getfield 7, 3) := by decide +kernel
theorem dX11_findBest_29 : decode cX11_findBest 29 = .ok (.iconst 0, 1) := by decide +kernel
theorem dX11_findBest_30 : decode cX11_findBest 30 = .ok (.iload_n 1, 1) := by decide +kernel
theorem dX11_findBest_31 : decode cX11_findBest 31 = .ok (.iadd, 1) := by decide +kernel
theorem dX11_findBest_32 : decode cX11_findBest 32 = .ok (.iaload, 1) := by decide +kernel
theorem dX11_findBest_33 : decode cX11_findBest 33 = .ok (.istore_n 2, 1) := by decide +kernel
theorem dX11_findBest_34 : decode cX11_findBest 34 = .ok (.iconst (-1), 1) := by decide +kernel
theorem dX11_findBest_35 : decode cX11_findBest 35 = .ok (.istore_n 3, 1) := by decide +kernel
theorem dX11_findBest_36 : decode cX11_findBest 36 = .ok (.iconst 0, 1) := by decide +kernel
theorem dX11_findBest_37 : decode cX11_findBest 37 = .ok (.istore 4, 2) := by decide +kernel
theorem dX11_findBest_39 : decode cX11_findBest 39 = .ok (.iload 4, 2) := by decide +kernel
theorem dX11_findBest_41 : decode cX11_findBest 41 = .ok (.aload_n 0, 1) := by decide +kernel
theorem dX11_findBest_42 : decode cX11_findBest 42 = .ok (.invokevirtual 84, 3) := by decide +kernel
theorem dX11_findBest_45 : decode cX11_findBest 45 = .ok (.ifCond .le 7, 3) := by decide +kernel
theorem dX11_findBest_48 : decode cX11_findBest 48 = .ok (.iload_n 2, 1) := by decide +kernel
theorem dX11_findBest_49 : decode cX11_findBest 49 = .ok (.goto 4, 3) := by decide +kernel
theorem dX11_findBest_52 : decode cX11_findBest 52 = .ok (.iconst 0, 1) := by decide +kernel
theorem dX11_findBest_53 : decode cX11_findBest 53 = .ok (.if_icmp .gt 127, 3) := by decide +kernel
theorem dX11_findBest_56 : decode cX11_findBest 56 = .ok (.iconst 0, 1) := by decide +kernel
theorem dX11_findBest_57 : decode cX11_findBest 57 = .ok (.istore 5, 2) := by decide +kernel
theorem dX11_findBest_59 : decode cX11_findBest 59 = .ok (.iload 5, 2) := by decide +kernel
theorem dX11_findBest_61 : decode cX11_findBest 61 = .ok (.aload_n 0, 1) := by decide +kernel
theorem dX11_findBest_62 : decode cX11_findBest 62 = .ok (.invokevirtual 84, 3) := by decide +kernel
theorem dX11_findBest_65 : decode cX11_findBest 65 = .ok (.iconst 1, 1) := by decide +kernel
theorem dX11_findBest_66 : decode cX11_findBest 66 = .ok (.if_icmp .le 10, 3) := by decide +kernel
theorem dX11_findBest_69 : decode cX11_findBest 69 = .ok (.iload_n 2, 1) := by decide +kernel
theorem dX11_findBest_70 : decode cX11_findBest 70 = .ok (.iload 4, 2) := by decide +kernel
theorem dX11_findBest_72 : decode cX11_findBest 72 = .ok (.isub, 1) := by decide +kernel
theorem dX11_findBest_73 : decode cX11_findBest 73 = .ok (.goto 4, 3) := by decide +kernel
theorem dX11_findBest_76 : decode cX11_findBest 76 = .ok (.iconst 0, 1) := by decide +kernel
theorem dX11_findBest_77 : decode cX11_findBest 77 = .ok (.if_icmp .gt 97, 3) := by decide +kernel
theorem dX11_findBest_80 : decode cX11_findBest 80 = .ok (.iconst 0, 1) := by decide +kernel
theorem dX11_findBest_81 : decode cX11_findBest 81 = .ok (.istore 6, 2) := by decide +kernel
theorem dX11_findBest_83 : decode cX11_findBest 83 = .ok (.iload 6, 2) := by decide +kernel
theorem dX11_findBest_85 : decode cX11_findBest 85 = .ok (.aload_n 0, 1) := by decide +kernel
theorem dX11_findBest_86 : decode cX11_findBest 86 = .ok (.invokevirtual 84, 3) := by decide +kernel
theorem dX11_findBest_89 : decode cX11_findBest 89 = .ok (.iconst 2, 1) := by decide +kernel
theorem dX11_findBest_90 : decode cX11_findBest 90 = .ok (.if_icmp .le 13, 3) := by decide +kernel
theorem dX11_findBest_93 : decode cX11_findBest 93 = .ok (.iload_n 2, 1) := by decide +kernel
theorem dX11_findBest_94 : decode cX11_findBest 94 = .ok (.iload 4, 2) := by decide +kernel
theorem dX11_findBest_96 : decode cX11_findBest 96 = .ok (.isub, 1) := by decide +kernel
theorem dX11_findBest_97 : decode cX11_findBest 97 = .ok (.iload 5, 2) := by decide +kernel
theorem dX11_findBest_99 : decode cX11_findBest 99 = .ok (.isub, 1) := by decide +kernel
theorem dX11_findBest_100 : decode cX11_findBest 100 = .ok (.goto 4, 3) := by decide +kernel
theorem dX11_findBest_103 : decode cX11_findBest 103 = .ok (.iconst 0, 1) := by decide +kernel
theorem dX11_findBest_104 : decode cX11_findBest 104 = .ok (.if_icmp .gt 64, 3) := by decide +kernel
theorem dX11_findBest_107 : decode cX11_findBest 107 = .ok (.aload_n 0, 1) := by decide +kernel
theorem dX11_findBest_108 : decode cX11_findBest 108 = .ok (.iload_n 1, 1) := by decide +kernel
theorem dX11_findBest_109 : decode cX11_findBest 109 = .ok (.iload 4, 2) := by decide +kernel
theorem dX11_findBest_111 : decode cX11_findBest 111 = .ok (.iload 5, 2) := by decide +kernel
theorem dX11_findBest_113 : decode cX11_findBest 113 = .ok (.iload 6, 2) := by decide +kernel
theorem dX11_findBest_115 : decode cX11_findBest 115 = .ok (.invokevirtual 220, 3) := by decide +kernel
theorem dX11_findBest_118 : decode cX11_findBest 118 = .ok (.aload_n 0, 1) := by decide +kernel
theorem dX11_findBest_119 : decode cX11_findBest 119 = .ok (.invokevirtual 211, 3) := by decide +kernel
theorem dX11_findBest_122 : decode cX11_findBest 122 = .ok (.aload_n 0, 1) := by decide +kernel
theorem dX11_findBest_123 : decode cX11_findBest 123 = .ok (.iload_n 1, 1) := by decide +kernel
theorem dX11_findBest_124 : decode cX11_findBest 124 = .ok (.invokevirtual 214, 3) := by decide +kernel
theorem dX11_findBest_127 : decode cX11_findBest 127 = .ok (.istore 7, 2) := by decide +kernel
theorem dX11_findBest_129 : decode cX11_findBest 129 = .ok (.iload 7, 2) := by decide +kernel
theorem dX11_findBest_131 : decode cX11_findBest 131 = .ok (.iload_n 3, 1) := by decide +kernel
theorem dX11_findBest_132 : decode cX11_findBest 132 = .ok (.if_icmp .le 30, 3) := by decide +kernel
theorem dX11_findBest_135 : decode cX11_findBest 135 = .ok (.iload 7, 2) := by decide +kernel
theorem dX11_findBest_137 : decode cX11_findBest 137 = .ok (.istore_n 3, 1) := by decide +kernel
theorem dX11_findBest_138 : decode cX11_findBest 138 = .ok (.aload_n 0, 1) := by decide +kernel
theorem dX11_findBest_139 : decode cX11_findBest 139 = .ok (.getfield 55, 3) := by decide +kernel
theorem dX11_findBest_142 : decode cX11_findBest 142 = .ok (.iconst 0, 1) := by decide +kernel
theorem dX11_findBest_143 : decode cX11_findBest 143 = .ok (.iload 4, 2) := by decide +kernel
theorem dX11_findBest_145 : decode cX11_findBest 145 = .ok (.iastore, 1) := by decide +kernel
theorem dX11_findBest_146 : decode cX11_findBest 146 = .ok (.aload_n 0, 1) := by decide +kernel
theorem dX11_findBest_147 : decode cX11_findBest 147 = .ok (.getfield 55, 3) := by decide +kernel
theorem dX11_findBest_150 : decode cX11_findBest 150 = .ok (.iconst 1, 1) := by decide +kernel
theorem dX11_findBest_151 : decode cX11_findBest 151 = .ok (.iload 5, 2) := by decide +kernel
theorem dX11_findBest_153 : decode cX11_findBest 153 = .ok (.iastore, 1) := by decide +kernel
theorem dX11_findBest_154 : decode cX11_findBest 154 = .ok (.aload_n 0, 1) := by decide +kernel
theorem dX11_findBest_155 : decode cX11_findBest 155 = .ok (.getfield 55, 3) := by decide +kernel
theorem dX11_findBest_158 : decode cX11_findBest 158 = .ok (.iconst 2, 1) := by decide +kernel
theorem dX11_findBest_159 : decode cX11_findBest 159 = .ok (.iload 6, 2) := by decide +kernel
theorem dX11_findBest_161 : decode cX11_findBest 161 = .ok (.iastore, 1) := by decide +kernel
theorem dX11_findBest_162 : decode cX11_findBest 162 = .ok (.iinc 6 1, 3) := by decide +kernel
theorem dX11_findBest_165 : decode cX11_findBest 165 = .ok (.goto (-82), 3) := by decide +kernel
theorem dX11_findBest_168 : decode cX11_findBest 168 = .ok (.iinc 5 1, 3) := by decide +kernel
theorem dX11_findBest_171 : decode cX11_findBest 171 = .ok (.goto (-112), 3) := by decide +kernel
theorem dX11_findBest_174 : decode cX11_findBest 174 = .ok (.iinc 4 1, 3) := by decide +kernel
theorem dX11_findBest_177 : decode cX11_findBest 177 = .ok (.goto (-138), 3) := by decide +kernel
theorem dX11_findBest_180 : decode cX11_findBest 180 = .ok (.aload_n 0, 1) := by decide +kernel
theorem dX11_findBest_181 : decode cX11_findBest 181 = .ok (.iload_n 1, 1) := by decide +kernel
theorem dX11_findBest_182 : decode cX11_findBest 182 = .ok (.aload_n 0, 1) := by decide +kernel
theorem dX11_findBest_183 : decode cX11_findBest 183 = .ok (.getfield 58, 3) := by decide +kernel
theorem dX11_findBest_186 : decode cX11_findBest 186 = .ok (.iconst 0, 1) := by decide +kernel
theorem dX11_findBest_187 : decode cX11_findBest 187 = .ok (.iaload, 1) := by decide +kernel
theorem dX11_findBest_188 : decode cX11_findBest 188 = .ok (.aload_n 0, 1) := by decide +kernel
theorem dX11_findBest_189 : decode cX11_findBest 189 = .ok (.getfield 58, 3) := by decide +kernel
theorem dX11_findBest_192 : decode cX11_findBest 192 = .ok (.iconst 1, 1) := by decide +kernel
theorem dX11_findBest_193 : decode cX11_findBest 193 = .ok (.iaload, 1) := by decide +kernel
theorem dX11_findBest_194 : decode cX11_findBest 194 = .ok (.aload_n 0, 1) := by decide +kernel
theorem dX11_findBest_195 : decode cX11_findBest 195 = .ok (.getfield 58, 3) := by decide +kernel
theorem dX11_findBest_198 : decode cX11_findBest 198 = .ok (.iconst 2, 1) := by decide +kernel
theorem dX11_findBest_199 : decode cX11_findBest 199 = .ok (.iaload, 1) := by decide +kernel
theorem dX11_findBest_200 : decode cX11_findBest 200 = .ok (.invokevirtual 220, 3) := by decide +kernel
theorem dX11_findBest_203 : decode cX11_findBest 203 = .ok (.iload_n 3, 1) := by decide +kernel
theorem dX11_findBest_204 : decode cX11_findBest 204 = .ok (.ireturn, 1) := by decide +kernel
theorem dX11_best_0 : decode cX11_best 0 = .ok (.aload_n 0, 1) := by decide +kernel
theorem dX11_best_1 : decode cX11_best 1 = .ok (.iload_n 1, 1) := by decide +kernel
theorem dX11_best_2 : decode cX11_best 2 = .ok (.invokevirtual 91, 3) := by decide +kernel
theorem dX11_best_5 : decode cX11_best 5 = .ok (.ifCond .eq 16, 3) := by decide +kernel
theorem dX11_best_8 : decode cX11_best 8 = .ok (.iload_n 2, 1) := by decide +kernel
theorem dX11_best_9 : decode cX11_best 9 = .ok (.iconst (-1), 1) := by decide +kernel
theorem dX11_best_10 : decode cX11_best 10 = .ok (.if_icmp .eq 14, 3) := by decide +kernel
theorem dX11_best_13 : decode cX11_best 13 = .ok (.aload_n 0, 1) := by decide +kernel
theorem dX11_best_14 : decode cX11_best 14 = .ok (.iload_n 2, 1) := by decide +kernel
theorem dX11_best_15 : decode cX11_best 15 = .ok (.invokevirtual 95, 3) := by decide +kernel
theorem dX11_best_18 : decode cX11_best 18 = .ok (.ifCond .ne 6, 3) := by decide +kernel
theorem dX11_best_21 : decode cX11_best 21 = .ok (.bipush (-10), 2) := by decide +kernel
theorem dX11_best_23 : decode cX11_best 23 = .ok (.ireturn, 1) := by decide +kernel
theorem dX11_best_24 : decode cX11_best 24 = .ok (.aload_n 0, 1) := by decide +kernel
theorem dX11_best_25 : decode cX11_best 25 = .ok (.iload_n 1, 1) := by decide +kernel
theorem dX11_best_26 : decode cX11_best 26 = .ok (.invokevirtual 224, 3) := by decide +kernel
theorem dX11_best_29 : decode cX11_best 29 = .ok (.istore_n 3, 1) := by decide +kernel
theorem dX11_best_30 : decode cX11_best 30 = .ok (.iload_n 2, 1) := by decide +kernel
theorem dX11_best_31 : decode cX11_best 31 = .ok (.iconst (-1), 1) := by decide +kernel
theorem dX11_best_32 : decode cX11_best 32 = .ok (.if_icmp .ne 7, 3) := by decide +kernel
theorem dX11_best_35 : decode cX11_best 35 = .ok (.iload_n 3, 1) := by decide +kernel
theorem dX11_best_36 : decode cX11_best 36 = .ok (.goto 9, 3) := by decide +kernel
theorem dX11_best_39 : decode cX11_best 39 = .ok (.aload_n 0, 1) := by decide +kernel
theorem dX11_best_40 : decode cX11_best 40 = .ok (.getfield 55, 3) := by decide +kernel
theorem dX11_best_43 : decode cX11_best 43 = .ok (.iload_n 2, 1) := by decide +kernel
theorem dX11_best_44 : decode cX11_best 44 = .ok (.iaload, 1) := by decide +kernel
theorem dX11_best_45 : decode cX11_best 45 = .ok (.ireturn, 1) := by decide +kernel
theorem dX11_rest_0 : decode cX11_rest 0 = .ok (.iload_n 1, 1) := by decide +kernel
theorem dX11_rest_1 : decode cX11_rest 1 = .ok (.i2l, 1) := by decide +kernel
theorem dX11_rest_2 : decode cX11_rest 2 = .ok (.lconst 0, 1) := by decide +kernel
theorem dX11_rest_3 : decode cX11_rest 3 = .ok (.lconst 1, 1) := by decide +kernel
theorem dX11_rest_4 : decode cX11_rest 4 = .ok (.invokestatic 80, 3) := by decide +kernel
theorem dX11_rest_7 : decode cX11_rest 7 = .ok (.ifCond .ne 6, 3) := by decide +kernel
theorem dX11_rest_10 : decode cX11_rest 10 = .ok (.bipush (-10), 2) := by decide +kernel
theorem dX11_rest_12 : decode cX11_rest 12 = .ok (.ireturn, 1) := by decide +kernel
theorem dX11_rest_13 : decode cX11_rest 13 = .ok (.iconst 0, 1) := by decide +kernel
theorem dX11_rest_14 : decode cX11_rest 14 = .ok (.istore_n 2, 1) := by decide +kernel
theorem dX11_rest_15 : decode cX11_rest 15 = .ok (.iload_n 2, 1) := by decide +kernel
theorem dX11_rest_16 : decode cX11_rest 16 = .ok (.aload_n 0, 1) := by decide +kernel
theorem dX11_rest_17 : decode cX11_rest 17 = .ok (.invokevirtual 76, 3) := by decide +kernel
theorem dX11_rest_20 : decode cX11_rest 20 = .ok (.if_icmp .ge 41, 3) := by decide +kernel
theorem dX11_rest_23 : decode cX11_rest 23 = .ok (.aload_n 0, 1) := by decide +kernel
theorem dX11_rest_24 : decode cX11_rest 24 = .ok (.iload_n 2, 1) := by decide +kernel
theorem dX11_rest_25 : decode cX11_rest 25 = .ok (.invokevirtual 224, 3) := by decide +kernel
theorem dX11_rest_28 : decode cX11_rest 28 = .ok (.istore_n 3, 1) := by decide +kernel
theorem dX11_rest_29 : decode cX11_rest 29 = .ok (.aload_n 0, 1) := by decide +kernel
theorem dX11_rest_30 : decode cX11_rest 30 = .ok (.invokevirtual 211, 3) := by decide +kernel
theorem dX11_rest_33 : decode cX11_rest 33 = .ok (.iload_n 3, 1) := by decide +kernel
theorem dX11_rest_34 : decode cX11_rest 34 = .ok (.aload_n 0, 1) := by decide +kernel
theorem dX11_rest_35 : decode cX11_rest 35 = .ok (.iload_n 2, 1) := by decide +kernel
theorem dX11_rest_36 : decode cX11_rest 36 = .ok (.invokevirtual 214, 3) := by decide +kernel
theorem dX11_rest_39 : decode cX11_rest 39 = .ok (.isub, 1) := by decide +kernel
theorem dX11_rest_40 : decode cX11_rest 40 = .ok (.istore_n 3, 1) := by decide +kernel
theorem dX11_rest_41 : decode cX11_rest 41 = .ok (.iload_n 3, 1) := by decide +kernel
theorem dX11_rest_42 : decode cX11_rest 42 = .ok (.ifCond .le 13, 3) := by decide +kernel
theorem dX11_rest_45 : decode cX11_rest 45 = .ok (.iload_n 1, 1) := by decide +kernel
theorem dX11_rest_46 : decode cX11_rest 46 = .ok (.ifCond .ne 7, 3) := by decide +kernel
theorem dX11_rest_49 : decode cX11_rest 49 = .ok (.iload_n 2, 1) := by decide +kernel
theorem dX11_rest_50 : decode cX11_rest 50 = .ok (.goto 4, 3) := by decide +kernel
theorem dX11_rest_53 : decode cX11_rest 53 = .ok (.iload_n 3, 1) := by decide +kernel
theorem dX11_rest_54 : decode cX11_rest 54 = .ok (.ireturn, 1) := by decide +kernel
theorem dX11_rest_55 : decode cX11_rest 55 = .ok (.iinc 2 1, 3) := by decide +kernel
theorem dX11_rest_58 : decode cX11_rest 58 = .ok (.goto (-43), 3) := by decide +kernel
theorem dX11_rest_61 : decode cX11_rest 61 = .ok (.iconst (-1), 1) := by decide +kernel
theorem dX11_rest_62 : decode cX11_rest 62 = .ok (.ireturn, 1) := by decide +kernel
theorem dX11_isAgain_0 : decode cX11_isAgain 0 = .ok (.iconst 0, 1) := by decide +kernel
theorem dX11_isAgain_1 : decode cX11_isAgain 1 = .ok (.istore_n 2, 1) := by decide +kernel
theorem dX11_isAgain_2 : decode cX11_isAgain 2 = .ok (.iload_n 2, 1) := by decide +kernel
theorem dX11_isAgain_3 : decode cX11_isAgain 3 = .ok (.iload_n 1, 1) := by decide +kernel
theorem dX11_isAgain_4 : decode cX11_isAgain 4 = .ok (.if_icmp .ge 68, 3) := by decide +kernel
theorem dX11_isAgain_7 : decode cX11_isAgain 7 = .ok (.iconst 1, 1) := by decide +kernel
theorem dX11_isAgain_8 : decode cX11_isAgain 8 = .ok (.istore_n 3, 1) := by decide +kernel
theorem dX11_isAgain_9 : decode cX11_isAgain 9 = .ok (.iconst 0, 1) := by decide +kernel
theorem dX11_isAgain_10 : decode cX11_isAgain 10 = .ok (.istore 4, 2) := by decide +kernel
theorem dX11_isAgain_12 : decode cX11_isAgain 12 = .ok (.iload 4, 2) := by decide +kernel
theorem dX11_isAgain_14 : decode cX11_isAgain 14 = .ok (.bipush 15, 2) := by decide +kernel
theorem dX11_isAgain_16 : decode cX11_isAgain 16 = .ok (.if_icmp .ge 44, 3) := by decide +kernel
theorem dX11_isAgain_19 : decode cX11_isAgain 19 = .ok (.iload_n 3, 1) := by decide +kernel
theorem dX11_isAgain_20 : decode cX11_isAgain 20 = .ok (.ifCond .eq 32, 3) := by decide +kernel
theorem dX11_isAgain_23 : decode cX11_isAgain 23 = .ok (.aload_n 0, 1) := by decide +kernel
theorem dX11_isAgain_24 : decode cX11_isAgain 24 = .ok (.getfield 61, 3) := by decide +kernel
theorem dX11_isAgain_27 : decode cX11_isAgain 27 = .ok (.bipush 15, 2) := by decide +kernel
theorem dX11_isAgain_29 : decode cX11_isAgain 29 = .ok (.iload_n 2, 1) := by decide +kernel
theorem dX11_isAgain_30 : decode cX11_isAgain 30 = .ok (.imul, 1) := by decide +kernel
theorem dX11_isAgain_31 : decode cX11_isAgain 31 = .ok (.iload 4, 2) := by decide +kernel
theorem dX11_isAgain_33 : decode cX11_isAgain 33 = .ok (.iadd, 1) := by decide +kernel
theorem dX11_isAgain_34 : decode cX11_isAgain 34 = .ok (.iaload, 1) := by decide +kernel
theorem dX11_isAgain_35 : decode cX11_isAgain 35 = .ok (.aload_n 0, 1) := by decide +kernel
theorem dX11_isAgain_36 : decode cX11_isAgain 36 = .ok (.getfield 7, 3) := by decide +kernel
theorem dX11_isAgain_39 : decode cX11_isAgain 39 = .ok (.bipush 35, 2) := by decide +kernel
theorem dX11_isAgain_41 : decode cX11_isAgain 41 = .ok (.iload 4, 2) := by decide +kernel
theorem dX11_isAgain_43 : decode cX11_isAgain 43 = .ok (.iadd, 1) := by decide +kernel
theorem dX11_isAgain_44 : decode cX11_isAgain 44 = .ok (.iaload, 1) := by decide +kernel
theorem dX11_isAgain_45 : decode cX11_isAgain 45 = .ok (.if_icmp .ne 7, 3) := by decide +kernel
theorem dX11_isAgain_48 : decode cX11_isAgain 48 = .ok (.iconst 1, 1) := by decide +kernel
theorem dX11_isAgain_49 : decode cX11_isAgain 49 = .ok (.goto 4, 3) := by decide +kernel
theorem dX11_isAgain_52 : decode cX11_isAgain 52 = .ok (.iconst 0, 1) := by decide +kernel
theorem dX11_isAgain_53 : decode cX11_isAgain 53 = .ok (.istore_n 3, 1) := by decide +kernel
theorem dX11_isAgain_54 : decode cX11_isAgain 54 = .ok (.iinc 4 1, 3) := by decide +kernel
theorem dX11_isAgain_57 : decode cX11_isAgain 57 = .ok (.goto (-45), 3) := by decide +kernel
theorem dX11_isAgain_60 : decode cX11_isAgain 60 = .ok (.iload_n 3, 1) := by decide +kernel
theorem dX11_isAgain_61 : decode cX11_isAgain 61 = .ok (.ifCond .eq 5, 3) := by decide +kernel
theorem dX11_isAgain_64 : decode cX11_isAgain 64 = .ok (.iconst 1, 1) := by decide +kernel
theorem dX11_isAgain_65 : decode cX11_isAgain 65 = .ok (.ireturn, 1) := by decide +kernel
theorem dX11_isAgain_66 : decode cX11_isAgain 66 = .ok (.iinc 2 1, 3) := by decide +kernel
theorem dX11_isAgain_69 : decode cX11_isAgain 69 = .ok (.goto (-67), 3) := by decide +kernel
theorem dX11_isAgain_72 : decode cX11_isAgain 72 = .ok (.iconst 0, 1) := by decide +kernel
theorem dX11_isAgain_73 : decode cX11_isAgain 73 = .ok (.ireturn, 1) := by decide +kernel
theorem dX11_note_0 : decode cX11_note 0 = .ok (.iconst 0, 1) := by decide +kernel
theorem dX11_note_1 : decode cX11_note 1 = .ok (.istore_n 2, 1) := by decide +kernel
theorem dX11_note_2 : decode cX11_note 2 = .ok (.iload_n 2, 1) := by decide +kernel
theorem dX11_note_3 : decode cX11_note 3 = .ok (.bipush 15, 2) := by decide +kernel
theorem dX11_note_5 : decode cX11_note 5 = .ok (.if_icmp .ge 29, 3) := by decide +kernel
theorem dX11_note_8 : decode cX11_note 8 = .ok (.aload_n 0, 1) := by decide +kernel
theorem dX11_note_9 : decode cX11_note 9 = .ok (.getfield 61, 3) := by decide +kernel
theorem dX11_note_12 : decode cX11_note 12 = .ok (.bipush 15, 2) := by decide +kernel
theorem dX11_note_14 : decode cX11_note 14 = .ok (.iload_n 1, 1) := by decide +kernel
theorem dX11_note_15 : decode cX11_note 15 = .ok (.imul, 1) := by decide +kernel
theorem dX11_note_16 : decode cX11_note 16 = .ok (.iload_n 2, 1) := by decide +kernel
theorem dX11_note_17 : decode cX11_note 17 = .ok (.iadd, 1) := by decide +kernel
theorem dX11_note_18 : decode cX11_note 18 = .ok (.aload_n 0, 1) := by decide +kernel
theorem dX11_note_19 : decode cX11_note 19 = .ok (.getfield 7, 3) := by decide +kernel
theorem dX11_note_22 : decode cX11_note 22 = .ok (.bipush 35, 2) := by decide +kernel
theorem dX11_note_24 : decode cX11_note 24 = .ok (.iload_n 2, 1) := by decide +kernel
theorem dX11_note_25 : decode cX11_note 25 = .ok (.iadd, 1) := by decide +kernel
theorem dX11_note_26 : decode cX11_note 26 = .ok (.iaload, 1) := by decide +kernel
theorem dX11_note_27 : decode cX11_note 27 = .ok (.iastore, 1) := by decide +kernel
theorem dX11_note_28 : decode cX11_note 28 = .ok (.iinc 2 1, 3) := by decide +kernel
theorem dX11_note_31 : decode cX11_note 31 = .ok (.goto (-29), 3) := by decide +kernel
theorem dX11_note_34 : decode cX11_note 34 = .ok (.return_, 1) := by decide +kernel
theorem dX11_goByTurns_0 : decode cX11_goByTurns 0 = .ok (.iconst 0, 1) := by decide +kernel
theorem dX11_goByTurns_1 : decode cX11_goByTurns 1 = .ok (.istore_n 1, 1) := by decide +kernel
theorem dX11_goByTurns_2 : decode cX11_goByTurns 2 = .ok (.aload_n 0, 1) := by decide +kernel
theorem dX11_goByTurns_3 : decode cX11_goByTurns 3 = .ok (.iconst 0, 1) := by decide +kernel
theorem dX11_goByTurns_4 : decode cX11_goByTurns 4 = .ok (.invokevirtual 227, 3) := by decide +kernel
theorem dX11_goByTurns_7 : decode cX11_goByTurns 7 = .ok (.iconst 1, 1) := by decide +kernel
theorem dX11_goByTurns_8 : decode cX11_goByTurns 8 = .ok (.istore_n 2, 1) := by decide +kernel
theorem dX11_goByTurns_9 : decode cX11_goByTurns 9 = .ok (.iload_n 2, 1) := by decide +kernel
theorem dX11_goByTurns_10 : decode cX11_goByTurns 10 = .ok (.bipush 40, 2) := by decide +kernel
theorem dX11_goByTurns_12 : decode cX11_goByTurns 12 = .ok (.if_icmp .gt 105, 3) := by decide +kernel
theorem dX11_goByTurns_15 : decode cX11_goByTurns 15 = .ok (.iconst 0, 1) := by decide +kernel
theorem dX11_goByTurns_16 : decode cX11_goByTurns 16 = .ok (.istore_n 3, 1) := by decide +kernel
theorem dX11_goByTurns_17 : decode cX11_goByTurns 17 = .ok (.iload_n 3, 1) := by decide +kernel
theorem dX11_goByTurns_18 : decode cX11_goByTurns 18 = .ok (.aload_n 0, 1) := by decide +kernel
theorem dX11_goByTurns_19 : decode cX11_goByTurns 19 = .ok (.invokevirtual 76, 3) := by decide +kernel
theorem dX11_goByTurns_22 : decode cX11_goByTurns 22 = .ok (.if_icmp .ge 68, 3) := by decide +kernel
theorem dX11_goByTurns_25 : decode cX11_goByTurns 25 = .ok (.aload_n 0, 1) := by decide +kernel
theorem dX11_goByTurns_26 : decode cX11_goByTurns 26 = .ok (.iload_n 3, 1) := by decide +kernel
theorem dX11_goByTurns_27 : decode cX11_goByTurns 27 = .ok (.invokevirtual 224, 3) := by decide +kernel
theorem dX11_goByTurns_30 : decode cX11_goByTurns 30 = .ok (.istore 4, 2) := by decide +kernel
theorem dX11_goByTurns_32 : decode cX11_goByTurns 32 = .ok (.aload_n 0, 1) := by decide +kernel
theorem dX11_goByTurns_33 : decode cX11_goByTurns 33 = .ok (.invokevirtual 211, 3) := by decide +kernel
theorem dX11_goByTurns_36 : decode cX11_goByTurns 36 = .ok (.iinc 1 1, 3) := by decide +kernel
theorem dX11_goByTurns_39 : decode cX11_goByTurns 39 = .ok (.iload 4, 2) := by decide +kernel
theorem dX11_goByTurns_41 : decode cX11_goByTurns 41 = .ok (.aload_n 0, 1) := by decide +kernel
theorem dX11_goByTurns_42 : decode cX11_goByTurns 42 = .ok (.iload_n 3, 1) := by decide +kernel
theorem dX11_goByTurns_43 : decode cX11_goByTurns 43 = .ok (.invokevirtual 214, 3) := by decide +kernel
theorem dX11_goByTurns_46 : decode cX11_goByTurns 46 = .ok (.if_icmp .le 28, 3) := by decide +kernel
theorem dX11_goByTurns_49 : decode cX11_goByTurns 49 = .ok (.aload_n 0, 1) := by decide +kernel
theorem dX11_goByTurns_50 : decode cX11_goByTurns 50 = .ok (.iload_n 3, 1) := by decide +kernel
theorem dX11_goByTurns_51 : decode cX11_goByTurns 51 = .ok (.aload_n 0, 1) := by decide +kernel
theorem dX11_goByTurns_52 : decode cX11_goByTurns 52 = .ok (.getfield 55, 3) := by decide +kernel
theorem dX11_goByTurns_55 : decode cX11_goByTurns 55 = .ok (.iconst 0, 1) := by decide +kernel
theorem dX11_goByTurns_56 : decode cX11_goByTurns 56 = .ok (.iaload, 1) := by decide +kernel
theorem dX11_goByTurns_57 : decode cX11_goByTurns 57 = .ok (.aload_n 0, 1) := by decide +kernel
theorem dX11_goByTurns_58 : decode cX11_goByTurns 58 = .ok (.getfield 55, 3) := by decide +kernel
theorem dX11_goByTurns_61 : decode cX11_goByTurns 61 = .ok (.iconst 1, 1) := by decide +kernel
theorem dX11_goByTurns_62 : decode cX11_goByTurns 62 = .ok (.iaload, 1) := by decide +kernel
theorem dX11_goByTurns_63 : decode cX11_goByTurns 63 = .ok (.aload_n 0, 1) := by decide +kernel
theorem dX11_goByTurns_64 : decode cX11_goByTurns 64 = .ok (.getfield 55, 3) := by decide +kernel
theorem dX11_goByTurns_67 : decode cX11_goByTurns 67 = .ok (.iconst 2, 1) := by decide +kernel
theorem dX11_goByTurns_68 : decode cX11_goByTurns 68 = .ok (.iaload, 1) := by decide +kernel
theorem dX11_goByTurns_69 : decode cX11_goByTurns 69 = .ok (.invokevirtual 220, 3) := by decide +kernel
theorem dX11_goByTurns_72 : decode cX11_goByTurns 72 = .ok (.iconst 0, 1) := by decide +kernel
theorem dX11_goByTurns_73 : decode cX11_goByTurns 73 = .ok (.istore_n 1, 1) := by decide +kernel
theorem dX11_goByTurns_74 : decode cX11_goByTurns 74 = .ok (.iload_n 1, 1) := by decide +kernel
theorem dX11_goByTurns_75 : decode cX11_goByTurns 75 = .ok (.aload_n 0, 1) := by decide +kernel
theorem dX11_goByTurns_76 : decode cX11_goByTurns 76 = .ok (.invokevirtual 76, 3) := by decide +kernel
theorem dX11_goByTurns_79 : decode cX11_goByTurns 79 = .ok (.if_icmp .ne 5, 3) := by decide +kernel
theorem dX11_goByTurns_82 : decode cX11_goByTurns 82 = .ok (.iconst 0, 1) := by decide +kernel
theorem dX11_goByTurns_83 : decode cX11_goByTurns 83 = .ok (.ireturn, 1) := by decide +kernel
theorem dX11_goByTurns_84 : decode cX11_goByTurns 84 = .ok (.iinc 3 1, 3) := by decide +kernel
theorem dX11_goByTurns_87 : decode cX11_goByTurns 87 = .ok (.goto (-70), 3) := by decide +kernel
theorem dX11_goByTurns_90 : decode cX11_goByTurns 90 = .ok (.aload_n 0, 1) := by decide +kernel
theorem dX11_goByTurns_91 : decode cX11_goByTurns 91 = .ok (.iload_n 2, 1) := by decide +kernel
theorem dX11_goByTurns_92 : decode cX11_goByTurns 92 = .ok (.invokevirtual 230, 3) := by decide +kernel
theorem dX11_goByTurns_95 : decode cX11_goByTurns 95 = .ok (.ifCond .eq 5, 3) := by decide +kernel
theorem dX11_goByTurns_98 : decode cX11_goByTurns 98 = .ok (.iconst 1, 1) := by decide +kernel
theorem dX11_goByTurns_99 : decode cX11_goByTurns 99 = .ok (.ireturn, 1) := by decide +kernel
theorem dX11_goByTurns_100 : decode cX11_goByTurns 100 = .ok (.iload_n 2, 1) := by decide +kernel
theorem dX11_goByTurns_101 : decode cX11_goByTurns 101 = .ok (.bipush 40, 2) := by decide +kernel
theorem dX11_goByTurns_103 : decode cX11_goByTurns 103 = .ok (.if_icmp .ge 8, 3) := by decide +kernel
theorem dX11_goByTurns_106 : decode cX11_goByTurns 106 = .ok (.aload_n 0, 1) := by decide +kernel
theorem dX11_goByTurns_107 : decode cX11_goByTurns 107 = .ok (.iload_n 2, 1) := by decide +kernel
theorem dX11_goByTurns_108 : decode cX11_goByTurns 108 = .ok (.invokevirtual 227, 3) := by decide +kernel
theorem dX11_goByTurns_111 : decode cX11_goByTurns 111 = .ok (.iinc 2 1, 3) := by decide +kernel
theorem dX11_goByTurns_114 : decode cX11_goByTurns 114 = .ok (.goto (-105), 3) := by decide +kernel
theorem dX11_goByTurns_117 : decode cX11_goByTurns 117 = .ok (.iconst 2, 1) := by decide +kernel
theorem dX11_goByTurns_118 : decode cX11_goByTurns 118 = .ok (.ireturn, 1) := by decide +kernel
theorem dX11_turns_0 : decode cX11_turns 0 = .ok (.aload_n 0, 1) := by decide +kernel
theorem dX11_turns_1 : decode cX11_turns 1 = .ok (.invokevirtual 76, 3) := by decide +kernel
theorem dX11_turns_4 : decode cX11_turns 4 = .ok (.ifCond .ne 8, 3) := by decide +kernel
theorem dX11_turns_7 : decode cX11_turns 7 = .ok (.bipush (-5), 2) := by decide +kernel
theorem dX11_turns_9 : decode cX11_turns 9 = .ok (.goto 7, 3) := by decide +kernel
theorem dX11_turns_12 : decode cX11_turns 12 = .ok (.aload_n 0, 1) := by decide +kernel
theorem dX11_turns_13 : decode cX11_turns 13 = .ok (.invokevirtual 233, 3) := by decide +kernel
theorem dX11_turns_16 : decode cX11_turns 16 = .ok (.ireturn, 1) := by decide +kernel
theorem dX11_allCoin_0 : decode cX11_allCoin 0 = .ok (.iconst 0, 1) := by decide +kernel
theorem dX11_allCoin_1 : decode cX11_allCoin 1 = .ok (.istore_n 1, 1) := by decide +kernel
theorem dX11_allCoin_2 : decode cX11_allCoin 2 = .ok (.iconst 0, 1) := by decide +kernel
theorem dX11_allCoin_3 : decode cX11_allCoin 3 = .ok (.istore_n 2, 1) := by decide +kernel
theorem dX11_allCoin_4 : decode cX11_allCoin 4 = .ok (.iload_n 2, 1) := by decide +kernel
theorem dX11_allCoin_5 : decode cX11_allCoin 5 = .ok (.aload_n 0, 1) := by decide +kernel
theorem dX11_allCoin_6 : decode cX11_allCoin 6 = .ok (.invokevirtual 76, 3) := by decide +kernel
theorem dX11_allCoin_9 : decode cX11_allCoin 9 = .ok (.if_icmp .ge 20, 3) := by decide +kernel
theorem dX11_allCoin_12 : decode cX11_allCoin 12 = .ok (.iload_n 1, 1) := by decide +kernel
theorem dX11_allCoin_13 : decode cX11_allCoin 13 = .ok (.aload_n 0, 1) := by decide +kernel
theorem dX11_allCoin_14 : decode cX11_allCoin 14 = .ok (.getfield 7, 3) := by decide +kernel
theorem dX11_allCoin_17 : decode cX11_allCoin 17 = .ok (.iconst 0, 1) := by decide +kernel
theorem dX11_allCoin_18 : decode cX11_allCoin 18 = .ok (.iload_n 2, 1) := by decide +kernel
theorem dX11_allCoin_19 : decode cX11_allCoin 19 = .ok (.iadd, 1) := by decide +kernel
theorem dX11_allCoin_20 : decode cX11_allCoin 20 = .ok (.iaload, 1) := by decide +kernel
theorem dX11_allCoin_21 : decode cX11_allCoin 21 = .ok (.iadd, 1) := by decide +kernel
theorem dX11_allCoin_22 : decode cX11_allCoin 22 = .ok (.istore_n 1, 1) := by decide +kernel
theorem dX11_allCoin_23 : decode cX11_allCoin 23 = .ok (.iinc 2 1, 3) := by decide +kernel
theorem dX11_allCoin_26 : decode cX11_allCoin 26 = .ok (.goto (-22), 3) := by decide +kernel
theorem dX11_allCoin_29 : decode cX11_allCoin 29 = .ok (.iload_n 1, 1) := by decide +kernel
theorem dX11_allCoin_30 : decode cX11_allCoin 30 = .ok (.ireturn, 1) := by decide +kernel
theorem dX11_findGood_0 : decode cX11_findGood 0 = .ok (.iconst 0, 1) := by decide +kernel
theorem dX11_findGood_1 : decode cX11_findGood 1 = .ok (.istore_n 1, 1) := by decide +kernel
theorem dX11_findGood_2 : decode cX11_findGood 2 = .ok (.iload_n 1, 1) := by decide +kernel
theorem dX11_findGood_3 : decode cX11_findGood 3 = .ok (.iconst 3, 1) := by decide +kernel
theorem dX11_findGood_4 : decode cX11_findGood 4 = .ok (.if_icmp .ge 74, 3) := by decide +kernel
theorem dX11_findGood_7 : decode cX11_findGood 7 = .ok (.iconst 0, 1) := by decide +kernel
theorem dX11_findGood_8 : decode cX11_findGood 8 = .ok (.istore_n 2, 1) := by decide +kernel
theorem dX11_findGood_9 : decode cX11_findGood 9 = .ok (.iload_n 2, 1) := by decide +kernel
theorem dX11_findGood_10 : decode cX11_findGood 10 = .ok (.bipush 60, 2) := by decide +kernel
theorem dX11_findGood_12 : decode cX11_findGood 12 = .ok (.if_icmp .gt 60, 3) := by decide +kernel
theorem dX11_findGood_15 : decode cX11_findGood 15 = .ok (.iconst 0, 1) := by decide +kernel
theorem dX11_findGood_16 : decode cX11_findGood 16 = .ok (.istore_n 3, 1) := by decide +kernel
theorem dX11_findGood_17 : decode cX11_findGood 17 = .ok (.iconst 0, 1) := by decide +kernel
theorem dX11_findGood_18 : decode cX11_findGood 18 = .ok (.istore 4, 2) := by decide +kernel
theorem dX11_findGood_20 : decode cX11_findGood 20 = .ok (.iload 4, 2) := by decide +kernel
theorem dX11_findGood_22 : decode cX11_findGood 22 = .ok (.aload_n 0, 1) := by decide +kernel
theorem dX11_findGood_23 : decode cX11_findGood 23 = .ok (.invokevirtual 76, 3) := by decide +kernel
theorem dX11_findGood_26 : decode cX11_findGood 26 = .ok (.if_icmp .ge 28, 3) := by decide +kernel
theorem dX11_findGood_29 : decode cX11_findGood 29 = .ok (.iload_n 1, 1) := by decide +kernel
theorem dX11_findGood_30 : decode cX11_findGood 30 = .ok (.aload_n 0, 1) := by decide +kernel
theorem dX11_findGood_31 : decode cX11_findGood 31 = .ok (.invokevirtual 84, 3) := by decide +kernel
theorem dX11_findGood_34 : decode cX11_findGood 34 = .ok (.if_icmp .ge 20, 3) := by decide +kernel
theorem dX11_findGood_37 : decode cX11_findGood 37 = .ok (.iload_n 3, 1) := by decide +kernel
theorem dX11_findGood_38 : decode cX11_findGood 38 = .ok (.aload_n 0, 1) := by decide +kernel
theorem dX11_findGood_39 : decode cX11_findGood 39 = .ok (.iload 4, 2) := by decide +kernel
theorem dX11_findGood_41 : decode cX11_findGood 41 = .ok (.iload_n 1, 1) := by decide +kernel
theorem dX11_findGood_42 : decode cX11_findGood 42 = .ok (.iload_n 2, 1) := by decide +kernel
theorem dX11_findGood_43 : decode cX11_findGood 43 = .ok (.invokevirtual 207, 3) := by decide +kernel
theorem dX11_findGood_46 : decode cX11_findGood 46 = .ok (.iadd, 1) := by decide +kernel
theorem dX11_findGood_47 : decode cX11_findGood 47 = .ok (.istore_n 3, 1) := by decide +kernel
theorem dX11_findGood_48 : decode cX11_findGood 48 = .ok (.iinc 4 1, 3) := by decide +kernel
theorem dX11_findGood_51 : decode cX11_findGood 51 = .ok (.goto (-31), 3) := by decide +kernel
theorem dX11_findGood_54 : decode cX11_findGood 54 = .ok (.aload_n 0, 1) := by decide +kernel
theorem dX11_findGood_55 : decode cX11_findGood 55 = .ok (.getfield 64, 3) := by decide +kernel
theorem dX11_findGood_58 : decode cX11_findGood 58 = .ok (.bipush 61, 2) := by decide +kernel
theorem dX11_findGood_60 : decode cX11_findGood 60 = .ok (.iload_n 1, 1) := by decide +kernel
theorem dX11_findGood_61 : decode cX11_findGood 61 = .ok (.imul, 1) := by decide +kernel
theorem dX11_findGood_62 : decode cX11_findGood 62 = .ok (.iload_n 2, 1) := by decide +kernel
theorem dX11_findGood_63 : decode cX11_findGood 63 = .ok (.iadd, 1) := by decide +kernel
theorem dX11_findGood_64 : decode cX11_findGood 64 = .ok (.iload_n 3, 1) := by decide +kernel
theorem dX11_findGood_65 : decode cX11_findGood 65 = .ok (.iastore, 1) := by decide +kernel
theorem dX11_findGood_66 : decode cX11_findGood 66 = .ok (.iinc 2 1, 3) := by decide +kernel
theorem dX11_findGood_69 : decode cX11_findGood 69 = .ok (.goto (-60), 3) := by decide +kernel
theorem dX11_findGood_72 : decode cX11_findGood 72 = .ok (.iinc 1 1, 3) := by decide +kernel
theorem dX11_findGood_75 : decode cX11_findGood 75 = .ok (.goto (-73), 3) := by decide +kernel
theorem dX11_findGood_78 : decode cX11_findGood 78 = .ok (.aload_n 0, 1) := by decide +kernel
theorem dX11_findGood_79 : decode cX11_findGood 79 = .ok (.invokevirtual 236, 3) := by decide +kernel
theorem dX11_findGood_82 : decode cX11_findGood 82 = .ok (.istore_n 1, 1) := by decide +kernel
theorem dX11_findGood_83 : decode cX11_findGood 83 = .ok (.iload_n 1, 1) := by decide +kernel
theorem dX11_findGood_84 : decode cX11_findGood 84 = .ok (.aload_n 0, 1) := by decide +kernel
theorem dX11_findGood_85 : decode cX11_findGood 85 = .ok (.getfield 7, 3) := by decide +kernel
theorem dX11_findGood_88 : decode cX11_findGood 88 = .ok (.bipush 55, 2) := by decide +kernel
theorem dX11_findGood_90 : decode cX11_findGood 90 = .ok (.iaload, 1) := by decide +kernel
theorem dX11_findGood_91 : decode cX11_findGood 91 = .ok (.iadd, 1) := by decide +kernel
theorem dX11_findGood_92 : decode cX11_findGood 92 = .ok (.istore_n 2, 1) := by decide +kernel
theorem dX11_findGood_93 : decode cX11_findGood 93 = .ok (.iconst (-1), 1) := by decide +kernel
theorem dX11_findGood_94 : decode cX11_findGood 94 = .ok (.istore_n 3, 1) := by decide +kernel
theorem dX11_findGood_95 : decode cX11_findGood 95 = .ok (.iconst 0, 1) := by decide +kernel
theorem dX11_findGood_96 : decode cX11_findGood 96 = .ok (.istore 4, 2) := by decide +kernel
theorem dX11_findGood_98 : decode cX11_findGood 98 = .ok (.iload 4, 2) := by decide +kernel
theorem dX11_findGood_100 : decode cX11_findGood 100 = .ok (.aload_n 0, 1) := by decide +kernel
theorem dX11_findGood_101 : decode cX11_findGood 101 = .ok (.invokevirtual 84, 3) := by decide +kernel
theorem dX11_findGood_104 : decode cX11_findGood 104 = .ok (.ifCond .le 8, 3) := by decide +kernel
theorem dX11_findGood_107 : decode cX11_findGood 107 = .ok (.bipush 60, 2) := by decide +kernel
theorem dX11_findGood_109 : decode cX11_findGood 109 = .ok (.goto 4, 3) := by decide +kernel
theorem dX11_findGood_112 : decode cX11_findGood 112 = .ok (.iconst 0, 1) := by decide +kernel
theorem dX11_findGood_113 : decode cX11_findGood 113 = .ok (.if_icmp .gt 189, 3) := by decide +kernel
theorem dX11_findGood_116 : decode cX11_findGood 116 = .ok (.iload 4, 2) := by decide +kernel
theorem dX11_findGood_118 : decode cX11_findGood 118 = .ok (.iload_n 2, 1) := by decide +kernel
theorem dX11_findGood_119 : decode cX11_findGood 119 = .ok (.if_icmp .gt 183, 3) := by decide +kernel
theorem dX11_findGood_122 : decode cX11_findGood 122 = .ok (.iconst 0, 1) := by decide +kernel
theorem dX11_findGood_123 : decode cX11_findGood 123 = .ok (.istore 5, 2) := by decide +kernel
theorem dX11_findGood_125 : decode cX11_findGood 125 = .ok (.iload 5, 2) := by decide +kernel
theorem dX11_findGood_127 : decode cX11_findGood 127 = .ok (.aload_n 0, 1) := by decide +kernel
theorem dX11_findGood_128 : decode cX11_findGood 128 = .ok (.invokevirtual 84, 3) := by decide +kernel
theorem dX11_findGood_131 : decode cX11_findGood 131 = .ok (.iconst 1, 1) := by decide +kernel
theorem dX11_findGood_132 : decode cX11_findGood 132 = .ok (.if_icmp .le 8, 3) := by decide +kernel
theorem dX11_findGood_135 : decode cX11_findGood 135 = .ok (.bipush 60, 2) := by decide +kernel
theorem dX11_findGood_137 : decode cX11_findGood 137 = .ok (.goto 4, 3) := by decide +kernel
theorem dX11_findGood_140 : decode cX11_findGood 140 = .ok (.iconst 0, 1) := by decide +kernel
theorem dX11_findGood_141 : decode cX11_findGood 141 = .ok (.if_icmp .gt 155, 3) := by decide +kernel
theorem dX11_findGood_144 : decode cX11_findGood 144 = .ok (.iload 4, 2) := by decide +kernel
theorem dX11_findGood_146 : decode cX11_findGood 146 = .ok (.iload 5, 2) := by decide +kernel
theorem dX11_findGood_148 : decode cX11_findGood 148 = .ok (.iadd, 1) := by decide +kernel
theorem dX11_findGood_149 : decode cX11_findGood 149 = .ok (.iload_n 2, 1) := by decide +kernel
theorem dX11_findGood_150 : decode cX11_findGood 150 = .ok (.if_icmp .gt 146, 3) := by decide +kernel
theorem dX11_findGood_153 : decode cX11_findGood 153 = .ok (.iconst 0, 1) := by decide +kernel
theorem dX11_findGood_154 : decode cX11_findGood 154 = .ok (.istore 6, 2) := by decide +kernel
theorem dX11_findGood_156 : decode cX11_findGood 156 = .ok (.iload 6, 2) := by decide +kernel
theorem dX11_findGood_158 : decode cX11_findGood 158 = .ok (.aload_n 0, 1) := by decide +kernel
theorem dX11_findGood_159 : decode cX11_findGood 159 = .ok (.invokevirtual 84, 3) := by decide +kernel
theorem dX11_findGood_162 : decode cX11_findGood 162 = .ok (.iconst 2, 1) := by decide +kernel
theorem dX11_findGood_163 : decode cX11_findGood 163 = .ok (.if_icmp .le 8, 3) := by decide +kernel
theorem dX11_findGood_166 : decode cX11_findGood 166 = .ok (.bipush 60, 2) := by decide +kernel
theorem dX11_findGood_168 : decode cX11_findGood 168 = .ok (.goto 4, 3) := by decide +kernel
theorem dX11_findGood_171 : decode cX11_findGood 171 = .ok (.iconst 0, 1) := by decide +kernel
theorem dX11_findGood_172 : decode cX11_findGood 172 = .ok (.if_icmp .gt 118, 3) := by decide +kernel
theorem dX11_findGood_175 : decode cX11_findGood 175 = .ok (.iload 4, 2) := by decide +kernel
theorem dX11_findGood_177 : decode cX11_findGood 177 = .ok (.iload 5, 2) := by decide +kernel
theorem dX11_findGood_179 : decode cX11_findGood 179 = .ok (.iadd, 1) := by decide +kernel
theorem dX11_findGood_180 : decode cX11_findGood 180 = .ok (.iload 6, 2) := by decide +kernel
theorem dX11_findGood_182 : decode cX11_findGood 182 = .ok (.iadd, 1) := by decide +kernel
theorem dX11_findGood_183 : decode cX11_findGood 183 = .ok (.iload_n 2, 1) := by decide +kernel
theorem dX11_findGood_184 : decode cX11_findGood 184 = .ok (.if_icmp .gt 106, 3) := by decide +kernel
theorem dX11_findGood_187 : decode cX11_findGood 187 = .ok (.iload_n 2, 1) := by decide +kernel
theorem dX11_findGood_188 : decode cX11_findGood 188 = .ok (.iload 4, 2) := by decide +kernel
theorem dX11_findGood_190 : decode cX11_findGood 190 = .ok (.isub, 1) := by decide +kernel
theorem dX11_findGood_191 : decode cX11_findGood 191 = .ok (.iload 5, 2) := by decide +kernel
theorem dX11_findGood_193 : decode cX11_findGood 193 = .ok (.isub, 1) := by decide +kernel
theorem dX11_findGood_194 : decode cX11_findGood 194 = .ok (.iload 6, 2) := by decide +kernel
theorem dX11_findGood_196 : decode cX11_findGood 196 = .ok (.isub, 1) := by decide +kernel
theorem dX11_findGood_197 : decode cX11_findGood 197 = .ok (.istore 7, 2) := by decide +kernel
theorem dX11_findGood_199 : decode cX11_findGood 199 = .ok (.aload_n 0, 1) := by decide +kernel
theorem dX11_findGood_200 : decode cX11_findGood 200 = .ok (.getfield 64, 3) := by decide +kernel
theorem dX11_findGood_203 : decode cX11_findGood 203 = .ok (.iload 4, 2) := by decide +kernel
theorem dX11_findGood_205 : decode cX11_findGood 205 = .ok (.iaload, 1) := by decide +kernel
theorem dX11_findGood_206 : decode cX11_findGood 206 = .ok (.aload_n 0, 1) := by decide +kernel
theorem dX11_findGood_207 : decode cX11_findGood 207 = .ok (.getfield 64, 3) := by decide +kernel
theorem dX11_findGood_210 : decode cX11_findGood 210 = .ok (.bipush 61, 2) := by decide +kernel
theorem dX11_findGood_212 : decode cX11_findGood 212 = .ok (.iload 5, 2) := by decide +kernel
theorem dX11_findGood_214 : decode cX11_findGood 214 = .ok (.iadd, 1) := by decide +kernel
theorem dX11_findGood_215 : decode cX11_findGood 215 = .ok (.iaload, 1) := by decide +kernel
theorem dX11_findGood_216 : decode cX11_findGood 216 = .ok (.iadd, 1) := by decide +kernel
theorem dX11_findGood_217 : decode cX11_findGood 217 = .ok (.aload_n 0, 1) := by decide +kernel
theorem dX11_findGood_218 : decode cX11_findGood 218 = .ok (.getfield 64, 3) := by decide +kernel
theorem dX11_findGood_221 : decode cX11_findGood 221 = .ok (.bipush 122, 2) := by decide +kernel
theorem dX11_findGood_223 : decode cX11_findGood 223 = .ok (.iload 6, 2) := by decide +kernel
theorem dX11_findGood_225 : decode cX11_findGood 225 = .ok (.iadd, 1) := by decide +kernel
theorem dX11_findGood_226 : decode cX11_findGood 226 = .ok (.iaload, 1) := by decide +kernel
theorem dX11_findGood_227 : decode cX11_findGood 227 = .ok (.iadd, 1) := by decide +kernel
theorem dX11_findGood_228 : decode cX11_findGood 228 = .ok (.aload_n 0, 1) := by decide +kernel
theorem dX11_findGood_229 : decode cX11_findGood 229 = .ok (.getfield 7, 3) := by decide +kernel
theorem dX11_findGood_232 : decode cX11_findGood 232 = .ok (.bipush 53, 2) := by decide +kernel
theorem dX11_findGood_234 : decode cX11_findGood 234 = .ok (.iaload, 1) := by decide +kernel
theorem dX11_findGood_235 : decode cX11_findGood 235 = .ok (.iload 7, 2) := by decide +kernel
theorem dX11_findGood_237 : decode cX11_findGood 237 = .ok (.iload_n 1, 1) := by decide +kernel
theorem dX11_findGood_238 : decode cX11_findGood 238 = .ok (.if_icmp .ge 8, 3) := by decide +kernel
theorem dX11_findGood_241 : decode cX11_findGood 241 = .ok (.iload 7, 2) := by decide +kernel
theorem dX11_findGood_243 : decode cX11_findGood 243 = .ok (.goto 4, 3) := by decide +kernel
theorem dX11_findGood_246 : decode cX11_findGood 246 = .ok (.iload_n 1, 1) := by decide +kernel
theorem dX11_findGood_247 : decode cX11_findGood 247 = .ok (.imul, 1) := by decide +kernel
theorem dX11_findGood_248 : decode cX11_findGood 248 = .ok (.iadd, 1) := by decide +kernel
theorem dX11_findGood_249 : decode cX11_findGood 249 = .ok (.istore 8, 2) := by decide +kernel
theorem dX11_findGood_251 : decode cX11_findGood 251 = .ok (.iload 8, 2) := by decide +kernel
theorem dX11_findGood_253 : decode cX11_findGood 253 = .ok (.iload_n 3, 1) := by decide +kernel
theorem dX11_findGood_254 : decode cX11_findGood 254 = .ok (.if_icmp .le 30, 3) := by decide +kernel
theorem dX11_findGood_257 : decode cX11_findGood 257 = .ok (.iload 8, 2) := by decide +kernel
theorem dX11_findGood_259 : decode cX11_findGood 259 = .ok (.istore_n 3, 1) := by decide +kernel
theorem dX11_findGood_260 : decode cX11_findGood 260 = .ok (.aload_n 0, 1) := by decide +kernel
theorem dX11_findGood_261 : decode cX11_findGood 261 = .ok (.getfield 67, 3) := by decide +kernel
theorem dX11_findGood_264 : decode cX11_findGood 264 = .ok (.iconst 0, 1) := by decide +kernel
theorem dX11_findGood_265 : decode cX11_findGood 265 = .ok (.iload 4, 2) := by decide +kernel
theorem dX11_findGood_267 : decode cX11_findGood 267 = .ok (.iastore, 1) := by decide +kernel
theorem dX11_findGood_268 : decode cX11_findGood 268 = .ok (.aload_n 0, 1) := by decide +kernel
theorem dX11_findGood_269 : decode cX11_findGood 269 = .ok (.getfield 67, 3) := by decide +kernel
theorem dX11_findGood_272 : decode cX11_findGood 272 = .ok (.iconst 1, 1) := by decide +kernel
theorem dX11_findGood_273 : decode cX11_findGood 273 = .ok (.iload 5, 2) := by decide +kernel
theorem dX11_findGood_275 : decode cX11_findGood 275 = .ok (.iastore, 1) := by decide +kernel
theorem dX11_findGood_276 : decode cX11_findGood 276 = .ok (.aload_n 0, 1) := by decide +kernel
theorem dX11_findGood_277 : decode cX11_findGood 277 = .ok (.getfield 67, 3) := by decide +kernel
theorem dX11_findGood_280 : decode cX11_findGood 280 = .ok (.iconst 2, 1) := by decide +kernel
theorem dX11_findGood_281 : decode cX11_findGood 281 = .ok (.iload 6, 2) := by decide +kernel
theorem dX11_findGood_283 : decode cX11_findGood 283 = .ok (.iastore, 1) := by decide +kernel
theorem dX11_findGood_284 : decode cX11_findGood 284 = .ok (.iinc 6 1, 3) := by decide +kernel
theorem dX11_findGood_287 : decode cX11_findGood 287 = .ok (.goto (-131), 3) := by decide +kernel
theorem dX11_findGood_290 : decode cX11_findGood 290 = .ok (.iinc 5 1, 3) := by decide +kernel
theorem dX11_findGood_293 : decode cX11_findGood 293 = .ok (.goto (-168), 3) := by decide +kernel
theorem dX11_findGood_296 : decode cX11_findGood 296 = .ok (.iinc 4 1, 3) := by decide +kernel
theorem dX11_findGood_299 : decode cX11_findGood 299 = .ok (.goto (-201), 3) := by decide +kernel
theorem dX11_findGood_302 : decode cX11_findGood 302 = .ok (.iload_n 3, 1) := by decide +kernel
theorem dX11_findGood_303 : decode cX11_findGood 303 = .ok (.ireturn, 1) := by decide +kernel
theorem dX11_good_0 : decode cX11_good 0 = .ok (.iload_n 1, 1) := by decide +kernel
theorem dX11_good_1 : decode cX11_good 1 = .ok (.iconst (-1), 1) := by decide +kernel
theorem dX11_good_2 : decode cX11_good 2 = .ok (.if_icmp .eq 14, 3) := by decide +kernel
theorem dX11_good_5 : decode cX11_good 5 = .ok (.aload_n 0, 1) := by decide +kernel
theorem dX11_good_6 : decode cX11_good 6 = .ok (.iload_n 1, 1) := by decide +kernel
theorem dX11_good_7 : decode cX11_good 7 = .ok (.invokevirtual 95, 3) := by decide +kernel
theorem dX11_good_10 : decode cX11_good 10 = .ok (.ifCond .ne 6, 3) := by decide +kernel
theorem dX11_good_13 : decode cX11_good 13 = .ok (.bipush (-10), 2) := by decide +kernel
theorem dX11_good_15 : decode cX11_good 15 = .ok (.ireturn, 1) := by decide +kernel
theorem dX11_good_16 : decode cX11_good 16 = .ok (.aload_n 0, 1) := by decide +kernel
theorem dX11_good_17 : decode cX11_good 17 = .ok (.invokevirtual 239, 3) := by decide +kernel
theorem dX11_good_20 : decode cX11_good 20 = .ok (.istore_n 2, 1) := by decide +kernel
theorem dX11_good_21 : decode cX11_good 21 = .ok (.iload_n 1, 1) := by decide +kernel
theorem dX11_good_22 : decode cX11_good 22 = .ok (.iconst (-1), 1) := by decide +kernel
theorem dX11_good_23 : decode cX11_good 23 = .ok (.if_icmp .ne 7, 3) := by decide +kernel
theorem dX11_good_26 : decode cX11_good 26 = .ok (.iload_n 2, 1) := by decide +kernel
theorem dX11_good_27 : decode cX11_good 27 = .ok (.goto 9, 3) := by decide +kernel
theorem dX11_good_30 : decode cX11_good 30 = .ok (.aload_n 0, 1) := by decide +kernel
theorem dX11_good_31 : decode cX11_good 31 = .ok (.getfield 67, 3) := by decide +kernel
theorem dX11_good_34 : decode cX11_good 34 = .ok (.iload_n 1, 1) := by decide +kernel
theorem dX11_good_35 : decode cX11_good 35 = .ok (.iaload, 1) := by decide +kernel
theorem dX11_good_36 : decode cX11_good 36 = .ok (.ireturn, 1) := by decide +kernel
theorem dX11_lost_0 : decode cX11_lost 0 = .ok (.aload_n 0, 1) := by decide +kernel
theorem dX11_lost_1 : decode cX11_lost 1 = .ok (.invokevirtual 239, 3) := by decide +kernel
theorem dX11_lost_4 : decode cX11_lost 4 = .ok (.aload_n 0, 1) := by decide +kernel
theorem dX11_lost_5 : decode cX11_lost 5 = .ok (.invokevirtual 217, 3) := by decide +kernel
theorem dX11_lost_8 : decode cX11_lost 8 = .ok (.isub, 1) := by decide +kernel
theorem dX11_lost_9 : decode cX11_lost 9 = .ok (.ireturn, 1) := by decide +kernel
theorem dX11_findHands_0 : decode cX11_findHands 0 = .ok (.aload_n 0, 1) := by decide +kernel
theorem dX11_findHands_1 : decode cX11_findHands 1 = .ok (.iload_n 1, 1) := by decide +kernel
theorem dX11_findHands_2 : decode cX11_findHands 2 = .ok (.iload_n 2, 1) := by decide +kernel
theorem dX11_findHands_3 : decode cX11_findHands 3 = .ok (.invokevirtual 186, 3) := by decide +kernel
theorem dX11_findHands_6 : decode cX11_findHands 6 = .ok (.istore_n 3, 1) := by decide +kernel
theorem dX11_findHands_7 : decode cX11_findHands 7 = .ok (.iconst 0, 1) := by decide +kernel
theorem dX11_findHands_8 : decode cX11_findHands 8 = .ok (.istore 4, 2) := by decide +kernel
theorem dX11_findHands_10 : decode cX11_findHands 10 = .ok (.iload 4, 2) := by decide +kernel
theorem dX11_findHands_12 : decode cX11_findHands 12 = .ok (.iconst 5, 1) := by decide +kernel
theorem dX11_findHands_13 : decode cX11_findHands 13 = .ok (.if_icmp .ge 17, 3) := by decide +kernel
theorem dX11_findHands_16 : decode cX11_findHands 16 = .ok (.aload_n 0, 1) := by decide +kernel
theorem dX11_findHands_17 : decode cX11_findHands 17 = .ok (.getfield 70, 3) := by decide +kernel
theorem dX11_findHands_20 : decode cX11_findHands 20 = .ok (.iload 4, 2) := by decide +kernel
theorem dX11_findHands_22 : decode cX11_findHands 22 = .ok (.iconst (-1), 1) := by decide +kernel
theorem dX11_findHands_23 : decode cX11_findHands 23 = .ok (.iastore, 1) := by decide +kernel
theorem dX11_findHands_24 : decode cX11_findHands 24 = .ok (.iinc 4 1, 3) := by decide +kernel
theorem dX11_findHands_27 : decode cX11_findHands 27 = .ok (.goto (-17), 3) := by decide +kernel
theorem dX11_findHands_30 : decode cX11_findHands 30 = .ok (.aload_n 0, 1) := by decide +kernel
theorem dX11_findHands_31 : decode cX11_findHands 31 = .ok (.iload_n 1, 1) := by decide +kernel
theorem dX11_findHands_32 : decode cX11_findHands 32 = .ok (.putfield 45, 3) := by decide +kernel
theorem dX11_findHands_35 : decode cX11_findHands 35 = .ok (.aload_n 0, 1) := by decide +kernel
theorem dX11_findHands_36 : decode cX11_findHands 36 = .ok (.iload_n 2, 1) := by decide +kernel
theorem dX11_findHands_37 : decode cX11_findHands 37 = .ok (.putfield 49, 3) := by decide +kernel
theorem dX11_findHands_40 : decode cX11_findHands 40 = .ok (.iconst 0, 1) := by decide +kernel
theorem dX11_findHands_41 : decode cX11_findHands 41 = .ok (.istore 4, 2) := by decide +kernel
theorem dX11_findHands_43 : decode cX11_findHands 43 = .ok (.iload 4, 2) := by decide +kernel
theorem dX11_findHands_45 : decode cX11_findHands 45 = .ok (.iload_n 3, 1) := by decide +kernel
theorem dX11_findHands_46 : decode cX11_findHands 46 = .ok (.if_icmp .gt 191, 3) := by decide +kernel
theorem dX11_findHands_49 : decode cX11_findHands 49 = .ok (.iconst 0, 1) := by decide +kernel
theorem dX11_findHands_50 : decode cX11_findHands 50 = .ok (.istore 5, 2) := by decide +kernel
theorem dX11_findHands_52 : decode cX11_findHands 52 = .ok (.iload 5, 2) := by decide +kernel
theorem dX11_findHands_54 : decode cX11_findHands 54 = .ok (.iload 4, 2) := by decide +kernel
theorem dX11_findHands_56 : decode cX11_findHands 56 = .ok (.if_icmp .gt 175, 3) := by decide +kernel
theorem dX11_findHands_59 : decode cX11_findHands 59 = .ok (.iload 4, 2) := by decide +kernel
theorem dX11_findHands_61 : decode cX11_findHands 61 = .ok (.iload 5, 2) := by decide +kernel
theorem dX11_findHands_63 : decode cX11_findHands 63 = .ok (.iadd, 1) := by decide +kernel
theorem dX11_findHands_64 : decode cX11_findHands 64 = .ok (.iload_n 3, 1) := by decide +kernel
theorem dX11_findHands_65 : decode cX11_findHands 65 = .ok (.if_icmp .gt 166, 3) := by decide +kernel
theorem dX11_findHands_68 : decode cX11_findHands 68 = .ok (.iconst 0, 1) := by decide +kernel
theorem dX11_findHands_69 : decode cX11_findHands 69 = .ok (.istore 6, 2) := by decide +kernel
theorem dX11_findHands_71 : decode cX11_findHands 71 = .ok (.iload 6, 2) := by decide +kernel
theorem dX11_findHands_73 : decode cX11_findHands 73 = .ok (.iload 5, 2) := by decide +kernel
theorem dX11_findHands_75 : decode cX11_findHands 75 = .ok (.if_icmp .gt 150, 3) := by decide +kernel
theorem dX11_findHands_78 : decode cX11_findHands 78 = .ok (.iload 4, 2) := by decide +kernel
theorem dX11_findHands_80 : decode cX11_findHands 80 = .ok (.iload 5, 2) := by decide +kernel
theorem dX11_findHands_82 : decode cX11_findHands 82 = .ok (.iadd, 1) := by decide +kernel
theorem dX11_findHands_83 : decode cX11_findHands 83 = .ok (.iload 6, 2) := by decide +kernel
theorem dX11_findHands_85 : decode cX11_findHands 85 = .ok (.iadd, 1) := by decide +kernel
theorem dX11_findHands_86 : decode cX11_findHands 86 = .ok (.iload_n 3, 1) := by decide +kernel
theorem dX11_findHands_87 : decode cX11_findHands 87 = .ok (.if_icmp .gt 138, 3) := by decide +kernel
theorem dX11_findHands_90 : decode cX11_findHands 90 = .ok (.iload_n 3, 1) := by decide +kernel
theorem dX11_findHands_91 : decode cX11_findHands 91 = .ok (.iload 4, 2) := by decide +kernel
theorem dX11_findHands_93 : decode cX11_findHands 93 = .ok (.isub, 1) := by decide +kernel
theorem dX11_findHands_94 : decode cX11_findHands 94 = .ok (.iload 5, 2) := by decide +kernel
theorem dX11_findHands_96 : decode cX11_findHands 96 = .ok (.isub, 1) := by decide +kernel
theorem dX11_findHands_97 : decode cX11_findHands 97 = .ok (.iload 6, 2) := by decide +kernel
theorem dX11_findHands_99 : decode cX11_findHands 99 = .ok (.isub, 1) := by decide +kernel
theorem dX11_findHands_100 : decode cX11_findHands 100 = .ok (.istore 7, 2) := by decide +kernel
theorem dX11_findHands_102 : decode cX11_findHands 102 = .ok (.iload 7, 2) := by decide +kernel
theorem dX11_findHands_104 : decode cX11_findHands 104 = .ok (.iload 4, 2) := by decide +kernel
theorem dX11_findHands_106 : decode cX11_findHands 106 = .ok (.if_icmp .lt 113, 3) := by decide +kernel
theorem dX11_findHands_109 : decode cX11_findHands 109 = .ok (.aload_n 0, 1) := by decide +kernel
theorem dX11_findHands_110 : decode cX11_findHands 110 = .ok (.getfield 52, 3) := by decide +kernel
theorem dX11_findHands_113 : decode cX11_findHands 113 = .ok (.iconst 0, 1) := by decide +kernel
theorem dX11_findHands_114 : decode cX11_findHands 114 = .ok (.iload 7, 2) := by decide +kernel
theorem dX11_findHands_116 : decode cX11_findHands 116 = .ok (.iastore, 1) := by decide +kernel
theorem dX11_findHands_117 : decode cX11_findHands 117 = .ok (.aload_n 0, 1) := by decide +kernel
theorem dX11_findHands_118 : decode cX11_findHands 118 = .ok (.getfield 52, 3) := by decide +kernel
theorem dX11_findHands_121 : decode cX11_findHands 121 = .ok (.iconst 1, 1) := by decide +kernel
theorem dX11_findHands_122 : decode cX11_findHands 122 = .ok (.iload 4, 2) := by decide +kernel
theorem dX11_findHands_124 : decode cX11_findHands 124 = .ok (.iastore, 1) := by decide +kernel
theorem dX11_findHands_125 : decode cX11_findHands 125 = .ok (.aload_n 0, 1) := by decide +kernel
theorem dX11_findHands_126 : decode cX11_findHands 126 = .ok (.getfield 52, 3) := by decide +kernel
theorem dX11_findHands_129 : decode cX11_findHands 129 = .ok (.iconst 2, 1) := by decide +kernel
theorem dX11_findHands_130 : decode cX11_findHands 130 = .ok (.iload 5, 2) := by decide +kernel
theorem dX11_findHands_132 : decode cX11_findHands 132 = .ok (.iastore, 1) := by decide +kernel
theorem dX11_findHands_133 : decode cX11_findHands 133 = .ok (.aload_n 0, 1) := by decide +kernel
theorem dX11_findHands_134 : decode cX11_findHands 134 = .ok (.getfield 52, 3) := by decide +kernel
theorem dX11_findHands_137 : decode cX11_findHands 137 = .ok (.iconst 3, 1) := by decide +kernel
theorem dX11_findHands_138 : decode cX11_findHands 138 = .ok (.iload 6, 2) := by decide +kernel
theorem dX11_findHands_140 : decode cX11_findHands 140 = .ok (.iastore, 1) := by decide +kernel
theorem dX11_findHands_141 : decode cX11_findHands 141 = .ok (.iconst 1, 1) := by decide +kernel
theorem dX11_findHands_142 : decode cX11_findHands 142 = .ok (.iload 4, 2) := by decide +kernel
theorem dX11_findHands_144 : decode cX11_findHands 144 = .ok (.ifCond .le 7, 3) := by decide +kernel
theorem dX11_findHands_147 : decode cX11_findHands 147 = .ok (.iconst 1, 1) := by decide +kernel
theorem dX11_findHands_148 : decode cX11_findHands 148 = .ok (.goto 4, 3) := by decide +kernel
theorem dX11_findHands_151 : decode cX11_findHands 151 = .ok (.iconst 0, 1) := by decide +kernel
theorem dX11_findHands_152 : decode cX11_findHands 152 = .ok (.iadd, 1) := by decide +kernel
theorem dX11_findHands_153 : decode cX11_findHands 153 = .ok (.iload 5, 2) := by decide +kernel
theorem dX11_findHands_155 : decode cX11_findHands 155 = .ok (.ifCond .le 7, 3) := by decide +kernel
theorem dX11_findHands_158 : decode cX11_findHands 158 = .ok (.iconst 1, 1) := by decide +kernel
theorem dX11_findHands_159 : decode cX11_findHands 159 = .ok (.goto 4, 3) := by decide +kernel
theorem dX11_findHands_162 : decode cX11_findHands 162 = .ok (.iconst 0, 1) := by decide +kernel
theorem dX11_findHands_163 : decode cX11_findHands 163 = .ok (.iadd, 1) := by decide +kernel
theorem dX11_findHands_164 : decode cX11_findHands 164 = .ok (.iload 6, 2) := by decide +kernel
theorem dX11_findHands_166 : decode cX11_findHands 166 = .ok (.ifCond .le 7, 3) := by decide +kernel
theorem dX11_findHands_169 : decode cX11_findHands 169 = .ok (.iconst 1, 1) := by decide +kernel
theorem dX11_findHands_170 : decode cX11_findHands 170 = .ok (.goto 4, 3) := by decide +kernel
theorem dX11_findHands_173 : decode cX11_findHands 173 = .ok (.iconst 0, 1) := by decide +kernel
theorem dX11_findHands_174 : decode cX11_findHands 174 = .ok (.iadd, 1) := by decide +kernel
theorem dX11_findHands_175 : decode cX11_findHands 175 = .ok (.istore 8, 2) := by decide +kernel
theorem dX11_findHands_177 : decode cX11_findHands 177 = .ok (.aload_n 0, 1) := by decide +kernel
theorem dX11_findHands_178 : decode cX11_findHands 178 = .ok (.invokevirtual 211, 3) := by decide +kernel
theorem dX11_findHands_181 : decode cX11_findHands 181 = .ok (.aload_n 0, 1) := by decide +kernel
theorem dX11_findHands_182 : decode cX11_findHands 182 = .ok (.iload_n 1, 1) := by decide +kernel
theorem dX11_findHands_183 : decode cX11_findHands 183 = .ok (.invokevirtual 214, 3) := by decide +kernel
theorem dX11_findHands_186 : decode cX11_findHands 186 = .ok (.istore 9, 2) := by decide +kernel
theorem dX11_findHands_188 : decode cX11_findHands 188 = .ok (.aload_n 0, 1) := by decide +kernel
theorem dX11_findHands_189 : decode cX11_findHands 189 = .ok (.getfield 70, 3) := by decide +kernel
theorem dX11_findHands_192 : decode cX11_findHands 192 = .ok (.iload 8, 2) := by decide +kernel
theorem dX11_findHands_194 : decode cX11_findHands 194 = .ok (.iload 9, 2) := by decide +kernel
theorem dX11_findHands_196 : decode cX11_findHands 196 = .ok (.aload_n 0, 1) := by decide +kernel
theorem dX11_findHands_197 : decode cX11_findHands 197 = .ok (.getfield 70, 3) := by decide +kernel
theorem dX11_findHands_200 : decode cX11_findHands 200 = .ok (.iload 8, 2) := by decide +kernel
theorem dX11_findHands_202 : decode cX11_findHands 202 = .ok (.iaload, 1) := by decide +kernel
theorem dX11_findHands_203 : decode cX11_findHands 203 = .ok (.if_icmp .le 8, 3) := by decide +kernel
theorem dX11_findHands_206 : decode cX11_findHands 206 = .ok (.iload 9, 2) := by decide +kernel
theorem dX11_findHands_208 : decode cX11_findHands 208 = .ok (.goto 10, 3) := by decide +kernel
theorem dX11_findHands_211 : decode cX11_findHands 211 = .ok (.aload_n 0, 1) := by decide +kernel
theorem dX11_findHands_212 : decode cX11_findHands 212 = .ok (.getfield 70, 3) := by decide +kernel
theorem dX11_findHands_215 : decode cX11_findHands 215 = .ok (.iload 8, 2) := by decide +kernel
theorem dX11_findHands_217 : decode cX11_findHands 217 = .ok (.iaload, 1) := by decide +kernel
theorem dX11_findHands_218 : decode cX11_findHands 218 = .ok (.iastore, 1) := by decide +kernel
theorem dX11_findHands_219 : decode cX11_findHands 219 = .ok (.iinc 6 1, 3) := by decide +kernel
theorem dX11_findHands_222 : decode cX11_findHands 222 = .ok (.goto (-151), 3) := by decide +kernel
theorem dX11_findHands_225 : decode cX11_findHands 225 = .ok (.iinc 5 1, 3) := by decide +kernel
theorem dX11_findHands_228 : decode cX11_findHands 228 = .ok (.goto (-176), 3) := by decide +kernel
theorem dX11_findHands_231 : decode cX11_findHands 231 = .ok (.iinc 4 1, 3) := by decide +kernel
theorem dX11_findHands_234 : decode cX11_findHands 234 = .ok (.goto (-191), 3) := by decide +kernel
theorem dX11_findHands_237 : decode cX11_findHands 237 = .ok (.aload_n 0, 1) := by decide +kernel
theorem dX11_findHands_238 : decode cX11_findHands 238 = .ok (.iconst (-1), 1) := by decide +kernel
theorem dX11_findHands_239 : decode cX11_findHands 239 = .ok (.putfield 45, 3) := by decide +kernel
theorem dX11_findHands_242 : decode cX11_findHands 242 = .ok (.aload_n 0, 1) := by decide +kernel
theorem dX11_findHands_243 : decode cX11_findHands 243 = .ok (.iconst (-1), 1) := by decide +kernel
theorem dX11_findHands_244 : decode cX11_findHands 244 = .ok (.putfield 49, 3) := by decide +kernel
theorem dX11_findHands_247 : decode cX11_findHands 247 = .ok (.return_, 1) := by decide +kernel
theorem dX11_gain_0 : decode cX11_gain 0 = .ok (.aload_n 0, 1) := by decide +kernel
theorem dX11_gain_1 : decode cX11_gain 1 = .ok (.iload_n 1, 1) := by decide +kernel
theorem dX11_gain_2 : decode cX11_gain 2 = .ok (.invokevirtual 91, 3) := by decide +kernel
theorem dX11_gain_5 : decode cX11_gain 5 = .ok (.ifCond .eq 11, 3) := by decide +kernel
theorem dX11_gain_8 : decode cX11_gain 8 = .ok (.aload_n 0, 1) := by decide +kernel
theorem dX11_gain_9 : decode cX11_gain 9 = .ok (.iload_n 2, 1) := by decide +kernel
theorem dX11_gain_10 : decode cX11_gain 10 = .ok (.invokevirtual 95, 3) := by decide +kernel
theorem dX11_gain_13 : decode cX11_gain 13 = .ok (.ifCond .ne 6, 3) := by decide +kernel
theorem dX11_gain_16 : decode cX11_gain 16 = .ok (.bipush (-2), 2) := by decide +kernel
theorem dX11_gain_18 : decode cX11_gain 18 = .ok (.ireturn, 1) := by decide +kernel
theorem dX11_gain_19 : decode cX11_gain 19 = .ok (.aload_n 0, 1) := by decide +kernel
theorem dX11_gain_20 : decode cX11_gain 20 = .ok (.iload_n 1, 1) := by decide +kernel
theorem dX11_gain_21 : decode cX11_gain 21 = .ok (.iload_n 2, 1) := by decide +kernel
theorem dX11_gain_22 : decode cX11_gain 22 = .ok (.invokevirtual 242, 3) := by decide +kernel
theorem dX11_gain_25 : decode cX11_gain 25 = .ok (.aload_n 0, 1) := by decide +kernel
theorem dX11_gain_26 : decode cX11_gain 26 = .ok (.getfield 70, 3) := by decide +kernel
theorem dX11_gain_29 : decode cX11_gain 29 = .ok (.iconst 1, 1) := by decide +kernel
theorem dX11_gain_30 : decode cX11_gain 30 = .ok (.iaload, 1) := by decide +kernel
theorem dX11_gain_31 : decode cX11_gain 31 = .ok (.istore_n 3, 1) := by decide +kernel
theorem dX11_gain_32 : decode cX11_gain 32 = .ok (.iconst 2, 1) := by decide +kernel
theorem dX11_gain_33 : decode cX11_gain 33 = .ok (.istore 4, 2) := by decide +kernel
theorem dX11_gain_35 : decode cX11_gain 35 = .ok (.iload 4, 2) := by decide +kernel
theorem dX11_gain_37 : decode cX11_gain 37 = .ok (.iconst 5, 1) := by decide +kernel
theorem dX11_gain_38 : decode cX11_gain 38 = .ok (.if_icmp .ge 32, 3) := by decide +kernel
theorem dX11_gain_41 : decode cX11_gain 41 = .ok (.aload_n 0, 1) := by decide +kernel
theorem dX11_gain_42 : decode cX11_gain 42 = .ok (.getfield 70, 3) := by decide +kernel
theorem dX11_gain_45 : decode cX11_gain 45 = .ok (.iload 4, 2) := by decide +kernel
theorem dX11_gain_47 : decode cX11_gain 47 = .ok (.iaload, 1) := by decide +kernel
theorem dX11_gain_48 : decode cX11_gain 48 = .ok (.iload_n 3, 1) := by decide +kernel
theorem dX11_gain_49 : decode cX11_gain 49 = .ok (.if_icmp .le 13, 3) := by decide +kernel
theorem dX11_gain_52 : decode cX11_gain 52 = .ok (.aload_n 0, 1) := by decide +kernel
theorem dX11_gain_53 : decode cX11_gain 53 = .ok (.getfield 70, 3) := by decide +kernel
theorem dX11_gain_56 : decode cX11_gain 56 = .ok (.iload 4, 2) := by decide +kernel
theorem dX11_gain_58 : decode cX11_gain 58 = .ok (.iaload, 1) := by decide +kernel
theorem dX11_gain_59 : decode cX11_gain 59 = .ok (.goto 4, 3) := by decide +kernel
theorem dX11_gain_62 : decode cX11_gain 62 = .ok (.iload_n 3, 1) := by decide +kernel
theorem dX11_gain_63 : decode cX11_gain 63 = .ok (.istore_n 3, 1) := by decide +kernel
theorem dX11_gain_64 : decode cX11_gain 64 = .ok (.iinc 4 1, 3) := by decide +kernel
theorem dX11_gain_67 : decode cX11_gain 67 = .ok (.goto (-32), 3) := by decide +kernel
theorem dX11_gain_70 : decode cX11_gain 70 = .ok (.iload_n 3, 1) := by decide +kernel
theorem dX11_gain_71 : decode cX11_gain 71 = .ok (.aload_n 0, 1) := by decide +kernel
theorem dX11_gain_72 : decode cX11_gain 72 = .ok (.getfield 70, 3) := by decide +kernel
theorem dX11_gain_75 : decode cX11_gain 75 = .ok (.iconst 1, 1) := by decide +kernel
theorem dX11_gain_76 : decode cX11_gain 76 = .ok (.iaload, 1) := by decide +kernel
theorem dX11_gain_77 : decode cX11_gain 77 = .ok (.isub, 1) := by decide +kernel
theorem dX11_gain_78 : decode cX11_gain 78 = .ok (.ireturn, 1) := by decide +kernel
theorem dX11_hand_0 : decode cX11_hand 0 = .ok (.aload_n 0, 1) := by decide +kernel
theorem dX11_hand_1 : decode cX11_hand 1 = .ok (.iload_n 1, 1) := by decide +kernel
theorem dX11_hand_2 : decode cX11_hand 2 = .ok (.invokevirtual 91, 3) := by decide +kernel
theorem dX11_hand_5 : decode cX11_hand 5 = .ok (.ifCond .eq 11, 3) := by decide +kernel
theorem dX11_hand_8 : decode cX11_hand 8 = .ok (.aload_n 0, 1) := by decide +kernel
theorem dX11_hand_9 : decode cX11_hand 9 = .ok (.iload_n 2, 1) := by decide +kernel
theorem dX11_hand_10 : decode cX11_hand 10 = .ok (.invokevirtual 95, 3) := by decide +kernel
theorem dX11_hand_13 : decode cX11_hand 13 = .ok (.ifCond .ne 6, 3) := by decide +kernel
theorem dX11_hand_16 : decode cX11_hand 16 = .ok (.bipush (-2), 2) := by decide +kernel
theorem dX11_hand_18 : decode cX11_hand 18 = .ok (.ireturn, 1) := by decide +kernel
theorem dX11_hand_19 : decode cX11_hand 19 = .ok (.aload_n 0, 1) := by decide +kernel
theorem dX11_hand_20 : decode cX11_hand 20 = .ok (.iload_n 1, 1) := by decide +kernel
theorem dX11_hand_21 : decode cX11_hand 21 = .ok (.iload_n 2, 1) := by decide +kernel
theorem dX11_hand_22 : decode cX11_hand 22 = .ok (.invokevirtual 242, 3) := by decide +kernel
theorem dX11_hand_25 : decode cX11_hand 25 = .ok (.iconst 0, 1) := by decide +kernel
theorem dX11_hand_26 : decode cX11_hand 26 = .ok (.istore_n 3, 1) := by decide +kernel
theorem dX11_hand_27 : decode cX11_hand 27 = .ok (.iload_n 3, 1) := by decide +kernel
theorem dX11_hand_28 : decode cX11_hand 28 = .ok (.sipush 999, 3) := by decide +kernel
theorem dX11_hand_31 : decode cX11_hand 31 = .ok (.if_icmp .gt 69, 3) := by decide +kernel
theorem dX11_hand_34 : decode cX11_hand 34 = .ok (.iconst 1, 1) := by decide +kernel
theorem dX11_hand_35 : decode cX11_hand 35 = .ok (.istore 4, 2) := by decide +kernel
theorem dX11_hand_37 : decode cX11_hand 37 = .ok (.iconst 2, 1) := by decide +kernel
theorem dX11_hand_38 : decode cX11_hand 38 = .ok (.istore 5, 2) := by decide +kernel
theorem dX11_hand_40 : decode cX11_hand 40 = .ok (.iload 5, 2) := by decide +kernel
theorem dX11_hand_42 : decode cX11_hand 42 = .ok (.iconst 5, 1) := by decide +kernel
theorem dX11_hand_43 : decode cX11_hand 43 = .ok (.if_icmp .ge 44, 3) := by decide +kernel
theorem dX11_hand_46 : decode cX11_hand 46 = .ok (.iload 4, 2) := by decide +kernel
theorem dX11_hand_48 : decode cX11_hand 48 = .ok (.ifCond .eq 30, 3) := by decide +kernel
theorem dX11_hand_51 : decode cX11_hand 51 = .ok (.aload_n 0, 1) := by decide +kernel
theorem dX11_hand_52 : decode cX11_hand 52 = .ok (.getfield 70, 3) := by decide +kernel
theorem dX11_hand_55 : decode cX11_hand 55 = .ok (.iload 5, 2) := by decide +kernel
theorem dX11_hand_57 : decode cX11_hand 57 = .ok (.iaload, 1) := by decide +kernel
theorem dX11_hand_58 : decode cX11_hand 58 = .ok (.iload_n 3, 1) := by decide +kernel
theorem dX11_hand_59 : decode cX11_hand 59 = .ok (.iload 5, 2) := by decide +kernel
theorem dX11_hand_61 : decode cX11_hand 61 = .ok (.iconst 1, 1) := by decide +kernel
theorem dX11_hand_62 : decode cX11_hand 62 = .ok (.isub, 1) := by decide +kernel
theorem dX11_hand_63 : decode cX11_hand 63 = .ok (.imul, 1) := by decide +kernel
theorem dX11_hand_64 : decode cX11_hand 64 = .ok (.isub, 1) := by decide +kernel
theorem dX11_hand_65 : decode cX11_hand 65 = .ok (.aload_n 0, 1) := by decide +kernel
theorem dX11_hand_66 : decode cX11_hand 66 = .ok (.getfield 70, 3) := by decide +kernel
theorem dX11_hand_69 : decode cX11_hand 69 = .ok (.iconst 1, 1) := by decide +kernel
theorem dX11_hand_70 : decode cX11_hand 70 = .ok (.iaload, 1) := by decide +kernel
theorem dX11_hand_71 : decode cX11_hand 71 = .ok (.if_icmp .gt 7, 3) := by decide +kernel
theorem dX11_hand_74 : decode cX11_hand 74 = .ok (.iconst 1, 1) := by decide +kernel
theorem dX11_hand_75 : decode cX11_hand 75 = .ok (.goto 4, 3) := by decide +kernel
theorem dX11_hand_78 : decode cX11_hand 78 = .ok (.iconst 0, 1) := by decide +kernel
theorem dX11_hand_79 : decode cX11_hand 79 = .ok (.istore 4, 2) := by decide +kernel
theorem dX11_hand_81 : decode cX11_hand 81 = .ok (.iinc 5 1, 3) := by decide +kernel
theorem dX11_hand_84 : decode cX11_hand 84 = .ok (.goto (-44), 3) := by decide +kernel
theorem dX11_hand_87 : decode cX11_hand 87 = .ok (.iload 4, 2) := by decide +kernel
theorem dX11_hand_89 : decode cX11_hand 89 = .ok (.ifCond .eq 5, 3) := by decide +kernel
theorem dX11_hand_92 : decode cX11_hand 92 = .ok (.iload_n 3, 1) := by decide +kernel
theorem dX11_hand_93 : decode cX11_hand 93 = .ok (.ireturn, 1) := by decide +kernel
theorem dX11_hand_94 : decode cX11_hand 94 = .ok (.iinc 3 1, 3) := by decide +kernel
theorem dX11_hand_97 : decode cX11_hand 97 = .ok (.goto (-70), 3) := by decide +kernel
theorem dX11_hand_100 : decode cX11_hand 100 = .ok (.iconst (-1), 1) := by decide +kernel
theorem dX11_hand_101 : decode cX11_hand 101 = .ok (.ireturn, 1) := by decide +kernel
theorem dX11_coinsGiven_0 : decode cX11_coinsGiven 0 = .ok (.iconst 0, 1) := by decide +kernel
theorem dX11_coinsGiven_1 : decode cX11_coinsGiven 1 = .ok (.istore_n 1, 1) := by decide +kernel
theorem dX11_coinsGiven_2 : decode cX11_coinsGiven 2 = .ok (.iconst 0, 1) := by decide +kernel
theorem dX11_coinsGiven_3 : decode cX11_coinsGiven 3 = .ok (.istore_n 2, 1) := by decide +kernel
theorem dX11_coinsGiven_4 : decode cX11_coinsGiven 4 = .ok (.iload_n 2, 1) := by decide +kernel
theorem dX11_coinsGiven_5 : decode cX11_coinsGiven 5 = .ok (.bipush 15, 2) := by decide +kernel
theorem dX11_coinsGiven_7 : decode cX11_coinsGiven 7 = .ok (.if_icmp .ge 21, 3) := by decide +kernel
theorem dX11_coinsGiven_10 : decode cX11_coinsGiven 10 = .ok (.iload_n 1, 1) := by decide +kernel
theorem dX11_coinsGiven_11 : decode cX11_coinsGiven 11 = .ok (.aload_n 0, 1) := by decide +kernel
theorem dX11_coinsGiven_12 : decode cX11_coinsGiven 12 = .ok (.getfield 7, 3) := by decide +kernel
theorem dX11_coinsGiven_15 : decode cX11_coinsGiven 15 = .ok (.bipush 35, 2) := by decide +kernel
theorem dX11_coinsGiven_17 : decode cX11_coinsGiven 17 = .ok (.iload_n 2, 1) := by decide +kernel
theorem dX11_coinsGiven_18 : decode cX11_coinsGiven 18 = .ok (.iadd, 1) := by decide +kernel
theorem dX11_coinsGiven_19 : decode cX11_coinsGiven 19 = .ok (.iaload, 1) := by decide +kernel
theorem dX11_coinsGiven_20 : decode cX11_coinsGiven 20 = .ok (.iadd, 1) := by decide +kernel
theorem dX11_coinsGiven_21 : decode cX11_coinsGiven 21 = .ok (.istore_n 1, 1) := by decide +kernel
theorem dX11_coinsGiven_22 : decode cX11_coinsGiven 22 = .ok (.iinc 2 1, 3) := by decide +kernel
theorem dX11_coinsGiven_25 : decode cX11_coinsGiven 25 = .ok (.goto (-21), 3) := by decide +kernel
theorem dX11_coinsGiven_28 : decode cX11_coinsGiven 28 = .ok (.iload_n 1, 1) := by decide +kernel
theorem dX11_coinsGiven_29 : decode cX11_coinsGiven 29 = .ok (.ireturn, 1) := by decide +kernel
theorem dX11_anyway_0 : decode cX11_anyway 0 = .ok (.iload_n 1, 1) := by decide +kernel
theorem dX11_anyway_1 : decode cX11_anyway 1 = .ok (.i2l, 1) := by decide +kernel
theorem dX11_anyway_2 : decode cX11_anyway 2 = .ok (.lconst 0, 1) := by decide +kernel
theorem dX11_anyway_3 : decode cX11_anyway 3 = .ok (.lconst 1, 1) := by decide +kernel
theorem dX11_anyway_4 : decode cX11_anyway 4 = .ok (.invokestatic 80, 3) := by decide +kernel
theorem dX11_anyway_7 : decode cX11_anyway 7 = .ok (.ifCond .ne 7, 3) := by decide +kernel
theorem dX11_anyway_10 : decode cX11_anyway 10 = .ok (.sipush (-1000), 3) := by decide +kernel
theorem dX11_anyway_13 : decode cX11_anyway 13 = .ok (.ireturn, 1) := by decide +kernel
theorem dX11_anyway_14 : decode cX11_anyway 14 = .ok (.aload_n 0, 1) := by decide +kernel
theorem dX11_anyway_15 : decode cX11_anyway 15 = .ok (.invokevirtual 245, 3) := by decide +kernel
theorem dX11_anyway_18 : decode cX11_anyway 18 = .ok (.istore_n 2, 1) := by decide +kernel
theorem dX11_anyway_19 : decode cX11_anyway 19 = .ok (.iconst 0, 1) := by decide +kernel
theorem dX11_anyway_20 : decode cX11_anyway 20 = .ok (.istore_n 3, 1) := by decide +kernel
theorem dX11_anyway_21 : decode cX11_anyway 21 = .ok (.iload_n 3, 1) := by decide +kernel
theorem dX11_anyway_22 : decode cX11_anyway 22 = .ok (.bipush 15, 2) := by decide +kernel
theorem dX11_anyway_24 : decode cX11_anyway 24 = .ok (.if_icmp .ge 34, 3) := by decide +kernel
theorem dX11_anyway_27 : decode cX11_anyway 27 = .ok (.aload_n 0, 1) := by decide +kernel
theorem dX11_anyway_28 : decode cX11_anyway 28 = .ok (.getfield 73, 3) := by decide +kernel
theorem dX11_anyway_31 : decode cX11_anyway 31 = .ok (.iload_n 3, 1) := by decide +kernel
theorem dX11_anyway_32 : decode cX11_anyway 32 = .ok (.aload_n 0, 1) := by decide +kernel
theorem dX11_anyway_33 : decode cX11_anyway 33 = .ok (.getfield 7, 3) := by decide +kernel
theorem dX11_anyway_36 : decode cX11_anyway 36 = .ok (.bipush 35, 2) := by decide +kernel
theorem dX11_anyway_38 : decode cX11_anyway 38 = .ok (.iload_n 3, 1) := by decide +kernel
theorem dX11_anyway_39 : decode cX11_anyway 39 = .ok (.iadd, 1) := by decide +kernel
theorem dX11_anyway_40 : decode cX11_anyway 40 = .ok (.iaload, 1) := by decide +kernel
theorem dX11_anyway_41 : decode cX11_anyway 41 = .ok (.iastore, 1) := by decide +kernel
theorem dX11_anyway_42 : decode cX11_anyway 42 = .ok (.aload_n 0, 1) := by decide +kernel
theorem dX11_anyway_43 : decode cX11_anyway 43 = .ok (.getfield 7, 3) := by decide +kernel
theorem dX11_anyway_46 : decode cX11_anyway 46 = .ok (.bipush 35, 2) := by decide +kernel
theorem dX11_anyway_48 : decode cX11_anyway 48 = .ok (.iload_n 3, 1) := by decide +kernel
theorem dX11_anyway_49 : decode cX11_anyway 49 = .ok (.iadd, 1) := by decide +kernel
theorem dX11_anyway_50 : decode cX11_anyway 50 = .ok (.iconst 0, 1) := by decide +kernel
theorem dX11_anyway_51 : decode cX11_anyway 51 = .ok (.iastore, 1) := by decide +kernel
theorem dX11_anyway_52 : decode cX11_anyway 52 = .ok (.iinc 3 1, 3) := by decide +kernel
theorem dX11_anyway_55 : decode cX11_anyway 55 = .ok (.goto (-34), 3) := by decide +kernel
theorem dX11_anyway_58 : decode cX11_anyway 58 = .ok (.aload_n 0, 1) := by decide +kernel
theorem dX11_anyway_59 : decode cX11_anyway 59 = .ok (.iconst 1, 1) := by decide +kernel
theorem dX11_anyway_60 : decode cX11_anyway 60 = .ok (.putfield 193, 3) := by decide +kernel
theorem dX11_anyway_63 : decode cX11_anyway 63 = .ok (.aload_n 0, 1) := by decide +kernel
theorem dX11_anyway_64 : decode cX11_anyway 64 = .ok (.invokevirtual 76, 3) := by decide +kernel
theorem dX11_anyway_67 : decode cX11_anyway 67 = .ok (.ifCond .ne 7, 3) := by decide +kernel
theorem dX11_anyway_70 : decode cX11_anyway 70 = .ok (.iconst 0, 1) := by decide +kernel
theorem dX11_anyway_71 : decode cX11_anyway 71 = .ok (.goto 7, 3) := by decide +kernel
theorem dX11_anyway_74 : decode cX11_anyway 74 = .ok (.aload_n 0, 1) := by decide +kernel
theorem dX11_anyway_75 : decode cX11_anyway 75 = .ok (.invokevirtual 233, 3) := by decide +kernel
theorem dX11_anyway_78 : decode cX11_anyway 78 = .ok (.istore_n 3, 1) := by decide +kernel
theorem dX11_anyway_79 : decode cX11_anyway 79 = .ok (.aload_n 0, 1) := by decide +kernel
theorem dX11_anyway_80 : decode cX11_anyway 80 = .ok (.iconst 0, 1) := by decide +kernel
theorem dX11_anyway_81 : decode cX11_anyway 81 = .ok (.putfield 193, 3) := by decide +kernel
theorem dX11_anyway_84 : decode cX11_anyway 84 = .ok (.aload_n 0, 1) := by decide +kernel
theorem dX11_anyway_85 : decode cX11_anyway 85 = .ok (.invokevirtual 245, 3) := by decide +kernel
theorem dX11_anyway_88 : decode cX11_anyway 88 = .ok (.istore 4, 2) := by decide +kernel
theorem dX11_anyway_90 : decode cX11_anyway 90 = .ok (.iconst 0, 1) := by decide +kernel
theorem dX11_anyway_91 : decode cX11_anyway 91 = .ok (.istore 5, 2) := by decide +kernel
theorem dX11_anyway_93 : decode cX11_anyway 93 = .ok (.iload 5, 2) := by decide +kernel
theorem dX11_anyway_95 : decode cX11_anyway 95 = .ok (.bipush 15, 2) := by decide +kernel
theorem dX11_anyway_97 : decode cX11_anyway 97 = .ok (.if_icmp .ge 26, 3) := by decide +kernel
end
section
theorem dX11_anyway_100 : decode cX11_anyway 100 = .ok (.aload_n 0, 1) := by decide +kernel
theorem dX11_anyway_101 : decode cX11_anyway 101 = .ok (.getfield 7, 3) := by decide +kernel
theorem dX11_anyway_104 : decode cX11_anyway 104 = .ok (.bipush 35, 2) := by decide +kernel
theorem dX11_anyway_106 : decode cX11_anyway 106 = .ok (.iload 5, 2) := by decide +kernel
theorem dX11_anyway_108 : decode cX11_anyway 108 = .ok (.iadd, 1) := by decide +kernel
theorem dX11_anyway_109 : decode cX11_anyway 109 = .ok (.aload_n 0, 1) := by decide +kernel
theorem dX11_anyway_110 : decode cX11_anyway 110 = .ok (.getfield 73, 3) := by decide +kernel
theorem dX11_anyway_113 : decode cX11_anyway 113 = .ok (.iload 5, 2) := by decide +kernel
theorem dX11_anyway_115 : decode cX11_anyway 115 = .ok (.iaload, 1) := by decide +kernel
theorem dX11_anyway_116 : decode cX11_anyway 116 = .ok (.iastore, 1) := by decide +kernel
theorem dX11_anyway_117 : decode cX11_anyway 117 = .ok (.iinc 5 1, 3) := by decide +kernel
theorem dX11_anyway_120 : decode cX11_anyway 120 = .ok (.goto (-27), 3) := by decide +kernel
theorem dX11_anyway_123 : decode cX11_anyway 123 = .ok (.iload_n 1, 1) := by decide +kernel
theorem dX11_anyway_124 : decode cX11_anyway 124 = .ok (.ifCond .ne 8, 3) := by decide +kernel
theorem dX11_anyway_127 : decode cX11_anyway 127 = .ok (.iload 4, 2) := by decide +kernel
theorem dX11_anyway_129 : decode cX11_anyway 129 = .ok (.goto 7, 3) := by decide +kernel
theorem dX11_anyway_132 : decode cX11_anyway 132 = .ok (.iload_n 2, 1) := by decide +kernel
theorem dX11_anyway_133 : decode cX11_anyway 133 = .ok (.iload 4, 2) := by decide +kernel
theorem dX11_anyway_135 : decode cX11_anyway 135 = .ok (.isub, 1) := by decide +kernel
theorem dX11_anyway_136 : decode cX11_anyway 136 = .ok (.ireturn, 1) := by decide +kernel
theorem dX11_addedTo_0 : decode cX11_addedTo 0 = .ok (.aload_n 0, 1) := by decide +kernel
theorem dX11_addedTo_1 : decode cX11_addedTo 1 = .ok (.iconst 0, 1) := by decide +kernel
theorem dX11_addedTo_2 : decode cX11_addedTo 2 = .ok (.putfield 177, 3) := by decide +kernel
theorem dX11_addedTo_5 : decode cX11_addedTo 5 = .ok (.aload_n 0, 1) := by decide +kernel
theorem dX11_addedTo_6 : decode cX11_addedTo 6 = .ok (.iload_n 2, 1) := by decide +kernel
theorem dX11_addedTo_7 : decode cX11_addedTo 7 = .ok (.invokevirtual 190, 3) := by decide +kernel
theorem dX11_addedTo_10 : decode cX11_addedTo 10 = .ok (.aload_n 0, 1) := by decide +kernel
theorem dX11_addedTo_11 : decode cX11_addedTo 11 = .ok (.iload_n 3, 1) := by decide +kernel
theorem dX11_addedTo_12 : decode cX11_addedTo 12 = .ok (.invokevirtual 190, 3) := by decide +kernel
theorem dX11_addedTo_15 : decode cX11_addedTo 15 = .ok (.aload_n 0, 1) := by decide +kernel
theorem dX11_addedTo_16 : decode cX11_addedTo 16 = .ok (.iload 4, 2) := by decide +kernel
theorem dX11_addedTo_18 : decode cX11_addedTo 18 = .ok (.invokevirtual 190, 3) := by decide +kernel
theorem dX11_addedTo_21 : decode cX11_addedTo 21 = .ok (.aload_n 0, 1) := by decide +kernel
theorem dX11_addedTo_22 : decode cX11_addedTo 22 = .ok (.iload_n 1, 1) := by decide +kernel
theorem dX11_addedTo_23 : decode cX11_addedTo 23 = .ok (.invokevirtual 197, 3) := by decide +kernel
theorem dX11_addedTo_26 : decode cX11_addedTo 26 = .ok (.ireturn, 1) := by decide +kernel
theorem dX11_holds_0 : decode cX11_holds 0 = .ok (.aload_n 0, 1) := by decide +kernel
theorem dX11_holds_1 : decode cX11_holds 1 = .ok (.iload_n 1, 1) := by decide +kernel
theorem dX11_holds_2 : decode cX11_holds 2 = .ok (.iload 4, 2) := by decide +kernel
theorem dX11_holds_4 : decode cX11_holds 4 = .ok (.iload 5, 2) := by decide +kernel
theorem dX11_holds_6 : decode cX11_holds 6 = .ok (.iconst 0, 1) := by decide +kernel
theorem dX11_holds_7 : decode cX11_holds 7 = .ok (.invokevirtual 248, 3) := by decide +kernel
theorem dX11_holds_10 : decode cX11_holds 10 = .ok (.istore 6, 2) := by decide +kernel
theorem dX11_holds_12 : decode cX11_holds 12 = .ok (.iload_n 2, 1) := by decide +kernel
theorem dX11_holds_13 : decode cX11_holds 13 = .ok (.ifCond .ne 34, 3) := by decide +kernel
theorem dX11_holds_16 : decode cX11_holds 16 = .ok (.iload 4, 2) := by decide +kernel
theorem dX11_holds_18 : decode cX11_holds 18 = .ok (.iload_n 3, 1) := by decide +kernel
theorem dX11_holds_19 : decode cX11_holds 19 = .ok (.if_icmp .eq 22, 3) := by decide +kernel
theorem dX11_holds_22 : decode cX11_holds 22 = .ok (.aload_n 0, 1) := by decide +kernel
theorem dX11_holds_23 : decode cX11_holds 23 = .ok (.iload_n 1, 1) := by decide +kernel
theorem dX11_holds_24 : decode cX11_holds 24 = .ok (.iload 4, 2) := by decide +kernel
theorem dX11_holds_26 : decode cX11_holds 26 = .ok (.iconst 1, 1) := by decide +kernel
theorem dX11_holds_27 : decode cX11_holds 27 = .ok (.iadd, 1) := by decide +kernel
theorem dX11_holds_28 : decode cX11_holds 28 = .ok (.iload 5, 2) := by decide +kernel
theorem dX11_holds_30 : decode cX11_holds 30 = .ok (.iconst 0, 1) := by decide +kernel
theorem dX11_holds_31 : decode cX11_holds 31 = .ok (.invokevirtual 248, 3) := by decide +kernel
theorem dX11_holds_34 : decode cX11_holds 34 = .ok (.iconst 1, 1) := by decide +kernel
theorem dX11_holds_35 : decode cX11_holds 35 = .ok (.iadd, 1) := by decide +kernel
theorem dX11_holds_36 : decode cX11_holds 36 = .ok (.iload 6, 2) := by decide +kernel
theorem dX11_holds_38 : decode cX11_holds 38 = .ok (.if_icmp .lt 7, 3) := by decide +kernel
theorem dX11_holds_41 : decode cX11_holds 41 = .ok (.iconst 1, 1) := by decide +kernel
theorem dX11_holds_42 : decode cX11_holds 42 = .ok (.goto 4, 3) := by decide +kernel
theorem dX11_holds_45 : decode cX11_holds 45 = .ok (.iconst 0, 1) := by decide +kernel
theorem dX11_holds_46 : decode cX11_holds 46 = .ok (.ireturn, 1) := by decide +kernel
theorem dX11_holds_47 : decode cX11_holds 47 = .ok (.iload_n 2, 1) := by decide +kernel
theorem dX11_holds_48 : decode cX11_holds 48 = .ok (.iconst 1, 1) := by decide +kernel
theorem dX11_holds_49 : decode cX11_holds 49 = .ok (.if_icmp .ne 56, 3) := by decide +kernel
theorem dX11_holds_52 : decode cX11_holds 52 = .ok (.iconst 1, 1) := by decide +kernel
theorem dX11_holds_53 : decode cX11_holds 53 = .ok (.istore 7, 2) := by decide +kernel
theorem dX11_holds_55 : decode cX11_holds 55 = .ok (.iconst 1, 1) := by decide +kernel
theorem dX11_holds_56 : decode cX11_holds 56 = .ok (.istore 8, 2) := by decide +kernel
theorem dX11_holds_58 : decode cX11_holds 58 = .ok (.iload 8, 2) := by decide +kernel
theorem dX11_holds_60 : decode cX11_holds 60 = .ok (.iload 4, 2) := by decide +kernel
theorem dX11_holds_62 : decode cX11_holds 62 = .ok (.if_icmp .ge 40, 3) := by decide +kernel
theorem dX11_holds_65 : decode cX11_holds 65 = .ok (.iload 7, 2) := by decide +kernel
theorem dX11_holds_67 : decode cX11_holds 67 = .ok (.ifCond .eq 26, 3) := by decide +kernel
theorem dX11_holds_70 : decode cX11_holds 70 = .ok (.aload_n 0, 1) := by decide +kernel
theorem dX11_holds_71 : decode cX11_holds 71 = .ok (.iload_n 1, 1) := by decide +kernel
theorem dX11_holds_72 : decode cX11_holds 72 = .ok (.iload 8, 2) := by decide +kernel
theorem dX11_holds_74 : decode cX11_holds 74 = .ok (.iload 4, 2) := by decide +kernel
theorem dX11_holds_76 : decode cX11_holds 76 = .ok (.iload 8, 2) := by decide +kernel
theorem dX11_holds_78 : decode cX11_holds 78 = .ok (.isub, 1) := by decide +kernel
theorem dX11_holds_79 : decode cX11_holds 79 = .ok (.iload 5, 2) := by decide +kernel
theorem dX11_holds_81 : decode cX11_holds 81 = .ok (.invokevirtual 248, 3) := by decide +kernel
theorem dX11_holds_84 : decode cX11_holds 84 = .ok (.iload 6, 2) := by decide +kernel
theorem dX11_holds_86 : decode cX11_holds 86 = .ok (.if_icmp .gt 7, 3) := by decide +kernel
theorem dX11_holds_89 : decode cX11_holds 89 = .ok (.iconst 1, 1) := by decide +kernel
theorem dX11_holds_90 : decode cX11_holds 90 = .ok (.goto 4, 3) := by decide +kernel
theorem dX11_holds_93 : decode cX11_holds 93 = .ok (.iconst 0, 1) := by decide +kernel
theorem dX11_holds_94 : decode cX11_holds 94 = .ok (.istore 7, 2) := by decide +kernel
theorem dX11_holds_96 : decode cX11_holds 96 = .ok (.iinc 8 1, 3) := by decide +kernel
theorem dX11_holds_99 : decode cX11_holds 99 = .ok (.goto (-41), 3) := by decide +kernel
theorem dX11_holds_102 : decode cX11_holds 102 = .ok (.iload 7, 2) := by decide +kernel
theorem dX11_holds_104 : decode cX11_holds 104 = .ok (.ireturn, 1) := by decide +kernel
theorem dX11_holds_105 : decode cX11_holds 105 = .ok (.iload_n 2, 1) := by decide +kernel
theorem dX11_holds_106 : decode cX11_holds 106 = .ok (.iconst 2, 1) := by decide +kernel
theorem dX11_holds_107 : decode cX11_holds 107 = .ok (.if_icmp .ne 21, 3) := by decide +kernel
theorem dX11_holds_110 : decode cX11_holds 110 = .ok (.iload 6, 2) := by decide +kernel
theorem dX11_holds_112 : decode cX11_holds 112 = .ok (.iload 4, 2) := by decide +kernel
theorem dX11_holds_114 : decode cX11_holds 114 = .ok (.iload 5, 2) := by decide +kernel
theorem dX11_holds_116 : decode cX11_holds 116 = .ok (.iadd, 1) := by decide +kernel
theorem dX11_holds_117 : decode cX11_holds 117 = .ok (.if_icmp .gt 7, 3) := by decide +kernel
theorem dX11_holds_120 : decode cX11_holds 120 = .ok (.iconst 1, 1) := by decide +kernel
theorem dX11_holds_121 : decode cX11_holds 121 = .ok (.goto 27, 3) := by decide +kernel
theorem dX11_holds_124 : decode cX11_holds 124 = .ok (.iconst 0, 1) := by decide +kernel
theorem dX11_holds_125 : decode cX11_holds 125 = .ok (.goto 23, 3) := by decide +kernel
theorem dX11_holds_128 : decode cX11_holds 128 = .ok (.iload 4, 2) := by decide +kernel
theorem dX11_holds_130 : decode cX11_holds 130 = .ok (.ifCond .eq 13, 3) := by decide +kernel
theorem dX11_holds_133 : decode cX11_holds 133 = .ok (.iload 5, 2) := by decide +kernel
theorem dX11_holds_135 : decode cX11_holds 135 = .ok (.ifCond .eq 8, 3) := by decide +kernel
theorem dX11_holds_138 : decode cX11_holds 138 = .ok (.iload 6, 2) := by decide +kernel
theorem dX11_holds_140 : decode cX11_holds 140 = .ok (.ifCond .le 7, 3) := by decide +kernel
theorem dX11_holds_143 : decode cX11_holds 143 = .ok (.iconst 1, 1) := by decide +kernel
theorem dX11_holds_144 : decode cX11_holds 144 = .ok (.goto 4, 3) := by decide +kernel
theorem dX11_holds_147 : decode cX11_holds 147 = .ok (.iconst 0, 1) := by decide +kernel
theorem dX11_holds_148 : decode cX11_holds 148 = .ok (.ireturn, 1) := by decide +kernel
theorem dX11_breach_0 : decode cX11_breach 0 = .ok (.iload_n 1, 1) := by decide +kernel
theorem dX11_breach_1 : decode cX11_breach 1 = .ok (.invokestatic 108, 3) := by decide +kernel
theorem dX11_breach_4 : decode cX11_breach 4 = .ok (.ifCond .eq 27, 3) := by decide +kernel
theorem dX11_breach_7 : decode cX11_breach 7 = .ok (.iload_n 2, 1) := by decide +kernel
theorem dX11_breach_8 : decode cX11_breach 8 = .ok (.i2l, 1) := by decide +kernel
theorem dX11_breach_9 : decode cX11_breach 9 = .ok (.lconst 0, 1) := by decide +kernel
theorem dX11_breach_10 : decode cX11_breach 10 = .ok (.ldc2_w 102, 3) := by decide +kernel
theorem dX11_breach_13 : decode cX11_breach 13 = .ok (.invokestatic 80, 3) := by decide +kernel
theorem dX11_breach_16 : decode cX11_breach 16 = .ok (.ifCond .eq 15, 3) := by decide +kernel
theorem dX11_breach_19 : decode cX11_breach 19 = .ok (.iload_n 3, 1) := by decide +kernel
theorem dX11_breach_20 : decode cX11_breach 20 = .ok (.i2l, 1) := by decide +kernel
theorem dX11_breach_21 : decode cX11_breach 21 = .ok (.lconst 1, 1) := by decide +kernel
theorem dX11_breach_22 : decode cX11_breach 22 = .ok (.ldc2_w 87, 3) := by decide +kernel
theorem dX11_breach_25 : decode cX11_breach 25 = .ok (.invokestatic 80, 3) := by decide +kernel
theorem dX11_breach_28 : decode cX11_breach 28 = .ok (.ifCond .ne 6, 3) := by decide +kernel
theorem dX11_breach_31 : decode cX11_breach 31 = .ok (.bipush (-2), 2) := by decide +kernel
theorem dX11_breach_33 : decode cX11_breach 33 = .ok (.ireturn, 1) := by decide +kernel
theorem dX11_breach_34 : decode cX11_breach 34 = .ok (.iconst 0, 1) := by decide +kernel
theorem dX11_breach_35 : decode cX11_breach 35 = .ok (.istore 4, 2) := by decide +kernel
theorem dX11_breach_37 : decode cX11_breach 37 = .ok (.iload 4, 2) := by decide +kernel
theorem dX11_breach_39 : decode cX11_breach 39 = .ok (.iload_n 3, 1) := by decide +kernel
theorem dX11_breach_40 : decode cX11_breach 40 = .ok (.if_icmp .gt 47, 3) := by decide +kernel
theorem dX11_breach_43 : decode cX11_breach 43 = .ok (.iconst 0, 1) := by decide +kernel
theorem dX11_breach_44 : decode cX11_breach 44 = .ok (.istore 5, 2) := by decide +kernel
theorem dX11_breach_46 : decode cX11_breach 46 = .ok (.iload 5, 2) := by decide +kernel
theorem dX11_breach_48 : decode cX11_breach 48 = .ok (.iload_n 3, 1) := by decide +kernel
theorem dX11_breach_49 : decode cX11_breach 49 = .ok (.if_icmp .gt 32, 3) := by decide +kernel
theorem dX11_breach_52 : decode cX11_breach 52 = .ok (.aload_n 0, 1) := by decide +kernel
theorem dX11_breach_53 : decode cX11_breach 53 = .ok (.iload_n 1, 1) := by decide +kernel
theorem dX11_breach_54 : decode cX11_breach 54 = .ok (.iload_n 2, 1) := by decide +kernel
theorem dX11_breach_55 : decode cX11_breach 55 = .ok (.iload_n 3, 1) := by decide +kernel
theorem dX11_breach_56 : decode cX11_breach 56 = .ok (.iload 4, 2) := by decide +kernel
theorem dX11_breach_58 : decode cX11_breach 58 = .ok (.iload 5, 2) := by decide +kernel
theorem dX11_breach_60 : decode cX11_breach 60 = .ok (.invokevirtual 252, 3) := by decide +kernel
theorem dX11_breach_63 : decode cX11_breach 63 = .ok (.ifCond .ne 12, 3) := by decide +kernel
theorem dX11_breach_66 : decode cX11_breach 66 = .ok (.bipush 100, 2) := by decide +kernel
theorem dX11_breach_68 : decode cX11_breach 68 = .ok (.iload 4, 2) := by decide +kernel
theorem dX11_breach_70 : decode cX11_breach 70 = .ok (.imul, 1) := by decide +kernel
theorem dX11_breach_71 : decode cX11_breach 71 = .ok (.iload 5, 2) := by decide +kernel
theorem dX11_breach_73 : decode cX11_breach 73 = .ok (.iadd, 1) := by decide +kernel
theorem dX11_breach_74 : decode cX11_breach 74 = .ok (.ireturn, 1) := by decide +kernel
theorem dX11_breach_75 : decode cX11_breach 75 = .ok (.iinc 5 1, 3) := by decide +kernel
theorem dX11_breach_78 : decode cX11_breach 78 = .ok (.goto (-32), 3) := by decide +kernel
theorem dX11_breach_81 : decode cX11_breach 81 = .ok (.iinc 4 1, 3) := by decide +kernel
theorem dX11_breach_84 : decode cX11_breach 84 = .ok (.goto (-47), 3) := by decide +kernel
theorem dX11_breach_87 : decode cX11_breach 87 = .ok (.iconst (-1), 1) := by decide +kernel
theorem dX11_breach_88 : decode cX11_breach 88 = .ok (.ireturn, 1) := by decide +kernel
theorem dX11_image_0 : decode cX11_image 0 = .ok (.iload_n 1, 1) := by decide +kernel
theorem dX11_image_1 : decode cX11_image 1 = .ok (.i2l, 1) := by decide +kernel
theorem dX11_image_2 : decode cX11_image 2 = .ok (.lconst 0, 1) := by decide +kernel
theorem dX11_image_3 : decode cX11_image 3 = .ok (.lconst 1, 1) := by decide +kernel
theorem dX11_image_4 : decode cX11_image 4 = .ok (.invokestatic 80, 3) := by decide +kernel
theorem dX11_image_7 : decode cX11_image 7 = .ok (.ifCond .ne 6, 3) := by decide +kernel
theorem dX11_image_10 : decode cX11_image 10 = .ok (.bipush (-2), 2) := by decide +kernel
theorem dX11_image_12 : decode cX11_image 12 = .ok (.ireturn, 1) := by decide +kernel
theorem dX11_image_13 : decode cX11_image 13 = .ok (.iconst 0, 1) := by decide +kernel
theorem dX11_image_14 : decode cX11_image 14 = .ok (.istore_n 2, 1) := by decide +kernel
theorem dX11_image_15 : decode cX11_image 15 = .ok (.iload_n 2, 1) := by decide +kernel
theorem dX11_image_16 : decode cX11_image 16 = .ok (.sipush 182, 3) := by decide +kernel
theorem dX11_image_19 : decode cX11_image 19 = .ok (.if_icmp .ge 27, 3) := by decide +kernel
theorem dX11_image_22 : decode cX11_image 22 = .ok (.aload_n 0, 1) := by decide +kernel
theorem dX11_image_23 : decode cX11_image 23 = .ok (.getfield 13, 3) := by decide +kernel
theorem dX11_image_26 : decode cX11_image 26 = .ok (.sipush 182, 3) := by decide +kernel
theorem dX11_image_29 : decode cX11_image 29 = .ok (.iload_n 1, 1) := by decide +kernel
theorem dX11_image_30 : decode cX11_image 30 = .ok (.imul, 1) := by decide +kernel
theorem dX11_image_31 : decode cX11_image 31 = .ok (.iload_n 2, 1) := by decide +kernel
theorem dX11_image_32 : decode cX11_image 32 = .ok (.iadd, 1) := by decide +kernel
theorem dX11_image_33 : decode cX11_image 33 = .ok (.aload_n 0, 1) := by decide +kernel
theorem dX11_image_34 : decode cX11_image 34 = .ok (.getfield 7, 3) := by decide +kernel
theorem dX11_image_37 : decode cX11_image 37 = .ok (.iload_n 2, 1) := by decide +kernel
theorem dX11_image_38 : decode cX11_image 38 = .ok (.iaload, 1) := by decide +kernel
theorem dX11_image_39 : decode cX11_image 39 = .ok (.iastore, 1) := by decide +kernel
theorem dX11_image_40 : decode cX11_image 40 = .ok (.iinc 2 1, 3) := by decide +kernel
theorem dX11_image_43 : decode cX11_image 43 = .ok (.goto (-28), 3) := by decide +kernel
theorem dX11_image_46 : decode cX11_image 46 = .ok (.aload_n 0, 1) := by decide +kernel
theorem dX11_image_47 : decode cX11_image 47 = .ok (.getfield 16, 3) := by decide +kernel
theorem dX11_image_50 : decode cX11_image 50 = .ok (.iload_n 1, 1) := by decide +kernel
theorem dX11_image_51 : decode cX11_image 51 = .ok (.iconst 1, 1) := by decide +kernel
theorem dX11_image_52 : decode cX11_image 52 = .ok (.bastore, 1) := by decide +kernel
theorem dX11_image_53 : decode cX11_image 53 = .ok (.iconst 1, 1) := by decide +kernel
theorem dX11_image_54 : decode cX11_image 54 = .ok (.ireturn, 1) := by decide +kernel
theorem dX11_from_0 : decode cX11_from 0 = .ok (.iload_n 1, 1) := by decide +kernel
theorem dX11_from_1 : decode cX11_from 1 = .ok (.i2l, 1) := by decide +kernel
theorem dX11_from_2 : decode cX11_from 2 = .ok (.lconst 0, 1) := by decide +kernel
theorem dX11_from_3 : decode cX11_from 3 = .ok (.lconst 1, 1) := by decide +kernel
theorem dX11_from_4 : decode cX11_from 4 = .ok (.invokestatic 80, 3) := by decide +kernel
theorem dX11_from_7 : decode cX11_from 7 = .ok (.ifCond .ne 6, 3) := by decide +kernel
theorem dX11_from_10 : decode cX11_from 10 = .ok (.bipush (-2), 2) := by decide +kernel
theorem dX11_from_12 : decode cX11_from 12 = .ok (.ireturn, 1) := by decide +kernel
theorem dX11_from_13 : decode cX11_from 13 = .ok (.aload_n 0, 1) := by decide +kernel
theorem dX11_from_14 : decode cX11_from 14 = .ok (.getfield 16, 3) := by decide +kernel
theorem dX11_from_17 : decode cX11_from 17 = .ok (.iload_n 1, 1) := by decide +kernel
theorem dX11_from_18 : decode cX11_from 18 = .ok (.baload, 1) := by decide +kernel
theorem dX11_from_19 : decode cX11_from 19 = .ok (.ifCond .ne 6, 3) := by decide +kernel
theorem dX11_from_22 : decode cX11_from 22 = .ok (.bipush (-3), 2) := by decide +kernel
theorem dX11_from_24 : decode cX11_from 24 = .ok (.ireturn, 1) := by decide +kernel
theorem dX11_from_25 : decode cX11_from 25 = .ok (.iconst 0, 1) := by decide +kernel
theorem dX11_from_26 : decode cX11_from 26 = .ok (.istore_n 2, 1) := by decide +kernel
theorem dX11_from_27 : decode cX11_from 27 = .ok (.iload_n 2, 1) := by decide +kernel
theorem dX11_from_28 : decode cX11_from 28 = .ok (.sipush 182, 3) := by decide +kernel
theorem dX11_from_31 : decode cX11_from 31 = .ok (.if_icmp .ge 27, 3) := by decide +kernel
theorem dX11_from_34 : decode cX11_from 34 = .ok (.aload_n 0, 1) := by decide +kernel
theorem dX11_from_35 : decode cX11_from 35 = .ok (.getfield 7, 3) := by decide +kernel
theorem dX11_from_38 : decode cX11_from 38 = .ok (.iload_n 2, 1) := by decide +kernel
theorem dX11_from_39 : decode cX11_from 39 = .ok (.aload_n 0, 1) := by decide +kernel
theorem dX11_from_40 : decode cX11_from 40 = .ok (.getfield 13, 3) := by decide +kernel
theorem dX11_from_43 : decode cX11_from 43 = .ok (.sipush 182, 3) := by decide +kernel
theorem dX11_from_46 : decode cX11_from 46 = .ok (.iload_n 1, 1) := by decide +kernel
theorem dX11_from_47 : decode cX11_from 47 = .ok (.imul, 1) := by decide +kernel
theorem dX11_from_48 : decode cX11_from 48 = .ok (.iload_n 2, 1) := by decide +kernel
theorem dX11_from_49 : decode cX11_from 49 = .ok (.iadd, 1) := by decide +kernel
theorem dX11_from_50 : decode cX11_from 50 = .ok (.iaload, 1) := by decide +kernel
theorem dX11_from_51 : decode cX11_from 51 = .ok (.iastore, 1) := by decide +kernel
theorem dX11_from_52 : decode cX11_from 52 = .ok (.iinc 2 1, 3) := by decide +kernel
theorem dX11_from_55 : decode cX11_from 55 = .ok (.goto (-28), 3) := by decide +kernel
theorem dX11_from_58 : decode cX11_from 58 = .ok (.iconst 1, 1) := by decide +kernel
theorem dX11_from_59 : decode cX11_from 59 = .ok (.ireturn, 1) := by decide +kernel
theorem dX11_count_0 : decode cX11_count 0 = .ok (.iload_n 1, 1) := by decide +kernel
theorem dX11_count_1 : decode cX11_count 1 = .ok (.ifCond .ne 10, 3) := by decide +kernel
theorem dX11_count_4 : decode cX11_count 4 = .ok (.aload_n 0, 1) := by decide +kernel
theorem dX11_count_5 : decode cX11_count 5 = .ok (.invokevirtual 76, 3) := by decide +kernel
theorem dX11_count_8 : decode cX11_count 8 = .ok (.goto 41, 3) := by decide +kernel
theorem dX11_count_11 : decode cX11_count 11 = .ok (.iload_n 1, 1) := by decide +kernel
theorem dX11_count_12 : decode cX11_count 12 = .ok (.iconst 1, 1) := by decide +kernel
theorem dX11_count_13 : decode cX11_count 13 = .ok (.if_icmp .ne 10, 3) := by decide +kernel
theorem dX11_count_16 : decode cX11_count 16 = .ok (.aload_n 0, 1) := by decide +kernel
theorem dX11_count_17 : decode cX11_count 17 = .ok (.invokevirtual 84, 3) := by decide +kernel
theorem dX11_count_20 : decode cX11_count 20 = .ok (.goto 29, 3) := by decide +kernel
theorem dX11_count_23 : decode cX11_count 23 = .ok (.iload_n 1, 1) := by decide +kernel
theorem dX11_count_24 : decode cX11_count 24 = .ok (.iconst 2, 1) := by decide +kernel
theorem dX11_count_25 : decode cX11_count 25 = .ok (.if_icmp .ne 10, 3) := by decide +kernel
theorem dX11_count_28 : decode cX11_count 28 = .ok (.aload_n 0, 1) := by decide +kernel
theorem dX11_count_29 : decode cX11_count 29 = .ok (.invokevirtual 245, 3) := by decide +kernel
theorem dX11_count_32 : decode cX11_count 32 = .ok (.goto 17, 3) := by decide +kernel
theorem dX11_count_35 : decode cX11_count 35 = .ok (.iload_n 1, 1) := by decide +kernel
theorem dX11_count_36 : decode cX11_count 36 = .ok (.iconst 3, 1) := by decide +kernel
theorem dX11_count_37 : decode cX11_count 37 = .ok (.if_icmp .ne 10, 3) := by decide +kernel
theorem dX11_count_40 : decode cX11_count 40 = .ok (.aload_n 0, 1) := by decide +kernel
theorem dX11_count_41 : decode cX11_count 41 = .ok (.invokevirtual 236, 3) := by decide +kernel
theorem dX11_count_44 : decode cX11_count 44 = .ok (.goto 5, 3) := by decide +kernel
theorem dX11_count_47 : decode cX11_count 47 = .ok (.bipush (-2), 2) := by decide +kernel
theorem dX11_count_49 : decode cX11_count 49 = .ok (.ireturn, 1) := by decide +kernel
theorem dX11_digest_0 : decode cX11_digest 0 = .ok (.ldc2_w 256, 3) := by decide +kernel
theorem dX11_digest_3 : decode cX11_digest 3 = .ok (.lstore_n 1, 1) := by decide +kernel
theorem dX11_digest_4 : decode cX11_digest 4 = .ok (.iconst 0, 1) := by decide +kernel
theorem dX11_digest_5 : decode cX11_digest 5 = .ok (.istore_n 3, 1) := by decide +kernel
theorem dX11_digest_6 : decode cX11_digest 6 = .ok (.iload_n 3, 1) := by decide +kernel
theorem dX11_digest_7 : decode cX11_digest 7 = .ok (.iconst 4, 1) := by decide +kernel
theorem dX11_digest_8 : decode cX11_digest 8 = .ok (.if_icmp .ge 22, 3) := by decide +kernel
theorem dX11_digest_11 : decode cX11_digest 11 = .ok (.ldc2_w 258, 3) := by decide +kernel
theorem dX11_digest_14 : decode cX11_digest 14 = .ok (.lload_n 1, 1) := by decide +kernel
theorem dX11_digest_15 : decode cX11_digest 15 = .ok (.lmul, 1) := by decide +kernel
theorem dX11_digest_16 : decode cX11_digest 16 = .ok (.aload_n 0, 1) := by decide +kernel
theorem dX11_digest_17 : decode cX11_digest 17 = .ok (.iload_n 3, 1) := by decide +kernel
theorem dX11_digest_18 : decode cX11_digest 18 = .ok (.invokevirtual 260, 3) := by decide +kernel
theorem dX11_digest_21 : decode cX11_digest 21 = .ok (.i2l, 1) := by decide +kernel
theorem dX11_digest_22 : decode cX11_digest 22 = .ok (.ladd, 1) := by decide +kernel
theorem dX11_digest_23 : decode cX11_digest 23 = .ok (.lstore_n 1, 1) := by decide +kernel
theorem dX11_digest_24 : decode cX11_digest 24 = .ok (.iinc 3 1, 3) := by decide +kernel
theorem dX11_digest_27 : decode cX11_digest 27 = .ok (.goto (-21), 3) := by decide +kernel
theorem dX11_digest_30 : decode cX11_digest 30 = .ok (.iconst 0, 1) := by decide +kernel
theorem dX11_digest_31 : decode cX11_digest 31 = .ok (.istore_n 3, 1) := by decide +kernel
theorem dX11_digest_32 : decode cX11_digest 32 = .ok (.iload_n 3, 1) := by decide +kernel
theorem dX11_digest_33 : decode cX11_digest 33 = .ok (.aload_n 0, 1) := by decide +kernel
theorem dX11_digest_34 : decode cX11_digest 34 = .ok (.invokevirtual 76, 3) := by decide +kernel
theorem dX11_digest_37 : decode cX11_digest 37 = .ok (.if_icmp .ge 103, 3) := by decide +kernel
theorem dX11_digest_40 : decode cX11_digest 40 = .ok (.ldc2_w 258, 3) := by decide +kernel
theorem dX11_digest_43 : decode cX11_digest 43 = .ok (.lload_n 1, 1) := by decide +kernel
theorem dX11_digest_44 : decode cX11_digest 44 = .ok (.lmul, 1) := by decide +kernel
theorem dX11_digest_45 : decode cX11_digest 45 = .ok (.aload_n 0, 1) := by decide +kernel
theorem dX11_digest_46 : decode cX11_digest 46 = .ok (.getfield 7, 3) := by decide +kernel
theorem dX11_digest_49 : decode cX11_digest 49 = .ok (.iconst 0, 1) := by decide +kernel
theorem dX11_digest_50 : decode cX11_digest 50 = .ok (.iload_n 3, 1) := by decide +kernel
theorem dX11_digest_51 : decode cX11_digest 51 = .ok (.iadd, 1) := by decide +kernel
theorem dX11_digest_52 : decode cX11_digest 52 = .ok (.iaload, 1) := by decide +kernel
theorem dX11_digest_53 : decode cX11_digest 53 = .ok (.i2l, 1) := by decide +kernel
theorem dX11_digest_54 : decode cX11_digest 54 = .ok (.ladd, 1) := by decide +kernel
theorem dX11_digest_55 : decode cX11_digest 55 = .ok (.lstore_n 1, 1) := by decide +kernel
theorem dX11_digest_56 : decode cX11_digest 56 = .ok (.iconst 0, 1) := by decide +kernel
theorem dX11_digest_57 : decode cX11_digest 57 = .ok (.istore 4, 2) := by decide +kernel
theorem dX11_digest_59 : decode cX11_digest 59 = .ok (.iload 4, 2) := by decide +kernel
theorem dX11_digest_61 : decode cX11_digest 61 = .ok (.iconst 3, 1) := by decide +kernel
theorem dX11_digest_62 : decode cX11_digest 62 = .ok (.if_icmp .ge 72, 3) := by decide +kernel
theorem dX11_digest_65 : decode cX11_digest 65 = .ok (.ldc2_w 258, 3) := by decide +kernel
theorem dX11_digest_68 : decode cX11_digest 68 = .ok (.ldc2_w 258, 3) := by decide +kernel
theorem dX11_digest_71 : decode cX11_digest 71 = .ok (.lload_n 1, 1) := by decide +kernel
theorem dX11_digest_72 : decode cX11_digest 72 = .ok (.lmul, 1) := by decide +kernel
theorem dX11_digest_73 : decode cX11_digest 73 = .ok (.aload_n 0, 1) := by decide +kernel
theorem dX11_digest_74 : decode cX11_digest 74 = .ok (.getfield 7, 3) := by decide +kernel
theorem dX11_digest_77 : decode cX11_digest 77 = .ok (.iconst 5, 1) := by decide +kernel
theorem dX11_digest_78 : decode cX11_digest 78 = .ok (.bipush 6, 2) := by decide +kernel
theorem dX11_digest_80 : decode cX11_digest 80 = .ok (.iload_n 3, 1) := by decide +kernel
theorem dX11_digest_81 : decode cX11_digest 81 = .ok (.imul, 1) := by decide +kernel
theorem dX11_digest_82 : decode cX11_digest 82 = .ok (.iadd, 1) := by decide +kernel
theorem dX11_digest_83 : decode cX11_digest 83 = .ok (.iconst 2, 1) := by decide +kernel
theorem dX11_digest_84 : decode cX11_digest 84 = .ok (.iload 4, 2) := by decide +kernel
theorem dX11_digest_86 : decode cX11_digest 86 = .ok (.imul, 1) := by decide +kernel
theorem dX11_digest_87 : decode cX11_digest 87 = .ok (.iadd, 1) := by decide +kernel
theorem dX11_digest_88 : decode cX11_digest 88 = .ok (.iaload, 1) := by decide +kernel
theorem dX11_digest_89 : decode cX11_digest 89 = .ok (.i2l, 1) := by decide +kernel
theorem dX11_digest_90 : decode cX11_digest 90 = .ok (.ladd, 1) := by decide +kernel
theorem dX11_digest_91 : decode cX11_digest 91 = .ok (.lmul, 1) := by decide +kernel
theorem dX11_digest_92 : decode cX11_digest 92 = .ok (.aload_n 0, 1) := by decide +kernel
theorem dX11_digest_93 : decode cX11_digest 93 = .ok (.getfield 7, 3) := by decide +kernel
theorem dX11_digest_96 : decode cX11_digest 96 = .ok (.iconst 5, 1) := by decide +kernel
theorem dX11_digest_97 : decode cX11_digest 97 = .ok (.bipush 6, 2) := by decide +kernel
theorem dX11_digest_99 : decode cX11_digest 99 = .ok (.iload_n 3, 1) := by decide +kernel
theorem dX11_digest_100 : decode cX11_digest 100 = .ok (.imul, 1) := by decide +kernel
theorem dX11_digest_101 : decode cX11_digest 101 = .ok (.iadd, 1) := by decide +kernel
theorem dX11_digest_102 : decode cX11_digest 102 = .ok (.iconst 2, 1) := by decide +kernel
theorem dX11_digest_103 : decode cX11_digest 103 = .ok (.iload 4, 2) := by decide +kernel
theorem dX11_digest_105 : decode cX11_digest 105 = .ok (.imul, 1) := by decide +kernel
theorem dX11_digest_106 : decode cX11_digest 106 = .ok (.iadd, 1) := by decide +kernel
theorem dX11_digest_107 : decode cX11_digest 107 = .ok (.iconst 1, 1) := by decide +kernel
theorem dX11_digest_108 : decode cX11_digest 108 = .ok (.iadd, 1) := by decide +kernel
theorem dX11_digest_109 : decode cX11_digest 109 = .ok (.iaload, 1) := by decide +kernel
theorem dX11_digest_110 : decode cX11_digest 110 = .ok (.i2l, 1) := by decide +kernel
theorem dX11_digest_111 : decode cX11_digest 111 = .ok (.ladd, 1) := by decide +kernel
theorem dX11_digest_112 : decode cX11_digest 112 = .ok (.lstore_n 1, 1) := by decide +kernel
theorem dX11_digest_113 : decode cX11_digest 113 = .ok (.ldc2_w 258, 3) := by decide +kernel
theorem dX11_digest_116 : decode cX11_digest 116 = .ok (.lload_n 1, 1) := by decide +kernel
theorem dX11_digest_117 : decode cX11_digest 117 = .ok (.lmul, 1) := by decide +kernel
theorem dX11_digest_118 : decode cX11_digest 118 = .ok (.aload_n 0, 1) := by decide +kernel
theorem dX11_digest_119 : decode cX11_digest 119 = .ok (.iload_n 3, 1) := by decide +kernel
theorem dX11_digest_120 : decode cX11_digest 120 = .ok (.iload 4, 2) := by decide +kernel
theorem dX11_digest_122 : decode cX11_digest 122 = .ok (.invokevirtual 186, 3) := by decide +kernel
theorem dX11_digest_125 : decode cX11_digest 125 = .ok (.i2l, 1) := by decide +kernel
theorem dX11_digest_126 : decode cX11_digest 126 = .ok (.ladd, 1) := by decide +kernel
theorem dX11_digest_127 : decode cX11_digest 127 = .ok (.lstore_n 1, 1) := by decide +kernel
theorem dX11_digest_128 : decode cX11_digest 128 = .ok (.iinc 4 1, 3) := by decide +kernel
theorem dX11_digest_131 : decode cX11_digest 131 = .ok (.goto (-72), 3) := by decide +kernel
theorem dX11_digest_134 : decode cX11_digest 134 = .ok (.iinc 3 1, 3) := by decide +kernel
theorem dX11_digest_137 : decode cX11_digest 137 = .ok (.goto (-105), 3) := by decide +kernel
theorem dX11_digest_140 : decode cX11_digest 140 = .ok (.iconst 0, 1) := by decide +kernel
theorem dX11_digest_141 : decode cX11_digest 141 = .ok (.istore_n 3, 1) := by decide +kernel
theorem dX11_digest_142 : decode cX11_digest 142 = .ok (.iload_n 3, 1) := by decide +kernel
theorem dX11_digest_143 : decode cX11_digest 143 = .ok (.aload_n 0, 1) := by decide +kernel
theorem dX11_digest_144 : decode cX11_digest 144 = .ok (.invokevirtual 84, 3) := by decide +kernel
theorem dX11_digest_147 : decode cX11_digest 147 = .ok (.if_icmp .ge 56, 3) := by decide +kernel
theorem dX11_digest_150 : decode cX11_digest 150 = .ok (.ldc2_w 258, 3) := by decide +kernel
theorem dX11_digest_153 : decode cX11_digest 153 = .ok (.lload_n 1, 1) := by decide +kernel
theorem dX11_digest_154 : decode cX11_digest 154 = .ok (.lmul, 1) := by decide +kernel
theorem dX11_digest_155 : decode cX11_digest 155 = .ok (.aload_n 0, 1) := by decide +kernel
theorem dX11_digest_156 : decode cX11_digest 156 = .ok (.getfield 7, 3) := by decide +kernel
theorem dX11_digest_159 : decode cX11_digest 159 = .ok (.bipush 50, 2) := by decide +kernel
theorem dX11_digest_161 : decode cX11_digest 161 = .ok (.iload_n 3, 1) := by decide +kernel
theorem dX11_digest_162 : decode cX11_digest 162 = .ok (.iadd, 1) := by decide +kernel
theorem dX11_digest_163 : decode cX11_digest 163 = .ok (.iaload, 1) := by decide +kernel
theorem dX11_digest_164 : decode cX11_digest 164 = .ok (.i2l, 1) := by decide +kernel
theorem dX11_digest_165 : decode cX11_digest 165 = .ok (.ladd, 1) := by decide +kernel
theorem dX11_digest_166 : decode cX11_digest 166 = .ok (.lstore_n 1, 1) := by decide +kernel
theorem dX11_digest_167 : decode cX11_digest 167 = .ok (.iconst 0, 1) := by decide +kernel
theorem dX11_digest_168 : decode cX11_digest 168 = .ok (.istore 4, 2) := by decide +kernel
theorem dX11_digest_170 : decode cX11_digest 170 = .ok (.iload 4, 2) := by decide +kernel
theorem dX11_digest_172 : decode cX11_digest 172 = .ok (.iconst 4, 1) := by decide +kernel
theorem dX11_digest_173 : decode cX11_digest 173 = .ok (.if_icmp .ge 24, 3) := by decide +kernel
theorem dX11_digest_176 : decode cX11_digest 176 = .ok (.ldc2_w 258, 3) := by decide +kernel
theorem dX11_digest_179 : decode cX11_digest 179 = .ok (.lload_n 1, 1) := by decide +kernel
theorem dX11_digest_180 : decode cX11_digest 180 = .ok (.lmul, 1) := by decide +kernel
theorem dX11_digest_181 : decode cX11_digest 181 = .ok (.aload_n 0, 1) := by decide +kernel
theorem dX11_digest_182 : decode cX11_digest 182 = .ok (.iload_n 3, 1) := by decide +kernel
theorem dX11_digest_183 : decode cX11_digest 183 = .ok (.iload 4, 2) := by decide +kernel
theorem dX11_digest_185 : decode cX11_digest 185 = .ok (.invokevirtual 263, 3) := by decide +kernel
theorem dX11_digest_188 : decode cX11_digest 188 = .ok (.i2l, 1) := by decide +kernel
theorem dX11_digest_189 : decode cX11_digest 189 = .ok (.ladd, 1) := by decide +kernel
theorem dX11_digest_190 : decode cX11_digest 190 = .ok (.lstore_n 1, 1) := by decide +kernel
theorem dX11_digest_191 : decode cX11_digest 191 = .ok (.iinc 4 1, 3) := by decide +kernel
theorem dX11_digest_194 : decode cX11_digest 194 = .ok (.goto (-24), 3) := by decide +kernel
theorem dX11_digest_197 : decode cX11_digest 197 = .ok (.iinc 3 1, 3) := by decide +kernel
theorem dX11_digest_200 : decode cX11_digest 200 = .ok (.goto (-58), 3) := by decide +kernel
theorem dX11_digest_203 : decode cX11_digest 203 = .ok (.iconst 0, 1) := by decide +kernel
theorem dX11_digest_204 : decode cX11_digest 204 = .ok (.istore_n 3, 1) := by decide +kernel
theorem dX11_digest_205 : decode cX11_digest 205 = .ok (.iload_n 3, 1) := by decide +kernel
theorem dX11_digest_206 : decode cX11_digest 206 = .ok (.iconst 4, 1) := by decide +kernel
theorem dX11_digest_207 : decode cX11_digest 207 = .ok (.if_icmp .ge 26, 3) := by decide +kernel
theorem dX11_digest_210 : decode cX11_digest 210 = .ok (.ldc2_w 258, 3) := by decide +kernel
theorem dX11_digest_213 : decode cX11_digest 213 = .ok (.lload_n 1, 1) := by decide +kernel
theorem dX11_digest_214 : decode cX11_digest 214 = .ok (.lmul, 1) := by decide +kernel
theorem dX11_digest_215 : decode cX11_digest 215 = .ok (.aload_n 0, 1) := by decide +kernel
theorem dX11_digest_216 : decode cX11_digest 216 = .ok (.getfield 7, 3) := by decide +kernel
theorem dX11_digest_219 : decode cX11_digest 219 = .ok (.bipush 53, 2) := by decide +kernel
theorem dX11_digest_221 : decode cX11_digest 221 = .ok (.iload_n 3, 1) := by decide +kernel
theorem dX11_digest_222 : decode cX11_digest 222 = .ok (.iadd, 1) := by decide +kernel
theorem dX11_digest_223 : decode cX11_digest 223 = .ok (.iaload, 1) := by decide +kernel
theorem dX11_digest_224 : decode cX11_digest 224 = .ok (.i2l, 1) := by decide +kernel
theorem dX11_digest_225 : decode cX11_digest 225 = .ok (.ladd, 1) := by decide +kernel
theorem dX11_digest_226 : decode cX11_digest 226 = .ok (.lstore_n 1, 1) := by decide +kernel
theorem dX11_digest_227 : decode cX11_digest 227 = .ok (.iinc 3 1, 3) := by decide +kernel
theorem dX11_digest_230 : decode cX11_digest 230 = .ok (.goto (-25), 3) := by decide +kernel
theorem dX11_digest_233 : decode cX11_digest 233 = .ok (.iconst 0, 1) := by decide +kernel
theorem dX11_digest_234 : decode cX11_digest 234 = .ok (.istore_n 3, 1) := by decide +kernel
theorem dX11_digest_235 : decode cX11_digest 235 = .ok (.iload_n 3, 1) := by decide +kernel
theorem dX11_digest_236 : decode cX11_digest 236 = .ok (.iconst 3, 1) := by decide +kernel
theorem dX11_digest_237 : decode cX11_digest 237 = .ok (.if_icmp .ge 62, 3) := by decide +kernel
theorem dX11_digest_240 : decode cX11_digest 240 = .ok (.aload_n 0, 1) := by decide +kernel
theorem dX11_digest_241 : decode cX11_digest 241 = .ok (.getfield 7, 3) := by decide +kernel
theorem dX11_digest_244 : decode cX11_digest 244 = .ok (.bipush 57, 2) := by decide +kernel
theorem dX11_digest_246 : decode cX11_digest 246 = .ok (.bipush 41, 2) := by decide +kernel
theorem dX11_digest_248 : decode cX11_digest 248 = .ok (.iload_n 3, 1) := by decide +kernel
theorem dX11_digest_249 : decode cX11_digest 249 = .ok (.imul, 1) := by decide +kernel
theorem dX11_digest_250 : decode cX11_digest 250 = .ok (.iadd, 1) := by decide +kernel
theorem dX11_digest_251 : decode cX11_digest 251 = .ok (.iaload, 1) := by decide +kernel
theorem dX11_digest_252 : decode cX11_digest 252 = .ok (.istore 4, 2) := by decide +kernel
theorem dX11_digest_254 : decode cX11_digest 254 = .ok (.iconst 0, 1) := by decide +kernel
theorem dX11_digest_255 : decode cX11_digest 255 = .ok (.istore 5, 2) := by decide +kernel
theorem dX11_digest_257 : decode cX11_digest 257 = .ok (.iload 5, 2) := by decide +kernel
theorem dX11_digest_259 : decode cX11_digest 259 = .ok (.iload 4, 2) := by decide +kernel
theorem dX11_digest_261 : decode cX11_digest 261 = .ok (.if_icmp .gt 32, 3) := by decide +kernel
theorem dX11_digest_264 : decode cX11_digest 264 = .ok (.ldc2_w 258, 3) := by decide +kernel
theorem dX11_digest_267 : decode cX11_digest 267 = .ok (.lload_n 1, 1) := by decide +kernel
theorem dX11_digest_268 : decode cX11_digest 268 = .ok (.lmul, 1) := by decide +kernel
theorem dX11_digest_269 : decode cX11_digest 269 = .ok (.aload_n 0, 1) := by decide +kernel
theorem dX11_digest_270 : decode cX11_digest 270 = .ok (.getfield 7, 3) := by decide +kernel
theorem dX11_digest_273 : decode cX11_digest 273 = .ok (.bipush 57, 2) := by decide +kernel
theorem dX11_digest_275 : decode cX11_digest 275 = .ok (.bipush 41, 2) := by decide +kernel
theorem dX11_digest_277 : decode cX11_digest 277 = .ok (.iload_n 3, 1) := by decide +kernel
theorem dX11_digest_278 : decode cX11_digest 278 = .ok (.imul, 1) := by decide +kernel
theorem dX11_digest_279 : decode cX11_digest 279 = .ok (.iadd, 1) := by decide +kernel
theorem dX11_digest_280 : decode cX11_digest 280 = .ok (.iload 5, 2) := by decide +kernel
theorem dX11_digest_282 : decode cX11_digest 282 = .ok (.iadd, 1) := by decide +kernel
theorem dX11_digest_283 : decode cX11_digest 283 = .ok (.iaload, 1) := by decide +kernel
theorem dX11_digest_284 : decode cX11_digest 284 = .ok (.i2l, 1) := by decide +kernel
theorem dX11_digest_285 : decode cX11_digest 285 = .ok (.ladd, 1) := by decide +kernel
theorem dX11_digest_286 : decode cX11_digest 286 = .ok (.lstore_n 1, 1) := by decide +kernel
theorem dX11_digest_287 : decode cX11_digest 287 = .ok (.iinc 5 1, 3) := by decide +kernel
theorem dX11_digest_290 : decode cX11_digest 290 = .ok (.goto (-33), 3) := by decide +kernel
theorem dX11_digest_293 : decode cX11_digest 293 = .ok (.iinc 3 1, 3) := by decide +kernel
theorem dX11_digest_296 : decode cX11_digest 296 = .ok (.goto (-61), 3) := by decide +kernel
theorem dX11_digest_299 : decode cX11_digest 299 = .ok (.ldc2_w 258, 3) := by decide +kernel
theorem dX11_digest_302 : decode cX11_digest 302 = .ok (.lload_n 1, 1) := by decide +kernel
theorem dX11_digest_303 : decode cX11_digest 303 = .ok (.lmul, 1) := by decide +kernel
theorem dX11_digest_304 : decode cX11_digest 304 = .ok (.aload_n 0, 1) := by decide +kernel
theorem dX11_digest_305 : decode cX11_digest 305 = .ok (.invokevirtual 217, 3) := by decide +kernel
theorem dX11_digest_308 : decode cX11_digest 308 = .ok (.i2l, 1) := by decide +kernel
theorem dX11_digest_309 : decode cX11_digest 309 = .ok (.ladd, 1) := by decide +kernel
theorem dX11_digest_310 : decode cX11_digest 310 = .ok (.lreturn, 1) := by decide +kernel
theorem dL_law_0 : decode cL_law 0 = .ok (.new 7, 3) := by decide +kernel
theorem dL_law_3 : decode cL_law 3 = .ok (.dup, 1) := by decide +kernel
theorem dL_law_4 : decode cL_law 4 = .ok (.invokespecial 9, 3) := by decide +kernel
theorem dL_law_7 : decode cL_law 7 = .ok (.astore_n 1, 1) := by decide +kernel
theorem dL_law_8 : decode cL_law 8 = .ok (.new 10, 3) := by decide +kernel
theorem dL_law_11 : decode cL_law 11 = .ok (.dup, 1) := by decide +kernel
theorem dL_law_12 : decode cL_law 12 = .ok (.invokespecial 12, 3) := by decide +kernel
theorem dL_law_15 : decode cL_law 15 = .ok (.astore_n 2, 1) := by decide +kernel
theorem dL_law_16 : decode cL_law 16 = .ok (.iconst 0, 1) := by decide +kernel
theorem dL_law_17 : decode cL_law 17 = .ok (.istore_n 3, 1) := by decide +kernel
theorem dL_law_18 : decode cL_law 18 = .ok (.iload_n 3, 1) := by decide +kernel
theorem dL_law_19 : decode cL_law 19 = .ok (.aload_n 0, 1) := by decide +kernel
theorem dL_law_20 : decode cL_law 20 = .ok (.arraylength, 1) := by decide +kernel
theorem dL_law_21 : decode cL_law 21 = .ok (.iconst 5, 1) := by decide +kernel
theorem dL_law_22 : decode cL_law 22 = .ok (.isub, 1) := by decide +kernel
theorem dL_law_23 : decode cL_law 23 = .ok (.if_icmp .gt 770, 3) := by decide +kernel
theorem dL_law_26 : decode cL_law 26 = .ok (.aload_n 0, 1) := by decide +kernel
theorem dL_law_27 : decode cL_law 27 = .ok (.iload_n 3, 1) := by decide +kernel
theorem dL_law_28 : decode cL_law 28 = .ok (.iaload, 1) := by decide +kernel
theorem dL_law_29 : decode cL_law 29 = .ok (.bipush 31, 2) := by decide +kernel
theorem dL_law_31 : decode cL_law 31 = .ok (.iand, 1) := by decide +kernel
theorem dL_law_32 : decode cL_law 32 = .ok (.tableswitch 755 0 23 #[112, 135, 158, 211, 244, 277, 300, 323, 366, 399, 412, 435, 468, 491, 504, 527, 540, 573, 606, 629, 672, 695, 718, 741], 112) := by decide +kernel
theorem dL_law_144 : decode cL_law 144 = .ok (.aload_n 1, 1) := by decide +kernel
theorem dL_law_145 : decode cL_law 145 = .ok (.aload_n 0, 1) := by decide +kernel
theorem dL_law_146 : decode cL_law 146 = .ok (.iload_n 3, 1) := by decide +kernel
theorem dL_law_147 : decode cL_law 147 = .ok (.iconst 1, 1) := by decide +kernel
theorem dL_law_148 : decode cL_law 148 = .ok (.iadd, 1) := by decide +kernel
theorem dL_law_149 : decode cL_law 149 = .ok (.iaload, 1) := by decide +kernel
theorem dL_law_150 : decode cL_law 150 = .ok (.invokevirtual 13, 3) := by decide +kernel
theorem dL_law_153 : decode cL_law 153 = .ok (.aload_n 2, 1) := by decide +kernel
theorem dL_law_154 : decode cL_law 154 = .ok (.aload_n 0, 1) := by decide +kernel
theorem dL_law_155 : decode cL_law 155 = .ok (.iload_n 3, 1) := by decide +kernel
theorem dL_law_156 : decode cL_law 156 = .ok (.iconst 1, 1) := by decide +kernel
theorem dL_law_157 : decode cL_law 157 = .ok (.iadd, 1) := by decide +kernel
theorem dL_law_158 : decode cL_law 158 = .ok (.iaload, 1) := by decide +kernel
theorem dL_law_159 : decode cL_law 159 = .ok (.invokevirtual 17, 3) := by decide +kernel
theorem dL_law_162 : decode cL_law 162 = .ok (.if_icmp .eq 625, 3) := by decide +kernel
theorem dL_law_165 : decode cL_law 165 = .ok (.iconst 0, 1) := by decide +kernel
theorem dL_law_166 : decode cL_law 166 = .ok (.ireturn, 1) := by decide +kernel
theorem dL_law_167 : decode cL_law 167 = .ok (.aload_n 1, 1) := by decide +kernel
theorem dL_law_168 : decode cL_law 168 = .ok (.aload_n 0, 1) := by decide +kernel
theorem dL_law_169 : decode cL_law 169 = .ok (.iload_n 3, 1) := by decide +kernel
theorem dL_law_170 : decode cL_law 170 = .ok (.iconst 1, 1) := by decide +kernel
theorem dL_law_171 : decode cL_law 171 = .ok (.iadd, 1) := by decide +kernel
theorem dL_law_172 : decode cL_law 172 = .ok (.iaload, 1) := by decide +kernel
theorem dL_law_173 : decode cL_law 173 = .ok (.invokevirtual 18, 3) := by decide +kernel
theorem dL_law_176 : decode cL_law 176 = .ok (.aload_n 2, 1) := by decide +kernel
theorem dL_law_177 : decode cL_law 177 = .ok (.aload_n 0, 1) := by decide +kernel
theorem dL_law_178 : decode cL_law 178 = .ok (.iload_n 3, 1) := by decide +kernel
theorem dL_law_179 : decode cL_law 179 = .ok (.iconst 1, 1) := by decide +kernel
theorem dL_law_180 : decode cL_law 180 = .ok (.iadd, 1) := by decide +kernel
theorem dL_law_181 : decode cL_law 181 = .ok (.iaload, 1) := by decide +kernel
theorem dL_law_182 : decode cL_law 182 = .ok (.invokevirtual 21, 3) := by decide +kernel
theorem dL_law_185 : decode cL_law 185 = .ok (.if_icmp .eq 602, 3) := by decide +kernel
theorem dL_law_188 : decode cL_law 188 = .ok (.iconst 0, 1) := by decide +kernel
theorem dL_law_189 : decode cL_law 189 = .ok (.ireturn, 1) := by decide +kernel
theorem dL_law_190 : decode cL_law 190 = .ok (.aload_n 1, 1) := by decide +kernel
theorem dL_law_191 : decode cL_law 191 = .ok (.aload_n 0, 1) := by decide +kernel
theorem dL_law_192 : decode cL_law 192 = .ok (.iload_n 3, 1) := by decide +kernel
theorem dL_law_193 : decode cL_law 193 = .ok (.iconst 1, 1) := by decide +kernel
theorem dL_law_194 : decode cL_law 194 = .ok (.iadd, 1) := by decide +kernel
theorem dL_law_195 : decode cL_law 195 = .ok (.iaload, 1) := by decide +kernel
theorem dL_law_196 : decode cL_law 196 = .ok (.aload_n 0, 1) := by decide +kernel
theorem dL_law_197 : decode cL_law 197 = .ok (.iload_n 3, 1) := by decide +kernel
theorem dL_law_198 : decode cL_law 198 = .ok (.iconst 2, 1) := by decide +kernel
theorem dL_law_199 : decode cL_law 199 = .ok (.iadd, 1) := by decide +kernel
theorem dL_law_200 : decode cL_law 200 = .ok (.iaload, 1) := by decide +kernel
theorem dL_law_201 : decode cL_law 201 = .ok (.aload_n 0, 1) := by decide +kernel
theorem dL_law_202 : decode cL_law 202 = .ok (.iload_n 3, 1) := by decide +kernel
theorem dL_law_203 : decode cL_law 203 = .ok (.iconst 3, 1) := by decide +kernel
theorem dL_law_204 : decode cL_law 204 = .ok (.iadd, 1) := by decide +kernel
theorem dL_law_205 : decode cL_law 205 = .ok (.iaload, 1) := by decide +kernel
theorem dL_law_206 : decode cL_law 206 = .ok (.aload_n 0, 1) := by decide +kernel
theorem dL_law_207 : decode cL_law 207 = .ok (.iload_n 3, 1) := by decide +kernel
theorem dL_law_208 : decode cL_law 208 = .ok (.iconst 4, 1) := by decide +kernel
theorem dL_law_209 : decode cL_law 209 = .ok (.iadd, 1) := by decide +kernel
theorem dL_law_210 : decode cL_law 210 = .ok (.iaload, 1) := by decide +kernel
theorem dL_law_211 : decode cL_law 211 = .ok (.invokevirtual 22, 3) := by decide +kernel
theorem dL_law_214 : decode cL_law 214 = .ok (.aload_n 2, 1) := by decide +kernel
theorem dL_law_215 : decode cL_law 215 = .ok (.aload_n 0, 1) := by decide +kernel
theorem dL_law_216 : decode cL_law 216 = .ok (.iload_n 3, 1) := by decide +kernel
theorem dL_law_217 : decode cL_law 217 = .ok (.iconst 1, 1) := by decide +kernel
theorem dL_law_218 : decode cL_law 218 = .ok (.iadd, 1) := by decide +kernel
theorem dL_law_219 : decode cL_law 219 = .ok (.iaload, 1) := by decide +kernel
theorem dL_law_220 : decode cL_law 220 = .ok (.aload_n 0, 1) := by decide +kernel
theorem dL_law_221 : decode cL_law 221 = .ok (.iload_n 3, 1) := by decide +kernel
theorem dL_law_222 : decode cL_law 222 = .ok (.iconst 2, 1) := by decide +kernel
theorem dL_law_223 : decode cL_law 223 = .ok (.iadd, 1) := by decide +kernel
theorem dL_law_224 : decode cL_law 224 = .ok (.iaload, 1) := by decide +kernel
theorem dL_law_225 : decode cL_law 225 = .ok (.aload_n 0, 1) := by decide +kernel
theorem dL_law_226 : decode cL_law 226 = .ok (.iload_n 3, 1) := by decide +kernel
theorem dL_law_227 : decode cL_law 227 = .ok (.iconst 3, 1) := by decide +kernel
theorem dL_law_228 : decode cL_law 228 = .ok (.iadd, 1) := by decide +kernel
theorem dL_law_229 : decode cL_law 229 = .ok (.iaload, 1) := by decide +kernel
theorem dL_law_230 : decode cL_law 230 = .ok (.aload_n 0, 1) := by decide +kernel
theorem dL_law_231 : decode cL_law 231 = .ok (.iload_n 3, 1) := by decide +kernel
theorem dL_law_232 : decode cL_law 232 = .ok (.iconst 4, 1) := by decide +kernel
theorem dL_law_233 : decode cL_law 233 = .ok (.iadd, 1) := by decide +kernel
theorem dL_law_234 : decode cL_law 234 = .ok (.iaload, 1) := by decide +kernel
theorem dL_law_235 : decode cL_law 235 = .ok (.invokevirtual 26, 3) := by decide +kernel
theorem dL_law_238 : decode cL_law 238 = .ok (.if_icmp .eq 549, 3) := by decide +kernel
theorem dL_law_241 : decode cL_law 241 = .ok (.iconst 0, 1) := by decide +kernel
theorem dL_law_242 : decode cL_law 242 = .ok (.ireturn, 1) := by decide +kernel
theorem dL_law_243 : decode cL_law 243 = .ok (.aload_n 1, 1) := by decide +kernel
theorem dL_law_244 : decode cL_law 244 = .ok (.aload_n 0, 1) := by decide +kernel
theorem dL_law_245 : decode cL_law 245 = .ok (.iload_n 3, 1) := by decide +kernel
theorem dL_law_246 : decode cL_law 246 = .ok (.iconst 1, 1) := by decide +kernel
theorem dL_law_247 : decode cL_law 247 = .ok (.iadd, 1) := by decide +kernel
theorem dL_law_248 : decode cL_law 248 = .ok (.iaload, 1) := by decide +kernel
theorem dL_law_249 : decode cL_law 249 = .ok (.aload_n 0, 1) := by decide +kernel
theorem dL_law_250 : decode cL_law 250 = .ok (.iload_n 3, 1) := by decide +kernel
theorem dL_law_251 : decode cL_law 251 = .ok (.iconst 2, 1) := by decide +kernel
theorem dL_law_252 : decode cL_law 252 = .ok (.iadd, 1) := by decide +kernel
theorem dL_law_253 : decode cL_law 253 = .ok (.iaload, 1) := by decide +kernel
theorem dL_law_254 : decode cL_law 254 = .ok (.invokevirtual 27, 3) := by decide +kernel
theorem dL_law_257 : decode cL_law 257 = .ok (.aload_n 2, 1) := by decide +kernel
theorem dL_law_258 : decode cL_law 258 = .ok (.aload_n 0, 1) := by decide +kernel
theorem dL_law_259 : decode cL_law 259 = .ok (.iload_n 3, 1) := by decide +kernel
theorem dL_law_260 : decode cL_law 260 = .ok (.iconst 1, 1) := by decide +kernel
theorem dL_law_261 : decode cL_law 261 = .ok (.iadd, 1) := by decide +kernel
theorem dL_law_262 : decode cL_law 262 = .ok (.iaload, 1) := by decide +kernel
theorem dL_law_263 : decode cL_law 263 = .ok (.aload_n 0, 1) := by decide +kernel
theorem dL_law_264 : decode cL_law 264 = .ok (.iload_n 3, 1) := by decide +kernel
theorem dL_law_265 : decode cL_law 265 = .ok (.iconst 2, 1) := by decide +kernel
theorem dL_law_266 : decode cL_law 266 = .ok (.iadd, 1) := by decide +kernel
theorem dL_law_267 : decode cL_law 267 = .ok (.iaload, 1) := by decide +kernel
theorem dL_law_268 : decode cL_law 268 = .ok (.invokevirtual 31, 3) := by decide +kernel
theorem dL_law_271 : decode cL_law 271 = .ok (.if_icmp .eq 516, 3) := by decide +kernel
theorem dL_law_274 : decode cL_law 274 = .ok (.iconst 0, 1) := by decide +kernel
theorem dL_law_275 : decode cL_law 275 = .ok (.ireturn, 1) := by decide +kernel
theorem dL_law_276 : decode cL_law 276 = .ok (.aload_n 1, 1) := by decide +kernel
theorem dL_law_277 : decode cL_law 277 = .ok (.aload_n 0, 1) := by decide +kernel
theorem dL_law_278 : decode cL_law 278 = .ok (.iload_n 3, 1) := by decide +kernel
theorem dL_law_279 : decode cL_law 279 = .ok (.iconst 1, 1) := by decide +kernel
theorem dL_law_280 : decode cL_law 280 = .ok (.iadd, 1) := by decide +kernel
theorem dL_law_281 : decode cL_law 281 = .ok (.iaload, 1) := by decide +kernel
theorem dL_law_282 : decode cL_law 282 = .ok (.aload_n 0, 1) := by decide +kernel
theorem dL_law_283 : decode cL_law 283 = .ok (.iload_n 3, 1) := by decide +kernel
theorem dL_law_284 : decode cL_law 284 = .ok (.iconst 2, 1) := by decide +kernel
theorem dL_law_285 : decode cL_law 285 = .ok (.iadd, 1) := by decide +kernel
theorem dL_law_286 : decode cL_law 286 = .ok (.iaload, 1) := by decide +kernel
theorem dL_law_287 : decode cL_law 287 = .ok (.invokevirtual 32, 3) := by decide +kernel
theorem dL_law_290 : decode cL_law 290 = .ok (.aload_n 2, 1) := by decide +kernel
theorem dL_law_291 : decode cL_law 291 = .ok (.aload_n 0, 1) := by decide +kernel
theorem dL_law_292 : decode cL_law 292 = .ok (.iload_n 3, 1) := by decide +kernel
theorem dL_law_293 : decode cL_law 293 = .ok (.iconst 1, 1) := by decide +kernel
theorem dL_law_294 : decode cL_law 294 = .ok (.iadd, 1) := by decide +kernel
theorem dL_law_295 : decode cL_law 295 = .ok (.iaload, 1) := by decide +kernel
theorem dL_law_296 : decode cL_law 296 = .ok (.aload_n 0, 1) := by decide +kernel
theorem dL_law_297 : decode cL_law 297 = .ok (.iload_n 3, 1) := by decide +kernel
theorem dL_law_298 : decode cL_law 298 = .ok (.iconst 2, 1) := by decide +kernel
theorem dL_law_299 : decode cL_law 299 = .ok (.iadd, 1) := by decide +kernel
theorem dL_law_300 : decode cL_law 300 = .ok (.iaload, 1) := by decide +kernel
theorem dL_law_301 : decode cL_law 301 = .ok (.invokevirtual 35, 3) := by decide +kernel
theorem dL_law_304 : decode cL_law 304 = .ok (.if_icmp .eq 483, 3) := by decide +kernel
theorem dL_law_307 : decode cL_law 307 = .ok (.iconst 0, 1) := by decide +kernel
theorem dL_law_308 : decode cL_law 308 = .ok (.ireturn, 1) := by decide +kernel
theorem dL_law_309 : decode cL_law 309 = .ok (.aload_n 1, 1) := by decide +kernel
theorem dL_law_310 : decode cL_law 310 = .ok (.aload_n 0, 1) := by decide +kernel
theorem dL_law_311 : decode cL_law 311 = .ok (.iload_n 3, 1) := by decide +kernel
theorem dL_law_312 : decode cL_law 312 = .ok (.iconst 1, 1) := by decide +kernel
theorem dL_law_313 : decode cL_law 313 = .ok (.iadd, 1) := by decide +kernel
theorem dL_law_314 : decode cL_law 314 = .ok (.iaload, 1) := by decide +kernel
theorem dL_law_315 : decode cL_law 315 = .ok (.invokevirtual 36, 3) := by decide +kernel
theorem dL_law_318 : decode cL_law 318 = .ok (.aload_n 2, 1) := by decide +kernel
theorem dL_law_319 : decode cL_law 319 = .ok (.aload_n 0, 1) := by decide +kernel
theorem dL_law_320 : decode cL_law 320 = .ok (.iload_n 3, 1) := by decide +kernel
theorem dL_law_321 : decode cL_law 321 = .ok (.iconst 1, 1) := by decide +kernel
theorem dL_law_322 : decode cL_law 322 = .ok (.iadd, 1) := by decide +kernel
theorem dL_law_323 : decode cL_law 323 = .ok (.iaload, 1) := by decide +kernel
theorem dL_law_324 : decode cL_law 324 = .ok (.invokevirtual 39, 3) := by decide +kernel
theorem dL_law_327 : decode cL_law 327 = .ok (.if_icmp .eq 460, 3) := by decide +kernel
theorem dL_law_330 : decode cL_law 330 = .ok (.iconst 0, 1) := by decide +kernel
theorem dL_law_331 : decode cL_law 331 = .ok (.ireturn, 1) := by decide +kernel
theorem dL_law_332 : decode cL_law 332 = .ok (.aload_n 1, 1) := by decide +kernel
theorem dL_law_333 : decode cL_law 333 = .ok (.aload_n 0, 1) := by decide +kernel
theorem dL_law_334 : decode cL_law 334 = .ok (.iload_n 3, 1) := by decide +kernel
theorem dL_law_335 : decode cL_law 335 = .ok (.iconst 1, 1) := by decide +kernel
theorem dL_law_336 : decode cL_law 336 = .ok (.iadd, 1) := by decide +kernel
theorem dL_law_337 : decode cL_law 337 = .ok (.iaload, 1) := by decide +kernel
theorem dL_law_338 : decode cL_law 338 = .ok (.invokevirtual 40, 3) := by decide +kernel
theorem dL_law_341 : decode cL_law 341 = .ok (.aload_n 2, 1) := by decide +kernel
theorem dL_law_342 : decode cL_law 342 = .ok (.aload_n 0, 1) := by decide +kernel
theorem dL_law_343 : decode cL_law 343 = .ok (.iload_n 3, 1) := by decide +kernel
theorem dL_law_344 : decode cL_law 344 = .ok (.iconst 1, 1) := by decide +kernel
theorem dL_law_345 : decode cL_law 345 = .ok (.iadd, 1) := by decide +kernel
theorem dL_law_346 : decode cL_law 346 = .ok (.iaload, 1) := by decide +kernel
theorem dL_law_347 : decode cL_law 347 = .ok (.invokevirtual 43, 3) := by decide +kernel
theorem dL_law_350 : decode cL_law 350 = .ok (.if_icmp .eq 437, 3) := by decide +kernel
theorem dL_law_353 : decode cL_law 353 = .ok (.iconst 0, 1) := by decide +kernel
theorem dL_law_354 : decode cL_law 354 = .ok (.ireturn, 1) := by decide +kernel
theorem dL_law_355 : decode cL_law 355 = .ok (.aload_n 1, 1) := by decide +kernel
theorem dL_law_356 : decode cL_law 356 = .ok (.aload_n 0, 1) := by decide +kernel
theorem dL_law_357 : decode cL_law 357 = .ok (.iload_n 3, 1) := by decide +kernel
theorem dL_law_358 : decode cL_law 358 = .ok (.iconst 1, 1) := by decide +kernel
theorem dL_law_359 : decode cL_law 359 = .ok (.iadd, 1) := by decide +kernel
theorem dL_law_360 : decode cL_law 360 = .ok (.iaload, 1) := by decide +kernel
theorem dL_law_361 : decode cL_law 361 = .ok (.aload_n 0, 1) := by decide +kernel
theorem dL_law_362 : decode cL_law 362 = .ok (.iload_n 3, 1) := by decide +kernel
theorem dL_law_363 : decode cL_law 363 = .ok (.iconst 2, 1) := by decide +kernel
theorem dL_law_364 : decode cL_law 364 = .ok (.iadd, 1) := by decide +kernel
theorem dL_law_365 : decode cL_law 365 = .ok (.iaload, 1) := by decide +kernel
theorem dL_law_366 : decode cL_law 366 = .ok (.aload_n 0, 1) := by decide +kernel
theorem dL_law_367 : decode cL_law 367 = .ok (.iload_n 3, 1) := by decide +kernel
theorem dL_law_368 : decode cL_law 368 = .ok (.iconst 3, 1) := by decide +kernel
theorem dL_law_369 : decode cL_law 369 = .ok (.iadd, 1) := by decide +kernel
theorem dL_law_370 : decode cL_law 370 = .ok (.iaload, 1) := by decide +kernel
theorem dL_law_371 : decode cL_law 371 = .ok (.invokevirtual 44, 3) := by decide +kernel
theorem dL_law_374 : decode cL_law 374 = .ok (.aload_n 2, 1) := by decide +kernel
theorem dL_law_375 : decode cL_law 375 = .ok (.aload_n 0, 1) := by decide +kernel
theorem dL_law_376 : decode cL_law 376 = .ok (.iload_n 3, 1) := by decide +kernel
theorem dL_law_377 : decode cL_law 377 = .ok (.iconst 1, 1) := by decide +kernel
theorem dL_law_378 : decode cL_law 378 = .ok (.iadd, 1) := by decide +kernel
theorem dL_law_379 : decode cL_law 379 = .ok (.iaload, 1) := by decide +kernel
theorem dL_law_380 : decode cL_law 380 = .ok (.aload_n 0, 1) := by decide +kernel
theorem dL_law_381 : decode cL_law 381 = .ok (.iload_n 3, 1) := by decide +kernel
theorem dL_law_382 : decode cL_law 382 = .ok (.iconst 2, 1) := by decide +kernel
theorem dL_law_383 : decode cL_law 383 = .ok (.iadd, 1) := by decide +kernel
theorem dL_law_384 : decode cL_law 384 = .ok (.iaload, 1) := by decide +kernel
theorem dL_law_385 : decode cL_law 385 = .ok (.aload_n 0, 1) := by decide +kernel
theorem dL_law_386 : decode cL_law 386 = .ok (.iload_n 3, 1) := by decide +kernel
theorem dL_law_387 : decode cL_law 387 = .ok (.iconst 3, 1) := by decide +kernel
theorem dL_law_388 : decode cL_law 388 = .ok (.iadd, 1) := by decide +kernel
theorem dL_law_389 : decode cL_law 389 = .ok (.iaload, 1) := by decide +kernel
theorem dL_law_390 : decode cL_law 390 = .ok (.invokevirtual 48, 3) := by decide +kernel
theorem dL_law_393 : decode cL_law 393 = .ok (.if_icmp .eq 394, 3) := by decide +kernel
theorem dL_law_396 : decode cL_law 396 = .ok (.iconst 0, 1) := by decide +kernel
theorem dL_law_397 : decode cL_law 397 = .ok (.ireturn, 1) := by decide +kernel
theorem dL_law_398 : decode cL_law 398 = .ok (.aload_n 1, 1) := by decide +kernel
theorem dL_law_399 : decode cL_law 399 = .ok (.aload_n 0, 1) := by decide +kernel
theorem dL_law_400 : decode cL_law 400 = .ok (.iload_n 3, 1) := by decide +kernel
theorem dL_law_401 : decode cL_law 401 = .ok (.iconst 1, 1) := by decide +kernel
theorem dL_law_402 : decode cL_law 402 = .ok (.iadd, 1) := by decide +kernel
theorem dL_law_403 : decode cL_law 403 = .ok (.iaload, 1) := by decide +kernel
theorem dL_law_404 : decode cL_law 404 = .ok (.aload_n 0, 1) := by decide +kernel
theorem dL_law_405 : decode cL_law 405 = .ok (.iload_n 3, 1) := by decide +kernel
theorem dL_law_406 : decode cL_law 406 = .ok (.iconst 2, 1) := by decide +kernel
theorem dL_law_407 : decode cL_law 407 = .ok (.iadd, 1) := by decide +kernel
theorem dL_law_408 : decode cL_law 408 = .ok (.iaload, 1) := by decide +kernel
theorem dL_law_409 : decode cL_law 409 = .ok (.invokevirtual 49, 3) := by decide +kernel
theorem dL_law_412 : decode cL_law 412 = .ok (.aload_n 2, 1) := by decide +kernel
theorem dL_law_413 : decode cL_law 413 = .ok (.aload_n 0, 1) := by decide +kernel
theorem dL_law_414 : decode cL_law 414 = .ok (.iload_n 3, 1) := by decide +kernel
theorem dL_law_415 : decode cL_law 415 = .ok (.iconst 1, 1) := by decide +kernel
theorem dL_law_416 : decode cL_law 416 = .ok (.iadd, 1) := by decide +kernel
theorem dL_law_417 : decode cL_law 417 = .ok (.iaload, 1) := by decide +kernel
theorem dL_law_418 : decode cL_law 418 = .ok (.aload_n 0, 1) := by decide +kernel
theorem dL_law_419 : decode cL_law 419 = .ok (.iload_n 3, 1) := by decide +kernel
theorem dL_law_420 : decode cL_law 420 = .ok (.iconst 2, 1) := by decide +kernel
theorem dL_law_421 : decode cL_law 421 = .ok (.iadd, 1) := by decide +kernel
theorem dL_law_422 : decode cL_law 422 = .ok (.iaload, 1) := by decide +kernel
theorem dL_law_423 : decode cL_law 423 = .ok (.invokevirtual 52, 3) := by decide +kernel
theorem dL_law_426 : decode cL_law 426 = .ok (.if_icmp .eq 361, 3) := by decide +kernel
theorem dL_law_429 : decode cL_law 429 = .ok (.iconst 0, 1) := by decide +kernel
theorem dL_law_430 : decode cL_law 430 = .ok (.ireturn, 1) := by decide +kernel
theorem dL_law_431 : decode cL_law 431 = .ok (.aload_n 1, 1) := by decide +kernel
theorem dL_law_432 : decode cL_law 432 = .ok (.invokevirtual 53, 3) := by decide +kernel
theorem dL_law_435 : decode cL_law 435 = .ok (.aload_n 2, 1) := by decide +kernel
theorem dL_law_436 : decode cL_law 436 = .ok (.invokevirtual 57, 3) := by decide +kernel
theorem dL_law_439 : decode cL_law 439 = .ok (.if_icmp .eq 348, 3) := by decide +kernel
theorem dL_law_442 : decode cL_law 442 = .ok (.iconst 0, 1) := by decide +kernel
theorem dL_law_443 : decode cL_law 443 = .ok (.ireturn, 1) := by decide +kernel
theorem dL_law_444 : decode cL_law 444 = .ok (.aload_n 1, 1) := by decide +kernel
theorem dL_law_445 : decode cL_law 445 = .ok (.aload_n 0, 1) := by decide +kernel
theorem dL_law_446 : decode cL_law 446 = .ok (.iload_n 3, 1) := by decide +kernel
theorem dL_law_447 : decode cL_law 447 = .ok (.iconst 1, 1) := by decide +kernel
theorem dL_law_448 : decode cL_law 448 = .ok (.iadd, 1) := by decide +kernel
theorem dL_law_449 : decode cL_law 449 = .ok (.iaload, 1) := by decide +kernel
theorem dL_law_450 : decode cL_law 450 = .ok (.invokevirtual 58, 3) := by decide +kernel
theorem dL_law_453 : decode cL_law 453 = .ok (.aload_n 2, 1) := by decide +kernel
theorem dL_law_454 : decode cL_law 454 = .ok (.aload_n 0, 1) := by decide +kernel
theorem dL_law_455 : decode cL_law 455 = .ok (.iload_n 3, 1) := by decide +kernel
theorem dL_law_456 : decode cL_law 456 = .ok (.iconst 1, 1) := by decide +kernel
theorem dL_law_457 : decode cL_law 457 = .ok (.iadd, 1) := by decide +kernel
theorem dL_law_458 : decode cL_law 458 = .ok (.iaload, 1) := by decide +kernel
theorem dL_law_459 : decode cL_law 459 = .ok (.invokevirtual 61, 3) := by decide +kernel
theorem dL_law_462 : decode cL_law 462 = .ok (.if_icmp .eq 325, 3) := by decide +kernel
theorem dL_law_465 : decode cL_law 465 = .ok (.iconst 0, 1) := by decide +kernel
theorem dL_law_466 : decode cL_law 466 = .ok (.ireturn, 1) := by decide +kernel
theorem dL_law_467 : decode cL_law 467 = .ok (.aload_n 1, 1) := by decide +kernel
theorem dL_law_468 : decode cL_law 468 = .ok (.aload_n 0, 1) := by decide +kernel
theorem dL_law_469 : decode cL_law 469 = .ok (.iload_n 3, 1) := by decide +kernel
theorem dL_law_470 : decode cL_law 470 = .ok (.iconst 1, 1) := by decide +kernel
theorem dL_law_471 : decode cL_law 471 = .ok (.iadd, 1) := by decide +kernel
theorem dL_law_472 : decode cL_law 472 = .ok (.iaload, 1) := by decide +kernel
theorem dL_law_473 : decode cL_law 473 = .ok (.aload_n 0, 1) := by decide +kernel
theorem dL_law_474 : decode cL_law 474 = .ok (.iload_n 3, 1) := by decide +kernel
theorem dL_law_475 : decode cL_law 475 = .ok (.iconst 2, 1) := by decide +kernel
theorem dL_law_476 : decode cL_law 476 = .ok (.iadd, 1) := by decide +kernel
theorem dL_law_477 : decode cL_law 477 = .ok (.iaload, 1) := by decide +kernel
theorem dL_law_478 : decode cL_law 478 = .ok (.invokevirtual 62, 3) := by decide +kernel
theorem dL_law_481 : decode cL_law 481 = .ok (.aload_n 2, 1) := by decide +kernel
theorem dL_law_482 : decode cL_law 482 = .ok (.aload_n 0, 1) := by decide +kernel
theorem dL_law_483 : decode cL_law 483 = .ok (.iload_n 3, 1) := by decide +kernel
theorem dL_law_484 : decode cL_law 484 = .ok (.iconst 1, 1) := by decide +kernel
theorem dL_law_485 : decode cL_law 485 = .ok (.iadd, 1) := by decide +kernel
theorem dL_law_486 : decode cL_law 486 = .ok (.iaload, 1) := by decide +kernel
theorem dL_law_487 : decode cL_law 487 = .ok (.aload_n 0, 1) := by decide +kernel
theorem dL_law_488 : decode cL_law 488 = .ok (.iload_n 3, 1) := by decide +kernel
theorem dL_law_489 : decode cL_law 489 = .ok (.iconst 2, 1) := by decide +kernel
theorem dL_law_490 : decode cL_law 490 = .ok (.iadd, 1) := by decide +kernel
theorem dL_law_491 : decode cL_law 491 = .ok (.iaload, 1) := by decide +kernel
theorem dL_law_492 : decode cL_law 492 = .ok (.invokevirtual 65, 3) := by decide +kernel
theorem dL_law_495 : decode cL_law 495 = .ok (.if_icmp .eq 292, 3) := by decide +kernel
theorem dL_law_498 : decode cL_law 498 = .ok (.iconst 0, 1) := by decide +kernel
theorem dL_law_499 : decode cL_law 499 = .ok (.ireturn, 1) := by decide +kernel
theorem dL_law_500 : decode cL_law 500 = .ok (.aload_n 1, 1) := by decide +kernel
theorem dL_law_501 : decode cL_law 501 = .ok (.aload_n 0, 1) := by decide +kernel
theorem dL_law_502 : decode cL_law 502 = .ok (.iload_n 3, 1) := by decide +kernel
theorem dL_law_503 : decode cL_law 503 = .ok (.iconst 1, 1) := by decide +kernel
theorem dL_law_504 : decode cL_law 504 = .ok (.iadd, 1) := by decide +kernel
theorem dL_law_505 : decode cL_law 505 = .ok (.iaload, 1) := by decide +kernel
theorem dL_law_506 : decode cL_law 506 = .ok (.invokevirtual 66, 3) := by decide +kernel
theorem dL_law_509 : decode cL_law 509 = .ok (.aload_n 2, 1) := by decide +kernel
theorem dL_law_510 : decode cL_law 510 = .ok (.aload_n 0, 1) := by decide +kernel
theorem dL_law_511 : decode cL_law 511 = .ok (.iload_n 3, 1) := by decide +kernel
theorem dL_law_512 : decode cL_law 512 = .ok (.iconst 1, 1) := by decide +kernel
theorem dL_law_513 : decode cL_law 513 = .ok (.iadd, 1) := by decide +kernel
theorem dL_law_514 : decode cL_law 514 = .ok (.iaload, 1) := by decide +kernel
theorem dL_law_515 : decode cL_law 515 = .ok (.invokevirtual 69, 3) := by decide +kernel
theorem dL_law_518 : decode cL_law 518 = .ok (.if_icmp .eq 269, 3) := by decide +kernel
theorem dL_law_521 : decode cL_law 521 = .ok (.iconst 0, 1) := by decide +kernel
theorem dL_law_522 : decode cL_law 522 = .ok (.ireturn, 1) := by decide +kernel
theorem dL_law_523 : decode cL_law 523 = .ok (.aload_n 1, 1) := by decide +kernel
theorem dL_law_524 : decode cL_law 524 = .ok (.invokevirtual 70, 3) := by decide +kernel
theorem dL_law_527 : decode cL_law 527 = .ok (.aload_n 2, 1) := by decide +kernel
theorem dL_law_528 : decode cL_law 528 = .ok (.invokevirtual 73, 3) := by decide +kernel
theorem dL_law_531 : decode cL_law 531 = .ok (.if_icmp .eq 256, 3) := by decide +kernel
theorem dL_law_534 : decode cL_law 534 = .ok (.iconst 0, 1) := by decide +kernel
theorem dL_law_535 : decode cL_law 535 = .ok (.ireturn, 1) := by decide +kernel
theorem dL_law_536 : decode cL_law 536 = .ok (.aload_n 1, 1) := by decide +kernel
theorem dL_law_537 : decode cL_law 537 = .ok (.aload_n 0, 1) := by decide +kernel
theorem dL_law_538 : decode cL_law 538 = .ok (.iload_n 3, 1) := by decide +kernel
theorem dL_law_539 : decode cL_law 539 = .ok (.iconst 1, 1) := by decide +kernel
theorem dL_law_540 : decode cL_law 540 = .ok (.iadd, 1) := by decide +kernel
theorem dL_law_541 : decode cL_law 541 = .ok (.iaload, 1) := by decide +kernel
theorem dL_law_542 : decode cL_law 542 = .ok (.invokevirtual 74, 3) := by decide +kernel
theorem dL_law_545 : decode cL_law 545 = .ok (.aload_n 2, 1) := by decide +kernel
theorem dL_law_546 : decode cL_law 546 = .ok (.aload_n 0, 1) := by decide +kernel
theorem dL_law_547 : decode cL_law 547 = .ok (.iload_n 3, 1) := by decide +kernel
theorem dL_law_548 : decode cL_law 548 = .ok (.iconst 1, 1) := by decide +kernel
theorem dL_law_549 : decode cL_law 549 = .ok (.iadd, 1) := by decide +kernel
theorem dL_law_550 : decode cL_law 550 = .ok (.iaload, 1) := by decide +kernel
theorem dL_law_551 : decode cL_law 551 = .ok (.invokevirtual 77, 3) := by decide +kernel
theorem dL_law_554 : decode cL_law 554 = .ok (.if_icmp .eq 233, 3) := by decide +kernel
theorem dL_law_557 : decode cL_law 557 = .ok (.iconst 0, 1) := by decide +kernel
theorem dL_law_558 : decode cL_law 558 = .ok (.ireturn, 1) := by decide +kernel
theorem dL_law_559 : decode cL_law 559 = .ok (.aload_n 1, 1) := by decide +kernel
theorem dL_law_560 : decode cL_law 560 = .ok (.invokevirtual 78, 3) := by decide +kernel
theorem dL_law_563 : decode cL_law 563 = .ok (.aload_n 2, 1) := by decide +kernel
theorem dL_law_564 : decode cL_law 564 = .ok (.invokevirtual 81, 3) := by decide +kernel
theorem dL_law_567 : decode cL_law 567 = .ok (.if_icmp .eq 220, 3) := by decide +kernel
theorem dL_law_570 : decode cL_law 570 = .ok (.iconst 0, 1) := by decide +kernel
theorem dL_law_571 : decode cL_law 571 = .ok (.ireturn, 1) := by decide +kernel
theorem dL_law_572 : decode cL_law 572 = .ok (.aload_n 1, 1) := by decide +kernel
theorem dL_law_573 : decode cL_law 573 = .ok (.aload_n 0, 1) := by decide +kernel
theorem dL_law_574 : decode cL_law 574 = .ok (.iload_n 3, 1) := by decide +kernel
theorem dL_law_575 : decode cL_law 575 = .ok (.iconst 1, 1) := by decide +kernel
theorem dL_law_576 : decode cL_law 576 = .ok (.iadd, 1) := by decide +kernel
theorem dL_law_577 : decode cL_law 577 = .ok (.iaload, 1) := by decide +kernel
theorem dL_law_578 : decode cL_law 578 = .ok (.aload_n 0, 1) := by decide +kernel
theorem dL_law_579 : decode cL_law 579 = .ok (.iload_n 3, 1) := by decide +kernel
theorem dL_law_580 : decode cL_law 580 = .ok (.iconst 2, 1) := by decide +kernel
theorem dL_law_581 : decode cL_law 581 = .ok (.iadd, 1) := by decide +kernel
theorem dL_law_582 : decode cL_law 582 = .ok (.iaload, 1) := by decide +kernel
theorem dL_law_583 : decode cL_law 583 = .ok (.invokevirtual 82, 3) := by decide +kernel
theorem dL_law_586 : decode cL_law 586 = .ok (.aload_n 2, 1) := by decide +kernel
theorem dL_law_587 : decode cL_law 587 = .ok (.aload_n 0, 1) := by decide +kernel
theorem dL_law_588 : decode cL_law 588 = .ok (.iload_n 3, 1) := by decide +kernel
theorem dL_law_589 : decode cL_law 589 = .ok (.iconst 1, 1) := by decide +kernel
theorem dL_law_590 : decode cL_law 590 = .ok (.iadd, 1) := by decide +kernel
theorem dL_law_591 : decode cL_law 591 = .ok (.iaload, 1) := by decide +kernel
theorem dL_law_592 : decode cL_law 592 = .ok (.aload_n 0, 1) := by decide +kernel
theorem dL_law_593 : decode cL_law 593 = .ok (.iload_n 3, 1) := by decide +kernel
theorem dL_law_594 : decode cL_law 594 = .ok (.iconst 2, 1) := by decide +kernel
theorem dL_law_595 : decode cL_law 595 = .ok (.iadd, 1) := by decide +kernel
theorem dL_law_596 : decode cL_law 596 = .ok (.iaload, 1) := by decide +kernel
theorem dL_law_597 : decode cL_law 597 = .ok (.invokevirtual 85, 3) := by decide +kernel
theorem dL_law_600 : decode cL_law 600 = .ok (.if_icmp .eq 187, 3) := by decide +kernel
theorem dL_law_603 : decode cL_law 603 = .ok (.iconst 0, 1) := by decide +kernel
theorem dL_law_604 : decode cL_law 604 = .ok (.ireturn, 1) := by decide +kernel
theorem dL_law_605 : decode cL_law 605 = .ok (.aload_n 1, 1) := by decide +kernel
theorem dL_law_606 : decode cL_law 606 = .ok (.aload_n 0, 1) := by decide +kernel
theorem dL_law_607 : decode cL_law 607 = .ok (.iload_n 3, 1) := by decide +kernel
theorem dL_law_608 : decode cL_law 608 = .ok (.iconst 1, 1) := by decide +kernel
theorem dL_law_609 : decode cL_law 609 = .ok (.iadd, 1) := by decide +kernel
theorem dL_law_610 : decode cL_law 610 = .ok (.iaload, 1) := by decide +kernel
theorem dL_law_611 : decode cL_law 611 = .ok (.aload_n 0, 1) := by decide +kernel
theorem dL_law_612 : decode cL_law 612 = .ok (.iload_n 3, 1) := by decide +kernel
theorem dL_law_613 : decode cL_law 613 = .ok (.iconst 2, 1) := by decide +kernel
theorem dL_law_614 : decode cL_law 614 = .ok (.iadd, 1) := by decide +kernel
theorem dL_law_615 : decode cL_law 615 = .ok (.iaload, 1) := by decide +kernel
theorem dL_law_616 : decode cL_law 616 = .ok (.invokevirtual 86, 3) := by decide +kernel
theorem dL_law_619 : decode cL_law 619 = .ok (.aload_n 2, 1) := by decide +kernel
theorem dL_law_620 : decode cL_law 620 = .ok (.aload_n 0, 1) := by decide +kernel
theorem dL_law_621 : decode cL_law 621 = .ok (.iload_n 3, 1) := by decide +kernel
theorem dL_law_622 : decode cL_law 622 = .ok (.iconst 1, 1) := by decide +kernel
theorem dL_law_623 : decode cL_law 623 = .ok (.iadd, 1) := by decide +kernel
theorem dL_law_624 : decode cL_law 624 = .ok (.iaload, 1) := by decide +kernel
theorem dL_law_625 : decode cL_law 625 = .ok (.aload_n 0, 1) := by decide +kernel
theorem dL_law_626 : decode cL_law 626 = .ok (.iload_n 3, 1) := by decide +kernel
theorem dL_law_627 : decode cL_law 627 = .ok (.iconst 2, 1) := by decide +kernel
theorem dL_law_628 : decode cL_law 628 = .ok (.iadd, 1) := by decide +kernel
theorem dL_law_629 : decode cL_law 629 = .ok (.iaload, 1) := by decide +kernel
theorem dL_law_630 : decode cL_law 630 = .ok (.invokevirtual 89, 3) := by decide +kernel
theorem dL_law_633 : decode cL_law 633 = .ok (.if_icmp .eq 154, 3) := by decide +kernel
theorem dL_law_636 : decode cL_law 636 = .ok (.iconst 0, 1) := by decide +kernel
theorem dL_law_637 : decode cL_law 637 = .ok (.ireturn, 1) := by decide +kernel
theorem dL_law_638 : decode cL_law 638 = .ok (.aload_n 1, 1) := by decide +kernel
theorem dL_law_639 : decode cL_law 639 = .ok (.aload_n 0, 1) := by decide +kernel
theorem dL_law_640 : decode cL_law 640 = .ok (.iload_n 3, 1) := by decide +kernel
theorem dL_law_641 : decode cL_law 641 = .ok (.iconst 1, 1) := by decide +kernel
theorem dL_law_642 : decode cL_law 642 = .ok (.iadd, 1) := by decide +kernel
theorem dL_law_643 : decode cL_law 643 = .ok (.iaload, 1) := by decide +kernel
theorem dL_law_644 : decode cL_law 644 = .ok (.invokevirtual 90, 3) := by decide +kernel
theorem dL_law_647 : decode cL_law 647 = .ok (.aload_n 2, 1) := by decide +kernel
theorem dL_law_648 : decode cL_law 648 = .ok (.aload_n 0, 1) := by decide +kernel
theorem dL_law_649 : decode cL_law 649 = .ok (.iload_n 3, 1) := by decide +kernel
theorem dL_law_650 : decode cL_law 650 = .ok (.iconst 1, 1) := by decide +kernel
theorem dL_law_651 : decode cL_law 651 = .ok (.iadd, 1) := by decide +kernel
theorem dL_law_652 : decode cL_law 652 = .ok (.iaload, 1) := by decide +kernel
theorem dL_law_653 : decode cL_law 653 = .ok (.invokevirtual 93, 3) := by decide +kernel
theorem dL_law_656 : decode cL_law 656 = .ok (.if_icmp .eq 131, 3) := by decide +kernel
theorem dL_law_659 : decode cL_law 659 = .ok (.iconst 0, 1) := by decide +kernel
theorem dL_law_660 : decode cL_law 660 = .ok (.ireturn, 1) := by decide +kernel
theorem dL_law_661 : decode cL_law 661 = .ok (.aload_n 1, 1) := by decide +kernel
theorem dL_law_662 : decode cL_law 662 = .ok (.aload_n 0, 1) := by decide +kernel
theorem dL_law_663 : decode cL_law 663 = .ok (.iload_n 3, 1) := by decide +kernel
theorem dL_law_664 : decode cL_law 664 = .ok (.iconst 1, 1) := by decide +kernel
theorem dL_law_665 : decode cL_law 665 = .ok (.iadd, 1) := by decide +kernel
theorem dL_law_666 : decode cL_law 666 = .ok (.iaload, 1) := by decide +kernel
theorem dL_law_667 : decode cL_law 667 = .ok (.aload_n 0, 1) := by decide +kernel
theorem dL_law_668 : decode cL_law 668 = .ok (.iload_n 3, 1) := by decide +kernel
theorem dL_law_669 : decode cL_law 669 = .ok (.iconst 2, 1) := by decide +kernel
theorem dL_law_670 : decode cL_law 670 = .ok (.iadd, 1) := by decide +kernel
theorem dL_law_671 : decode cL_law 671 = .ok (.iaload, 1) := by decide +kernel
theorem dL_law_672 : decode cL_law 672 = .ok (.aload_n 0, 1) := by decide +kernel
theorem dL_law_673 : decode cL_law 673 = .ok (.iload_n 3, 1) := by decide +kernel
theorem dL_law_674 : decode cL_law 674 = .ok (.iconst 3, 1) := by decide +kernel
theorem dL_law_675 : decode cL_law 675 = .ok (.iadd, 1) := by decide +kernel
theorem dL_law_676 : decode cL_law 676 = .ok (.iaload, 1) := by decide +kernel
theorem dL_law_677 : decode cL_law 677 = .ok (.invokevirtual 94, 3) := by decide +kernel
theorem dL_law_680 : decode cL_law 680 = .ok (.aload_n 2, 1) := by decide +kernel
theorem dL_law_681 : decode cL_law 681 = .ok (.aload_n 0, 1) := by decide +kernel
theorem dL_law_682 : decode cL_law 682 = .ok (.iload_n 3, 1) := by decide +kernel
theorem dL_law_683 : decode cL_law 683 = .ok (.iconst 1, 1) := by decide +kernel
theorem dL_law_684 : decode cL_law 684 = .ok (.iadd, 1) := by decide +kernel
theorem dL_law_685 : decode cL_law 685 = .ok (.iaload, 1) := by decide +kernel
theorem dL_law_686 : decode cL_law 686 = .ok (.aload_n 0, 1) := by decide +kernel
theorem dL_law_687 : decode cL_law 687 = .ok (.iload_n 3, 1) := by decide +kernel
theorem dL_law_688 : decode cL_law 688 = .ok (.iconst 2, 1) := by decide +kernel
theorem dL_law_689 : decode cL_law 689 = .ok (.iadd, 1) := by decide +kernel
theorem dL_law_690 : decode cL_law 690 = .ok (.iaload, 1) := by decide +kernel
theorem dL_law_691 : decode cL_law 691 = .ok (.aload_n 0, 1) := by decide +kernel
theorem dL_law_692 : decode cL_law 692 = .ok (.iload_n 3, 1) := by decide +kernel
theorem dL_law_693 : decode cL_law 693 = .ok (.iconst 3, 1) := by decide +kernel
theorem dL_law_694 : decode cL_law 694 = .ok (.iadd, 1) := by decide +kernel
theorem dL_law_695 : decode cL_law 695 = .ok (.iaload, 1) := by decide +kernel
theorem dL_law_696 : decode cL_law 696 = .ok (.invokevirtual 97, 3) := by decide +kernel
theorem dL_law_699 : decode cL_law 699 = .ok (.if_icmp .eq 88, 3) := by decide +kernel
theorem dL_law_702 : decode cL_law 702 = .ok (.iconst 0, 1) := by decide +kernel
theorem dL_law_703 : decode cL_law 703 = .ok (.ireturn, 1) := by decide +kernel
theorem dL_law_704 : decode cL_law 704 = .ok (.aload_n 1, 1) := by decide +kernel
theorem dL_law_705 : decode cL_law 705 = .ok (.aload_n 0, 1) := by decide +kernel
theorem dL_law_706 : decode cL_law 706 = .ok (.iload_n 3, 1) := by decide +kernel
theorem dL_law_707 : decode cL_law 707 = .ok (.iconst 1, 1) := by decide +kernel
theorem dL_law_708 : decode cL_law 708 = .ok (.iadd, 1) := by decide +kernel
theorem dL_law_709 : decode cL_law 709 = .ok (.iaload, 1) := by decide +kernel
theorem dL_law_710 : decode cL_law 710 = .ok (.invokevirtual 98, 3) := by decide +kernel
theorem dL_law_713 : decode cL_law 713 = .ok (.aload_n 2, 1) := by decide +kernel
theorem dL_law_714 : decode cL_law 714 = .ok (.aload_n 0, 1) := by decide +kernel
theorem dL_law_715 : decode cL_law 715 = .ok (.iload_n 3, 1) := by decide +kernel
theorem dL_law_716 : decode cL_law 716 = .ok (.iconst 1, 1) := by decide +kernel
theorem dL_law_717 : decode cL_law 717 = .ok (.iadd, 1) := by decide +kernel
theorem dL_law_718 : decode cL_law 718 = .ok (.iaload, 1) := by decide +kernel
theorem dL_law_719 : decode cL_law 719 = .ok (.invokevirtual 101, 3) := by decide +kernel
theorem dL_law_722 : decode cL_law 722 = .ok (.if_icmp .eq 65, 3) := by decide +kernel
theorem dL_law_725 : decode cL_law 725 = .ok (.iconst 0, 1) := by decide +kernel
theorem dL_law_726 : decode cL_law 726 = .ok (.ireturn, 1) := by decide +kernel
theorem dL_law_727 : decode cL_law 727 = .ok (.aload_n 1, 1) := by decide +kernel
theorem dL_law_728 : decode cL_law 728 = .ok (.aload_n 0, 1) := by decide +kernel
theorem dL_law_729 : decode cL_law 729 = .ok (.iload_n 3, 1) := by decide +kernel
theorem dL_law_730 : decode cL_law 730 = .ok (.iconst 1, 1) := by decide +kernel
theorem dL_law_731 : decode cL_law 731 = .ok (.iadd, 1) := by decide +kernel
theorem dL_law_732 : decode cL_law 732 = .ok (.iaload, 1) := by decide +kernel
theorem dL_law_733 : decode cL_law 733 = .ok (.invokevirtual 102, 3) := by decide +kernel
theorem dL_law_736 : decode cL_law 736 = .ok (.aload_n 2, 1) := by decide +kernel
theorem dL_law_737 : decode cL_law 737 = .ok (.aload_n 0, 1) := by decide +kernel
theorem dL_law_738 : decode cL_law 738 = .ok (.iload_n 3, 1) := by decide +kernel
theorem dL_law_739 : decode cL_law 739 = .ok (.iconst 1, 1) := by decide +kernel
theorem dL_law_740 : decode cL_law 740 = .ok (.iadd, 1) := by decide +kernel
theorem dL_law_741 : decode cL_law 741 = .ok (.iaload, 1) := by decide +kernel
theorem dL_law_742 : decode cL_law 742 = .ok (.invokevirtual 105, 3) := by decide +kernel
theorem dL_law_745 : decode cL_law 745 = .ok (.if_icmp .eq 42, 3) := by decide +kernel
theorem dL_law_748 : decode cL_law 748 = .ok (.iconst 0, 1) := by decide +kernel
theorem dL_law_749 : decode cL_law 749 = .ok (.ireturn, 1) := by decide +kernel
theorem dL_law_750 : decode cL_law 750 = .ok (.aload_n 1, 1) := by decide +kernel
theorem dL_law_751 : decode cL_law 751 = .ok (.aload_n 0, 1) := by decide +kernel
theorem dL_law_752 : decode cL_law 752 = .ok (.iload_n 3, 1) := by decide +kernel
theorem dL_law_753 : decode cL_law 753 = .ok (.iconst 1, 1) := by decide +kernel
theorem dL_law_754 : decode cL_law 754 = .ok (.iadd, 1) := by decide +kernel
theorem dL_law_755 : decode cL_law 755 = .ok (.iaload, 1) := by decide +kernel
theorem dL_law_756 : decode cL_law 756 = .ok (.invokevirtual 106, 3) := by decide +kernel
theorem dL_law_759 : decode cL_law 759 = .ok (.aload_n 2, 1) := by decide +kernel
theorem dL_law_760 : decode cL_law 760 = .ok (.aload_n 0, 1) := by decide +kernel
theorem dL_law_761 : decode cL_law 761 = .ok (.iload_n 3, 1) := by decide +kernel
theorem dL_law_762 : decode cL_law 762 = .ok (.iconst 1, 1) := by decide +kernel
theorem dL_law_763 : decode cL_law 763 = .ok (.iadd, 1) := by decide +kernel
theorem dL_law_764 : decode cL_law 764 = .ok (.iaload, 1) := by decide +kernel
theorem dL_law_765 : decode cL_law 765 = .ok (.invokevirtual 109, 3) := by decide +kernel
theorem dL_law_768 : decode cL_law 768 = .ok (.if_icmp .eq 19, 3) := by decide +kernel
theorem dL_law_771 : decode cL_law 771 = .ok (.iconst 0, 1) := by decide +kernel
theorem dL_law_772 : decode cL_law 772 = .ok (.ireturn, 1) := by decide +kernel
theorem dL_law_773 : decode cL_law 773 = .ok (.aload_n 1, 1) := by decide +kernel
theorem dL_law_774 : decode cL_law 774 = .ok (.invokevirtual 110, 3) := by decide +kernel
theorem dL_law_777 : decode cL_law 777 = .ok (.aload_n 2, 1) := by decide +kernel
theorem dL_law_778 : decode cL_law 778 = .ok (.invokevirtual 114, 3) := by decide +kernel
theorem dL_law_781 : decode cL_law 781 = .ok (.lcmp, 1) := by decide +kernel
theorem dL_law_782 : decode cL_law 782 = .ok (.ifCond .eq 5, 3) := by decide +kernel
theorem dL_law_785 : decode cL_law 785 = .ok (.iconst 0, 1) := by decide +kernel
theorem dL_law_786 : decode cL_law 786 = .ok (.ireturn, 1) := by decide +kernel
theorem dL_law_787 : decode cL_law 787 = .ok (.iinc 3 5, 3) := by decide +kernel
theorem dL_law_790 : decode cL_law 790 = .ok (.goto (-772), 3) := by decide +kernel
theorem dL_law_793 : decode cL_law 793 = .ok (.iconst 1, 1) := by decide +kernel
theorem dL_law_794 : decode cL_law 794 = .ok (.ireturn, 1) := by decide +kernel
end
section
/-! an interpreter of the bytecode over cells that are numbered; ints are integers -/
abbrev AV : Type := Int ⊕ Int64 ⊕ Nat ⊕ Nat
abbrev iv (z : Int) : AV := .inl z
abbrev jv (z : Int64) : AV := .inr (.inl z)
abbrev rv (k : Nat) : AV := .inr (.inr (.inl k))
abbrev sv (k : Nat) : AV := .inr (.inr (.inr k))
abbrev AC : Type := (Int → Int) ⊕ (Int → Int64) ⊕ (Int → Option Nat)
abbrev AE : Type := (Nat × Nat × AC) ⊕ (Nat × List AV)
abbrev AM : Type := List AE
abbrev AL : Type := List (Option AV)
abbrev AX : Type := Nat × (Nat → Int32)
abbrev AF : Type := Nat × AL × List AV × AM × Nat × Nat
def cat (v : AV) : Nat := match v with
  | .inr (.inl _) => 2
  | _ => 1
def ldI (L : AL) (i : Nat) : Option AV := match L[i]? with
  | some (some (.inl z)) => some (iv z)
  | _ => none
def ldJ (L : AL) (i : Nat) : Option AV := match L[i]? with
  | some (some (.inr (.inl z))) => some (jv z)
  | _ => none
def ldR (L : AL) (i : Nat) : Option AV := match L[i]? with
  | some (some (.inr (.inr (.inl k)))) => some (rv k)
  | some (some (.inr (.inr (.inr (k + 1))))) => some (sv (k + 1))
  | _ => none
def clr (L : AL) (i : Nat) : AL := match i with
  | 0 => L
  | j + 1 => match L[j]? with
    | some (some (.inr (.inl _))) => L.set j none
    | _ => L
def st1 (L : AL) (i : Nat) (v : AV) : AL := (clr L i).set i (some v)
def st2 (L : AL) (i : Nat) (v : AV) : AL := ((clr L i).set i (some v)).set (i + 1) none
def jmp (pc : Nat) (off : Int) : Option Nat := if 0 ≤ (pc : Int) + off then some ((pc : Int) + off).toNat else none
def tst (o : Jvm.ClassFile.Cond) (x y : Int) : Bool := match o with
  | .eq => decide (Int32.ofInt x = Int32.ofInt y)
  | .ne => decide (¬ Int32.ofInt x = Int32.ofInt y)
  | .lt => decide (Int32.ofInt x < Int32.ofInt y)
  | .ge => decide (Int32.ofInt y ≤ Int32.ofInt x)
  | .gt => decide (Int32.ofInt y < Int32.ofInt x)
  | .le => decide (Int32.ofInt x ≤ Int32.ofInt y)
def swt (lo hi dflt : Int) (offs : Array Int) (x : Int) : Option Int := if (Int32.ofInt x).toInt < lo ∨ hi < (Int32.ofInt x).toInt then some dflt else offs[((Int32.ofInt x).toInt - lo).toNat]?
def okv (ty : FieldType) (v : AV) : Bool := match ty, v with
  | .int, .inl _ => true
  | .boolean, .inl z => z == 0 || z == 1
  | .long, .inr (.inl _) => true
  | .object _, .inr (.inr (.inl _)) => true
  | .array _, .inr (.inr (.inl _)) => true
  | _, _ => false
def finT (ci j : Nat) : Bool := match clsT[ci]? with
  | some (_, T, _) => (T j).2.2.2
  | none => true
def decT (ci j : Nat) : String := match clsT[ci]? with
  | some (_, T, _) => (T j).1
  | none => ""
def fszT (ci : Nat) : Nat := match clsT[ci]? with
  | some (_, _, N) => N
  | none => 0
def dflV (ty : FieldType) : AV := match ty with
  | .int => iv 0
  | .boolean => iv 0
  | .long => jv 0
  | _ => sv 0
def dfl (ci : Nat) : List AV := (List.range (fszT ci)).map (fun j => dflV (tyT ci j))
def inA (i : Int) (n : Nat) : Bool := decide (0 ≤ i ∧ i < n ∧ n < 2147483648)
def rootL : List Int := [0, 1000000, 1414213, 1732050, 2000000, 2236067, 2449489, 2645751, 2828427, 3000000, 3162277, 3316624, 3464101]
def rootZ (i : Int) : Int := rootL.getD i.toNat 0
def updA {α : Type} (f : Int → α) (i : Int) (x : α) : Int → α := fun j => if j = i then x else f j
def cpyA (f g : Int → Int) (sp dp n : Int) : Int → Int := fun j => if dp ≤ j ∧ j < dp + n then f (sp + (j - dp)) else g j
def lenOK (ins : Instr) (len : Nat) : Bool := match ins with
  | .tableswitch .. => true
  | .lookupswitch .. => true
  | .iload _ | .lload _ | .aload _ | .istore _ | .lstore _ | .astore _ | .bipush _ | .newarray _ => len == 2
  | .sipush _ | .ldc2_w _ | .iinc _ _ | .goto _ | .ifCond _ _ | .if_icmp _ _ | .getfield _ | .putfield _ | .getstatic _ | .new _ | .anewarray _ | .invokevirtual _ | .invokestatic _ | .invokespecial _ => len == 3
  | _ => len == 1
/-- an instruction that neither calls nor returns -/
def stp (X : AX) (mr : MRec) (d : Nat) (ins : Instr) (pc : Nat) (L : AL) (S : List AV) (M : AM) (c s : Nat) : Option AF := match ins with
  | .iload_n k => (ldI L k).map (fun v => (pc + 1, L, v :: S, M, c, s))
  | .iload k => (ldI L k).map (fun v => (pc + 2, L, v :: S, M, c, s))
  | .lload_n k => (ldJ L k).map (fun v => (pc + 1, L, v :: S, M, c, s))
  | .lload k => (ldJ L k).map (fun v => (pc + 2, L, v :: S, M, c, s))
  | .aload_n k => (ldR L k).map (fun v => (pc + 1, L, v :: S, M, c, s))
  | .aload k => (ldR L k).map (fun v => (pc + 2, L, v :: S, M, c, s))
  | .istore_n k => match S with
    | .inl z :: r => if (k : Nat) < mr.2.2.1 then some (pc + 1, st1 L k (iv z), r, M, c, s) else none
    | _ => none
  | .istore k => match S with
    | .inl z :: r => if k < mr.2.2.1 then some (pc + 2, st1 L k (iv z), r, M, c, s) else none
    | _ => none
  | .lstore_n k => match S with
    | .inr (.inl z) :: r => if (k : Nat) + 1 < mr.2.2.1 then some (pc + 1, st2 L k (jv z), r, M, c, s) else none
    | _ => none
  | .lstore k => match S with
    | .inr (.inl z) :: r => if k + 1 < mr.2.2.1 then some (pc + 2, st2 L k (jv z), r, M, c, s) else none
    | _ => none
  | .astore_n k => match S with
    | .inr (.inr (.inl z)) :: r => if (k : Nat) < mr.2.2.1 then some (pc + 1, st1 L k (rv z), r, M, c, s) else none
    | _ => none
  | .astore k => match S with
    | .inr (.inr (.inl z)) :: r => if k < mr.2.2.1 then some (pc + 2, st1 L k (rv z), r, M, c, s) else none
    | _ => none
  | .iconst n => some (pc + 1, L, iv n :: S, M, c, s)
  | .bipush n => some (pc + 2, L, iv (Int8.ofInt n).toInt :: S, M, c, s)
  | .sipush n => some (pc + 3, L, iv (Int16.ofInt n).toInt :: S, M, c, s)
  | .lconst n => some (pc + 1, L, jv (Int64.ofNat n) :: S, M, c, s)
  | .ldc2_w k => (lcn mr.2.2.2.2.2.2 k).map (fun v => (pc + 3, L, jv v :: S, M, c, s))
  | .iadd => match S with
    | .inl y :: .inl x :: r => some (pc + 1, L, iv (x + y) :: r, M, c, s)
    | _ => none
  | .isub => match S with
    | .inl y :: .inl x :: r => some (pc + 1, L, iv (x - y) :: r, M, c, s)
    | _ => none
  | .imul => match S with
    | .inl y :: .inl x :: r => some (pc + 1, L, iv (x * y) :: r, M, c, s)
    | _ => none
  | .idiv => match S with
    | .inl y :: .inl x :: r => if Int32.ofInt y = 0 then none else some (pc + 1, L, iv (Int32.ofInt x / Int32.ofInt y).toInt :: r, M, c, s)
    | _ => none
  | .ineg => match S with
    | .inl x :: r => some (pc + 1, L, iv (-x) :: r, M, c, s)
    | _ => none
  | .iand => match S with
    | .inl y :: .inl x :: r => some (pc + 1, L, iv (Int32.ofInt x &&& Int32.ofInt y).toInt :: r, M, c, s)
    | _ => none
  | .ladd => match S with
    | .inr (.inl y) :: .inr (.inl x) :: r => some (pc + 1, L, jv (x + y) :: r, M, c, s)
    | _ => none
  | .lsub => match S with
    | .inr (.inl y) :: .inr (.inl x) :: r => some (pc + 1, L, jv (x - y) :: r, M, c, s)
    | _ => none
  | .lmul => match S with
    | .inr (.inl y) :: .inr (.inl x) :: r => some (pc + 1, L, jv (x * y) :: r, M, c, s)
    | _ => none
  | .ldiv => match S with
    | .inr (.inl y) :: .inr (.inl x) :: r => if y = 0 then none else some (pc + 1, L, jv (x / y) :: r, M, c, s)
    | _ => none
  | .lor => match S with
    | .inr (.inl y) :: .inr (.inl x) :: r => some (pc + 1, L, jv (x ||| y) :: r, M, c, s)
    | _ => none
  | .lneg => match S with
    | .inr (.inl x) :: r => some (pc + 1, L, jv (-x) :: r, M, c, s)
    | _ => none
  | .lshl => match S with
    | .inl y :: .inr (.inl x) :: r => some (pc + 1, L, jv (x <<< ((Int32.ofInt y).toInt64 &&& 63)) :: r, M, c, s)
    | _ => none
  | .lcmp => match S with
    | .inr (.inl y) :: .inr (.inl x) :: r => some (pc + 1, L, iv (lg_cmp x y).toInt :: r, M, c, s)
    | _ => none
  | .i2l => match S with
    | .inl x :: r => some (pc + 1, L, jv (Int32.ofInt x).toInt64 :: r, M, c, s)
    | _ => none
  | .l2i => match S with
    | .inr (.inl x) :: r => some (pc + 1, L, iv x.toInt32.toInt :: r, M, c, s)
    | _ => none
  | .iinc k n => match L[k]? with
    | some (some (.inl x)) => if k < mr.2.2.1 then some (pc + 3, st1 L k (iv (x + n)), S, M, c, s) else none
    | _ => none
  | .goto off => (jmp pc off).map (fun t => (t, L, S, M, c, s))
  | .ifCond o off => match S with
    | .inl x :: r => (jmp pc off).map (fun t => (if tst o x 0 then t else pc + 3, L, r, M, c, s))
    | _ => none
  | .if_icmp o off => match S with
    | .inl y :: .inl x :: r => (jmp pc off).map (fun t => (if tst o x y then t else pc + 3, L, r, M, c, s))
    | _ => none
  | .tableswitch dflt lo hi offs => match S with
    | .inl x :: r => match swt lo hi dflt offs x with
      | some off => (jmp pc off).map (fun t => (t, L, r, M, c, s))
      | none => none
    | _ => none
  | .lookupswitch dflt ps => match S with
    | .inl x :: r => if (ps.toList.zip (ps.toList.drop 1)).all (fun (a, next) => a.1 < next.1) = true then (jmp pc (Op.lookupswitch.offset ps.toList dflt (Int32.ofInt x).toInt)).map (fun t => (t, L, r, M, c, s)) else none
    | _ => none
  | .dup => match S with
    | v :: r => if cat v = 1 then some (pc + 1, L, v :: v :: r, M, c, s) else none
    | _ => none
  | .dup2 => match S with
    | v :: w :: r => if cat v = 1 ∧ cat w = 1 then some (pc + 1, L, v :: w :: v :: w :: r, M, c, s) else none
    | _ => none
  | .pop => match S with
    | v :: r => if cat v = 1 then some (pc + 1, L, r, M, c, s) else none
    | _ => none
  | .getfield k => match S with
    | .inr (.inr (.inl q)) :: r => match fld mr.2.2.2.2.2.2 k with
      | some (ci, j) => match M[q]? with
        | some (.inr (ci', fs)) => if ci' = ci then (fs[j]?).map (fun v => (pc + 3, L, v :: r, M, c, s)) else none
        | _ => none
      | none => none
    | _ => none
  | .putfield k => match S with
    | v :: .inr (.inr (.inl q)) :: r => match fld mr.2.2.2.2.2.2 k with
      | some (ci, j) => match M[q]? with
        | some (.inr (ci', fs)) => if ci' = ci ∧ j < fs.length ∧ okv (tyT ci j) v = true ∧ (finT ci j = true → mr.1.name = "<init>" ∧ decT ci j = own mr.2.2.2.2.2.2) then some (pc + 3, L, r, M.set q (.inr (ci, fs.set j v)), c, s) else none
        | _ => none
      | none => none
    | _ => none
  | .getstatic k => if mr.2.2.2.2.2.2 = 9 ∧ k = 41 then some (pc + 3, L, sv 1 :: S, M, c, s) else none
  | .iaload => match S with
    | .inl i :: .inr (.inr (.inl q)) :: r => match M[q]? with
      | some (.inl (0, n, .inl f)) => if inA i n then some (pc + 1, L, iv (f i) :: r, M, c, s) else none
      | _ => none
    | .inl i :: .inr (.inr (.inr 1)) :: r => if inA i 13 then some (pc + 1, L, iv (rootZ i) :: r, M, c, s) else none
    | .inl i :: .inr (.inr (.inr 2)) :: r => if inA i X.1 then some (pc + 1, L, iv (X.2 i.toNat).toInt :: r, M, c, s) else none
    | _ => none
  | .laload => match S with
    | .inl i :: .inr (.inr (.inl q)) :: r => match M[q]? with
      | some (.inl (1, n, .inr (.inl f))) => if inA i n then some (pc + 1, L, jv (f i) :: r, M, c, s) else none
      | _ => none
    | _ => none
  | .baload => match S with
    | .inl i :: .inr (.inr (.inl q)) :: r => match M[q]? with
      | some (.inl (2, n, .inl f)) => if inA i n then some (pc + 1, L, iv (f i) :: r, M, c, s) else none
      | _ => none
    | _ => none
  | .aaload => match S with
    | .inl i :: .inr (.inr (.inl q)) :: r => match M[q]? with
      | some (.inl (t, n, .inr (.inr f))) => if inA i n ∧ (t = 3 ∨ t = 4) then (f i).map (fun k => (pc + 1, L, rv k :: r, M, c, s)) else none
      | _ => none
    | _ => none
  | .iastore => match S with
    | .inl x :: .inl i :: .inr (.inr (.inl q)) :: r => match M[q]? with
      | some (.inl (0, n, .inl f)) => if inA i n then some (pc + 1, L, r, M.set q (.inl (0, n, .inl (updA f i x))), c, s) else none
      | _ => none
    | _ => none
  | .lastore => match S with
    | .inr (.inl x) :: .inl i :: .inr (.inr (.inl q)) :: r => match M[q]? with
      | some (.inl (1, n, .inr (.inl f))) => if inA i n then some (pc + 1, L, r, M.set q (.inl (1, n, .inr (.inl (updA f i x)))), c, s) else none
      | _ => none
    | _ => none
  | .bastore => match S with
    | .inl x :: .inl i :: .inr (.inr (.inl q)) :: r => match M[q]? with
      | some (.inl (2, n, .inl f)) => if inA i n ∧ (x = 0 ∨ x = 1) then some (pc + 1, L, r, M.set q (.inl (2, n, .inl (updA f i x))), c, s) else none
      | _ => none
    | _ => none
  | .aastore => match S with
    | .inr (.inr (.inl v)) :: .inl i :: .inr (.inr (.inl q)) :: r => match M[q]?, M[v]? with
      | some (.inl (t, n, .inr (.inr f))), some (.inr (ci, _)) => if inA i n ∧ ((t = 3 ∧ ci = 7) ∨ (t = 4 ∧ ci = 8)) then some (pc + 1, L, r, M.set q (.inl (t, n, .inr (.inr (updA f i (some v))))), c, s) else none
      | _, _ => none
    | _ => none
  | .arraylength => match S with
    | .inr (.inr (.inr 2)) :: r => some (pc + 1, L, iv (Int32.ofNat X.1).toInt :: r, M, c, s)
    | _ => none
  | .newarray a => match S with
    | .inl n :: r => if 0 ≤ n ∧ n ≤ 100000 ∧ c + 1 ≤ mr.2.2.2.2.1 ∧ s + n.toNat ≤ mr.2.2.2.2.2.1 then match a with
      | .int => some (pc + 2, L, rv M.length :: r, M ++ [.inl (0, n.toNat, .inl (fun _ => 0))], c + 1, s + n.toNat)
      | .long => some (pc + 2, L, rv M.length :: r, M ++ [.inl (1, n.toNat, .inr (.inl (fun _ => 0)))], c + 1, s + n.toNat)
      | .boolean => some (pc + 2, L, rv M.length :: r, M ++ [.inl (2, n.toNat, .inl (fun _ => 0))], c + 1, s + n.toNat)
      | _ => none else none
    | _ => none
  | .anewarray k => match S with
    | .inl n :: r => match anc mr.2.2.2.2.2.2 k with
      | some (_, t) => if 0 ≤ n ∧ n ≤ 100000 ∧ c + 1 ≤ mr.2.2.2.2.1 ∧ s + n.toNat ≤ mr.2.2.2.2.2.1 then some (pc + 3, L, rv M.length :: r, M ++ [.inl (t, n.toNat, .inr (.inr (fun _ => none)))], c + 1, s + n.toNat) else none
      | none => none
    | _ => none
  | .new k => match nwc mr.2.2.2.2.2.2 k with
    | some ci => if c + 1 ≤ mr.2.2.2.2.1 ∧ s + fszT ci ≤ mr.2.2.2.2.2.1 then some (pc + 3, L, rv M.length :: S, M ++ [.inr (ci, dfl ci)], c + 1, s + fszT ci) else none
    | none => none
  | .invokespecial k => match S with
    | .inr (.inr (.inl _)) :: r => match sp mr.2.2.2.2.2.2 k with
      | some (5, _) => if 1 ≤ d ∧ (r.map cat).sum ≤ 8 then some (pc + 3, L, r, M, c, s) else none
      | _ => none
    | _ => none
  | .invokestatic k => match sp mr.2.2.2.2.2.2 k with
    | some (8, _) => match S with
      | .inl y :: .inl x :: r => if 1 ≤ d ∧ (r.map cat).sum ≤ 8 ∧ c ≤ mr.2.2.2.2.1 ∧ s ≤ mr.2.2.2.2.2.1 then some (pc + 3, L, iv (if Int32.ofInt x < Int32.ofInt y then y else x) :: r, M, c, s) else none
      | _ => none
    | some (9, _) => match S with
      | .inl y :: .inl x :: r => if 1 ≤ d ∧ (r.map cat).sum ≤ 8 ∧ c ≤ mr.2.2.2.2.1 ∧ s ≤ mr.2.2.2.2.2.1 then some (pc + 3, L, iv (if Int32.ofInt y < Int32.ofInt x then y else x) :: r, M, c, s) else none
      | _ => none
    | some (10, _) => match S with
      | .inr (.inl y) :: .inr (.inl x) :: r => if 1 ≤ d ∧ (r.map cat).sum ≤ 8 ∧ c ≤ mr.2.2.2.2.1 ∧ s ≤ mr.2.2.2.2.2.1 then some (pc + 3, L, jv (if y < x then x else y) :: r, M, c, s) else none
      | _ => none
    | some (11, _) => match S with
      | .inr (.inl y) :: .inr (.inl x) :: r => if 1 ≤ d ∧ (r.map cat).sum ≤ 8 ∧ c ≤ mr.2.2.2.2.1 ∧ s ≤ mr.2.2.2.2.2.1 then some (pc + 3, L, jv (if y < x then y else x) :: r, M, c, s) else none
      | _ => none
    | some (7, _) => match S with
      | .inl n :: .inl dp :: .inr (.inr (.inl q)) :: .inl sp0 :: .inr (.inr (.inl q0)) :: r => match M[q0]?, M[q]? with
        | some (.inl (0, n0, .inl f)), some (.inl (0, n1, .inl g)) => if 0 ≤ n ∧ 0 ≤ dp ∧ 0 ≤ sp0 ∧ sp0 + n ≤ n0 ∧ dp + n ≤ n1 ∧ n0 < 2147483648 ∧ n1 < 2147483648 ∧ 1 ≤ d ∧ (r.map cat).sum ≤ 8 then some (pc + 3, L, r, M.set q (.inl (0, n1, .inl (cpyA f g sp0 dp n))), c, s) else none
        | _, _ => none
      | _ => none
    | _ => none
  | _ => none
def argL (vs : List AV) (n : Nat) : AL := let l := vs.flatMap (fun v => if cat v = 2 then [some v, none] else [some v]); l ++ List.replicate (n - l.length) none
/-- a call: its link, the arguments (with the receiver), what is left on the stack -/
def cal (mr : MRec) (ins : Instr) (S : List AV) (M : AM) : Option (MRec × List AV × List AV) := match ins with
  | .invokevirtual k => match ml mr.2.2.2.2.2.2 k with
    | some (_, _, 0, na, mr', _) => match S.drop na with
      | .inr (.inr (.inl q)) :: r => match M[q]? with
        | some (.inr (ci, _)) => if ci = mr'.2.2.2.2.2.2 ∧ (S.take na).length = na ∧ (r.map cat).sum ≤ 8 then some (mr', rv q :: (S.take na).reverse, r) else none
        | _ => none
      | _ => none
    | _ => none
  | .invokestatic k => match ml mr.2.2.2.2.2.2 k with
    | some (_, _, 2, na, mr', _) => if (S.take na).length = na ∧ ((S.drop na).map cat).sum ≤ 8 then some (mr', (S.take na).reverse, S.drop na) else none
    | _ => none
  | .invokespecial k => match ml mr.2.2.2.2.2.2 k with
    | some (_, _, kind, na, mr', _) => if kind = 3 ∨ kind = 4 then match S.drop na with
      | .inr (.inr (.inl q)) :: r => if (S.take na).length = na ∧ (r.map cat).sum ≤ 8 then some (mr', rv q :: (S.take na).reverse, r) else none
      | _ => none else none
    | _ => none
  | _ => none
def rtn (mr : MRec) (ins : Instr) (S : List AV) : Option (Option AV) := match ins, mr.2.2.2.1 with
  | .ireturn, some .int => match S with
    | [.inl z] => some (some (iv z))
    | _ => none
  | .ireturn, some .boolean => match S with
    | [.inl z] => if z = 0 ∨ z = 1 then some (some (iv z)) else none
    | _ => none
  | .lreturn, some .long => match S with
    | [.inr (.inl z)] => some (some (jv z))
    | _ => none
  | .return_, none => match S with
    | [] => some none
    | _ => none
  | _, _ => none
def run (X : AX) : Nat → Nat → MRec → Nat → AL → List AV → AM → Nat → Nat → Option (Option AV × AM)
  | 0, _, _, _, _, _, _, _, _ => none
  | n + 1, d, mr, pc, L, S, M, c, s => match decode mr.2.1 pc with
    | .ok (ins, len) => if lenOK ins len then match rtn mr ins S with
      | some v => if c = mr.2.2.2.2.1 ∧ s ≤ mr.2.2.2.2.2.1 then some (v, M) else none
      | none => match stp X mr d ins pc L S M c s with
        | some (pc', L', S', M', c', s') => run X n d mr pc' L' S' M' c' s'
        | none => match cal mr ins S M with
          | some (mr', As, r) => match d with
            | 0 => none
            | d' + 1 => if (argL As mr'.2.2.1).length = mr'.2.2.1 ∧ c + mr'.2.2.2.2.1 ≤ mr.2.2.2.2.1 ∧ s + mr'.2.2.2.2.2.1 ≤ mr.2.2.2.2.2.1 then match run X n d' mr' 0 (argL As mr'.2.2.1) [] M 0 0 with
              | some (v, M') => run X n (d' + 1) mr (pc + 3) L (v.toList ++ r) M' (c + mr'.2.2.2.2.1) (s + mr'.2.2.2.2.2.1)
              | none => none else none
          | none => none
      else none
    | .error _ => none
end
section
/-! what the interpreter's words mean on the machine -/
abbrev GB : Type := Nat × Nat × Nat
def cV (G : GB) (v : AV) : Value := match v with
  | .inl z => .int (Int32.ofInt z)
  | .inr (.inl z) => .long z
  | .inr (.inr (.inl k)) => .ref (G.1 + k)
  | .inr (.inr (.inr 0)) => .null
  | .inr (.inr (.inr 1)) => .ref G.2.1
  | .inr (.inr (.inr _)) => .ref G.2.2
theorem cV_cat (G : GB) (v : AV) : (cV G v).category = cat v := by
  rcases v with z | z | z | z
  · rfl
  · rfl
  · rfl
  · match z with
    | 0 => rfl
    | 1 => rfl
    | _ + 2 => rfl
def cE (G : GB) (tyc : Nat → ClassId) (e : AE) : va_E := match e with
  | .inl (t, n, .inl f) => .inl (tyc t, n, .inl (fun j => Int32.ofInt (f j)))
  | .inl (t, n, .inr (.inl f)) => .inl (tyc t, n, .inr (.inl (fun j => f j)))
  | .inl (t, n, .inr (.inr f)) => .inl (tyc t, n, .inr (.inr (.inr (.inr (fun j => (f j).map (fun k => G.1 + k))))))
  | .inr (ci, fs) => .inr (ci, fs.map (cV G))
def cW (G : GB) (tyc : Nat → ClassId) (M : AM) : va_W := M.mapIdx (fun k e => (G.1 + k, cE G tyc e))
theorem cW_get {G : GB} {tyc : Nat → ClassId} {M : AM} {k : Nat} {e : AE} (h : M[k]? = some e) : (cW G tyc M)[k]? = some (G.1 + k, cE G tyc e) := by
  simp [cW, List.getElem?_mapIdx, h]
theorem cW_inv {G : GB} {tyc : Nat → ClassId} {M : AM} {k : Nat} {q : Nat × va_E} (h : (cW G tyc M)[k]? = some q) : ∃ e, M[k]? = some e ∧ q = (G.1 + k, cE G tyc e) := by
  simp only [cW, List.getElem?_mapIdx] at h
  cases hm : M[k]? with
  | none => rw [hm] at h; cases h
  | some e => rw [hm] at h; exact ⟨e, rfl, (Option.some.inj h).symm⟩
theorem cW_set {G : GB} {tyc : Nat → ClassId} {M : AM} {k : Nat} {e : AE} : (cW G tyc M).set k (G.1 + k, cE G tyc e) = cW G tyc (M.set k e) := by
  apply List.ext_getElem?
  intro i
  simp only [cW, List.getElem?_set, List.getElem?_mapIdx, List.length_mapIdx]
  by_cases h : k = i
  · subst h
    by_cases hk : k < M.length
    · simp [hk]
    · simp [hk]
  · simp [h]
theorem cW_app {G : GB} {tyc : Nat → ClassId} {M : AM} {e : AE} : cW G tyc (M ++ [e]) = cW G tyc M ++ [(G.1 + M.length, cE G tyc e)] := by
  simp [cW, List.mapIdx_append]
theorem cW_D {G : GB} {tyc : Nat → ClassId} {M : AM} : va_D (fun q => G.1 ≤ q) (cW G tyc M) := by
  refine ⟨fun i j p q hp hq h => ?_, fun k q hq => ?_⟩
  · obtain ⟨_, -, rfl⟩ := cW_inv hp
    obtain ⟨_, -, rfl⟩ := cW_inv hq
    simp only at h
    omega
  · obtain ⟨_, -, rfl⟩ := cW_inv hq
    simp
abbrev tysOf (tyc : Nat → ClassId) : List (ClassId × FieldType) := [(tyc 0, .int), (tyc 1, .long), (tyc 2, .boolean), (tyc 3, .object "GiftMatch$Rule"), (tyc 4, .object "GiftMatch$Scene")]
def lh (G : GB) (ls : Array Slot) (nL : Nat) (L : AL) : Prop := ls.size = nL ∧ lv_wf ls ∧ ∀ (i : Nat) (v : AV), L[i]? = some (some v) → ls[i]? = some (.val (cV G v))
def prs (G : GB) (L : AL) : List (Nat × Value) := (List.range L.length).filterMap (fun i => match L[i]? with
  | some (some v) => some (i, cV G v)
  | _ => none)
theorem mem_prs {G : GB} {L : AL} {q : Nat × Value} : q ∈ prs G L ↔ ∃ v, L[q.1]? = some (some v) ∧ q.2 = cV G v := by
  simp only [prs, List.mem_filterMap, List.mem_range]
  constructor
  · rintro ⟨i, hi, h⟩
    split at h
    · next v hv => cases h; exact ⟨v, hv, rfl⟩
    · cases h
  · rintro ⟨v, hv, h⟩
    refine ⟨q.1, (List.getElem?_eq_some_iff.mp hv).1, ?_⟩
    rw [hv]
    simp only
    rw [← h]
theorem lh_has {G : GB} {ls : Array Slot} {nL : Nat} {L : AL} (h : lh G ls nL L) : lv_has ls nL (prs G L) := by
  refine ⟨h.1, h.2.1, fun q hq => ?_⟩
  obtain ⟨v, hv, hw⟩ := mem_prs.mp hq
  rw [hw]
  exact h.2.2 _ _ hv
theorem clr_inv {L : AL} {i j : Nat} {w : AV} (h : (clr L i)[j]? = some (some w)) : L[j]? = some (some w) ∧ ¬ (j + 1 = i ∧ cat w = 2) := by
  unfold clr at h
  cases i with
  | zero => exact ⟨h, fun q => by omega⟩
  | succ k =>
    simp only at h
    split at h
    · next z hz =>
      rw [List.getElem?_set] at h
      by_cases hk : k = j
      · subst hk
        rw [if_pos rfl] at h
        split at h <;> cases h
      · rw [if_neg hk] at h
        exact ⟨h, fun q => hk (by omega)⟩
    · next hz =>
      refine ⟨h, fun q => ?_⟩
      have : j = k := by omega
      subst this
      rcases w with w | w | w | w
      · simp [cat] at q
      · exact hz w h
      · simp [cat] at q
      · simp [cat] at q
theorem has_lh1 {G : GB} {ls : Array Slot} {nL : Nat} {L : AL} {i : Nat} {v : AV} (h : lv_has ls nL ((i, cV G v) :: (prs G L).filter (fun q => !(q.1 == i) && !(q.1 + 1 == i && q.2.category == 2)))) : lh G ls nL (st1 L i v) := by
  refine ⟨h.1, h.2.1, fun j w hj => ?_⟩
  unfold st1 at hj
  rw [List.getElem?_set] at hj
  by_cases hk : i = j
  · subst hk
    rw [if_pos rfl] at hj
    split at hj
    · cases hj
      exact h.2.2 _ List.mem_cons_self
    · cases hj
  · rw [if_neg hk] at hj
    obtain ⟨h1, h2⟩ := clr_inv hj
    refine h.2.2 (j, cV G w) (List.mem_cons_of_mem _ (List.mem_filter.mpr ⟨mem_prs.mpr ⟨w, h1, rfl⟩, ?_⟩))
    simp only [Bool.and_eq_true, Bool.not_eq_true', beq_eq_false_iff_ne, Bool.and_eq_false_iff, ne_eq]
    refine ⟨fun q => hk q.symm, ?_⟩
    rw [cV_cat]
    by_cases hc : j + 1 = i
    · right
      exact fun q => h2 ⟨hc, q⟩
    · left; exact hc
theorem has_lh2 {G : GB} {ls : Array Slot} {nL : Nat} {L : AL} {i : Nat} {v : AV} (h : lv_has ls nL ((i, cV G v) :: (prs G L).filter (fun q => !(q.1 == i) && (!(q.1 == i + 1) && !(q.1 + 1 == i && q.2.category == 2))))) : lh G ls nL (st2 L i v) := by
  refine ⟨h.1, h.2.1, fun j w hj => ?_⟩
  unfold st2 at hj
  rw [List.getElem?_set] at hj
  by_cases hk1 : i + 1 = j
  · subst hk1
    rw [if_pos rfl] at hj
    split at hj <;> cases hj
  · rw [if_neg hk1, List.getElem?_set] at hj
    by_cases hk : i = j
    · subst hk
      rw [if_pos rfl] at hj
      split at hj
      · cases hj
        exact h.2.2 _ List.mem_cons_self
      · cases hj
    · rw [if_neg hk] at hj
      obtain ⟨h1, h2⟩ := clr_inv hj
      refine h.2.2 (j, cV G w) (List.mem_cons_of_mem _ (List.mem_filter.mpr ⟨mem_prs.mpr ⟨w, h1, rfl⟩, ?_⟩))
      simp only [Bool.and_eq_true, Bool.not_eq_true', beq_eq_false_iff_ne, Bool.and_eq_false_iff, ne_eq]
      refine ⟨fun q => hk q.symm, fun q => hk1 q.symm, ?_⟩
      rw [cV_cat]
      by_cases hc : j + 1 = i
      · right
        exact fun q => h2 ⟨hc, q⟩
      · left; exact hc
def HW (G : GB) (D : va_G) (tyc : Nat → ClassId) (M : AM) (H : Heap) : Prop := H.size = G.1 + M.length ∧ va_P D clsT (cW G tyc M) H
abbrev AB (G : GB) : Nat → Prop := fun q => G.1 ≤ q
/-- what a method's own state says -/
def St (G : GB) (D : va_G) (tyc : Nat → ClassId) (X : AX) (s : State) : Prop := va_K D clsT (tysOf tyc) s ∧ (∀ w ∈ nestT, va_Nw w s) ∧ va_AO "GiftMatch$Rule" s ∧ va_AO "GiftMatch$Scene" s ∧ va_Z "GiftMatch" "ROOTS" "[I" (.ref G.2.1) (AB G) s s.heap ∧ va_T .int G.2.1 13 (fun j => .int (Int32.ofInt (rootZ j))) (AB G) s s.heap ∧ va_X G.2.2 X.1 X.2 s s.heap ∧ G.2.2 < G.1 ∧ G.1 ≤ s.heap.size ∧ X.1 ≤ 2560
def Cx (p : Program) (R : Room) (s : State) (m : MethodId) (args : Array Value) (meth : Method) (c : Code) (mr : MRec) (G : GB) (D : va_G) (tyc : Nat → ClassId) (X : AX) (d : Nat) : Prop :=
  p.tables.exec = Jvm.exec ∧ c.code = mr.2.1 ∧ c.maxLocals = mr.2.2.1 ∧ s.vm.findClass (own mr.2.2.2.2.2.2) = some m.cls ∧ (∀ w ∈ gtbl, w.before args s = true) ∧ St G D tyc X s ∧ (mr.1.name = "<init>" → meth.name = "<init>") ∧ d ≤ R.frames ∧ 41 * d ≤ R.locals ∧ mr.2.2.2.2.1 ≤ R.cells ∧ mr.2.2.2.2.2.1 ≤ R.slots
theorem fld_ok {oc idx ci j : Nat} (h : fld oc idx = some (ci, j)) : ∃ (C : String) (T : u_T) (N : Nat), clsT[ci]? = some (C, T, N) ∧ j < N ∧ Cond.fieldLink (own oc) idx (T j).1 (T j).2.1 (T j).2.2.1 ∈ gtbl ∧ parseFieldDescriptor (T j).2.2.1 = some (tyT ci j) := by
  have hall : ∀ e ∈ flT oc, flK oc e = true := by
    unfold flT
    match oc with
    | 0 => exact List.all_eq_true.mp flT0_ok
    | 1 => exact List.all_eq_true.mp flT1_ok
    | 2 => exact List.all_eq_true.mp flT2_ok
    | 3 => exact List.all_eq_true.mp flT3_ok
    | 4 => exact List.all_eq_true.mp flT4_ok
    | 5 => exact List.all_eq_true.mp flT5_ok
    | 6 => exact List.all_eq_true.mp flT6_ok
    | 7 => exact List.all_eq_true.mp flT7_ok
    | 8 => exact List.all_eq_true.mp flT8_ok
    | 9 => exact List.all_eq_true.mp flT9_ok
    | 10 => exact List.all_eq_true.mp flT10_ok
    | 11 => exact List.all_eq_true.mp flT11_ok
    | _ + 12 => exact fun e he => absurd he List.not_mem_nil
  unfold fld at h
  cases hf : (flT oc).find? (fun e => e.1 == idx) with
  | none => rw [hf] at h; cases h
  | some e =>
    rw [hf] at h
    have h1 := hall e (List.mem_of_find?_eq_some hf)
    have h2 : e.1 = idx := by simpa using List.find?_some hf
    obtain ⟨e1, e2, e3, e4⟩ := e
    simp only [Option.map_some, Option.some.injEq, Prod.mk.injEq] at h
    obtain ⟨rfl, rfl⟩ := h
    simp only at h2
    subst h2
    unfold flK at h1
    simp only at h1
    split at h1
    · next C T N hc =>
      simp only [Bool.and_eq_true, decide_eq_true_eq] at h1
      exact ⟨C, T, N, hc, h1.1.2, in_g (List.mem_of_getElem? h1.1.1) rfl, h1.2⟩
    · cases h1
theorem u_in {ci : Nat} {C : String} {T : u_T} {N : Nat} (h : clsT[ci]? = some (C, T, N)) : (∀ w ∈ u_ws C T N, w ∈ gtbl) ∧ (∀ k, k < N → parseFieldDescriptor (T k).2.2.1 = some (tyT ci k)) ∧ (∀ a, a < N → ∀ b, b < N → a ≠ b → (T a).2.1 ≠ (T b).2.1) := by
  have gg : ∀ {C T N}, (∀ w ∈ u_ws C T N, w ∈ lw_tbl) → ∀ w ∈ u_ws C T N, w ∈ gtbl := by
    intro C T N h w hw
    refine in_g (h w hw) ?_
    obtain ⟨k, -, rfl⟩ := List.mem_map.mp hw
    unfold u_lay
    split <;> rfl
  unfold clsT at h
  match ci, h with
  | 0, h => cases h; exact ⟨gg uin0, tyX0_ok, nmX0⟩
  | 1, h => cases h; exact ⟨gg uin1, tyX1_ok, nmX1⟩
  | 2, h => cases h; exact ⟨gg uin2, tyX2_ok, nmX2⟩
  | 3, h => cases h; exact ⟨gg uin3, tyX3_ok, nmX3⟩
  | 4, h => cases h; exact ⟨gg uin4, tyX4_ok, nmX4⟩
  | 5, h => cases h; exact ⟨gg uin5, tyX5_ok, nmX5⟩
  | 6, h => cases h; exact ⟨gg uin6, tyX6_ok, nmX6⟩
  | 7, h => cases h; exact ⟨gg uin7, tyX7_ok, nmX7⟩
  | 8, h => cases h; exact ⟨gg uin8, tyX8_ok, nmX8⟩
  | 9, h => cases h; exact ⟨gg uin9, tyX9_ok, nmX9⟩
  | 10, h => cases h; exact ⟨gg uin10, tyX10_ok, nmX10⟩
  | 11, h => cases h; exact ⟨gg uin11, tyX11_ok, nmX11⟩
  | k + 12, h => simp at h
theorem lcn_ok {oc idx : Nat} {v : Int64} (h : lcn oc idx = some v) : Cond.constantLong (own oc) idx v ∈ gtbl := by
  unfold lcn at h
  cases hf : lcT.find? (fun e => e.1 == oc && e.2.1 == idx) with
  | none => rw [hf] at h; cases h
  | some e =>
    rw [hf] at h
    have h1 := List.all_eq_true.mp lcT_ok e (List.mem_of_find?_eq_some hf)
    have h2 : e.1 = oc ∧ e.2.1 = idx := by simpa using List.find?_some hf
    simp only [decide_eq_true_eq] at h1
    rw [h2.1, h2.2] at h1
    cases h
    exact in_g (List.mem_of_getElem? h1) rfl
theorem sp_ok {oc idx k q : Nat} (h : sp oc idx = some (k, q)) : Cond.methodLink (own oc) idx (spN k) ∈ gtbl := by
  unfold sp at h
  cases hf : spT.find? (fun e => e.1 == oc && e.2.1 == idx) with
  | none => rw [hf] at h; cases h
  | some e =>
    rw [hf] at h
    have h1 := List.all_eq_true.mp spT_ok e (List.mem_of_find?_eq_some hf)
    have h2 : e.1 = oc ∧ e.2.1 = idx := by simpa using List.find?_some hf
    simp only [Bool.and_eq_true, decide_eq_true_eq] at h1
    rw [h2.1, h2.2] at h1
    cases h
    exact in_g (List.mem_of_getElem? h1.1) rfl
theorem nwc_ok {oc idx ci : Nat} (h : nwc oc idx = some ci) : ∃ (C : String) (T : u_T) (N : Nat), clsT[ci]? = some (C, T, N) ∧ Cond.classLink (own oc) idx C ∈ gtbl ∧ Cond.instantiable C N ∈ gtbl ∧ Cond.initialized C ∈ gtbl := by
  unfold nwc at h
  cases hf : nwT.find? (fun e => e.1 == oc && e.2.1 == idx) with
  | none => rw [hf] at h; cases h
  | some e =>
    rw [hf] at h
    have h1 := List.all_eq_true.mp nwT_ok e (List.mem_of_find?_eq_some hf)
    have h2 : e.1 = oc ∧ e.2.1 = idx := by simpa using List.find?_some hf
    cases h
    unfold nwK at h1
    split at h1
    · next C T N hc =>
      simp only [Bool.and_eq_true, decide_eq_true_eq] at h1
      rw [h2.1, h2.2] at h1
      exact ⟨C, T, N, hc, in_g (List.mem_of_getElem? h1.1.1) rfl, in_g (List.mem_of_getElem? h1.1.2) rfl, in_g (List.mem_of_getElem? h1.2) rfl⟩
    · cases h1
theorem anc_ok {oc idx ci t : Nat} (h : anc oc idx = some (ci, t)) : ∃ C : String, Cond.classLink (own oc) idx C ∈ gtbl ∧ ((C = "GiftMatch$Rule" ∧ t = 3) ∨ (C = "GiftMatch$Scene" ∧ t = 4)) := by
  unfold anc at h
  cases hf : anT.find? (fun e => e.1 == oc && e.2.1 == idx) with
  | none => rw [hf] at h; cases h
  | some e =>
    rw [hf] at h
    have h1 := List.all_eq_true.mp anT_ok e (List.mem_of_find?_eq_some hf)
    have h2 : e.1 = oc ∧ e.2.1 = idx := by simpa using List.find?_some hf
    cases h
    unfold anK at h1
    split at h1
    · next C T N hc =>
      simp only [Bool.and_eq_true, decide_eq_true_eq, Bool.or_eq_true] at h1
      rw [h2.1, h2.2] at h1
      refine ⟨C, in_g (List.mem_of_getElem? h1.1.1) rfl, ?_⟩
      rcases h1.2 with ⟨a, b⟩ | ⟨a, b⟩
      · rw [a] at hc; cases hc; exact Or.inl ⟨rfl, b⟩
      · rw [a] at hc; cases hc; exact Or.inr ⟨rfl, b⟩
    · cases h1
end
section
section Sound
variable {p : Program} {l : Launch} {e : Env} {R : Room} {s : State} {m : MethodId} {args : Array Value} {below : List Frame} {meth : Method} {c : Code} {H : Heap} {locs : List Loc} {Q : State → Prop}
variable {mr : MRec} {G : GB} {D : va_G} {tyc : Nat → ClassId} {X : AX} {d : Nat} {pc pc' : Nat} {L L' : AL} {S S' : List AV} {M M' : AM} {cn sn cn' sn' : Nat} {ls : Array Slot}
theorem ofI_ofI8 (n : Int) : (Int8.ofInt n).toInt32 = Int32.ofInt (Int8.ofInt n).toInt := by
  apply Int32.toInt_inj.mp
  have h1 := Int8.minValue_le_toInt (Int8.ofInt n)
  have h2 := Int8.toInt_le (Int8.ofInt n)
  have e1 : Int8.minValue.toInt = -128 := rfl
  have e2 : Int8.maxValue.toInt = 127 := rfl
  rw [Int8.toInt_toInt32, Int32.toInt_ofInt_of_le (by omega) (by omega)]
theorem ofI_ofI16 (n : Int) : (Int16.ofInt n).toInt32 = Int32.ofInt (Int16.ofInt n).toInt := by
  apply Int32.toInt_inj.mp
  have h1 := Int16.minValue_le_toInt (Int16.ofInt n)
  have h2 := Int16.toInt_le (Int16.ofInt n)
  have e1 : Int16.minValue.toInt = -32768 := rfl
  have e2 : Int16.maxValue.toInt = 32767 := rfl
  rw [Int16.toInt_toInt32, Int32.toInt_ofInt_of_le (by omega) (by omega)]
theorem ofI_to (x : Int32) : Int32.ofInt x.toInt = x := Int32.ofInt_toInt x
theorem inA_ok {i : Int} {n : Nat} (h : inA i n = true) : vp_in (Int32.ofInt i) n ∧ (((Int32.ofInt i).toNatClampNeg : Nat) : Int) = i := by
  simp only [inA, decide_eq_true_eq] at h
  have e1 : (Int32.ofInt i).toInt = i := Int32.toInt_ofInt_of_le (by omega) (by omega)
  refine ⟨vp_in_iff.mpr (by rw [e1]; omega), ?_⟩
  rw [Int32.toNatClampNeg, e1]
  omega
theorem okv_ok {ty : FieldType} {v : AV} (h : okv ty v = true) : narrow ty (cV G v) = cV G v ∧ fits ty (cV G v) = true := by
  unfold okv at h
  split at h
  · exact ⟨rfl, rfl⟩
  · next z =>
    simp only [Bool.or_eq_true, beq_iff_eq] at h
    rcases h with rfl | rfl
    · exact ⟨show narrow .boolean (.int 0) = .int 0 by decide +kernel, show fits .boolean (.int 0) = true by decide +kernel⟩
    · exact ⟨show narrow .boolean (.int 1) = .int 1 by decide +kernel, show fits .boolean (.int 1) = true by decide +kernel⟩
  · exact ⟨rfl, rfl⟩
  · exact ⟨rfl, rfl⟩
  · exact ⟨rfl, rfl⟩
  · cases h
theorem jmp_ok {off : Int} {t : Nat} (h : jmp pc off = some t) : (pc : Int) + off = (t : Int) := by
  unfold jmp at h
  split at h
  · cases h; omega
  · cases h
/-- what the interpreter goes on with -/
def KK (p : Program) (l : Launch) (e : Env) (R : Room) (s : State) (m : MethodId) (args : Array Value) (below : List Frame) (meth : Method) (c : Code) (Q : State → Prop) (mr : MRec) (G : GB) (D : va_G) (tyc : Nat → ClassId) (pc : Nat) (L : AL) (S : List AV) (M : AM) (cn sn : Nat) : Prop :=
  ∀ (H : Heap) (locs : List Loc) (ls : Array Slot), HW G D tyc M H → va_S (AB G) s.heap H locs → lh G ls mr.2.2.1 L → W p l e R s m args below meth c H locs cn sn Q (F0 m pc ls (S.map (cV G)))
set_option maxHeartbeats 4000000 in
theorem so_load (C : Cx p R s m args meth c mr G D tyc X d) {ins : Instr} {len : Nat} (hd : decode mr.2.1 pc = .ok (ins, len)) (hlen : lenOK ins len = true)
    (hi : (∃ k, ins = .iload_n k) ∨ (∃ k, ins = .iload k) ∨ (∃ k, ins = .lload_n k) ∨ (∃ k, ins = .lload k) ∨ (∃ k, ins = .aload_n k) ∨ (∃ k, ins = .aload k))
    (h : stp X mr d ins pc L S M cn sn = some (pc', L', S', M', cn', sn')) (hH : HW G D tyc M H) (hS : va_S (AB G) s.heap H locs) (hl : lh G ls mr.2.2.1 L)
    (K : KK p l e R s m args below meth c Q mr G D tyc pc' L' S' M' cn' sn') : W p l e R s m args below meth c H locs cn sn Q (F0 m pc ls (S.map (cV G))) := by
  obtain ⟨hx, hb, -⟩ := C
  rcases hi with ⟨k, rfl⟩ | ⟨k, rfl⟩ | ⟨k, rfl⟩ | ⟨k, rfl⟩ | ⟨k, rfl⟩ | ⟨k, rfl⟩
  all_goals (simp only [lenOK, beq_iff_eq] at hlen; subst hlen)
  all_goals simp only [stp, Option.map_eq_some_iff] at h
  all_goals obtain ⟨v, hv, h⟩ := h
  all_goals simp only [Prod.mk.injEq] at h
  all_goals obtain ⟨rfl, rfl, rfl, rfl, rfl, rfl⟩ := h
  · unfold ldI at hv; split at hv
    · next z hz => cases hv; exact lv_iload_n hx hb hd rfl (hl.2.2 _ _ hz) (K H locs ls hH hS hl)
    · cases hv
  · unfold ldI at hv; split at hv
    · next z hz => cases hv; exact lv_iload hx hb hd (hl.2.2 _ _ hz) (K H locs ls hH hS hl)
    · cases hv
  · unfold ldJ at hv; split at hv
    · next z hz => cases hv; exact lv_lload_n hx hb hd rfl (hl.2.2 _ _ hz) (K H locs ls hH hS hl)
    · cases hv
  · unfold ldJ at hv; split at hv
    · next z hz => cases hv; exact lv_lload hx hb hd (hl.2.2 _ _ hz) (K H locs ls hH hS hl)
    · cases hv
  · unfold ldR at hv; split at hv
    · next z hz => cases hv; exact lv_aload_n hx hb hd rfl (hl.2.2 _ _ hz) (K H locs ls hH hS hl)
    · next z hz =>
      cases hv
      cases z with
      | zero => exact lv_aload_n hx hb hd rfl (hl.2.2 _ _ hz) (K H locs ls hH hS hl)
      | succ z => exact lv_aload_n hx hb hd rfl (hl.2.2 _ _ hz) (K H locs ls hH hS hl)
    · cases hv
  · unfold ldR at hv; split at hv
    · next z hz => cases hv; exact lv_aload hx hb hd (hl.2.2 _ _ hz) (K H locs ls hH hS hl)
    · next z hz =>
      cases hv
      cases z with
      | zero => exact lv_aload hx hb hd (hl.2.2 _ _ hz) (K H locs ls hH hS hl)
      | succ z => exact lv_aload hx hb hd (hl.2.2 _ _ hz) (K H locs ls hH hS hl)
    · cases hv
set_option maxHeartbeats 4000000 in
theorem so_store (C : Cx p R s m args meth c mr G D tyc X d) {ins : Instr} {len : Nat} (hd : decode mr.2.1 pc = .ok (ins, len)) (hlen : lenOK ins len = true)
    (hi : (∃ k, ins = .istore_n k) ∨ (∃ k, ins = .istore k) ∨ (∃ k, ins = .lstore_n k) ∨ (∃ k, ins = .lstore k) ∨ (∃ k, ins = .astore_n k) ∨ (∃ k, ins = .astore k) ∨ (∃ k n, ins = .iinc k n))
    (h : stp X mr d ins pc L S M cn sn = some (pc', L', S', M', cn', sn')) (hH : HW G D tyc M H) (hS : va_S (AB G) s.heap H locs) (hl : lh G ls mr.2.2.1 L)
    (K : KK p l e R s m args below meth c Q mr G D tyc pc' L' S' M' cn' sn') : W p l e R s m args below meth c H locs cn sn Q (F0 m pc ls (S.map (cV G))) := by
  obtain ⟨hx, hb, -⟩ := C
  rcases hi with ⟨k, rfl⟩ | ⟨k, rfl⟩ | ⟨k, rfl⟩ | ⟨k, rfl⟩ | ⟨k, rfl⟩ | ⟨k, rfl⟩ | ⟨k, n, rfl⟩
  all_goals (simp only [lenOK, beq_iff_eq] at hlen; subst hlen)
  all_goals simp only [stp] at h
  all_goals split at h
  all_goals try (cases h; done)
  all_goals split at h
  all_goals try (cases h; done)
  all_goals simp only [Option.some.injEq, Prod.mk.injEq] at h
  all_goals obtain ⟨rfl, rfl, rfl, rfl, rfl, rfl⟩ := h
  · next hk => exact lv_istore_n hx hb hd rfl (lh_has hl) hk rfl (fun ls' hl' => K H locs ls' hH hS (has_lh1 hl'))
  · next hk => exact lv_istore hx hb hd (lh_has hl) hk rfl (fun ls' hl' => K H locs ls' hH hS (has_lh1 hl'))
  · next hk => exact lv_lstore_n hx hb hd rfl (lh_has hl) hk rfl (fun ls' hl' => K H locs ls' hH hS (has_lh2 hl'))
  · next hk => exact lv_lstore hx hb hd (lh_has hl) hk rfl (fun ls' hl' => K H locs ls' hH hS (has_lh2 hl'))
  · next hk => exact lv_astore_n hx hb hd rfl (lh_has hl) hk rfl (fun ls' hl' => K H locs ls' hH hS (has_lh1 hl'))
  · next hk => exact lv_astore hx hb hd (lh_has hl) hk rfl (fun ls' hl' => K H locs ls' hH hS (has_lh1 hl'))
  · next x hx0 hk =>
    obtain ⟨q, hq⟩ := List.getElem?_of_mem (mem_prs (G := G) (L := L) (q := (k, cV G (iv x))) |>.mpr ⟨iv x, hx0, rfl⟩)
    exact lv_iinc (v := Int32.ofInt (x + n)) hx hb hd (lh_has hl) hq (by rw [Int32.ofInt_add]) hk rfl (fun ls' hl' => K H locs ls' hH hS (has_lh1 hl'))
set_option maxHeartbeats 4000000 in
theorem so_const (C : Cx p R s m args meth c mr G D tyc X d) {ins : Instr} {len : Nat} (hd : decode mr.2.1 pc = .ok (ins, len)) (hlen : lenOK ins len = true)
    (hi : (∃ k, ins = .iconst k) ∨ (∃ k, ins = .bipush k) ∨ (∃ k, ins = .sipush k) ∨ (∃ k, ins = .lconst k) ∨ (∃ k, ins = .ldc2_w k))
    (h : stp X mr d ins pc L S M cn sn = some (pc', L', S', M', cn', sn')) (hH : HW G D tyc M H) (hS : va_S (AB G) s.heap H locs) (hl : lh G ls mr.2.2.1 L)
    (K : KK p l e R s m args below meth c Q mr G D tyc pc' L' S' M' cn' sn') : W p l e R s m args below meth c H locs cn sn Q (F0 m pc ls (S.map (cV G))) := by
  obtain ⟨hx, hb, -, hown, hts, -⟩ := C
  rcases hi with ⟨k, rfl⟩ | ⟨k, rfl⟩ | ⟨k, rfl⟩ | ⟨k, rfl⟩ | ⟨k, rfl⟩
  all_goals (simp only [lenOK, beq_iff_eq] at hlen; subst hlen)
  all_goals simp only [stp, Option.map_eq_some_iff, Option.some.injEq, Prod.mk.injEq] at h
  · obtain ⟨rfl, rfl, rfl, rfl, rfl, rfl⟩ := h
    exact lv_iconst hx hb hd rfl (K H locs ls hH hS hl)
  · obtain ⟨rfl, rfl, rfl, rfl, rfl, rfl⟩ := h
    exact lv_bipush hx hb hd (ofI_ofI8 k) (K H locs ls hH hS hl)
  · obtain ⟨rfl, rfl, rfl, rfl, rfl, rfl⟩ := h
    exact lv_sipush hx hb hd (ofI_ofI16 k) (K H locs ls hH hS hl)
  · obtain ⟨rfl, rfl, rfl, rfl, rfl, rfl⟩ := h
    exact lv_lconst hx hb hd rfl (K H locs ls hH hS hl)
  · obtain ⟨v, hv, rfl, rfl, rfl, rfl, rfl, rfl⟩ := h
    exact lv_ldc2 hx hb hown (hts _ (lcn_ok hv)) hd (K H locs ls hH hS hl)
set_option maxHeartbeats 4000000 in
theorem so_arith (C : Cx p R s m args meth c mr G D tyc X d) {ins : Instr} {len : Nat} (hd : decode mr.2.1 pc = .ok (ins, len)) (hlen : lenOK ins len = true)
    (hi : ins = .iadd ∨ ins = .isub ∨ ins = .imul ∨ ins = .idiv ∨ ins = .ineg ∨ ins = .iand ∨ ins = .ladd ∨ ins = .lsub ∨ ins = .lmul ∨ ins = .ldiv ∨ ins = .lor ∨ ins = .lneg ∨ ins = .lshl ∨ ins = .lcmp ∨ ins = .i2l ∨ ins = .l2i)
    (h : stp X mr d ins pc L S M cn sn = some (pc', L', S', M', cn', sn')) (hH : HW G D tyc M H) (hS : va_S (AB G) s.heap H locs) (hl : lh G ls mr.2.2.1 L)
    (K : KK p l e R s m args below meth c Q mr G D tyc pc' L' S' M' cn' sn') : W p l e R s m args below meth c H locs cn sn Q (F0 m pc ls (S.map (cV G))) := by
  obtain ⟨hx, hb, -, hown, hts, -⟩ := C
  rcases hi with rfl | rfl | rfl | rfl | rfl | rfl | rfl | rfl | rfl | rfl | rfl | rfl | rfl | rfl | rfl | rfl
  all_goals (simp only [lenOK, beq_iff_eq] at hlen; subst hlen)
  all_goals simp only [stp] at h
  all_goals split at h
  all_goals try (cases h; done)
  · simp only [Option.some.injEq, Prod.mk.injEq] at h; obtain ⟨rfl, rfl, rfl, rfl, rfl, rfl⟩ := h
    refine lv_iadd hx hb hd ?_
    have := K H locs ls hH hS hl
    simp only [List.map_cons, cV, Int32.ofInt_add] at this
    exact this
  · simp only [Option.some.injEq, Prod.mk.injEq] at h; obtain ⟨rfl, rfl, rfl, rfl, rfl, rfl⟩ := h
    refine lv_isub hx hb hd ?_
    have := K H locs ls hH hS hl
    simp only [List.map_cons, cV, Int32.ofInt_sub] at this
    exact this
  · simp only [Option.some.injEq, Prod.mk.injEq] at h; obtain ⟨rfl, rfl, rfl, rfl, rfl, rfl⟩ := h
    refine lv_imul hx hb hd ?_
    have := K H locs ls hH hS hl
    simp only [List.map_cons, cV, Int32.ofInt_mul] at this
    exact this
  · split at h
    · cases h
    · next hz =>
      simp only [Option.some.injEq, Prod.mk.injEq] at h; obtain ⟨rfl, rfl, rfl, rfl, rfl, rfl⟩ := h
      refine lv_idiv hx hb hd hz ?_
      have := K H locs ls hH hS hl
      simp only [List.map_cons, cV, ofI_to] at this
      exact this
  · simp only [Option.some.injEq, Prod.mk.injEq] at h; obtain ⟨rfl, rfl, rfl, rfl, rfl, rfl⟩ := h
    refine lv_ineg hx hb hd ?_
    have := K H locs ls hH hS hl
    simp only [List.map_cons, cV, Int32.ofInt_neg] at this
    exact this
  · simp only [Option.some.injEq, Prod.mk.injEq] at h; obtain ⟨rfl, rfl, rfl, rfl, rfl, rfl⟩ := h
    refine lv_iand hx hb hd ?_
    have := K H locs ls hH hS hl
    simp only [List.map_cons, cV, ofI_to] at this
    exact this
  · simp only [Option.some.injEq, Prod.mk.injEq] at h; obtain ⟨rfl, rfl, rfl, rfl, rfl, rfl⟩ := h
    exact lv_ladd hx hb hd (K H locs ls hH hS hl)
  · simp only [Option.some.injEq, Prod.mk.injEq] at h; obtain ⟨rfl, rfl, rfl, rfl, rfl, rfl⟩ := h
    exact lv_lsub hx hb hd (K H locs ls hH hS hl)
  · simp only [Option.some.injEq, Prod.mk.injEq] at h; obtain ⟨rfl, rfl, rfl, rfl, rfl, rfl⟩ := h
    exact lv_lmul hx hb hd (K H locs ls hH hS hl)
  · split at h
    · cases h
    · next hz =>
      simp only [Option.some.injEq, Prod.mk.injEq] at h; obtain ⟨rfl, rfl, rfl, rfl, rfl, rfl⟩ := h
      exact lv_ldiv hx hb hd hz (K H locs ls hH hS hl)
  · simp only [Option.some.injEq, Prod.mk.injEq] at h; obtain ⟨rfl, rfl, rfl, rfl, rfl, rfl⟩ := h
    exact lv_lor hx hb hd (K H locs ls hH hS hl)
  · simp only [Option.some.injEq, Prod.mk.injEq] at h; obtain ⟨rfl, rfl, rfl, rfl, rfl, rfl⟩ := h
    exact lv_lneg hx hb hd (K H locs ls hH hS hl)
  · simp only [Option.some.injEq, Prod.mk.injEq] at h; obtain ⟨rfl, rfl, rfl, rfl, rfl, rfl⟩ := h
    exact lv_lshl hx hb hd rfl (K H locs ls hH hS hl)
  · simp only [Option.some.injEq, Prod.mk.injEq] at h; obtain ⟨rfl, rfl, rfl, rfl, rfl, rfl⟩ := h
    refine W.lcmp hx hb hd ?_
    have := K H locs ls hH hS hl
    simp only [List.map_cons, cV, ofI_to] at this
    exact this
  · simp only [Option.some.injEq, Prod.mk.injEq] at h; obtain ⟨rfl, rfl, rfl, rfl, rfl, rfl⟩ := h
    exact lv_i2l hx hb hd rfl (K H locs ls hH hS hl)
  · simp only [Option.some.injEq, Prod.mk.injEq] at h; obtain ⟨rfl, rfl, rfl, rfl, rfl, rfl⟩ := h
    refine lv_l2i hx hb hd rfl ?_
    have := K H locs ls hH hS hl
    simp only [List.map_cons, cV, ofI_to] at this
    exact this
set_option maxHeartbeats 4000000 in
theorem so_jump (C : Cx p R s m args meth c mr G D tyc X d) {ins : Instr} {len : Nat} (hd : decode mr.2.1 pc = .ok (ins, len)) (hlen : lenOK ins len = true)
    (hi : (∃ k, ins = .goto k) ∨ (∃ o k, ins = .ifCond o k) ∨ (∃ o k, ins = .if_icmp o k) ∨ (∃ a b c d, ins = .tableswitch a b c d) ∨ (∃ a b, ins = .lookupswitch a b) ∨ ins = .dup ∨ ins = .dup2 ∨ ins = .pop)
    (h : stp X mr d ins pc L S M cn sn = some (pc', L', S', M', cn', sn')) (hH : HW G D tyc M H) (hS : va_S (AB G) s.heap H locs) (hl : lh G ls mr.2.2.1 L)
    (K : KK p l e R s m args below meth c Q mr G D tyc pc' L' S' M' cn' sn') : W p l e R s m args below meth c H locs cn sn Q (F0 m pc ls (S.map (cV G))) := by
  obtain ⟨hx, hb, -, hown, hts, -⟩ := C
  rcases hi with ⟨k, rfl⟩ | ⟨o, k, rfl⟩ | ⟨o, k, rfl⟩ | ⟨a1, b1, c1, d1, rfl⟩ | ⟨a1, b1, rfl⟩ | rfl | rfl | rfl
  · simp only [lenOK, beq_iff_eq] at hlen; subst hlen
    simp only [stp, Option.map_eq_some_iff] at h
    obtain ⟨t, ht, h⟩ := h
    simp only [Prod.mk.injEq] at h
    obtain ⟨rfl, rfl, rfl, rfl, rfl, rfl⟩ := h
    exact lv_goto hx hb hd (jmp_ok ht) (K H locs ls hH hS hl)
  · simp only [lenOK, beq_iff_eq] at hlen; subst hlen
    simp only [stp] at h
    split at h
    · next x r =>
      simp only [Option.map_eq_some_iff] at h
      obtain ⟨t, ht, h⟩ := h
      simp only [Prod.mk.injEq] at h
      obtain ⟨rfl, rfl, rfl, rfl, rfl, rfl⟩ := h
      have K' := K H locs ls hH hS hl
      have z0 : Int32.ofInt 0 = 0 := rfl
      cases o
      · exact lv_if_eq hx hb hd (jmp_ok ht) (fun n => by rw [if_pos (by simpa [tst, z0] using n)] at K'; exact K') (fun n => by rw [if_neg (by simpa [tst, z0] using n)] at K'; exact K')
      · exact lv_if_ne hx hb hd (jmp_ok ht) (fun n => by rw [if_pos (by simpa [tst, z0] using n)] at K'; exact K') (fun n => by rw [if_neg (by simpa [tst, z0] using n)] at K'; exact K')
      · exact lv_if_lt hx hb hd (jmp_ok ht) (fun n => by rw [if_pos (by simpa [tst, z0] using n)] at K'; exact K') (fun n => by rw [if_neg (by simpa [tst, z0] using n)] at K'; exact K')
      · exact lv_if_ge hx hb hd (jmp_ok ht) (fun n => by rw [if_pos (by simpa [tst, z0] using n)] at K'; exact K') (fun n => by rw [if_neg (by simpa [tst, z0] using n)] at K'; exact K')
      · exact lv_if_gt hx hb hd (jmp_ok ht) (fun n => by rw [if_pos (by simpa [tst, z0] using n)] at K'; exact K') (fun n => by rw [if_neg (by simpa [tst, z0] using n)] at K'; exact K')
      · exact lv_if_le hx hb hd (jmp_ok ht) (fun n => by rw [if_pos (by simpa [tst, z0] using n)] at K'; exact K') (fun n => by rw [if_neg (by simpa [tst, z0] using n)] at K'; exact K')
    · cases h
  · simp only [lenOK, beq_iff_eq] at hlen; subst hlen
    simp only [stp] at h
    split at h
    · next y x r =>
      simp only [Option.map_eq_some_iff] at h
      obtain ⟨t, ht, h⟩ := h
      simp only [Prod.mk.injEq] at h
      obtain ⟨rfl, rfl, rfl, rfl, rfl, rfl⟩ := h
      have K' := K H locs ls hH hS hl
      have z0 : Int32.ofInt 0 = 0 := rfl
      cases o
      · exact lv_icmp_eq hx hb hd (jmp_ok ht) (fun n => by rw [if_pos (by simpa [tst, z0] using n)] at K'; exact K') (fun n => by rw [if_neg (by simpa [tst, z0] using n)] at K'; exact K')
      · exact lv_icmp_ne hx hb hd (jmp_ok ht) (fun n => by rw [if_pos (by simpa [tst, z0] using n)] at K'; exact K') (fun n => by rw [if_neg (by simpa [tst, z0] using n)] at K'; exact K')
      · exact lv_icmp_lt hx hb hd (jmp_ok ht) (fun n => by rw [if_pos (by simpa [tst, z0] using n)] at K'; exact K') (fun n => by rw [if_neg (by simpa [tst, z0] using n)] at K'; exact K')
      · exact lv_icmp_ge hx hb hd (jmp_ok ht) (fun n => by rw [if_pos (by simpa [tst, z0] using n)] at K'; exact K') (fun n => by rw [if_neg (by simpa [tst, z0] using n)] at K'; exact K')
      · exact lv_icmp_gt hx hb hd (jmp_ok ht) (fun n => by rw [if_pos (by simpa [tst, z0] using n)] at K'; exact K') (fun n => by rw [if_neg (by simpa [tst, z0] using n)] at K'; exact K')
      · exact lv_icmp_le hx hb hd (jmp_ok ht) (fun n => by rw [if_pos (by simpa [tst, z0] using n)] at K'; exact K') (fun n => by rw [if_neg (by simpa [tst, z0] using n)] at K'; exact K')
    · cases h
  · simp only [stp] at h
    split at h
    · next x r =>
      split at h
      · next off hoff =>
        simp only [Option.map_eq_some_iff] at h
        obtain ⟨t, ht, h⟩ := h
        simp only [Prod.mk.injEq] at h
        obtain ⟨rfl, rfl, rfl, rfl, rfl, rfl⟩ := h
        unfold swt at hoff
        split at hoff
        · next hr => cases hoff; exact lv_tableOut hx hb hd hr (jmp_ok ht) (K H locs ls hH hS hl)
        · next hr => exact lv_tableIn hx hb hd (fun q => hr (Or.inl q)) (fun q => hr (Or.inr q)) hoff (jmp_ok ht) (K H locs ls hH hS hl)
      · cases h
    · cases h
  · simp only [stp] at h
    split at h
    · next x r =>
      split at h
      · next hp =>
        simp only [Option.map_eq_some_iff] at h
        obtain ⟨t, ht, h⟩ := h
        simp only [Prod.mk.injEq] at h
        obtain ⟨rfl, rfl, rfl, rfl, rfl, rfl⟩ := h
        exact lv_lookup hx hb hd hp rfl (jmp_ok ht) (K H locs ls hH hS hl)
      · cases h
    · cases h
  · simp only [lenOK, beq_iff_eq] at hlen; subst hlen
    simp only [stp] at h
    split at h
    · next v r =>
      split at h
      · next hc =>
        simp only [Option.some.injEq, Prod.mk.injEq] at h; obtain ⟨rfl, rfl, rfl, rfl, rfl, rfl⟩ := h
        exact lv_dup hx hb hd ((cV_cat G v).trans hc) (K H locs ls hH hS hl)
      · cases h
    · cases h
  · simp only [lenOK, beq_iff_eq] at hlen; subst hlen
    simp only [stp] at h
    split at h
    · next v w r =>
      split at h
      · next hc =>
        simp only [Option.some.injEq, Prod.mk.injEq] at h; obtain ⟨rfl, rfl, rfl, rfl, rfl, rfl⟩ := h
        exact lv_dup2_11 hx hb hd ((cV_cat G _).trans hc.1) ((cV_cat G _).trans hc.2) (K H locs ls hH hS hl)
      · cases h
    · cases h
  · simp only [lenOK, beq_iff_eq] at hlen; subst hlen
    simp only [stp] at h
    split at h
    · next v r =>
      split at h
      · next hc =>
        simp only [Option.some.injEq, Prod.mk.injEq] at h; obtain ⟨rfl, rfl, rfl, rfl, rfl, rfl⟩ := h
        exact lv_pop hx hb hd ((cV_cat G v).trans hc) (K H locs ls hH hS hl)
      · cases h
    · cases h
end Sound
end
section
section SoundM
variable {p : Program} {l : Launch} {e : Env} {R : Room} {s : State} {m : MethodId} {args : Array Value} {below : List Frame} {meth : Method} {c : Code} {H : Heap} {locs : List Loc} {Q : State → Prop}
variable {mr : MRec} {G : GB} {D : va_G} {tyc : Nat → ClassId} {X : AX} {d : Nat} {pc pc' : Nat} {L L' : AL} {S S' : List AV} {M M' : AM} {cn sn cn' sn' : Nat} {ls : Array Slot}
theorem cat_sum (G : GB) (r : List AV) : ((r.map (cV G)).map fun v => v.category).sum = (r.map cat).sum := by
  rw [List.map_map]
  congr 1
  apply List.map_congr_left
  intro v _
  exact cV_cat G v
theorem ty_i {t n : Nat} {f : Int → Int} {q : Nat} (h : M[q]? = some (.inl (t, n, .inl f))) : (cW G tyc M)[q]? = some (G.1 + q, .inl (tyc t, n, .inl (fun j : Nat => Int32.ofInt (f j)))) := cW_get h
theorem ty_l {t n : Nat} {f : Int → Int64} {q : Nat} (h : M[q]? = some (.inl (t, n, .inr (.inl f)))) : (cW G tyc M)[q]? = some (G.1 + q, .inl (tyc t, n, .inr (.inl (fun j : Nat => f j)))) := cW_get h
theorem ty_q {t n : Nat} {f : Int → Option Nat} {q : Nat} (h : M[q]? = some (.inl (t, n, .inr (.inr f)))) : (cW G tyc M)[q]? = some (G.1 + q, .inl (tyc t, n, .inr (.inr (.inr (.inr (fun j : Nat => (f j).map (fun k => G.1 + k))))))) := cW_get h
theorem ty_o {ci : Nat} {fs : List AV} {q : Nat} (h : M[q]? = some (.inr (ci, fs))) : (cW G tyc M)[q]? = some (G.1 + q, .inr (ci, fs.map (cV G))) := cW_get h
theorem hw_set {q : Nat} {ee : AE} {H1 : Heap} (hz : H1.size = G.1 + M.length) (h : va_P D clsT ((cW G tyc M).set q (G.1 + q, cE G tyc ee)) H1) : HW G D tyc (M.set q ee) H1 := by
  rw [cW_set] at h
  exact ⟨by rw [List.length_set]; exact hz, h⟩
/-- behind a write the heap is as large as before: nothing of the rest is needed -/
theorem up_i {f : Int → Int} {i x : Int} (h : (((Int32.ofInt i).toNatClampNeg : Nat) : Int) = i) : (upd (fun j : Nat => Int32.ofInt (f j)) (Int32.ofInt i).toNatClampNeg (Int32.ofInt x)) = (fun j : Nat => Int32.ofInt (updA f i x j)) := by
  funext j
  unfold upd updA
  by_cases hj : j = (Int32.ofInt i).toNatClampNeg
  · rw [if_pos hj, if_pos (by rw [hj]; exact h)]
  · rw [if_neg hj, if_neg (by rw [← h]; exact fun q => hj (Int.ofNat.inj q))]
theorem up_l {f : Int → Int64} {i : Int} {x : Int64} (h : (((Int32.ofInt i).toNatClampNeg : Nat) : Int) = i) : (vp_updL (fun j : Nat => f j) (Int32.ofInt i).toNatClampNeg x) = (fun j : Nat => updA f i x j) := by
  funext j
  unfold vp_updL updA
  by_cases hj : j = (Int32.ofInt i).toNatClampNeg
  · rw [if_pos hj, if_pos (by rw [hj]; exact h)]
  · rw [if_neg hj, if_neg (by rw [← h]; exact fun q => hj (Int.ofNat.inj q))]
theorem up_q {f : Int → Option Nat} {i : Int} {v : Nat} (h : (((Int32.ofInt i).toNatClampNeg : Nat) : Int) = i) : (va_up (fun j : Nat => (f j).map (fun k => G.1 + k)) (Int32.ofInt i).toNatClampNeg (some (G.1 + v))) = (fun j : Nat => (updA f i (some v) j).map (fun k => G.1 + k)) := by
  funext j
  unfold va_up updA
  by_cases hj : j = (Int32.ofInt i).toNatClampNeg
  · rw [if_pos hj, if_pos (by rw [hj]; exact h)]; rfl
  · rw [if_neg hj, if_neg (by rw [← h]; exact fun q => hj (Int.ofNat.inj q))]
set_option maxHeartbeats 4000000 in
theorem so_read (C : Cx p R s m args meth c mr G D tyc X d) {ins : Instr} {len : Nat} (hd : decode mr.2.1 pc = .ok (ins, len)) (hlen : lenOK ins len = true)
    (hi : (∃ k, ins = .getfield k) ∨ (∃ k, ins = .getstatic k) ∨ ins = .iaload ∨ ins = .laload ∨ ins = .baload ∨ ins = .aaload ∨ ins = .arraylength)
    (h : stp X mr d ins pc L S M cn sn = some (pc', L', S', M', cn', sn')) (hH : HW G D tyc M H) (hS : va_S (AB G) s.heap H locs) (hl : lh G ls mr.2.2.1 L)
    (K : KK p l e R s m args below meth c Q mr G D tyc pc' L' S' M' cn' sn') : W p l e R s m args below meth c H locs cn sn Q (F0 m pc ls (S.map (cV G))) := by
  obtain ⟨hx, hb, -, hown, hts, ⟨hK, hnest, hao1, hao2, hZ, hT, hX, hsb, hbs, hXl⟩, -⟩ := C
  rcases hi with ⟨k, rfl⟩ | ⟨k, rfl⟩ | rfl | rfl | rfl | rfl | rfl
  all_goals (simp only [lenOK, beq_iff_eq] at hlen; subst hlen)
  all_goals simp only [stp] at h
  · split at h
    · next q r =>
      split at h
      · next ci j hf =>
        split at h
        · next ci' fs hM =>
          split at h
          · next hci =>
            subst hci
            simp only [Option.map_eq_some_iff] at h
            obtain ⟨v, hv, h⟩ := h
            simp only [Prod.mk.injEq] at h
            obtain ⟨rfl, rfl, rfl, rfl, rfl, rfl⟩ := h
            obtain ⟨CC, T, N, hc, hj, hlk, -⟩ := fld_ok hf
            exact va_get (D := D) (ci := ci') (v := cV G v) (C := CC) (T := T) (N := N) hx hb hts (u_in hc).1 hown hK hH.2 q (ty_o hM) hc j hj (hts _ hlk) (fun _ h9 => h9) (by rw [List.getElem?_map, hv]; rfl) hd (K H locs ls hH hS hl)
          · cases h
        · cases h
      · cases h
    · cases h
  · split at h
    · next hk =>
      simp only [Option.some.injEq, Prod.mk.injEq] at h; obtain ⟨rfl, rfl, rfl, rfl, rfl, rfl⟩ := h
      obtain ⟨h9, rfl⟩ := hk
      rw [h9] at hown
      exact va_getsN hx hb hZ hS hown (va_Nw.use rfl (hnest (.fieldLinkNest (own 9) 41 "GiftMatch" "ROOTS" "[I" "GiftMatch") (by decide +kernel))) (fun _ h9 => h9) hd (K H locs ls hH hS hl)
    · cases h
  · split at h
    · next i q r =>
      split at h
      · next n f hM =>
        split at h
        · next hin =>
          simp only [Option.some.injEq, Prod.mk.injEq] at h; obtain ⟨rfl, rfl, rfl, rfl, rfl, rfl⟩ := h
          refine va_iald hx hb hK hH.2 q 0 (ty_i hM) rfl (inA_ok hin).1 hd ?_
          have := K H locs ls hH hS hl
          simp only [(inA_ok hin).2]
          exact this
        · cases h
      · cases h
    · next i r =>
      split at h
      · next hin =>
        simp only [Option.some.injEq, Prod.mk.injEq] at h; obtain ⟨rfl, rfl, rfl, rfl, rfl, rfl⟩ := h
        exact va_ti (v := .int (Int32.ofInt (rootZ i))) hx hb hT hS (inA_ok hin).1 (by simp only [(inA_ok hin).2]) hd (K H locs ls hH hS hl)
      · cases h
    · next i r =>
      split at h
      · next hin =>
        simp only [Option.some.injEq, Prod.mk.injEq] at h; obtain ⟨rfl, rfl, rfl, rfl, rfl, rfl⟩ := h
        refine va_sld hx hb hX (Nat.lt_of_lt_of_le hsb hbs) (Nat.not_le.mpr hsb) hS (inA_ok hin).1 hd ?_
        have := K H locs ls hH hS hl
        simp only [List.map_cons, cV, ofI_to] at this
        have e2 : (Int32.ofInt i).toNatClampNeg = i.toNat := by have := (inA_ok hin).2; omega
        rw [e2]
        exact this
      · cases h
    · cases h
  · split at h
    · next i q r =>
      split at h
      · next n f hM =>
        split at h
        · next hin =>
          simp only [Option.some.injEq, Prod.mk.injEq] at h; obtain ⟨rfl, rfl, rfl, rfl, rfl, rfl⟩ := h
          refine va_lald hx hb hK hH.2 q 1 (ty_l hM) rfl (inA_ok hin).1 hd ?_
          have := K H locs ls hH hS hl
          simp only [(inA_ok hin).2]
          exact this
        · cases h
      · cases h
    · cases h
  · split at h
    · next i q r =>
      split at h
      · next n f hM =>
        split at h
        · next hin =>
          simp only [Option.some.injEq, Prod.mk.injEq] at h; obtain ⟨rfl, rfl, rfl, rfl, rfl, rfl⟩ := h
          refine va_zald hx hb hK hH.2 q 2 (ty_i hM) rfl (inA_ok hin).1 hd ?_
          have := K H locs ls hH hS hl
          simp only [(inA_ok hin).2]
          exact this
        · cases h
      · cases h
    · cases h
  · split at h
    · next i q r =>
      split at h
      · next t n f hM =>
        split at h
        · next hin =>
          simp only [Option.map_eq_some_iff] at h
          obtain ⟨v, hv, h⟩ := h
          simp only [Prod.mk.injEq] at h
          obtain ⟨rfl, rfl, rfl, rfl, rfl, rfl⟩ := h
          have := K H locs ls hH hS hl
          rcases hin.2 with rfl | rfl
          · refine va_aldq hx hb hK hH.2 q 3 (ty_q hM) rfl (inA_ok hin.1).1 hd ?_
            simp only [(inA_ok hin.1).2, hv]
            exact this
          · refine va_aldq hx hb hK hH.2 q 4 (ty_q hM) rfl (inA_ok hin.1).1 hd ?_
            simp only [(inA_ok hin.1).2, hv]
            exact this
        · cases h
      · cases h
    · cases h
  · split at h
    · next r =>
      simp only [Option.some.injEq, Prod.mk.injEq] at h; obtain ⟨rfl, rfl, rfl, rfl, rfl, rfl⟩ := h
      refine va_slen hx hb hX (Nat.lt_of_lt_of_le hsb hbs) (Nat.not_le.mpr hsb) hS hd ?_
      have := K H locs ls hH hS hl
      simp only [List.map_cons, cV, ofI_to] at this
      exact this
    · cases h
end SoundM
end
section
section SoundW
variable {p : Program} {l : Launch} {e : Env} {R : Room} {s : State} {m : MethodId} {args : Array Value} {below : List Frame} {meth : Method} {c : Code} {H : Heap} {locs : List Loc} {Q : State → Prop}
variable {mr : MRec} {G : GB} {D : va_G} {tyc : Nat → ClassId} {X : AX} {d : Nat} {pc pc' : Nat} {L L' : AL} {S S' : List AV} {M M' : AM} {cn sn cn' sn' : Nat} {ls : Array Slot}
theorem W_size {g : JFrame} (k : H.size ≤ s.heap.size + cn → W p l e R s m args below meth c H locs cn sn Q g) : W p l e R s m args below meth c H locs cn sn Q g := by
  intro T hT X
  have h := X.same.2.2.1
  have e : (T.setVm s.vm).heap = H := hT
  rw [e] at h
  exact k h T hT X
theorem hw_up {q : Nat} {ee e0 : AE} {H1 : Heap} (hq : M[q]? = some e0) (hz : s.heap.size + cn = G.1 + M.length) (h9 : H1.size ≤ s.heap.size + cn) (h : va_P D clsT ((cW G tyc M).set q (G.1 + q, cE G tyc ee)) H1) : HW G D tyc (M.set q ee) H1 := by
  rw [cW_set] at h
  refine ⟨?_, h⟩
  rw [List.length_set]
  have hl : 0 < M.length := Nat.lt_of_le_of_lt (Nat.zero_le _) (List.getElem?_eq_some_iff.mp hq).1
  have h1 : M.length - 1 < (M.set q ee).length := by rw [List.length_set]; omega
  have h2 := (h (M.length - 1) _ (cW_get (List.getElem?_eq_getElem h1))).lt
  simp only at h2
  omega
set_option maxHeartbeats 4000000 in
theorem so_write (C : Cx p R s m args meth c mr G D tyc X d) {ins : Instr} {len : Nat} (hd : decode mr.2.1 pc = .ok (ins, len)) (hlen : lenOK ins len = true) (hz : s.heap.size + cn = G.1 + M.length)
    (hi : (∃ k, ins = .putfield k) ∨ ins = .iastore ∨ ins = .lastore ∨ ins = .bastore ∨ ins = .aastore ∨ (∃ k, ins = .invokespecial k) ∨ (∃ k, ins = .invokestatic k))
    (h : stp X mr d ins pc L S M cn sn = some (pc', L', S', M', cn', sn')) (hH : HW G D tyc M H) (hS : va_S (AB G) s.heap H locs) (hl : lh G ls mr.2.2.1 L)
    (K : KK p l e R s m args below meth c Q mr G D tyc pc' L' S' M' cn' sn') : W p l e R s m args below meth c H locs cn sn Q (F0 m pc ls (S.map (cV G))) := by
  obtain ⟨hx, hb, hml, hown, hts, ⟨hK, hnest, hao1, hao2, hZ, hT, hX, hsb, hbs, hXl⟩, hnm, hfr, hlo, hmc, hms⟩ := C
  rcases hi with ⟨k, rfl⟩ | rfl | rfl | rfl | rfl | ⟨k, rfl⟩ | ⟨k, rfl⟩
  all_goals (simp only [lenOK, beq_iff_eq] at hlen; subst hlen)
  all_goals simp only [stp] at h
  · split at h
    · next v q r =>
      split at h
      · next ci j hf =>
        split at h
        · next ci' fs hM =>
          split at h
          · next hc0 =>
            obtain ⟨rfl, hj2, hok, hfin⟩ := hc0
            simp only [Option.some.injEq, Prod.mk.injEq] at h; obtain ⟨rfl, rfl, rfl, rfl, rfl, rfl⟩ := h
            obtain ⟨CC, T, N, hc, hj, hlk, hpd⟩ := fld_ok hf
            have hu := u_in hc
            have hE : (G.1 + q, Sum.inr (ci', (fs.map (cV G)).set j (cV G v))) = ((G.1 + q, cE G tyc (.inr (ci', fs.set j v))) : Nat × va_E) := by
              simp only [cE, List.map_set]
            cases hf2 : (T j).2.2.2 with
            | false =>
              refine va_put (D := D) (ci := ci') (v := cV G v) (ty := tyT ci' j) (C := CC) (T := T) (N := N) hx hb hts hu.1 (tyT ci') hu.2.1 hu.2.2 hown hK hH.2 cW_D hS q (ty_o hM) hc j hj (hts _ hlk) (fun _ h9 => h9) hf2 hpd (okv_ok hok).1 (okv_ok hok).2 (by rw [List.length_map]; exact hj2) hd (fun H1 locs1 hP1 _ hS1 => ?_)
              rw [hE] at hP1
              exact W_size fun h9 => K H1 locs1 ls (hw_up hM hz h9 hP1) hS1 hl
            | true =>
              have hfn := hfin (by unfold finT; rw [hc]; exact hf2)
              have hdc : (T j).1 = own mr.2.2.2.2.2.2 := by rw [← hfn.2]; unfold decT; rw [hc]
              refine va_putF (D := D) (ci := ci') (v := cV G v) (ty := tyT ci' j) (C := CC) (T := T) (N := N) hx hb hts hu.1 (tyT ci') hu.2.1 hu.2.2 hown hK hH.2 cW_D hS q (ty_o hM) hc j hj (hts _ hlk) (fun _ h9 => h9) hf2 (hnm hfn.1) hdc hpd (okv_ok hok).1 (okv_ok hok).2 (by rw [List.length_map]; exact hj2) hd (fun H1 locs1 hP1 _ hS1 => ?_)
              rw [hE] at hP1
              exact W_size fun h9 => K H1 locs1 ls (hw_up hM hz h9 hP1) hS1 hl
          · cases h
        · cases h
      · cases h
    · cases h
  · split at h
    · next x i q r =>
      split at h
      · next n f hM =>
        split at h
        · next hin =>
          simp only [Option.some.injEq, Prod.mk.injEq] at h; obtain ⟨rfl, rfl, rfl, rfl, rfl, rfl⟩ := h
          refine va_iast hx hb hK hH.2 cW_D hS q 0 (ty_i hM) rfl (inA_ok hin).1 hd (fun H1 locs1 hP1 _ hS1 => ?_)
          rw [up_i (inA_ok hin).2] at hP1
          exact W_size fun h9 => K H1 locs1 ls (hw_up hM hz h9 hP1) hS1 hl
        · cases h
      · cases h
    · cases h
  · split at h
    · next x i q r =>
      split at h
      · next n f hM =>
        split at h
        · next hin =>
          simp only [Option.some.injEq, Prod.mk.injEq] at h; obtain ⟨rfl, rfl, rfl, rfl, rfl, rfl⟩ := h
          refine va_last hx hb hK hH.2 cW_D hS q 1 (ty_l hM) rfl (inA_ok hin).1 hd (fun H1 locs1 hP1 _ hS1 => ?_)
          rw [up_l (inA_ok hin).2] at hP1
          exact W_size fun h9 => K H1 locs1 ls (hw_up hM hz h9 hP1) hS1 hl
        · cases h
      · cases h
    · cases h
  · split at h
    · next x i q r =>
      split at h
      · next n f hM =>
        split at h
        · next hin =>
          simp only [Option.some.injEq, Prod.mk.injEq] at h; obtain ⟨rfl, rfl, rfl, rfl, rfl, rfl⟩ := h
          refine va_zast hx hb hK hH.2 cW_D hS q 2 (ty_i hM) rfl (inA_ok hin.1).1 hd (fun H1 locs1 hP1 _ hS1 => ?_)
          have e0 : vp_nar .boolean (Int32.ofInt x) = Int32.ofInt x := by rcases hin.2 with rfl | rfl <;> decide +kernel
          rw [e0, up_i (inA_ok hin.1).2] at hP1
          exact W_size fun h9 => K H1 locs1 ls (hw_up hM hz h9 hP1) hS1 hl
        · cases h
      · cases h
    · cases h
  · split at h
    · next v i q r =>
      split at h
      · next t n f ci fs hM hM2 =>
        split at h
        · next hin =>
          simp only [Option.some.injEq, Prod.mk.injEq] at h; obtain ⟨rfl, rfl, rfl, rfl, rfl, rfl⟩ := h
          rcases hin.2 with ⟨rfl, rfl⟩ | ⟨rfl, rfl⟩
          · refine va_astq (r := (RX7, TX7, 5)) hx hb hK hH.2 cW_D hS q 3 v 7 (ty_q hM) rfl (ty_o hM2) rfl (inA_ok hin.1).1 hd (fun H1 locs1 hP1 _ hS1 => ?_)
            rw [up_q (inA_ok hin.1).2] at hP1
            exact W_size fun h9 => K H1 locs1 ls (hw_up hM hz h9 hP1) hS1 hl
          · refine va_astq (r := (RX8, TX8, 12)) hx hb hK hH.2 cW_D hS q 4 v 8 (ty_q hM) rfl (ty_o hM2) rfl (inA_ok hin.1).1 hd (fun H1 locs1 hP1 _ hS1 => ?_)
            rw [up_q (inA_ok hin.1).2] at hP1
            exact W_size fun h9 => K H1 locs1 ls (hw_up hM hz h9 hP1) hS1 hl
        · cases h
      · cases h
    · cases h
  · split at h
    · next q r =>
      split at h
      · next z hsp =>
        split at h
        · next hc0 =>
          simp only [Option.some.injEq, Prod.mk.injEq] at h; obtain ⟨rfl, rfl, rfl, rfl, rfl, rfl⟩ := h
          have hlk : Cond.methodLink (own mr.2.2.2.2.2.2) k objectInit ∈ gtbl := sp_ok hsp
          exact W.objInit hx hb hown (hts _ hlk) (hts _ (in_g w_oi rfl)) (hts _ (in_g w_oc rfl)) rfl (by rw [hml]; exact hl.1) rfl hd (by omega) (by
            show 2 * 0 + ((r.map (cV G)).map fun v => v.category).sum + 12 ≤ R.locals
            rw [cat_sum]
            omega) (K H locs ls hH hS hl)
        · cases h
      · cases h
    · cases h
  · split at h
    · next z hsp =>
      split at h
      · next y x r =>
        split at h
        · next hc0 =>
          simp only [Option.some.injEq, Prod.mk.injEq] at h; obtain ⟨rfl, rfl, rfl, rfl, rfl, rfl⟩ := h
          obtain ⟨z1, z2, z3, z4⟩ := hc0
          refine va_mmax hx hb (by rw [hml]; exact hl.1.symm) hown (hts _ (sp_ok hsp)) (hts _ (in_g w_smax rfl)) (hts _ (in_g w_mi rfl)) (hts _ (in_g w_cmax rfl)) (by omega) (by rw [cat_sum]; omega) (by omega) (by omega) hd ?_
          have := K H locs ls hH hS hl
          simp only [List.map_cons, cV, apply_ite Int32.ofInt] at this
          exact this
        · cases h
      · cases h
    · next z hsp =>
      split at h
      · next y x r =>
        split at h
        · next hc0 =>
          simp only [Option.some.injEq, Prod.mk.injEq] at h; obtain ⟨rfl, rfl, rfl, rfl, rfl, rfl⟩ := h
          obtain ⟨z1, z2, z3, z4⟩ := hc0
          refine va_mmin hx hb (by rw [hml]; exact hl.1.symm) hown (hts _ (sp_ok hsp)) (hts _ (in_g w_smin rfl)) (hts _ (in_g w_mi rfl)) (hts _ (in_g w_cmin rfl)) (by omega) (by rw [cat_sum]; omega) (by omega) (by omega) hd ?_
          have := K H locs ls hH hS hl
          simp only [List.map_cons, cV, apply_ite Int32.ofInt] at this
          exact this
        · cases h
      · cases h
    · next z hsp =>
      split at h
      · next y x r =>
        split at h
        · next hc0 =>
          simp only [Option.some.injEq, Prod.mk.injEq] at h; obtain ⟨rfl, rfl, rfl, rfl, rfl, rfl⟩ := h
          obtain ⟨z1, z2, z3, z4⟩ := hc0
          refine va_mmax_long hx hb (by rw [hml]; exact hl.1.symm) hown (hts _ (sp_ok hsp)) (hts _ (in_g w_smaxl rfl)) (hts _ (in_g w_mi rfl)) (hts _ (in_g w_cmaxl rfl)) (by omega) (by rw [cat_sum]; omega) (by omega) (by omega) hd ?_
          have := K H locs ls hH hS hl
          simp only [List.map_cons, cV] at this
          exact this
        · cases h
      · cases h
    · next z hsp =>
      split at h
      · next y x r =>
        split at h
        · next hc0 =>
          simp only [Option.some.injEq, Prod.mk.injEq] at h; obtain ⟨rfl, rfl, rfl, rfl, rfl, rfl⟩ := h
          obtain ⟨z1, z2, z3, z4⟩ := hc0
          refine va_mmin_long hx hb (by rw [hml]; exact hl.1.symm) hown (hts _ (sp_ok hsp)) (hts _ (in_g w_sminl rfl)) (hts _ (in_g w_mi rfl)) (hts _ (in_g w_cminl rfl)) (by omega) (by rw [cat_sum]; omega) (by omega) (by omega) hd ?_
          have := K H locs ls hH hS hl
          simp only [List.map_cons, cV] at this
          exact this
        · cases h
      · cases h
    · next z hsp =>
      split at h
      · next n dp q sp0 q0 r =>
        split at h
        · next n0 f n1 g hM0 hM1 =>
          split at h
          · next hc0 =>
            simp only [Option.some.injEq, Prod.mk.injEq] at h; obtain ⟨rfl, rfl, rfl, rfl, rfl, rfl⟩ := h
            obtain ⟨z1, z2, z3, z4, z5, z6, z7, z8, z9⟩ := hc0
            have hlk : Cond.methodLink (own mr.2.2.2.2.2.2) k arraycopyName ∈ gtbl := sp_ok hsp
            have tI : ∀ x : Int, 0 ≤ x → x < 2147483648 → (Int32.ofInt x).toInt = x := fun x a b => Int32.toInt_ofInt_of_le (by omega) (by omega)
            have tN : ∀ x : Int, 0 ≤ x → x < 2147483648 → (((Int32.ofInt x).toNatClampNeg : Nat) : Int) = x := fun x a b => by rw [Int32.toNatClampNeg, tI x a b]; omega
            have tL : ∀ x : Int, 0 ≤ x → x < 2147483648 → ¬ Int32.ofInt x < 0 := fun x a b q => by
              rw [Int32.lt_iff_toInt_lt, tI x a b] at q
              simp at q
              omega
            have t1 := tN n z1 (by omega)
            have t2 := tN dp z2 (by omega)
            have t3 := tN sp0 z3 (by omega)
            refine va_copyi (ty := .int) hx hb (by rw [hml]; exact hl.1.symm) hown (hts _ hlk) (hts _ (in_g w_acn rfl)) (hts _ (in_g w_acs rfl)) (hts _ (in_g w_aci rfl)) hK hH.2 cW_D hS q0 q 0 0 (ty_i hM0) (ty_i hM1) rfl rfl rfl (tL _ z3 (by omega)) (tL _ z2 (by omega)) (tL _ z1 (by omega)) (by omega) (by omega) (fun _ _ => rfl) (by omega) (by
              rw [cat_sum]
              have : nativeFrameWords "java/lang/System" "arraycopy" 5 + 11 ≤ 33 := by decide +kernel
              omega) hd (fun H1 locs1 hP1 _ hS1 => ?_)
            have e5 : va_cpy (fun j : Nat => Int32.ofInt (f j)) (fun j : Nat => Int32.ofInt (g j)) (Int32.ofInt sp0).toNatClampNeg (Int32.ofInt dp).toNatClampNeg (Int32.ofInt n).toNatClampNeg = (fun j : Nat => Int32.ofInt (cpyA f g sp0 dp n j)) := by
              funext j
              unfold va_cpy cpyA
              by_cases hj : (Int32.ofInt dp).toNatClampNeg ≤ j ∧ j < (Int32.ofInt dp).toNatClampNeg + (Int32.ofInt n).toNatClampNeg
              · rw [if_pos hj, if_pos (by omega)]
                have e6 : (((Int32.ofInt sp0).toNatClampNeg + (j - (Int32.ofInt dp).toNatClampNeg) : Nat) : Int) = sp0 + ((j : Int) - dp) := by omega
                show Int32.ofInt (f (((Int32.ofInt sp0).toNatClampNeg + (j - (Int32.ofInt dp).toNatClampNeg) : Nat) : Int)) = _
                rw [e6]
              · rw [if_neg hj, if_neg (by omega)]
            rw [e5] at hP1
            exact W_size fun h9 => K H1 locs1 ls (hw_up hM1 hz h9 hP1) hS1 hl
          · cases h
        · cases h
      · cases h
    · cases h
end SoundW
end
section
section SoundN
variable {p : Program} {l : Launch} {e : Env} {R : Room} {s : State} {m : MethodId} {args : Array Value} {below : List Frame} {meth : Method} {c : Code} {H : Heap} {locs : List Loc} {Q : State → Prop}
variable {mr : MRec} {G : GB} {D : va_G} {tyc : Nat → ClassId} {X : AX} {d : Nat} {pc pc' : Nat} {L L' : AL} {S S' : List AV} {M M' : AM} {cn sn cn' sn' : Nat} {ls : Array Slot}
theorem hw_new {ee : AE} {H1 : Heap} (hH : HW G D tyc M H) (z1 : H1.size = H.size + 1) (o1 : ∀ q : Nat, q < H.size → H1[q]? = H[q]?) (ha : va_at D clsT (G.1 + M.length, cE G tyc ee) H1) : HW G D tyc (M ++ [ee]) H1 := by
  refine ⟨by rw [z1, hH.1, List.length_append]; rfl, ?_⟩
  rw [cW_app]
  refine va_P.app (fun k x hx => (hH.2 k x hx).kept (o1 _ (hH.2 k x hx).lt)) (fun k x hx => ?_)
  have hz : k < 1 := (List.getElem?_eq_some_iff.mp hx).1
  rw [show k = 0 by omega] at hx
  cases hx
  exact ha
theorem s_new {H1 : Heap} (hS : va_S (AB G) s.heap H locs) (z1 : H1.size = H.size + 1) (o1 : ∀ q : Nat, q < H.size → H1[q]? = H[q]?) : va_S (AB G) s.heap H1 locs :=
  ⟨Nat.le_trans hS.1 (by omega), fun x h1 h2 => (o1 x (Nat.lt_of_lt_of_le h1 hS.1)).trans (hS.2.1 x h1 h2), hS.2.2⟩
theorem dfl_ok (ty : FieldType) : (∃ z, ty = .byte ∨ ty = .char ∨ ty = .short ∨ ty = .float ∨ ty = .double ∨ z = 0) ∨ cV G (dflV ty) = defaultValue ty := by
  cases ty <;> first | exact Or.inr rfl | exact Or.inl ⟨0, by simp⟩
def tyOK (ty : FieldType) : Bool := match ty with
  | .int | .boolean | .long | .object _ | .array _ => true
  | _ => false
theorem dfl_eq {ty : FieldType} (h : tyOK ty = true) : cV G (dflV ty) = defaultValue ty := by
  cases ty <;> first | rfl | (simp [tyOK] at h)
theorem tyT_ok : ∀ ci, ci < 12 → ∀ j, j < fszT ci → tyOK (tyT ci j) = true := by decide +kernel
set_option maxHeartbeats 4000000 in
theorem so_new (C : Cx p R s m args meth c mr G D tyc X d) {ins : Instr} {len : Nat} (hd : decode mr.2.1 pc = .ok (ins, len)) (hlen : lenOK ins len = true)
    (hi : (∃ k, ins = .newarray k) ∨ (∃ k, ins = .anewarray k) ∨ (∃ k, ins = .new k))
    (h : stp X mr d ins pc L S M cn sn = some (pc', L', S', M', cn', sn')) (hH : HW G D tyc M H) (hS : va_S (AB G) s.heap H locs) (hl : lh G ls mr.2.2.1 L)
    (K : KK p l e R s m args below meth c Q mr G D tyc pc' L' S' M' cn' sn') : W p l e R s m args below meth c H locs cn sn Q (F0 m pc ls (S.map (cV G))) := by
  obtain ⟨hx, hb, hml, hown, hts, ⟨hK, hnest, hao1, hao2, hZ, hT, hX, hsb, hbs, hXl⟩, hnm, hfr, hlo, hmc, hms⟩ := C
  have tL : ∀ x : Int, 0 ≤ x → x ≤ 100000 → ¬ Int32.ofInt x < 0 ∧ (Int32.ofInt x).toNatClampNeg = x.toNat := fun x a b => by
    have e1 : (Int32.ofInt x).toInt = x := Int32.toInt_ofInt_of_le (by omega) (by omega)
    refine ⟨fun q => ?_, by rw [Int32.toNatClampNeg, e1]⟩
    rw [Int32.lt_iff_toInt_lt, e1] at q
    simp at q
    omega
  rcases hi with ⟨k, rfl⟩ | ⟨k, rfl⟩ | ⟨k, rfl⟩
  all_goals (simp only [lenOK, beq_iff_eq] at hlen; subst hlen)
  all_goals simp only [stp] at h
  · split at h
    · next n r =>
      split at h
      · next hc0 =>
        obtain ⟨z1, z2, z3, z4⟩ := hc0
        obtain ⟨t1, t2⟩ := tL n z1 z2
        cases k <;> simp only at h
        all_goals try (cases h; done)
        · simp only [Option.some.injEq, Prod.mk.injEq] at h; obtain ⟨rfl, rfl, rfl, rfl, rfl, rfl⟩ := h
          refine va_newaK (atype := .boolean) hx hb (hts _ (in_g w_aZ rfl)) rfl hd rfl t1 t2 (by show n.toNat * 1 ≤ _; omega) (by omega) (by omega) rfl fun H1 cA e1 z1 o1 hAr hNm => ?_
          have hcA : cA = tyc 2 := Option.some.inj (hNm.symm.trans (hK.2 2 _ rfl).2)
          subst hcA
          rw [hH.1]
          exact K H1 locs ls (hw_new hH z1 o1 (by rw [← hH.1]; exact e1)) (s_new hS z1 o1) hl
        · simp only [Option.some.injEq, Prod.mk.injEq] at h; obtain ⟨rfl, rfl, rfl, rfl, rfl, rfl⟩ := h
          refine va_newaK (atype := .int) hx hb (hts _ (in_g w_aI rfl)) rfl hd rfl t1 t2 (by show n.toNat * 4 ≤ _; omega) (by omega) (by omega) rfl fun H1 cA e1 z1 o1 hAr hNm => ?_
          have hcA : cA = tyc 0 := Option.some.inj (hNm.symm.trans (hK.2 0 _ rfl).2)
          subst hcA
          rw [hH.1]
          exact K H1 locs ls (hw_new hH z1 o1 (by rw [← hH.1]; exact e1)) (s_new hS z1 o1) hl
        · simp only [Option.some.injEq, Prod.mk.injEq] at h; obtain ⟨rfl, rfl, rfl, rfl, rfl, rfl⟩ := h
          refine va_newaK (atype := .long) hx hb (hts _ (in_g w_aJ rfl)) rfl hd rfl t1 t2 (by show n.toNat * 8 ≤ _; omega) (by omega) (by omega) rfl fun H1 cA e1 z1 o1 hAr hNm => ?_
          have hcA : cA = tyc 1 := Option.some.inj (hNm.symm.trans (hK.2 1 _ rfl).2)
          subst hcA
          rw [hH.1]
          exact K H1 locs ls (hw_new hH z1 o1 (by rw [← hH.1]; exact e1)) (s_new hS z1 o1) hl
      · cases h
    · cases h
  · split at h
    · next n r =>
      split at h
      · next ci t han =>
        split at h
        · next hc0 =>
          obtain ⟨z1, z2, z3, z4⟩ := hc0
          obtain ⟨t1, t2⟩ := tL n z1 z2
          simp only [Option.some.injEq, Prod.mk.injEq] at h; obtain ⟨rfl, rfl, rfl, rfl, rfl, rfl⟩ := h
          obtain ⟨CC, hlk, hCC⟩ := anc_ok han
          have key : ∀ (tt : Nat) (cl : String), (tysOf tyc)[tt]? = some (tyc tt, .object cl) → CC = cl → t = tt → va_AO cl s → W p l e R s m args below meth c H locs cn sn Q (F0 m pc ls ((iv n :: r).map (cV G))) := by
            intro tt cl htt e1 e2 hao
            subst e1
            subst e2
            refine W.anew hx hb hown (hts _ hlk) (va_AO.use hao) rfl hd rfl t1 (by rw [t2]; omega) (by omega) (by rw [t2]; omega) fun cA kA comp f1 f2 f3 f4 => ?_
            obtain ⟨-, -, -, -, -, hfc⟩ := (hK.2 t _ htt).2
            have hcA : cA = tyc t := Option.some.inj (f1.symm.trans hfc)
            subst hcA
            have z9 : (H.push ({ cls := tyc t, slots := Array.replicate (Int32.ofInt n).toNatClampNeg .null, vm := .none } : Cell)).size = H.size + 1 := by rw [Array.size_push]
            have o9 : ∀ q : Nat, q < H.size → (H.push ({ cls := tyc t, slots := Array.replicate (Int32.ofInt n).toNatClampNeg .null, vm := .none } : Cell))[q]? = H[q]? := fun q hq => by rw [Array.getElem?_push, if_neg (Nat.ne_of_lt hq)]
            have e9 : (H.push ({ cls := tyc t, slots := Array.replicate (Int32.ofInt n).toNatClampNeg .null, vm := .none } : Cell))[H.size]? = some (arrV (tyc t) n.toNat (fun _ => .null)) := by rw [Array.getElem?_push_size, ← arrV_new, t2]
            have := K _ locs ls (hw_new (ee := .inl (t, n.toNat, .inr (.inr (fun _ => none)))) hH z9 o9 (by rw [← hH.1]; exact e9)) (s_new hS z9 o9) hl
            rw [t2] at this ⊢
            rw [hH.1]
            exact this
          rcases hCC with ⟨e1, e2⟩ | ⟨e1, e2⟩
          · exact key 3 "GiftMatch$Rule" rfl e1 e2 hao1
          · exact key 4 "GiftMatch$Scene" rfl e1 e2 hao2
        · cases h
      · cases h
    · cases h
  · split at h
    · next ci hnw =>
      split at h
      · next hc0 =>
        obtain ⟨z3, z4⟩ := hc0
        simp only [Option.some.injEq, Prod.mk.injEq] at h; obtain ⟨rfl, rfl, rfl, rfl, rfl, rfl⟩ := h
        obtain ⟨CC, T, N, hc, hlk, hin, hii⟩ := nwc_ok hnw
        have hN : fszT ci = N := by unfold fszT; rw [hc]
        have hKn := hK.1 ci _ hc
        have hu := u_in hc
        have hci : ci < 12 := (List.getElem?_eq_some_iff.mp hc).1
        rw [hN] at z4
        refine W.newcK hx hb hown (hts _ hlk) (hts _ hin) (hts _ hii) rfl hd (by omega) (by omega) hKn.2.1 rfl fun H1 kC hkC e1 z1 o1 => ?_
        have hat : va_at D clsT (G.1 + M.length, cE G tyc (.inr (ci, dfl ci))) H1 := by
          rw [← hH.1]
          refine ⟨_, hc, (u_born (tyT ci) hts hu.1 hKn hkC e1 hu.2.1).to (fun j hj => ?_)⟩
          have hj2 : j < fszT ci := by rw [hN]; exact hj
          rw [← dfl_eq (G := G) (tyT_ok ci hci j hj2)]
          unfold vp_V dfl
          rw [List.getD_eq_getElem?_getD, List.getElem?_map, List.getElem?_map, List.getElem?_range hj2]
          rfl
        have := K H1 locs ls (hw_new hH z1 o1 hat) (s_new hS z1 o1) hl
        rw [hN] at this
        rw [hH.1]
        exact this
      · cases h
    · cases h
end SoundN
end
section
section SoundR
variable {p : Program} {l : Launch} {e : Env} {R : Room} {s : State} {m : MethodId} {args : Array Value} {below : List Frame} {meth : Method} {c : Code} {H : Heap} {locs : List Loc} {Q : State → Prop}
variable {mr : MRec} {G : GB} {D : va_G} {tyc : Nat → ClassId} {X : AX} {d : Nat} {pc pc' : Nat} {L L' : AL} {S S' : List AV} {M M' : AM} {cn sn cn' sn' : Nat} {ls : Array Slot}
set_option maxHeartbeats 4000000 in
theorem stp_sound (C : Cx p R s m args meth c mr G D tyc X d) {ins : Instr} {len : Nat} (hd : decode mr.2.1 pc = .ok (ins, len)) (hlen : lenOK ins len = true) (hz : s.heap.size + cn = G.1 + M.length)
    (h : stp X mr d ins pc L S M cn sn = some (pc', L', S', M', cn', sn')) (hH : HW G D tyc M H) (hS : va_S (AB G) s.heap H locs) (hl : lh G ls mr.2.2.1 L)
    (K : KK p l e R s m args below meth c Q mr G D tyc pc' L' S' M' cn' sn') : W p l e R s m args below meth c H locs cn sn Q (F0 m pc ls (S.map (cV G))) := by
  cases ins
  all_goals first
    | (simp only [stp] at h; cases h; done)
    | (refine so_load C hd hlen ?_ h hH hS hl K; simp; done)
    | (refine so_store C hd hlen ?_ h hH hS hl K; simp; done)
    | (refine so_const C hd hlen ?_ h hH hS hl K; simp; done)
    | (refine so_arith C hd hlen ?_ h hH hS hl K; simp; done)
    | (refine so_jump C hd hlen ?_ h hH hS hl K; simp; done)
    | (refine so_read C hd hlen ?_ h hH hS hl K; simp; done)
    | (refine so_write C hd hlen hz ?_ h hH hS hl K; simp; done)
    | (refine so_new C hd hlen ?_ h hH hS hl K; simp; done)
set_option maxHeartbeats 4000000 in
theorem stp_len {ins : Instr} (h : stp X mr d ins pc L S M cn sn = some (pc', L', S', M', cn', sn')) : cn' + M.length = cn + M'.length := by
  unfold stp at h
  repeat' split at h
  all_goals first
    | (cases h; done)
    | (cases h; first | rfl | (simp only [List.length_set]; done) | (simp only [List.length_append, List.length_cons, List.length_nil]; omega))
    | (simp only [Option.map_eq_some_iff] at h; obtain ⟨_, _, h⟩ := h; cases h; rfl)
theorem run_len : ∀ (n : Nat) {d : Nat} {mr : MRec} {pc : Nat} {L : AL} {S : List AV} {M : AM} {cn sn : Nat} {v : Option AV} {M' : AM}, run X n d mr pc L S M cn sn = some (v, M') → mr.2.2.2.2.1 + M.length = cn + M'.length := by
  intro n
  induction n with
  | zero => intro d mr pc L S M cn sn v M' h; cases h
  | succ n ih =>
    intro d mr pc L S M cn sn v M' h
    unfold run at h
    split at h
    · next ins len hd =>
      split at h
      · split at h
        · split at h
          · next hc => cases h; omega
          · cases h
        · split at h
          · next pc' L' S' M1 c' s' hst =>
            have h1 := stp_len hst
            have h2 := ih h
            omega
          · split at h
            · next mr' As r hcal =>
              split at h
              · cases h
              · split at h
                · next hc =>
                  split at h
                  · next v1 M1 hr1 =>
                    have h1 := ih hr1
                    have h2 := ih h
                    omega
                  · cases h
                · cases h
            · cases h
      · cases h
    · cases h
def mrOK (mr : MRec) : Prop := mr.1.cls = own mr.2.2.2.2.2.2 ∧ plainName mr.1.cls = true ∧ mr.2.2.1 ≤ 22 ∧ Cond.code mr.1 mr.2.1 mr.2.2.1 mr.2.2.2.1 ∈ gtbl
theorem ml_ok {oc idx oc' idx' kind na : Nat} {mr' : MRec} {ps : List Nat} (h : ml oc idx = some (oc', idx', kind, na, mr', ps)) : idx' = idx ∧ oc' = oc ∧ mrOK mr' ∧ (∀ w ∈ mlW (oc, idx, kind, na, mr', ps), w ∈ gtbl) ∧ (mr'.1.cls ≠ "java/lang/invoke/MethodHandle" ∧ mr'.1.cls ≠ "java/lang/invoke/VarHandle" ∧ (parseMethodDescriptor mr'.1.desc).map (fun d => d.parameters.length) = some na) ∧ (kind = 3 ∨ kind = 4 → mr'.1.name = "<init>" ∧ mr'.2.2.2.1 = none) ∧ (kind = 4 → Cond.methodLinkNest (own oc) idx mr'.1 "GiftMatch" ∈ nestT) := by
  have hall : ∀ e ∈ mlT oc, mlK oc e = true ∧ mlC e ∈ lw_tbl := by
    unfold mlT
    match oc with
    | 0 => exact fun e he => ⟨List.all_eq_true.mp mlT0_ok e he, mlT0_cw e he⟩
    | 1 => exact fun e he => ⟨List.all_eq_true.mp mlT1_ok e he, mlT1_cw e he⟩
    | 2 => exact fun e he => ⟨List.all_eq_true.mp mlT2_ok e he, mlT2_cw e he⟩
    | 3 => exact fun e he => ⟨List.all_eq_true.mp mlT3_ok e he, mlT3_cw e he⟩
    | 4 => exact fun e he => ⟨List.all_eq_true.mp mlT4_ok e he, mlT4_cw e he⟩
    | 5 => exact fun e he => ⟨List.all_eq_true.mp mlT5_ok e he, mlT5_cw e he⟩
    | 6 => exact fun e he => ⟨List.all_eq_true.mp mlT6_ok e he, mlT6_cw e he⟩
    | 7 => exact fun e he => ⟨List.all_eq_true.mp mlT7_ok e he, mlT7_cw e he⟩
    | 8 => exact fun e he => ⟨List.all_eq_true.mp mlT8_ok e he, mlT8_cw e he⟩
    | 9 => exact fun e he => ⟨List.all_eq_true.mp mlT9_ok e he, mlT9_cw e he⟩
    | 10 => exact fun e he => ⟨List.all_eq_true.mp mlT10_ok e he, mlT10_cw e he⟩
    | 11 => exact fun e he => ⟨List.all_eq_true.mp mlT11_ok e he, mlT11_cw e he⟩
    | 12 => exact fun e he => ⟨List.all_eq_true.mp mlT12_ok e he, mlT12_cw e he⟩
    | 13 => exact fun e he => absurd he List.not_mem_nil
    | _ + 14 => exact fun e he => absurd he List.not_mem_nil
  unfold ml at h
  obtain ⟨h1, h3⟩ := hall _ (List.mem_of_find?_eq_some h)
  have h2 : idx' = idx := by simpa using List.find?_some h
  subst h2
  obtain ⟨y, b, mL, ret, mc, ms, oy⟩ := mr'
  unfold mlK at h1
  simp only [Bool.and_eq_true, decide_eq_true_eq, Bool.or_eq_true, Bool.not_eq_true', Bool.or_eq_false_iff, decide_eq_false_iff_not] at h1
  obtain ⟨⟨⟨⟨⟨⟨⟨⟨⟨a1, a2⟩, a3⟩, a3'⟩, a4⟩, a5⟩, a6⟩, a7⟩, a8⟩, a9⟩ := h1
  subst a1
  refine ⟨rfl, rfl, ⟨a3, a3', a4, in_g h3 rfl⟩, fun w hw => ?_, a5, fun hk => ?_, fun hk => ?_⟩
  · have g := List.all_eq_true.mp a8 w hw
    rw [a2] at hw
    obtain ⟨i, -, hi⟩ := List.mem_filterMap.mp hw
    exact in_g (List.mem_of_getElem? hi) g
  · rcases a7 with q | ⟨q1, q2⟩
    · exact q
    · rcases hk with hk | hk
      · exact absurd hk q1
      · exact absurd hk q2
  · rcases a9 with q | q
    · exact absurd hk q
    · exact List.contains_iff_mem.mp q
theorem good_g {ws : List Cond} (h : ∀ w ∈ ws, w ∈ gtbl) : GoodIn gtbl ws := fun w hw => ⟨h w hw, good_of_word (List.mem_filter.mp (h w hw)).2⟩
theorem v_call {v : Option AV} {st0 rest : List Value} {mc ms : Nat} (hr : va_Run p l e R s m args below meth c H locs cn sn mc ms (F0 m pc ls st0) rest (fun st oc t => oc = .returned (v.map (cV G)) ∧ HW G D tyc M' t.heap ∧ va_F (AB G) st t) (AB G)) (hS : va_S (AB G) s.heap H locs)
    (kk : ∀ (H1 : Heap) (locs1 : List Loc), HW G D tyc M' H1 → va_S (AB G) s.heap H1 locs1 → W p l e R s m args below meth c H1 locs1 (cn + mc) (sn + ms) Q (F0 m (pc + 3) ls ((v.map (cV G)).toList ++ rest))) : W p l e R s m args below meth c H locs cn sn Q (F0 m pc ls st0) := by
  intro T hT X
  obtain ⟨v1, st₀, t, T', L, h0, X', hL, e1, e2, ⟨hv, hp, hz, hk⟩, st⟩ := hr T hT X
  have hv' := Outcome.returned.inj hv
  subst hv'
  rw [h0] at hz hk
  obtain ⟨t2, a1, b1⟩ := kk T'.heap (locs ++ L) (by rw [e1]; exact hp)
    ⟨Nat.le_trans hS.1 (by rw [e1]; exact hz), fun q h1 h2 => by rw [e1, hk q (Nat.lt_of_lt_of_le h1 hS.1) h2]; exact hS.2.1 q h1 h2, fun q hq => by
      rcases List.mem_append.mp hq with h | h
      · exact hS.2.2 q h
      · exact hL q h⟩ T' rfl X'
  exact ⟨t2, st t2 a1, b1⟩
theorem St_calling {U : State} {g : JFrame} {mk : MethodId} {a : Array Value} (h : St G D tyc X U) : St G D tyc X (U.calling g mk a) := by
  obtain ⟨h1, h2, h3, h4, h5, h6, h7, h8⟩ := h
  exact ⟨va_K.moved (u := U) (U := U.calling g mk a) (Vm.Alike.refl U.vm) h1, fun w hw => by
    have hm : w.onTables = true := by
      simp only [nestT, List.mem_cons, List.not_mem_nil, or_false] at hw
      rcases hw with rfl | rfl | rfl | rfl | rfl <;> rfl
    exact va_Nw.same (u := U) (U := U.calling g mk a) hm rfl (h2 w hw), va_AO.moved (u := U) (U := U.calling g mk a) (Vm.Alike.refl U.vm) h3, va_AO.moved (u := U) (U := U.calling g mk a) (Vm.Alike.refl U.vm) h4, va_Z.moved (u := U) (U := U.calling g mk a) (Vm.Alike.refl U.vm) h5, va_T.moved (u := U) (U := U.calling g mk a) (Vm.Alike.refl U.vm) h6, va_X.moved (u := U) (U := U.calling g mk a) (Vm.Alike.refl U.vm) h7, h8⟩
theorem St_warm {U : State} (h : St G D tyc X s) (hS : va_S (AB G) s.heap H locs) (hU : U.heap = H) (hW : s.WarmedH U.vm) : St G D tyc X U := by
  obtain ⟨h1, h2, h3, h4, h5, h6, h7, h8, h9, h10⟩ := h
  refine ⟨va_K.moved hW.alike h1, fun w hw => ?_, va_AO.moved hW.alike h3, va_AO.moved hW.alike h4, by rw [hU]; exact va_Z.moved hW.alike (h5.kept hS.2.1), by rw [hU]; exact va_T.moved hW.alike (h6.kept hS.2.1), by rw [hU]; exact va_X.moved hW.alike (h7.kept (hS.2.1 _ (Nat.lt_of_lt_of_le h8 h9) (Nat.not_le.mpr h8))), h8, by rw [hU]; exact Nat.le_trans h9 hS.1, h10⟩
  have h := h2 w hw
  simp only [nestT, List.mem_cons, List.not_mem_nil, or_false] at hw
  rcases hw with rfl | rfl | rfl | rfl | rfl
  all_goals first
    | exact va_Nw.warmM hW h
    | exact va_Nw.warmF hW h
def MetOf (l : Launch) (G : GB) (D : va_G) (tyc : Nat → ClassId) (X : AX) (d : Nat) (mr : MRec) (As : List AV) (M : AM) (v : Option AV) (M' : AM) : Prop :=
  Met l mr.1 (Cond.code mr.1 mr.2.1 mr.2.2.1 mr.2.2.2.1 :: gtbl) { frames := d, cells := mr.2.2.2.2.1, slots := mr.2.2.2.2.2.1, locals := 41 * d } (va_Pc (As.map (cV G)) (fun U => HW G D tyc M U.heap ∧ St G D tyc X U)) (fun _ st oc t => oc = .returned (v.map (cV G)) ∧ HW G D tyc M' t.heap ∧ va_F (AB G) st t) mr.2.2.2.2.1 mr.2.2.2.2.2.1 (AB G)
theorem blind {As : List AV} : FrameBlind (va_Pc (As.map (cV G)) (fun U => HW G D tyc M U.heap ∧ St G D tyc X U)) := fun a U g mk q => ⟨q.1, q.2.1, St_calling q.2.2⟩
theorem cls_own {ci : Nat} {r : vw_C} (h : clsT[ci]? = some r) : r.1 = own ci := by
  have hlt : ci < 12 := (List.getElem?_eq_some_iff.mp h).1
  have key : ∀ ci, ci < 12 → ∀ r, clsT[ci]? = some r → r.1 = own ci := by
    intro ci hlt r h
    match ci, hlt, h with
    | 0, _, h => cases h; rfl
    | 1, _, h => cases h; rfl
    | 2, _, h => cases h; rfl
    | 3, _, h => cases h; rfl
    | 4, _, h => cases h; rfl
    | 5, _, h => cases h; rfl
    | 6, _, h => cases h; rfl
    | 7, _, h => cases h; rfl
    | 8, _, h => cases h; rfl
    | 9, _, h => cases h; rfl
    | 10, _, h => cases h; rfl
    | 11, _, h => cases h; rfl
    | k + 12, hlt, h => omega
  exact key ci hlt r h
set_option maxHeartbeats 4000000 in
/-- a call, the callee's contract at hand -/
theorem so_call {dd : Nat} (C : Cx p R s m args meth c mr G D tyc X (dd + 1)) {ins : Instr} {len : Nat} (hd : decode mr.2.1 pc = .ok (ins, len)) (hlen : lenOK ins len = true)
    {mr' : MRec} {As r : List AV} (hcal : cal mr ins S M = some (mr', As, r)) {v : Option AV} (hM : MetOf l G D tyc X dd mr' As M v M') (hmc : cn + mr'.2.2.2.2.1 ≤ mr.2.2.2.2.1) (hms : sn + mr'.2.2.2.2.2.1 ≤ mr.2.2.2.2.2.1)
    (hH : HW G D tyc M H) (hS : va_S (AB G) s.heap H locs) (hl : lh G ls mr.2.2.1 L)
    (K : KK p l e R s m args below meth c Q mr G D tyc (pc + 3) L (v.toList ++ r) M' (cn + mr'.2.2.2.2.1) (sn + mr'.2.2.2.2.2.1)) : W p l e R s m args below meth c H locs cn sn Q (F0 m pc ls (S.map (cV G))) := by
  obtain ⟨hx, hb, hml, hown, hts, hSt, hnm, hfr, hlo, hmcR, hmsR⟩ := C
  have hK := hSt.1
  have hmap : ((v.toList ++ r).map (cV G)) = (v.map (cV G)).toList ++ r.map (cV G) := by
    cases v <;> simp
  have fin : ∀ (H1 : Heap) (locs1 : List Loc), HW G D tyc M' H1 → va_S (AB G) s.heap H1 locs1 → W p l e R s m args below meth c H1 locs1 (cn + mr'.2.2.2.2.1) (sn + mr'.2.2.2.2.2.1) Q (F0 m (pc + 3) ls ((v.map (cV G)).toList ++ r.map (cV G))) := fun H1 locs1 a b => by
    rw [← hmap]
    exact K H1 locs1 ls a b hl
  have hpre : ∀ U : State, U.heap = H → s.WarmedH U.vm → va_Pc (As.map (cV G)) (fun U => HW G D tyc M U.heap ∧ St G D tyc X U) (As.map (cV G)).toArray U := fun U hU hW => ⟨rfl, by rw [hU]; exact hH, St_warm hSt hS hU hW⟩
  have split9 : ∀ na : Nat, (S.take na).length = na → S.map (cV G) = ((S.take na).reverse.map (cV G)).reverse ++ (S.drop na).map (cV G) := by
    intro na _
    rw [← List.map_reverse, List.reverse_reverse, ← List.map_append, List.take_append_drop]
  have hroom : mr'.2.2.1 ≤ 22 → ({ frames := dd, cells := mr'.2.2.2.2.1, slots := mr'.2.2.2.2.2.1, locals := 41 * dd } : Room).frames + 1 ≤ R.frames ∧ 8 + (mr'.2.2.1 + 11) + ({ frames := dd, cells := mr'.2.2.2.2.1, slots := mr'.2.2.2.2.2.1, locals := 41 * dd } : Room).locals ≤ R.locals := fun h22 => ⟨hfr, by show 8 + (mr'.2.2.1 + 11) + 41 * dd ≤ R.locals; omega⟩
  unfold cal at hcal
  split at hcal
  · next k =>
    simp only [lenOK, beq_iff_eq] at hlen; subst hlen
    split at hcal
    · next oc' idx' na mrr ps hml9 =>
      split at hcal
      · next q r9 hdrop =>
        split at hcal
        · next ci fs hMq =>
          split at hcal
          · next hc0 =>
            cases hcal
            obtain ⟨hci, hlen9, hcat⟩ := hc0
            obtain ⟨rfl, rfl, ⟨hcls, hpl, h22, hcode⟩, hws, hdesc, -, -⟩ := ml_ok hml9
            have hrun : va_Run p l e R s m args below meth c H locs cn sn mr'.2.2.2.2.1 mr'.2.2.2.2.2.1 (F0 m pc ls (S.map (cV G))) (r.map (cV G)) (fun st oc t => oc = .returned (v.map (cV G)) ∧ HW G D tyc M' t.heap ∧ va_F (AB G) st t) (AB G) := by
              refine va_runV (Ts := gtbl) (C := mr'.1.cls) (b := G.1 + q) (As := (S.take na).reverse.map (cV G)) ⟨hx, hb, hml, hown, hts⟩ hM (cwV na hts (good_g (fun w hw => ?_)) rfl rfl rfl ⟨rfl, hdesc⟩ (hroom h22)) ⟨blind, ?_, fun U hU hW => ?_⟩ rfl ?_ hl.1 ?_ ?_ hd ⟨by omega, by omega⟩
              · rcases List.mem_append.mp hw with h | h
                · exact hws w h
                · rcases List.mem_cons.mp h with h | h
                  · rw [h]; exact hcode
                  · exact h
              · obtain ⟨rr, hr1, -⟩ := hH.2 q _ (ty_o hMq)
                have hrec := va_recv hK hH.2 hr1 (ty_o hMq)
                rw [cls_own hr1, hci, ← hcls] at hrec
                exact hrec
              · exact hpre U hU hW
              · rw [List.length_map, List.length_reverse]; exact hlen9
              · rw [split9 na hlen9, hdrop]; rfl
              · show 2 * 0 + ((r.map (cV G)).map fun v => v.category).sum ≤ 8
                rw [cat_sum]; omega
            exact v_call hrun hS fin
          · cases hcal
        · cases hcal
      · cases hcal
    · cases hcal
  · next k =>
    simp only [lenOK, beq_iff_eq] at hlen; subst hlen
    split at hcal
    · next oc' idx' na mrr ps hml9 =>
      split at hcal
      · next hc0 =>
        cases hcal
        obtain ⟨hlen9, hcat⟩ := hc0
        obtain ⟨rfl, rfl, ⟨hcls, hpl, h22, hcode⟩, hws, hdesc, -, -⟩ := ml_ok hml9
        have hrun : va_Run p l e R s m args below meth c H locs cn sn mr'.2.2.2.2.1 mr'.2.2.2.2.2.1 (F0 m pc ls (S.map (cV G))) ((S.drop na).map (cV G)) (fun st oc t => oc = .returned (v.map (cV G)) ∧ HW G D tyc M' t.heap ∧ va_F (AB G) st t) (AB G) := by
          refine va_runS (Ts := gtbl) (As := (S.take na).reverse.map (cV G)) ⟨hx, hb, hml, hown, hts⟩ hM (va_cwS na hts (good_g (fun w hw => ?_)) rfl rfl rfl hdesc (hroom h22)) ⟨blind, fun U hU hW => ?_⟩ rfl ?_ hl.1 ?_ ?_ hd ⟨by omega, by omega⟩
          · rcases List.mem_append.mp hw with h | h
            · exact hws w h
            · rcases List.mem_cons.mp h with h | h
              · rw [h]; exact hcode
              · exact h
          · exact hpre U hU hW
          · rw [List.length_map, List.length_reverse]; exact hlen9
          · rw [split9 na hlen9]
          · show 2 * 0 + (((S.drop na).map (cV G)).map fun v => v.category).sum ≤ 8
            rw [cat_sum]; omega
        exact v_call hrun hS fin
      · cases hcal
    · cases hcal
  · next k =>
    simp only [lenOK, beq_iff_eq] at hlen; subst hlen
    split at hcal
    · next oc' idx' kind na mrr ps hml9 =>
      split at hcal
      · next hkind =>
        split at hcal
        · next q r9 hdrop =>
          split at hcal
          · next hc0 =>
            cases hcal
            obtain ⟨hlen9, hcat⟩ := hc0
            obtain ⟨rfl, rfl, ⟨hcls, hpl, h22, hcode⟩, hws, hdesc, hini, hnest⟩ := ml_ok hml9
            have hgood : GoodIn gtbl (Cond.code mr'.1 mr'.2.1 mr'.2.2.1 mr'.2.2.2.1 :: gtbl) := good_g (fun w hw => by
              rcases List.mem_cons.mp hw with h | h
              · rw [h]; exact hcode
              · exact h)
            have hret : mr'.2.2.2.1 = none := (hini hkind).2
            have hrun : va_Run p l e R s m args below meth c H locs cn sn mr'.2.2.2.2.1 mr'.2.2.2.2.2.1 (F0 m pc ls (S.map (cV G))) (r.map (cV G)) (fun st oc t => oc = .returned (v.map (cV G)) ∧ HW G D tyc M' t.heap ∧ va_F (AB G) st t) (AB G) := by
              unfold MetOf at hM
              rw [hret] at hM hgood
              rcases hkind with rfl | rfl
              · refine va_runI (Ts := gtbl) (b := G.1 + q) (As := (S.take na).reverse.map (cV G)) ⟨hx, hb, hml, hown, hts⟩ hM ⟨callB_of na hts hgood rfl rfl rfl (hts _ (hws _ (by simp [mlW]))) (hts _ (hws _ (by simp [mlW]))) hdesc (hroom h22), (hini (Or.inl rfl)).1, hts _ (hws _ (by simp [mlW]))⟩ ⟨blind, fun U hU hW => ?_⟩ rfl ?_ hl.1 ?_ ?_ hd ⟨by omega, by omega⟩
                · exact hpre U hU hW
                · rw [List.length_map, List.length_reverse]; exact hlen9
                · rw [split9 na hlen9, hdrop]; rfl
                · show 2 * 0 + ((r.map (cV G)).map fun v => v.category).sum ≤ 8
                  rw [cat_sum]; omega
              · refine va_runIN (Ts := gtbl) (b := G.1 + q) (As := (S.take na).reverse.map (cV G)) ⟨hx, hb, hml, hown, hts⟩ hM ⟨va_cnB na hts hgood rfl rfl rfl (hSt.2.1 _ (hnest rfl)) (hts _ (hws _ (by simp [mlW]))) hdesc (hroom h22), (hini (Or.inr rfl)).1, hts _ (hws _ (by simp [mlW]))⟩ ⟨blind, fun U hU hW => ?_⟩ rfl ?_ hl.1 ?_ ?_ hd ⟨by omega, by omega⟩
                · exact hpre U hU hW
                · rw [List.length_map, List.length_reverse]; exact hlen9
                · rw [split9 na hlen9, hdrop]; rfl
                · show 2 * 0 + ((r.map (cV G)).map fun v => v.category).sum ≤ 8
                  rw [cat_sum]; omega
            exact v_call hrun hS fin
          · cases hcal
        · cases hcal
      · cases hcal
    · cases hcal
  · cases hcal
end SoundR
end
section
section SoundX
variable {l : Launch} {G : GB} {D : va_G} {tyc : Nat → ClassId} {X : AX}
/-- the machine follows the interpreter, to the method's return -/
def RunW (l : Launch) (G : GB) (D : va_G) (tyc : Nat → ClassId) (X : AX) (n : Nat) : Prop := ∀ {p : Program} {e : Env} {R : Room} {s : State} {m : MethodId} {args : Array Value} {below : List Frame} {meth : Method} {c : Code} {Q : State → Prop} {mr : MRec} {d pc : Nat} {L : AL} {S : List AV} {M : AM} {cn sn : Nat} {v : Option AV} {M' : AM} {H : Heap} {locs : List Loc} {ls : Array Slot},
  run X n d mr pc L S M cn sn = some (v, M') → Cx p R s m args meth c mr G D tyc X d → s.heap.size + cn = G.1 + M.length → HW G D tyc M H → va_S (AB G) s.heap H locs → lh G ls mr.2.2.1 L →
  (∀ (H' : Heap) (locs' : List Loc) (ls' : Array Slot) (pc' : Nat) (S' : List AV) (ins : Instr) (len sn' : Nat), decode mr.2.1 pc' = .ok (ins, len) → lenOK ins len = true → rtn mr ins S' = some v → sn' ≤ mr.2.2.2.2.2.1 → HW G D tyc M' H' → va_S (AB G) s.heap H' locs' → W p l e R s m args below meth c H' locs' mr.2.2.2.2.1 sn' Q (F0 m pc' ls' (S'.map (cV G)))) →
  W p l e R s m args below meth c H locs cn sn Q (F0 m pc ls (S.map (cV G)))
theorem argL_args : ∀ (As : List AV) (n i : Nat) (G : GB) (v : AV) (k : Nat), (As.flatMap (fun v => if cat v = 2 then [some v, none] else [some v]) ++ List.replicate n none)[i]? = some (some v) → (k + i, cV G v) ∈ lv_args k (As.map (cV G)) := by
  intro As
  induction As with
  | nil =>
    intro n i G v k h
    simp only [List.flatMap_nil, List.nil_append] at h
    have := List.eq_of_mem_replicate (List.mem_of_getElem? h)
    cases this
  | cons a As ih =>
    intro n i G v k h
    simp only [List.map_cons, lv_args, cV_cat]
    simp only [List.flatMap_cons, List.append_assoc] at h
    by_cases hc : cat a = 2
    · rw [if_pos hc] at h
      rw [if_pos hc]
      match i, h with
      | 0, h => simp at h; subst h; exact List.mem_cons_self
      | 1, h => simp at h
      | i + 2, h =>
        refine List.mem_cons_of_mem _ ?_
        have := ih n i G v (k + 2) (by simpa using h)
        rw [show k + (i + 2) = k + 2 + i by omega]
        exact this
    · rw [if_neg hc] at h
      rw [if_neg hc]
      match i, h with
      | 0, h => simp at h; subst h; exact List.mem_cons_self
      | i + 1, h =>
        refine List.mem_cons_of_mem _ ?_
        have := ih n i G v (k + 1) (by simpa using h)
        rw [show k + (i + 1) = k + 1 + i by omega]
        exact this
theorem sl_len (G : GB) (As : List AV) : (lg_sl (As.map (cV G))).length = (As.flatMap (fun v => if cat v = 2 then [some v, none] else [some v]) : AL).length := by
  induction As with
  | nil => rfl
  | cons a As ih =>
    simp only [lg_sl, List.map_cons, List.flatMap_cons, List.length_append, cV_cat] at ih ⊢
    rw [ih]
    by_cases hc : cat a = 2
    · rw [if_pos hc, if_pos hc]; rfl
    · rw [if_neg hc, if_neg hc]; rfl
theorem lh_entry {As : List AV} {n : Nat} (h : (argL As n).length = n) : lh G ((lg_sl (As.map (cV G)) ++ List.replicate (n - (lg_sl (As.map (cV G))).length) Slot.unset).toArray) n (argL As n) := by
  have hle : (lg_sl (As.map (cV G))).length ≤ n := by
    rw [sl_len]
    simp only [argL, List.length_append, List.length_replicate] at h
    omega
  have he := lv_entry (As.map (cV G)) hle
  refine ⟨he.1, he.2.1, fun i v hv => ?_⟩
  have := argL_args As _ i G v 0 hv
  rw [Nat.zero_add] at this
  exact he.2.2 _ this
set_option maxHeartbeats 4000000 in
theorem run_Met {n d : Nat} {mr : MRec} {As : List AV} {M M' : AM} {v : Option AV} (ih : RunW l G D tyc X n) (ok : mrOK mr) (hlen : (argL As mr.2.2.1).length = mr.2.2.1) (h : run X n d mr 0 (argL As mr.2.2.1) [] M 0 0 = some (v, M')) : MetOf l G D tyc X d mr As M v M' := by
  obtain ⟨hcls, hpl, h22, hcode⟩ := ok
  refine Met.ofW (cc := mr.2.1) (maxL := mr.2.2.1) (ret := mr.2.2.2.1) hpl rfl ?_
  intro p e s m args below meth c s₁ B hml hv
  obtain ⟨rfl, hH, hSt⟩ := hv
  have hts0 := atoms_spec (ws := Cond.code mr.1 mr.2.1 mr.2.2.1 mr.2.2.2.1 :: gtbl) B.pre
  have hown : s.vm.findClass (own mr.2.2.2.2.2.2) = some m.cls := by rw [← hcls]; exact findClass_of_methodNamed B.named
  have hlocks := B.notSynchronized
  have hr := B.returns
  have hx := B.exec
  have hb := B.bytes
  rw [lg_entry_eq]
  refine ih (S := []) h ⟨hx, hb, hml, hown, fun w hw => hts0 w (List.mem_cons_of_mem _ hw), hSt, fun h9 => (name_of_methodNamed B.named B.method).1.trans h9, Nat.le_refl _, Nat.le_refl _, Nat.le_refl _, Nat.le_refl _⟩ (by rw [Nat.add_zero]; exact hH.1) hH va_S.rf (lh_entry hlen) ?_
  intro H' locs' ls' pc' S' ins len sn' hd hl2 hrt hsn hH' hS'
  refine W.widen (Nat.le_refl _) hsn ?_
  have fin : ∀ t : State, t.heap = H' → s.WarmedH t.vm → ((Outcome.returned (v.map (cV G)) : Outcome) = .returned (v.map (cV G)) ∧ HW G D tyc M' t.heap ∧ va_F (AB G) s t) := fun t ht _ => ⟨rfl, by rw [ht]; exact hH', hS'.F ht⟩
  unfold rtn at hrt
  split at hrt
  · next e1 =>
    simp only [lenOK, beq_iff_eq] at hl2; subst hl2
    split at hrt
    · next z => cases hrt; rw [e1] at hr; exact W.iret hx hb hr (fun t ht hW => fin t ht hW) hS'.2.2 hd
    · cases hrt
  · next e1 =>
    simp only [lenOK, beq_iff_eq] at hl2; subst hl2
    split at hrt
    · next z =>
      split at hrt
      · next hz =>
        cases hrt; rw [e1] at hr
        exact W.zret hx hb hr (by rcases hz with rfl | rfl <;> decide +kernel) (fun t ht hW => fin t ht hW) hS'.2.2 hd
      · cases hrt
    · cases hrt
  · next e1 =>
    simp only [lenOK, beq_iff_eq] at hl2; subst hl2
    split at hrt
    · next z => cases hrt; rw [e1] at hr; exact W.lret hx hb hr (fun t ht hW => fin t ht hW) hS'.2.2 hd
    · cases hrt
  · next e1 =>
    simp only [lenOK, beq_iff_eq] at hl2; subst hl2
    split at hrt
    · cases hrt; rw [e1] at hr; exact W.vret hx hb hr (fun t ht hW => fin t ht hW) hS'.2.2 hd
    · cases hrt
  · cases hrt
theorem cal_ok {mr mr' : MRec} {ins : Instr} {S As r : List AV} {M : AM} (h : cal mr ins S M = some (mr', As, r)) : mrOK mr' := by
  unfold cal at h
  repeat' split at h
  all_goals first
    | (cases h; done)
    | (cases h; exact (ml_ok (mr' := mr') (by assumption)).2.2.1)
set_option maxHeartbeats 4000000 in
theorem run_W : ∀ n, RunW l G D tyc X n := by
  intro n
  induction n with
  | zero => intro p e R s m args below meth c Q mr d pc L S M cn sn v M' H locs ls h; cases h
  | succ n ih =>
    intro p e R s m args below meth c Q mr d pc L S M cn sn v M' H locs ls h C hz hH hS hl K
    unfold run at h
    split at h
    · next ins len hd =>
      split at h
      · next hlen =>
        split at h
        · next v1 hrt =>
          split at h
          · next hc =>
            cases h
            rw [hc.1]
            exact K H locs ls pc S ins len sn hd hlen hrt hc.2 hH hS
          · cases h
        · split at h
          · next pc' L' S' M1 c' s' hst =>
            refine stp_sound C hd hlen hz hst hH hS hl (fun H1 locs1 ls1 hH1 hS1 hl1 => ?_)
            exact ih h C (by have := stp_len hst; omega) hH1 hS1 hl1 K
          · split at h
            · next mr' As r hcal =>
              split at h
              · cases h
              · next dd =>
                split at h
                · next hc =>
                  split at h
                  · next v1 M1 hr1 =>
                    refine so_call C hd hlen hcal (run_Met ih (cal_ok hcal) hc.1 hr1) hc.2.1 hc.2.2 hH hS hl (fun H1 locs1 ls1 hH1 hS1 hl1 => ?_)
                    exact ih h C (by have := run_len n hr1; omega) hH1 hS1 hl1 K
                  · cases h
                · cases h
            · cases h
      · cases h
    · cases h
end SoundX
end
section
/-! the interpreter over memories of a fixed shape: ints and longs by cell and place; how it steps -/
abbrev SG : Type := (Nat → Int → Int) × (Nat → Int → Int64)
abbrev SE : Type := (Nat × Nat × Option (Int → Option Nat)) ⊕ (Nat × List (Nat ⊕ AV))
def entF (σ : SG) (k : Nat) (j : Nat) (f : Nat ⊕ AV) : AV := match f with
  | .inl 0 => iv (σ.1 k j)
  | .inl _ => jv (σ.2 k j)
  | .inr v => v
def ent (σ : SG) (k : Nat) (e : SE) : AE := match e with
  | .inl (1, n, none) => .inl (1, n, .inr (.inl (σ.2 k)))
  | .inl (t, n, none) => .inl (t, n, .inl (σ.1 k))
  | .inl (t, n, some f) => .inl (t, n, .inr (.inr f))
  | .inr (ci, fs) => .inr (ci, fs.mapIdx (entF σ k))
def memS (sh : List SE) (σ : SG) : AM := sh.mapIdx (ent σ)
def upI (σ : SG) (q : Nat) (i : Int) (v : Int) : SG := (fun k j => if k = q ∧ j = i then v else σ.1 k j, σ.2)
def upJ (σ : SG) (q : Nat) (i : Int) (v : Int64) : SG := (σ.1, fun k j => if k = q ∧ j = i then v else σ.2 k j)
def upC (σ : SG) (q : Nat) (f : Int → Int) : SG := (fun k j => if k = q then f j else σ.1 k j, σ.2)
theorem mem_get {sh : List SE} {σ : SG} {q : Nat} {e : SE} (h : sh[q]? = some e) : (memS sh σ)[q]? = some (ent σ q e) := by
  simp [memS, List.getElem?_mapIdx, h]
theorem ent_congr {σ σ' : SG} {k : Nat} (e : SE) (h1 : σ'.1 k = σ.1 k) (h2 : σ'.2 k = σ.2 k) : ent σ' k e = ent σ k e := by
  have h3 : entF σ' k = entF σ k := by
    funext j f
    unfold entF
    rw [h1, h2]
  unfold ent
  rw [h1, h2, h3]
theorem ent_up_ne {σ : SG} {q k : Nat} {i v : Int} (e : SE) (h : k ≠ q) : ent (upI σ q i v) k e = ent σ k e := ent_congr e (funext fun j => by simp only [upI, h, false_and, if_false]) rfl
theorem ent_upJ_ne {σ : SG} {q k : Nat} {i : Int} {v : Int64} (e : SE) (h : k ≠ q) : ent (upJ σ q i v) k e = ent σ k e := ent_congr e rfl (funext fun j => by simp only [upJ, h, false_and, if_false])
theorem ent_upC_ne {σ : SG} {q k : Nat} {f : Int → Int} (e : SE) (h : k ≠ q) : ent (upC σ q f) k e = ent σ k e := ent_congr e (funext fun j => by simp only [upC, h, if_false]) rfl
theorem mem_set_of {sh : List SE} {σ σ' : SG} {q : Nat} {e : SE} (hq : sh[q]? = some e) (h : ∀ k e', k ≠ q → ent σ' k e' = ent σ k e') : (memS sh σ).set q (ent σ' q e) = memS sh σ' := by
  apply List.ext_getElem?
  intro k
  rw [List.getElem?_set]
  by_cases hk : q = k
  · subst hk
    rw [if_pos rfl, mem_get hq, if_pos (by simp [memS]; exact (List.getElem?_eq_some_iff.mp hq).1)]
  · rw [if_neg hk]
    simp only [memS, List.getElem?_mapIdx]
    cases hs : sh[k]? with
    | none => rfl
    | some e' => simp [h k e' (fun q => hk q.symm)]
theorem mem_setA {sh : List SE} {σ : SG} {q t n : Nat} {i v : Int} (ht : t ≠ 1) (hq : sh[q]? = some (.inl (t, n, none))) : (memS sh σ).set q (.inl (t, n, .inl (updA (σ.1 q) i v))) = memS sh (upI σ q i v) := by
  rw [← mem_set_of (σ' := upI σ q i v) hq (fun k e' hk => ent_up_ne e' hk)]
  congr 1
  have h2 : (upI σ q i v).1 q = updA (σ.1 q) i v := by funext j; simp [upI, updA]
  unfold ent
  split
  · next h => cases h; exact absurd rfl ht
  · next h => cases h; rw [h2]
  · next h => cases h
  · next h => cases h
theorem mem_setL {sh : List SE} {σ : SG} {q n : Nat} {i : Int} {v : Int64} (hq : sh[q]? = some (.inl (1, n, none))) : (memS sh σ).set q (.inl (1, n, .inr (.inl (updA (σ.2 q) i v)))) = memS sh (upJ σ q i v) := by
  rw [← mem_set_of (σ' := upJ σ q i v) hq (fun k e' hk => ent_upJ_ne e' hk)]
  congr 1
  have h2 : (upJ σ q i v).2 q = updA (σ.2 q) i v := by funext j; simp [upJ, updA]
  simp only [ent, h2]
theorem mem_setC {sh : List SE} {σ : SG} {q n : Nat} {f : Int → Int} (hq : sh[q]? = some (.inl (0, n, none))) : (memS sh σ).set q (.inl (0, n, .inl f)) = memS sh (upC σ q f) := by
  rw [← mem_set_of (σ' := upC σ q f) hq (fun k e' hk => ent_upC_ne e' hk)]
  congr 1
  have h2 : (upC σ q f).1 q = f := by funext j; simp [upC]
  simp only [ent, h2]
theorem mem_setF {sh : List SE} {σ : SG} {q ci j : Nat} {fs : List (Nat ⊕ AV)} {v : Int} (hq : sh[q]? = some (.inr (ci, fs))) (hj : fs[j]? = some (.inl 0)) : (memS sh σ).set q (.inr (ci, (fs.mapIdx (entF σ q)).set j (iv v))) = memS sh (upI σ q j v) := by
  rw [← mem_set_of (σ' := upI σ q j v) hq (fun k e' hk => ent_up_ne e' hk)]
  congr 1
  simp only [ent]
  congr 2
  apply List.ext_getElem?
  intro k
  rw [List.getElem?_set]
  by_cases hk : j = k
  · subst hk
    have hl : j < fs.length := (List.getElem?_eq_some_iff.mp hj).1
    have hj2 : fs[j] = Sum.inl 0 := (List.getElem?_eq_some_iff.mp hj).2
    simp [List.getElem?_mapIdx, hl, entF, upI, hj2]
  · rw [if_neg hk]
    simp only [List.getElem?_mapIdx]
    cases hs : fs[k]? with
    | none => rfl
    | some f =>
      have h1 : (upI σ q (j : Int) v).1 q (k : Int) = σ.1 q k := by
        have : ¬ (k : Int) = (j : Int) := fun z => hk (by omega)
        simp only [upI, this, and_false, if_false]
      simp only [Option.map_some, Option.some.injEq]
      unfold entF
      rw [h1]
      rfl
theorem mem_setFJ {sh : List SE} {σ : SG} {q ci j : Nat} {fs : List (Nat ⊕ AV)} {v : Int64} (hq : sh[q]? = some (.inr (ci, fs))) (hj : fs[j]? = some (.inl 1)) : (memS sh σ).set q (.inr (ci, (fs.mapIdx (entF σ q)).set j (jv v))) = memS sh (upJ σ q j v) := by
  rw [← mem_set_of (σ' := upJ σ q j v) hq (fun k e' hk => ent_upJ_ne e' hk)]
  congr 1
  simp only [ent]
  congr 2
  apply List.ext_getElem?
  intro k
  rw [List.getElem?_set]
  by_cases hk : j = k
  · subst hk
    have hl : j < fs.length := (List.getElem?_eq_some_iff.mp hj).1
    have hj2 : fs[j] = Sum.inl 1 := (List.getElem?_eq_some_iff.mp hj).2
    simp [List.getElem?_mapIdx, hl, entF, upJ, hj2]
  · rw [if_neg hk]
    simp only [List.getElem?_mapIdx]
    cases hs : fs[k]? with
    | none => rfl
    | some f =>
      have h1 : (upJ σ q (j : Int) v).2 q (k : Int) = σ.2 q k := by
        have : ¬ (k : Int) = (j : Int) := fun z => hk (by omega)
        simp only [upJ, this, and_false, if_false]
      simp only [Option.map_some, Option.some.injEq]
      unfold entF
      rw [h1]
      rfl
end
section
/-- three rules from a cell on; two images -/
def rf3 (b : Nat) : Int → Option Nat := updA (updA (updA (fun _ => none) 0 (some b)) 1 (some (b + 3))) 2 (some (b + 6))
def rf2 : Int → Option Nat := updA (updA (fun _ => none) 0 (some 56)) 1 (some 72)
def shp : List SE := [
  .inr (10, [.inr (rv 1), .inr (rv 17), .inr (rv 33), .inr (rv 34), .inr (rv 35), .inr (rv 37), .inr (rv 39), .inr (rv 43), .inr (rv 47), .inr (rv 49), .inr (rv 53), .inr (rv 55)]),
  .inr (8, [.inr (rv 2), .inr (rv 3), .inr (rv 4), .inr (rv 5), .inr (rv 6), .inr (rv 7), .inl 0, .inl 0, .inl 0, .inl 0, .inl 0, .inl 0]),
  .inl (0, 5, none),
  .inl (0, 3, none),
  .inl (0, 15, none),
  .inl (0, 15, none),
  .inl (0, 15, none),
  .inl (3, 3, some (rf3 8)),
  .inr (7, [.inr (rv 9), .inr (rv 10), .inl 0, .inl 0, .inl 0]),
  .inl (0, 40, none),
  .inl (0, 40, none),
  .inr (7, [.inr (rv 12), .inr (rv 13), .inl 0, .inl 0, .inl 0]),
  .inl (0, 40, none),
  .inl (0, 40, none),
  .inr (7, [.inr (rv 15), .inr (rv 16), .inl 0, .inl 0, .inl 0]),
  .inl (0, 40, none),
  .inl (0, 40, none),
  .inr (8, [.inr (rv 18), .inr (rv 19), .inr (rv 20), .inr (rv 21), .inr (rv 22), .inr (rv 23), .inl 0, .inl 0, .inl 0, .inl 0, .inl 0, .inl 0]),
  .inl (0, 5, none),
  .inl (0, 3, none),
  .inl (0, 15, none),
  .inl (0, 15, none),
  .inl (0, 15, none),
  .inl (3, 3, some (rf3 24)),
  .inr (7, [.inr (rv 25), .inr (rv 26), .inl 0, .inl 0, .inl 0]),
  .inl (0, 40, none),
  .inl (0, 40, none),
  .inr (7, [.inr (rv 28), .inr (rv 29), .inl 0, .inl 0, .inl 0]),
  .inl (0, 40, none),
  .inl (0, 40, none),
  .inr (7, [.inr (rv 31), .inr (rv 32), .inl 0, .inl 0, .inl 0]),
  .inl (0, 40, none),
  .inl (0, 40, none),
  .inl (4, 2, some rf2),
  .inl (2, 2, none),
  .inr (5, [.inr (rv 36), .inl 0, .inl 0, .inl 0, .inl 0]),
  .inl (0, 40, none),
  .inr (9, [.inr (rv 38), .inl 0, .inl 0, .inl 0, .inl 0, .inl 0, .inl 1]),
  .inl (1, 40, none),
  .inr (3, [.inr (rv 37), .inr (rv 40), .inr (rv 41), .inr (rv 42), .inl 0]),
  .inl (0, 3, none),
  .inl (0, 3, none),
  .inl (0, 3, none),
  .inr (0, [.inr (rv 39), .inr (rv 44), .inr (rv 45), .inr (rv 46), .inl 0, .inl 0]),
  .inl (0, 39, none),
  .inl (0, 3, none),
  .inl (0, 3, none),
  .inr (6, [.inr (rv 43), .inr (rv 48)]),
  .inl (1, 41, none),
  .inr (1, [.inr (rv 50), .inr (rv 51), .inr (rv 52), .inl 0]),
  .inl (0, 183, none),
  .inl (0, 1044, none),
  .inl (0, 3, none),
  .inr (4, [.inr (rv 39), .inr (rv 54), .inl 0]),
  .inl (0, 5, none),
  .inr (2, [.inr (rv 37)]),
  .inr (8, [.inr (rv 57), .inr (rv 58), .inr (rv 59), .inr (rv 60), .inr (rv 61), .inr (rv 62), .inl 0, .inl 0, .inl 0, .inl 0, .inl 0, .inl 0]),
  .inl (0, 5, none),
  .inl (0, 3, none),
  .inl (0, 15, none),
  .inl (0, 15, none),
  .inl (0, 15, none),
  .inl (3, 3, some (rf3 63)),
  .inr (7, [.inr (rv 64), .inr (rv 65), .inl 0, .inl 0, .inl 0]),
  .inl (0, 40, none),
  .inl (0, 40, none),
  .inr (7, [.inr (rv 67), .inr (rv 68), .inl 0, .inl 0, .inl 0]),
  .inl (0, 40, none),
  .inl (0, 40, none),
  .inr (7, [.inr (rv 70), .inr (rv 71), .inl 0, .inl 0, .inl 0]),
  .inl (0, 40, none),
  .inl (0, 40, none),
  .inr (8, [.inr (rv 73), .inr (rv 74), .inr (rv 75), .inr (rv 76), .inr (rv 77), .inr (rv 78), .inl 0, .inl 0, .inl 0, .inl 0, .inl 0, .inl 0]),
  .inl (0, 5, none),
  .inl (0, 3, none),
  .inl (0, 15, none),
  .inl (0, 15, none),
  .inl (0, 15, none),
  .inl (3, 3, some (rf3 79)),
  .inr (7, [.inr (rv 80), .inr (rv 81), .inl 0, .inl 0, .inl 0]),
  .inl (0, 40, none),
  .inl (0, 40, none),
  .inr (7, [.inr (rv 83), .inr (rv 84), .inl 0, .inl 0, .inl 0]),
  .inl (0, 40, none),
  .inl (0, 40, none),
  .inr (7, [.inr (rv 86), .inr (rv 87), .inl 0, .inl 0, .inl 0]),
  .inl (0, 40, none),
  .inl (0, 40, none),
  .inr (11, [.inr (rv 89), .inr (rv 90), .inr (rv 91), .inl 0, .inl 0, .inl 0, .inr (rv 92), .inl 0, .inr (rv 93), .inl 0, .inr (rv 94), .inl 1, .inr (rv 95), .inl 0, .inr (rv 96), .inr (rv 97), .inr (rv 98), .inr (rv 99), .inl 0, .inl 0, .inl 0, .inr (rv 100), .inr (rv 101), .inr (rv 102), .inr (rv 103), .inr (rv 104), .inr (rv 105), .inr (rv 106), .inr (rv 107)]),
  .inl (0, 182, none),
  .inl (0, 364, none),
  .inl (2, 2, none),
  .inl (1, 64, none),
  .inl (0, 128, none),
  .inl (1, 5, none),
  .inl (0, 16, none),
  .inl (1, 13, none),
  .inl (0, 3, none),
  .inl (0, 3, none),
  .inl (0, 3, none),
  .inl (0, 4, none),
  .inl (0, 3, none),
  .inl (0, 3, none),
  .inl (0, 615, none),
  .inl (0, 183, none),
  .inl (0, 3, none),
  .inl (0, 5, none),
  .inl (0, 15, none)]
def mem (σ : SG) : AM := memS shp σ
theorem h_0 : shp[0]? = some (.inr (10, [.inr (rv 1), .inr (rv 17), .inr (rv 33), .inr (rv 34), .inr (rv 35), .inr (rv 37), .inr (rv 39), .inr (rv 43), .inr (rv 47), .inr (rv 49), .inr (rv 53), .inr (rv 55)])) := rfl
theorem h_1 : shp[1]? = some (.inr (8, [.inr (rv 2), .inr (rv 3), .inr (rv 4), .inr (rv 5), .inr (rv 6), .inr (rv 7), .inl 0, .inl 0, .inl 0, .inl 0, .inl 0, .inl 0])) := rfl
theorem h_2 : shp[2]? = some (.inl (0, 5, none)) := rfl
theorem h_3 : shp[3]? = some (.inl (0, 3, none)) := rfl
theorem h_4 : shp[4]? = some (.inl (0, 15, none)) := rfl
theorem h_5 : shp[5]? = some (.inl (0, 15, none)) := rfl
theorem h_6 : shp[6]? = some (.inl (0, 15, none)) := rfl
theorem h_7 : shp[7]? = some (.inl (3, 3, some (rf3 8))) := rfl
theorem h_8 : shp[8]? = some (.inr (7, [.inr (rv 9), .inr (rv 10), .inl 0, .inl 0, .inl 0])) := rfl
theorem h_9 : shp[9]? = some (.inl (0, 40, none)) := rfl
theorem h_10 : shp[10]? = some (.inl (0, 40, none)) := rfl
theorem h_11 : shp[11]? = some (.inr (7, [.inr (rv 12), .inr (rv 13), .inl 0, .inl 0, .inl 0])) := rfl
theorem h_12 : shp[12]? = some (.inl (0, 40, none)) := rfl
theorem h_13 : shp[13]? = some (.inl (0, 40, none)) := rfl
theorem h_14 : shp[14]? = some (.inr (7, [.inr (rv 15), .inr (rv 16), .inl 0, .inl 0, .inl 0])) := rfl
theorem h_15 : shp[15]? = some (.inl (0, 40, none)) := rfl
theorem h_16 : shp[16]? = some (.inl (0, 40, none)) := rfl
theorem h_17 : shp[17]? = some (.inr (8, [.inr (rv 18), .inr (rv 19), .inr (rv 20), .inr (rv 21), .inr (rv 22), .inr (rv 23), .inl 0, .inl 0, .inl 0, .inl 0, .inl 0, .inl 0])) := rfl
theorem h_18 : shp[18]? = some (.inl (0, 5, none)) := rfl
theorem h_19 : shp[19]? = some (.inl (0, 3, none)) := rfl
theorem h_20 : shp[20]? = some (.inl (0, 15, none)) := rfl
theorem h_21 : shp[21]? = some (.inl (0, 15, none)) := rfl
theorem h_22 : shp[22]? = some (.inl (0, 15, none)) := rfl
theorem h_23 : shp[23]? = some (.inl (3, 3, some (rf3 24))) := rfl
theorem h_24 : shp[24]? = some (.inr (7, [.inr (rv 25), .inr (rv 26), .inl 0, .inl 0, .inl 0])) := rfl
theorem h_25 : shp[25]? = some (.inl (0, 40, none)) := rfl
theorem h_26 : shp[26]? = some (.inl (0, 40, none)) := rfl
theorem h_27 : shp[27]? = some (.inr (7, [.inr (rv 28), .inr (rv 29), .inl 0, .inl 0, .inl 0])) := rfl
theorem h_28 : shp[28]? = some (.inl (0, 40, none)) := rfl
theorem h_29 : shp[29]? = some (.inl (0, 40, none)) := rfl
theorem h_30 : shp[30]? = some (.inr (7, [.inr (rv 31), .inr (rv 32), .inl 0, .inl 0, .inl 0])) := rfl
theorem h_31 : shp[31]? = some (.inl (0, 40, none)) := rfl
theorem h_32 : shp[32]? = some (.inl (0, 40, none)) := rfl
theorem h_33 : shp[33]? = some (.inl (4, 2, some rf2)) := rfl
theorem h_34 : shp[34]? = some (.inl (2, 2, none)) := rfl
theorem h_35 : shp[35]? = some (.inr (5, [.inr (rv 36), .inl 0, .inl 0, .inl 0, .inl 0])) := rfl
theorem h_36 : shp[36]? = some (.inl (0, 40, none)) := rfl
theorem h_37 : shp[37]? = some (.inr (9, [.inr (rv 38), .inl 0, .inl 0, .inl 0, .inl 0, .inl 0, .inl 1])) := rfl
theorem h_38 : shp[38]? = some (.inl (1, 40, none)) := rfl
theorem h_39 : shp[39]? = some (.inr (3, [.inr (rv 37), .inr (rv 40), .inr (rv 41), .inr (rv 42), .inl 0])) := rfl
theorem h_40 : shp[40]? = some (.inl (0, 3, none)) := rfl
theorem h_41 : shp[41]? = some (.inl (0, 3, none)) := rfl
theorem h_42 : shp[42]? = some (.inl (0, 3, none)) := rfl
theorem h_43 : shp[43]? = some (.inr (0, [.inr (rv 39), .inr (rv 44), .inr (rv 45), .inr (rv 46), .inl 0, .inl 0])) := rfl
theorem h_44 : shp[44]? = some (.inl (0, 39, none)) := rfl
theorem h_45 : shp[45]? = some (.inl (0, 3, none)) := rfl
theorem h_46 : shp[46]? = some (.inl (0, 3, none)) := rfl
theorem h_47 : shp[47]? = some (.inr (6, [.inr (rv 43), .inr (rv 48)])) := rfl
theorem h_48 : shp[48]? = some (.inl (1, 41, none)) := rfl
theorem h_49 : shp[49]? = some (.inr (1, [.inr (rv 50), .inr (rv 51), .inr (rv 52), .inl 0])) := rfl
theorem h_50 : shp[50]? = some (.inl (0, 183, none)) := rfl
theorem h_51 : shp[51]? = some (.inl (0, 1044, none)) := rfl
theorem h_52 : shp[52]? = some (.inl (0, 3, none)) := rfl
theorem h_53 : shp[53]? = some (.inr (4, [.inr (rv 39), .inr (rv 54), .inl 0])) := rfl
theorem h_54 : shp[54]? = some (.inl (0, 5, none)) := rfl
theorem h_55 : shp[55]? = some (.inr (2, [.inr (rv 37)])) := rfl
theorem h_56 : shp[56]? = some (.inr (8, [.inr (rv 57), .inr (rv 58), .inr (rv 59), .inr (rv 60), .inr (rv 61), .inr (rv 62), .inl 0, .inl 0, .inl 0, .inl 0, .inl 0, .inl 0])) := rfl
theorem h_57 : shp[57]? = some (.inl (0, 5, none)) := rfl
theorem h_58 : shp[58]? = some (.inl (0, 3, none)) := rfl
theorem h_59 : shp[59]? = some (.inl (0, 15, none)) := rfl
theorem h_60 : shp[60]? = some (.inl (0, 15, none)) := rfl
theorem h_61 : shp[61]? = some (.inl (0, 15, none)) := rfl
theorem h_62 : shp[62]? = some (.inl (3, 3, some (rf3 63))) := rfl
theorem h_63 : shp[63]? = some (.inr (7, [.inr (rv 64), .inr (rv 65), .inl 0, .inl 0, .inl 0])) := rfl
theorem h_64 : shp[64]? = some (.inl (0, 40, none)) := rfl
theorem h_65 : shp[65]? = some (.inl (0, 40, none)) := rfl
theorem h_66 : shp[66]? = some (.inr (7, [.inr (rv 67), .inr (rv 68), .inl 0, .inl 0, .inl 0])) := rfl
theorem h_67 : shp[67]? = some (.inl (0, 40, none)) := rfl
theorem h_68 : shp[68]? = some (.inl (0, 40, none)) := rfl
theorem h_69 : shp[69]? = some (.inr (7, [.inr (rv 70), .inr (rv 71), .inl 0, .inl 0, .inl 0])) := rfl
theorem h_70 : shp[70]? = some (.inl (0, 40, none)) := rfl
theorem h_71 : shp[71]? = some (.inl (0, 40, none)) := rfl
theorem h_72 : shp[72]? = some (.inr (8, [.inr (rv 73), .inr (rv 74), .inr (rv 75), .inr (rv 76), .inr (rv 77), .inr (rv 78), .inl 0, .inl 0, .inl 0, .inl 0, .inl 0, .inl 0])) := rfl
theorem h_73 : shp[73]? = some (.inl (0, 5, none)) := rfl
theorem h_74 : shp[74]? = some (.inl (0, 3, none)) := rfl
theorem h_75 : shp[75]? = some (.inl (0, 15, none)) := rfl
theorem h_76 : shp[76]? = some (.inl (0, 15, none)) := rfl
theorem h_77 : shp[77]? = some (.inl (0, 15, none)) := rfl
theorem h_78 : shp[78]? = some (.inl (3, 3, some (rf3 79))) := rfl
theorem h_79 : shp[79]? = some (.inr (7, [.inr (rv 80), .inr (rv 81), .inl 0, .inl 0, .inl 0])) := rfl
theorem h_80 : shp[80]? = some (.inl (0, 40, none)) := rfl
theorem h_81 : shp[81]? = some (.inl (0, 40, none)) := rfl
theorem h_82 : shp[82]? = some (.inr (7, [.inr (rv 83), .inr (rv 84), .inl 0, .inl 0, .inl 0])) := rfl
theorem h_83 : shp[83]? = some (.inl (0, 40, none)) := rfl
theorem h_84 : shp[84]? = some (.inl (0, 40, none)) := rfl
theorem h_85 : shp[85]? = some (.inr (7, [.inr (rv 86), .inr (rv 87), .inl 0, .inl 0, .inl 0])) := rfl
theorem h_86 : shp[86]? = some (.inl (0, 40, none)) := rfl
theorem h_87 : shp[87]? = some (.inl (0, 40, none)) := rfl
theorem h_88 : shp[88]? = some (.inr (11, [.inr (rv 89), .inr (rv 90), .inr (rv 91), .inl 0, .inl 0, .inl 0, .inr (rv 92), .inl 0, .inr (rv 93), .inl 0, .inr (rv 94), .inl 1, .inr (rv 95), .inl 0, .inr (rv 96), .inr (rv 97), .inr (rv 98), .inr (rv 99), .inl 0, .inl 0, .inl 0, .inr (rv 100), .inr (rv 101), .inr (rv 102), .inr (rv 103), .inr (rv 104), .inr (rv 105), .inr (rv 106), .inr (rv 107)])) := rfl
theorem h_89 : shp[89]? = some (.inl (0, 182, none)) := rfl
theorem h_90 : shp[90]? = some (.inl (0, 364, none)) := rfl
theorem h_91 : shp[91]? = some (.inl (2, 2, none)) := rfl
theorem h_92 : shp[92]? = some (.inl (1, 64, none)) := rfl
theorem h_93 : shp[93]? = some (.inl (0, 128, none)) := rfl
theorem h_94 : shp[94]? = some (.inl (1, 5, none)) := rfl
theorem h_95 : shp[95]? = some (.inl (0, 16, none)) := rfl
theorem h_96 : shp[96]? = some (.inl (1, 13, none)) := rfl
theorem h_97 : shp[97]? = some (.inl (0, 3, none)) := rfl
theorem h_98 : shp[98]? = some (.inl (0, 3, none)) := rfl
theorem h_99 : shp[99]? = some (.inl (0, 3, none)) := rfl
theorem h_100 : shp[100]? = some (.inl (0, 4, none)) := rfl
theorem h_101 : shp[101]? = some (.inl (0, 3, none)) := rfl
theorem h_102 : shp[102]? = some (.inl (0, 3, none)) := rfl
theorem h_103 : shp[103]? = some (.inl (0, 615, none)) := rfl
theorem h_104 : shp[104]? = some (.inl (0, 183, none)) := rfl
theorem h_105 : shp[105]? = some (.inl (0, 3, none)) := rfl
theorem h_106 : shp[106]? = some (.inl (0, 5, none)) := rfl
theorem h_107 : shp[107]? = some (.inl (0, 15, none)) := rfl
end
section
theorem run_mono {X : AX} : ∀ (n : Nat) {m d : Nat} {mr : MRec} {pc : Nat} {L : AL} {S : List AV} {M : AM} {c s : Nat} {r : Option AV × AM}, run X n d mr pc L S M c s = some r → n ≤ m → run X m d mr pc L S M c s = some r := by
  intro n
  induction n with
  | zero => intro m d mr pc L S M c s r h; cases h
  | succ n ih =>
    intro m d mr pc L S M c s r h hm
    match m, hm with
    | m + 1, hm =>
      have hm' : n ≤ m := by omega
      unfold run at h ⊢
      split at h
      · next ins len hd =>
        try rw [hd]
        try simp only
        split at h
        · next hlen =>
          try rw [if_pos hlen]
          split at h
          · next v hr => first | exact h | (rw [hr]; exact h)
          · next hr =>
            try rw [hr]
            try simp only
            split at h
            · next pc' L' S' M' c' s' hs => first | exact ih h hm' | (rw [hs]; exact ih h hm')
            · next hs =>
              try rw [hs]
              try simp only
              split at h
              · next mr' As r' hc =>
                try rw [hc]
                try simp only
                split at h
                · cases h
                · next d' =>
                  split at h
                  · next hcc =>
                    try rw [if_pos hcc]
                    split at h
                    · next v M' hrun =>
                      rw [ih hrun hm']
                      exact ih h hm'
                    · cases h
                  · cases h
              · cases h
        · cases h
      · cases h
/-- the interpreter comes to a return, with Q -/
def Ev (X : AX) (c s d : Nat) (mr : MRec) (pc : Nat) (L : AL) (S : List AV) (σ : SG) (Q : Option AV → SG → Prop) : Prop := ∃ (n : Nat) (v : Option AV) (σ' : SG), run X n d mr pc L S (mem σ) c s = some (v, mem σ') ∧ Q v σ'
section EV
variable {X : AX} {c s d : Nat} {mr : MRec} {pc pc' : Nat} {L L' : AL} {S S' : List AV} {σ σ' : SG} {Q : Option AV → SG → Prop}
theorem Ev.imp {Q' : Option AV → SG → Prop} (h : Ev X c s d mr pc L S σ Q) (hq : ∀ v σ', Q v σ' → Q' v σ') : Ev X c s d mr pc L S σ Q' := by
  obtain ⟨n, v, σ2, a, b⟩ := h
  exact ⟨n, v, σ2, a, hq _ _ b⟩
theorem e_stp {ins : Instr} {len : Nat} (hd : decode mr.2.1 pc = .ok (ins, len)) (hlen : lenOK ins len = true) (hr : rtn mr ins S = none) (hs : stp X mr d ins pc L S (mem σ) c s = some (pc', L', S', mem σ', c, s)) (K : Ev X c s d mr pc' L' S' σ' Q) : Ev X c s d mr pc L S σ Q := by
  obtain ⟨n, v, σ2, h, q⟩ := K
  refine ⟨n + 1, v, σ2, ?_, q⟩
  unfold run
  rw [hd]
  simp only [hlen, if_true, hr, hs]
  exact h
def rg (x : Int) : Prop := -2147483648 ≤ x ∧ x ≤ 2147483647
theorem rg_to {x : Int} (h : rg x) : (Int32.ofInt x).toInt = x := Int32.toInt_ofInt_of_le (by have := h.1; omega) (by have := h.2; omega)
theorem rg_lt {x y : Int} (hx : rg x) (hy : rg y) : Int32.ofInt x < Int32.ofInt y ↔ x < y := by rw [Int32.lt_iff_toInt_lt, rg_to hx, rg_to hy]
theorem rg_le {x y : Int} (hx : rg x) (hy : rg y) : Int32.ofInt x ≤ Int32.ofInt y ↔ x ≤ y := by rw [Int32.le_iff_toInt_le, rg_to hx, rg_to hy]
theorem rg_eq {x y : Int} (hx : rg x) (hy : rg y) : Int32.ofInt x = Int32.ofInt y ↔ x = y := by rw [← Int32.toInt_inj, rg_to hx, rg_to hy]
theorem e_iload_n {k : Fin 4} {z : Int} (hd : decode mr.2.1 pc = .ok (.iload_n k, 1)) (hp : pc + 1 = pc') (hl : L[(k : Nat)]? = some (some (iv z))) (K : Ev X c s d mr pc' L (iv z :: S) σ Q) : Ev X c s d mr pc L S σ Q := by
  subst hp; exact e_stp hd rfl rfl (by simp only [stp, ldI, hl, Option.map_some]) K
theorem e_iload {k : Nat} {z : Int} (hd : decode mr.2.1 pc = .ok (.iload k, 2)) (hp : pc + 2 = pc') (hl : L[k]? = some (some (iv z))) (K : Ev X c s d mr pc' L (iv z :: S) σ Q) : Ev X c s d mr pc L S σ Q := by
  subst hp; exact e_stp hd rfl rfl (by simp only [stp, ldI, hl, Option.map_some]) K
theorem e_lload_n {k : Fin 4} {z : Int64} (hd : decode mr.2.1 pc = .ok (.lload_n k, 1)) (hp : pc + 1 = pc') (hl : L[(k : Nat)]? = some (some (jv z))) (K : Ev X c s d mr pc' L (jv z :: S) σ Q) : Ev X c s d mr pc L S σ Q := by
  subst hp; exact e_stp hd rfl rfl (by simp only [stp, ldJ, hl, Option.map_some]) K
theorem e_lload {k : Nat} {z : Int64} (hd : decode mr.2.1 pc = .ok (.lload k, 2)) (hp : pc + 2 = pc') (hl : L[k]? = some (some (jv z))) (K : Ev X c s d mr pc' L (jv z :: S) σ Q) : Ev X c s d mr pc L S σ Q := by
  subst hp; exact e_stp hd rfl rfl (by simp only [stp, ldJ, hl, Option.map_some]) K
theorem e_aload_n {k : Fin 4} {z : Nat} (hd : decode mr.2.1 pc = .ok (.aload_n k, 1)) (hp : pc + 1 = pc') (hl : L[(k : Nat)]? = some (some (rv z))) (K : Ev X c s d mr pc' L (rv z :: S) σ Q) : Ev X c s d mr pc L S σ Q := by
  subst hp; exact e_stp hd rfl rfl (by simp only [stp, ldR, hl, Option.map_some]) K
theorem e_aload {k : Nat} {z : Nat} (hd : decode mr.2.1 pc = .ok (.aload k, 2)) (hp : pc + 2 = pc') (hl : L[k]? = some (some (rv z))) (K : Ev X c s d mr pc' L (rv z :: S) σ Q) : Ev X c s d mr pc L S σ Q := by
  subst hp; exact e_stp hd rfl rfl (by simp only [stp, ldR, hl, Option.map_some]) K
theorem e_scr {k : Fin 4} (hd : decode mr.2.1 pc = .ok (.aload_n k, 1)) (hp : pc + 1 = pc') (hl : L[(k : Nat)]? = some (some (sv 2))) (K : Ev X c s d mr pc' L (sv 2 :: S) σ Q) : Ev X c s d mr pc L S σ Q := by
  subst hp; exact e_stp hd rfl rfl (by simp only [stp, ldR, hl, Option.map_some]) K
theorem e_istore_n {k : Fin 4} {z : Int} (hd : decode mr.2.1 pc = .ok (.istore_n k, 1)) (hp : pc + 1 = pc') (hk : (k : Nat) < mr.2.2.1) (hl : st1 L k (iv z) = L') (K : Ev X c s d mr pc' L' S σ Q) : Ev X c s d mr pc L (iv z :: S) σ Q := by
  subst hp; exact e_stp hd rfl rfl (by simp only [stp, hk, if_true, hl]) K
theorem e_istore {k : Nat} {z : Int} (hd : decode mr.2.1 pc = .ok (.istore k, 2)) (hp : pc + 2 = pc') (hk : k < mr.2.2.1) (hl : st1 L k (iv z) = L') (K : Ev X c s d mr pc' L' S σ Q) : Ev X c s d mr pc L (iv z :: S) σ Q := by
  subst hp; exact e_stp hd rfl rfl (by simp only [stp, hk, if_true, hl]) K
theorem e_lstore_n {k : Fin 4} {z : Int64} (hd : decode mr.2.1 pc = .ok (.lstore_n k, 1)) (hp : pc + 1 = pc') (hk : (k : Nat) + 1 < mr.2.2.1) (hl : st2 L k (jv z) = L') (K : Ev X c s d mr pc' L' S σ Q) : Ev X c s d mr pc L (jv z :: S) σ Q := by
  subst hp; exact e_stp hd rfl rfl (by simp only [stp, hk, if_true, hl]) K
theorem e_lstore {k : Nat} {z : Int64} (hd : decode mr.2.1 pc = .ok (.lstore k, 2)) (hp : pc + 2 = pc') (hk : k + 1 < mr.2.2.1) (hl : st2 L k (jv z) = L') (K : Ev X c s d mr pc' L' S σ Q) : Ev X c s d mr pc L (jv z :: S) σ Q := by
  subst hp; exact e_stp hd rfl rfl (by simp only [stp, hk, if_true, hl]) K
theorem e_astore_n {k : Fin 4} {z : Nat} (hd : decode mr.2.1 pc = .ok (.astore_n k, 1)) (hp : pc + 1 = pc') (hk : (k : Nat) < mr.2.2.1) (hl : st1 L k (rv z) = L') (K : Ev X c s d mr pc' L' S σ Q) : Ev X c s d mr pc L (rv z :: S) σ Q := by
  subst hp; exact e_stp hd rfl rfl (by simp only [stp, hk, if_true, hl]) K
theorem e_astore {k : Nat} {z : Nat} (hd : decode mr.2.1 pc = .ok (.astore k, 2)) (hp : pc + 2 = pc') (hk : k < mr.2.2.1) (hl : st1 L k (rv z) = L') (K : Ev X c s d mr pc' L' S σ Q) : Ev X c s d mr pc L (rv z :: S) σ Q := by
  subst hp; exact e_stp hd rfl rfl (by simp only [stp, hk, if_true, hl]) K
theorem e_iinc {k : Nat} {z n : Int} (hd : decode mr.2.1 pc = .ok (.iinc k n, 3)) (hp : pc + 3 = pc') (h : L[k]? = some (some (iv z))) (hk : k < mr.2.2.1) (hl : st1 L k (iv (z + n)) = L') (K : Ev X c s d mr pc' L' S σ Q) : Ev X c s d mr pc L S σ Q := by
  subst hp; exact e_stp hd rfl rfl (by simp only [stp, h, hk, if_true, hl]) K
theorem e_iconst {n : Int} (hd : decode mr.2.1 pc = .ok (.iconst n, 1)) (hp : pc + 1 = pc') (K : Ev X c s d mr pc' L (iv n :: S) σ Q) : Ev X c s d mr pc L S σ Q := by
  subst hp; exact e_stp hd rfl rfl rfl K
theorem e_bipush {n z : Int} (hd : decode mr.2.1 pc = .ok (.bipush n, 2)) (hp : pc + 2 = pc') (hz : (Int8.ofInt n).toInt = z) (K : Ev X c s d mr pc' L (iv z :: S) σ Q) : Ev X c s d mr pc L S σ Q := by
  subst hp; subst hz; exact e_stp hd rfl rfl rfl K
theorem e_sipush {n z : Int} (hd : decode mr.2.1 pc = .ok (.sipush n, 3)) (hp : pc + 3 = pc') (hz : (Int16.ofInt n).toInt = z) (K : Ev X c s d mr pc' L (iv z :: S) σ Q) : Ev X c s d mr pc L S σ Q := by
  subst hp; subst hz; exact e_stp hd rfl rfl rfl K
theorem e_lconst {n : Fin 2} {z : Int64} (hd : decode mr.2.1 pc = .ok (.lconst n, 1)) (hp : pc + 1 = pc') (hz : Int64.ofNat n = z) (K : Ev X c s d mr pc' L (jv z :: S) σ Q) : Ev X c s d mr pc L S σ Q := by
  subst hp; subst hz; exact e_stp hd rfl rfl rfl K
theorem e_ldc2 {k : Nat} {z : Int64} (hd : decode mr.2.1 pc = .ok (.ldc2_w k, 3)) (hp : pc + 3 = pc') (hz : lcn mr.2.2.2.2.2.2 k = some z) (K : Ev X c s d mr pc' L (jv z :: S) σ Q) : Ev X c s d mr pc L S σ Q := by
  subst hp; exact e_stp hd rfl rfl (by simp only [stp, hz, Option.map_some]) K
theorem e_iadd {x y : Int} (hd : decode mr.2.1 pc = .ok (.iadd, 1)) (hp : pc + 1 = pc') (K : Ev X c s d mr pc' L (iv (x + y) :: S) σ Q) : Ev X c s d mr pc L (iv y :: iv x :: S) σ Q := by
  subst hp; exact e_stp hd rfl rfl rfl K
theorem e_isub {x y : Int} (hd : decode mr.2.1 pc = .ok (.isub, 1)) (hp : pc + 1 = pc') (K : Ev X c s d mr pc' L (iv (x - y) :: S) σ Q) : Ev X c s d mr pc L (iv y :: iv x :: S) σ Q := by
  subst hp; exact e_stp hd rfl rfl rfl K
theorem e_imul {x y : Int} (hd : decode mr.2.1 pc = .ok (.imul, 1)) (hp : pc + 1 = pc') (K : Ev X c s d mr pc' L (iv (x * y) :: S) σ Q) : Ev X c s d mr pc L (iv y :: iv x :: S) σ Q := by
  subst hp; exact e_stp hd rfl rfl rfl K
theorem e_ineg {x : Int} (hd : decode mr.2.1 pc = .ok (.ineg, 1)) (hp : pc + 1 = pc') (K : Ev X c s d mr pc' L (iv (-x) :: S) σ Q) : Ev X c s d mr pc L (iv x :: S) σ Q := by
  subst hp; exact e_stp hd rfl rfl rfl K
theorem e_iand {x y : Int} (hd : decode mr.2.1 pc = .ok (.iand, 1)) (hp : pc + 1 = pc') (K : Ev X c s d mr pc' L (iv (Int32.ofInt x &&& Int32.ofInt y).toInt :: S) σ Q) : Ev X c s d mr pc L (iv y :: iv x :: S) σ Q := by
  subst hp; exact e_stp hd rfl rfl rfl K
theorem div_ok {x y : Int} (hx : 0 ≤ x) (hx2 : x ≤ 2147483647) (hy : 0 < y) (hy2 : y ≤ 2147483647) : (Int32.ofInt x / Int32.ofInt y).toInt = x / y := by
  have e1 : Int32.ofInt x = nI x.toNat := by
    apply Int32.toInt_inj.mp
    rw [rg_to ⟨by omega, hx2⟩, nI_toInt (by omega)]
    omega
  have e2 : Int32.ofInt y = nI y.toNat := by
    apply Int32.toInt_inj.mp
    rw [rg_to ⟨by omega, hy2⟩, nI_toInt (by omega)]
    omega
  rw [e1, e2, pk_div (by omega) (by omega) (by omega), nI_toInt]
  · rw [Int.natCast_ediv, Int.toNat_of_nonneg hx, Int.toNat_of_nonneg (by omega)]
  · have := Nat.div_le_self x.toNat y.toNat
    omega
theorem e_idiv {x y : Int} (hd : decode mr.2.1 pc = .ok (.idiv, 1)) (hp : pc + 1 = pc') (hx : 0 ≤ x) (hx2 : x ≤ 2147483647) (hy : 0 < y) (hy2 : y ≤ 2147483647) (K : Ev X c s d mr pc' L (iv (x / y) :: S) σ Q) : Ev X c s d mr pc L (iv y :: iv x :: S) σ Q := by
  subst hp
  rw [← div_ok hx hx2 hy hy2] at K
  have hn : ¬ Int32.ofInt y = 0 := fun q => by
    have : Int32.ofInt y = Int32.ofInt 0 := q
    rw [rg_eq ⟨by omega, hy2⟩ ⟨by omega, by omega⟩] at this
    omega
  exact e_stp hd rfl rfl (by simp only [stp, hn, if_false]) K
theorem e_ladd {x y : Int64} (hd : decode mr.2.1 pc = .ok (.ladd, 1)) (hp : pc + 1 = pc') (K : Ev X c s d mr pc' L (jv (x + y) :: S) σ Q) : Ev X c s d mr pc L (jv y :: jv x :: S) σ Q := by
  subst hp; exact e_stp hd rfl rfl rfl K
theorem e_lsub {x y : Int64} (hd : decode mr.2.1 pc = .ok (.lsub, 1)) (hp : pc + 1 = pc') (K : Ev X c s d mr pc' L (jv (x - y) :: S) σ Q) : Ev X c s d mr pc L (jv y :: jv x :: S) σ Q := by
  subst hp; exact e_stp hd rfl rfl rfl K
theorem e_lmul {x y : Int64} (hd : decode mr.2.1 pc = .ok (.lmul, 1)) (hp : pc + 1 = pc') (K : Ev X c s d mr pc' L (jv (x * y) :: S) σ Q) : Ev X c s d mr pc L (jv y :: jv x :: S) σ Q := by
  subst hp; exact e_stp hd rfl rfl rfl K
theorem e_ldiv {x y : Int64} (hd : decode mr.2.1 pc = .ok (.ldiv, 1)) (hp : pc + 1 = pc') (hy : ¬ y = 0) (K : Ev X c s d mr pc' L (jv (x / y) :: S) σ Q) : Ev X c s d mr pc L (jv y :: jv x :: S) σ Q := by
  subst hp; exact e_stp hd rfl rfl (by simp only [stp, hy, if_false]) K
theorem e_lor {x y : Int64} (hd : decode mr.2.1 pc = .ok (.lor, 1)) (hp : pc + 1 = pc') (K : Ev X c s d mr pc' L (jv (x ||| y) :: S) σ Q) : Ev X c s d mr pc L (jv y :: jv x :: S) σ Q := by
  subst hp; exact e_stp hd rfl rfl rfl K
theorem e_lneg {x : Int64} (hd : decode mr.2.1 pc = .ok (.lneg, 1)) (hp : pc + 1 = pc') (K : Ev X c s d mr pc' L (jv (-x) :: S) σ Q) : Ev X c s d mr pc L (jv x :: S) σ Q := by
  subst hp; exact e_stp hd rfl rfl rfl K
theorem e_lshl {x : Int64} {y : Int} (hd : decode mr.2.1 pc = .ok (.lshl, 1)) (hp : pc + 1 = pc') (K : Ev X c s d mr pc' L (jv (x <<< ((Int32.ofInt y).toInt64 &&& 63)) :: S) σ Q) : Ev X c s d mr pc L (iv y :: jv x :: S) σ Q := by
  subst hp; exact e_stp hd rfl rfl rfl K
theorem e_lcmp {x y : Int64} (hd : decode mr.2.1 pc = .ok (.lcmp, 1)) (hp : pc + 1 = pc') (K : Ev X c s d mr pc' L (iv (lg_cmp x y).toInt :: S) σ Q) : Ev X c s d mr pc L (jv y :: jv x :: S) σ Q := by
  subst hp; exact e_stp hd rfl rfl rfl K
theorem e_i2l {x : Int} (hd : decode mr.2.1 pc = .ok (.i2l, 1)) (hp : pc + 1 = pc') (hx : rg x) (K : Ev X c s d mr pc' L (jv (Int64.ofInt x) :: S) σ Q) : Ev X c s d mr pc L (iv x :: S) σ Q := by
  subst hp
  have e1 : Int64.ofInt x = (Int32.ofInt x).toInt64 := by
    apply Int64.toInt_inj.mp
    have := hx.1
    have := hx.2
    rw [Int32.toInt_toInt64, rg_to hx, Int64.toInt_ofInt_of_le (by omega) (by omega)]
  rw [e1] at K
  exact e_stp hd rfl rfl rfl K
theorem e_l2i {x : Int64} (hd : decode mr.2.1 pc = .ok (.l2i, 1)) (hp : pc + 1 = pc') (K : Ev X c s d mr pc' L (iv x.toInt32.toInt :: S) σ Q) : Ev X c s d mr pc L (jv x :: S) σ Q := by
  subst hp; exact e_stp hd rfl rfl rfl K
theorem jmp_of {off : Int} {t : Nat} (h : (pc : Int) + off = (t : Int)) : jmp pc off = some t := by
  unfold jmp
  rw [h, if_pos (by omega)]
  simp
theorem e_goto {off : Int} (hd : decode mr.2.1 pc = .ok (.goto off, 3)) (hp : (pc : Int) + off = (pc' : Int)) (K : Ev X c s d mr pc' L S σ Q) : Ev X c s d mr pc L S σ Q :=
  e_stp hd rfl rfl (by simp only [stp, jmp_of hp, Option.map_some]) K
theorem e_if {o : Jvm.ClassFile.Cond} {off x : Int} {t : Nat} (hd : decode mr.2.1 pc = .ok (.ifCond o off, 3)) (hp : (pc : Int) + off = (t : Int)) (hp2 : pc + 3 = pc') (ht : tst o x 0 = true → Ev X c s d mr t L S σ Q) (hf : tst o x 0 = false → Ev X c s d mr pc' L S σ Q) : Ev X c s d mr pc L (iv x :: S) σ Q := by
  subst hp2
  cases h : tst o x 0 with
  | true => exact e_stp hd rfl rfl (by simp only [stp, jmp_of hp, Option.map_some, h, if_true]) (ht h)
  | false => exact e_stp hd rfl rfl (by simp only [stp, jmp_of hp, Option.map_some, h]; rfl) (hf h)
theorem e_icmp {o : Jvm.ClassFile.Cond} {off x y : Int} {t : Nat} (hd : decode mr.2.1 pc = .ok (.if_icmp o off, 3)) (hp : (pc : Int) + off = (t : Int)) (hp2 : pc + 3 = pc') (ht : tst o x y = true → Ev X c s d mr t L S σ Q) (hf : tst o x y = false → Ev X c s d mr pc' L S σ Q) : Ev X c s d mr pc L (iv y :: iv x :: S) σ Q := by
  subst hp2
  cases h : tst o x y with
  | true => exact e_stp hd rfl rfl (by simp only [stp, jmp_of hp, Option.map_some, h, if_true]) (ht h)
  | false => exact e_stp hd rfl rfl (by simp only [stp, jmp_of hp, Option.map_some, h]; rfl) (hf h)
/-- the test of two ints in range, as integers -/
def tsI (o : Jvm.ClassFile.Cond) (x y : Int) : Prop := match o with
  | .eq => x = y
  | .ne => x ≠ y
  | .lt => x < y
  | .ge => y ≤ x
  | .gt => y < x
  | .le => x ≤ y
theorem tst_iff {o : Jvm.ClassFile.Cond} {x y : Int} (hx : rg x) (hy : rg y) : tst o x y = true ↔ tsI o x y := by
  cases o <;> simp only [tst, tsI, decide_eq_true_eq, rg_eq hx hy, rg_lt hx hy, rg_le hx hy, rg_lt hy hx, rg_le hy hx, ne_eq]
theorem e_ifI {o : Jvm.ClassFile.Cond} {off x : Int} {t : Nat} (hd : decode mr.2.1 pc = .ok (.ifCond o off, 3)) (hp : (pc : Int) + off = (t : Int)) (hp2 : pc + 3 = pc') (hx : rg x) (ht : tsI o x 0 → Ev X c s d mr t L S σ Q) (hf : ¬ tsI o x 0 → Ev X c s d mr pc' L S σ Q) : Ev X c s d mr pc L (iv x :: S) σ Q :=
  e_if hd hp hp2 (fun h => ht ((tst_iff hx ⟨by omega, by omega⟩).mp h)) (fun h => hf (fun q => by rw [(tst_iff hx ⟨by omega, by omega⟩).mpr q] at h; cases h))
theorem e_icmpI {o : Jvm.ClassFile.Cond} {off x y : Int} {t : Nat} (hd : decode mr.2.1 pc = .ok (.if_icmp o off, 3)) (hp : (pc : Int) + off = (t : Int)) (hp2 : pc + 3 = pc') (hx : rg x) (hy : rg y) (ht : tsI o x y → Ev X c s d mr t L S σ Q) (hf : ¬ tsI o x y → Ev X c s d mr pc' L S σ Q) : Ev X c s d mr pc L (iv y :: iv x :: S) σ Q :=
  e_icmp hd hp hp2 (fun h => ht ((tst_iff hx hy).mp h)) (fun h => hf (fun q => by rw [(tst_iff hx hy).mpr q] at h; cases h))
/-- the test behind a comparison of longs -/
def tsJ (o : Jvm.ClassFile.Cond) (x y : Int64) : Prop := match o with
  | .eq => x = y
  | .ne => x ≠ y
  | .lt => x < y
  | .ge => y ≤ x
  | .gt => y < x
  | .le => x ≤ y
theorem lg_cases (x y : Int64) : (x < y ∧ (lg_cmp x y).toInt = -1) ∨ (x = y ∧ (lg_cmp x y).toInt = 0) ∨ (y < x ∧ (lg_cmp x y).toInt = 1) := by
  unfold lg_cmp
  rcases Int.lt_trichotomy x.toInt y.toInt with h | h | h
  · left
    have h1 : x < y := Int64.lt_iff_toInt_lt.mpr h
    have h2 : ¬ y < x := fun q => by have := Int64.lt_iff_toInt_lt.mp q; omega
    have h3 : ¬ x = y := fun q => by rw [q] at h; omega
    refine ⟨h1, ?_⟩
    simp [h1, h2, h3]
  · right; left
    have h1 : x = y := Int64.toInt_inj.mp h
    subst h1
    have h2 : ¬ x < x := fun q => by have := Int64.lt_iff_toInt_lt.mp q; omega
    refine ⟨rfl, ?_⟩
    simp [h2]
  · right; right
    have h1 : y < x := Int64.lt_iff_toInt_lt.mpr h
    have h2 : ¬ x < y := fun q => by have := Int64.lt_iff_toInt_lt.mp q; omega
    have h3 : ¬ x = y := fun q => by rw [q] at h; omega
    refine ⟨h1, ?_⟩
    simp [h1, h2, h3]
theorem tsJ_iff {o : Jvm.ClassFile.Cond} {x y : Int64} : tsI o (lg_cmp x y).toInt 0 ↔ tsJ o x y := by
  have key : ∀ a b : Int64, (a < b ↔ a.toInt < b.toInt) ∧ (a ≤ b ↔ a.toInt ≤ b.toInt) ∧ (a = b ↔ a.toInt = b.toInt) := fun a b => ⟨Int64.lt_iff_toInt_lt, Int64.le_iff_toInt_le, Int64.toInt_inj.symm⟩
  have h := lg_cases x y
  simp only [(key _ _).1, (key _ _).2.2] at h
  cases o <;> simp only [tsI, tsJ, (key _ _).1, (key _ _).2.1, (key _ _).2.2, ne_eq] <;> omega
theorem e_ifJ {o : Jvm.ClassFile.Cond} {off : Int} {x y : Int64} {t : Nat} (hd : decode mr.2.1 pc = .ok (.ifCond o off, 3)) (hp : (pc : Int) + off = (t : Int)) (hp2 : pc + 3 = pc') (ht : tsJ o x y → Ev X c s d mr t L S σ Q) (hf : ¬ tsJ o x y → Ev X c s d mr pc' L S σ Q) : Ev X c s d mr pc L (iv (lg_cmp x y).toInt :: S) σ Q := by
  have hr : rg (lg_cmp x y).toInt := by
    have h := lg_cases x y
    constructor <;> omega
  exact e_ifI hd hp hp2 hr (fun h => ht (tsJ_iff.mp h)) (fun h => hf (fun q => h (tsJ_iff.mpr q)))
theorem e_table {dflt lo hi x off : Int} {offs : Array Int} {len : Nat} (hd : decode mr.2.1 pc = .ok (.tableswitch dflt lo hi offs, len)) (hx : rg x) (ho : (if x < lo ∨ hi < x then some dflt else offs[(x - lo).toNat]?) = some off) (hp : (pc : Int) + off = (pc' : Int)) (K : Ev X c s d mr pc' L S σ Q) : Ev X c s d mr pc L (iv x :: S) σ Q :=
  e_stp hd rfl rfl (by simp only [stp, swt, rg_to hx, ho, jmp_of hp, Option.map_some]) K
theorem e_lookup {dflt x off : Int} {ps : Array (Int × Int)} {len : Nat} (hd : decode mr.2.1 pc = .ok (.lookupswitch dflt ps, len)) (hx : rg x) (hs : (ps.toList.zip (ps.toList.drop 1)).all (fun (a, next) => a.1 < next.1) = true) (ho : Op.lookupswitch.offset ps.toList dflt x = off) (hp : (pc : Int) + off = (pc' : Int)) (K : Ev X c s d mr pc' L S σ Q) : Ev X c s d mr pc L (iv x :: S) σ Q :=
  e_stp hd rfl rfl (by simp only [stp, rg_to hx, hs, ho, if_true, jmp_of hp, Option.map_some]) K
theorem e_dup {v : AV} (hd : decode mr.2.1 pc = .ok (.dup, 1)) (hp : pc + 1 = pc') (hc : cat v = 1) (K : Ev X c s d mr pc' L (v :: v :: S) σ Q) : Ev X c s d mr pc L (v :: S) σ Q := by
  subst hp; exact e_stp hd rfl rfl (by simp only [stp, hc, if_true]) K
theorem e_dup2 {v w : AV} (hd : decode mr.2.1 pc = .ok (.dup2, 1)) (hp : pc + 1 = pc') (hc : cat v = 1 ∧ cat w = 1) (K : Ev X c s d mr pc' L (v :: w :: v :: w :: S) σ Q) : Ev X c s d mr pc L (v :: w :: S) σ Q := by
  subst hp; exact e_stp hd rfl rfl (by simp only [stp, hc, and_self, if_true]) K
theorem e_pop {v : AV} (hd : decode mr.2.1 pc = .ok (.pop, 1)) (hp : pc + 1 = pc') (hc : cat v = 1) (K : Ev X c s d mr pc' L S σ Q) : Ev X c s d mr pc L (v :: S) σ Q := by
  subst hp; exact e_stp hd rfl rfl (by simp only [stp, hc, if_true]) K
end EV
end
section
section EVM
variable {X : AX} {c s d : Nat} {mr : MRec} {pc pc' : Nat} {L L' : AL} {S S' : List AV} {σ σ' : SG} {Q : Option AV → SG → Prop}
theorem o_get {q ci : Nat} {fs : List (Nat ⊕ AV)} (h : shp[q]? = some (.inr (ci, fs))) : (mem σ)[q]? = some (.inr (ci, fs.mapIdx (entF σ q))) := mem_get h
theorem a_get {q n : Nat} (h : shp[q]? = some (.inl (0, n, none))) : (mem σ)[q]? = some (.inl (0, n, .inl (σ.1 q))) := mem_get h
theorem z_get {q n : Nat} (h : shp[q]? = some (.inl (2, n, none))) : (mem σ)[q]? = some (.inl (2, n, .inl (σ.1 q))) := mem_get h
theorem l_get {q n : Nat} (h : shp[q]? = some (.inl (1, n, none))) : (mem σ)[q]? = some (.inl (1, n, .inr (.inl (σ.2 q)))) := mem_get h
theorem r_get {q t n : Nat} {f : Int → Option Nat} (h : shp[q]? = some (.inl (t, n, some f))) : (mem σ)[q]? = some (.inl (t, n, .inr (.inr f))) := by
  have := mem_get (σ := σ) h
  rw [show mem σ = memS shp σ from rfl, this]
  unfold ent
  split
  · next h => cases h
  · next h => cases h
  · next h => cases h; rfl
  · next h => cases h
theorem e_getI {k q ci j : Nat} {fs : List (Nat ⊕ AV)} {v : Int} (hd : decode mr.2.1 pc = .ok (.getfield k, 3)) (hp : pc + 3 = pc') (hf : fld mr.2.2.2.2.2.2 k = some (ci, j)) (ho : shp[q]? = some (.inr (ci, fs))) (hj : fs[j]? = some (.inl 0)) (hv : σ.1 q j = v) (K : Ev X c s d mr pc' L (iv v :: S) σ Q) : Ev X c s d mr pc L (rv q :: S) σ Q := by
  subst hp; subst hv
  exact e_stp hd rfl rfl (by simp only [stp, hf, o_get ho, if_true, List.getElem?_mapIdx, hj, Option.map_some, entF]) K
theorem e_getJ {k q ci j : Nat} {fs : List (Nat ⊕ AV)} {v : Int64} (hd : decode mr.2.1 pc = .ok (.getfield k, 3)) (hp : pc + 3 = pc') (hf : fld mr.2.2.2.2.2.2 k = some (ci, j)) (ho : shp[q]? = some (.inr (ci, fs))) (hj : fs[j]? = some (.inl 1)) (hv : σ.2 q j = v) (K : Ev X c s d mr pc' L (jv v :: S) σ Q) : Ev X c s d mr pc L (rv q :: S) σ Q := by
  subst hp; subst hv
  exact e_stp hd rfl rfl (by simp only [stp, hf, o_get ho, if_true, List.getElem?_mapIdx, hj, Option.map_some, entF]) K
theorem e_getR {k q ci j : Nat} {fs : List (Nat ⊕ AV)} {v : AV} (hd : decode mr.2.1 pc = .ok (.getfield k, 3)) (hp : pc + 3 = pc') (hf : fld mr.2.2.2.2.2.2 k = some (ci, j)) (ho : shp[q]? = some (.inr (ci, fs))) (hj : fs[j]? = some (.inr v)) (K : Ev X c s d mr pc' L (v :: S) σ Q) : Ev X c s d mr pc L (rv q :: S) σ Q := by
  subst hp
  exact e_stp hd rfl rfl (by simp only [stp, hf, o_get ho, if_true, List.getElem?_mapIdx, hj, Option.map_some, entF]) K
theorem e_putI {k q ci j : Nat} {fs : List (Nat ⊕ AV)} {v : Int} (hd : decode mr.2.1 pc = .ok (.putfield k, 3)) (hp : pc + 3 = pc') (hf : fld mr.2.2.2.2.2.2 k = some (ci, j)) (ho : shp[q]? = some (.inr (ci, fs))) (hj : fs[j]? = some (.inl 0)) (hok : okv (tyT ci j) (iv v) = true) (hfin : finT ci j = false) (K : Ev X c s d mr pc' L S (upI σ q j v) Q) : Ev X c s d mr pc L (iv v :: rv q :: S) σ Q := by
  subst hp
  have hl : j < fs.length := (List.getElem?_eq_some_iff.mp hj).1
  refine e_stp hd rfl rfl ?_ K
  simp only [stp, hf, o_get ho, List.length_mapIdx, hl, hok, hfin, Bool.false_eq_true, false_implies, and_self, if_true]
  rw [show mem σ = memS shp σ from rfl, mem_setF ho hj]
  rfl
theorem e_putJ {k q ci j : Nat} {fs : List (Nat ⊕ AV)} {v : Int64} (hd : decode mr.2.1 pc = .ok (.putfield k, 3)) (hp : pc + 3 = pc') (hf : fld mr.2.2.2.2.2.2 k = some (ci, j)) (ho : shp[q]? = some (.inr (ci, fs))) (hj : fs[j]? = some (.inl 1)) (hok : okv (tyT ci j) (jv v) = true) (hfin : finT ci j = false) (K : Ev X c s d mr pc' L S (upJ σ q j v) Q) : Ev X c s d mr pc L (jv v :: rv q :: S) σ Q := by
  subst hp
  have hl : j < fs.length := (List.getElem?_eq_some_iff.mp hj).1
  refine e_stp hd rfl rfl ?_ K
  simp only [stp, hf, o_get ho, List.length_mapIdx, hl, hok, hfin, Bool.false_eq_true, false_implies, and_self, if_true]
  rw [show mem σ = memS shp σ from rfl, mem_setFJ ho hj]
  rfl
theorem e_stat {k : Nat} (hd : decode mr.2.1 pc = .ok (.getstatic k, 3)) (hp : pc + 3 = pc') (h9 : mr.2.2.2.2.2.2 = 9) (hk : k = 41) (K : Ev X c s d mr pc' L (sv 1 :: S) σ Q) : Ev X c s d mr pc L S σ Q := by
  subst hp; exact e_stp hd rfl rfl (by simp only [stp, h9, hk, and_self, if_true]) K
theorem inA_of {i : Int} {n : Nat} (h0 : 0 ≤ i) (h1 : i < n) (h2 : n < 2147483648) : inA i n = true := by
  simp only [inA, decide_eq_true_eq]; exact ⟨h0, h1, h2⟩
theorem e_iald {q n : Nat} {i v : Int} (hd : decode mr.2.1 pc = .ok (.iaload, 1)) (hp : pc + 1 = pc') (ha : shp[q]? = some (.inl (0, n, none))) (hn : n < 2147483648) (h0 : 0 ≤ i) (h1 : i < n) (hv : σ.1 q i = v) (K : Ev X c s d mr pc' L (iv v :: S) σ Q) : Ev X c s d mr pc L (iv i :: rv q :: S) σ Q := by
  subst hp; subst hv
  exact e_stp hd rfl rfl (by simp only [stp, a_get ha, inA_of h0 h1 hn, if_true]) K
theorem e_bald {q n : Nat} {i v : Int} (hd : decode mr.2.1 pc = .ok (.baload, 1)) (hp : pc + 1 = pc') (ha : shp[q]? = some (.inl (2, n, none))) (hn : n < 2147483648) (h0 : 0 ≤ i) (h1 : i < n) (hv : σ.1 q i = v) (K : Ev X c s d mr pc' L (iv v :: S) σ Q) : Ev X c s d mr pc L (iv i :: rv q :: S) σ Q := by
  subst hp; subst hv
  exact e_stp hd rfl rfl (by simp only [stp, z_get ha, inA_of h0 h1 hn, if_true]) K
theorem e_lald {q n : Nat} {i : Int} {v : Int64} (hd : decode mr.2.1 pc = .ok (.laload, 1)) (hp : pc + 1 = pc') (ha : shp[q]? = some (.inl (1, n, none))) (hn : n < 2147483648) (h0 : 0 ≤ i) (h1 : i < n) (hv : σ.2 q i = v) (K : Ev X c s d mr pc' L (jv v :: S) σ Q) : Ev X c s d mr pc L (iv i :: rv q :: S) σ Q := by
  subst hp; subst hv
  exact e_stp hd rfl rfl (by simp only [stp, l_get ha, inA_of h0 h1 hn, if_true]) K
theorem e_aald {q t n k : Nat} {f : Int → Option Nat} {i : Int} (hd : decode mr.2.1 pc = .ok (.aaload, 1)) (hp : pc + 1 = pc') (ha : shp[q]? = some (.inl (t, n, some f))) (ht : t = 3 ∨ t = 4) (hn : n < 2147483648) (h0 : 0 ≤ i) (h1 : i < n) (hv : f i = some k) (K : Ev X c s d mr pc' L (rv k :: S) σ Q) : Ev X c s d mr pc L (iv i :: rv q :: S) σ Q := by
  subst hp
  exact e_stp hd rfl rfl (by simp only [stp, r_get ha, inA_of h0 h1 hn, ht, and_self, if_true, hv, Option.map_some]) K
theorem e_root {i : Int} (hd : decode mr.2.1 pc = .ok (.iaload, 1)) (hp : pc + 1 = pc') (h0 : 0 ≤ i) (h1 : i < 13) (K : Ev X c s d mr pc' L (iv (rootZ i) :: S) σ Q) : Ev X c s d mr pc L (iv i :: sv 1 :: S) σ Q := by
  subst hp
  exact e_stp hd rfl rfl (by simp only [stp, inA_of (n := 13) h0 h1 (by decide), if_true]) K
theorem e_sld {i : Int} (hd : decode mr.2.1 pc = .ok (.iaload, 1)) (hp : pc + 1 = pc') (hn : X.1 < 2147483648) (h0 : 0 ≤ i) (h1 : i < X.1) (K : Ev X c s d mr pc' L (iv (X.2 i.toNat).toInt :: S) σ Q) : Ev X c s d mr pc L (iv i :: sv 2 :: S) σ Q := by
  subst hp
  exact e_stp hd rfl rfl (by simp only [stp, inA_of h0 h1 hn, if_true]) K
theorem e_slen (hd : decode mr.2.1 pc = .ok (.arraylength, 1)) (hp : pc + 1 = pc') (hn : X.1 < 2147483648) (K : Ev X c s d mr pc' L (iv X.1 :: S) σ Q) : Ev X c s d mr pc L (sv 2 :: S) σ Q := by
  subst hp
  have e1 : (Int32.ofNat X.1).toInt = X.1 := nI_toInt hn
  rw [← e1] at K
  exact e_stp hd rfl rfl rfl K
theorem e_iast {q n : Nat} {i v : Int} (hd : decode mr.2.1 pc = .ok (.iastore, 1)) (hp : pc + 1 = pc') (ha : shp[q]? = some (.inl (0, n, none))) (hn : n < 2147483648) (h0 : 0 ≤ i) (h1 : i < n) (K : Ev X c s d mr pc' L S (upI σ q i v) Q) : Ev X c s d mr pc L (iv v :: iv i :: rv q :: S) σ Q := by
  subst hp
  refine e_stp hd rfl rfl ?_ K
  simp only [stp, a_get ha, inA_of h0 h1 hn, if_true]
  rw [show mem σ = memS shp σ from rfl, mem_setA (by decide) ha]
  rfl
theorem e_bast {q n : Nat} {i v : Int} (hd : decode mr.2.1 pc = .ok (.bastore, 1)) (hp : pc + 1 = pc') (ha : shp[q]? = some (.inl (2, n, none))) (hn : n < 2147483648) (h0 : 0 ≤ i) (h1 : i < n) (hv : v = 0 ∨ v = 1) (K : Ev X c s d mr pc' L S (upI σ q i v) Q) : Ev X c s d mr pc L (iv v :: iv i :: rv q :: S) σ Q := by
  subst hp
  refine e_stp hd rfl rfl ?_ K
  simp only [stp, z_get ha, inA_of h0 h1 hn, hv, and_self, if_true]
  rw [show mem σ = memS shp σ from rfl, mem_setA (by decide) ha]
  rfl
theorem e_last {q n : Nat} {i : Int} {v : Int64} (hd : decode mr.2.1 pc = .ok (.lastore, 1)) (hp : pc + 1 = pc') (ha : shp[q]? = some (.inl (1, n, none))) (hn : n < 2147483648) (h0 : 0 ≤ i) (h1 : i < n) (K : Ev X c s d mr pc' L S (upJ σ q i v) Q) : Ev X c s d mr pc L (jv v :: iv i :: rv q :: S) σ Q := by
  subst hp
  refine e_stp hd rfl rfl ?_ K
  simp only [stp, l_get ha, inA_of h0 h1 hn, if_true]
  rw [show mem σ = memS shp σ from rfl, mem_setL ha]
  rfl
theorem e_max {k pp : Nat} {x y : Int} {dd : Nat} (hd : decode mr.2.1 pc = .ok (.invokestatic k, 3)) (hp : pc + 3 = pc') (hs : sp mr.2.2.2.2.2.2 k = some (8, pp)) (hx : rg x) (hy : rg y) (hr : (S.map cat).sum ≤ 8) (hc : c ≤ mr.2.2.2.2.1 ∧ s ≤ mr.2.2.2.2.2.1) (K : Ev X c s (dd + 1) mr pc' L (iv (max x y) :: S) σ Q) : Ev X c s (dd + 1) mr pc L (iv y :: iv x :: S) σ Q := by
  subst hp
  have e1 : (if Int32.ofInt x < Int32.ofInt y then y else x) = max x y := by
    rw [Int.max_def]
    by_cases h : x < y
    · rw [if_pos ((rg_lt hx hy).mpr h), if_pos (by omega)]
    · rw [if_neg (fun q => h ((rg_lt hx hy).mp q))]
      split <;> omega
  rw [← e1] at K
  exact e_stp hd rfl rfl (by simp only [stp, hs, hr, hc, Nat.le_add_left, and_self, if_true]) K
theorem e_min {k pp : Nat} {x y : Int} {dd : Nat} (hd : decode mr.2.1 pc = .ok (.invokestatic k, 3)) (hp : pc + 3 = pc') (hs : sp mr.2.2.2.2.2.2 k = some (9, pp)) (hx : rg x) (hy : rg y) (hr : (S.map cat).sum ≤ 8) (hc : c ≤ mr.2.2.2.2.1 ∧ s ≤ mr.2.2.2.2.2.1) (K : Ev X c s (dd + 1) mr pc' L (iv (min x y) :: S) σ Q) : Ev X c s (dd + 1) mr pc L (iv y :: iv x :: S) σ Q := by
  subst hp
  have e1 : (if Int32.ofInt y < Int32.ofInt x then y else x) = min x y := by
    rw [Int.min_def]
    by_cases h : y < x
    · rw [if_pos ((rg_lt hy hx).mpr h), if_neg (by omega)]
    · rw [if_neg (fun q => h ((rg_lt hy hx).mp q))]
      split <;> omega
  rw [← e1] at K
  exact e_stp hd rfl rfl (by simp only [stp, hs, hr, hc, Nat.le_add_left, and_self, if_true]) K
theorem e_maxl {k pp : Nat} {x y : Int64} {dd : Nat} (hd : decode mr.2.1 pc = .ok (.invokestatic k, 3)) (hp : pc + 3 = pc') (hs : sp mr.2.2.2.2.2.2 k = some (10, pp)) (hr : (S.map cat).sum ≤ 8) (hc : c ≤ mr.2.2.2.2.1 ∧ s ≤ mr.2.2.2.2.2.1) (K : Ev X c s (dd + 1) mr pc' L (jv (if y < x then x else y) :: S) σ Q) : Ev X c s (dd + 1) mr pc L (jv y :: jv x :: S) σ Q := by
  subst hp
  exact e_stp hd rfl rfl (by simp only [stp, hs, hr, hc, Nat.le_add_left, and_self, if_true]) K
theorem e_minl {k pp : Nat} {x y : Int64} {dd : Nat} (hd : decode mr.2.1 pc = .ok (.invokestatic k, 3)) (hp : pc + 3 = pc') (hs : sp mr.2.2.2.2.2.2 k = some (11, pp)) (hr : (S.map cat).sum ≤ 8) (hc : c ≤ mr.2.2.2.2.1 ∧ s ≤ mr.2.2.2.2.2.1) (K : Ev X c s (dd + 1) mr pc' L (jv (if y < x then y else x) :: S) σ Q) : Ev X c s (dd + 1) mr pc L (jv y :: jv x :: S) σ Q := by
  subst hp
  exact e_stp hd rfl rfl (by simp only [stp, hs, hr, hc, Nat.le_add_left, and_self, if_true]) K
theorem e_copy {k pp q q0 n0 n1 dd : Nat} {n dp sp0 : Int} (hd : decode mr.2.1 pc = .ok (.invokestatic k, 3)) (hp : pc + 3 = pc') (hs : sp mr.2.2.2.2.2.2 k = some (7, pp)) (ha0 : shp[q0]? = some (.inl (0, n0, none))) (ha1 : shp[q]? = some (.inl (0, n1, none))) (hn : 0 ≤ n ∧ 0 ≤ dp ∧ 0 ≤ sp0 ∧ sp0 + n ≤ n0 ∧ dp + n ≤ n1 ∧ n0 < 2147483648 ∧ n1 < 2147483648) (hr : (S.map cat).sum ≤ 8) (K : Ev X c s (dd + 1) mr pc' L S (upC σ q (cpyA (σ.1 q0) (σ.1 q) sp0 dp n)) Q) : Ev X c s (dd + 1) mr pc L (iv n :: iv dp :: rv q :: iv sp0 :: rv q0 :: S) σ Q := by
  subst hp
  refine e_stp hd rfl rfl ?_ K
  simp only [stp, hs, a_get ha0, a_get ha1, hn, hr, Nat.le_add_left, and_self, if_true]
  rw [show mem σ = memS shp σ from rfl, mem_setC ha1]
  rfl
theorem e_ret {ins : Instr} {len : Nat} {v : Option AV} (hd : decode mr.2.1 pc = .ok (ins, len)) (hlen : lenOK ins len = true) (hr : rtn mr ins S = some v) (hc : c = mr.2.2.2.2.1 ∧ s ≤ mr.2.2.2.2.2.1) (q : Q v σ) : Ev X c s d mr pc L S σ Q := by
  refine ⟨1, v, σ, ?_, q⟩
  unfold run
  rw [hd]
  simp only [hlen, if_true, hr, hc, and_self]
theorem e_iret {z : Int} (hd : decode mr.2.1 pc = .ok (.ireturn, 1)) (hr : mr.2.2.2.1 = some .int) (hc : c = mr.2.2.2.2.1 ∧ s ≤ mr.2.2.2.2.2.1) (q : Q (some (iv z)) σ) : Ev X c s d mr pc L [iv z] σ Q := e_ret hd rfl (by simp only [rtn, hr]) hc q
theorem e_zret {z : Int} (hd : decode mr.2.1 pc = .ok (.ireturn, 1)) (hr : mr.2.2.2.1 = some .boolean) (hz : z = 0 ∨ z = 1) (hc : c = mr.2.2.2.2.1 ∧ s ≤ mr.2.2.2.2.2.1) (q : Q (some (iv z)) σ) : Ev X c s d mr pc L [iv z] σ Q := e_ret hd rfl (by simp only [rtn, hr, hz, if_true]) hc q
theorem e_lret {z : Int64} (hd : decode mr.2.1 pc = .ok (.lreturn, 1)) (hr : mr.2.2.2.1 = some .long) (hc : c = mr.2.2.2.2.1 ∧ s ≤ mr.2.2.2.2.2.1) (q : Q (some (jv z)) σ) : Ev X c s d mr pc L [jv z] σ Q := e_ret hd rfl (by simp only [rtn, hr]) hc q
theorem e_vret (hd : decode mr.2.1 pc = .ok (.return_, 1)) (hr : mr.2.2.2.1 = none) (hc : c = mr.2.2.2.2.1 ∧ s ≤ mr.2.2.2.2.2.1) (q : Q none σ) : Ev X c s d mr pc L [] σ Q := e_ret hd rfl (by simp only [rtn, hr]) hc q
theorem e_call {dd : Nat} {ins : Instr} {len : Nat} {mr' : MRec} {As r : List AV} {Qc : Option AV → SG → Prop} (hd : decode mr.2.1 pc = .ok (ins, len)) (hlen : lenOK ins len = true) (hp : pc + 3 = pc') (hr : rtn mr ins S = none) (hs : stp X mr (dd + 1) ins pc L S (mem σ) c s = none) (hc : cal mr ins S (mem σ) = some (mr', As, r)) (hL : argL As mr'.2.2.1 = L') (hl2 : L'.length = mr'.2.2.1) (h0 : mr'.2.2.2.2.1 = 0 ∧ mr'.2.2.2.2.2.1 = 0) (hcc : c ≤ mr.2.2.2.2.1 ∧ s ≤ mr.2.2.2.2.2.1) (E : Ev X 0 0 dd mr' 0 L' [] σ Qc) (K : ∀ v σ', Qc v σ' → Ev X c s (dd + 1) mr pc' L (v.toList ++ r) σ' Q) : Ev X c s (dd + 1) mr pc L S σ Q := by
  subst hp
  obtain ⟨n1, v, σ1, h1, q1⟩ := E
  obtain ⟨n2, w, σ2, h2, q2⟩ := K v σ1 q1
  refine ⟨max n1 n2 + 1, w, σ2, ?_, q2⟩
  unfold run
  rw [hd]
  simp only [hlen, if_true, hr, hs, hc, hL, hl2, h0, Nat.add_zero, hcc, and_self]
  rw [run_mono n1 h1 (Nat.le_max_left _ _)]
  exact run_mono n2 h2 (Nat.le_max_right _ _)
end EVM
end
section
section EVC
variable {X : AX} {c s d : Nat} {mr : MRec} {pc pc' : Nat} {L L' : AL} {S : List AV} {σ : SG} {Q : Option AV → SG → Prop}
theorem e_cv0 {dd k q ci i1 i2 : Nat} {ps : List Nat} {fs : List (Nat ⊕ AV)} {mr' : MRec} {Qc : Option AV → SG → Prop} (hd : decode mr.2.1 pc = .ok (.invokevirtual k, 3)) (hp : pc + 3 = pc') (hm : ml mr.2.2.2.2.2.2 k = some (i1, i2, 0, 0, mr', ps)) (ho : shp[q]? = some (.inr (ci, fs))) (hci : ci = mr'.2.2.2.2.2.2) (hr : (S.map cat).sum ≤ 8) (hL : argL [rv q] mr'.2.2.1 = L') (hl2 : L'.length = mr'.2.2.1) (h0 : mr'.2.2.2.2.1 = 0 ∧ mr'.2.2.2.2.2.1 = 0) (hcc : c ≤ mr.2.2.2.2.1 ∧ s ≤ mr.2.2.2.2.2.1) (E : Ev X 0 0 dd mr' 0 L' [] σ Qc) (K : ∀ v σ', Qc v σ' → Ev X c s (dd + 1) mr pc' L (v.toList ++ S) σ' Q) : Ev X c s (dd + 1) mr pc L (rv q :: S) σ Q := by
  refine e_call hd rfl hp rfl rfl ?_ hL hl2 h0 hcc E K
  simp only [cal, hm, List.drop_succ_cons, List.drop_zero, o_get ho, hci, List.take_succ_cons, List.take_zero, List.length_cons, List.length_nil, hr, and_self, if_true, List.reverse_cons, List.reverse_nil, List.nil_append, List.cons_append]
theorem e_cs0 {dd k i1 i2 : Nat} {ps : List Nat} {mr' : MRec} {Qc : Option AV → SG → Prop} (hd : decode mr.2.1 pc = .ok (.invokestatic k, 3)) (hp : pc + 3 = pc') (hsp : sp mr.2.2.2.2.2.2 k = none) (hm : ml mr.2.2.2.2.2.2 k = some (i1, i2, 2, 0, mr', ps)) (hr : (S.map cat).sum ≤ 8) (hL : argL [] mr'.2.2.1 = L') (hl2 : L'.length = mr'.2.2.1) (h0 : mr'.2.2.2.2.1 = 0 ∧ mr'.2.2.2.2.2.1 = 0) (hcc : c ≤ mr.2.2.2.2.1 ∧ s ≤ mr.2.2.2.2.2.1) (E : Ev X 0 0 dd mr' 0 L' [] σ Qc) (K : ∀ v σ', Qc v σ' → Ev X c s (dd + 1) mr pc' L (v.toList ++ S) σ' Q) : Ev X c s (dd + 1) mr pc L (S) σ Q := by
  refine e_call hd rfl hp rfl (by simp only [stp, hsp]) ?_ hL hl2 h0 hcc E K
  simp only [cal, hm, List.drop_succ_cons, List.drop_zero, List.take_succ_cons, List.take_zero, List.length_cons, List.length_nil, hr, and_self, if_true, List.reverse_cons, List.reverse_nil, List.nil_append, List.cons_append]
theorem e_cv1 {dd k q ci i1 i2 : Nat} {ps : List Nat} {fs : List (Nat ⊕ AV)} {mr' : MRec} {a1 : AV} {Qc : Option AV → SG → Prop} (hd : decode mr.2.1 pc = .ok (.invokevirtual k, 3)) (hp : pc + 3 = pc') (hm : ml mr.2.2.2.2.2.2 k = some (i1, i2, 0, 1, mr', ps)) (ho : shp[q]? = some (.inr (ci, fs))) (hci : ci = mr'.2.2.2.2.2.2) (hr : (S.map cat).sum ≤ 8) (hL : argL [rv q, a1] mr'.2.2.1 = L') (hl2 : L'.length = mr'.2.2.1) (h0 : mr'.2.2.2.2.1 = 0 ∧ mr'.2.2.2.2.2.1 = 0) (hcc : c ≤ mr.2.2.2.2.1 ∧ s ≤ mr.2.2.2.2.2.1) (E : Ev X 0 0 dd mr' 0 L' [] σ Qc) (K : ∀ v σ', Qc v σ' → Ev X c s (dd + 1) mr pc' L (v.toList ++ S) σ' Q) : Ev X c s (dd + 1) mr pc L (a1 :: rv q :: S) σ Q := by
  refine e_call hd rfl hp rfl rfl ?_ hL hl2 h0 hcc E K
  simp only [cal, hm, List.drop_succ_cons, List.drop_zero, o_get ho, hci, List.take_succ_cons, List.take_zero, List.length_cons, List.length_nil, hr, and_self, if_true, List.reverse_cons, List.reverse_nil, List.nil_append, List.cons_append]
theorem e_cs1 {dd k i1 i2 : Nat} {ps : List Nat} {mr' : MRec} {a1 : AV} {Qc : Option AV → SG → Prop} (hd : decode mr.2.1 pc = .ok (.invokestatic k, 3)) (hp : pc + 3 = pc') (hsp : sp mr.2.2.2.2.2.2 k = none) (hm : ml mr.2.2.2.2.2.2 k = some (i1, i2, 2, 1, mr', ps)) (hr : (S.map cat).sum ≤ 8) (hL : argL [a1] mr'.2.2.1 = L') (hl2 : L'.length = mr'.2.2.1) (h0 : mr'.2.2.2.2.1 = 0 ∧ mr'.2.2.2.2.2.1 = 0) (hcc : c ≤ mr.2.2.2.2.1 ∧ s ≤ mr.2.2.2.2.2.1) (E : Ev X 0 0 dd mr' 0 L' [] σ Qc) (K : ∀ v σ', Qc v σ' → Ev X c s (dd + 1) mr pc' L (v.toList ++ S) σ' Q) : Ev X c s (dd + 1) mr pc L (a1 :: S) σ Q := by
  refine e_call hd rfl hp rfl (by simp only [stp, hsp]) ?_ hL hl2 h0 hcc E K
  simp only [cal, hm, List.drop_succ_cons, List.drop_zero, List.take_succ_cons, List.take_zero, List.length_cons, List.length_nil, hr, and_self, if_true, List.reverse_cons, List.reverse_nil, List.nil_append, List.cons_append]
theorem e_cv2 {dd k q ci i1 i2 : Nat} {ps : List Nat} {fs : List (Nat ⊕ AV)} {mr' : MRec} {a1 a2 : AV} {Qc : Option AV → SG → Prop} (hd : decode mr.2.1 pc = .ok (.invokevirtual k, 3)) (hp : pc + 3 = pc') (hm : ml mr.2.2.2.2.2.2 k = some (i1, i2, 0, 2, mr', ps)) (ho : shp[q]? = some (.inr (ci, fs))) (hci : ci = mr'.2.2.2.2.2.2) (hr : (S.map cat).sum ≤ 8) (hL : argL [rv q, a1, a2] mr'.2.2.1 = L') (hl2 : L'.length = mr'.2.2.1) (h0 : mr'.2.2.2.2.1 = 0 ∧ mr'.2.2.2.2.2.1 = 0) (hcc : c ≤ mr.2.2.2.2.1 ∧ s ≤ mr.2.2.2.2.2.1) (E : Ev X 0 0 dd mr' 0 L' [] σ Qc) (K : ∀ v σ', Qc v σ' → Ev X c s (dd + 1) mr pc' L (v.toList ++ S) σ' Q) : Ev X c s (dd + 1) mr pc L (a2 :: a1 :: rv q :: S) σ Q := by
  refine e_call hd rfl hp rfl rfl ?_ hL hl2 h0 hcc E K
  simp only [cal, hm, List.drop_succ_cons, List.drop_zero, o_get ho, hci, List.take_succ_cons, List.take_zero, List.length_cons, List.length_nil, hr, and_self, if_true, List.reverse_cons, List.reverse_nil, List.nil_append, List.cons_append]
theorem e_cs2 {dd k i1 i2 : Nat} {ps : List Nat} {mr' : MRec} {a1 a2 : AV} {Qc : Option AV → SG → Prop} (hd : decode mr.2.1 pc = .ok (.invokestatic k, 3)) (hp : pc + 3 = pc') (hsp : sp mr.2.2.2.2.2.2 k = none) (hm : ml mr.2.2.2.2.2.2 k = some (i1, i2, 2, 2, mr', ps)) (hr : (S.map cat).sum ≤ 8) (hL : argL [a1, a2] mr'.2.2.1 = L') (hl2 : L'.length = mr'.2.2.1) (h0 : mr'.2.2.2.2.1 = 0 ∧ mr'.2.2.2.2.2.1 = 0) (hcc : c ≤ mr.2.2.2.2.1 ∧ s ≤ mr.2.2.2.2.2.1) (E : Ev X 0 0 dd mr' 0 L' [] σ Qc) (K : ∀ v σ', Qc v σ' → Ev X c s (dd + 1) mr pc' L (v.toList ++ S) σ' Q) : Ev X c s (dd + 1) mr pc L (a2 :: a1 :: S) σ Q := by
  refine e_call hd rfl hp rfl (by simp only [stp, hsp]) ?_ hL hl2 h0 hcc E K
  simp only [cal, hm, List.drop_succ_cons, List.drop_zero, List.take_succ_cons, List.take_zero, List.length_cons, List.length_nil, hr, and_self, if_true, List.reverse_cons, List.reverse_nil, List.nil_append, List.cons_append]
theorem e_cv3 {dd k q ci i1 i2 : Nat} {ps : List Nat} {fs : List (Nat ⊕ AV)} {mr' : MRec} {a1 a2 a3 : AV} {Qc : Option AV → SG → Prop} (hd : decode mr.2.1 pc = .ok (.invokevirtual k, 3)) (hp : pc + 3 = pc') (hm : ml mr.2.2.2.2.2.2 k = some (i1, i2, 0, 3, mr', ps)) (ho : shp[q]? = some (.inr (ci, fs))) (hci : ci = mr'.2.2.2.2.2.2) (hr : (S.map cat).sum ≤ 8) (hL : argL [rv q, a1, a2, a3] mr'.2.2.1 = L') (hl2 : L'.length = mr'.2.2.1) (h0 : mr'.2.2.2.2.1 = 0 ∧ mr'.2.2.2.2.2.1 = 0) (hcc : c ≤ mr.2.2.2.2.1 ∧ s ≤ mr.2.2.2.2.2.1) (E : Ev X 0 0 dd mr' 0 L' [] σ Qc) (K : ∀ v σ', Qc v σ' → Ev X c s (dd + 1) mr pc' L (v.toList ++ S) σ' Q) : Ev X c s (dd + 1) mr pc L (a3 :: a2 :: a1 :: rv q :: S) σ Q := by
  refine e_call hd rfl hp rfl rfl ?_ hL hl2 h0 hcc E K
  simp only [cal, hm, List.drop_succ_cons, List.drop_zero, o_get ho, hci, List.take_succ_cons, List.take_zero, List.length_cons, List.length_nil, hr, and_self, if_true, List.reverse_cons, List.reverse_nil, List.nil_append, List.cons_append]
theorem e_cs3 {dd k i1 i2 : Nat} {ps : List Nat} {mr' : MRec} {a1 a2 a3 : AV} {Qc : Option AV → SG → Prop} (hd : decode mr.2.1 pc = .ok (.invokestatic k, 3)) (hp : pc + 3 = pc') (hsp : sp mr.2.2.2.2.2.2 k = none) (hm : ml mr.2.2.2.2.2.2 k = some (i1, i2, 2, 3, mr', ps)) (hr : (S.map cat).sum ≤ 8) (hL : argL [a1, a2, a3] mr'.2.2.1 = L') (hl2 : L'.length = mr'.2.2.1) (h0 : mr'.2.2.2.2.1 = 0 ∧ mr'.2.2.2.2.2.1 = 0) (hcc : c ≤ mr.2.2.2.2.1 ∧ s ≤ mr.2.2.2.2.2.1) (E : Ev X 0 0 dd mr' 0 L' [] σ Qc) (K : ∀ v σ', Qc v σ' → Ev X c s (dd + 1) mr pc' L (v.toList ++ S) σ' Q) : Ev X c s (dd + 1) mr pc L (a3 :: a2 :: a1 :: S) σ Q := by
  refine e_call hd rfl hp rfl (by simp only [stp, hsp]) ?_ hL hl2 h0 hcc E K
  simp only [cal, hm, List.drop_succ_cons, List.drop_zero, List.take_succ_cons, List.take_zero, List.length_cons, List.length_nil, hr, and_self, if_true, List.reverse_cons, List.reverse_nil, List.nil_append, List.cons_append]
theorem e_cv4 {dd k q ci i1 i2 : Nat} {ps : List Nat} {fs : List (Nat ⊕ AV)} {mr' : MRec} {a1 a2 a3 a4 : AV} {Qc : Option AV → SG → Prop} (hd : decode mr.2.1 pc = .ok (.invokevirtual k, 3)) (hp : pc + 3 = pc') (hm : ml mr.2.2.2.2.2.2 k = some (i1, i2, 0, 4, mr', ps)) (ho : shp[q]? = some (.inr (ci, fs))) (hci : ci = mr'.2.2.2.2.2.2) (hr : (S.map cat).sum ≤ 8) (hL : argL [rv q, a1, a2, a3, a4] mr'.2.2.1 = L') (hl2 : L'.length = mr'.2.2.1) (h0 : mr'.2.2.2.2.1 = 0 ∧ mr'.2.2.2.2.2.1 = 0) (hcc : c ≤ mr.2.2.2.2.1 ∧ s ≤ mr.2.2.2.2.2.1) (E : Ev X 0 0 dd mr' 0 L' [] σ Qc) (K : ∀ v σ', Qc v σ' → Ev X c s (dd + 1) mr pc' L (v.toList ++ S) σ' Q) : Ev X c s (dd + 1) mr pc L (a4 :: a3 :: a2 :: a1 :: rv q :: S) σ Q := by
  refine e_call hd rfl hp rfl rfl ?_ hL hl2 h0 hcc E K
  simp only [cal, hm, List.drop_succ_cons, List.drop_zero, o_get ho, hci, List.take_succ_cons, List.take_zero, List.length_cons, List.length_nil, hr, and_self, if_true, List.reverse_cons, List.reverse_nil, List.nil_append, List.cons_append]
theorem e_cs4 {dd k i1 i2 : Nat} {ps : List Nat} {mr' : MRec} {a1 a2 a3 a4 : AV} {Qc : Option AV → SG → Prop} (hd : decode mr.2.1 pc = .ok (.invokestatic k, 3)) (hp : pc + 3 = pc') (hsp : sp mr.2.2.2.2.2.2 k = none) (hm : ml mr.2.2.2.2.2.2 k = some (i1, i2, 2, 4, mr', ps)) (hr : (S.map cat).sum ≤ 8) (hL : argL [a1, a2, a3, a4] mr'.2.2.1 = L') (hl2 : L'.length = mr'.2.2.1) (h0 : mr'.2.2.2.2.1 = 0 ∧ mr'.2.2.2.2.2.1 = 0) (hcc : c ≤ mr.2.2.2.2.1 ∧ s ≤ mr.2.2.2.2.2.1) (E : Ev X 0 0 dd mr' 0 L' [] σ Qc) (K : ∀ v σ', Qc v σ' → Ev X c s (dd + 1) mr pc' L (v.toList ++ S) σ' Q) : Ev X c s (dd + 1) mr pc L (a4 :: a3 :: a2 :: a1 :: S) σ Q := by
  refine e_call hd rfl hp rfl (by simp only [stp, hsp]) ?_ hL hl2 h0 hcc E K
  simp only [cal, hm, List.drop_succ_cons, List.drop_zero, List.take_succ_cons, List.take_zero, List.length_cons, List.length_nil, hr, and_self, if_true, List.reverse_cons, List.reverse_nil, List.nil_append, List.cons_append]
theorem e_cv5 {dd k q ci i1 i2 : Nat} {ps : List Nat} {fs : List (Nat ⊕ AV)} {mr' : MRec} {a1 a2 a3 a4 a5 : AV} {Qc : Option AV → SG → Prop} (hd : decode mr.2.1 pc = .ok (.invokevirtual k, 3)) (hp : pc + 3 = pc') (hm : ml mr.2.2.2.2.2.2 k = some (i1, i2, 0, 5, mr', ps)) (ho : shp[q]? = some (.inr (ci, fs))) (hci : ci = mr'.2.2.2.2.2.2) (hr : (S.map cat).sum ≤ 8) (hL : argL [rv q, a1, a2, a3, a4, a5] mr'.2.2.1 = L') (hl2 : L'.length = mr'.2.2.1) (h0 : mr'.2.2.2.2.1 = 0 ∧ mr'.2.2.2.2.2.1 = 0) (hcc : c ≤ mr.2.2.2.2.1 ∧ s ≤ mr.2.2.2.2.2.1) (E : Ev X 0 0 dd mr' 0 L' [] σ Qc) (K : ∀ v σ', Qc v σ' → Ev X c s (dd + 1) mr pc' L (v.toList ++ S) σ' Q) : Ev X c s (dd + 1) mr pc L (a5 :: a4 :: a3 :: a2 :: a1 :: rv q :: S) σ Q := by
  refine e_call hd rfl hp rfl rfl ?_ hL hl2 h0 hcc E K
  simp only [cal, hm, List.drop_succ_cons, List.drop_zero, o_get ho, hci, List.take_succ_cons, List.take_zero, List.length_cons, List.length_nil, hr, and_self, if_true, List.reverse_cons, List.reverse_nil, List.nil_append, List.cons_append]
theorem e_cs5 {dd k i1 i2 : Nat} {ps : List Nat} {mr' : MRec} {a1 a2 a3 a4 a5 : AV} {Qc : Option AV → SG → Prop} (hd : decode mr.2.1 pc = .ok (.invokestatic k, 3)) (hp : pc + 3 = pc') (hsp : sp mr.2.2.2.2.2.2 k = none) (hm : ml mr.2.2.2.2.2.2 k = some (i1, i2, 2, 5, mr', ps)) (hr : (S.map cat).sum ≤ 8) (hL : argL [a1, a2, a3, a4, a5] mr'.2.2.1 = L') (hl2 : L'.length = mr'.2.2.1) (h0 : mr'.2.2.2.2.1 = 0 ∧ mr'.2.2.2.2.2.1 = 0) (hcc : c ≤ mr.2.2.2.2.1 ∧ s ≤ mr.2.2.2.2.2.1) (E : Ev X 0 0 dd mr' 0 L' [] σ Qc) (K : ∀ v σ', Qc v σ' → Ev X c s (dd + 1) mr pc' L (v.toList ++ S) σ' Q) : Ev X c s (dd + 1) mr pc L (a5 :: a4 :: a3 :: a2 :: a1 :: S) σ Q := by
  refine e_call hd rfl hp rfl (by simp only [stp, hsp]) ?_ hL hl2 h0 hcc E K
  simp only [cal, hm, List.drop_succ_cons, List.drop_zero, List.take_succ_cons, List.take_zero, List.length_cons, List.length_nil, hr, and_self, if_true, List.reverse_cons, List.reverse_nil, List.nil_append, List.cons_append]
theorem e_cv6 {dd k q ci i1 i2 : Nat} {ps : List Nat} {fs : List (Nat ⊕ AV)} {mr' : MRec} {a1 a2 a3 a4 a5 a6 : AV} {Qc : Option AV → SG → Prop} (hd : decode mr.2.1 pc = .ok (.invokevirtual k, 3)) (hp : pc + 3 = pc') (hm : ml mr.2.2.2.2.2.2 k = some (i1, i2, 0, 6, mr', ps)) (ho : shp[q]? = some (.inr (ci, fs))) (hci : ci = mr'.2.2.2.2.2.2) (hr : (S.map cat).sum ≤ 8) (hL : argL [rv q, a1, a2, a3, a4, a5, a6] mr'.2.2.1 = L') (hl2 : L'.length = mr'.2.2.1) (h0 : mr'.2.2.2.2.1 = 0 ∧ mr'.2.2.2.2.2.1 = 0) (hcc : c ≤ mr.2.2.2.2.1 ∧ s ≤ mr.2.2.2.2.2.1) (E : Ev X 0 0 dd mr' 0 L' [] σ Qc) (K : ∀ v σ', Qc v σ' → Ev X c s (dd + 1) mr pc' L (v.toList ++ S) σ' Q) : Ev X c s (dd + 1) mr pc L (a6 :: a5 :: a4 :: a3 :: a2 :: a1 :: rv q :: S) σ Q := by
  refine e_call hd rfl hp rfl rfl ?_ hL hl2 h0 hcc E K
  simp only [cal, hm, List.drop_succ_cons, List.drop_zero, o_get ho, hci, List.take_succ_cons, List.take_zero, List.length_cons, List.length_nil, hr, and_self, if_true, List.reverse_cons, List.reverse_nil, List.nil_append, List.cons_append]
theorem e_cs6 {dd k i1 i2 : Nat} {ps : List Nat} {mr' : MRec} {a1 a2 a3 a4 a5 a6 : AV} {Qc : Option AV → SG → Prop} (hd : decode mr.2.1 pc = .ok (.invokestatic k, 3)) (hp : pc + 3 = pc') (hsp : sp mr.2.2.2.2.2.2 k = none) (hm : ml mr.2.2.2.2.2.2 k = some (i1, i2, 2, 6, mr', ps)) (hr : (S.map cat).sum ≤ 8) (hL : argL [a1, a2, a3, a4, a5, a6] mr'.2.2.1 = L') (hl2 : L'.length = mr'.2.2.1) (h0 : mr'.2.2.2.2.1 = 0 ∧ mr'.2.2.2.2.2.1 = 0) (hcc : c ≤ mr.2.2.2.2.1 ∧ s ≤ mr.2.2.2.2.2.1) (E : Ev X 0 0 dd mr' 0 L' [] σ Qc) (K : ∀ v σ', Qc v σ' → Ev X c s (dd + 1) mr pc' L (v.toList ++ S) σ' Q) : Ev X c s (dd + 1) mr pc L (a6 :: a5 :: a4 :: a3 :: a2 :: a1 :: S) σ Q := by
  refine e_call hd rfl hp rfl (by simp only [stp, hsp]) ?_ hL hl2 h0 hcc E K
  simp only [cal, hm, List.drop_succ_cons, List.drop_zero, List.take_succ_cons, List.take_zero, List.length_cons, List.length_nil, hr, and_self, if_true, List.reverse_cons, List.reverse_nil, List.nil_append, List.cons_append]
end EVC
end
section
def sc0 : Int → Int := fun j => if j = 8 then 10 else if j = 10 then 40 else 0
def rl0 : Int → Int := fun j => if j = 4 then 1 else 0
def i0L (k : Nat) : Int → Int := match k with
  | 1 => sc0 | 17 => sc0 | 56 => sc0 | 72 => sc0
  | 8 => rl0 | 11 => rl0 | 14 => rl0 | 24 => rl0 | 27 => rl0 | 30 => rl0 | 63 => rl0 | 66 => rl0 | 69 => rl0 | 79 => rl0 | 82 => rl0 | 85 => rl0
  | 88 => fun j => if j = 19 then -1 else if j = 20 then -1 else 0
  | 89 => updA (updA (fun _ => 0) 53 10) 55 40
  | _ => fun _ => 0
def σ0 : SG := (i0L, fun _ _ => 0)
set_option maxRecDepth 1000000 in
set_option maxHeartbeats 40000000 in
theorem gm_init (X : AX) (n : Nat) : run X (n + 300) 9 mX10_init 0 [some (rv 0), none] [] [.inr (10, dfl 10)] 0 0 = some (none, (mem σ0).take 88) := by
  rfl
end
section
set_option maxRecDepth 1000000 in
set_option maxHeartbeats 40000000 in
theorem md_init (X : AX) (n : Nat) : run X (n + 300) 9 mX11_init 0 [some (rv 88)] [] ((mem σ0).take 88 ++ [.inr (11, dfl 11)]) 0 0 = some (none, mem σ0) := by
  rfl
end
section
theorem run_next {X : AX} {n d : Nat} {mr : MRec} {pc : Nat} {L : AL} {S : List AV} {M : AM} {c s : Nat} {ins : Instr} {len : Nat} {pc' : Nat} {L' : AL} {S' : List AV} {M' : AM} {c' s' : Nat} (hd : decode mr.2.1 pc = .ok (ins, len)) (hlen : lenOK ins len = true) (hr : rtn mr ins S = none) (hs : stp X mr d ins pc L S M c s = some (pc', L', S', M', c', s')) : run X (n + 1) d mr pc L S M c s = run X n d mr pc' L' S' M' c' s' := by
  rw [run, hd]
  simp only [hlen, if_true, hr, hs]
theorem run_call {X : AX} {n d : Nat} {mr : MRec} {pc : Nat} {L : AL} {S : List AV} {M : AM} {c s : Nat} {ins : Instr} {len : Nat} {mr' : MRec} {As r : List AV} {v : Option AV} {M' : AM} (hd : decode mr.2.1 pc = .ok (ins, len)) (hlen : lenOK ins len = true) (hr : rtn mr ins S = none) (hs : stp X mr (d + 1) ins pc L S M c s = none) (hc : cal mr ins S M = some (mr', As, r)) (hk : (argL As mr'.2.2.1).length = mr'.2.2.1 ∧ c + mr'.2.2.2.2.1 ≤ mr.2.2.2.2.1 ∧ s + mr'.2.2.2.2.2.1 ≤ mr.2.2.2.2.2.1) (hrun : run X n d mr' 0 (argL As mr'.2.2.1) [] M 0 0 = some (v, M')) : run X (n + 1) (d + 1) mr pc L S M c s = run X n (d + 1) mr (pc + 3) L (v.toList ++ r) M' (c + mr'.2.2.2.2.1) (s + mr'.2.2.2.2.2.1) := by
  rw [run, hd]
  simp only [hlen, if_true, hr, hs, hc, hk, and_self, hrun]
theorem stp_new {X : AX} {mr : MRec} {d k pc : Nat} {L : AL} {S : List AV} {M : AM} {c s ci m : Nat} (hn : nwc mr.2.2.2.2.2.2 k = some ci) (hm : M.length = m) (hb : c + 1 ≤ mr.2.2.2.2.1 ∧ s + fszT ci ≤ mr.2.2.2.2.2.1) : stp X mr d (.new k) pc L S M c s = some (pc + 3, L, rv m :: S, M ++ [.inr (ci, dfl ci)], c + 1, s + fszT ci) := by
  subst hm
  simp only [stp, hn, hb, and_self, if_true]
set_option maxRecDepth 100000 in
theorem law_s1 (X : AX) (n : Nat) : run X (n + 310) 10 mL_law 0 (argL [sv 2] 4) [] [] 0 0 = run X (n + 308) 10 mL_law 4 [some (sv 2), none, none, none] [rv 0, rv 0] [.inr (10, dfl 10)] 1 12 := by
  rw [run_next (n := n + 309) (pc' := 3) (L' := [some (sv 2), none, none, none]) (S' := [rv 0]) (M' := [.inr (10, dfl 10)]) (c' := 1) (s' := 12) dL_law_0 rfl rfl (stp_new rfl rfl (by decide))]
  rw [run_next (n := n + 308) (pc' := 4) (L' := [some (sv 2), none, none, none]) (S' := [rv 0, rv 0]) (M' := [.inr (10, dfl 10)]) (c' := 1) (s' := 12) dL_law_3 rfl rfl rfl]
set_option maxRecDepth 100000 in
theorem law_s2 (X : AX) (n : Nat) (M : AM) (hM : M.length = 88) : run X (n + 307) 10 mL_law 7 [some (sv 2), none, none, none] [rv 0] M 88 3512 = run X (n + 304) 10 mL_law 12 [some (sv 2), some (rv 0), none, none] [rv 88, rv 88] (M ++ [.inr (11, dfl 11)]) 89 3541 := by
  rw [run_next (n := n + 306) (pc' := 8) (L' := [some (sv 2), some (rv 0), none, none]) (S' := []) (M' := M) (c' := 88) (s' := 3512) dL_law_7 rfl rfl rfl]
  rw [run_next (n := n + 305) (pc' := 11) (L' := [some (sv 2), some (rv 0), none, none]) (S' := [rv 88]) (M' := M ++ [.inr (11, dfl 11)]) (c' := 89) (s' := 3541) dL_law_8 rfl rfl (stp_new rfl hM (by decide))]
  rw [run_next (n := n + 304) (pc' := 12) (L' := [some (sv 2), some (rv 0), none, none]) (S' := [rv 88, rv 88]) (M' := M ++ [.inr (11, dfl 11)]) (c' := 89) (s' := 3541) dL_law_11 rfl rfl rfl]
set_option maxRecDepth 100000 in
theorem law_s3 (X : AX) (n : Nat) (M : AM) : run X (n + 303) 10 mL_law 15 [some (sv 2), some (rv 0), none, none] [rv 88] M 108 5241 = run X (n + 300) 10 mL_law 18 [some (sv 2), some (rv 0), some (rv 88), some (iv 0)] [] M 108 5241 := by
  rw [run_next (n := n + 302) (pc' := 16) (L' := [some (sv 2), some (rv 0), some (rv 88), none]) (S' := []) (M' := M) (c' := 108) (s' := 5241) dL_law_15 rfl rfl rfl]
  rw [run_next (n := n + 301) (pc' := 17) (L' := [some (sv 2), some (rv 0), some (rv 88), none]) (S' := [iv 0]) (M' := M) (c' := 108) (s' := 5241) dL_law_16 rfl rfl rfl]
  rw [run_next (n := n + 300) (pc' := 18) (L' := [some (sv 2), some (rv 0), some (rv 88), some (iv 0)]) (S' := []) (M' := M) (c' := 108) (s' := 5241) dL_law_17 rfl rfl rfl]
theorem cal_i {mr : MRec} {k i1 i2 kind q : Nat} {mr' : MRec} {ps : List Nat} {S : List AV} {M : AM} (hm : ml mr.2.2.2.2.2.2 k = some (i1, i2, kind, 0, mr', ps)) (hk : kind = 3 ∨ kind = 4) (hr : (S.map cat).sum ≤ 8) : cal mr (.invokespecial k) (rv q :: S) M = some (mr', [rv q], S) := by
  simp only [cal, hm, hk, if_true, List.drop_zero, List.take_zero, List.length_nil, hr, and_self, List.reverse_nil]
set_option maxRecDepth 100000 in
theorem law_start (X : AX) (n : Nat) : run X (n + 310) 10 mL_law 0 (argL [sv 2] 4) [] [] 0 0 = run X (n + 300) 10 mL_law 18 [some (sv 2), some (rv 0), some (rv 88), some (iv 0)] [] (mem σ0) 108 5241 := by
  have h88 : ((mem σ0).take 88).length = 88 := rfl
  have hg := gm_init X (n + 7)
  have hm := md_init X (n + 3)
  generalize hMa : (mem σ0).take 88 = Ma at h88 hg hm
  generalize hMb : mem σ0 = Mb at hm ⊢
  rw [law_s1]
  rw [run_call (n := n + 307) (d := 9) (mr' := mX10_init) (As := [rv 0]) (r := [rv 0]) (v := none) (M' := Ma) dL_law_4 rfl rfl rfl (cal_i rfl (by decide) (by decide)) ⟨rfl, by decide, by decide⟩ hg]
  show run X (n + 307) 10 mL_law 7 [some (sv 2), none, none, none] [rv 0] Ma 88 3512 = _
  rw [law_s2 X n Ma h88]
  rw [run_call (n := n + 303) (d := 9) (mr' := mX11_init) (As := [rv 88]) (r := [rv 88]) (v := none) (M' := Mb) dL_law_12 rfl rfl rfl (cal_i rfl (by decide) (by decide)) ⟨rfl, by decide, by decide⟩ hm]
  show run X (n + 303) 10 mL_law 15 [some (sv 2), some (rv 0), none, none] [rv 88] Mb 108 5241 = _
  exact law_s3 X n Mb
end
section
theorem f_0_9 : fld 0 9 = some (0, 1) := rfl
theorem f_0_15 : fld 0 15 = some (0, 2) := rfl
theorem f_0_18 : fld 0 18 = some (0, 3) := rfl
theorem f_0_21 : fld 0 21 = some (0, 0) := rfl
theorem f_0_41 : fld 0 41 = some (0, 5) := rfl
theorem f_0_49 : fld 0 49 = some (0, 4) := rfl
theorem f_0_52 : fld 0 52 = some (8, 0) := rfl
theorem f_0_55 : fld 0 55 = some (8, 7) := rfl
theorem f_0_62 : fld 0 62 = some (3, 1) := rfl
theorem f_0_65 : fld 0 65 = some (8, 4) := rfl
theorem f_0_68 : fld 0 68 = some (3, 0) := rfl
theorem f_0_82 : fld 0 82 = some (8, 5) := rfl
theorem f_0_86 : fld 0 86 = some (8, 9) := rfl
theorem f_0_100 : fld 0 100 = some (3, 2) := rfl
theorem f_1_11 : fld 1 11 = some (1, 0) := rfl
theorem f_1_15 : fld 1 15 = some (1, 1) := rfl
theorem f_1_18 : fld 1 18 = some (1, 2) := rfl
theorem f_1_27 : fld 1 27 = some (8, 10) := rfl
theorem f_1_37 : fld 1 37 = some (8, 8) := rfl
theorem f_1_54 : fld 1 54 = some (1, 3) := rfl
theorem f_1_57 : fld 1 57 = some (8, 6) := rfl
theorem f_2_7 : fld 2 7 = some (2, 0) := rfl
theorem f_3_9 : fld 3 9 = some (3, 1) := rfl
theorem f_3_15 : fld 3 15 = some (3, 2) := rfl
theorem f_3_18 : fld 3 18 = some (3, 3) := rfl
theorem f_3_21 : fld 3 21 = some (3, 0) := rfl
theorem f_3_25 : fld 3 25 = some (8, 7) := rfl
theorem f_3_41 : fld 3 41 = some (8, 5) := rfl
theorem f_3_45 : fld 3 45 = some (8, 9) := rfl
theorem f_3_56 : fld 3 56 = some (8, 10) := rfl
theorem f_3_59 : fld 3 59 = some (3, 4) := rfl
theorem f_3_63 : fld 3 63 = some (8, 11) := rfl
theorem f_3_83 : fld 3 83 = some (8, 8) := rfl
theorem f_3_90 : fld 3 90 = some (8, 6) := rfl
theorem f_4_9 : fld 4 9 = some (4, 1) := rfl
theorem f_4_15 : fld 4 15 = some (4, 0) := rfl
theorem f_4_35 : fld 4 35 = some (4, 2) := rfl
theorem f_4_39 : fld 4 39 = some (8, 4) := rfl
theorem f_4_46 : fld 4 46 = some (3, 0) := rfl
theorem f_4_60 : fld 4 60 = some (3, 2) := rfl
theorem f_4_63 : fld 4 63 = some (8, 5) := rfl
theorem f_4_67 : fld 4 67 = some (8, 9) := rfl
theorem f_5_9 : fld 5 9 = some (5, 0) := rfl
theorem f_5_15 : fld 5 15 = some (5, 1) := rfl
theorem f_5_19 : fld 5 19 = some (5, 2) := rfl
theorem f_5_22 : fld 5 22 = some (5, 3) := rfl
theorem f_5_25 : fld 5 25 = some (5, 4) := rfl
theorem f_5_29 : fld 5 29 = some (7, 3) := rfl
theorem f_5_34 : fld 5 34 = some (7, 4) := rfl
theorem f_5_37 : fld 5 37 = some (7, 2) := rfl
theorem f_5_47 : fld 5 47 = some (7, 0) := rfl
theorem f_5_61 : fld 5 61 = some (7, 1) := rfl
theorem f_6_9 : fld 6 9 = some (6, 1) := rfl
theorem f_6_15 : fld 6 15 = some (6, 0) := rfl
theorem f_6_25 : fld 6 25 = some (8, 6) := rfl
theorem f_6_35 : fld 6 35 = some (0, 4) := rfl
theorem f_6_38 : fld 6 38 = some (0, 5) := rfl
theorem f_6_41 : fld 6 41 = some (0, 3) := rfl
theorem f_6_45 : fld 6 45 = some (8, 4) := rfl
theorem f_7_9 : fld 7 9 = some (7, 0) := rfl
theorem f_7_15 : fld 7 15 = some (7, 1) := rfl
theorem f_7_18 : fld 7 18 = some (7, 2) := rfl
theorem f_7_22 : fld 7 22 = some (7, 3) := rfl
theorem f_7_25 : fld 7 25 = some (7, 4) := rfl
theorem f_8_9 : fld 8 9 = some (8, 0) := rfl
theorem f_8_15 : fld 8 15 = some (8, 1) := rfl
theorem f_8_18 : fld 8 18 = some (8, 2) := rfl
theorem f_8_21 : fld 8 21 = some (8, 3) := rfl
theorem f_8_24 : fld 8 24 = some (8, 4) := rfl
theorem f_8_29 : fld 8 29 = some (8, 5) := rfl
theorem f_8_33 : fld 8 33 = some (8, 6) := rfl
theorem f_8_37 : fld 8 37 = some (8, 7) := rfl
theorem f_8_40 : fld 8 40 = some (8, 8) := rfl
theorem f_8_43 : fld 8 43 = some (8, 9) := rfl
theorem f_8_46 : fld 8 46 = some (8, 10) := rfl
theorem f_8_49 : fld 8 49 = some (8, 11) := rfl
theorem f_9_9 : fld 9 9 = some (9, 0) := rfl
theorem f_9_15 : fld 9 15 = some (9, 2) := rfl
theorem f_9_19 : fld 9 19 = some (9, 3) := rfl
theorem f_9_22 : fld 9 22 = some (9, 4) := rfl
theorem f_9_25 : fld 9 25 = some (9, 5) := rfl
theorem f_9_28 : fld 9 28 = some (9, 6) := rfl
theorem f_9_48 : fld 9 48 = some (8, 6) := rfl
theorem f_9_53 : fld 9 53 = some (8, 4) := rfl
theorem f_9_60 : fld 9 60 = some (7, 4) := rfl
theorem f_9_65 : fld 9 65 = some (9, 1) := rfl
theorem f_9_68 : fld 9 68 = some (7, 3) := rfl
theorem f_9_71 : fld 9 71 = some (7, 1) := rfl
theorem f_10_10 : fld 10 10 = some (10, 0) := rfl
theorem f_10_16 : fld 10 16 = some (10, 1) := rfl
theorem f_10_19 : fld 10 19 = some (10, 2) := rfl
theorem f_10_23 : fld 10 23 = some (10, 3) := rfl
theorem f_10_30 : fld 10 30 = some (10, 4) := rfl
theorem f_10_37 : fld 10 37 = some (10, 5) := rfl
theorem f_10_46 : fld 10 46 = some (10, 6) := rfl
theorem f_10_55 : fld 10 55 = some (10, 7) := rfl
theorem f_10_64 : fld 10 64 = some (10, 8) := rfl
theorem f_10_71 : fld 10 71 = some (10, 9) := rfl
theorem f_10_78 : fld 10 78 = some (10, 10) := rfl
theorem f_10_85 : fld 10 85 = some (10, 11) := rfl
theorem f_10_93 : fld 10 93 = some (8, 6) := rfl
theorem f_10_97 : fld 10 97 = some (8, 0) := rfl
theorem f_10_101 : fld 10 101 = some (8, 7) := rfl
theorem f_10_104 : fld 10 104 = some (8, 1) := rfl
theorem f_10_110 : fld 10 110 = some (8, 2) := rfl
theorem f_10_113 : fld 10 113 = some (8, 3) := rfl
theorem f_10_133 : fld 10 133 = some (8, 5) := rfl
theorem f_10_137 : fld 10 137 = some (7, 2) := rfl
theorem f_10_142 : fld 10 142 = some (7, 0) := rfl
theorem f_10_149 : fld 10 149 = some (7, 4) := rfl
theorem f_10_152 : fld 10 152 = some (8, 4) := rfl
theorem f_10_165 : fld 10 165 = some (3, 1) := rfl
theorem f_10_168 : fld 10 168 = some (3, 2) := rfl
theorem f_10_171 : fld 10 171 = some (3, 3) := rfl
theorem f_10_174 : fld 10 174 = some (3, 4) := rfl
theorem f_10_196 : fld 10 196 = some (0, 4) := rfl
theorem f_10_199 : fld 10 199 = some (0, 3) := rfl
theorem f_10_202 : fld 10 202 = some (0, 5) := rfl
theorem f_10_211 : fld 10 211 = some (1, 3) := rfl
theorem f_10_212 : fld 10 212 = some (1, 2) := rfl
theorem f_10_253 : fld 10 253 = some (8, 8) := rfl
theorem f_10_256 : fld 10 256 = some (8, 9) := rfl
theorem f_10_259 : fld 10 259 = some (8, 10) := rfl
theorem f_10_262 : fld 10 262 = some (8, 11) := rfl
theorem f_11_7 : fld 11 7 = some (11, 0) := rfl
theorem f_11_13 : fld 11 13 = some (11, 1) := rfl
theorem f_11_16 : fld 11 16 = some (11, 2) := rfl
theorem f_11_20 : fld 11 20 = some (11, 6) := rfl
theorem f_11_24 : fld 11 24 = some (11, 8) := rfl
theorem f_11_27 : fld 11 27 = some (11, 10) := rfl
theorem f_11_30 : fld 11 30 = some (11, 12) := rfl
theorem f_11_33 : fld 11 33 = some (11, 14) := rfl
theorem f_11_36 : fld 11 36 = some (11, 15) := rfl
theorem f_11_39 : fld 11 39 = some (11, 16) := rfl
theorem f_11_42 : fld 11 42 = some (11, 17) := rfl
theorem f_11_45 : fld 11 45 = some (11, 19) := rfl
theorem f_11_49 : fld 11 49 = some (11, 20) := rfl
theorem f_11_52 : fld 11 52 = some (11, 21) := rfl
theorem f_11_55 : fld 11 55 = some (11, 22) := rfl
theorem f_11_58 : fld 11 58 = some (11, 23) := rfl
theorem f_11_61 : fld 11 61 = some (11, 24) := rfl
theorem f_11_64 : fld 11 64 = some (11, 25) := rfl
theorem f_11_67 : fld 11 67 = some (11, 26) := rfl
theorem f_11_70 : fld 11 70 = some (11, 27) := rfl
theorem f_11_73 : fld 11 73 = some (11, 28) := rfl
theorem f_11_113 : fld 11 113 = some (11, 3) := rfl
theorem f_11_116 : fld 11 116 = some (11, 4) := rfl
theorem f_11_126 : fld 11 126 = some (11, 9) := rfl
theorem f_11_129 : fld 11 129 = some (11, 7) := rfl
theorem f_11_142 : fld 11 142 = some (11, 5) := rfl
theorem f_11_165 : fld 11 165 = some (11, 11) := rfl
theorem f_11_177 : fld 11 177 = some (11, 13) := rfl
theorem f_11_193 : fld 11 193 = some (11, 18) := rfl
theorem k_0_25 : ml 0 25 = some (0, 25, 0, 1, mX3_fill, [639, 532, 533, 73]) := rfl
theorem k_0_31 : ml 0 31 = some (0, 31, 0, 1, mX8_keptBy, [640, 616, 617, 69]) := rfl
theorem k_0_37 : ml 0 37 = some (0, 37, 0, 3, mX3_haveOf, [641, 621, 622, 73]) := rfl
theorem k_0_45 : ml 0 45 = some (0, 45, 0, 2, mX0_foresee, [642, 644, 21, 74]) := rfl
theorem k_0_58 : ml 0 58 = some (0, 58, 0, 5, mX0_weigh, [649, 651, 22, 74]) := rfl
theorem k_0_72 : ml 0 72 = some (0, 72, 0, 3, mX9_seeAllBut, [646, 536, 537, 72]) := rfl
theorem k_0_78 : ml 0 78 = some (0, 78, 0, 1, mX9_see, [647, 544, 545, 72]) := rfl
theorem k_0_89 : ml 0 89 = some (0, 89, 0, 1, mX9_toldBy, [648, 560, 561, 72]) := rfl
theorem k_0_93 : ml 0 93 = some (0, 93, 0, 2, mX0_enter, [653, 655, 23, 74]) := rfl
theorem k_0_97 : ml 0 97 = some (0, 97, 0, 1, mX3_partPurse, [657, 587, 588, 73]) := rfl
theorem k_1_21 : ml 1 21 = some (1, 21, 0, 0, mX8_coinInAll, [690, 691, 692, 69]) := rfl
theorem k_1_40 : ml 1 40 = some (1, 40, 0, 2, mX1_fillWorths, [695, 697, 25, 76]) := rfl
theorem k_1_47 : ml 1 47 = some (1, 47, 0, 2, mX1_firstBest, [701, 703, 26, 76]) := rfl
theorem k_1_50 : ml 1 50 = some (1, 50, 0, 3, mX1_haveBy, [705, 707, 27, 76]) := rfl
theorem k_1_60 : ml 1 60 = some (1, 60, 0, 3, mX8_worthOf, [699, 625, 626, 69]) := rfl
theorem k_2_13 : ml 2 13 = some (2, 13, 0, 4, mX2_addedTo, [766, 768, 29, 78]) := rfl
theorem k_2_17 : ml 2 17 = some (2, 17, 0, 4, mX2_noneMoreByHands, [773, 775, 30, 78]) := rfl
theorem k_2_21 : ml 2 21 = some (2, 21, 0, 0, mX9_clear, [770, 540, 541, 72]) := rfl
theorem k_2_26 : ml 2 26 = some (2, 26, 0, 1, mX9_see, [771, 544, 545, 72]) := rfl
theorem k_2_30 : ml 2 30 = some (2, 30, 0, 1, mX9_toldBy, [772, 560, 561, 72]) := rfl
theorem k_3_31 : ml 3 31 = some (3, 31, 0, 3, mX9_seeAllBut, [535, 536, 537, 72]) := rfl
theorem k_3_37 : ml 3 37 = some (3, 37, 0, 1, mX8_givenTo, [555, 556, 557, 69]) := rfl
theorem k_3_48 : ml 3 48 = some (3, 48, 0, 1, mX9_toldBy, [559, 560, 561, 72]) := rfl
theorem k_3_52 : ml 3 52 = some (3, 52, 0, 1, mX3_partPurse, [586, 587, 588, 73]) := rfl
theorem k_3_66 : ml 3 66 = some (3, 66, 0, 2, mX3_partByShare, [590, 592, 18, 73]) := rfl
theorem k_3_70 : ml 3 70 = some (3, 70, 0, 1, mX3_partByNumber, [594, 596, 19, 73]) := rfl
theorem k_3_74 : ml 3 74 = some (3, 74, 0, 1, mX3_partByBound, [599, 601, 20, 73]) := rfl
theorem k_3_86 : ml 3 86 = some (3, 86, 0, 3, mX8_worthOf, [624, 625, 626, 69]) := rfl
theorem k_3_93 : ml 3 93 = some (3, 93, 0, 1, mX8_keptBy, [615, 616, 617, 69]) := rfl
theorem k_3_96 : ml 3 96 = some (3, 96, 0, 3, mX3_haveOf, [620, 621, 622, 73]) := rfl
theorem k_4_19 : ml 4 19 = some (4, 19, 0, 1, mX3_fill, [721, 532, 533, 73]) := rfl
theorem k_4_25 : ml 4 25 = some (4, 25, 0, 1, mX8_keptBy, [722, 616, 617, 69]) := rfl
theorem k_4_31 : ml 4 31 = some (4, 31, 0, 3, mX3_haveOf, [723, 621, 622, 73]) := rfl
theorem k_4_42 : ml 4 42 = some (4, 42, 0, 6, mX4_weigh, [724, 726, 28, 77]) := rfl
theorem k_4_50 : ml 4 50 = some (4, 50, 0, 3, mX9_seeAllBut, [728, 536, 537, 72]) := rfl
theorem k_4_56 : ml 4 56 = some (4, 56, 0, 1, mX9_see, [729, 544, 545, 72]) := rfl
theorem k_4_70 : ml 4 70 = some (4, 70, 0, 1, mX9_toldBy, [730, 560, 561, 72]) := rfl
theorem k_4_74 : ml 4 74 = some (4, 74, 0, 1, mX3_partPurse, [731, 587, 588, 73]) := rfl
theorem k_5_40 : ml 5 40 = some (5, 40, 0, 2, mX5_readCharacter, [472, 474, 7, 71]) := rfl
theorem k_5_44 : ml 5 44 = some (5, 44, 0, 2, mX5_release, [500, 502, 13, 71]) := rfl
theorem k_5_50 : ml 5 50 = some (5, 50, 0, 3, mX5_readDigit, [476, 478, 8, 71]) := rfl
theorem k_5_54 : ml 5 54 = some (5, 54, 0, 2, mX5_readUnit, [484, 486, 9, 71]) := rfl
theorem k_5_58 : ml 5 58 = some (5, 58, 0, 2, mX5_readBehindUnit, [492, 494, 11, 71]) := rfl
theorem k_5_64 : ml 5 64 = some (5, 64, 0, 1, mX7_addStep, [480, 481, 482, 70]) := rfl
theorem k_5_68 : ml 5 68 = some (5, 68, 0, 1, mX5_hold, [488, 490, 10, 71]) := rfl
theorem k_5_71 : ml 5 71 = some (5, 71, 0, 1, mX5_closeBracket, [496, 498, 12, 71]) := rfl
theorem k_5_75 : ml 5 75 = some (5, 75, 2, 1, mX5_rankOf, [504, 505, 71]) := rfl
theorem pn_5_75 : sp 5 75 = none := rfl
theorem k_5_79 : ml 5 79 = some (5, 79, 0, 0, mX5_lastRank, [507, 509, 14, 71]) := rfl
theorem k_6_19 : ml 6 19 = some (6, 19, 0, 0, mX8_packedGifts, [670, 671, 672, 69]) := rfl
theorem k_6_29 : ml 6 29 = some (6, 29, 0, 2, mX0_choose, [674, 636, 637, 74]) := rfl
theorem k_6_54 : ml 6 54 = some (6, 54, 0, 1, mX6_wasBefore, [678, 680, 24, 75]) := rfl
theorem k_8_52 : ml 8 52 = some (8, 52, 4, 0, mX7_init, [100, 70]) := rfl
theorem k_8_53 : ml 8 53 = some (8, 53, 0, 1, mX8_takePeople, [785, 750, 751, 69]) := rfl
theorem k_8_63 : ml 8 63 = some (8, 63, 0, 1, mX7_take, [786, 787, 788, 70]) := rfl
theorem k_8_67 : ml 8 67 = some (8, 67, 0, 1, mX8_givenBy, [619, 524, 525, 69]) := rfl
theorem k_9_45 : ml 9 45 = some (9, 45, 0, 0, mX9_clear, [539, 540, 541, 72]) := rfl
theorem k_9_56 : ml 9 56 = some (9, 56, 0, 1, mX9_see, [543, 544, 545, 72]) := rfl
theorem k_9_74 : ml 9 74 = some (9, 74, 0, 1, mX9_push, [563, 565, 15, 72]) := rfl
theorem k_9_78 : ml 9 78 = some (9, 78, 0, 1, mX9_doStep, [567, 569, 16, 72]) := rfl
theorem k_9_83 : ml 9 83 = some (9, 83, 0, 0, mX9_pop, [572, 574, 17, 72]) := rfl
theorem k_9_94 : ml 9 94 = some (9, 94, 2, 3, mX9_joined, [576, 577, 72]) := rfl
theorem pn_9_94 : sp 9 94 = none := rfl
theorem k_10_9 : ml 10 9 = some (10, 9, 3, 0, mX8_init, [92, 93, 69]) := rfl
theorem k_10_29 : ml 10 29 = some (10, 29, 4, 0, mX5_init, [206, 71]) := rfl
theorem k_10_36 : ml 10 36 = some (10, 36, 4, 0, mX9_init, [229, 72]) := rfl
theorem k_10_43 : ml 10 43 = some (10, 43, 3, 1, mX3_init, [257, 258, 73]) := rfl
theorem k_10_52 : ml 10 52 = some (10, 52, 3, 1, mX0_init, [288, 289, 74]) := rfl
theorem k_10_61 : ml 10 61 = some (10, 61, 3, 1, mX6_init, [319, 320, 75]) := rfl
theorem k_10_70 : ml 10 70 = some (10, 70, 4, 0, mX1_init, [333, 76]) := rfl
theorem k_10_77 : ml 10 77 = some (10, 77, 3, 1, mX4_init, [353, 354, 77]) := rfl
theorem k_10_84 : ml 10 84 = some (10, 84, 3, 1, mX2_init, [369, 370, 78]) := rfl
theorem k_10_89 : ml 10 89 = some (10, 89, 2, 2, mX10_isWithin, [418, 419, 68]) := rfl
theorem pn_10_89 : sp 10 89 = none := rfl
theorem k_10_107 : ml 10 107 = some (10, 107, 0, 2, mX10_isPair, [429, 431, 0, 68]) := rfl
theorem k_10_116 : ml 10 116 = some (10, 116, 0, 1, mX10_setKeep, [445, 447, 3, 68]) := rfl
theorem k_10_120 : ml 10 120 = some (10, 120, 0, 1, mX10_setTheRule, [449, 451, 4, 68]) := rfl
theorem k_10_123 : ml 10 123 = some (10, 123, 0, 1, mX10_setPurse, [456, 458, 5, 68]) := rfl
theorem k_10_126 : ml 10 126 = some (10, 126, 0, 1, mX10_setParted, [460, 462, 6, 68]) := rfl
theorem k_10_129 : ml 10 129 = some (10, 129, 2, 1, mX10_isRule, [453, 454, 68]) := rfl
theorem pn_10_129 : sp 10 129 = none := rfl
theorem k_10_145 : ml 10 145 = some (10, 145, 0, 1, mX5_read, [468, 469, 470, 71]) := rfl
theorem k_10_155 : ml 10 155 = some (10, 155, 0, 1, mX8_givenBy, [523, 524, 525, 69]) := rfl
theorem k_10_158 : ml 10 158 = some (10, 158, 0, 1, mX10_isWork, [437, 439, 2, 68]) := rfl
theorem k_10_161 : ml 10 161 = some (10, 161, 0, 1, mX3_fill, [531, 532, 533, 73]) := rfl
theorem k_10_178 : ml 10 178 = some (10, 178, 0, 1, mX10_isGiver, [433, 435, 1, 68]) := rfl
theorem k_10_181 : ml 10 181 = some (10, 181, 0, 1, mX3_allHave, [611, 612, 613, 73]) := rfl
theorem k_10_185 : ml 10 185 = some (10, 185, 0, 1, mX8_keptBy, [629, 616, 617, 69]) := rfl
theorem k_10_188 : ml 10 188 = some (10, 188, 0, 3, mX3_haveOf, [630, 621, 622, 73]) := rfl
theorem k_10_192 : ml 10 192 = some (10, 192, 0, 2, mX0_choose, [635, 636, 637, 74]) := rfl
theorem k_10_205 : ml 10 205 = some (10, 205, 0, 1, mX6_run, [666, 667, 668, 75]) := rfl
theorem k_10_208 : ml 10 208 = some (10, 208, 0, 1, mX1_find, [686, 687, 688, 76]) := rfl
theorem k_10_213 : ml 10 213 = some (10, 213, 0, 3, mX4_weighAll, [717, 718, 719, 77]) := rfl
theorem k_10_217 : ml 10 217 = some (10, 217, 0, 0, mX4_most, [733, 734, 735, 77]) := rfl
theorem k_10_220 : ml 10 220 = some (10, 220, 0, 0, mX4_leastCost, [741, 742, 743, 77]) := rfl
theorem k_10_223 : ml 10 223 = some (10, 223, 0, 1, mX8_takePeople, [749, 750, 751, 69]) := rfl
theorem k_10_226 : ml 10 226 = some (10, 226, 0, 0, mX8_givenInAll, [754, 755, 756, 69]) := rfl
theorem k_10_229 : ml 10 229 = some (10, 229, 0, 5, mX2_hold, [762, 763, 764, 78]) := rfl
theorem k_10_233 : ml 10 233 = some (10, 233, 0, 1, mX8_take, [781, 782, 783, 69]) := rfl
theorem k_10_236 : ml 10 236 = some (10, 236, 0, 0, mX8_coinInAll, [799, 691, 692, 69]) := rfl
theorem k_10_243 : ml 10 243 = some (10, 243, 0, 1, mX10_count, [806, 796, 797, 68]) := rfl
theorem k_10_246 : ml 10 246 = some (10, 246, 0, 1, mX10_digestGivers, [807, 809, 31, 68]) := rfl
theorem k_10_250 : ml 10 250 = some (10, 250, 0, 1, mX10_digestWorks, [811, 813, 32, 68]) := rfl
theorem k_10_265 : ml 10 265 = some (10, 265, 0, 1, mX10_digestRules, [815, 817, 33, 68]) := rfl
theorem k_11_76 : ml 11 76 = some (11, 76, 0, 0, mX11_givers, [921, 923, 34, 79]) := rfl
theorem k_11_80 : ml 11 80 = some (11, 80, 2, 3, mX11_in, [918, 919, 79]) := rfl
theorem pn_11_80 : sp 11 80 = none := rfl
theorem k_11_84 : ml 11 84 = some (11, 84, 0, 0, mX11_works, [930, 932, 35, 79]) := rfl
theorem k_11_91 : ml 11 91 = some (11, 91, 0, 1, mX11_isGiver, [938, 940, 36, 79]) := rfl
theorem k_11_95 : ml 11 95 = some (11, 95, 0, 1, mX11_isWork, [942, 944, 37, 79]) := rfl
theorem k_11_108 : ml 11 108 = some (11, 108, 2, 1, mX11_isRule, [959, 960, 79]) := rfl
theorem pn_11_108 : sp 11 108 = none := rfl
theorem k_11_119 : ml 11 119 = some (11, 119, 0, 0, mX11_textLong, [979, 981, 40, 79]) := rfl
theorem k_11_122 : ml 11 122 = some (11, 122, 0, 1, mX11_charAt, [983, 985, 41, 79]) := rfl
theorem k_11_132 : ml 11 132 = some (11, 132, 2, 1, mX11_rank, [1005, 1006, 79]) := rfl
theorem pn_11_132 : sp 11 132 = none := rfl
theorem k_11_135 : ml 11 135 = some (11, 135, 0, 0, mX11_workOut, [1008, 1010, 45, 79]) := rfl
theorem k_11_147 : ml 11 147 = some (11, 147, 0, 0, mX11_ahead, [975, 977, 39, 79]) := rfl
theorem k_11_150 : ml 11 150 = some (11, 150, 0, 0, mX11_digits, [989, 991, 42, 79]) := rfl
theorem k_11_154 : ml 11 154 = some (11, 154, 0, 1, mX11_stands, [994, 996, 43, 79]) := rfl
theorem k_11_158 : ml 11 158 = some (11, 158, 2, 1, mX11_nameOf, [998, 999, 79]) := rfl
theorem pn_11_158 : sp 11 158 = none := rfl
theorem k_11_161 : ml 11 161 = some (11, 161, 0, 1, mX11_workDown, [1001, 1003, 44, 79]) := rfl
theorem k_11_169 : ml 11 169 = some (11, 169, 0, 0, mX11_reads, [971, 973, 38, 79]) := rfl
theorem k_11_180 : ml 11 180 = some (11, 180, 0, 1, mX11_rootOf, [1036, 1038, 50, 79]) := rfl
theorem k_11_186 : ml 11 186 = some (11, 186, 0, 2, mX11_gift, [1016, 1018, 46, 79]) := rfl
theorem k_11_190 : ml 11 190 = some (11, 190, 0, 1, mX11_putHand, [1028, 1030, 48, 79]) := rfl
theorem k_11_197 : ml 11 197 = some (11, 197, 0, 1, mX11_addedBy, [1032, 1034, 49, 79]) := rfl
theorem k_11_200 : ml 11 200 = some (11, 200, 0, 2, mX11_part, [1043, 1045, 51, 79]) := rfl
theorem k_11_204 : ml 11 204 = some (11, 204, 0, 1, mX11_below, [1047, 1049, 52, 79]) := rfl
theorem k_11_207 : ml 11 207 = some (11, 207, 0, 3, mX11_worthOf, [1067, 1069, 55, 79]) := rfl
theorem k_11_211 : ml 11 211 = some (11, 211, 0, 0, mX11_addUp, [1024, 1026, 47, 79]) := rfl
theorem k_11_214 : ml 11 214 = some (11, 214, 0, 1, mX11_hasNow, [1063, 1065, 54, 79]) := rfl
theorem k_11_217 : ml 11 217 = some (11, 217, 0, 0, mX11_allNow, [1059, 1061, 53, 79]) := rfl
theorem k_11_220 : ml 11 220 = some (11, 220, 0, 4, mX11_setRow, [1079, 1081, 57, 79]) := rfl
theorem k_11_224 : ml 11 224 = some (11, 224, 0, 1, mX11_findBest, [1075, 1077, 56, 79]) := rfl
theorem k_11_227 : ml 11 227 = some (11, 227, 0, 1, mX11_note, [1095, 1097, 59, 79]) := rfl
theorem k_11_230 : ml 11 230 = some (11, 230, 0, 1, mX11_isAgain, [1099, 1101, 60, 79]) := rfl
theorem k_11_233 : ml 11 233 = some (11, 233, 0, 0, mX11_goByTurns, [1091, 1093, 58, 79]) := rfl
theorem k_11_236 : ml 11 236 = some (11, 236, 0, 0, mX11_allCoin, [1111, 1113, 62, 79]) := rfl
theorem k_11_239 : ml 11 239 = some (11, 239, 0, 0, mX11_findGood, [1107, 1109, 61, 79]) := rfl
theorem k_11_242 : ml 11 242 = some (11, 242, 0, 2, mX11_findHands, [1123, 1125, 63, 79]) := rfl
theorem k_11_245 : ml 11 245 = some (11, 245, 0, 0, mX11_coinsGiven, [1135, 1137, 64, 79]) := rfl
theorem k_11_248 : ml 11 248 = some (11, 248, 0, 4, mX11_addedTo, [1147, 1149, 66, 79]) := rfl
theorem k_11_252 : ml 11 252 = some (11, 252, 0, 5, mX11_holds, [1143, 1145, 65, 79]) := rfl
theorem k_11_260 : ml 11 260 = some (11, 260, 0, 1, mX11_count, [1169, 1160, 1161, 79]) := rfl
theorem k_11_263 : ml 11 263 = some (11, 263, 0, 2, mX11_amount, [1170, 1021, 1022, 79]) := rfl
theorem k_12_9 : ml 12 9 = some (12, 9, 3, 0, mX10_init, [84, 85, 68]) := rfl
theorem k_12_12 : ml 12 12 = some (12, 12, 3, 0, mX11_init, [821, 822, 79]) := rfl
theorem k_12_13 : ml 12 13 = some (12, 13, 0, 1, mX10_giver, [414, 415, 416, 68]) := rfl
theorem k_12_17 : ml 12 17 = some (12, 17, 0, 1, mX11_giver, [913, 914, 915, 79]) := rfl
theorem k_12_18 : ml 12 18 = some (12, 18, 0, 1, mX10_work, [421, 422, 423, 68]) := rfl
theorem k_12_21 : ml 12 21 = some (12, 21, 0, 1, mX11_work, [925, 926, 927, 79]) := rfl
theorem k_12_22 : ml 12 22 = some (12, 22, 0, 4, mX10_worth, [425, 426, 427, 68]) := rfl
theorem k_12_26 : ml 12 26 = some (12, 26, 0, 4, mX11_worth, [934, 935, 936, 79]) := rfl
theorem k_12_27 : ml 12 27 = some (12, 27, 0, 2, mX10_set, [441, 442, 443, 68]) := rfl
theorem k_12_31 : ml 12 31 = some (12, 31, 0, 2, mX11_set, [948, 949, 950, 79]) := rfl
theorem k_12_32 : ml 12 32 = some (12, 32, 0, 2, mX10_write, [464, 465, 466, 68]) := rfl
theorem k_12_35 : ml 12 35 = some (12, 35, 0, 2, mX11_write, [955, 956, 957, 79]) := rfl
theorem k_12_36 : ml 12 36 = some (12, 36, 0, 1, mX10_erase, [511, 512, 513, 68]) := rfl
theorem k_12_39 : ml 12 39 = some (12, 39, 0, 1, mX11_erase, [963, 964, 965, 79]) := rfl
theorem k_12_40 : ml 12 40 = some (12, 40, 0, 1, mX10_fault, [515, 516, 517, 68]) := rfl
theorem k_12_43 : ml 12 43 = some (12, 43, 0, 1, mX11_fault, [967, 968, 969, 79]) := rfl
theorem k_12_44 : ml 12 44 = some (12, 44, 0, 3, mX10_give, [519, 520, 521, 68]) := rfl
theorem k_12_48 : ml 12 48 = some (12, 48, 0, 3, mX11_give, [1012, 1013, 1014, 79]) := rfl
theorem k_12_49 : ml 12 49 = some (12, 49, 0, 2, mX10_amount, [527, 528, 529, 68]) := rfl
theorem k_12_52 : ml 12 52 = some (12, 52, 0, 2, mX11_amount, [1020, 1021, 1022, 79]) := rfl
theorem k_12_53 : ml 12 53 = some (12, 53, 0, 0, mX10_isShort, [603, 604, 605, 68]) := rfl
theorem k_12_57 : ml 12 57 = some (12, 57, 0, 0, mX11_isShort, [1051, 1052, 1053, 79]) := rfl
theorem k_12_58 : ml 12 58 = some (12, 58, 0, 1, mX10_has, [607, 608, 609, 68]) := rfl
theorem k_12_61 : ml 12 61 = some (12, 61, 0, 1, mX11_has, [1055, 1056, 1057, 79]) := rfl
theorem k_12_62 : ml 12 62 = some (12, 62, 0, 2, mX10_best, [631, 632, 633, 68]) := rfl
theorem k_12_65 : ml 12 65 = some (12, 65, 0, 2, mX11_best, [1071, 1072, 1073, 79]) := rfl
theorem k_12_66 : ml 12 66 = some (12, 66, 0, 1, mX10_rest, [658, 659, 660, 68]) := rfl
theorem k_12_69 : ml 12 69 = some (12, 69, 0, 1, mX11_rest, [1083, 1084, 1085, 79]) := rfl
theorem k_12_70 : ml 12 70 = some (12, 70, 0, 0, mX10_turns, [662, 663, 664, 68]) := rfl
theorem k_12_73 : ml 12 73 = some (12, 73, 0, 0, mX11_turns, [1087, 1088, 1089, 79]) := rfl
theorem k_12_74 : ml 12 74 = some (12, 74, 0, 1, mX10_good, [682, 683, 684, 68]) := rfl
theorem k_12_77 : ml 12 77 = some (12, 77, 0, 1, mX11_good, [1103, 1104, 1105, 79]) := rfl
theorem k_12_78 : ml 12 78 = some (12, 78, 0, 0, mX10_lost, [709, 710, 711, 68]) := rfl
theorem k_12_81 : ml 12 81 = some (12, 81, 0, 0, mX11_lost, [1115, 1116, 1117, 79]) := rfl
theorem k_12_82 : ml 12 82 = some (12, 82, 0, 2, mX10_gain, [713, 714, 715, 68]) := rfl
theorem k_12_85 : ml 12 85 = some (12, 85, 0, 2, mX11_gain, [1119, 1120, 1121, 79]) := rfl
theorem k_12_86 : ml 12 86 = some (12, 86, 0, 2, mX10_hand, [737, 738, 739, 68]) := rfl
theorem k_12_89 : ml 12 89 = some (12, 89, 0, 2, mX11_hand, [1127, 1128, 1129, 79]) := rfl
theorem k_12_90 : ml 12 90 = some (12, 90, 0, 1, mX10_anyway, [745, 746, 747, 68]) := rfl
theorem k_12_93 : ml 12 93 = some (12, 93, 0, 1, mX11_anyway, [1131, 1132, 1133, 79]) := rfl
theorem k_12_94 : ml 12 94 = some (12, 94, 0, 3, mX10_breach, [758, 759, 760, 68]) := rfl
theorem k_12_97 : ml 12 97 = some (12, 97, 0, 3, mX11_breach, [1139, 1140, 1141, 79]) := rfl
theorem k_12_98 : ml 12 98 = some (12, 98, 0, 1, mX10_image, [777, 778, 779, 68]) := rfl
theorem k_12_101 : ml 12 101 = some (12, 101, 0, 1, mX11_image, [1151, 1152, 1153, 79]) := rfl
theorem k_12_102 : ml 12 102 = some (12, 102, 0, 1, mX10_from, [791, 792, 793, 68]) := rfl
theorem k_12_105 : ml 12 105 = some (12, 105, 0, 1, mX11_from, [1155, 1156, 1157, 79]) := rfl
theorem k_12_106 : ml 12 106 = some (12, 106, 0, 1, mX10_count, [795, 796, 797, 68]) := rfl
theorem k_12_109 : ml 12 109 = some (12, 109, 0, 1, mX11_count, [1159, 1160, 1161, 79]) := rfl
theorem k_12_110 : ml 12 110 = some (12, 110, 0, 0, mX10_digest, [800, 801, 802, 68]) := rfl
theorem k_12_114 : ml 12 114 = some (12, 114, 0, 0, mX11_digest, [1163, 1164, 1165, 79]) := rfl
theorem p_0_3 : sp 0 3 = some (5, 291) := rfl
theorem p_1_5 : sp 1 5 = some (5, 335) := rfl
theorem p_1_31 : sp 1 31 = some (9, 694) := rfl
theorem p_1_44 : sp 1 44 = some (8, 700) := rfl
theorem p_2_1 : sp 2 1 = some (5, 372) := rfl
theorem p_3_3 : sp 3 3 = some (5, 260) := rfl
theorem p_3_77 : sp 3 77 = some (9, 598) := rfl
theorem p_4_3 : sp 4 3 = some (5, 356) := rfl
theorem p_4_77 : sp 4 77 = some (8, 732) := rfl
theorem p_5_3 : sp 5 3 = some (5, 208) := rfl
theorem p_6_3 : sp 6 3 = some (5, 322) := rfl
theorem p_6_48 : sp 6 48 = some (7, 675) := rfl
theorem p_7_3 : sp 7 3 = some (5, 102) := rfl
theorem p_7_28 : sp 7 28 = some (7, 790) := rfl
theorem p_8_3 : sp 8 3 = some (5, 95) := rfl
theorem p_8_57 : sp 8 57 = some (7, 753) := rfl
theorem p_8_71 : sp 8 71 = some (9, 628) := rfl
theorem p_9_3 : sp 9 3 = some (5, 231) := rfl
theorem p_9_32 : sp 9 32 = some (8, 547) := rfl
theorem p_9_38 : sp 9 38 = some (9, 550) := rfl
theorem p_9_87 : sp 9 87 = some (11, 580) := rfl
theorem p_9_90 : sp 9 90 = some (10, 583) := rfl
theorem p_10_1 : sp 10 1 = some (5, 87) := rfl
theorem p_11_1 : sp 11 1 = some (5, 824) := rfl
theorem c_9_81 : lcn 9 81 = some 99 := rfl
theorem c_9_92 : lcn 9 92 = some 1000000000000 := rfl
theorem c_10_239 : lcn 10 239 = some 461 := rfl
theorem c_10_241 : lcn 10 241 = some 31 := rfl
theorem c_11_87 : lcn 11 87 = some 12 := rfl
theorem c_11_89 : lcn 11 89 = some 60 := rfl
theorem c_11_98 : lcn 11 98 = some 200 := rfl
theorem c_11_100 : lcn 11 100 = some 50 := rfl
theorem c_11_102 : lcn 11 102 = some 3 := rfl
theorem c_11_104 : lcn 11 104 = some 99 := rfl
theorem c_11_106 : lcn 11 106 = some 2 := rfl
theorem c_11_111 : lcn 11 111 = some 127 := rfl
theorem c_11_138 : lcn 11 138 = some 48 := rfl
theorem c_11_140 : lcn 11 140 = some 57 := rfl
theorem c_11_145 : lcn 11 145 = some 10 := rfl
theorem c_11_173 : lcn 11 173 = some 1000000 := rfl
theorem c_11_175 : lcn 11 175 = some 4000000 := rfl
theorem c_11_184 : lcn 11 184 = some 1000000000000 := rfl
theorem c_11_256 : lcn 11 256 = some 461 := rfl
theorem c_11_258 : lcn 11 258 = some 31 := rfl
def QI (P : Int → SG → Prop) : Option AV → SG → Prop := fun v σ => ∃ r, v = some (iv r) ∧ P r σ
def QJ (P : Int64 → SG → Prop) : Option AV → SG → Prop := fun v σ => ∃ r, v = some (jv r) ∧ P r σ
def QV (P : SG → Prop) : Option AV → SG → Prop := fun v σ => v = none ∧ P σ
section EVD
variable {X : AX} {c s d : Nat} {mr : MRec} {pc pc' : Nat} {L L' : AL} {S : List AV} {σ : SG} {Q : Option AV → SG → Prop}
theorem e_cv0i {dd k q ci i1 i2 : Nat} {ps : List Nat} {fs : List (Nat ⊕ AV)} {mr' : MRec} {P : Int → SG → Prop} (hd : decode mr.2.1 pc = .ok (.invokevirtual k, 3)) (hp : pc + 3 = pc') (hm : ml mr.2.2.2.2.2.2 k = some (i1, i2, 0, 0, mr', ps)) (ho : shp[q]? = some (.inr (ci, fs))) (hci : ci = mr'.2.2.2.2.2.2) (hr : (S.map cat).sum ≤ 8) (hL : argL [rv q] mr'.2.2.1 = L') (hl2 : L'.length = mr'.2.2.1) (h0 : mr'.2.2.2.2.1 = 0 ∧ mr'.2.2.2.2.2.1 = 0) (hcc : c ≤ mr.2.2.2.2.1 ∧ s ≤ mr.2.2.2.2.2.1) (E : Ev X 0 0 dd mr' 0 L' [] σ (QI P)) (K : ∀ r σ', P r σ' → Ev X c s (dd + 1) mr pc' L (iv r :: S) σ' Q) : Ev X c s (dd + 1) mr pc L (rv q :: S) σ Q := e_cv0 hd hp hm ho hci hr hL hl2 h0 hcc E (fun v σ' h => by obtain ⟨r, rfl, h⟩ := h; exact K r σ' h)
theorem e_cs0i {dd k i1 i2 : Nat} {ps : List Nat} {mr' : MRec} {P : Int → SG → Prop} (hd : decode mr.2.1 pc = .ok (.invokestatic k, 3)) (hp : pc + 3 = pc') (hsp : sp mr.2.2.2.2.2.2 k = none) (hm : ml mr.2.2.2.2.2.2 k = some (i1, i2, 2, 0, mr', ps)) (hr : (S.map cat).sum ≤ 8) (hL : argL [] mr'.2.2.1 = L') (hl2 : L'.length = mr'.2.2.1) (h0 : mr'.2.2.2.2.1 = 0 ∧ mr'.2.2.2.2.2.1 = 0) (hcc : c ≤ mr.2.2.2.2.1 ∧ s ≤ mr.2.2.2.2.2.1) (E : Ev X 0 0 dd mr' 0 L' [] σ (QI P)) (K : ∀ r σ', P r σ' → Ev X c s (dd + 1) mr pc' L (iv r :: S) σ' Q) : Ev X c s (dd + 1) mr pc L (S) σ Q := e_cs0 hd hp hsp hm hr hL hl2 h0 hcc E (fun v σ' h => by obtain ⟨r, rfl, h⟩ := h; exact K r σ' h)
theorem e_cv0j {dd k q ci i1 i2 : Nat} {ps : List Nat} {fs : List (Nat ⊕ AV)} {mr' : MRec} {P : Int64 → SG → Prop} (hd : decode mr.2.1 pc = .ok (.invokevirtual k, 3)) (hp : pc + 3 = pc') (hm : ml mr.2.2.2.2.2.2 k = some (i1, i2, 0, 0, mr', ps)) (ho : shp[q]? = some (.inr (ci, fs))) (hci : ci = mr'.2.2.2.2.2.2) (hr : (S.map cat).sum ≤ 8) (hL : argL [rv q] mr'.2.2.1 = L') (hl2 : L'.length = mr'.2.2.1) (h0 : mr'.2.2.2.2.1 = 0 ∧ mr'.2.2.2.2.2.1 = 0) (hcc : c ≤ mr.2.2.2.2.1 ∧ s ≤ mr.2.2.2.2.2.1) (E : Ev X 0 0 dd mr' 0 L' [] σ (QJ P)) (K : ∀ r σ', P r σ' → Ev X c s (dd + 1) mr pc' L (jv r :: S) σ' Q) : Ev X c s (dd + 1) mr pc L (rv q :: S) σ Q := e_cv0 hd hp hm ho hci hr hL hl2 h0 hcc E (fun v σ' h => by obtain ⟨r, rfl, h⟩ := h; exact K r σ' h)
theorem e_cs0j {dd k i1 i2 : Nat} {ps : List Nat} {mr' : MRec} {P : Int64 → SG → Prop} (hd : decode mr.2.1 pc = .ok (.invokestatic k, 3)) (hp : pc + 3 = pc') (hsp : sp mr.2.2.2.2.2.2 k = none) (hm : ml mr.2.2.2.2.2.2 k = some (i1, i2, 2, 0, mr', ps)) (hr : (S.map cat).sum ≤ 8) (hL : argL [] mr'.2.2.1 = L') (hl2 : L'.length = mr'.2.2.1) (h0 : mr'.2.2.2.2.1 = 0 ∧ mr'.2.2.2.2.2.1 = 0) (hcc : c ≤ mr.2.2.2.2.1 ∧ s ≤ mr.2.2.2.2.2.1) (E : Ev X 0 0 dd mr' 0 L' [] σ (QJ P)) (K : ∀ r σ', P r σ' → Ev X c s (dd + 1) mr pc' L (jv r :: S) σ' Q) : Ev X c s (dd + 1) mr pc L (S) σ Q := e_cs0 hd hp hsp hm hr hL hl2 h0 hcc E (fun v σ' h => by obtain ⟨r, rfl, h⟩ := h; exact K r σ' h)
theorem e_cv0v {dd k q ci i1 i2 : Nat} {ps : List Nat} {fs : List (Nat ⊕ AV)} {mr' : MRec} {P : SG → Prop} (hd : decode mr.2.1 pc = .ok (.invokevirtual k, 3)) (hp : pc + 3 = pc') (hm : ml mr.2.2.2.2.2.2 k = some (i1, i2, 0, 0, mr', ps)) (ho : shp[q]? = some (.inr (ci, fs))) (hci : ci = mr'.2.2.2.2.2.2) (hr : (S.map cat).sum ≤ 8) (hL : argL [rv q] mr'.2.2.1 = L') (hl2 : L'.length = mr'.2.2.1) (h0 : mr'.2.2.2.2.1 = 0 ∧ mr'.2.2.2.2.2.1 = 0) (hcc : c ≤ mr.2.2.2.2.1 ∧ s ≤ mr.2.2.2.2.2.1) (E : Ev X 0 0 dd mr' 0 L' [] σ (QV P)) (K : ∀ σ', P σ' → Ev X c s (dd + 1) mr pc' L S σ' Q) : Ev X c s (dd + 1) mr pc L (rv q :: S) σ Q := e_cv0 hd hp hm ho hci hr hL hl2 h0 hcc E (fun v σ' h => by obtain ⟨rfl, h⟩ := h; exact K σ' h)
theorem e_cs0v {dd k i1 i2 : Nat} {ps : List Nat} {mr' : MRec} {P : SG → Prop} (hd : decode mr.2.1 pc = .ok (.invokestatic k, 3)) (hp : pc + 3 = pc') (hsp : sp mr.2.2.2.2.2.2 k = none) (hm : ml mr.2.2.2.2.2.2 k = some (i1, i2, 2, 0, mr', ps)) (hr : (S.map cat).sum ≤ 8) (hL : argL [] mr'.2.2.1 = L') (hl2 : L'.length = mr'.2.2.1) (h0 : mr'.2.2.2.2.1 = 0 ∧ mr'.2.2.2.2.2.1 = 0) (hcc : c ≤ mr.2.2.2.2.1 ∧ s ≤ mr.2.2.2.2.2.1) (E : Ev X 0 0 dd mr' 0 L' [] σ (QV P)) (K : ∀ σ', P σ' → Ev X c s (dd + 1) mr pc' L S σ' Q) : Ev X c s (dd + 1) mr pc L (S) σ Q := e_cs0 hd hp hsp hm hr hL hl2 h0 hcc E (fun v σ' h => by obtain ⟨rfl, h⟩ := h; exact K σ' h)
theorem e_cv1i {dd k q ci i1 i2 : Nat} {ps : List Nat} {fs : List (Nat ⊕ AV)} {mr' : MRec} {a1 : AV} {P : Int → SG → Prop} (hd : decode mr.2.1 pc = .ok (.invokevirtual k, 3)) (hp : pc + 3 = pc') (hm : ml mr.2.2.2.2.2.2 k = some (i1, i2, 0, 1, mr', ps)) (ho : shp[q]? = some (.inr (ci, fs))) (hci : ci = mr'.2.2.2.2.2.2) (hr : (S.map cat).sum ≤ 8) (hL : argL [rv q, a1] mr'.2.2.1 = L') (hl2 : L'.length = mr'.2.2.1) (h0 : mr'.2.2.2.2.1 = 0 ∧ mr'.2.2.2.2.2.1 = 0) (hcc : c ≤ mr.2.2.2.2.1 ∧ s ≤ mr.2.2.2.2.2.1) (E : Ev X 0 0 dd mr' 0 L' [] σ (QI P)) (K : ∀ r σ', P r σ' → Ev X c s (dd + 1) mr pc' L (iv r :: S) σ' Q) : Ev X c s (dd + 1) mr pc L (a1 :: rv q :: S) σ Q := e_cv1 hd hp hm ho hci hr hL hl2 h0 hcc E (fun v σ' h => by obtain ⟨r, rfl, h⟩ := h; exact K r σ' h)
theorem e_cs1i {dd k i1 i2 : Nat} {ps : List Nat} {mr' : MRec} {a1 : AV} {P : Int → SG → Prop} (hd : decode mr.2.1 pc = .ok (.invokestatic k, 3)) (hp : pc + 3 = pc') (hsp : sp mr.2.2.2.2.2.2 k = none) (hm : ml mr.2.2.2.2.2.2 k = some (i1, i2, 2, 1, mr', ps)) (hr : (S.map cat).sum ≤ 8) (hL : argL [a1] mr'.2.2.1 = L') (hl2 : L'.length = mr'.2.2.1) (h0 : mr'.2.2.2.2.1 = 0 ∧ mr'.2.2.2.2.2.1 = 0) (hcc : c ≤ mr.2.2.2.2.1 ∧ s ≤ mr.2.2.2.2.2.1) (E : Ev X 0 0 dd mr' 0 L' [] σ (QI P)) (K : ∀ r σ', P r σ' → Ev X c s (dd + 1) mr pc' L (iv r :: S) σ' Q) : Ev X c s (dd + 1) mr pc L (a1 :: S) σ Q := e_cs1 hd hp hsp hm hr hL hl2 h0 hcc E (fun v σ' h => by obtain ⟨r, rfl, h⟩ := h; exact K r σ' h)
theorem e_cv1j {dd k q ci i1 i2 : Nat} {ps : List Nat} {fs : List (Nat ⊕ AV)} {mr' : MRec} {a1 : AV} {P : Int64 → SG → Prop} (hd : decode mr.2.1 pc = .ok (.invokevirtual k, 3)) (hp : pc + 3 = pc') (hm : ml mr.2.2.2.2.2.2 k = some (i1, i2, 0, 1, mr', ps)) (ho : shp[q]? = some (.inr (ci, fs))) (hci : ci = mr'.2.2.2.2.2.2) (hr : (S.map cat).sum ≤ 8) (hL : argL [rv q, a1] mr'.2.2.1 = L') (hl2 : L'.length = mr'.2.2.1) (h0 : mr'.2.2.2.2.1 = 0 ∧ mr'.2.2.2.2.2.1 = 0) (hcc : c ≤ mr.2.2.2.2.1 ∧ s ≤ mr.2.2.2.2.2.1) (E : Ev X 0 0 dd mr' 0 L' [] σ (QJ P)) (K : ∀ r σ', P r σ' → Ev X c s (dd + 1) mr pc' L (jv r :: S) σ' Q) : Ev X c s (dd + 1) mr pc L (a1 :: rv q :: S) σ Q := e_cv1 hd hp hm ho hci hr hL hl2 h0 hcc E (fun v σ' h => by obtain ⟨r, rfl, h⟩ := h; exact K r σ' h)
theorem e_cs1j {dd k i1 i2 : Nat} {ps : List Nat} {mr' : MRec} {a1 : AV} {P : Int64 → SG → Prop} (hd : decode mr.2.1 pc = .ok (.invokestatic k, 3)) (hp : pc + 3 = pc') (hsp : sp mr.2.2.2.2.2.2 k = none) (hm : ml mr.2.2.2.2.2.2 k = some (i1, i2, 2, 1, mr', ps)) (hr : (S.map cat).sum ≤ 8) (hL : argL [a1] mr'.2.2.1 = L') (hl2 : L'.length = mr'.2.2.1) (h0 : mr'.2.2.2.2.1 = 0 ∧ mr'.2.2.2.2.2.1 = 0) (hcc : c ≤ mr.2.2.2.2.1 ∧ s ≤ mr.2.2.2.2.2.1) (E : Ev X 0 0 dd mr' 0 L' [] σ (QJ P)) (K : ∀ r σ', P r σ' → Ev X c s (dd + 1) mr pc' L (jv r :: S) σ' Q) : Ev X c s (dd + 1) mr pc L (a1 :: S) σ Q := e_cs1 hd hp hsp hm hr hL hl2 h0 hcc E (fun v σ' h => by obtain ⟨r, rfl, h⟩ := h; exact K r σ' h)
theorem e_cv1v {dd k q ci i1 i2 : Nat} {ps : List Nat} {fs : List (Nat ⊕ AV)} {mr' : MRec} {a1 : AV} {P : SG → Prop} (hd : decode mr.2.1 pc = .ok (.invokevirtual k, 3)) (hp : pc + 3 = pc') (hm : ml mr.2.2.2.2.2.2 k = some (i1, i2, 0, 1, mr', ps)) (ho : shp[q]? = some (.inr (ci, fs))) (hci : ci = mr'.2.2.2.2.2.2) (hr : (S.map cat).sum ≤ 8) (hL : argL [rv q, a1] mr'.2.2.1 = L') (hl2 : L'.length = mr'.2.2.1) (h0 : mr'.2.2.2.2.1 = 0 ∧ mr'.2.2.2.2.2.1 = 0) (hcc : c ≤ mr.2.2.2.2.1 ∧ s ≤ mr.2.2.2.2.2.1) (E : Ev X 0 0 dd mr' 0 L' [] σ (QV P)) (K : ∀ σ', P σ' → Ev X c s (dd + 1) mr pc' L S σ' Q) : Ev X c s (dd + 1) mr pc L (a1 :: rv q :: S) σ Q := e_cv1 hd hp hm ho hci hr hL hl2 h0 hcc E (fun v σ' h => by obtain ⟨rfl, h⟩ := h; exact K σ' h)
theorem e_cs1v {dd k i1 i2 : Nat} {ps : List Nat} {mr' : MRec} {a1 : AV} {P : SG → Prop} (hd : decode mr.2.1 pc = .ok (.invokestatic k, 3)) (hp : pc + 3 = pc') (hsp : sp mr.2.2.2.2.2.2 k = none) (hm : ml mr.2.2.2.2.2.2 k = some (i1, i2, 2, 1, mr', ps)) (hr : (S.map cat).sum ≤ 8) (hL : argL [a1] mr'.2.2.1 = L') (hl2 : L'.length = mr'.2.2.1) (h0 : mr'.2.2.2.2.1 = 0 ∧ mr'.2.2.2.2.2.1 = 0) (hcc : c ≤ mr.2.2.2.2.1 ∧ s ≤ mr.2.2.2.2.2.1) (E : Ev X 0 0 dd mr' 0 L' [] σ (QV P)) (K : ∀ σ', P σ' → Ev X c s (dd + 1) mr pc' L S σ' Q) : Ev X c s (dd + 1) mr pc L (a1 :: S) σ Q := e_cs1 hd hp hsp hm hr hL hl2 h0 hcc E (fun v σ' h => by obtain ⟨rfl, h⟩ := h; exact K σ' h)
theorem e_cv2i {dd k q ci i1 i2 : Nat} {ps : List Nat} {fs : List (Nat ⊕ AV)} {mr' : MRec} {a1 a2 : AV} {P : Int → SG → Prop} (hd : decode mr.2.1 pc = .ok (.invokevirtual k, 3)) (hp : pc + 3 = pc') (hm : ml mr.2.2.2.2.2.2 k = some (i1, i2, 0, 2, mr', ps)) (ho : shp[q]? = some (.inr (ci, fs))) (hci : ci = mr'.2.2.2.2.2.2) (hr : (S.map cat).sum ≤ 8) (hL : argL [rv q, a1, a2] mr'.2.2.1 = L') (hl2 : L'.length = mr'.2.2.1) (h0 : mr'.2.2.2.2.1 = 0 ∧ mr'.2.2.2.2.2.1 = 0) (hcc : c ≤ mr.2.2.2.2.1 ∧ s ≤ mr.2.2.2.2.2.1) (E : Ev X 0 0 dd mr' 0 L' [] σ (QI P)) (K : ∀ r σ', P r σ' → Ev X c s (dd + 1) mr pc' L (iv r :: S) σ' Q) : Ev X c s (dd + 1) mr pc L (a2 :: a1 :: rv q :: S) σ Q := e_cv2 hd hp hm ho hci hr hL hl2 h0 hcc E (fun v σ' h => by obtain ⟨r, rfl, h⟩ := h; exact K r σ' h)
theorem e_cs2i {dd k i1 i2 : Nat} {ps : List Nat} {mr' : MRec} {a1 a2 : AV} {P : Int → SG → Prop} (hd : decode mr.2.1 pc = .ok (.invokestatic k, 3)) (hp : pc + 3 = pc') (hsp : sp mr.2.2.2.2.2.2 k = none) (hm : ml mr.2.2.2.2.2.2 k = some (i1, i2, 2, 2, mr', ps)) (hr : (S.map cat).sum ≤ 8) (hL : argL [a1, a2] mr'.2.2.1 = L') (hl2 : L'.length = mr'.2.2.1) (h0 : mr'.2.2.2.2.1 = 0 ∧ mr'.2.2.2.2.2.1 = 0) (hcc : c ≤ mr.2.2.2.2.1 ∧ s ≤ mr.2.2.2.2.2.1) (E : Ev X 0 0 dd mr' 0 L' [] σ (QI P)) (K : ∀ r σ', P r σ' → Ev X c s (dd + 1) mr pc' L (iv r :: S) σ' Q) : Ev X c s (dd + 1) mr pc L (a2 :: a1 :: S) σ Q := e_cs2 hd hp hsp hm hr hL hl2 h0 hcc E (fun v σ' h => by obtain ⟨r, rfl, h⟩ := h; exact K r σ' h)
theorem e_cv2j {dd k q ci i1 i2 : Nat} {ps : List Nat} {fs : List (Nat ⊕ AV)} {mr' : MRec} {a1 a2 : AV} {P : Int64 → SG → Prop} (hd : decode mr.2.1 pc = .ok (.invokevirtual k, 3)) (hp : pc + 3 = pc') (hm : ml mr.2.2.2.2.2.2 k = some (i1, i2, 0, 2, mr', ps)) (ho : shp[q]? = some (.inr (ci, fs))) (hci : ci = mr'.2.2.2.2.2.2) (hr : (S.map cat).sum ≤ 8) (hL : argL [rv q, a1, a2] mr'.2.2.1 = L') (hl2 : L'.length = mr'.2.2.1) (h0 : mr'.2.2.2.2.1 = 0 ∧ mr'.2.2.2.2.2.1 = 0) (hcc : c ≤ mr.2.2.2.2.1 ∧ s ≤ mr.2.2.2.2.2.1) (E : Ev X 0 0 dd mr' 0 L' [] σ (QJ P)) (K : ∀ r σ', P r σ' → Ev X c s (dd + 1) mr pc' L (jv r :: S) σ' Q) : Ev X c s (dd + 1) mr pc L (a2 :: a1 :: rv q :: S) σ Q := e_cv2 hd hp hm ho hci hr hL hl2 h0 hcc E (fun v σ' h => by obtain ⟨r, rfl, h⟩ := h; exact K r σ' h)
theorem e_cs2j {dd k i1 i2 : Nat} {ps : List Nat} {mr' : MRec} {a1 a2 : AV} {P : Int64 → SG → Prop} (hd : decode mr.2.1 pc = .ok (.invokestatic k, 3)) (hp : pc + 3 = pc') (hsp : sp mr.2.2.2.2.2.2 k = none) (hm : ml mr.2.2.2.2.2.2 k = some (i1, i2, 2, 2, mr', ps)) (hr : (S.map cat).sum ≤ 8) (hL : argL [a1, a2] mr'.2.2.1 = L') (hl2 : L'.length = mr'.2.2.1) (h0 : mr'.2.2.2.2.1 = 0 ∧ mr'.2.2.2.2.2.1 = 0) (hcc : c ≤ mr.2.2.2.2.1 ∧ s ≤ mr.2.2.2.2.2.1) (E : Ev X 0 0 dd mr' 0 L' [] σ (QJ P)) (K : ∀ r σ', P r σ' → Ev X c s (dd + 1) mr pc' L (jv r :: S) σ' Q) : Ev X c s (dd + 1) mr pc L (a2 :: a1 :: S) σ Q := e_cs2 hd hp hsp hm hr hL hl2 h0 hcc E (fun v σ' h => by obtain ⟨r, rfl, h⟩ := h; exact K r σ' h)
theorem e_cv2v {dd k q ci i1 i2 : Nat} {ps : List Nat} {fs : List (Nat ⊕ AV)} {mr' : MRec} {a1 a2 : AV} {P : SG → Prop} (hd : decode mr.2.1 pc = .ok (.invokevirtual k, 3)) (hp : pc + 3 = pc') (hm : ml mr.2.2.2.2.2.2 k = some (i1, i2, 0, 2, mr', ps)) (ho : shp[q]? = some (.inr (ci, fs))) (hci : ci = mr'.2.2.2.2.2.2) (hr : (S.map cat).sum ≤ 8) (hL : argL [rv q, a1, a2] mr'.2.2.1 = L') (hl2 : L'.length = mr'.2.2.1) (h0 : mr'.2.2.2.2.1 = 0 ∧ mr'.2.2.2.2.2.1 = 0) (hcc : c ≤ mr.2.2.2.2.1 ∧ s ≤ mr.2.2.2.2.2.1) (E : Ev X 0 0 dd mr' 0 L' [] σ (QV P)) (K : ∀ σ', P σ' → Ev X c s (dd + 1) mr pc' L S σ' Q) : Ev X c s (dd + 1) mr pc L (a2 :: a1 :: rv q :: S) σ Q := e_cv2 hd hp hm ho hci hr hL hl2 h0 hcc E (fun v σ' h => by obtain ⟨rfl, h⟩ := h; exact K σ' h)
theorem e_cs2v {dd k i1 i2 : Nat} {ps : List Nat} {mr' : MRec} {a1 a2 : AV} {P : SG → Prop} (hd : decode mr.2.1 pc = .ok (.invokestatic k, 3)) (hp : pc + 3 = pc') (hsp : sp mr.2.2.2.2.2.2 k = none) (hm : ml mr.2.2.2.2.2.2 k = some (i1, i2, 2, 2, mr', ps)) (hr : (S.map cat).sum ≤ 8) (hL : argL [a1, a2] mr'.2.2.1 = L') (hl2 : L'.length = mr'.2.2.1) (h0 : mr'.2.2.2.2.1 = 0 ∧ mr'.2.2.2.2.2.1 = 0) (hcc : c ≤ mr.2.2.2.2.1 ∧ s ≤ mr.2.2.2.2.2.1) (E : Ev X 0 0 dd mr' 0 L' [] σ (QV P)) (K : ∀ σ', P σ' → Ev X c s (dd + 1) mr pc' L S σ' Q) : Ev X c s (dd + 1) mr pc L (a2 :: a1 :: S) σ Q := e_cs2 hd hp hsp hm hr hL hl2 h0 hcc E (fun v σ' h => by obtain ⟨rfl, h⟩ := h; exact K σ' h)
theorem e_cv3i {dd k q ci i1 i2 : Nat} {ps : List Nat} {fs : List (Nat ⊕ AV)} {mr' : MRec} {a1 a2 a3 : AV} {P : Int → SG → Prop} (hd : decode mr.2.1 pc = .ok (.invokevirtual k, 3)) (hp : pc + 3 = pc') (hm : ml mr.2.2.2.2.2.2 k = some (i1, i2, 0, 3, mr', ps)) (ho : shp[q]? = some (.inr (ci, fs))) (hci : ci = mr'.2.2.2.2.2.2) (hr : (S.map cat).sum ≤ 8) (hL : argL [rv q, a1, a2, a3] mr'.2.2.1 = L') (hl2 : L'.length = mr'.2.2.1) (h0 : mr'.2.2.2.2.1 = 0 ∧ mr'.2.2.2.2.2.1 = 0) (hcc : c ≤ mr.2.2.2.2.1 ∧ s ≤ mr.2.2.2.2.2.1) (E : Ev X 0 0 dd mr' 0 L' [] σ (QI P)) (K : ∀ r σ', P r σ' → Ev X c s (dd + 1) mr pc' L (iv r :: S) σ' Q) : Ev X c s (dd + 1) mr pc L (a3 :: a2 :: a1 :: rv q :: S) σ Q := e_cv3 hd hp hm ho hci hr hL hl2 h0 hcc E (fun v σ' h => by obtain ⟨r, rfl, h⟩ := h; exact K r σ' h)
theorem e_cs3i {dd k i1 i2 : Nat} {ps : List Nat} {mr' : MRec} {a1 a2 a3 : AV} {P : Int → SG → Prop} (hd : decode mr.2.1 pc = .ok (.invokestatic k, 3)) (hp : pc + 3 = pc') (hsp : sp mr.2.2.2.2.2.2 k = none) (hm : ml mr.2.2.2.2.2.2 k = some (i1, i2, 2, 3, mr', ps)) (hr : (S.map cat).sum ≤ 8) (hL : argL [a1, a2, a3] mr'.2.2.1 = L') (hl2 : L'.length = mr'.2.2.1) (h0 : mr'.2.2.2.2.1 = 0 ∧ mr'.2.2.2.2.2.1 = 0) (hcc : c ≤ mr.2.2.2.2.1 ∧ s ≤ mr.2.2.2.2.2.1) (E : Ev X 0 0 dd mr' 0 L' [] σ (QI P)) (K : ∀ r σ', P r σ' → Ev X c s (dd + 1) mr pc' L (iv r :: S) σ' Q) : Ev X c s (dd + 1) mr pc L (a3 :: a2 :: a1 :: S) σ Q := e_cs3 hd hp hsp hm hr hL hl2 h0 hcc E (fun v σ' h => by obtain ⟨r, rfl, h⟩ := h; exact K r σ' h)
theorem e_cv3j {dd k q ci i1 i2 : Nat} {ps : List Nat} {fs : List (Nat ⊕ AV)} {mr' : MRec} {a1 a2 a3 : AV} {P : Int64 → SG → Prop} (hd : decode mr.2.1 pc = .ok (.invokevirtual k, 3)) (hp : pc + 3 = pc') (hm : ml mr.2.2.2.2.2.2 k = some (i1, i2, 0, 3, mr', ps)) (ho : shp[q]? = some (.inr (ci, fs))) (hci : ci = mr'.2.2.2.2.2.2) (hr : (S.map cat).sum ≤ 8) (hL : argL [rv q, a1, a2, a3] mr'.2.2.1 = L') (hl2 : L'.length = mr'.2.2.1) (h0 : mr'.2.2.2.2.1 = 0 ∧ mr'.2.2.2.2.2.1 = 0) (hcc : c ≤ mr.2.2.2.2.1 ∧ s ≤ mr.2.2.2.2.2.1) (E : Ev X 0 0 dd mr' 0 L' [] σ (QJ P)) (K : ∀ r σ', P r σ' → Ev X c s (dd + 1) mr pc' L (jv r :: S) σ' Q) : Ev X c s (dd + 1) mr pc L (a3 :: a2 :: a1 :: rv q :: S) σ Q := e_cv3 hd hp hm ho hci hr hL hl2 h0 hcc E (fun v σ' h => by obtain ⟨r, rfl, h⟩ := h; exact K r σ' h)
theorem e_cs3j {dd k i1 i2 : Nat} {ps : List Nat} {mr' : MRec} {a1 a2 a3 : AV} {P : Int64 → SG → Prop} (hd : decode mr.2.1 pc = .ok (.invokestatic k, 3)) (hp : pc + 3 = pc') (hsp : sp mr.2.2.2.2.2.2 k = none) (hm : ml mr.2.2.2.2.2.2 k = some (i1, i2, 2, 3, mr', ps)) (hr : (S.map cat).sum ≤ 8) (hL : argL [a1, a2, a3] mr'.2.2.1 = L') (hl2 : L'.length = mr'.2.2.1) (h0 : mr'.2.2.2.2.1 = 0 ∧ mr'.2.2.2.2.2.1 = 0) (hcc : c ≤ mr.2.2.2.2.1 ∧ s ≤ mr.2.2.2.2.2.1) (E : Ev X 0 0 dd mr' 0 L' [] σ (QJ P)) (K : ∀ r σ', P r σ' → Ev X c s (dd + 1) mr pc' L (jv r :: S) σ' Q) : Ev X c s (dd + 1) mr pc L (a3 :: a2 :: a1 :: S) σ Q := e_cs3 hd hp hsp hm hr hL hl2 h0 hcc E (fun v σ' h => by obtain ⟨r, rfl, h⟩ := h; exact K r σ' h)
theorem e_cv3v {dd k q ci i1 i2 : Nat} {ps : List Nat} {fs : List (Nat ⊕ AV)} {mr' : MRec} {a1 a2 a3 : AV} {P : SG → Prop} (hd : decode mr.2.1 pc = .ok (.invokevirtual k, 3)) (hp : pc + 3 = pc') (hm : ml mr.2.2.2.2.2.2 k = some (i1, i2, 0, 3, mr', ps)) (ho : shp[q]? = some (.inr (ci, fs))) (hci : ci = mr'.2.2.2.2.2.2) (hr : (S.map cat).sum ≤ 8) (hL : argL [rv q, a1, a2, a3] mr'.2.2.1 = L') (hl2 : L'.length = mr'.2.2.1) (h0 : mr'.2.2.2.2.1 = 0 ∧ mr'.2.2.2.2.2.1 = 0) (hcc : c ≤ mr.2.2.2.2.1 ∧ s ≤ mr.2.2.2.2.2.1) (E : Ev X 0 0 dd mr' 0 L' [] σ (QV P)) (K : ∀ σ', P σ' → Ev X c s (dd + 1) mr pc' L S σ' Q) : Ev X c s (dd + 1) mr pc L (a3 :: a2 :: a1 :: rv q :: S) σ Q := e_cv3 hd hp hm ho hci hr hL hl2 h0 hcc E (fun v σ' h => by obtain ⟨rfl, h⟩ := h; exact K σ' h)
theorem e_cs3v {dd k i1 i2 : Nat} {ps : List Nat} {mr' : MRec} {a1 a2 a3 : AV} {P : SG → Prop} (hd : decode mr.2.1 pc = .ok (.invokestatic k, 3)) (hp : pc + 3 = pc') (hsp : sp mr.2.2.2.2.2.2 k = none) (hm : ml mr.2.2.2.2.2.2 k = some (i1, i2, 2, 3, mr', ps)) (hr : (S.map cat).sum ≤ 8) (hL : argL [a1, a2, a3] mr'.2.2.1 = L') (hl2 : L'.length = mr'.2.2.1) (h0 : mr'.2.2.2.2.1 = 0 ∧ mr'.2.2.2.2.2.1 = 0) (hcc : c ≤ mr.2.2.2.2.1 ∧ s ≤ mr.2.2.2.2.2.1) (E : Ev X 0 0 dd mr' 0 L' [] σ (QV P)) (K : ∀ σ', P σ' → Ev X c s (dd + 1) mr pc' L S σ' Q) : Ev X c s (dd + 1) mr pc L (a3 :: a2 :: a1 :: S) σ Q := e_cs3 hd hp hsp hm hr hL hl2 h0 hcc E (fun v σ' h => by obtain ⟨rfl, h⟩ := h; exact K σ' h)
theorem e_cv4i {dd k q ci i1 i2 : Nat} {ps : List Nat} {fs : List (Nat ⊕ AV)} {mr' : MRec} {a1 a2 a3 a4 : AV} {P : Int → SG → Prop} (hd : decode mr.2.1 pc = .ok (.invokevirtual k, 3)) (hp : pc + 3 = pc') (hm : ml mr.2.2.2.2.2.2 k = some (i1, i2, 0, 4, mr', ps)) (ho : shp[q]? = some (.inr (ci, fs))) (hci : ci = mr'.2.2.2.2.2.2) (hr : (S.map cat).sum ≤ 8) (hL : argL [rv q, a1, a2, a3, a4] mr'.2.2.1 = L') (hl2 : L'.length = mr'.2.2.1) (h0 : mr'.2.2.2.2.1 = 0 ∧ mr'.2.2.2.2.2.1 = 0) (hcc : c ≤ mr.2.2.2.2.1 ∧ s ≤ mr.2.2.2.2.2.1) (E : Ev X 0 0 dd mr' 0 L' [] σ (QI P)) (K : ∀ r σ', P r σ' → Ev X c s (dd + 1) mr pc' L (iv r :: S) σ' Q) : Ev X c s (dd + 1) mr pc L (a4 :: a3 :: a2 :: a1 :: rv q :: S) σ Q := e_cv4 hd hp hm ho hci hr hL hl2 h0 hcc E (fun v σ' h => by obtain ⟨r, rfl, h⟩ := h; exact K r σ' h)
theorem e_cs4i {dd k i1 i2 : Nat} {ps : List Nat} {mr' : MRec} {a1 a2 a3 a4 : AV} {P : Int → SG → Prop} (hd : decode mr.2.1 pc = .ok (.invokestatic k, 3)) (hp : pc + 3 = pc') (hsp : sp mr.2.2.2.2.2.2 k = none) (hm : ml mr.2.2.2.2.2.2 k = some (i1, i2, 2, 4, mr', ps)) (hr : (S.map cat).sum ≤ 8) (hL : argL [a1, a2, a3, a4] mr'.2.2.1 = L') (hl2 : L'.length = mr'.2.2.1) (h0 : mr'.2.2.2.2.1 = 0 ∧ mr'.2.2.2.2.2.1 = 0) (hcc : c ≤ mr.2.2.2.2.1 ∧ s ≤ mr.2.2.2.2.2.1) (E : Ev X 0 0 dd mr' 0 L' [] σ (QI P)) (K : ∀ r σ', P r σ' → Ev X c s (dd + 1) mr pc' L (iv r :: S) σ' Q) : Ev X c s (dd + 1) mr pc L (a4 :: a3 :: a2 :: a1 :: S) σ Q := e_cs4 hd hp hsp hm hr hL hl2 h0 hcc E (fun v σ' h => by obtain ⟨r, rfl, h⟩ := h; exact K r σ' h)
theorem e_cv4j {dd k q ci i1 i2 : Nat} {ps : List Nat} {fs : List (Nat ⊕ AV)} {mr' : MRec} {a1 a2 a3 a4 : AV} {P : Int64 → SG → Prop} (hd : decode mr.2.1 pc = .ok (.invokevirtual k, 3)) (hp : pc + 3 = pc') (hm : ml mr.2.2.2.2.2.2 k = some (i1, i2, 0, 4, mr', ps)) (ho : shp[q]? = some (.inr (ci, fs))) (hci : ci = mr'.2.2.2.2.2.2) (hr : (S.map cat).sum ≤ 8) (hL : argL [rv q, a1, a2, a3, a4] mr'.2.2.1 = L') (hl2 : L'.length = mr'.2.2.1) (h0 : mr'.2.2.2.2.1 = 0 ∧ mr'.2.2.2.2.2.1 = 0) (hcc : c ≤ mr.2.2.2.2.1 ∧ s ≤ mr.2.2.2.2.2.1) (E : Ev X 0 0 dd mr' 0 L' [] σ (QJ P)) (K : ∀ r σ', P r σ' → Ev X c s (dd + 1) mr pc' L (jv r :: S) σ' Q) : Ev X c s (dd + 1) mr pc L (a4 :: a3 :: a2 :: a1 :: rv q :: S) σ Q := e_cv4 hd hp hm ho hci hr hL hl2 h0 hcc E (fun v σ' h => by obtain ⟨r, rfl, h⟩ := h; exact K r σ' h)
theorem e_cs4j {dd k i1 i2 : Nat} {ps : List Nat} {mr' : MRec} {a1 a2 a3 a4 : AV} {P : Int64 → SG → Prop} (hd : decode mr.2.1 pc = .ok (.invokestatic k, 3)) (hp : pc + 3 = pc') (hsp : sp mr.2.2.2.2.2.2 k = none) (hm : ml mr.2.2.2.2.2.2 k = some (i1, i2, 2, 4, mr', ps)) (hr : (S.map cat).sum ≤ 8) (hL : argL [a1, a2, a3, a4] mr'.2.2.1 = L') (hl2 : L'.length = mr'.2.2.1) (h0 : mr'.2.2.2.2.1 = 0 ∧ mr'.2.2.2.2.2.1 = 0) (hcc : c ≤ mr.2.2.2.2.1 ∧ s ≤ mr.2.2.2.2.2.1) (E : Ev X 0 0 dd mr' 0 L' [] σ (QJ P)) (K : ∀ r σ', P r σ' → Ev X c s (dd + 1) mr pc' L (jv r :: S) σ' Q) : Ev X c s (dd + 1) mr pc L (a4 :: a3 :: a2 :: a1 :: S) σ Q := e_cs4 hd hp hsp hm hr hL hl2 h0 hcc E (fun v σ' h => by obtain ⟨r, rfl, h⟩ := h; exact K r σ' h)
theorem e_cv4v {dd k q ci i1 i2 : Nat} {ps : List Nat} {fs : List (Nat ⊕ AV)} {mr' : MRec} {a1 a2 a3 a4 : AV} {P : SG → Prop} (hd : decode mr.2.1 pc = .ok (.invokevirtual k, 3)) (hp : pc + 3 = pc') (hm : ml mr.2.2.2.2.2.2 k = some (i1, i2, 0, 4, mr', ps)) (ho : shp[q]? = some (.inr (ci, fs))) (hci : ci = mr'.2.2.2.2.2.2) (hr : (S.map cat).sum ≤ 8) (hL : argL [rv q, a1, a2, a3, a4] mr'.2.2.1 = L') (hl2 : L'.length = mr'.2.2.1) (h0 : mr'.2.2.2.2.1 = 0 ∧ mr'.2.2.2.2.2.1 = 0) (hcc : c ≤ mr.2.2.2.2.1 ∧ s ≤ mr.2.2.2.2.2.1) (E : Ev X 0 0 dd mr' 0 L' [] σ (QV P)) (K : ∀ σ', P σ' → Ev X c s (dd + 1) mr pc' L S σ' Q) : Ev X c s (dd + 1) mr pc L (a4 :: a3 :: a2 :: a1 :: rv q :: S) σ Q := e_cv4 hd hp hm ho hci hr hL hl2 h0 hcc E (fun v σ' h => by obtain ⟨rfl, h⟩ := h; exact K σ' h)
theorem e_cs4v {dd k i1 i2 : Nat} {ps : List Nat} {mr' : MRec} {a1 a2 a3 a4 : AV} {P : SG → Prop} (hd : decode mr.2.1 pc = .ok (.invokestatic k, 3)) (hp : pc + 3 = pc') (hsp : sp mr.2.2.2.2.2.2 k = none) (hm : ml mr.2.2.2.2.2.2 k = some (i1, i2, 2, 4, mr', ps)) (hr : (S.map cat).sum ≤ 8) (hL : argL [a1, a2, a3, a4] mr'.2.2.1 = L') (hl2 : L'.length = mr'.2.2.1) (h0 : mr'.2.2.2.2.1 = 0 ∧ mr'.2.2.2.2.2.1 = 0) (hcc : c ≤ mr.2.2.2.2.1 ∧ s ≤ mr.2.2.2.2.2.1) (E : Ev X 0 0 dd mr' 0 L' [] σ (QV P)) (K : ∀ σ', P σ' → Ev X c s (dd + 1) mr pc' L S σ' Q) : Ev X c s (dd + 1) mr pc L (a4 :: a3 :: a2 :: a1 :: S) σ Q := e_cs4 hd hp hsp hm hr hL hl2 h0 hcc E (fun v σ' h => by obtain ⟨rfl, h⟩ := h; exact K σ' h)
theorem e_cv5i {dd k q ci i1 i2 : Nat} {ps : List Nat} {fs : List (Nat ⊕ AV)} {mr' : MRec} {a1 a2 a3 a4 a5 : AV} {P : Int → SG → Prop} (hd : decode mr.2.1 pc = .ok (.invokevirtual k, 3)) (hp : pc + 3 = pc') (hm : ml mr.2.2.2.2.2.2 k = some (i1, i2, 0, 5, mr', ps)) (ho : shp[q]? = some (.inr (ci, fs))) (hci : ci = mr'.2.2.2.2.2.2) (hr : (S.map cat).sum ≤ 8) (hL : argL [rv q, a1, a2, a3, a4, a5] mr'.2.2.1 = L') (hl2 : L'.length = mr'.2.2.1) (h0 : mr'.2.2.2.2.1 = 0 ∧ mr'.2.2.2.2.2.1 = 0) (hcc : c ≤ mr.2.2.2.2.1 ∧ s ≤ mr.2.2.2.2.2.1) (E : Ev X 0 0 dd mr' 0 L' [] σ (QI P)) (K : ∀ r σ', P r σ' → Ev X c s (dd + 1) mr pc' L (iv r :: S) σ' Q) : Ev X c s (dd + 1) mr pc L (a5 :: a4 :: a3 :: a2 :: a1 :: rv q :: S) σ Q := e_cv5 hd hp hm ho hci hr hL hl2 h0 hcc E (fun v σ' h => by obtain ⟨r, rfl, h⟩ := h; exact K r σ' h)
theorem e_cs5i {dd k i1 i2 : Nat} {ps : List Nat} {mr' : MRec} {a1 a2 a3 a4 a5 : AV} {P : Int → SG → Prop} (hd : decode mr.2.1 pc = .ok (.invokestatic k, 3)) (hp : pc + 3 = pc') (hsp : sp mr.2.2.2.2.2.2 k = none) (hm : ml mr.2.2.2.2.2.2 k = some (i1, i2, 2, 5, mr', ps)) (hr : (S.map cat).sum ≤ 8) (hL : argL [a1, a2, a3, a4, a5] mr'.2.2.1 = L') (hl2 : L'.length = mr'.2.2.1) (h0 : mr'.2.2.2.2.1 = 0 ∧ mr'.2.2.2.2.2.1 = 0) (hcc : c ≤ mr.2.2.2.2.1 ∧ s ≤ mr.2.2.2.2.2.1) (E : Ev X 0 0 dd mr' 0 L' [] σ (QI P)) (K : ∀ r σ', P r σ' → Ev X c s (dd + 1) mr pc' L (iv r :: S) σ' Q) : Ev X c s (dd + 1) mr pc L (a5 :: a4 :: a3 :: a2 :: a1 :: S) σ Q := e_cs5 hd hp hsp hm hr hL hl2 h0 hcc E (fun v σ' h => by obtain ⟨r, rfl, h⟩ := h; exact K r σ' h)
theorem e_cv5j {dd k q ci i1 i2 : Nat} {ps : List Nat} {fs : List (Nat ⊕ AV)} {mr' : MRec} {a1 a2 a3 a4 a5 : AV} {P : Int64 → SG → Prop} (hd : decode mr.2.1 pc = .ok (.invokevirtual k, 3)) (hp : pc + 3 = pc') (hm : ml mr.2.2.2.2.2.2 k = some (i1, i2, 0, 5, mr', ps)) (ho : shp[q]? = some (.inr (ci, fs))) (hci : ci = mr'.2.2.2.2.2.2) (hr : (S.map cat).sum ≤ 8) (hL : argL [rv q, a1, a2, a3, a4, a5] mr'.2.2.1 = L') (hl2 : L'.length = mr'.2.2.1) (h0 : mr'.2.2.2.2.1 = 0 ∧ mr'.2.2.2.2.2.1 = 0) (hcc : c ≤ mr.2.2.2.2.1 ∧ s ≤ mr.2.2.2.2.2.1) (E : Ev X 0 0 dd mr' 0 L' [] σ (QJ P)) (K : ∀ r σ', P r σ' → Ev X c s (dd + 1) mr pc' L (jv r :: S) σ' Q) : Ev X c s (dd + 1) mr pc L (a5 :: a4 :: a3 :: a2 :: a1 :: rv q :: S) σ Q := e_cv5 hd hp hm ho hci hr hL hl2 h0 hcc E (fun v σ' h => by obtain ⟨r, rfl, h⟩ := h; exact K r σ' h)
theorem e_cs5j {dd k i1 i2 : Nat} {ps : List Nat} {mr' : MRec} {a1 a2 a3 a4 a5 : AV} {P : Int64 → SG → Prop} (hd : decode mr.2.1 pc = .ok (.invokestatic k, 3)) (hp : pc + 3 = pc') (hsp : sp mr.2.2.2.2.2.2 k = none) (hm : ml mr.2.2.2.2.2.2 k = some (i1, i2, 2, 5, mr', ps)) (hr : (S.map cat).sum ≤ 8) (hL : argL [a1, a2, a3, a4, a5] mr'.2.2.1 = L') (hl2 : L'.length = mr'.2.2.1) (h0 : mr'.2.2.2.2.1 = 0 ∧ mr'.2.2.2.2.2.1 = 0) (hcc : c ≤ mr.2.2.2.2.1 ∧ s ≤ mr.2.2.2.2.2.1) (E : Ev X 0 0 dd mr' 0 L' [] σ (QJ P)) (K : ∀ r σ', P r σ' → Ev X c s (dd + 1) mr pc' L (jv r :: S) σ' Q) : Ev X c s (dd + 1) mr pc L (a5 :: a4 :: a3 :: a2 :: a1 :: S) σ Q := e_cs5 hd hp hsp hm hr hL hl2 h0 hcc E (fun v σ' h => by obtain ⟨r, rfl, h⟩ := h; exact K r σ' h)
theorem e_cv5v {dd k q ci i1 i2 : Nat} {ps : List Nat} {fs : List (Nat ⊕ AV)} {mr' : MRec} {a1 a2 a3 a4 a5 : AV} {P : SG → Prop} (hd : decode mr.2.1 pc = .ok (.invokevirtual k, 3)) (hp : pc + 3 = pc') (hm : ml mr.2.2.2.2.2.2 k = some (i1, i2, 0, 5, mr', ps)) (ho : shp[q]? = some (.inr (ci, fs))) (hci : ci = mr'.2.2.2.2.2.2) (hr : (S.map cat).sum ≤ 8) (hL : argL [rv q, a1, a2, a3, a4, a5] mr'.2.2.1 = L') (hl2 : L'.length = mr'.2.2.1) (h0 : mr'.2.2.2.2.1 = 0 ∧ mr'.2.2.2.2.2.1 = 0) (hcc : c ≤ mr.2.2.2.2.1 ∧ s ≤ mr.2.2.2.2.2.1) (E : Ev X 0 0 dd mr' 0 L' [] σ (QV P)) (K : ∀ σ', P σ' → Ev X c s (dd + 1) mr pc' L S σ' Q) : Ev X c s (dd + 1) mr pc L (a5 :: a4 :: a3 :: a2 :: a1 :: rv q :: S) σ Q := e_cv5 hd hp hm ho hci hr hL hl2 h0 hcc E (fun v σ' h => by obtain ⟨rfl, h⟩ := h; exact K σ' h)
theorem e_cs5v {dd k i1 i2 : Nat} {ps : List Nat} {mr' : MRec} {a1 a2 a3 a4 a5 : AV} {P : SG → Prop} (hd : decode mr.2.1 pc = .ok (.invokestatic k, 3)) (hp : pc + 3 = pc') (hsp : sp mr.2.2.2.2.2.2 k = none) (hm : ml mr.2.2.2.2.2.2 k = some (i1, i2, 2, 5, mr', ps)) (hr : (S.map cat).sum ≤ 8) (hL : argL [a1, a2, a3, a4, a5] mr'.2.2.1 = L') (hl2 : L'.length = mr'.2.2.1) (h0 : mr'.2.2.2.2.1 = 0 ∧ mr'.2.2.2.2.2.1 = 0) (hcc : c ≤ mr.2.2.2.2.1 ∧ s ≤ mr.2.2.2.2.2.1) (E : Ev X 0 0 dd mr' 0 L' [] σ (QV P)) (K : ∀ σ', P σ' → Ev X c s (dd + 1) mr pc' L S σ' Q) : Ev X c s (dd + 1) mr pc L (a5 :: a4 :: a3 :: a2 :: a1 :: S) σ Q := e_cs5 hd hp hsp hm hr hL hl2 h0 hcc E (fun v σ' h => by obtain ⟨rfl, h⟩ := h; exact K σ' h)
theorem e_cv6i {dd k q ci i1 i2 : Nat} {ps : List Nat} {fs : List (Nat ⊕ AV)} {mr' : MRec} {a1 a2 a3 a4 a5 a6 : AV} {P : Int → SG → Prop} (hd : decode mr.2.1 pc = .ok (.invokevirtual k, 3)) (hp : pc + 3 = pc') (hm : ml mr.2.2.2.2.2.2 k = some (i1, i2, 0, 6, mr', ps)) (ho : shp[q]? = some (.inr (ci, fs))) (hci : ci = mr'.2.2.2.2.2.2) (hr : (S.map cat).sum ≤ 8) (hL : argL [rv q, a1, a2, a3, a4, a5, a6] mr'.2.2.1 = L') (hl2 : L'.length = mr'.2.2.1) (h0 : mr'.2.2.2.2.1 = 0 ∧ mr'.2.2.2.2.2.1 = 0) (hcc : c ≤ mr.2.2.2.2.1 ∧ s ≤ mr.2.2.2.2.2.1) (E : Ev X 0 0 dd mr' 0 L' [] σ (QI P)) (K : ∀ r σ', P r σ' → Ev X c s (dd + 1) mr pc' L (iv r :: S) σ' Q) : Ev X c s (dd + 1) mr pc L (a6 :: a5 :: a4 :: a3 :: a2 :: a1 :: rv q :: S) σ Q := e_cv6 hd hp hm ho hci hr hL hl2 h0 hcc E (fun v σ' h => by obtain ⟨r, rfl, h⟩ := h; exact K r σ' h)
theorem e_cs6i {dd k i1 i2 : Nat} {ps : List Nat} {mr' : MRec} {a1 a2 a3 a4 a5 a6 : AV} {P : Int → SG → Prop} (hd : decode mr.2.1 pc = .ok (.invokestatic k, 3)) (hp : pc + 3 = pc') (hsp : sp mr.2.2.2.2.2.2 k = none) (hm : ml mr.2.2.2.2.2.2 k = some (i1, i2, 2, 6, mr', ps)) (hr : (S.map cat).sum ≤ 8) (hL : argL [a1, a2, a3, a4, a5, a6] mr'.2.2.1 = L') (hl2 : L'.length = mr'.2.2.1) (h0 : mr'.2.2.2.2.1 = 0 ∧ mr'.2.2.2.2.2.1 = 0) (hcc : c ≤ mr.2.2.2.2.1 ∧ s ≤ mr.2.2.2.2.2.1) (E : Ev X 0 0 dd mr' 0 L' [] σ (QI P)) (K : ∀ r σ', P r σ' → Ev X c s (dd + 1) mr pc' L (iv r :: S) σ' Q) : Ev X c s (dd + 1) mr pc L (a6 :: a5 :: a4 :: a3 :: a2 :: a1 :: S) σ Q := e_cs6 hd hp hsp hm hr hL hl2 h0 hcc E (fun v σ' h => by obtain ⟨r, rfl, h⟩ := h; exact K r σ' h)
theorem e_cv6j {dd k q ci i1 i2 : Nat} {ps : List Nat} {fs : List (Nat ⊕ AV)} {mr' : MRec} {a1 a2 a3 a4 a5 a6 : AV} {P : Int64 → SG → Prop} (hd : decode mr.2.1 pc = .ok (.invokevirtual k, 3)) (hp : pc + 3 = pc') (hm : ml mr.2.2.2.2.2.2 k = some (i1, i2, 0, 6, mr', ps)) (ho : shp[q]? = some (.inr (ci, fs))) (hci : ci = mr'.2.2.2.2.2.2) (hr : (S.map cat).sum ≤ 8) (hL : argL [rv q, a1, a2, a3, a4, a5, a6] mr'.2.2.1 = L') (hl2 : L'.length = mr'.2.2.1) (h0 : mr'.2.2.2.2.1 = 0 ∧ mr'.2.2.2.2.2.1 = 0) (hcc : c ≤ mr.2.2.2.2.1 ∧ s ≤ mr.2.2.2.2.2.1) (E : Ev X 0 0 dd mr' 0 L' [] σ (QJ P)) (K : ∀ r σ', P r σ' → Ev X c s (dd + 1) mr pc' L (jv r :: S) σ' Q) : Ev X c s (dd + 1) mr pc L (a6 :: a5 :: a4 :: a3 :: a2 :: a1 :: rv q :: S) σ Q := e_cv6 hd hp hm ho hci hr hL hl2 h0 hcc E (fun v σ' h => by obtain ⟨r, rfl, h⟩ := h; exact K r σ' h)
theorem e_cs6j {dd k i1 i2 : Nat} {ps : List Nat} {mr' : MRec} {a1 a2 a3 a4 a5 a6 : AV} {P : Int64 → SG → Prop} (hd : decode mr.2.1 pc = .ok (.invokestatic k, 3)) (hp : pc + 3 = pc') (hsp : sp mr.2.2.2.2.2.2 k = none) (hm : ml mr.2.2.2.2.2.2 k = some (i1, i2, 2, 6, mr', ps)) (hr : (S.map cat).sum ≤ 8) (hL : argL [a1, a2, a3, a4, a5, a6] mr'.2.2.1 = L') (hl2 : L'.length = mr'.2.2.1) (h0 : mr'.2.2.2.2.1 = 0 ∧ mr'.2.2.2.2.2.1 = 0) (hcc : c ≤ mr.2.2.2.2.1 ∧ s ≤ mr.2.2.2.2.2.1) (E : Ev X 0 0 dd mr' 0 L' [] σ (QJ P)) (K : ∀ r σ', P r σ' → Ev X c s (dd + 1) mr pc' L (jv r :: S) σ' Q) : Ev X c s (dd + 1) mr pc L (a6 :: a5 :: a4 :: a3 :: a2 :: a1 :: S) σ Q := e_cs6 hd hp hsp hm hr hL hl2 h0 hcc E (fun v σ' h => by obtain ⟨r, rfl, h⟩ := h; exact K r σ' h)
theorem e_cv6v {dd k q ci i1 i2 : Nat} {ps : List Nat} {fs : List (Nat ⊕ AV)} {mr' : MRec} {a1 a2 a3 a4 a5 a6 : AV} {P : SG → Prop} (hd : decode mr.2.1 pc = .ok (.invokevirtual k, 3)) (hp : pc + 3 = pc') (hm : ml mr.2.2.2.2.2.2 k = some (i1, i2, 0, 6, mr', ps)) (ho : shp[q]? = some (.inr (ci, fs))) (hci : ci = mr'.2.2.2.2.2.2) (hr : (S.map cat).sum ≤ 8) (hL : argL [rv q, a1, a2, a3, a4, a5, a6] mr'.2.2.1 = L') (hl2 : L'.length = mr'.2.2.1) (h0 : mr'.2.2.2.2.1 = 0 ∧ mr'.2.2.2.2.2.1 = 0) (hcc : c ≤ mr.2.2.2.2.1 ∧ s ≤ mr.2.2.2.2.2.1) (E : Ev X 0 0 dd mr' 0 L' [] σ (QV P)) (K : ∀ σ', P σ' → Ev X c s (dd + 1) mr pc' L S σ' Q) : Ev X c s (dd + 1) mr pc L (a6 :: a5 :: a4 :: a3 :: a2 :: a1 :: rv q :: S) σ Q := e_cv6 hd hp hm ho hci hr hL hl2 h0 hcc E (fun v σ' h => by obtain ⟨rfl, h⟩ := h; exact K σ' h)
theorem e_cs6v {dd k i1 i2 : Nat} {ps : List Nat} {mr' : MRec} {a1 a2 a3 a4 a5 a6 : AV} {P : SG → Prop} (hd : decode mr.2.1 pc = .ok (.invokestatic k, 3)) (hp : pc + 3 = pc') (hsp : sp mr.2.2.2.2.2.2 k = none) (hm : ml mr.2.2.2.2.2.2 k = some (i1, i2, 2, 6, mr', ps)) (hr : (S.map cat).sum ≤ 8) (hL : argL [a1, a2, a3, a4, a5, a6] mr'.2.2.1 = L') (hl2 : L'.length = mr'.2.2.1) (h0 : mr'.2.2.2.2.1 = 0 ∧ mr'.2.2.2.2.2.1 = 0) (hcc : c ≤ mr.2.2.2.2.1 ∧ s ≤ mr.2.2.2.2.2.1) (E : Ev X 0 0 dd mr' 0 L' [] σ (QV P)) (K : ∀ σ', P σ' → Ev X c s (dd + 1) mr pc' L S σ' Q) : Ev X c s (dd + 1) mr pc L (a6 :: a5 :: a4 :: a3 :: a2 :: a1 :: S) σ Q := e_cs6 hd hp hsp hm hr hL hl2 h0 hcc E (fun v σ' h => by obtain ⟨rfl, h⟩ := h; exact K σ' h)
end EVD
end
section
set_option maxHeartbeats 4000000 in
set_option maxRecDepth 100000 in
theorem s_isWithin {X : AX} {d : Nat} {σ : SG} (v t : Int) (hv : rg v) (ht : rg t) : Ev X 0 0 d mX10_isWithin 0 [some (iv v), some (iv t)] [] σ (QI (fun r σ' => σ' = σ ∧ r = if 0 ≤ v ∧ v ≤ t then 1 else 0)) := by
  obtain ⟨hv1, hv2⟩ := hv
  obtain ⟨ht1, ht2⟩ := ht
  refine e_iload_n (pc' := 1) dX10_isWithin_0 rfl rfl ?_
  refine e_ifI (pc' := 4) (t := 13) dX10_isWithin_1 (by decide) rfl ⟨by omega, by omega⟩ (fun (c2_1 : (v : Int) < 0) => ?_) (fun (c2_1 : ¬ ((v : Int) < 0)) => ?_)
  · refine e_iconst (pc' := 14) dX10_isWithin_13 rfl ?_
    exact e_zret dX10_isWithin_14 rfl (by decide) ⟨rfl, Nat.le_refl _⟩ ⟨_, rfl, rfl, by first | (rw [if_pos (by omega)]) | (rw [if_neg (by omega)])⟩
  · refine e_iload_n (pc' := 5) dX10_isWithin_4 rfl rfl ?_
    refine e_iload_n (pc' := 6) dX10_isWithin_5 rfl rfl ?_
    refine e_icmpI (pc' := 9) (t := 13) dX10_isWithin_6 (by decide) rfl ⟨by omega, by omega⟩ ⟨by omega, by omega⟩ (fun (c4_2 : t < (v : Int)) => ?_) (fun (c4_2 : ¬ (t < (v : Int))) => ?_)
    · refine e_iconst (pc' := 14) dX10_isWithin_13 rfl ?_
      exact e_zret dX10_isWithin_14 rfl (by decide) ⟨rfl, Nat.le_refl _⟩ ⟨_, rfl, rfl, by first | (rw [if_pos (by omega)]) | (rw [if_neg (by omega)])⟩
    · refine e_iconst (pc' := 10) dX10_isWithin_9 rfl ?_
      refine e_goto (pc' := 14) dX10_isWithin_10 (by decide) ?_
      exact e_zret dX10_isWithin_14 rfl (by decide) ⟨rfl, Nat.le_refl _⟩ ⟨_, rfl, rfl, by first | (rw [if_pos (by omega)]) | (rw [if_neg (by omega)])⟩
end
