section
-- ===== PART A: goes FIRST, ahead of the names: the tables' words, and 'selects' of the private methods out of them =====
/-- a private method of a class that the tables say can be made, by its rows of tables_1 -/
def lw_okq (q : MethodName × Nat) : Prop := (q.1.cls ≠ "java/lang/invoke/MethodHandle" ∧ q.1.cls ≠ "java/lang/invoke/VarHandle") ∧ Cond.instantiable q.1.cls q.2 ∈ tables_1 ∧ Cond.privateMethod q.1 ∈ tables_1 ∧ Cond.instanceMethod q.1 ∈ tables_1
theorem lw_p0 : lw_okq (⟨"GiftMatch", "isPair", "(II)Z"⟩, 12) := ⟨⟨by decide +kernel, by decide +kernel⟩, List.mem_of_getElem? (i := 16) (by decide +kernel), List.mem_of_getElem? (i := 363) (by decide +kernel), List.mem_of_getElem? (i := 364) (by decide +kernel)⟩
theorem lw_p1 : lw_okq (⟨"GiftMatch", "isGiver", "(I)Z"⟩, 12) := ⟨⟨by decide +kernel, by decide +kernel⟩, List.mem_of_getElem? (i := 16) (by decide +kernel), List.mem_of_getElem? (i := 367) (by decide +kernel), List.mem_of_getElem? (i := 368) (by decide +kernel)⟩
theorem lw_p2 : lw_okq (⟨"GiftMatch", "isWork", "(I)Z"⟩, 12) := ⟨⟨by decide +kernel, by decide +kernel⟩, List.mem_of_getElem? (i := 16) (by decide +kernel), List.mem_of_getElem? (i := 371) (by decide +kernel), List.mem_of_getElem? (i := 372) (by decide +kernel)⟩
theorem lw_p3 : lw_okq (⟨"GiftMatch", "setKeep", "(I)I"⟩, 12) := ⟨⟨by decide +kernel, by decide +kernel⟩, List.mem_of_getElem? (i := 16) (by decide +kernel), List.mem_of_getElem? (i := 379) (by decide +kernel), List.mem_of_getElem? (i := 380) (by decide +kernel)⟩
theorem lw_p4 : lw_okq (⟨"GiftMatch", "setTheRule", "(I)I"⟩, 12) := ⟨⟨by decide +kernel, by decide +kernel⟩, List.mem_of_getElem? (i := 16) (by decide +kernel), List.mem_of_getElem? (i := 383) (by decide +kernel), List.mem_of_getElem? (i := 384) (by decide +kernel)⟩
theorem lw_p5 : lw_okq (⟨"GiftMatch", "setPurse", "(I)I"⟩, 12) := ⟨⟨by decide +kernel, by decide +kernel⟩, List.mem_of_getElem? (i := 16) (by decide +kernel), List.mem_of_getElem? (i := 390) (by decide +kernel), List.mem_of_getElem? (i := 391) (by decide +kernel)⟩
theorem lw_p6 : lw_okq (⟨"GiftMatch", "setParted", "(I)I"⟩, 12) := ⟨⟨by decide +kernel, by decide +kernel⟩, List.mem_of_getElem? (i := 16) (by decide +kernel), List.mem_of_getElem? (i := 394) (by decide +kernel), List.mem_of_getElem? (i := 395) (by decide +kernel)⟩
theorem lw_p7 : lw_okq (⟨"GiftMatch$Reader", "readCharacter", "(LGiftMatch$Rule;I)V"⟩, 5) := ⟨⟨by decide +kernel, by decide +kernel⟩, List.mem_of_getElem? (i := 137) (by decide +kernel), List.mem_of_getElem? (i := 406) (by decide +kernel), List.mem_of_getElem? (i := 407) (by decide +kernel)⟩
theorem lw_p8 : lw_okq (⟨"GiftMatch$Reader", "readDigit", "(LGiftMatch$Rule;II)V"⟩, 5) := ⟨⟨by decide +kernel, by decide +kernel⟩, List.mem_of_getElem? (i := 137) (by decide +kernel), List.mem_of_getElem? (i := 410) (by decide +kernel), List.mem_of_getElem? (i := 411) (by decide +kernel)⟩
theorem lw_p9 : lw_okq (⟨"GiftMatch$Reader", "readUnit", "(LGiftMatch$Rule;I)Z"⟩, 5) := ⟨⟨by decide +kernel, by decide +kernel⟩, List.mem_of_getElem? (i := 137) (by decide +kernel), List.mem_of_getElem? (i := 418) (by decide +kernel), List.mem_of_getElem? (i := 419) (by decide +kernel)⟩
theorem lw_p10 : lw_okq (⟨"GiftMatch$Reader", "hold", "(I)V"⟩, 5) := ⟨⟨by decide +kernel, by decide +kernel⟩, List.mem_of_getElem? (i := 137) (by decide +kernel), List.mem_of_getElem? (i := 422) (by decide +kernel), List.mem_of_getElem? (i := 423) (by decide +kernel)⟩
theorem lw_p11 : lw_okq (⟨"GiftMatch$Reader", "readBehindUnit", "(LGiftMatch$Rule;I)Z"⟩, 5) := ⟨⟨by decide +kernel, by decide +kernel⟩, List.mem_of_getElem? (i := 137) (by decide +kernel), List.mem_of_getElem? (i := 426) (by decide +kernel), List.mem_of_getElem? (i := 427) (by decide +kernel)⟩
theorem lw_p12 : lw_okq (⟨"GiftMatch$Reader", "closeBracket", "(LGiftMatch$Rule;)Z"⟩, 5) := ⟨⟨by decide +kernel, by decide +kernel⟩, List.mem_of_getElem? (i := 137) (by decide +kernel), List.mem_of_getElem? (i := 430) (by decide +kernel), List.mem_of_getElem? (i := 431) (by decide +kernel)⟩
theorem lw_p13 : lw_okq (⟨"GiftMatch$Reader", "release", "(LGiftMatch$Rule;I)V"⟩, 5) := ⟨⟨by decide +kernel, by decide +kernel⟩, List.mem_of_getElem? (i := 137) (by decide +kernel), List.mem_of_getElem? (i := 434) (by decide +kernel), List.mem_of_getElem? (i := 435) (by decide +kernel)⟩
theorem lw_p14 : lw_okq (⟨"GiftMatch$Reader", "lastRank", "()I"⟩, 5) := ⟨⟨by decide +kernel, by decide +kernel⟩, List.mem_of_getElem? (i := 137) (by decide +kernel), List.mem_of_getElem? (i := 441) (by decide +kernel), List.mem_of_getElem? (i := 442) (by decide +kernel)⟩
theorem lw_p15 : lw_okq (⟨"GiftMatch$Sight", "push", "(J)V"⟩, 7) := ⟨⟨by decide +kernel, by decide +kernel⟩, List.mem_of_getElem? (i := 160) (by decide +kernel), List.mem_of_getElem? (i := 497) (by decide +kernel), List.mem_of_getElem? (i := 498) (by decide +kernel)⟩
def lw_privs_1 : List (MethodName × Nat) := [(⟨"GiftMatch", "isPair", "(II)Z"⟩, 12), (⟨"GiftMatch", "isGiver", "(I)Z"⟩, 12), (⟨"GiftMatch", "isWork", "(I)Z"⟩, 12), (⟨"GiftMatch", "setKeep", "(I)I"⟩, 12), (⟨"GiftMatch", "setTheRule", "(I)I"⟩, 12), (⟨"GiftMatch", "setPurse", "(I)I"⟩, 12), (⟨"GiftMatch", "setParted", "(I)I"⟩, 12), (⟨"GiftMatch$Reader", "readCharacter", "(LGiftMatch$Rule;I)V"⟩, 5), (⟨"GiftMatch$Reader", "readDigit", "(LGiftMatch$Rule;II)V"⟩, 5), (⟨"GiftMatch$Reader", "readUnit", "(LGiftMatch$Rule;I)Z"⟩, 5), (⟨"GiftMatch$Reader", "hold", "(I)V"⟩, 5), (⟨"GiftMatch$Reader", "readBehindUnit", "(LGiftMatch$Rule;I)Z"⟩, 5), (⟨"GiftMatch$Reader", "closeBracket", "(LGiftMatch$Rule;)Z"⟩, 5), (⟨"GiftMatch$Reader", "release", "(LGiftMatch$Rule;I)V"⟩, 5), (⟨"GiftMatch$Reader", "lastRank", "()I"⟩, 5), (⟨"GiftMatch$Sight", "push", "(J)V"⟩, 7)]
theorem lw_r1 : ∀ q ∈ lw_privs_1, lw_okq q := List.forall_mem_cons.mpr ⟨lw_p0, List.forall_mem_cons.mpr ⟨lw_p1, List.forall_mem_cons.mpr ⟨lw_p2, List.forall_mem_cons.mpr ⟨lw_p3, List.forall_mem_cons.mpr ⟨lw_p4, List.forall_mem_cons.mpr ⟨lw_p5, List.forall_mem_cons.mpr ⟨lw_p6, List.forall_mem_cons.mpr ⟨lw_p7, List.forall_mem_cons.mpr ⟨lw_p8, List.forall_mem_cons.mpr ⟨lw_p9, List.forall_mem_cons.mpr ⟨lw_p10, List.forall_mem_cons.mpr ⟨lw_p11, List.forall_mem_cons.mpr ⟨lw_p12, List.forall_mem_cons.mpr ⟨lw_p13, List.forall_mem_cons.mpr ⟨lw_p14, List.forall_mem_cons.mpr ⟨lw_p15, fun _ h => absurd h List.not_mem_nil⟩⟩⟩⟩⟩⟩⟩⟩⟩⟩⟩⟩⟩⟩⟩⟩
theorem lw_p16 : lw_okq (⟨"GiftMatch$Sight", "doStep", "(I)V"⟩, 7) := ⟨⟨by decide +kernel, by decide +kernel⟩, List.mem_of_getElem? (i := 160) (by decide +kernel), List.mem_of_getElem? (i := 501) (by decide +kernel), List.mem_of_getElem? (i := 502) (by decide +kernel)⟩
theorem lw_p17 : lw_okq (⟨"GiftMatch$Sight", "pop", "()J"⟩, 7) := ⟨⟨by decide +kernel, by decide +kernel⟩, List.mem_of_getElem? (i := 160) (by decide +kernel), List.mem_of_getElem? (i := 506) (by decide +kernel), List.mem_of_getElem? (i := 507) (by decide +kernel)⟩
theorem lw_p18 : lw_okq (⟨"GiftMatch$Ledger", "partByShare", "(II)V"⟩, 5) := ⟨⟨by decide +kernel, by decide +kernel⟩, List.mem_of_getElem? (i := 189) (by decide +kernel), List.mem_of_getElem? (i := 524) (by decide +kernel), List.mem_of_getElem? (i := 525) (by decide +kernel)⟩
theorem lw_p19 : lw_okq (⟨"GiftMatch$Ledger", "partByNumber", "(I)V"⟩, 5) := ⟨⟨by decide +kernel, by decide +kernel⟩, List.mem_of_getElem? (i := 189) (by decide +kernel), List.mem_of_getElem? (i := 528) (by decide +kernel), List.mem_of_getElem? (i := 529) (by decide +kernel)⟩
theorem lw_p20 : lw_okq (⟨"GiftMatch$Ledger", "partByBound", "(I)V"⟩, 5) := ⟨⟨by decide +kernel, by decide +kernel⟩, List.mem_of_getElem? (i := 189) (by decide +kernel), List.mem_of_getElem? (i := 533) (by decide +kernel), List.mem_of_getElem? (i := 534) (by decide +kernel)⟩
theorem lw_p21 : lw_okq (⟨"GiftMatch$Chooser", "foresee", "(LGiftMatch$Scene;I)V"⟩, 6) := ⟨⟨by decide +kernel, by decide +kernel⟩, List.mem_of_getElem? (i := 220) (by decide +kernel), List.mem_of_getElem? (i := 576) (by decide +kernel), List.mem_of_getElem? (i := 577) (by decide +kernel)⟩
theorem lw_p22 : lw_okq (⟨"GiftMatch$Chooser", "weigh", "(LGiftMatch$Scene;IIII)V"⟩, 6) := ⟨⟨by decide +kernel, by decide +kernel⟩, List.mem_of_getElem? (i := 220) (by decide +kernel), List.mem_of_getElem? (i := 583) (by decide +kernel), List.mem_of_getElem? (i := 584) (by decide +kernel)⟩
theorem lw_p23 : lw_okq (⟨"GiftMatch$Chooser", "enter", "(II)V"⟩, 6) := ⟨⟨by decide +kernel, by decide +kernel⟩, List.mem_of_getElem? (i := 220) (by decide +kernel), List.mem_of_getElem? (i := 587) (by decide +kernel), List.mem_of_getElem? (i := 588) (by decide +kernel)⟩
theorem lw_p24 : lw_okq (⟨"GiftMatch$Rounds", "wasBefore", "(I)Z"⟩, 2) := ⟨⟨by decide +kernel, by decide +kernel⟩, List.mem_of_getElem? (i := 251) (by decide +kernel), List.mem_of_getElem? (i := 612) (by decide +kernel), List.mem_of_getElem? (i := 613) (by decide +kernel)⟩
theorem lw_p25 : lw_okq (⟨"GiftMatch$Common", "fillWorths", "(LGiftMatch$Scene;I)V"⟩, 4) := ⟨⟨by decide +kernel, by decide +kernel⟩, List.mem_of_getElem? (i := 264) (by decide +kernel), List.mem_of_getElem? (i := 629) (by decide +kernel), List.mem_of_getElem? (i := 630) (by decide +kernel)⟩
theorem lw_p26 : lw_okq (⟨"GiftMatch$Common", "firstBest", "(II)I"⟩, 4) := ⟨⟨by decide +kernel, by decide +kernel⟩, List.mem_of_getElem? (i := 264) (by decide +kernel), List.mem_of_getElem? (i := 635) (by decide +kernel), List.mem_of_getElem? (i := 636) (by decide +kernel)⟩
theorem lw_p27 : lw_okq (⟨"GiftMatch$Common", "haveBy", "(III)I"⟩, 4) := ⟨⟨by decide +kernel, by decide +kernel⟩, List.mem_of_getElem? (i := 264) (by decide +kernel), List.mem_of_getElem? (i := 639) (by decide +kernel), List.mem_of_getElem? (i := 640) (by decide +kernel)⟩
theorem lw_p28 : lw_okq (⟨"GiftMatch$Partings", "weigh", "(LGiftMatch$Scene;IIIII)V"⟩, 3) := ⟨⟨by decide +kernel, by decide +kernel⟩, List.mem_of_getElem? (i := 285) (by decide +kernel), List.mem_of_getElem? (i := 658) (by decide +kernel), List.mem_of_getElem? (i := 659) (by decide +kernel)⟩
theorem lw_p29 : lw_okq (⟨"GiftMatch$Laws", "addedTo", "(LGiftMatch$Rule;III)I"⟩, 1) := ⟨⟨by decide +kernel, by decide +kernel⟩, List.mem_of_getElem? (i := 301) (by decide +kernel), List.mem_of_getElem? (i := 700) (by decide +kernel), List.mem_of_getElem? (i := 701) (by decide +kernel)⟩
theorem lw_p30 : lw_okq (⟨"GiftMatch$Laws", "noneMoreByHands", "(LGiftMatch$Rule;III)Z"⟩, 1) := ⟨⟨by decide +kernel, by decide +kernel⟩, List.mem_of_getElem? (i := 301) (by decide +kernel), List.mem_of_getElem? (i := 707) (by decide +kernel), List.mem_of_getElem? (i := 708) (by decide +kernel)⟩
theorem lw_p31 : lw_okq (⟨"GiftMatch", "digestGivers", "(J)J"⟩, 12) := ⟨⟨by decide +kernel, by decide +kernel⟩, List.mem_of_getElem? (i := 16) (by decide +kernel), List.mem_of_getElem? (i := 741) (by decide +kernel), List.mem_of_getElem? (i := 742) (by decide +kernel)⟩
def lw_privs_2 : List (MethodName × Nat) := [(⟨"GiftMatch$Sight", "doStep", "(I)V"⟩, 7), (⟨"GiftMatch$Sight", "pop", "()J"⟩, 7), (⟨"GiftMatch$Ledger", "partByShare", "(II)V"⟩, 5), (⟨"GiftMatch$Ledger", "partByNumber", "(I)V"⟩, 5), (⟨"GiftMatch$Ledger", "partByBound", "(I)V"⟩, 5), (⟨"GiftMatch$Chooser", "foresee", "(LGiftMatch$Scene;I)V"⟩, 6), (⟨"GiftMatch$Chooser", "weigh", "(LGiftMatch$Scene;IIII)V"⟩, 6), (⟨"GiftMatch$Chooser", "enter", "(II)V"⟩, 6), (⟨"GiftMatch$Rounds", "wasBefore", "(I)Z"⟩, 2), (⟨"GiftMatch$Common", "fillWorths", "(LGiftMatch$Scene;I)V"⟩, 4), (⟨"GiftMatch$Common", "firstBest", "(II)I"⟩, 4), (⟨"GiftMatch$Common", "haveBy", "(III)I"⟩, 4), (⟨"GiftMatch$Partings", "weigh", "(LGiftMatch$Scene;IIIII)V"⟩, 3), (⟨"GiftMatch$Laws", "addedTo", "(LGiftMatch$Rule;III)I"⟩, 1), (⟨"GiftMatch$Laws", "noneMoreByHands", "(LGiftMatch$Rule;III)Z"⟩, 1), (⟨"GiftMatch", "digestGivers", "(J)J"⟩, 12)]
theorem lw_r2 : ∀ q ∈ lw_privs_2, lw_okq q := List.forall_mem_cons.mpr ⟨lw_p16, List.forall_mem_cons.mpr ⟨lw_p17, List.forall_mem_cons.mpr ⟨lw_p18, List.forall_mem_cons.mpr ⟨lw_p19, List.forall_mem_cons.mpr ⟨lw_p20, List.forall_mem_cons.mpr ⟨lw_p21, List.forall_mem_cons.mpr ⟨lw_p22, List.forall_mem_cons.mpr ⟨lw_p23, List.forall_mem_cons.mpr ⟨lw_p24, List.forall_mem_cons.mpr ⟨lw_p25, List.forall_mem_cons.mpr ⟨lw_p26, List.forall_mem_cons.mpr ⟨lw_p27, List.forall_mem_cons.mpr ⟨lw_p28, List.forall_mem_cons.mpr ⟨lw_p29, List.forall_mem_cons.mpr ⟨lw_p30, List.forall_mem_cons.mpr ⟨lw_p31, fun _ h => absurd h List.not_mem_nil⟩⟩⟩⟩⟩⟩⟩⟩⟩⟩⟩⟩⟩⟩⟩⟩
theorem lw_p32 : lw_okq (⟨"GiftMatch", "digestWorks", "(J)J"⟩, 12) := ⟨⟨by decide +kernel, by decide +kernel⟩, List.mem_of_getElem? (i := 16) (by decide +kernel), List.mem_of_getElem? (i := 745) (by decide +kernel), List.mem_of_getElem? (i := 746) (by decide +kernel)⟩
theorem lw_p33 : lw_okq (⟨"GiftMatch", "digestRules", "(J)J"⟩, 12) := ⟨⟨by decide +kernel, by decide +kernel⟩, List.mem_of_getElem? (i := 16) (by decide +kernel), List.mem_of_getElem? (i := 749) (by decide +kernel), List.mem_of_getElem? (i := 750) (by decide +kernel)⟩
theorem lw_p34 : lw_okq (⟨"GiftMatchModel", "givers", "()I"⟩, 29) := ⟨⟨by decide +kernel, by decide +kernel⟩, List.mem_of_getElem? (i := 753) (by decide +kernel), List.mem_of_getElem? (i := 855) (by decide +kernel), List.mem_of_getElem? (i := 856) (by decide +kernel)⟩
theorem lw_p35 : lw_okq (⟨"GiftMatchModel", "works", "()I"⟩, 29) := ⟨⟨by decide +kernel, by decide +kernel⟩, List.mem_of_getElem? (i := 753) (by decide +kernel), List.mem_of_getElem? (i := 864) (by decide +kernel), List.mem_of_getElem? (i := 865) (by decide +kernel)⟩
theorem lw_p36 : lw_okq (⟨"GiftMatchModel", "isGiver", "(I)Z"⟩, 29) := ⟨⟨by decide +kernel, by decide +kernel⟩, List.mem_of_getElem? (i := 753) (by decide +kernel), List.mem_of_getElem? (i := 872) (by decide +kernel), List.mem_of_getElem? (i := 873) (by decide +kernel)⟩
theorem lw_p37 : lw_okq (⟨"GiftMatchModel", "isWork", "(I)Z"⟩, 29) := ⟨⟨by decide +kernel, by decide +kernel⟩, List.mem_of_getElem? (i := 753) (by decide +kernel), List.mem_of_getElem? (i := 876) (by decide +kernel), List.mem_of_getElem? (i := 877) (by decide +kernel)⟩
theorem lw_p38 : lw_okq (⟨"GiftMatchModel", "reads", "()Z"⟩, 29) := ⟨⟨by decide +kernel, by decide +kernel⟩, List.mem_of_getElem? (i := 753) (by decide +kernel), List.mem_of_getElem? (i := 905) (by decide +kernel), List.mem_of_getElem? (i := 906) (by decide +kernel)⟩
theorem lw_p39 : lw_okq (⟨"GiftMatchModel", "ahead", "()I"⟩, 29) := ⟨⟨by decide +kernel, by decide +kernel⟩, List.mem_of_getElem? (i := 753) (by decide +kernel), List.mem_of_getElem? (i := 909) (by decide +kernel), List.mem_of_getElem? (i := 910) (by decide +kernel)⟩
theorem lw_p40 : lw_okq (⟨"GiftMatchModel", "textLong", "()I"⟩, 29) := ⟨⟨by decide +kernel, by decide +kernel⟩, List.mem_of_getElem? (i := 753) (by decide +kernel), List.mem_of_getElem? (i := 913) (by decide +kernel), List.mem_of_getElem? (i := 914) (by decide +kernel)⟩
theorem lw_p41 : lw_okq (⟨"GiftMatchModel", "charAt", "(I)I"⟩, 29) := ⟨⟨by decide +kernel, by decide +kernel⟩, List.mem_of_getElem? (i := 753) (by decide +kernel), List.mem_of_getElem? (i := 917) (by decide +kernel), List.mem_of_getElem? (i := 918) (by decide +kernel)⟩
theorem lw_p42 : lw_okq (⟨"GiftMatchModel", "digits", "()J"⟩, 29) := ⟨⟨by decide +kernel, by decide +kernel⟩, List.mem_of_getElem? (i := 753) (by decide +kernel), List.mem_of_getElem? (i := 923) (by decide +kernel), List.mem_of_getElem? (i := 924) (by decide +kernel)⟩
theorem lw_p43 : lw_okq (⟨"GiftMatchModel", "stands", "(J)V"⟩, 29) := ⟨⟨by decide +kernel, by decide +kernel⟩, List.mem_of_getElem? (i := 753) (by decide +kernel), List.mem_of_getElem? (i := 928) (by decide +kernel), List.mem_of_getElem? (i := 929) (by decide +kernel)⟩
theorem lw_p44 : lw_okq (⟨"GiftMatchModel", "workDown", "(I)V"⟩, 29) := ⟨⟨by decide +kernel, by decide +kernel⟩, List.mem_of_getElem? (i := 753) (by decide +kernel), List.mem_of_getElem? (i := 935) (by decide +kernel), List.mem_of_getElem? (i := 936) (by decide +kernel)⟩
theorem lw_p45 : lw_okq (⟨"GiftMatchModel", "workOut", "()V"⟩, 29) := ⟨⟨by decide +kernel, by decide +kernel⟩, List.mem_of_getElem? (i := 753) (by decide +kernel), List.mem_of_getElem? (i := 942) (by decide +kernel), List.mem_of_getElem? (i := 943) (by decide +kernel)⟩
theorem lw_p46 : lw_okq (⟨"GiftMatchModel", "gift", "(II)I"⟩, 29) := ⟨⟨by decide +kernel, by decide +kernel⟩, List.mem_of_getElem? (i := 753) (by decide +kernel), List.mem_of_getElem? (i := 950) (by decide +kernel), List.mem_of_getElem? (i := 951) (by decide +kernel)⟩
theorem lw_p47 : lw_okq (⟨"GiftMatchModel", "addUp", "()V"⟩, 29) := ⟨⟨by decide +kernel, by decide +kernel⟩, List.mem_of_getElem? (i := 753) (by decide +kernel), List.mem_of_getElem? (i := 958) (by decide +kernel), List.mem_of_getElem? (i := 959) (by decide +kernel)⟩
def lw_privs_3 : List (MethodName × Nat) := [(⟨"GiftMatch", "digestWorks", "(J)J"⟩, 12), (⟨"GiftMatch", "digestRules", "(J)J"⟩, 12), (⟨"GiftMatchModel", "givers", "()I"⟩, 29), (⟨"GiftMatchModel", "works", "()I"⟩, 29), (⟨"GiftMatchModel", "isGiver", "(I)Z"⟩, 29), (⟨"GiftMatchModel", "isWork", "(I)Z"⟩, 29), (⟨"GiftMatchModel", "reads", "()Z"⟩, 29), (⟨"GiftMatchModel", "ahead", "()I"⟩, 29), (⟨"GiftMatchModel", "textLong", "()I"⟩, 29), (⟨"GiftMatchModel", "charAt", "(I)I"⟩, 29), (⟨"GiftMatchModel", "digits", "()J"⟩, 29), (⟨"GiftMatchModel", "stands", "(J)V"⟩, 29), (⟨"GiftMatchModel", "workDown", "(I)V"⟩, 29), (⟨"GiftMatchModel", "workOut", "()V"⟩, 29), (⟨"GiftMatchModel", "gift", "(II)I"⟩, 29), (⟨"GiftMatchModel", "addUp", "()V"⟩, 29)]
theorem lw_r3 : ∀ q ∈ lw_privs_3, lw_okq q := List.forall_mem_cons.mpr ⟨lw_p32, List.forall_mem_cons.mpr ⟨lw_p33, List.forall_mem_cons.mpr ⟨lw_p34, List.forall_mem_cons.mpr ⟨lw_p35, List.forall_mem_cons.mpr ⟨lw_p36, List.forall_mem_cons.mpr ⟨lw_p37, List.forall_mem_cons.mpr ⟨lw_p38, List.forall_mem_cons.mpr ⟨lw_p39, List.forall_mem_cons.mpr ⟨lw_p40, List.forall_mem_cons.mpr ⟨lw_p41, List.forall_mem_cons.mpr ⟨lw_p42, List.forall_mem_cons.mpr ⟨lw_p43, List.forall_mem_cons.mpr ⟨lw_p44, List.forall_mem_cons.mpr ⟨lw_p45, List.forall_mem_cons.mpr ⟨lw_p46, List.forall_mem_cons.mpr ⟨lw_p47, fun _ h => absurd h List.not_mem_nil⟩⟩⟩⟩⟩⟩⟩⟩⟩⟩⟩⟩⟩⟩⟩⟩
theorem lw_p48 : lw_okq (⟨"GiftMatchModel", "putHand", "(I)V"⟩, 29) := ⟨⟨by decide +kernel, by decide +kernel⟩, List.mem_of_getElem? (i := 753) (by decide +kernel), List.mem_of_getElem? (i := 962) (by decide +kernel), List.mem_of_getElem? (i := 963) (by decide +kernel)⟩
theorem lw_p49 : lw_okq (⟨"GiftMatchModel", "addedBy", "(I)I"⟩, 29) := ⟨⟨by decide +kernel, by decide +kernel⟩, List.mem_of_getElem? (i := 753) (by decide +kernel), List.mem_of_getElem? (i := 966) (by decide +kernel), List.mem_of_getElem? (i := 967) (by decide +kernel)⟩
theorem lw_p50 : lw_okq (⟨"GiftMatchModel", "rootOf", "(I)J"⟩, 29) := ⟨⟨by decide +kernel, by decide +kernel⟩, List.mem_of_getElem? (i := 753) (by decide +kernel), List.mem_of_getElem? (i := 970) (by decide +kernel), List.mem_of_getElem? (i := 971) (by decide +kernel)⟩
theorem lw_p51 : lw_okq (⟨"GiftMatchModel", "part", "(II)V"⟩, 29) := ⟨⟨by decide +kernel, by decide +kernel⟩, List.mem_of_getElem? (i := 753) (by decide +kernel), List.mem_of_getElem? (i := 977) (by decide +kernel), List.mem_of_getElem? (i := 978) (by decide +kernel)⟩
theorem lw_p52 : lw_okq (⟨"GiftMatchModel", "below", "(I)I"⟩, 29) := ⟨⟨by decide +kernel, by decide +kernel⟩, List.mem_of_getElem? (i := 753) (by decide +kernel), List.mem_of_getElem? (i := 981) (by decide +kernel), List.mem_of_getElem? (i := 982) (by decide +kernel)⟩
theorem lw_p53 : lw_okq (⟨"GiftMatchModel", "allNow", "()I"⟩, 29) := ⟨⟨by decide +kernel, by decide +kernel⟩, List.mem_of_getElem? (i := 753) (by decide +kernel), List.mem_of_getElem? (i := 993) (by decide +kernel), List.mem_of_getElem? (i := 994) (by decide +kernel)⟩
theorem lw_p54 : lw_okq (⟨"GiftMatchModel", "hasNow", "(I)I"⟩, 29) := ⟨⟨by decide +kernel, by decide +kernel⟩, List.mem_of_getElem? (i := 753) (by decide +kernel), List.mem_of_getElem? (i := 997) (by decide +kernel), List.mem_of_getElem? (i := 998) (by decide +kernel)⟩
theorem lw_p55 : lw_okq (⟨"GiftMatchModel", "worthOf", "(III)I"⟩, 29) := ⟨⟨by decide +kernel, by decide +kernel⟩, List.mem_of_getElem? (i := 753) (by decide +kernel), List.mem_of_getElem? (i := 1001) (by decide +kernel), List.mem_of_getElem? (i := 1002) (by decide +kernel)⟩
theorem lw_p56 : lw_okq (⟨"GiftMatchModel", "findBest", "(I)I"⟩, 29) := ⟨⟨by decide +kernel, by decide +kernel⟩, List.mem_of_getElem? (i := 753) (by decide +kernel), List.mem_of_getElem? (i := 1009) (by decide +kernel), List.mem_of_getElem? (i := 1010) (by decide +kernel)⟩
theorem lw_p57 : lw_okq (⟨"GiftMatchModel", "setRow", "(IIII)V"⟩, 29) := ⟨⟨by decide +kernel, by decide +kernel⟩, List.mem_of_getElem? (i := 753) (by decide +kernel), List.mem_of_getElem? (i := 1013) (by decide +kernel), List.mem_of_getElem? (i := 1014) (by decide +kernel)⟩
theorem lw_p58 : lw_okq (⟨"GiftMatchModel", "goByTurns", "()I"⟩, 29) := ⟨⟨by decide +kernel, by decide +kernel⟩, List.mem_of_getElem? (i := 753) (by decide +kernel), List.mem_of_getElem? (i := 1025) (by decide +kernel), List.mem_of_getElem? (i := 1026) (by decide +kernel)⟩
theorem lw_p59 : lw_okq (⟨"GiftMatchModel", "note", "(I)V"⟩, 29) := ⟨⟨by decide +kernel, by decide +kernel⟩, List.mem_of_getElem? (i := 753) (by decide +kernel), List.mem_of_getElem? (i := 1029) (by decide +kernel), List.mem_of_getElem? (i := 1030) (by decide +kernel)⟩
theorem lw_p60 : lw_okq (⟨"GiftMatchModel", "isAgain", "(I)Z"⟩, 29) := ⟨⟨by decide +kernel, by decide +kernel⟩, List.mem_of_getElem? (i := 753) (by decide +kernel), List.mem_of_getElem? (i := 1033) (by decide +kernel), List.mem_of_getElem? (i := 1034) (by decide +kernel)⟩
theorem lw_p61 : lw_okq (⟨"GiftMatchModel", "findGood", "()I"⟩, 29) := ⟨⟨by decide +kernel, by decide +kernel⟩, List.mem_of_getElem? (i := 753) (by decide +kernel), List.mem_of_getElem? (i := 1041) (by decide +kernel), List.mem_of_getElem? (i := 1042) (by decide +kernel)⟩
theorem lw_p62 : lw_okq (⟨"GiftMatchModel", "allCoin", "()I"⟩, 29) := ⟨⟨by decide +kernel, by decide +kernel⟩, List.mem_of_getElem? (i := 753) (by decide +kernel), List.mem_of_getElem? (i := 1045) (by decide +kernel), List.mem_of_getElem? (i := 1046) (by decide +kernel)⟩
theorem lw_p63 : lw_okq (⟨"GiftMatchModel", "findHands", "(II)V"⟩, 29) := ⟨⟨by decide +kernel, by decide +kernel⟩, List.mem_of_getElem? (i := 753) (by decide +kernel), List.mem_of_getElem? (i := 1057) (by decide +kernel), List.mem_of_getElem? (i := 1058) (by decide +kernel)⟩
def lw_privs_4 : List (MethodName × Nat) := [(⟨"GiftMatchModel", "putHand", "(I)V"⟩, 29), (⟨"GiftMatchModel", "addedBy", "(I)I"⟩, 29), (⟨"GiftMatchModel", "rootOf", "(I)J"⟩, 29), (⟨"GiftMatchModel", "part", "(II)V"⟩, 29), (⟨"GiftMatchModel", "below", "(I)I"⟩, 29), (⟨"GiftMatchModel", "allNow", "()I"⟩, 29), (⟨"GiftMatchModel", "hasNow", "(I)I"⟩, 29), (⟨"GiftMatchModel", "worthOf", "(III)I"⟩, 29), (⟨"GiftMatchModel", "findBest", "(I)I"⟩, 29), (⟨"GiftMatchModel", "setRow", "(IIII)V"⟩, 29), (⟨"GiftMatchModel", "goByTurns", "()I"⟩, 29), (⟨"GiftMatchModel", "note", "(I)V"⟩, 29), (⟨"GiftMatchModel", "isAgain", "(I)Z"⟩, 29), (⟨"GiftMatchModel", "findGood", "()I"⟩, 29), (⟨"GiftMatchModel", "allCoin", "()I"⟩, 29), (⟨"GiftMatchModel", "findHands", "(II)V"⟩, 29)]
theorem lw_r4 : ∀ q ∈ lw_privs_4, lw_okq q := List.forall_mem_cons.mpr ⟨lw_p48, List.forall_mem_cons.mpr ⟨lw_p49, List.forall_mem_cons.mpr ⟨lw_p50, List.forall_mem_cons.mpr ⟨lw_p51, List.forall_mem_cons.mpr ⟨lw_p52, List.forall_mem_cons.mpr ⟨lw_p53, List.forall_mem_cons.mpr ⟨lw_p54, List.forall_mem_cons.mpr ⟨lw_p55, List.forall_mem_cons.mpr ⟨lw_p56, List.forall_mem_cons.mpr ⟨lw_p57, List.forall_mem_cons.mpr ⟨lw_p58, List.forall_mem_cons.mpr ⟨lw_p59, List.forall_mem_cons.mpr ⟨lw_p60, List.forall_mem_cons.mpr ⟨lw_p61, List.forall_mem_cons.mpr ⟨lw_p62, List.forall_mem_cons.mpr ⟨lw_p63, fun _ h => absurd h List.not_mem_nil⟩⟩⟩⟩⟩⟩⟩⟩⟩⟩⟩⟩⟩⟩⟩⟩
theorem lw_p64 : lw_okq (⟨"GiftMatchModel", "coinsGiven", "()I"⟩, 29) := ⟨⟨by decide +kernel, by decide +kernel⟩, List.mem_of_getElem? (i := 753) (by decide +kernel), List.mem_of_getElem? (i := 1069) (by decide +kernel), List.mem_of_getElem? (i := 1070) (by decide +kernel)⟩
theorem lw_p65 : lw_okq (⟨"GiftMatchModel", "holds", "(IIIII)Z"⟩, 29) := ⟨⟨by decide +kernel, by decide +kernel⟩, List.mem_of_getElem? (i := 753) (by decide +kernel), List.mem_of_getElem? (i := 1077) (by decide +kernel), List.mem_of_getElem? (i := 1078) (by decide +kernel)⟩
theorem lw_p66 : lw_okq (⟨"GiftMatchModel", "addedTo", "(IIII)I"⟩, 29) := ⟨⟨by decide +kernel, by decide +kernel⟩, List.mem_of_getElem? (i := 753) (by decide +kernel), List.mem_of_getElem? (i := 1081) (by decide +kernel), List.mem_of_getElem? (i := 1082) (by decide +kernel)⟩
def lw_privs_5 : List (MethodName × Nat) := [(⟨"GiftMatchModel", "coinsGiven", "()I"⟩, 29), (⟨"GiftMatchModel", "holds", "(IIIII)Z"⟩, 29), (⟨"GiftMatchModel", "addedTo", "(IIII)I"⟩, 29)]
theorem lw_r5 : ∀ q ∈ lw_privs_5, lw_okq q := List.forall_mem_cons.mpr ⟨lw_p64, List.forall_mem_cons.mpr ⟨lw_p65, List.forall_mem_cons.mpr ⟨lw_p66, fun _ h => absurd h List.not_mem_nil⟩⟩⟩
def lw_privs : List (MethodName × Nat) := lw_privs_1 ++ (lw_privs_2 ++ (lw_privs_3 ++ (lw_privs_4 ++ (lw_privs_5))))
def lw_tbl : List Cond := k2_sels lw_privs ++ tables_1
theorem lw_privs_ok : ∀ q ∈ lw_privs, lw_okq q := by
  show ∀ q ∈ lw_privs_1 ++ (lw_privs_2 ++ (lw_privs_3 ++ (lw_privs_4 ++ (lw_privs_5)))), lw_okq q
  exact List.forall_mem_append.mpr ⟨lw_r1, List.forall_mem_append.mpr ⟨lw_r2, List.forall_mem_append.mpr ⟨lw_r3, List.forall_mem_append.mpr ⟨lw_r4, lw_r5⟩⟩⟩⟩

def RX0 : String := "GiftMatch$Chooser"
def TX0 : u_T := fun k => match k with
  | 0 => ("GiftMatch$Chooser", "ledger", "LGiftMatch$Ledger;", true)
  | 1 => ("GiftMatch$Chooser", "wouldBy", "[I", true)
  | 2 => ("GiftMatch$Chooser", "others", "[I", true)
  | 3 => ("GiftMatch$Chooser", "row", "[I", true)
  | 4 => ("GiftMatch$Chooser", "most", "I", false)
  | _ => ("GiftMatch$Chooser", "before", "I", false)
def tyX0 : Nat → FieldType := fun k => match k with
  | 0 => .object "GiftMatch$Ledger"
  | 1 => .array .int
  | 2 => .array .int
  | 3 => .array .int
  | 4 => .int
  | _ => .int
abbrev wsX00 : List Cond := u_ws RX0 TX0 6
theorem nmX0 : ∀ a, a < 6 → ∀ b, b < 6 → a ≠ b → (TX0 a).2.1 ≠ (TX0 b).2.1 := by decide +kernel
theorem tyX0_ok : ∀ k, k < 6 → parseFieldDescriptor (TX0 k).2.2.1 = some (tyX0 k) := by decide +kernel
abbrev cX0_init : ByteArray := prog_2_method_1_code
def yX0_init : MethodName := ⟨RX0, "<init>", "(LGiftMatch$Ledger;)V"⟩
abbrev cX0_choose : ByteArray := prog_2_method_2_code
def yX0_choose : MethodName := ⟨RX0, "choose", "(LGiftMatch$Scene;I)V"⟩
abbrev cX0_foresee : ByteArray := prog_2_method_3_code
def yX0_foresee : MethodName := ⟨RX0, "foresee", "(LGiftMatch$Scene;I)V"⟩
abbrev cX0_weigh : ByteArray := prog_2_method_4_code
def yX0_weigh : MethodName := ⟨RX0, "weigh", "(LGiftMatch$Scene;IIII)V"⟩
abbrev cX0_enter : ByteArray := prog_2_method_5_code
def yX0_enter : MethodName := ⟨RX0, "enter", "(II)V"⟩
def RX1 : String := "GiftMatch$Common"
def TX1 : u_T := fun k => match k with
  | 0 => ("GiftMatch$Common", "worths", "[I", true)
  | 1 => ("GiftMatch$Common", "mostFrom", "[I", true)
  | 2 => ("GiftMatch$Common", "row", "[I", true)
  | _ => ("GiftMatch$Common", "most", "I", false)
def tyX1 : Nat → FieldType := fun k => match k with
  | 0 => .array .int
  | 1 => .array .int
  | 2 => .array .int
  | _ => .int
abbrev wsX10 : List Cond := u_ws RX1 TX1 4
theorem nmX1 : ∀ a, a < 4 → ∀ b, b < 4 → a ≠ b → (TX1 a).2.1 ≠ (TX1 b).2.1 := by decide +kernel
theorem tyX1_ok : ∀ k, k < 4 → parseFieldDescriptor (TX1 k).2.2.1 = some (tyX1 k) := by decide +kernel
abbrev cX1_init : ByteArray := prog_3_method_1_code
def yX1_init : MethodName := ⟨RX1, "<init>", "()V"⟩
abbrev cX1_find : ByteArray := prog_3_method_2_code
def yX1_find : MethodName := ⟨RX1, "find", "(LGiftMatch$Scene;)V"⟩
abbrev cX1_fillWorths : ByteArray := prog_3_method_3_code
def yX1_fillWorths : MethodName := ⟨RX1, "fillWorths", "(LGiftMatch$Scene;I)V"⟩
abbrev cX1_firstBest : ByteArray := prog_3_method_4_code
def yX1_firstBest : MethodName := ⟨RX1, "firstBest", "(II)I"⟩
abbrev cX1_haveBy : ByteArray := prog_3_method_5_code
def yX1_haveBy : MethodName := ⟨RX1, "haveBy", "(III)I"⟩
def RX2 : String := "GiftMatch$Laws"
def TX2 : u_T := fun k => match k with
  | _ => ("GiftMatch$Laws", "sight", "LGiftMatch$Sight;", true)
def tyX2 : Nat → FieldType := fun k => match k with
  | _ => .object "GiftMatch$Sight"
abbrev wsX20 : List Cond := u_ws RX2 TX2 1
theorem nmX2 : ∀ a, a < 1 → ∀ b, b < 1 → a ≠ b → (TX2 a).2.1 ≠ (TX2 b).2.1 := by decide +kernel
theorem tyX2_ok : ∀ k, k < 1 → parseFieldDescriptor (TX2 k).2.2.1 = some (tyX2 k) := by decide +kernel
abbrev cX2_init : ByteArray := prog_4_method_1_code
def yX2_init : MethodName := ⟨RX2, "<init>", "(LGiftMatch$Sight;)V"⟩
abbrev cX2_hold : ByteArray := prog_4_method_2_code
def yX2_hold : MethodName := ⟨RX2, "hold", "(LGiftMatch$Rule;IIII)Z"⟩
abbrev cX2_noneMoreByHands : ByteArray := prog_4_method_3_code
def yX2_noneMoreByHands : MethodName := ⟨RX2, "noneMoreByHands", "(LGiftMatch$Rule;III)Z"⟩
abbrev cX2_addedTo : ByteArray := prog_4_method_4_code
def yX2_addedTo : MethodName := ⟨RX2, "addedTo", "(LGiftMatch$Rule;III)I"⟩
def RX3 : String := "GiftMatch$Ledger"
def TX3 : u_T := fun k => match k with
  | 0 => ("GiftMatch$Ledger", "sight", "LGiftMatch$Sight;", true)
  | 1 => ("GiftMatch$Ledger", "gifts", "[I", true)
  | 2 => ("GiftMatch$Ledger", "would", "[I", true)
  | 3 => ("GiftMatch$Ledger", "added", "[I", true)
  | _ => ("GiftMatch$Ledger", "lacks", "Z", false)
def tyX3 : Nat → FieldType := fun k => match k with
  | 0 => .object "GiftMatch$Sight"
  | 1 => .array .int
  | 2 => .array .int
  | 3 => .array .int
  | _ => .boolean
abbrev wsX30 : List Cond := u_ws RX3 TX3 5
theorem nmX3 : ∀ a, a < 5 → ∀ b, b < 5 → a ≠ b → (TX3 a).2.1 ≠ (TX3 b).2.1 := by decide +kernel
theorem tyX3_ok : ∀ k, k < 5 → parseFieldDescriptor (TX3 k).2.2.1 = some (tyX3 k) := by decide +kernel
abbrev cX3_init : ByteArray := prog_5_method_1_code
def yX3_init : MethodName := ⟨RX3, "<init>", "(LGiftMatch$Sight;)V"⟩
abbrev cX3_fill : ByteArray := prog_5_method_2_code
def yX3_fill : MethodName := ⟨RX3, "fill", "(LGiftMatch$Scene;)V"⟩
abbrev cX3_partPurse : ByteArray := prog_5_method_3_code
def yX3_partPurse : MethodName := ⟨RX3, "partPurse", "(LGiftMatch$Scene;)V"⟩
abbrev cX3_partByShare : ByteArray := prog_5_method_4_code
def yX3_partByShare : MethodName := ⟨RX3, "partByShare", "(II)V"⟩
abbrev cX3_partByNumber : ByteArray := prog_5_method_5_code
def yX3_partByNumber : MethodName := ⟨RX3, "partByNumber", "(I)V"⟩
abbrev cX3_partByBound : ByteArray := prog_5_method_6_code
def yX3_partByBound : MethodName := ⟨RX3, "partByBound", "(I)V"⟩
abbrev cX3_haveOf : ByteArray := prog_5_method_7_code
def yX3_haveOf : MethodName := ⟨RX3, "haveOf", "(LGiftMatch$Scene;II)I"⟩
abbrev cX3_allHave : ByteArray := prog_5_method_8_code
def yX3_allHave : MethodName := ⟨RX3, "allHave", "(LGiftMatch$Scene;)I"⟩
def RX4 : String := "GiftMatch$Partings"
def TX4 : u_T := fun k => match k with
  | 0 => ("GiftMatch$Partings", "ledger", "LGiftMatch$Ledger;", true)
  | 1 => ("GiftMatch$Partings", "mostBy", "[I", true)
  | _ => ("GiftMatch$Partings", "plain", "I", false)
def tyX4 : Nat → FieldType := fun k => match k with
  | 0 => .object "GiftMatch$Ledger"
  | 1 => .array .int
  | _ => .int
abbrev wsX40 : List Cond := u_ws RX4 TX4 3
theorem nmX4 : ∀ a, a < 3 → ∀ b, b < 3 → a ≠ b → (TX4 a).2.1 ≠ (TX4 b).2.1 := by decide +kernel
theorem tyX4_ok : ∀ k, k < 3 → parseFieldDescriptor (TX4 k).2.2.1 = some (tyX4 k) := by decide +kernel
abbrev cX4_init : ByteArray := prog_6_method_1_code
def yX4_init : MethodName := ⟨RX4, "<init>", "(LGiftMatch$Ledger;)V"⟩
abbrev cX4_weighAll : ByteArray := prog_6_method_2_code
def yX4_weighAll : MethodName := ⟨RX4, "weighAll", "(LGiftMatch$Scene;II)V"⟩
abbrev cX4_weigh : ByteArray := prog_6_method_3_code
def yX4_weigh : MethodName := ⟨RX4, "weigh", "(LGiftMatch$Scene;IIIII)V"⟩
abbrev cX4_most : ByteArray := prog_6_method_4_code
def yX4_most : MethodName := ⟨RX4, "most", "()I"⟩
abbrev cX4_leastCost : ByteArray := prog_6_method_5_code
def yX4_leastCost : MethodName := ⟨RX4, "leastCost", "()I"⟩
def RX5 : String := "GiftMatch$Reader"
def TX5 : u_T := fun k => match k with
  | 0 => ("GiftMatch$Reader", "waiting", "[I", true)
  | 1 => ("GiftMatch$Reader", "waitCount", "I", false)
  | 2 => ("GiftMatch$Reader", "brackets", "I", false)
  | 3 => ("GiftMatch$Reader", "digits", "I", false)
  | _ => ("GiftMatch$Reader", "wantsUnit", "Z", false)
def tyX5 : Nat → FieldType := fun k => match k with
  | 0 => .array .int
  | 1 => .int
  | 2 => .int
  | 3 => .int
  | _ => .boolean
abbrev wsX50 : List Cond := u_ws RX5 TX5 5
theorem nmX5 : ∀ a, a < 5 → ∀ b, b < 5 → a ≠ b → (TX5 a).2.1 ≠ (TX5 b).2.1 := by decide +kernel
theorem tyX5_ok : ∀ k, k < 5 → parseFieldDescriptor (TX5 k).2.2.1 = some (tyX5 k) := by decide +kernel
abbrev cX5_init : ByteArray := prog_7_method_1_code
def yX5_init : MethodName := ⟨RX5, "<init>", "()V"⟩
abbrev cX5_read : ByteArray := prog_7_method_2_code
def yX5_read : MethodName := ⟨RX5, "read", "(LGiftMatch$Rule;)V"⟩
abbrev cX5_readCharacter : ByteArray := prog_7_method_3_code
def yX5_readCharacter : MethodName := ⟨RX5, "readCharacter", "(LGiftMatch$Rule;I)V"⟩
abbrev cX5_readDigit : ByteArray := prog_7_method_4_code
def yX5_readDigit : MethodName := ⟨RX5, "readDigit", "(LGiftMatch$Rule;II)V"⟩
abbrev cX5_readUnit : ByteArray := prog_7_method_5_code
def yX5_readUnit : MethodName := ⟨RX5, "readUnit", "(LGiftMatch$Rule;I)Z"⟩
abbrev cX5_readBehindUnit : ByteArray := prog_7_method_6_code
def yX5_readBehindUnit : MethodName := ⟨RX5, "readBehindUnit", "(LGiftMatch$Rule;I)Z"⟩
abbrev cX5_closeBracket : ByteArray := prog_7_method_7_code
def yX5_closeBracket : MethodName := ⟨RX5, "closeBracket", "(LGiftMatch$Rule;)Z"⟩
abbrev cX5_hold : ByteArray := prog_7_method_8_code
def yX5_hold : MethodName := ⟨RX5, "hold", "(I)V"⟩
abbrev cX5_release : ByteArray := prog_7_method_9_code
def yX5_release : MethodName := ⟨RX5, "release", "(LGiftMatch$Rule;I)V"⟩
abbrev cX5_lastRank : ByteArray := prog_7_method_10_code
def yX5_lastRank : MethodName := ⟨RX5, "lastRank", "()I"⟩
abbrev cX5_rankOf : ByteArray := prog_7_method_11_code
def yX5_rankOf : MethodName := ⟨RX5, "rankOf", "(I)I"⟩
def RX6 : String := "GiftMatch$Rounds"
def TX6 : u_T := fun k => match k with
  | 0 => ("GiftMatch$Rounds", "chooser", "LGiftMatch$Chooser;", true)
  | _ => ("GiftMatch$Rounds", "behind", "[J", true)
def tyX6 : Nat → FieldType := fun k => match k with
  | 0 => .object "GiftMatch$Chooser"
  | _ => .array .long
abbrev wsX60 : List Cond := u_ws RX6 TX6 2
theorem nmX6 : ∀ a, a < 2 → ∀ b, b < 2 → a ≠ b → (TX6 a).2.1 ≠ (TX6 b).2.1 := by decide +kernel
theorem tyX6_ok : ∀ k, k < 2 → parseFieldDescriptor (TX6 k).2.2.1 = some (tyX6 k) := by decide +kernel
abbrev cX6_init : ByteArray := prog_8_method_1_code
def yX6_init : MethodName := ⟨RX6, "<init>", "(LGiftMatch$Chooser;)V"⟩
abbrev cX6_run : ByteArray := prog_8_method_2_code
def yX6_run : MethodName := ⟨RX6, "run", "(LGiftMatch$Scene;)I"⟩
abbrev cX6_wasBefore : ByteArray := prog_8_method_3_code
def yX6_wasBefore : MethodName := ⟨RX6, "wasBefore", "(I)Z"⟩
def RX7 : String := "GiftMatch$Rule"
def TX7 : u_T := fun k => match k with
  | 0 => ("GiftMatch$Rule", "text", "[I", true)
  | 1 => ("GiftMatch$Rule", "steps", "[I", true)
  | 2 => ("GiftMatch$Rule", "length", "I", false)
  | 3 => ("GiftMatch$Rule", "stepCount", "I", false)
  | _ => ("GiftMatch$Rule", "flaw", "I", false)
def tyX7 : Nat → FieldType := fun k => match k with
  | 0 => .array .int
  | 1 => .array .int
  | 2 => .int
  | 3 => .int
  | _ => .int
abbrev wsX70 : List Cond := u_ws RX7 TX7 5
theorem nmX7 : ∀ a, a < 5 → ∀ b, b < 5 → a ≠ b → (TX7 a).2.1 ≠ (TX7 b).2.1 := by decide +kernel
theorem tyX7_ok : ∀ k, k < 5 → parseFieldDescriptor (TX7 k).2.2.1 = some (tyX7 k) := by decide +kernel
abbrev cX7_init : ByteArray := prog_9_method_1_code
def yX7_init : MethodName := ⟨RX7, "<init>", "()V"⟩
abbrev cX7_take : ByteArray := prog_9_method_2_code
def yX7_take : MethodName := ⟨RX7, "take", "(LGiftMatch$Rule;)V"⟩
abbrev cX7_addStep : ByteArray := prog_9_method_3_code
def yX7_addStep : MethodName := ⟨RX7, "addStep", "(I)V"⟩
def RX8 : String := "GiftMatch$Scene"
def TX8 : u_T := fun k => match k with
  | 0 => ("GiftMatch$Scene", "coin", "[I", true)
  | 1 => ("GiftMatch$Scene", "bar", "[I", true)
  | 2 => ("GiftMatch$Scene", "first", "[I", true)
  | 3 => ("GiftMatch$Scene", "fall", "[I", true)
  | 4 => ("GiftMatch$Scene", "gift", "[I", true)
  | 5 => ("GiftMatch$Scene", "rules", "[LGiftMatch$Rule;", true)
  | 6 => ("GiftMatch$Scene", "givers", "I", false)
  | 7 => ("GiftMatch$Scene", "works", "I", false)
  | 8 => ("GiftMatch$Scene", "keep", "I", false)
  | 9 => ("GiftMatch$Scene", "theRule", "I", false)
  | 10 => ("GiftMatch$Scene", "purse", "I", false)
  | _ => ("GiftMatch$Scene", "parted", "I", false)
def tyX8 : Nat → FieldType := fun k => match k with
  | 0 => .array .int
  | 1 => .array .int
  | 2 => .array .int
  | 3 => .array .int
  | 4 => .array .int
  | 5 => .array (.object "GiftMatch$Rule")
  | 6 => .int
  | 7 => .int
  | 8 => .int
  | 9 => .int
  | 10 => .int
  | _ => .int
abbrev wsX80 : List Cond := u_ws RX8 TX8 12
theorem nmX8 : ∀ a, a < 12 → ∀ b, b < 12 → a ≠ b → (TX8 a).2.1 ≠ (TX8 b).2.1 := by decide +kernel
theorem tyX8_ok : ∀ k, k < 12 → parseFieldDescriptor (TX8 k).2.2.1 = some (tyX8 k) := by decide +kernel
abbrev cX8_init : ByteArray := prog_10_method_1_code
def yX8_init : MethodName := ⟨RX8, "<init>", "()V"⟩
abbrev cX8_take : ByteArray := prog_10_method_2_code
def yX8_take : MethodName := ⟨RX8, "take", "(LGiftMatch$Scene;)V"⟩
abbrev cX8_takePeople : ByteArray := prog_10_method_3_code
def yX8_takePeople : MethodName := ⟨RX8, "takePeople", "(LGiftMatch$Scene;)V"⟩
abbrev cX8_givenBy : ByteArray := prog_10_method_4_code
def yX8_givenBy : MethodName := ⟨RX8, "givenBy", "(I)I"⟩
abbrev cX8_keptBy : ByteArray := prog_10_method_5_code
def yX8_keptBy : MethodName := ⟨RX8, "keptBy", "(I)I"⟩
abbrev cX8_givenTo : ByteArray := prog_10_method_6_code
def yX8_givenTo : MethodName := ⟨RX8, "givenTo", "(I)I"⟩
abbrev cX8_givenInAll : ByteArray := prog_10_method_7_code
def yX8_givenInAll : MethodName := ⟨RX8, "givenInAll", "()I"⟩
abbrev cX8_coinInAll : ByteArray := prog_10_method_8_code
def yX8_coinInAll : MethodName := ⟨RX8, "coinInAll", "()I"⟩
abbrev cX8_packedGifts : ByteArray := prog_10_method_9_code
def yX8_packedGifts : MethodName := ⟨RX8, "packedGifts", "()J"⟩
abbrev cX8_worthOf : ByteArray := prog_10_method_10_code
def yX8_worthOf : MethodName := ⟨RX8, "worthOf", "(III)I"⟩
def RX9 : String := "GiftMatch$Sight"
def TX9 : u_T := fun k => match k with
  | 0 => ("GiftMatch$Sight", "stack", "[J", true)
  | 1 => ("GiftMatch$Sight", "height", "I", false)
  | 2 => ("GiftMatch$Sight", "sum", "I", false)
  | 3 => ("GiftMatch$Sight", "heads", "I", false)
  | 4 => ("GiftMatch$Sight", "greatest", "I", false)
  | 5 => ("GiftMatch$Sight", "least", "I", false)
  | _ => ("GiftMatch$Sight", "rootSum", "J", false)
def tyX9 : Nat → FieldType := fun k => match k with
  | 0 => .array .long
  | 1 => .int
  | 2 => .int
  | 3 => .int
  | 4 => .int
  | 5 => .int
  | _ => .long
abbrev wsX90 : List Cond := u_ws RX9 TX9 7
theorem nmX9 : ∀ a, a < 7 → ∀ b, b < 7 → a ≠ b → (TX9 a).2.1 ≠ (TX9 b).2.1 := by decide +kernel
theorem tyX9_ok : ∀ k, k < 7 → parseFieldDescriptor (TX9 k).2.2.1 = some (tyX9 k) := by decide +kernel
abbrev cX9_init : ByteArray := prog_11_method_1_code
def yX9_init : MethodName := ⟨RX9, "<init>", "()V"⟩
abbrev cX9_clear : ByteArray := prog_11_method_2_code
def yX9_clear : MethodName := ⟨RX9, "clear", "()V"⟩
abbrev cX9_see : ByteArray := prog_11_method_3_code
def yX9_see : MethodName := ⟨RX9, "see", "(I)V"⟩
abbrev cX9_seeAllBut : ByteArray := prog_11_method_4_code
def yX9_seeAllBut : MethodName := ⟨RX9, "seeAllBut", "(LGiftMatch$Scene;II)V"⟩
abbrev cX9_toldBy : ByteArray := prog_11_method_5_code
def yX9_toldBy : MethodName := ⟨RX9, "toldBy", "(LGiftMatch$Rule;)I"⟩
abbrev cX9_doStep : ByteArray := prog_11_method_6_code
def yX9_doStep : MethodName := ⟨RX9, "doStep", "(I)V"⟩
abbrev cX9_joined : ByteArray := prog_11_method_7_code
def yX9_joined : MethodName := ⟨RX9, "joined", "(IJJ)J"⟩
abbrev cX9_push : ByteArray := prog_11_method_8_code
def yX9_push : MethodName := ⟨RX9, "push", "(J)V"⟩
abbrev cX9_pop : ByteArray := prog_11_method_9_code
def yX9_pop : MethodName := ⟨RX9, "pop", "()J"⟩
def RX10 : String := "GiftMatch"
def TX10 : u_T := fun k => match k with
  | 0 => ("GiftMatch", "scene", "LGiftMatch$Scene;", true)
  | 1 => ("GiftMatch", "bare", "LGiftMatch$Scene;", true)
  | 2 => ("GiftMatch", "images", "[LGiftMatch$Scene;", true)
  | 3 => ("GiftMatch", "isKept", "[Z", true)
  | 4 => ("GiftMatch", "reader", "LGiftMatch$Reader;", true)
  | 5 => ("GiftMatch", "sight", "LGiftMatch$Sight;", true)
  | 6 => ("GiftMatch", "ledger", "LGiftMatch$Ledger;", true)
  | 7 => ("GiftMatch", "chooser", "LGiftMatch$Chooser;", true)
  | 8 => ("GiftMatch", "rounds", "LGiftMatch$Rounds;", true)
  | 9 => ("GiftMatch", "common", "LGiftMatch$Common;", true)
  | 10 => ("GiftMatch", "partings", "LGiftMatch$Partings;", true)
  | _ => ("GiftMatch", "laws", "LGiftMatch$Laws;", true)
def tyX10 : Nat → FieldType := fun k => match k with
  | 0 => .object "GiftMatch$Scene"
  | 1 => .object "GiftMatch$Scene"
  | 2 => .array (.object "GiftMatch$Scene")
  | 3 => .array .boolean
  | 4 => .object "GiftMatch$Reader"
  | 5 => .object "GiftMatch$Sight"
  | 6 => .object "GiftMatch$Ledger"
  | 7 => .object "GiftMatch$Chooser"
  | 8 => .object "GiftMatch$Rounds"
  | 9 => .object "GiftMatch$Common"
  | 10 => .object "GiftMatch$Partings"
  | _ => .object "GiftMatch$Laws"
abbrev wsX100 : List Cond := u_ws RX10 TX10 12
theorem nmX10 : ∀ a, a < 12 → ∀ b, b < 12 → a ≠ b → (TX10 a).2.1 ≠ (TX10 b).2.1 := by decide +kernel
theorem tyX10_ok : ∀ k, k < 12 → parseFieldDescriptor (TX10 k).2.2.1 = some (tyX10 k) := by decide +kernel
abbrev cX10_init : ByteArray := prog_1_method_1_code
def yX10_init : MethodName := ⟨RX10, "<init>", "()V"⟩
abbrev cX10_giver : ByteArray := prog_1_method_2_code
def yX10_giver : MethodName := ⟨RX10, "giver", "(I)I"⟩
abbrev cX10_work : ByteArray := prog_1_method_3_code
def yX10_work : MethodName := ⟨RX10, "work", "(I)I"⟩
abbrev cX10_worth : ByteArray := prog_1_method_4_code
def yX10_worth : MethodName := ⟨RX10, "worth", "(IIII)I"⟩
abbrev cX10_set : ByteArray := prog_1_method_5_code
def yX10_set : MethodName := ⟨RX10, "set", "(II)I"⟩
abbrev cX10_write : ByteArray := prog_1_method_6_code
def yX10_write : MethodName := ⟨RX10, "write", "(II)I"⟩
abbrev cX10_erase : ByteArray := prog_1_method_7_code
def yX10_erase : MethodName := ⟨RX10, "erase", "(I)I"⟩
abbrev cX10_fault : ByteArray := prog_1_method_8_code
def yX10_fault : MethodName := ⟨RX10, "fault", "(I)I"⟩
abbrev cX10_give : ByteArray := prog_1_method_9_code
def yX10_give : MethodName := ⟨RX10, "give", "(III)I"⟩
abbrev cX10_amount : ByteArray := prog_1_method_10_code
def yX10_amount : MethodName := ⟨RX10, "amount", "(II)I"⟩
abbrev cX10_isShort : ByteArray := prog_1_method_11_code
def yX10_isShort : MethodName := ⟨RX10, "isShort", "()I"⟩
abbrev cX10_has : ByteArray := prog_1_method_12_code
def yX10_has : MethodName := ⟨RX10, "has", "(I)I"⟩
abbrev cX10_best : ByteArray := prog_1_method_13_code
def yX10_best : MethodName := ⟨RX10, "best", "(II)I"⟩
abbrev cX10_rest : ByteArray := prog_1_method_14_code
def yX10_rest : MethodName := ⟨RX10, "rest", "(I)I"⟩
abbrev cX10_turns : ByteArray := prog_1_method_15_code
def yX10_turns : MethodName := ⟨RX10, "turns", "()I"⟩
abbrev cX10_good : ByteArray := prog_1_method_16_code
def yX10_good : MethodName := ⟨RX10, "good", "(I)I"⟩
abbrev cX10_lost : ByteArray := prog_1_method_17_code
def yX10_lost : MethodName := ⟨RX10, "lost", "()I"⟩
abbrev cX10_gain : ByteArray := prog_1_method_18_code
def yX10_gain : MethodName := ⟨RX10, "gain", "(II)I"⟩
abbrev cX10_hand : ByteArray := prog_1_method_19_code
def yX10_hand : MethodName := ⟨RX10, "hand", "(II)I"⟩
abbrev cX10_anyway : ByteArray := prog_1_method_20_code
def yX10_anyway : MethodName := ⟨RX10, "anyway", "(I)I"⟩
abbrev cX10_breach : ByteArray := prog_1_method_21_code
def yX10_breach : MethodName := ⟨RX10, "breach", "(III)I"⟩
abbrev cX10_image : ByteArray := prog_1_method_22_code
def yX10_image : MethodName := ⟨RX10, "image", "(I)I"⟩
abbrev cX10_from : ByteArray := prog_1_method_23_code
def yX10_from : MethodName := ⟨RX10, "from", "(I)I"⟩
abbrev cX10_count : ByteArray := prog_1_method_24_code
def yX10_count : MethodName := ⟨RX10, "count", "(I)I"⟩
abbrev cX10_digest : ByteArray := prog_1_method_25_code
def yX10_digest : MethodName := ⟨RX10, "digest", "()J"⟩
abbrev cX10_digestGivers : ByteArray := prog_1_method_26_code
def yX10_digestGivers : MethodName := ⟨RX10, "digestGivers", "(J)J"⟩
abbrev cX10_digestWorks : ByteArray := prog_1_method_27_code
def yX10_digestWorks : MethodName := ⟨RX10, "digestWorks", "(J)J"⟩
abbrev cX10_digestRules : ByteArray := prog_1_method_28_code
def yX10_digestRules : MethodName := ⟨RX10, "digestRules", "(J)J"⟩
abbrev cX10_setKeep : ByteArray := prog_1_method_29_code
def yX10_setKeep : MethodName := ⟨RX10, "setKeep", "(I)I"⟩
abbrev cX10_setTheRule : ByteArray := prog_1_method_30_code
def yX10_setTheRule : MethodName := ⟨RX10, "setTheRule", "(I)I"⟩
abbrev cX10_setPurse : ByteArray := prog_1_method_31_code
def yX10_setPurse : MethodName := ⟨RX10, "setPurse", "(I)I"⟩
abbrev cX10_setParted : ByteArray := prog_1_method_32_code
def yX10_setParted : MethodName := ⟨RX10, "setParted", "(I)I"⟩
abbrev cX10_isWithin : ByteArray := prog_1_method_33_code
def yX10_isWithin : MethodName := ⟨RX10, "isWithin", "(II)Z"⟩
abbrev cX10_isRule : ByteArray := prog_1_method_34_code
def yX10_isRule : MethodName := ⟨RX10, "isRule", "(I)Z"⟩
abbrev cX10_isGiver : ByteArray := prog_1_method_35_code
def yX10_isGiver : MethodName := ⟨RX10, "isGiver", "(I)Z"⟩
abbrev cX10_isWork : ByteArray := prog_1_method_36_code
def yX10_isWork : MethodName := ⟨RX10, "isWork", "(I)Z"⟩
abbrev cX10_isPair : ByteArray := prog_1_method_37_code
def yX10_isPair : MethodName := ⟨RX10, "isPair", "(II)Z"⟩
def RX11 : String := "GiftMatchModel"
def TX11 : u_T := fun k => match k with
  | 0 => ("GiftMatchModel", "now", "[I", true)
  | 1 => ("GiftMatchModel", "kept", "[I", true)
  | 2 => ("GiftMatchModel", "isKept", "[Z", true)
  | 3 => ("GiftMatchModel", "text", "I", false)
  | 4 => ("GiftMatchModel", "at", "I", false)
  | 5 => ("GiftMatchModel", "fault", "I", false)
  | 6 => ("GiftMatchModel", "values", "[J", true)
  | 7 => ("GiftMatchModel", "valueMany", "I", false)
  | 8 => ("GiftMatchModel", "signs", "[I", true)
  | 9 => ("GiftMatchModel", "signMany", "I", false)
  | 10 => ("GiftMatchModel", "names", "[J", true)
  | 11 => ("GiftMatchModel", "told", "J", false)
  | 12 => ("GiftMatchModel", "hands", "[I", true)
  | 13 => ("GiftMatchModel", "handMany", "I", false)
  | 14 => ("GiftMatchModel", "roots", "[J", true)
  | 15 => ("GiftMatchModel", "would", "[I", true)
  | 16 => ("GiftMatchModel", "added", "[I", true)
  | 17 => ("GiftMatchModel", "given", "[I", true)
  | 18 => ("GiftMatchModel", "isPlain", "Z", false)
  | 19 => ("GiftMatchModel", "handGiver", "I", false)
  | 20 => ("GiftMatchModel", "handWork", "I", false)
  | 21 => ("GiftMatchModel", "parts", "[I", true)
  | 22 => ("GiftMatchModel", "bestRow", "[I", true)
  | 23 => ("GiftMatchModel", "wasRow", "[I", true)
  | 24 => ("GiftMatchModel", "rounds", "[I", true)
  | 25 => ("GiftMatchModel", "worthAll", "[I", true)
  | 26 => ("GiftMatchModel", "goodRow", "[I", true)
  | 27 => ("GiftMatchModel", "byHands", "[I", true)
  | _ => ("GiftMatchModel", "wereGifts", "[I", true)
def tyX11 : Nat → FieldType := fun k => match k with
  | 0 => .array .int
  | 1 => .array .int
  | 2 => .array .boolean
  | 3 => .int
  | 4 => .int
  | 5 => .int
  | 6 => .array .long
  | 7 => .int
  | 8 => .array .int
  | 9 => .int
  | 10 => .array .long
  | 11 => .long
  | 12 => .array .int
  | 13 => .int
  | 14 => .array .long
  | 15 => .array .int
  | 16 => .array .int
  | 17 => .array .int
  | 18 => .boolean
  | 19 => .int
  | 20 => .int
  | 21 => .array .int
  | 22 => .array .int
  | 23 => .array .int
  | 24 => .array .int
  | 25 => .array .int
  | 26 => .array .int
  | 27 => .array .int
  | _ => .array .int
abbrev wsX110 : List Cond := u_ws RX11 TX11 29
theorem nmX11 : ∀ a, a < 29 → ∀ b, b < 29 → a ≠ b → (TX11 a).2.1 ≠ (TX11 b).2.1 := by decide +kernel
theorem tyX11_ok : ∀ k, k < 29 → parseFieldDescriptor (TX11 k).2.2.1 = some (tyX11 k) := by decide +kernel
abbrev cX11_init : ByteArray := prog_13_method_1_code
def yX11_init : MethodName := ⟨RX11, "<init>", "()V"⟩
abbrev cX11_in : ByteArray := prog_13_method_3_code
def yX11_in : MethodName := ⟨RX11, "in", "(JJJ)Z"⟩
abbrev cX11_givers : ByteArray := prog_13_method_4_code
def yX11_givers : MethodName := ⟨RX11, "givers", "()I"⟩
abbrev cX11_works : ByteArray := prog_13_method_5_code
def yX11_works : MethodName := ⟨RX11, "works", "()I"⟩
abbrev cX11_isGiver : ByteArray := prog_13_method_6_code
def yX11_isGiver : MethodName := ⟨RX11, "isGiver", "(I)Z"⟩
abbrev cX11_isWork : ByteArray := prog_13_method_7_code
def yX11_isWork : MethodName := ⟨RX11, "isWork", "(I)Z"⟩
abbrev cX11_gift : ByteArray := prog_13_method_8_code
def yX11_gift : MethodName := ⟨RX11, "gift", "(II)I"⟩
abbrev cX11_giver : ByteArray := prog_13_method_9_code
def yX11_giver : MethodName := ⟨RX11, "giver", "(I)I"⟩
abbrev cX11_work : ByteArray := prog_13_method_10_code
def yX11_work : MethodName := ⟨RX11, "work", "(I)I"⟩
abbrev cX11_worth : ByteArray := prog_13_method_11_code
def yX11_worth : MethodName := ⟨RX11, "worth", "(IIII)I"⟩
abbrev cX11_set : ByteArray := prog_13_method_12_code
def yX11_set : MethodName := ⟨RX11, "set", "(II)I"⟩
abbrev cX11_isRule : ByteArray := prog_13_method_13_code
def yX11_isRule : MethodName := ⟨RX11, "isRule", "(I)Z"⟩
abbrev cX11_write : ByteArray := prog_13_method_14_code
def yX11_write : MethodName := ⟨RX11, "write", "(II)I"⟩
abbrev cX11_erase : ByteArray := prog_13_method_15_code
def yX11_erase : MethodName := ⟨RX11, "erase", "(I)I"⟩
abbrev cX11_textLong : ByteArray := prog_13_method_16_code
def yX11_textLong : MethodName := ⟨RX11, "textLong", "()I"⟩
abbrev cX11_charAt : ByteArray := prog_13_method_17_code
def yX11_charAt : MethodName := ⟨RX11, "charAt", "(I)I"⟩
abbrev cX11_ahead : ByteArray := prog_13_method_18_code
def yX11_ahead : MethodName := ⟨RX11, "ahead", "()I"⟩
abbrev cX11_rank : ByteArray := prog_13_method_19_code
def yX11_rank : MethodName := ⟨RX11, "rank", "(I)I"⟩
abbrev cX11_workOut : ByteArray := prog_13_method_20_code
def yX11_workOut : MethodName := ⟨RX11, "workOut", "()V"⟩
abbrev cX11_workDown : ByteArray := prog_13_method_21_code
def yX11_workDown : MethodName := ⟨RX11, "workDown", "(I)V"⟩
abbrev cX11_stands : ByteArray := prog_13_method_22_code
def yX11_stands : MethodName := ⟨RX11, "stands", "(J)V"⟩
abbrev cX11_nameOf : ByteArray := prog_13_method_23_code
def yX11_nameOf : MethodName := ⟨RX11, "nameOf", "(I)I"⟩
abbrev cX11_digits : ByteArray := prog_13_method_24_code
def yX11_digits : MethodName := ⟨RX11, "digits", "()J"⟩
abbrev cX11_reads : ByteArray := prog_13_method_25_code
def yX11_reads : MethodName := ⟨RX11, "reads", "()Z"⟩
abbrev cX11_fault : ByteArray := prog_13_method_26_code
def yX11_fault : MethodName := ⟨RX11, "fault", "(I)I"⟩
abbrev cX11_rootOf : ByteArray := prog_13_method_27_code
def yX11_rootOf : MethodName := ⟨RX11, "rootOf", "(I)J"⟩
abbrev cX11_putHand : ByteArray := prog_13_method_28_code
def yX11_putHand : MethodName := ⟨RX11, "putHand", "(I)V"⟩
abbrev cX11_addedBy : ByteArray := prog_13_method_29_code
def yX11_addedBy : MethodName := ⟨RX11, "addedBy", "(I)I"⟩
abbrev cX11_addUp : ByteArray := prog_13_method_30_code
def yX11_addUp : MethodName := ⟨RX11, "addUp", "()V"⟩
abbrev cX11_part : ByteArray := prog_13_method_31_code
def yX11_part : MethodName := ⟨RX11, "part", "(II)V"⟩
abbrev cX11_below : ByteArray := prog_13_method_32_code
def yX11_below : MethodName := ⟨RX11, "below", "(I)I"⟩
abbrev cX11_worthOf : ByteArray := prog_13_method_33_code
def yX11_worthOf : MethodName := ⟨RX11, "worthOf", "(III)I"⟩
abbrev cX11_hasNow : ByteArray := prog_13_method_34_code
def yX11_hasNow : MethodName := ⟨RX11, "hasNow", "(I)I"⟩
abbrev cX11_allNow : ByteArray := prog_13_method_35_code
def yX11_allNow : MethodName := ⟨RX11, "allNow", "()I"⟩
abbrev cX11_give : ByteArray := prog_13_method_36_code
def yX11_give : MethodName := ⟨RX11, "give", "(III)I"⟩
abbrev cX11_amount : ByteArray := prog_13_method_37_code
def yX11_amount : MethodName := ⟨RX11, "amount", "(II)I"⟩
abbrev cX11_isShort : ByteArray := prog_13_method_38_code
def yX11_isShort : MethodName := ⟨RX11, "isShort", "()I"⟩
abbrev cX11_has : ByteArray := prog_13_method_39_code
def yX11_has : MethodName := ⟨RX11, "has", "(I)I"⟩
abbrev cX11_setRow : ByteArray := prog_13_method_40_code
def yX11_setRow : MethodName := ⟨RX11, "setRow", "(IIII)V"⟩
abbrev cX11_findBest : ByteArray := prog_13_method_41_code
def yX11_findBest : MethodName := ⟨RX11, "findBest", "(I)I"⟩
abbrev cX11_best : ByteArray := prog_13_method_42_code
def yX11_best : MethodName := ⟨RX11, "best", "(II)I"⟩
abbrev cX11_rest : ByteArray := prog_13_method_43_code
def yX11_rest : MethodName := ⟨RX11, "rest", "(I)I"⟩
abbrev cX11_isAgain : ByteArray := prog_13_method_44_code
def yX11_isAgain : MethodName := ⟨RX11, "isAgain", "(I)Z"⟩
abbrev cX11_note : ByteArray := prog_13_method_45_code
def yX11_note : MethodName := ⟨RX11, "note", "(I)V"⟩
abbrev cX11_goByTurns : ByteArray := prog_13_method_46_code
def yX11_goByTurns : MethodName := ⟨RX11, "goByTurns", "()I"⟩
abbrev cX11_turns : ByteArray := prog_13_method_47_code
def yX11_turns : MethodName := ⟨RX11, "turns", "()I"⟩
abbrev cX11_allCoin : ByteArray := prog_13_method_48_code
def yX11_allCoin : MethodName := ⟨RX11, "allCoin", "()I"⟩
abbrev cX11_findGood : ByteArray := prog_13_method_49_code
def yX11_findGood : MethodName := ⟨RX11, "findGood", "()I"⟩
abbrev cX11_good : ByteArray := prog_13_method_50_code
def yX11_good : MethodName := ⟨RX11, "good", "(I)I"⟩
abbrev cX11_lost : ByteArray := prog_13_method_51_code
def yX11_lost : MethodName := ⟨RX11, "lost", "()I"⟩
abbrev cX11_findHands : ByteArray := prog_13_method_52_code
def yX11_findHands : MethodName := ⟨RX11, "findHands", "(II)V"⟩
abbrev cX11_gain : ByteArray := prog_13_method_53_code
def yX11_gain : MethodName := ⟨RX11, "gain", "(II)I"⟩
abbrev cX11_hand : ByteArray := prog_13_method_54_code
def yX11_hand : MethodName := ⟨RX11, "hand", "(II)I"⟩
abbrev cX11_coinsGiven : ByteArray := prog_13_method_55_code
def yX11_coinsGiven : MethodName := ⟨RX11, "coinsGiven", "()I"⟩
abbrev cX11_anyway : ByteArray := prog_13_method_56_code
def yX11_anyway : MethodName := ⟨RX11, "anyway", "(I)I"⟩
abbrev cX11_addedTo : ByteArray := prog_13_method_57_code
def yX11_addedTo : MethodName := ⟨RX11, "addedTo", "(IIII)I"⟩
abbrev cX11_holds : ByteArray := prog_13_method_58_code
def yX11_holds : MethodName := ⟨RX11, "holds", "(IIIII)Z"⟩
abbrev cX11_breach : ByteArray := prog_13_method_59_code
def yX11_breach : MethodName := ⟨RX11, "breach", "(III)I"⟩
abbrev cX11_image : ByteArray := prog_13_method_60_code
def yX11_image : MethodName := ⟨RX11, "image", "(I)I"⟩
abbrev cX11_from : ByteArray := prog_13_method_61_code
def yX11_from : MethodName := ⟨RX11, "from", "(I)I"⟩
abbrev cX11_count : ByteArray := prog_13_method_62_code
def yX11_count : MethodName := ⟨RX11, "count", "(I)I"⟩
abbrev cX11_digest : ByteArray := prog_13_method_63_code
def yX11_digest : MethodName := ⟨RX11, "digest", "()J"⟩
def RJ9 : String := "java/lang/Math"
def TJ9 : u_T := fun k => match k with
  | _ => ("", "", "", false)
def tyJ9 : Nat → FieldType := fun k => match k with
  | _ => .int
abbrev wsJ90 : List Cond := u_ws RJ9 TJ9 0
theorem nmJ9 : ∀ a, a < 0 → ∀ b, b < 0 → a ≠ b → (TJ9 a).2.1 ≠ (TJ9 b).2.1 := by decide +kernel
theorem tyJ9_ok : ∀ k, k < 0 → parseFieldDescriptor (TJ9 k).2.2.1 = some (tyJ9 k) := by decide +kernel
abbrev cJ9_max_7cf53 : ByteArray := prog_14_method_65_code
def yJ9_max_7cf53 : MethodName := ⟨RJ9, "max", "(II)I"⟩
abbrev cJ9_max_f86c9 : ByteArray := prog_14_method_66_code
def yJ9_max_f86c9 : MethodName := ⟨RJ9, "max", "(JJ)J"⟩
abbrev cJ9_min_7cf53 : ByteArray := prog_14_method_69_code
def yJ9_min_7cf53 : MethodName := ⟨RJ9, "min", "(II)I"⟩
abbrev cJ9_min_f86c9 : ByteArray := prog_14_method_70_code
def yJ9_min_f86c9 : MethodName := ⟨RJ9, "min", "(JJ)J"⟩
def RJ10 : String := "java/lang/System"
def TJ10 : u_T := fun k => match k with
  | _ => ("", "", "", false)
def tyJ10 : Nat → FieldType := fun k => match k with
  | _ => .int
abbrev wsJ100 : List Cond := u_ws RJ10 TJ10 0
theorem nmJ10 : ∀ a, a < 0 → ∀ b, b < 0 → a ≠ b → (TJ10 a).2.1 ≠ (TJ10 b).2.1 := by decide +kernel
theorem tyJ10_ok : ∀ k, k < 0 → parseFieldDescriptor (TJ10 k).2.2.1 = some (tyJ10 k) := by decide +kernel
def RL : String := "GiftMatchLaw"
abbrev cL_law : ByteArray := code
def yL_law : MethodName := ⟨RL, "law", "([I)Z"⟩
end
section
abbrev MRec : Type := MethodName × ByteArray × Nat × Option FieldType × Nat × Nat × Nat
abbrev mX0_init : MRec := (yX0_init, cX0_init, 2, none, 3, 45, 0)
abbrev mX0_choose : MRec := (yX0_choose, cX0_choose, 10, none, 0, 0, 0)
abbrev mX0_foresee : MRec := (yX0_foresee, cX0_foresee, 6, none, 0, 0, 0)
abbrev mX0_weigh : MRec := (yX0_weigh, cX0_weigh, 7, none, 0, 0, 0)
abbrev mX0_enter : MRec := (yX0_enter, cX0_enter, 3, none, 0, 0, 0)
abbrev mX1_init : MRec := (yX1_init, cX1_init, 1, none, 3, 1230, 1)
abbrev mX1_find : MRec := (yX1_find, cX1_find, 6, none, 0, 0, 1)
abbrev mX1_fillWorths : MRec := (yX1_fillWorths, cX1_fillWorths, 6, none, 0, 0, 1)
abbrev mX1_firstBest : MRec := (yX1_firstBest, cX1_firstBest, 8, (some .int), 0, 0, 1)
abbrev mX1_haveBy : MRec := (yX1_haveBy, cX1_haveBy, 4, (some .int), 0, 0, 1)
abbrev mX2_init : MRec := (yX2_init, cX2_init, 2, none, 0, 0, 2)
abbrev mX2_hold : MRec := (yX2_hold, cX2_hold, 7, (some .boolean), 0, 0, 2)
abbrev mX2_noneMoreByHands : MRec := (yX2_noneMoreByHands, cX2_noneMoreByHands, 6, (some .boolean), 0, 0, 2)
abbrev mX2_addedTo : MRec := (yX2_addedTo, cX2_addedTo, 5, (some .int), 0, 0, 2)
abbrev mX3_init : MRec := (yX3_init, cX3_init, 2, none, 3, 9, 3)
abbrev mX3_fill : MRec := (yX3_fill, cX3_fill, 3, none, 0, 0, 3)
abbrev mX3_partPurse : MRec := (yX3_partPurse, cX3_partPurse, 4, none, 0, 0, 3)
abbrev mX3_partByShare : MRec := (yX3_partByShare, cX3_partByShare, 4, none, 0, 0, 3)
abbrev mX3_partByNumber : MRec := (yX3_partByNumber, cX3_partByNumber, 4, none, 0, 0, 3)
abbrev mX3_partByBound : MRec := (yX3_partByBound, cX3_partByBound, 7, none, 0, 0, 3)
abbrev mX3_haveOf : MRec := (yX3_haveOf, cX3_haveOf, 6, (some .int), 0, 0, 3)
abbrev mX3_allHave : MRec := (yX3_allHave, cX3_allHave, 4, (some .int), 0, 0, 3)
abbrev mX4_init : MRec := (yX4_init, cX4_init, 2, none, 1, 5, 4)
abbrev mX4_weighAll : MRec := (yX4_weighAll, cX4_weighAll, 8, none, 0, 0, 4)
abbrev mX4_weigh : MRec := (yX4_weigh, cX4_weigh, 10, none, 0, 0, 4)
abbrev mX4_most : MRec := (yX4_most, cX4_most, 3, (some .int), 0, 0, 4)
abbrev mX4_leastCost : MRec := (yX4_leastCost, cX4_leastCost, 4, (some .int), 0, 0, 4)
abbrev mX5_init : MRec := (yX5_init, cX5_init, 1, none, 1, 40, 5)
abbrev mX5_read : MRec := (yX5_read, cX5_read, 3, none, 0, 0, 5)
abbrev mX5_readCharacter : MRec := (yX5_readCharacter, cX5_readCharacter, 5, none, 0, 0, 5)
abbrev mX5_readDigit : MRec := (yX5_readDigit, cX5_readDigit, 5, none, 0, 0, 5)
abbrev mX5_readUnit : MRec := (yX5_readUnit, cX5_readUnit, 4, (some .boolean), 0, 0, 5)
abbrev mX5_readBehindUnit : MRec := (yX5_readBehindUnit, cX5_readBehindUnit, 4, (some .boolean), 0, 0, 5)
abbrev mX5_closeBracket : MRec := (yX5_closeBracket, cX5_closeBracket, 2, (some .boolean), 0, 0, 5)
abbrev mX5_hold : MRec := (yX5_hold, cX5_hold, 2, none, 0, 0, 5)
abbrev mX5_release : MRec := (yX5_release, cX5_release, 3, none, 0, 0, 5)
abbrev mX5_lastRank : MRec := (yX5_lastRank, cX5_lastRank, 1, (some .int), 0, 0, 5)
abbrev mX5_rankOf : MRec := (yX5_rankOf, cX5_rankOf, 1, (some .int), 0, 0, 5)
abbrev mX6_init : MRec := (yX6_init, cX6_init, 2, none, 1, 41, 6)
abbrev mX6_run : MRec := (yX6_run, cX6_run, 5, (some .int), 0, 0, 6)
abbrev mX6_wasBefore : MRec := (yX6_wasBefore, cX6_wasBefore, 3, (some .boolean), 0, 0, 6)
abbrev mX7_init : MRec := (yX7_init, cX7_init, 1, none, 2, 80, 7)
abbrev mX7_take : MRec := (yX7_take, cX7_take, 2, none, 0, 0, 7)
abbrev mX7_addStep : MRec := (yX7_addStep, cX7_addStep, 2, none, 0, 0, 7)
abbrev mX8_init : MRec := (yX8_init, cX8_init, 2, none, 15, 311, 8)
abbrev mX8_take : MRec := (yX8_take, cX8_take, 3, none, 0, 0, 8)
abbrev mX8_takePeople : MRec := (yX8_takePeople, cX8_takePeople, 3, none, 0, 0, 8)
abbrev mX8_givenBy : MRec := (yX8_givenBy, cX8_givenBy, 4, (some .int), 0, 0, 8)
abbrev mX8_keptBy : MRec := (yX8_keptBy, cX8_keptBy, 2, (some .int), 0, 0, 8)
abbrev mX8_givenTo : MRec := (yX8_givenTo, cX8_givenTo, 4, (some .int), 0, 0, 8)
abbrev mX8_givenInAll : MRec := (yX8_givenInAll, cX8_givenInAll, 3, (some .int), 0, 0, 8)
abbrev mX8_coinInAll : MRec := (yX8_coinInAll, cX8_coinInAll, 3, (some .int), 0, 0, 8)
abbrev mX8_packedGifts : MRec := (yX8_packedGifts, cX8_packedGifts, 4, (some .long), 0, 0, 8)
abbrev mX8_worthOf : MRec := (yX8_worthOf, cX8_worthOf, 7, (some .int), 0, 0, 8)
abbrev mX9_init : MRec := (yX9_init, cX9_init, 1, none, 1, 40, 9)
abbrev mX9_clear : MRec := (yX9_clear, cX9_clear, 1, none, 0, 0, 9)
abbrev mX9_see : MRec := (yX9_see, cX9_see, 2, none, 0, 0, 9)
abbrev mX9_seeAllBut : MRec := (yX9_seeAllBut, cX9_seeAllBut, 5, none, 0, 0, 9)
abbrev mX9_toldBy : MRec := (yX9_toldBy, cX9_toldBy, 4, (some .int), 0, 0, 9)
abbrev mX9_doStep : MRec := (yX9_doStep, cX9_doStep, 6, none, 0, 0, 9)
abbrev mX9_joined : MRec := (yX9_joined, cX9_joined, 5, (some .long), 0, 0, 9)
abbrev mX9_push : MRec := (yX9_push, cX9_push, 3, none, 0, 0, 9)
abbrev mX9_pop : MRec := (yX9_pop, cX9_pop, 1, (some .long), 0, 0, 9)
abbrev mX10_init : MRec := (yX10_init, cX10_init, 2, none, 87, 3500, 10)
abbrev mX10_giver : MRec := (yX10_giver, cX10_giver, 2, (some .int), 0, 0, 10)
abbrev mX10_work : MRec := (yX10_work, cX10_work, 2, (some .int), 0, 0, 10)
abbrev mX10_worth : MRec := (yX10_worth, cX10_worth, 5, (some .int), 0, 0, 10)
abbrev mX10_set : MRec := (yX10_set, cX10_set, 3, (some .int), 0, 0, 10)
abbrev mX10_write : MRec := (yX10_write, cX10_write, 4, (some .int), 0, 0, 10)
abbrev mX10_erase : MRec := (yX10_erase, cX10_erase, 4, (some .int), 0, 0, 10)
abbrev mX10_fault : MRec := (yX10_fault, cX10_fault, 2, (some .int), 0, 0, 10)
abbrev mX10_give : MRec := (yX10_give, cX10_give, 6, (some .int), 0, 0, 10)
abbrev mX10_amount : MRec := (yX10_amount, cX10_amount, 3, (some .int), 0, 0, 10)
abbrev mX10_isShort : MRec := (yX10_isShort, cX10_isShort, 1, (some .int), 0, 0, 10)
abbrev mX10_has : MRec := (yX10_has, cX10_has, 2, (some .int), 0, 0, 10)
abbrev mX10_best : MRec := (yX10_best, cX10_best, 3, (some .int), 0, 0, 10)
abbrev mX10_rest : MRec := (yX10_rest, cX10_rest, 4, (some .int), 0, 0, 10)
abbrev mX10_turns : MRec := (yX10_turns, cX10_turns, 1, (some .int), 0, 0, 10)
abbrev mX10_good : MRec := (yX10_good, cX10_good, 2, (some .int), 0, 0, 10)
abbrev mX10_lost : MRec := (yX10_lost, cX10_lost, 1, (some .int), 0, 0, 10)
abbrev mX10_gain : MRec := (yX10_gain, cX10_gain, 3, (some .int), 0, 0, 10)
abbrev mX10_hand : MRec := (yX10_hand, cX10_hand, 4, (some .int), 0, 0, 10)
abbrev mX10_anyway : MRec := (yX10_anyway, cX10_anyway, 3, (some .int), 0, 0, 10)
abbrev mX10_breach : MRec := (yX10_breach, cX10_breach, 7, (some .int), 0, 0, 10)
abbrev mX10_image : MRec := (yX10_image, cX10_image, 2, (some .int), 0, 0, 10)
abbrev mX10_from : MRec := (yX10_from, cX10_from, 2, (some .int), 0, 0, 10)
abbrev mX10_count : MRec := (yX10_count, cX10_count, 2, (some .int), 0, 0, 10)
abbrev mX10_digest : MRec := (yX10_digest, cX10_digest, 4, (some .long), 0, 0, 10)
abbrev mX10_digestGivers : MRec := (yX10_digestGivers, cX10_digestGivers, 8, (some .long), 0, 0, 10)
abbrev mX10_digestWorks : MRec := (yX10_digestWorks, cX10_digestWorks, 6, (some .long), 0, 0, 10)
abbrev mX10_digestRules : MRec := (yX10_digestRules, cX10_digestRules, 8, (some .long), 0, 0, 10)
abbrev mX10_setKeep : MRec := (yX10_setKeep, cX10_setKeep, 3, (some .int), 0, 0, 10)
abbrev mX10_setTheRule : MRec := (yX10_setTheRule, cX10_setTheRule, 3, (some .int), 0, 0, 10)
abbrev mX10_setPurse : MRec := (yX10_setPurse, cX10_setPurse, 3, (some .int), 0, 0, 10)
abbrev mX10_setParted : MRec := (yX10_setParted, cX10_setParted, 3, (some .int), 0, 0, 10)
abbrev mX10_isWithin : MRec := (yX10_isWithin, cX10_isWithin, 2, (some .boolean), 0, 0, 10)
abbrev mX10_isRule : MRec := (yX10_isRule, cX10_isRule, 1, (some .boolean), 0, 0, 10)
abbrev mX10_isGiver : MRec := (yX10_isGiver, cX10_isGiver, 2, (some .boolean), 0, 0, 10)
abbrev mX10_isWork : MRec := (yX10_isWork, cX10_isWork, 2, (some .boolean), 0, 0, 10)
abbrev mX10_isPair : MRec := (yX10_isPair, cX10_isPair, 3, (some .boolean), 0, 0, 10)
abbrev mX11_init : MRec := (yX11_init, cX11_init, 1, none, 19, 1700, 11)
abbrev mX11_in : MRec := (yX11_in, cX11_in, 6, (some .boolean), 0, 0, 11)
abbrev mX11_givers : MRec := (yX11_givers, cX11_givers, 1, (some .int), 0, 0, 11)
abbrev mX11_works : MRec := (yX11_works, cX11_works, 1, (some .int), 0, 0, 11)
abbrev mX11_isGiver : MRec := (yX11_isGiver, cX11_isGiver, 2, (some .boolean), 0, 0, 11)
abbrev mX11_isWork : MRec := (yX11_isWork, cX11_isWork, 2, (some .boolean), 0, 0, 11)
abbrev mX11_gift : MRec := (yX11_gift, cX11_gift, 3, (some .int), 0, 0, 11)
abbrev mX11_giver : MRec := (yX11_giver, cX11_giver, 2, (some .int), 0, 0, 11)
abbrev mX11_work : MRec := (yX11_work, cX11_work, 2, (some .int), 0, 0, 11)
abbrev mX11_worth : MRec := (yX11_worth, cX11_worth, 5, (some .int), 0, 0, 11)
abbrev mX11_set : MRec := (yX11_set, cX11_set, 4, (some .int), 0, 0, 11)
abbrev mX11_isRule : MRec := (yX11_isRule, cX11_isRule, 1, (some .boolean), 0, 0, 11)
abbrev mX11_write : MRec := (yX11_write, cX11_write, 4, (some .int), 0, 0, 11)
abbrev mX11_erase : MRec := (yX11_erase, cX11_erase, 3, (some .int), 0, 0, 11)
abbrev mX11_textLong : MRec := (yX11_textLong, cX11_textLong, 1, (some .int), 0, 0, 11)
abbrev mX11_charAt : MRec := (yX11_charAt, cX11_charAt, 2, (some .int), 0, 0, 11)
abbrev mX11_ahead : MRec := (yX11_ahead, cX11_ahead, 1, (some .int), 0, 0, 11)
abbrev mX11_rank : MRec := (yX11_rank, cX11_rank, 1, (some .int), 0, 0, 11)
abbrev mX11_workOut : MRec := (yX11_workOut, cX11_workOut, 7, none, 0, 0, 11)
abbrev mX11_workDown : MRec := (yX11_workDown, cX11_workDown, 2, none, 0, 0, 11)
abbrev mX11_stands : MRec := (yX11_stands, cX11_stands, 5, none, 0, 0, 11)
abbrev mX11_nameOf : MRec := (yX11_nameOf, cX11_nameOf, 1, (some .int), 0, 0, 11)
abbrev mX11_digits : MRec := (yX11_digits, cX11_digits, 4, (some .long), 0, 0, 11)
abbrev mX11_reads : MRec := (yX11_reads, cX11_reads, 5, (some .boolean), 0, 0, 11)
abbrev mX11_fault : MRec := (yX11_fault, cX11_fault, 3, (some .int), 0, 0, 11)
abbrev mX11_rootOf : MRec := (yX11_rootOf, cX11_rootOf, 8, (some .long), 0, 0, 11)
abbrev mX11_putHand : MRec := (yX11_putHand, cX11_putHand, 2, none, 0, 0, 11)
abbrev mX11_addedBy : MRec := (yX11_addedBy, cX11_addedBy, 14, (some .int), 0, 0, 11)
abbrev mX11_addUp : MRec := (yX11_addUp, cX11_addUp, 5, none, 0, 0, 11)
abbrev mX11_part : MRec := (yX11_part, cX11_part, 6, none, 0, 0, 11)
abbrev mX11_below : MRec := (yX11_below, cX11_below, 4, (some .int), 0, 0, 11)
abbrev mX11_worthOf : MRec := (yX11_worthOf, cX11_worthOf, 7, (some .int), 0, 0, 11)
abbrev mX11_hasNow : MRec := (yX11_hasNow, cX11_hasNow, 5, (some .int), 0, 0, 11)
abbrev mX11_allNow : MRec := (yX11_allNow, cX11_allNow, 3, (some .int), 0, 0, 11)
abbrev mX11_give : MRec := (yX11_give, cX11_give, 6, (some .int), 0, 0, 11)
abbrev mX11_amount : MRec := (yX11_amount, cX11_amount, 3, (some .int), 0, 0, 11)
abbrev mX11_isShort : MRec := (yX11_isShort, cX11_isShort, 3, (some .int), 0, 0, 11)
abbrev mX11_has : MRec := (yX11_has, cX11_has, 2, (some .int), 0, 0, 11)
abbrev mX11_setRow : MRec := (yX11_setRow, cX11_setRow, 5, none, 0, 0, 11)
abbrev mX11_findBest : MRec := (yX11_findBest, cX11_findBest, 8, (some .int), 0, 0, 11)
abbrev mX11_best : MRec := (yX11_best, cX11_best, 4, (some .int), 0, 0, 11)
abbrev mX11_rest : MRec := (yX11_rest, cX11_rest, 4, (some .int), 0, 0, 11)
abbrev mX11_isAgain : MRec := (yX11_isAgain, cX11_isAgain, 5, (some .boolean), 0, 0, 11)
abbrev mX11_note : MRec := (yX11_note, cX11_note, 3, none, 0, 0, 11)
abbrev mX11_goByTurns : MRec := (yX11_goByTurns, cX11_goByTurns, 5, (some .int), 0, 0, 11)
abbrev mX11_turns : MRec := (yX11_turns, cX11_turns, 1, (some .int), 0, 0, 11)
abbrev mX11_allCoin : MRec := (yX11_allCoin, cX11_allCoin, 3, (some .int), 0, 0, 11)
abbrev mX11_findGood : MRec := (yX11_findGood, cX11_findGood, 9, (some .int), 0, 0, 11)
abbrev mX11_good : MRec := (yX11_good, cX11_good, 3, (some .int), 0, 0, 11)
abbrev mX11_lost : MRec := (yX11_lost, cX11_lost, 1, (some .int), 0, 0, 11)
abbrev mX11_findHands : MRec := (yX11_findHands, cX11_findHands, 10, none, 0, 0, 11)
abbrev mX11_gain : MRec := (yX11_gain, cX11_gain, 5, (some .int), 0, 0, 11)
abbrev mX11_hand : MRec := (yX11_hand, cX11_hand, 6, (some .int), 0, 0, 11)
abbrev mX11_coinsGiven : MRec := (yX11_coinsGiven, cX11_coinsGiven, 3, (some .int), 0, 0, 11)
abbrev mX11_anyway : MRec := (yX11_anyway, cX11_anyway, 6, (some .int), 0, 0, 11)
abbrev mX11_addedTo : MRec := (yX11_addedTo, cX11_addedTo, 5, (some .int), 0, 0, 11)
abbrev mX11_holds : MRec := (yX11_holds, cX11_holds, 9, (some .boolean), 0, 0, 11)
abbrev mX11_breach : MRec := (yX11_breach, cX11_breach, 6, (some .int), 0, 0, 11)
abbrev mX11_image : MRec := (yX11_image, cX11_image, 3, (some .int), 0, 0, 11)
abbrev mX11_from : MRec := (yX11_from, cX11_from, 3, (some .int), 0, 0, 11)
abbrev mX11_count : MRec := (yX11_count, cX11_count, 2, (some .int), 0, 0, 11)
abbrev mX11_digest : MRec := (yX11_digest, cX11_digest, 6, (some .long), 0, 0, 11)
abbrev mJ9_max_7cf53 : MRec := (yJ9_max_7cf53, cJ9_max_7cf53, 2, (some .int), 0, 0, 13)
abbrev mJ9_max_f86c9 : MRec := (yJ9_max_f86c9, cJ9_max_f86c9, 4, (some .long), 0, 0, 13)
abbrev mJ9_min_7cf53 : MRec := (yJ9_min_7cf53, cJ9_min_7cf53, 2, (some .int), 0, 0, 13)
abbrev mJ9_min_f86c9 : MRec := (yJ9_min_f86c9, cJ9_min_f86c9, 4, (some .long), 0, 0, 13)
abbrev mL_law : MRec := (yL_law, cL_law, 4, (some .boolean), 108, 7302250, 12)
def clsT : List vw_C := [(RX0, TX0, 6), (RX1, TX1, 4), (RX2, TX2, 1), (RX3, TX3, 5), (RX4, TX4, 3), (RX5, TX5, 5), (RX6, TX6, 2), (RX7, TX7, 5), (RX8, TX8, 12), (RX9, TX9, 7), (RX10, TX10, 12), (RX11, TX11, 29)]
def ownT : List String := [RX0, RX1, RX2, RX3, RX4, RX5, RX6, RX7, RX8, RX9, RX10, RX11, RL, RJ9, RJ10]
def own (oc : Nat) : String := ownT.getD oc ""
def tyT (ci : Nat) : Nat → FieldType := match ci with
  | 0 => tyX0
  | 1 => tyX1
  | 2 => tyX2
  | 3 => tyX3
  | 4 => tyX4
  | 5 => tyX5
  | 6 => tyX6
  | 7 => tyX7
  | 8 => tyX8
  | 9 => tyX9
  | 10 => tyX10
  | _ => tyX11
/-- method links: own class, index, kind (0 virtual, 2 static, 3 <init>, 4 <init> of a nest mate), parameters, the method, places of its words -/
abbrev MLE : Type := Nat × Nat × Nat × Nat × MRec × List Nat
def mlT0 : List MLE := [(0, 25, 0, 1, mX3_fill, [639, 532, 533, 73]),
  (0, 31, 0, 1, mX8_keptBy, [640, 616, 617, 69]),
  (0, 37, 0, 3, mX3_haveOf, [641, 621, 622, 73]),
  (0, 45, 0, 2, mX0_foresee, [642, 644, 21, 74]),
  (0, 58, 0, 5, mX0_weigh, [649, 651, 22, 74]),
  (0, 72, 0, 3, mX9_seeAllBut, [646, 536, 537, 72]),
  (0, 78, 0, 1, mX9_see, [647, 544, 545, 72]),
  (0, 89, 0, 1, mX9_toldBy, [648, 560, 561, 72]),
  (0, 93, 0, 2, mX0_enter, [653, 655, 23, 74]),
  (0, 97, 0, 1, mX3_partPurse, [657, 587, 588, 73])]
def mlT1 : List MLE := [(1, 21, 0, 0, mX8_coinInAll, [690, 691, 692, 69]),
  (1, 40, 0, 2, mX1_fillWorths, [695, 697, 25, 76]),
  (1, 47, 0, 2, mX1_firstBest, [701, 703, 26, 76]),
  (1, 50, 0, 3, mX1_haveBy, [705, 707, 27, 76]),
  (1, 60, 0, 3, mX8_worthOf, [699, 625, 626, 69])]
def mlT2 : List MLE := [(2, 13, 0, 4, mX2_addedTo, [766, 768, 29, 78]),
  (2, 17, 0, 4, mX2_noneMoreByHands, [773, 775, 30, 78]),
  (2, 21, 0, 0, mX9_clear, [770, 540, 541, 72]),
  (2, 26, 0, 1, mX9_see, [771, 544, 545, 72]),
  (2, 30, 0, 1, mX9_toldBy, [772, 560, 561, 72])]
def mlT3 : List MLE := [(3, 31, 0, 3, mX9_seeAllBut, [535, 536, 537, 72]),
  (3, 37, 0, 1, mX8_givenTo, [555, 556, 557, 69]),
  (3, 48, 0, 1, mX9_toldBy, [559, 560, 561, 72]),
  (3, 52, 0, 1, mX3_partPurse, [586, 587, 588, 73]),
  (3, 66, 0, 2, mX3_partByShare, [590, 592, 18, 73]),
  (3, 70, 0, 1, mX3_partByNumber, [594, 596, 19, 73]),
  (3, 74, 0, 1, mX3_partByBound, [599, 601, 20, 73]),
  (3, 86, 0, 3, mX8_worthOf, [624, 625, 626, 69]),
  (3, 93, 0, 1, mX8_keptBy, [615, 616, 617, 69]),
  (3, 96, 0, 3, mX3_haveOf, [620, 621, 622, 73])]
def mlT4 : List MLE := [(4, 19, 0, 1, mX3_fill, [721, 532, 533, 73]),
  (4, 25, 0, 1, mX8_keptBy, [722, 616, 617, 69]),
  (4, 31, 0, 3, mX3_haveOf, [723, 621, 622, 73]),
  (4, 42, 0, 6, mX4_weigh, [724, 726, 28, 77]),
  (4, 50, 0, 3, mX9_seeAllBut, [728, 536, 537, 72]),
  (4, 56, 0, 1, mX9_see, [729, 544, 545, 72]),
  (4, 70, 0, 1, mX9_toldBy, [730, 560, 561, 72]),
  (4, 74, 0, 1, mX3_partPurse, [731, 587, 588, 73])]
def mlT5 : List MLE := [(5, 40, 0, 2, mX5_readCharacter, [472, 474, 7, 71]),
  (5, 44, 0, 2, mX5_release, [500, 502, 13, 71]),
  (5, 50, 0, 3, mX5_readDigit, [476, 478, 8, 71]),
  (5, 54, 0, 2, mX5_readUnit, [484, 486, 9, 71]),
  (5, 58, 0, 2, mX5_readBehindUnit, [492, 494, 11, 71]),
  (5, 64, 0, 1, mX7_addStep, [480, 481, 482, 70]),
  (5, 68, 0, 1, mX5_hold, [488, 490, 10, 71]),
  (5, 71, 0, 1, mX5_closeBracket, [496, 498, 12, 71]),
  (5, 75, 2, 1, mX5_rankOf, [504, 505, 71]),
  (5, 79, 0, 0, mX5_lastRank, [507, 509, 14, 71])]
def mlT6 : List MLE := [(6, 19, 0, 0, mX8_packedGifts, [670, 671, 672, 69]),
  (6, 29, 0, 2, mX0_choose, [674, 636, 637, 74]),
  (6, 54, 0, 1, mX6_wasBefore, [678, 680, 24, 75])]
def mlT7 : List MLE := []
def mlT8 : List MLE := [(8, 52, 4, 0, mX7_init, [100, 70]),
  (8, 53, 0, 1, mX8_takePeople, [785, 750, 751, 69]),
  (8, 63, 0, 1, mX7_take, [786, 787, 788, 70]),
  (8, 67, 0, 1, mX8_givenBy, [619, 524, 525, 69])]
def mlT9 : List MLE := [(9, 45, 0, 0, mX9_clear, [539, 540, 541, 72]),
  (9, 56, 0, 1, mX9_see, [543, 544, 545, 72]),
  (9, 74, 0, 1, mX9_push, [563, 565, 15, 72]),
  (9, 78, 0, 1, mX9_doStep, [567, 569, 16, 72]),
  (9, 83, 0, 0, mX9_pop, [572, 574, 17, 72]),
  (9, 94, 2, 3, mX9_joined, [576, 577, 72])]
def mlT10 : List MLE := [(10, 9, 3, 0, mX8_init, [92, 93, 69]),
  (10, 29, 4, 0, mX5_init, [206, 71]),
  (10, 36, 4, 0, mX9_init, [229, 72]),
  (10, 43, 3, 1, mX3_init, [257, 258, 73]),
  (10, 52, 3, 1, mX0_init, [288, 289, 74]),
  (10, 61, 3, 1, mX6_init, [319, 320, 75]),
  (10, 70, 4, 0, mX1_init, [333, 76]),
  (10, 77, 3, 1, mX4_init, [353, 354, 77]),
  (10, 84, 3, 1, mX2_init, [369, 370, 78]),
  (10, 89, 2, 2, mX10_isWithin, [418, 419, 68]),
  (10, 107, 0, 2, mX10_isPair, [429, 431, 0, 68]),
  (10, 116, 0, 1, mX10_setKeep, [445, 447, 3, 68]),
  (10, 120, 0, 1, mX10_setTheRule, [449, 451, 4, 68]),
  (10, 123, 0, 1, mX10_setPurse, [456, 458, 5, 68]),
  (10, 126, 0, 1, mX10_setParted, [460, 462, 6, 68]),
  (10, 129, 2, 1, mX10_isRule, [453, 454, 68]),
  (10, 145, 0, 1, mX5_read, [468, 469, 470, 71]),
  (10, 155, 0, 1, mX8_givenBy, [523, 524, 525, 69]),
  (10, 158, 0, 1, mX10_isWork, [437, 439, 2, 68]),
  (10, 161, 0, 1, mX3_fill, [531, 532, 533, 73]),
  (10, 178, 0, 1, mX10_isGiver, [433, 435, 1, 68]),
  (10, 181, 0, 1, mX3_allHave, [611, 612, 613, 73]),
  (10, 185, 0, 1, mX8_keptBy, [629, 616, 617, 69]),
  (10, 188, 0, 3, mX3_haveOf, [630, 621, 622, 73]),
  (10, 192, 0, 2, mX0_choose, [635, 636, 637, 74]),
  (10, 205, 0, 1, mX6_run, [666, 667, 668, 75]),
  (10, 208, 0, 1, mX1_find, [686, 687, 688, 76]),
  (10, 213, 0, 3, mX4_weighAll, [717, 718, 719, 77]),
  (10, 217, 0, 0, mX4_most, [733, 734, 735, 77]),
  (10, 220, 0, 0, mX4_leastCost, [741, 742, 743, 77]),
  (10, 223, 0, 1, mX8_takePeople, [749, 750, 751, 69]),
  (10, 226, 0, 0, mX8_givenInAll, [754, 755, 756, 69]),
  (10, 229, 0, 5, mX2_hold, [762, 763, 764, 78]),
  (10, 233, 0, 1, mX8_take, [781, 782, 783, 69]),
  (10, 236, 0, 0, mX8_coinInAll, [799, 691, 692, 69]),
  (10, 243, 0, 1, mX10_count, [806, 796, 797, 68]),
  (10, 246, 0, 1, mX10_digestGivers, [807, 809, 31, 68]),
  (10, 250, 0, 1, mX10_digestWorks, [811, 813, 32, 68]),
  (10, 265, 0, 1, mX10_digestRules, [815, 817, 33, 68])]
def mlT11 : List MLE := [(11, 76, 0, 0, mX11_givers, [921, 923, 34, 79]),
  (11, 80, 2, 3, mX11_in, [918, 919, 79]),
  (11, 84, 0, 0, mX11_works, [930, 932, 35, 79]),
  (11, 91, 0, 1, mX11_isGiver, [938, 940, 36, 79]),
  (11, 95, 0, 1, mX11_isWork, [942, 944, 37, 79]),
  (11, 108, 2, 1, mX11_isRule, [959, 960, 79]),
  (11, 119, 0, 0, mX11_textLong, [979, 981, 40, 79]),
  (11, 122, 0, 1, mX11_charAt, [983, 985, 41, 79]),
  (11, 132, 2, 1, mX11_rank, [1005, 1006, 79]),
  (11, 135, 0, 0, mX11_workOut, [1008, 1010, 45, 79]),
  (11, 147, 0, 0, mX11_ahead, [975, 977, 39, 79]),
  (11, 150, 0, 0, mX11_digits, [989, 991, 42, 79]),
  (11, 154, 0, 1, mX11_stands, [994, 996, 43, 79]),
  (11, 158, 2, 1, mX11_nameOf, [998, 999, 79]),
  (11, 161, 0, 1, mX11_workDown, [1001, 1003, 44, 79]),
  (11, 169, 0, 0, mX11_reads, [971, 973, 38, 79]),
  (11, 180, 0, 1, mX11_rootOf, [1036, 1038, 50, 79]),
  (11, 186, 0, 2, mX11_gift, [1016, 1018, 46, 79]),
  (11, 190, 0, 1, mX11_putHand, [1028, 1030, 48, 79]),
  (11, 197, 0, 1, mX11_addedBy, [1032, 1034, 49, 79]),
  (11, 200, 0, 2, mX11_part, [1043, 1045, 51, 79]),
  (11, 204, 0, 1, mX11_below, [1047, 1049, 52, 79]),
  (11, 207, 0, 3, mX11_worthOf, [1067, 1069, 55, 79]),
  (11, 211, 0, 0, mX11_addUp, [1024, 1026, 47, 79]),
  (11, 214, 0, 1, mX11_hasNow, [1063, 1065, 54, 79]),
  (11, 217, 0, 0, mX11_allNow, [1059, 1061, 53, 79]),
  (11, 220, 0, 4, mX11_setRow, [1079, 1081, 57, 79]),
  (11, 224, 0, 1, mX11_findBest, [1075, 1077, 56, 79]),
  (11, 227, 0, 1, mX11_note, [1095, 1097, 59, 79]),
  (11, 230, 0, 1, mX11_isAgain, [1099, 1101, 60, 79]),
  (11, 233, 0, 0, mX11_goByTurns, [1091, 1093, 58, 79]),
  (11, 236, 0, 0, mX11_allCoin, [1111, 1113, 62, 79]),
  (11, 239, 0, 0, mX11_findGood, [1107, 1109, 61, 79]),
  (11, 242, 0, 2, mX11_findHands, [1123, 1125, 63, 79]),
  (11, 245, 0, 0, mX11_coinsGiven, [1135, 1137, 64, 79]),
  (11, 248, 0, 4, mX11_addedTo, [1147, 1149, 66, 79]),
  (11, 252, 0, 5, mX11_holds, [1143, 1145, 65, 79]),
  (11, 260, 0, 1, mX11_count, [1169, 1160, 1161, 79]),
  (11, 263, 0, 2, mX11_amount, [1170, 1021, 1022, 79])]
def mlT12 : List MLE := [(12, 9, 3, 0, mX10_init, [84, 85, 68]),
  (12, 12, 3, 0, mX11_init, [821, 822, 79]),
  (12, 13, 0, 1, mX10_giver, [414, 415, 416, 68]),
  (12, 17, 0, 1, mX11_giver, [913, 914, 915, 79]),
  (12, 18, 0, 1, mX10_work, [421, 422, 423, 68]),
  (12, 21, 0, 1, mX11_work, [925, 926, 927, 79]),
  (12, 22, 0, 4, mX10_worth, [425, 426, 427, 68]),
  (12, 26, 0, 4, mX11_worth, [934, 935, 936, 79]),
  (12, 27, 0, 2, mX10_set, [441, 442, 443, 68]),
  (12, 31, 0, 2, mX11_set, [948, 949, 950, 79]),
  (12, 32, 0, 2, mX10_write, [464, 465, 466, 68]),
  (12, 35, 0, 2, mX11_write, [955, 956, 957, 79]),
  (12, 36, 0, 1, mX10_erase, [511, 512, 513, 68]),
  (12, 39, 0, 1, mX11_erase, [963, 964, 965, 79]),
  (12, 40, 0, 1, mX10_fault, [515, 516, 517, 68]),
  (12, 43, 0, 1, mX11_fault, [967, 968, 969, 79]),
  (12, 44, 0, 3, mX10_give, [519, 520, 521, 68]),
  (12, 48, 0, 3, mX11_give, [1012, 1013, 1014, 79]),
  (12, 49, 0, 2, mX10_amount, [527, 528, 529, 68]),
  (12, 52, 0, 2, mX11_amount, [1020, 1021, 1022, 79]),
  (12, 53, 0, 0, mX10_isShort, [603, 604, 605, 68]),
  (12, 57, 0, 0, mX11_isShort, [1051, 1052, 1053, 79]),
  (12, 58, 0, 1, mX10_has, [607, 608, 609, 68]),
  (12, 61, 0, 1, mX11_has, [1055, 1056, 1057, 79]),
  (12, 62, 0, 2, mX10_best, [631, 632, 633, 68]),
  (12, 65, 0, 2, mX11_best, [1071, 1072, 1073, 79]),
  (12, 66, 0, 1, mX10_rest, [658, 659, 660, 68]),
  (12, 69, 0, 1, mX11_rest, [1083, 1084, 1085, 79]),
  (12, 70, 0, 0, mX10_turns, [662, 663, 664, 68]),
  (12, 73, 0, 0, mX11_turns, [1087, 1088, 1089, 79]),
  (12, 74, 0, 1, mX10_good, [682, 683, 684, 68]),
  (12, 77, 0, 1, mX11_good, [1103, 1104, 1105, 79]),
  (12, 78, 0, 0, mX10_lost, [709, 710, 711, 68]),
  (12, 81, 0, 0, mX11_lost, [1115, 1116, 1117, 79]),
  (12, 82, 0, 2, mX10_gain, [713, 714, 715, 68]),
  (12, 85, 0, 2, mX11_gain, [1119, 1120, 1121, 79]),
  (12, 86, 0, 2, mX10_hand, [737, 738, 739, 68]),
  (12, 89, 0, 2, mX11_hand, [1127, 1128, 1129, 79]),
  (12, 90, 0, 1, mX10_anyway, [745, 746, 747, 68]),
  (12, 93, 0, 1, mX11_anyway, [1131, 1132, 1133, 79]),
  (12, 94, 0, 3, mX10_breach, [758, 759, 760, 68]),
  (12, 97, 0, 3, mX11_breach, [1139, 1140, 1141, 79]),
  (12, 98, 0, 1, mX10_image, [777, 778, 779, 68]),
  (12, 101, 0, 1, mX11_image, [1151, 1152, 1153, 79]),
  (12, 102, 0, 1, mX10_from, [791, 792, 793, 68]),
  (12, 105, 0, 1, mX11_from, [1155, 1156, 1157, 79]),
  (12, 106, 0, 1, mX10_count, [795, 796, 797, 68]),
  (12, 109, 0, 1, mX11_count, [1159, 1160, 1161, 79]),
  (12, 110, 0, 0, mX10_digest, [800, 801, 802, 68]),
  (12, 114, 0, 0, mX11_digest, [1163, 1164, 1165, 79])]
def mlT13 : List MLE := []
def mlT14 : List MLE := []
def mlT (oc : Nat) : List MLE := match oc with
  | 0 => mlT0
  | 1 => mlT1
  | 2 => mlT2
  | 3 => mlT3
  | 4 => mlT4
  | 5 => mlT5
  | 6 => mlT6
  | 7 => mlT7
  | 8 => mlT8
  | 9 => mlT9
  | 10 => mlT10
  | 11 => mlT11
  | 12 => mlT12
  | 13 => mlT13
  | _ => mlT14
def ml (oc idx : Nat) : Option MLE := (mlT oc).find? (fun e => e.2.1 == idx)
def nestT : List Cond := [.methodLinkNest (own 8) 52 yX7_init "GiftMatch", .methodLinkNest (own 10) 29 yX5_init "GiftMatch", .methodLinkNest (own 10) 36 yX9_init "GiftMatch", .methodLinkNest (own 10) 70 yX1_init "GiftMatch", .fieldLinkNest (own 9) 41 "GiftMatch" "ROOTS" "[I" "GiftMatch"]
theorem nestT_in : ∀ w ∈ nestT, w ∈ lw_tbl := by
  intro w hw
  have h : nestT = [99, 205, 228, 332, 553].filterMap (fun i => lw_tbl[i]?) := by decide +kernel
  rw [h] at hw
  obtain ⟨i, -, hi⟩ := List.mem_filterMap.mp hw
  exact List.mem_of_getElem? hi
def gtbl : List Cond := lw_tbl.filter goodWord
theorem in_g {w : Cond} (h : w ∈ lw_tbl) (hg : goodWord w = true) : w ∈ gtbl := List.mem_filter.mpr ⟨h, hg⟩
def mlW (e : MLE) : List Cond := match e with
  | (oc, idx, kind, _, (y, _), _) => match kind with
    | 0 => [.methodLink (own oc) idx y, .instanceMethod y, .selects y.cls y y, .initialized y.cls]
    | 2 => [.methodLink (own oc) idx y, .static y, .initialized y.cls]
    | 3 => [.methodLink (own oc) idx y, .instanceMethod y, .initialized y.cls]
    | 4 => [.instanceMethod y, .initialized y.cls]
    | _ => []
def mlK (oc : Nat) (e : MLE) : Bool := match e with
  | (oc', _, kind, na, (y, _, mL, ret, _, _, oy), ps) => decide (oc' = oc) && decide (mlW e = ps.filterMap (fun i => lw_tbl[i]?)) && decide (y.cls = own oy) && plainName y.cls && decide (mL ≤ 22) && decide (y.cls ≠ "java/lang/invoke/MethodHandle" ∧ y.cls ≠ "java/lang/invoke/VarHandle" ∧ (parseMethodDescriptor y.desc).map (fun d => d.parameters.length) = some na)
      && decide (kind = 0 ∨ kind = 2 ∨ kind = 3 ∨ kind = 4) && ((decide (y.name = "<init>") && decide (ret = none)) || !(decide (kind = 3) || decide (kind = 4))) && ((mlW e).all goodWord) && (!(decide (kind = 4)) || nestT.contains (.methodLinkNest (own oc) e.2.1 y "GiftMatch"))
set_option maxRecDepth 100000 in
theorem mlT0_ok : (mlT0.all (mlK 0)) = true := by decide +kernel
set_option maxRecDepth 100000 in
theorem mlT1_ok : (mlT1.all (mlK 1)) = true := by decide +kernel
set_option maxRecDepth 100000 in
theorem mlT2_ok : (mlT2.all (mlK 2)) = true := by decide +kernel
set_option maxRecDepth 100000 in
theorem mlT3_ok : (mlT3.all (mlK 3)) = true := by decide +kernel
set_option maxRecDepth 100000 in
theorem mlT4_ok : (mlT4.all (mlK 4)) = true := by decide +kernel
set_option maxRecDepth 100000 in
theorem mlT5_ok : (mlT5.all (mlK 5)) = true := by decide +kernel
set_option maxRecDepth 100000 in
theorem mlT6_ok : (mlT6.all (mlK 6)) = true := by decide +kernel
set_option maxRecDepth 100000 in
theorem mlT7_ok : (mlT7.all (mlK 7)) = true := by decide +kernel
set_option maxRecDepth 100000 in
theorem mlT8_ok : (mlT8.all (mlK 8)) = true := by decide +kernel
set_option maxRecDepth 100000 in
theorem mlT9_ok : (mlT9.all (mlK 9)) = true := by decide +kernel
set_option maxRecDepth 100000 in
theorem mlT10_ok : (mlT10.all (mlK 10)) = true := by decide +kernel
set_option maxRecDepth 100000 in
theorem mlT11_ok : (mlT11.all (mlK 11)) = true := by decide +kernel
set_option maxRecDepth 100000 in
theorem mlT12_ok : (mlT12.all (mlK 12)) = true := by decide +kernel
set_option maxRecDepth 100000 in
theorem mlT13_ok : (mlT13.all (mlK 13)) = true := by decide +kernel
set_option maxRecDepth 100000 in
theorem mlT14_ok : (mlT14.all (mlK 14)) = true := by decide +kernel
set_option maxRecDepth 100000 in
theorem cw_X0_init : Cond.code yX0_init cX0_init 2 none ∈ lw_tbl := List.mem_of_getElem? (i := 290) rfl
set_option maxRecDepth 100000 in
theorem cw_X0_choose : Cond.code yX0_choose cX0_choose 10 none ∈ lw_tbl := List.mem_of_getElem? (i := 638) rfl
set_option maxRecDepth 100000 in
theorem cw_X0_foresee : Cond.code yX0_foresee cX0_foresee 6 none ∈ lw_tbl := List.mem_of_getElem? (i := 645) rfl
set_option maxRecDepth 100000 in
theorem cw_X0_weigh : Cond.code yX0_weigh cX0_weigh 7 none ∈ lw_tbl := List.mem_of_getElem? (i := 652) rfl
set_option maxRecDepth 100000 in
theorem cw_X0_enter : Cond.code yX0_enter cX0_enter 3 none ∈ lw_tbl := List.mem_of_getElem? (i := 656) rfl
set_option maxRecDepth 100000 in
theorem cw_X1_init : Cond.code yX1_init cX1_init 1 none ∈ lw_tbl := List.mem_of_getElem? (i := 334) rfl
set_option maxRecDepth 100000 in
theorem cw_X1_find : Cond.code yX1_find cX1_find 6 none ∈ lw_tbl := List.mem_of_getElem? (i := 689) rfl
set_option maxRecDepth 100000 in
theorem cw_X1_fillWorths : Cond.code yX1_fillWorths cX1_fillWorths 6 none ∈ lw_tbl := List.mem_of_getElem? (i := 698) rfl
set_option maxRecDepth 100000 in
theorem cw_X1_firstBest : Cond.code yX1_firstBest cX1_firstBest 8 (some .int) ∈ lw_tbl := List.mem_of_getElem? (i := 704) rfl
set_option maxRecDepth 100000 in
theorem cw_X1_haveBy : Cond.code yX1_haveBy cX1_haveBy 4 (some .int) ∈ lw_tbl := List.mem_of_getElem? (i := 708) rfl
set_option maxRecDepth 100000 in
theorem cw_X2_init : Cond.code yX2_init cX2_init 2 none ∈ lw_tbl := List.mem_of_getElem? (i := 371) rfl
set_option maxRecDepth 100000 in
theorem cw_X2_hold : Cond.code yX2_hold cX2_hold 7 (some .boolean) ∈ lw_tbl := List.mem_of_getElem? (i := 765) rfl
set_option maxRecDepth 100000 in
theorem cw_X2_noneMoreByHands : Cond.code yX2_noneMoreByHands cX2_noneMoreByHands 6 (some .boolean) ∈ lw_tbl := List.mem_of_getElem? (i := 776) rfl
set_option maxRecDepth 100000 in
theorem cw_X2_addedTo : Cond.code yX2_addedTo cX2_addedTo 5 (some .int) ∈ lw_tbl := List.mem_of_getElem? (i := 769) rfl
set_option maxRecDepth 100000 in
theorem cw_X3_init : Cond.code yX3_init cX3_init 2 none ∈ lw_tbl := List.mem_of_getElem? (i := 259) rfl
set_option maxRecDepth 100000 in
theorem cw_X3_fill : Cond.code yX3_fill cX3_fill 3 none ∈ lw_tbl := List.mem_of_getElem? (i := 534) rfl
set_option maxRecDepth 100000 in
theorem cw_X3_partPurse : Cond.code yX3_partPurse cX3_partPurse 4 none ∈ lw_tbl := List.mem_of_getElem? (i := 589) rfl
set_option maxRecDepth 100000 in
theorem cw_X3_partByShare : Cond.code yX3_partByShare cX3_partByShare 4 none ∈ lw_tbl := List.mem_of_getElem? (i := 593) rfl
set_option maxRecDepth 100000 in
theorem cw_X3_partByNumber : Cond.code yX3_partByNumber cX3_partByNumber 4 none ∈ lw_tbl := List.mem_of_getElem? (i := 597) rfl
set_option maxRecDepth 100000 in
theorem cw_X3_partByBound : Cond.code yX3_partByBound cX3_partByBound 7 none ∈ lw_tbl := List.mem_of_getElem? (i := 602) rfl
set_option maxRecDepth 100000 in
theorem cw_X3_haveOf : Cond.code yX3_haveOf cX3_haveOf 6 (some .int) ∈ lw_tbl := List.mem_of_getElem? (i := 623) rfl
set_option maxRecDepth 100000 in
theorem cw_X3_allHave : Cond.code yX3_allHave cX3_allHave 4 (some .int) ∈ lw_tbl := List.mem_of_getElem? (i := 614) rfl
set_option maxRecDepth 100000 in
theorem cw_X4_init : Cond.code yX4_init cX4_init 2 none ∈ lw_tbl := List.mem_of_getElem? (i := 355) rfl
set_option maxRecDepth 100000 in
theorem cw_X4_weighAll : Cond.code yX4_weighAll cX4_weighAll 8 none ∈ lw_tbl := List.mem_of_getElem? (i := 720) rfl
set_option maxRecDepth 100000 in
theorem cw_X4_weigh : Cond.code yX4_weigh cX4_weigh 10 none ∈ lw_tbl := List.mem_of_getElem? (i := 727) rfl
set_option maxRecDepth 100000 in
theorem cw_X4_most : Cond.code yX4_most cX4_most 3 (some .int) ∈ lw_tbl := List.mem_of_getElem? (i := 736) rfl
set_option maxRecDepth 100000 in
theorem cw_X4_leastCost : Cond.code yX4_leastCost cX4_leastCost 4 (some .int) ∈ lw_tbl := List.mem_of_getElem? (i := 744) rfl
set_option maxRecDepth 100000 in
theorem cw_X5_init : Cond.code yX5_init cX5_init 1 none ∈ lw_tbl := List.mem_of_getElem? (i := 207) rfl
set_option maxRecDepth 100000 in
theorem cw_X5_read : Cond.code yX5_read cX5_read 3 none ∈ lw_tbl := List.mem_of_getElem? (i := 471) rfl
set_option maxRecDepth 100000 in
theorem cw_X5_readCharacter : Cond.code yX5_readCharacter cX5_readCharacter 5 none ∈ lw_tbl := List.mem_of_getElem? (i := 475) rfl
set_option maxRecDepth 100000 in
theorem cw_X5_readDigit : Cond.code yX5_readDigit cX5_readDigit 5 none ∈ lw_tbl := List.mem_of_getElem? (i := 479) rfl
set_option maxRecDepth 100000 in
theorem cw_X5_readUnit : Cond.code yX5_readUnit cX5_readUnit 4 (some .boolean) ∈ lw_tbl := List.mem_of_getElem? (i := 487) rfl
set_option maxRecDepth 100000 in
theorem cw_X5_readBehindUnit : Cond.code yX5_readBehindUnit cX5_readBehindUnit 4 (some .boolean) ∈ lw_tbl := List.mem_of_getElem? (i := 495) rfl
set_option maxRecDepth 100000 in
theorem cw_X5_closeBracket : Cond.code yX5_closeBracket cX5_closeBracket 2 (some .boolean) ∈ lw_tbl := List.mem_of_getElem? (i := 499) rfl
set_option maxRecDepth 100000 in
theorem cw_X5_hold : Cond.code yX5_hold cX5_hold 2 none ∈ lw_tbl := List.mem_of_getElem? (i := 491) rfl
set_option maxRecDepth 100000 in
theorem cw_X5_release : Cond.code yX5_release cX5_release 3 none ∈ lw_tbl := List.mem_of_getElem? (i := 503) rfl
set_option maxRecDepth 100000 in
theorem cw_X5_lastRank : Cond.code yX5_lastRank cX5_lastRank 1 (some .int) ∈ lw_tbl := List.mem_of_getElem? (i := 510) rfl
set_option maxRecDepth 100000 in
theorem cw_X5_rankOf : Cond.code yX5_rankOf cX5_rankOf 1 (some .int) ∈ lw_tbl := List.mem_of_getElem? (i := 506) rfl
set_option maxRecDepth 100000 in
theorem cw_X6_init : Cond.code yX6_init cX6_init 2 none ∈ lw_tbl := List.mem_of_getElem? (i := 321) rfl
set_option maxRecDepth 100000 in
theorem cw_X6_run : Cond.code yX6_run cX6_run 5 (some .int) ∈ lw_tbl := List.mem_of_getElem? (i := 669) rfl
set_option maxRecDepth 100000 in
theorem cw_X6_wasBefore : Cond.code yX6_wasBefore cX6_wasBefore 3 (some .boolean) ∈ lw_tbl := List.mem_of_getElem? (i := 681) rfl
set_option maxRecDepth 100000 in
theorem cw_X7_init : Cond.code yX7_init cX7_init 1 none ∈ lw_tbl := List.mem_of_getElem? (i := 101) rfl
set_option maxRecDepth 100000 in
theorem cw_X7_take : Cond.code yX7_take cX7_take 2 none ∈ lw_tbl := List.mem_of_getElem? (i := 789) rfl
set_option maxRecDepth 100000 in
theorem cw_X7_addStep : Cond.code yX7_addStep cX7_addStep 2 none ∈ lw_tbl := List.mem_of_getElem? (i := 483) rfl
set_option maxRecDepth 100000 in
theorem cw_X8_init : Cond.code yX8_init cX8_init 2 none ∈ lw_tbl := List.mem_of_getElem? (i := 94) rfl
set_option maxRecDepth 100000 in
theorem cw_X8_take : Cond.code yX8_take cX8_take 3 none ∈ lw_tbl := List.mem_of_getElem? (i := 784) rfl
set_option maxRecDepth 100000 in
theorem cw_X8_takePeople : Cond.code yX8_takePeople cX8_takePeople 3 none ∈ lw_tbl := List.mem_of_getElem? (i := 752) rfl
set_option maxRecDepth 100000 in
theorem cw_X8_givenBy : Cond.code yX8_givenBy cX8_givenBy 4 (some .int) ∈ lw_tbl := List.mem_of_getElem? (i := 526) rfl
set_option maxRecDepth 100000 in
theorem cw_X8_keptBy : Cond.code yX8_keptBy cX8_keptBy 2 (some .int) ∈ lw_tbl := List.mem_of_getElem? (i := 618) rfl
set_option maxRecDepth 100000 in
theorem cw_X8_givenTo : Cond.code yX8_givenTo cX8_givenTo 4 (some .int) ∈ lw_tbl := List.mem_of_getElem? (i := 558) rfl
set_option maxRecDepth 100000 in
theorem cw_X8_givenInAll : Cond.code yX8_givenInAll cX8_givenInAll 3 (some .int) ∈ lw_tbl := List.mem_of_getElem? (i := 757) rfl
set_option maxRecDepth 100000 in
theorem cw_X8_coinInAll : Cond.code yX8_coinInAll cX8_coinInAll 3 (some .int) ∈ lw_tbl := List.mem_of_getElem? (i := 693) rfl
set_option maxRecDepth 100000 in
theorem cw_X8_packedGifts : Cond.code yX8_packedGifts cX8_packedGifts 4 (some .long) ∈ lw_tbl := List.mem_of_getElem? (i := 673) rfl
set_option maxRecDepth 100000 in
theorem cw_X8_worthOf : Cond.code yX8_worthOf cX8_worthOf 7 (some .int) ∈ lw_tbl := List.mem_of_getElem? (i := 627) rfl
set_option maxRecDepth 100000 in
theorem cw_X9_init : Cond.code yX9_init cX9_init 1 none ∈ lw_tbl := List.mem_of_getElem? (i := 230) rfl
set_option maxRecDepth 100000 in
theorem cw_X9_clear : Cond.code yX9_clear cX9_clear 1 none ∈ lw_tbl := List.mem_of_getElem? (i := 542) rfl
set_option maxRecDepth 100000 in
theorem cw_X9_see : Cond.code yX9_see cX9_see 2 none ∈ lw_tbl := List.mem_of_getElem? (i := 546) rfl
set_option maxRecDepth 100000 in
theorem cw_X9_seeAllBut : Cond.code yX9_seeAllBut cX9_seeAllBut 5 none ∈ lw_tbl := List.mem_of_getElem? (i := 538) rfl
set_option maxRecDepth 100000 in
theorem cw_X9_toldBy : Cond.code yX9_toldBy cX9_toldBy 4 (some .int) ∈ lw_tbl := List.mem_of_getElem? (i := 562) rfl
set_option maxRecDepth 100000 in
theorem cw_X9_doStep : Cond.code yX9_doStep cX9_doStep 6 none ∈ lw_tbl := List.mem_of_getElem? (i := 570) rfl
set_option maxRecDepth 100000 in
theorem cw_X9_joined : Cond.code yX9_joined cX9_joined 5 (some .long) ∈ lw_tbl := List.mem_of_getElem? (i := 578) rfl
set_option maxRecDepth 100000 in
theorem cw_X9_push : Cond.code yX9_push cX9_push 3 none ∈ lw_tbl := List.mem_of_getElem? (i := 566) rfl
set_option maxRecDepth 100000 in
theorem cw_X9_pop : Cond.code yX9_pop cX9_pop 1 (some .long) ∈ lw_tbl := List.mem_of_getElem? (i := 575) rfl
set_option maxRecDepth 100000 in
theorem cw_X10_init : Cond.code yX10_init cX10_init 2 none ∈ lw_tbl := List.mem_of_getElem? (i := 86) rfl
set_option maxRecDepth 100000 in
theorem cw_X10_giver : Cond.code yX10_giver cX10_giver 2 (some .int) ∈ lw_tbl := List.mem_of_getElem? (i := 417) rfl
set_option maxRecDepth 100000 in
theorem cw_X10_work : Cond.code yX10_work cX10_work 2 (some .int) ∈ lw_tbl := List.mem_of_getElem? (i := 424) rfl
set_option maxRecDepth 100000 in
theorem cw_X10_worth : Cond.code yX10_worth cX10_worth 5 (some .int) ∈ lw_tbl := List.mem_of_getElem? (i := 428) rfl
set_option maxRecDepth 100000 in
theorem cw_X10_set : Cond.code yX10_set cX10_set 3 (some .int) ∈ lw_tbl := List.mem_of_getElem? (i := 444) rfl
set_option maxRecDepth 100000 in
theorem cw_X10_write : Cond.code yX10_write cX10_write 4 (some .int) ∈ lw_tbl := List.mem_of_getElem? (i := 467) rfl
set_option maxRecDepth 100000 in
theorem cw_X10_erase : Cond.code yX10_erase cX10_erase 4 (some .int) ∈ lw_tbl := List.mem_of_getElem? (i := 514) rfl
set_option maxRecDepth 100000 in
theorem cw_X10_fault : Cond.code yX10_fault cX10_fault 2 (some .int) ∈ lw_tbl := List.mem_of_getElem? (i := 518) rfl
set_option maxRecDepth 100000 in
theorem cw_X10_give : Cond.code yX10_give cX10_give 6 (some .int) ∈ lw_tbl := List.mem_of_getElem? (i := 522) rfl
set_option maxRecDepth 100000 in
theorem cw_X10_amount : Cond.code yX10_amount cX10_amount 3 (some .int) ∈ lw_tbl := List.mem_of_getElem? (i := 530) rfl
set_option maxRecDepth 100000 in
theorem cw_X10_isShort : Cond.code yX10_isShort cX10_isShort 1 (some .int) ∈ lw_tbl := List.mem_of_getElem? (i := 606) rfl
set_option maxRecDepth 100000 in
theorem cw_X10_has : Cond.code yX10_has cX10_has 2 (some .int) ∈ lw_tbl := List.mem_of_getElem? (i := 610) rfl
set_option maxRecDepth 100000 in
theorem cw_X10_best : Cond.code yX10_best cX10_best 3 (some .int) ∈ lw_tbl := List.mem_of_getElem? (i := 634) rfl
set_option maxRecDepth 100000 in
theorem cw_X10_rest : Cond.code yX10_rest cX10_rest 4 (some .int) ∈ lw_tbl := List.mem_of_getElem? (i := 661) rfl
set_option maxRecDepth 100000 in
theorem cw_X10_turns : Cond.code yX10_turns cX10_turns 1 (some .int) ∈ lw_tbl := List.mem_of_getElem? (i := 665) rfl
set_option maxRecDepth 100000 in
theorem cw_X10_good : Cond.code yX10_good cX10_good 2 (some .int) ∈ lw_tbl := List.mem_of_getElem? (i := 685) rfl
set_option maxRecDepth 100000 in
theorem cw_X10_lost : Cond.code yX10_lost cX10_lost 1 (some .int) ∈ lw_tbl := List.mem_of_getElem? (i := 712) rfl
set_option maxRecDepth 100000 in
theorem cw_X10_gain : Cond.code yX10_gain cX10_gain 3 (some .int) ∈ lw_tbl := List.mem_of_getElem? (i := 716) rfl
set_option maxRecDepth 100000 in
theorem cw_X10_hand : Cond.code yX10_hand cX10_hand 4 (some .int) ∈ lw_tbl := List.mem_of_getElem? (i := 740) rfl
set_option maxRecDepth 100000 in
theorem cw_X10_anyway : Cond.code yX10_anyway cX10_anyway 3 (some .int) ∈ lw_tbl := List.mem_of_getElem? (i := 748) rfl
set_option maxRecDepth 100000 in
theorem cw_X10_breach : Cond.code yX10_breach cX10_breach 7 (some .int) ∈ lw_tbl := List.mem_of_getElem? (i := 761) rfl
set_option maxRecDepth 100000 in
theorem cw_X10_image : Cond.code yX10_image cX10_image 2 (some .int) ∈ lw_tbl := List.mem_of_getElem? (i := 780) rfl
set_option maxRecDepth 100000 in
theorem cw_X10_from : Cond.code yX10_from cX10_from 2 (some .int) ∈ lw_tbl := List.mem_of_getElem? (i := 794) rfl
set_option maxRecDepth 100000 in
theorem cw_X10_count : Cond.code yX10_count cX10_count 2 (some .int) ∈ lw_tbl := List.mem_of_getElem? (i := 798) rfl
set_option maxRecDepth 100000 in
theorem cw_X10_digest : Cond.code yX10_digest cX10_digest 4 (some .long) ∈ lw_tbl := List.mem_of_getElem? (i := 803) rfl
set_option maxRecDepth 100000 in
theorem cw_X10_digestGivers : Cond.code yX10_digestGivers cX10_digestGivers 8 (some .long) ∈ lw_tbl := List.mem_of_getElem? (i := 810) rfl
set_option maxRecDepth 100000 in
theorem cw_X10_digestWorks : Cond.code yX10_digestWorks cX10_digestWorks 6 (some .long) ∈ lw_tbl := List.mem_of_getElem? (i := 814) rfl
set_option maxRecDepth 100000 in
theorem cw_X10_digestRules : Cond.code yX10_digestRules cX10_digestRules 8 (some .long) ∈ lw_tbl := List.mem_of_getElem? (i := 818) rfl
set_option maxRecDepth 100000 in
theorem cw_X10_setKeep : Cond.code yX10_setKeep cX10_setKeep 3 (some .int) ∈ lw_tbl := List.mem_of_getElem? (i := 448) rfl
set_option maxRecDepth 100000 in
theorem cw_X10_setTheRule : Cond.code yX10_setTheRule cX10_setTheRule 3 (some .int) ∈ lw_tbl := List.mem_of_getElem? (i := 452) rfl
set_option maxRecDepth 100000 in
theorem cw_X10_setPurse : Cond.code yX10_setPurse cX10_setPurse 3 (some .int) ∈ lw_tbl := List.mem_of_getElem? (i := 459) rfl
set_option maxRecDepth 100000 in
theorem cw_X10_setParted : Cond.code yX10_setParted cX10_setParted 3 (some .int) ∈ lw_tbl := List.mem_of_getElem? (i := 463) rfl
set_option maxRecDepth 100000 in
theorem cw_X10_isWithin : Cond.code yX10_isWithin cX10_isWithin 2 (some .boolean) ∈ lw_tbl := List.mem_of_getElem? (i := 420) rfl
set_option maxRecDepth 100000 in
theorem cw_X10_isRule : Cond.code yX10_isRule cX10_isRule 1 (some .boolean) ∈ lw_tbl := List.mem_of_getElem? (i := 455) rfl
set_option maxRecDepth 100000 in
theorem cw_X10_isGiver : Cond.code yX10_isGiver cX10_isGiver 2 (some .boolean) ∈ lw_tbl := List.mem_of_getElem? (i := 436) rfl
set_option maxRecDepth 100000 in
theorem cw_X10_isWork : Cond.code yX10_isWork cX10_isWork 2 (some .boolean) ∈ lw_tbl := List.mem_of_getElem? (i := 440) rfl
set_option maxRecDepth 100000 in
theorem cw_X10_isPair : Cond.code yX10_isPair cX10_isPair 3 (some .boolean) ∈ lw_tbl := List.mem_of_getElem? (i := 432) rfl
set_option maxRecDepth 100000 in
theorem cw_X11_init : Cond.code yX11_init cX11_init 1 none ∈ lw_tbl := List.mem_of_getElem? (i := 823) rfl
set_option maxRecDepth 100000 in
theorem cw_X11_in : Cond.code yX11_in cX11_in 6 (some .boolean) ∈ lw_tbl := List.mem_of_getElem? (i := 920) rfl
set_option maxRecDepth 100000 in
theorem cw_X11_givers : Cond.code yX11_givers cX11_givers 1 (some .int) ∈ lw_tbl := List.mem_of_getElem? (i := 924) rfl
set_option maxRecDepth 100000 in
theorem cw_X11_works : Cond.code yX11_works cX11_works 1 (some .int) ∈ lw_tbl := List.mem_of_getElem? (i := 933) rfl
set_option maxRecDepth 100000 in
theorem cw_X11_isGiver : Cond.code yX11_isGiver cX11_isGiver 2 (some .boolean) ∈ lw_tbl := List.mem_of_getElem? (i := 941) rfl
set_option maxRecDepth 100000 in
theorem cw_X11_isWork : Cond.code yX11_isWork cX11_isWork 2 (some .boolean) ∈ lw_tbl := List.mem_of_getElem? (i := 945) rfl
set_option maxRecDepth 100000 in
theorem cw_X11_gift : Cond.code yX11_gift cX11_gift 3 (some .int) ∈ lw_tbl := List.mem_of_getElem? (i := 1019) rfl
set_option maxRecDepth 100000 in
theorem cw_X11_giver : Cond.code yX11_giver cX11_giver 2 (some .int) ∈ lw_tbl := List.mem_of_getElem? (i := 916) rfl
set_option maxRecDepth 100000 in
theorem cw_X11_work : Cond.code yX11_work cX11_work 2 (some .int) ∈ lw_tbl := List.mem_of_getElem? (i := 928) rfl
set_option maxRecDepth 100000 in
theorem cw_X11_worth : Cond.code yX11_worth cX11_worth 5 (some .int) ∈ lw_tbl := List.mem_of_getElem? (i := 937) rfl
set_option maxRecDepth 100000 in
theorem cw_X11_set : Cond.code yX11_set cX11_set 4 (some .int) ∈ lw_tbl := List.mem_of_getElem? (i := 951) rfl
set_option maxRecDepth 100000 in
theorem cw_X11_isRule : Cond.code yX11_isRule cX11_isRule 1 (some .boolean) ∈ lw_tbl := List.mem_of_getElem? (i := 961) rfl
set_option maxRecDepth 100000 in
theorem cw_X11_write : Cond.code yX11_write cX11_write 4 (some .int) ∈ lw_tbl := List.mem_of_getElem? (i := 958) rfl
set_option maxRecDepth 100000 in
theorem cw_X11_erase : Cond.code yX11_erase cX11_erase 3 (some .int) ∈ lw_tbl := List.mem_of_getElem? (i := 966) rfl
set_option maxRecDepth 100000 in
theorem cw_X11_textLong : Cond.code yX11_textLong cX11_textLong 1 (some .int) ∈ lw_tbl := List.mem_of_getElem? (i := 982) rfl
set_option maxRecDepth 100000 in
theorem cw_X11_charAt : Cond.code yX11_charAt cX11_charAt 2 (some .int) ∈ lw_tbl := List.mem_of_getElem? (i := 986) rfl
set_option maxRecDepth 100000 in
theorem cw_X11_ahead : Cond.code yX11_ahead cX11_ahead 1 (some .int) ∈ lw_tbl := List.mem_of_getElem? (i := 978) rfl
set_option maxRecDepth 100000 in
theorem cw_X11_rank : Cond.code yX11_rank cX11_rank 1 (some .int) ∈ lw_tbl := List.mem_of_getElem? (i := 1007) rfl
set_option maxRecDepth 100000 in
theorem cw_X11_workOut : Cond.code yX11_workOut cX11_workOut 7 none ∈ lw_tbl := List.mem_of_getElem? (i := 1011) rfl
set_option maxRecDepth 100000 in
theorem cw_X11_workDown : Cond.code yX11_workDown cX11_workDown 2 none ∈ lw_tbl := List.mem_of_getElem? (i := 1004) rfl
set_option maxRecDepth 100000 in
theorem cw_X11_stands : Cond.code yX11_stands cX11_stands 5 none ∈ lw_tbl := List.mem_of_getElem? (i := 997) rfl
set_option maxRecDepth 100000 in
theorem cw_X11_nameOf : Cond.code yX11_nameOf cX11_nameOf 1 (some .int) ∈ lw_tbl := List.mem_of_getElem? (i := 1000) rfl
set_option maxRecDepth 100000 in
theorem cw_X11_digits : Cond.code yX11_digits cX11_digits 4 (some .long) ∈ lw_tbl := List.mem_of_getElem? (i := 992) rfl
set_option maxRecDepth 100000 in
theorem cw_X11_reads : Cond.code yX11_reads cX11_reads 5 (some .boolean) ∈ lw_tbl := List.mem_of_getElem? (i := 974) rfl
set_option maxRecDepth 100000 in
theorem cw_X11_fault : Cond.code yX11_fault cX11_fault 3 (some .int) ∈ lw_tbl := List.mem_of_getElem? (i := 970) rfl
set_option maxRecDepth 100000 in
theorem cw_X11_rootOf : Cond.code yX11_rootOf cX11_rootOf 8 (some .long) ∈ lw_tbl := List.mem_of_getElem? (i := 1039) rfl
set_option maxRecDepth 100000 in
theorem cw_X11_putHand : Cond.code yX11_putHand cX11_putHand 2 none ∈ lw_tbl := List.mem_of_getElem? (i := 1031) rfl
set_option maxRecDepth 100000 in
theorem cw_X11_addedBy : Cond.code yX11_addedBy cX11_addedBy 14 (some .int) ∈ lw_tbl := List.mem_of_getElem? (i := 1035) rfl
set_option maxRecDepth 100000 in
theorem cw_X11_addUp : Cond.code yX11_addUp cX11_addUp 5 none ∈ lw_tbl := List.mem_of_getElem? (i := 1027) rfl
set_option maxRecDepth 100000 in
theorem cw_X11_part : Cond.code yX11_part cX11_part 6 none ∈ lw_tbl := List.mem_of_getElem? (i := 1046) rfl
set_option maxRecDepth 100000 in
theorem cw_X11_below : Cond.code yX11_below cX11_below 4 (some .int) ∈ lw_tbl := List.mem_of_getElem? (i := 1050) rfl
set_option maxRecDepth 100000 in
theorem cw_X11_worthOf : Cond.code yX11_worthOf cX11_worthOf 7 (some .int) ∈ lw_tbl := List.mem_of_getElem? (i := 1070) rfl
set_option maxRecDepth 100000 in
theorem cw_X11_hasNow : Cond.code yX11_hasNow cX11_hasNow 5 (some .int) ∈ lw_tbl := List.mem_of_getElem? (i := 1066) rfl
set_option maxRecDepth 100000 in
theorem cw_X11_allNow : Cond.code yX11_allNow cX11_allNow 3 (some .int) ∈ lw_tbl := List.mem_of_getElem? (i := 1062) rfl
set_option maxRecDepth 100000 in
theorem cw_X11_give : Cond.code yX11_give cX11_give 6 (some .int) ∈ lw_tbl := List.mem_of_getElem? (i := 1015) rfl
set_option maxRecDepth 100000 in
theorem cw_X11_amount : Cond.code yX11_amount cX11_amount 3 (some .int) ∈ lw_tbl := List.mem_of_getElem? (i := 1023) rfl
set_option maxRecDepth 100000 in
theorem cw_X11_isShort : Cond.code yX11_isShort cX11_isShort 3 (some .int) ∈ lw_tbl := List.mem_of_getElem? (i := 1054) rfl
set_option maxRecDepth 100000 in
theorem cw_X11_has : Cond.code yX11_has cX11_has 2 (some .int) ∈ lw_tbl := List.mem_of_getElem? (i := 1058) rfl
set_option maxRecDepth 100000 in
theorem cw_X11_setRow : Cond.code yX11_setRow cX11_setRow 5 none ∈ lw_tbl := List.mem_of_getElem? (i := 1082) rfl
set_option maxRecDepth 100000 in
theorem cw_X11_findBest : Cond.code yX11_findBest cX11_findBest 8 (some .int) ∈ lw_tbl := List.mem_of_getElem? (i := 1078) rfl
set_option maxRecDepth 100000 in
theorem cw_X11_best : Cond.code yX11_best cX11_best 4 (some .int) ∈ lw_tbl := List.mem_of_getElem? (i := 1074) rfl
set_option maxRecDepth 100000 in
theorem cw_X11_rest : Cond.code yX11_rest cX11_rest 4 (some .int) ∈ lw_tbl := List.mem_of_getElem? (i := 1086) rfl
set_option maxRecDepth 100000 in
theorem cw_X11_isAgain : Cond.code yX11_isAgain cX11_isAgain 5 (some .boolean) ∈ lw_tbl := List.mem_of_getElem? (i := 1102) rfl
set_option maxRecDepth 100000 in
theorem cw_X11_note : Cond.code yX11_note cX11_note 3 none ∈ lw_tbl := List.mem_of_getElem? (i := 1098) rfl
set_option maxRecDepth 100000 in
theorem cw_X11_goByTurns : Cond.code yX11_goByTurns cX11_goByTurns 5 (some .int) ∈ lw_tbl := List.mem_of_getElem? (i := 1094) rfl
set_option maxRecDepth 100000 in
theorem cw_X11_turns : Cond.code yX11_turns cX11_turns 1 (some .int) ∈ lw_tbl := List.mem_of_getElem? (i := 1090) rfl
set_option maxRecDepth 100000 in
theorem cw_X11_allCoin : Cond.code yX11_allCoin cX11_allCoin 3 (some .int) ∈ lw_tbl := List.mem_of_getElem? (i := 1114) rfl
set_option maxRecDepth 100000 in
theorem cw_X11_findGood : Cond.code yX11_findGood cX11_findGood 9 (some .int) ∈ lw_tbl := List.mem_of_getElem? (i := 1110) rfl
set_option maxRecDepth 100000 in
theorem cw_X11_good : Cond.code yX11_good cX11_good 3 (some .int) ∈ lw_tbl := List.mem_of_getElem? (i := 1106) rfl
set_option maxRecDepth 100000 in
theorem cw_X11_lost : Cond.code yX11_lost cX11_lost 1 (some .int) ∈ lw_tbl := List.mem_of_getElem? (i := 1118) rfl
set_option maxRecDepth 100000 in
theorem cw_X11_findHands : Cond.code yX11_findHands cX11_findHands 10 none ∈ lw_tbl := List.mem_of_getElem? (i := 1126) rfl
set_option maxRecDepth 100000 in
theorem cw_X11_gain : Cond.code yX11_gain cX11_gain 5 (some .int) ∈ lw_tbl := List.mem_of_getElem? (i := 1122) rfl
set_option maxRecDepth 100000 in
theorem cw_X11_hand : Cond.code yX11_hand cX11_hand 6 (some .int) ∈ lw_tbl := List.mem_of_getElem? (i := 1130) rfl
set_option maxRecDepth 100000 in
theorem cw_X11_coinsGiven : Cond.code yX11_coinsGiven cX11_coinsGiven 3 (some .int) ∈ lw_tbl := List.mem_of_getElem? (i := 1138) rfl
set_option maxRecDepth 100000 in
theorem cw_X11_anyway : Cond.code yX11_anyway cX11_anyway 6 (some .int) ∈ lw_tbl := List.mem_of_getElem? (i := 1134) rfl
set_option maxRecDepth 100000 in
theorem cw_X11_addedTo : Cond.code yX11_addedTo cX11_addedTo 5 (some .int) ∈ lw_tbl := List.mem_of_getElem? (i := 1150) rfl
set_option maxRecDepth 100000 in
theorem cw_X11_holds : Cond.code yX11_holds cX11_holds 9 (some .boolean) ∈ lw_tbl := List.mem_of_getElem? (i := 1146) rfl
set_option maxRecDepth 100000 in
theorem cw_X11_breach : Cond.code yX11_breach cX11_breach 6 (some .int) ∈ lw_tbl := List.mem_of_getElem? (i := 1142) rfl
set_option maxRecDepth 100000 in
theorem cw_X11_image : Cond.code yX11_image cX11_image 3 (some .int) ∈ lw_tbl := List.mem_of_getElem? (i := 1154) rfl
set_option maxRecDepth 100000 in
theorem cw_X11_from : Cond.code yX11_from cX11_from 3 (some .int) ∈ lw_tbl := List.mem_of_getElem? (i := 1158) rfl
set_option maxRecDepth 100000 in
theorem cw_X11_count : Cond.code yX11_count cX11_count 2 (some .int) ∈ lw_tbl := List.mem_of_getElem? (i := 1162) rfl
set_option maxRecDepth 100000 in
theorem cw_X11_digest : Cond.code yX11_digest cX11_digest 6 (some .long) ∈ lw_tbl := List.mem_of_getElem? (i := 1166) rfl
set_option maxRecDepth 100000 in
theorem cw_J9_max_7cf53 : Cond.code yJ9_max_7cf53 cJ9_max_7cf53 2 (some .int) ∈ lw_tbl := List.mem_of_getElem? (i := 549) rfl
set_option maxRecDepth 100000 in
theorem cw_J9_max_f86c9 : Cond.code yJ9_max_f86c9 cJ9_max_f86c9 4 (some .long) ∈ lw_tbl := List.mem_of_getElem? (i := 585) rfl
set_option maxRecDepth 100000 in
theorem cw_J9_min_7cf53 : Cond.code yJ9_min_7cf53 cJ9_min_7cf53 2 (some .int) ∈ lw_tbl := List.mem_of_getElem? (i := 552) rfl
set_option maxRecDepth 100000 in
theorem cw_J9_min_f86c9 : Cond.code yJ9_min_f86c9 cJ9_min_f86c9 4 (some .long) ∈ lw_tbl := List.mem_of_getElem? (i := 582) rfl
def mlC (e : MLE) : Cond := .code e.2.2.2.2.1.1 e.2.2.2.2.1.2.1 e.2.2.2.2.1.2.2.1 e.2.2.2.2.1.2.2.2.1
theorem mlT0_cw : ∀ e ∈ mlT0, mlC e ∈ lw_tbl := List.forall_mem_cons.mpr ⟨cw_X3_fill, List.forall_mem_cons.mpr ⟨cw_X8_keptBy, List.forall_mem_cons.mpr ⟨cw_X3_haveOf, List.forall_mem_cons.mpr ⟨cw_X0_foresee, List.forall_mem_cons.mpr ⟨cw_X0_weigh, List.forall_mem_cons.mpr ⟨cw_X9_seeAllBut, List.forall_mem_cons.mpr ⟨cw_X9_see, List.forall_mem_cons.mpr ⟨cw_X9_toldBy, List.forall_mem_cons.mpr ⟨cw_X0_enter, List.forall_mem_cons.mpr ⟨cw_X3_partPurse, fun _ h => absurd h List.not_mem_nil⟩⟩⟩⟩⟩⟩⟩⟩⟩⟩
theorem mlT1_cw : ∀ e ∈ mlT1, mlC e ∈ lw_tbl := List.forall_mem_cons.mpr ⟨cw_X8_coinInAll, List.forall_mem_cons.mpr ⟨cw_X1_fillWorths, List.forall_mem_cons.mpr ⟨cw_X1_firstBest, List.forall_mem_cons.mpr ⟨cw_X1_haveBy, List.forall_mem_cons.mpr ⟨cw_X8_worthOf, fun _ h => absurd h List.not_mem_nil⟩⟩⟩⟩⟩
theorem mlT2_cw : ∀ e ∈ mlT2, mlC e ∈ lw_tbl := List.forall_mem_cons.mpr ⟨cw_X2_addedTo, List.forall_mem_cons.mpr ⟨cw_X2_noneMoreByHands, List.forall_mem_cons.mpr ⟨cw_X9_clear, List.forall_mem_cons.mpr ⟨cw_X9_see, List.forall_mem_cons.mpr ⟨cw_X9_toldBy, fun _ h => absurd h List.not_mem_nil⟩⟩⟩⟩⟩
theorem mlT3_cw : ∀ e ∈ mlT3, mlC e ∈ lw_tbl := List.forall_mem_cons.mpr ⟨cw_X9_seeAllBut, List.forall_mem_cons.mpr ⟨cw_X8_givenTo, List.forall_mem_cons.mpr ⟨cw_X9_toldBy, List.forall_mem_cons.mpr ⟨cw_X3_partPurse, List.forall_mem_cons.mpr ⟨cw_X3_partByShare, List.forall_mem_cons.mpr ⟨cw_X3_partByNumber, List.forall_mem_cons.mpr ⟨cw_X3_partByBound, List.forall_mem_cons.mpr ⟨cw_X8_worthOf, List.forall_mem_cons.mpr ⟨cw_X8_keptBy, List.forall_mem_cons.mpr ⟨cw_X3_haveOf, fun _ h => absurd h List.not_mem_nil⟩⟩⟩⟩⟩⟩⟩⟩⟩⟩
theorem mlT4_cw : ∀ e ∈ mlT4, mlC e ∈ lw_tbl := List.forall_mem_cons.mpr ⟨cw_X3_fill, List.forall_mem_cons.mpr ⟨cw_X8_keptBy, List.forall_mem_cons.mpr ⟨cw_X3_haveOf, List.forall_mem_cons.mpr ⟨cw_X4_weigh, List.forall_mem_cons.mpr ⟨cw_X9_seeAllBut, List.forall_mem_cons.mpr ⟨cw_X9_see, List.forall_mem_cons.mpr ⟨cw_X9_toldBy, List.forall_mem_cons.mpr ⟨cw_X3_partPurse, fun _ h => absurd h List.not_mem_nil⟩⟩⟩⟩⟩⟩⟩⟩
theorem mlT5_cw : ∀ e ∈ mlT5, mlC e ∈ lw_tbl := List.forall_mem_cons.mpr ⟨cw_X5_readCharacter, List.forall_mem_cons.mpr ⟨cw_X5_release, List.forall_mem_cons.mpr ⟨cw_X5_readDigit, List.forall_mem_cons.mpr ⟨cw_X5_readUnit, List.forall_mem_cons.mpr ⟨cw_X5_readBehindUnit, List.forall_mem_cons.mpr ⟨cw_X7_addStep, List.forall_mem_cons.mpr ⟨cw_X5_hold, List.forall_mem_cons.mpr ⟨cw_X5_closeBracket, List.forall_mem_cons.mpr ⟨cw_X5_rankOf, List.forall_mem_cons.mpr ⟨cw_X5_lastRank, fun _ h => absurd h List.not_mem_nil⟩⟩⟩⟩⟩⟩⟩⟩⟩⟩
theorem mlT6_cw : ∀ e ∈ mlT6, mlC e ∈ lw_tbl := List.forall_mem_cons.mpr ⟨cw_X8_packedGifts, List.forall_mem_cons.mpr ⟨cw_X0_choose, List.forall_mem_cons.mpr ⟨cw_X6_wasBefore, fun _ h => absurd h List.not_mem_nil⟩⟩⟩
theorem mlT7_cw : ∀ e ∈ mlT7, mlC e ∈ lw_tbl := fun _ h => absurd h List.not_mem_nil
theorem mlT8_cw : ∀ e ∈ mlT8, mlC e ∈ lw_tbl := List.forall_mem_cons.mpr ⟨cw_X7_init, List.forall_mem_cons.mpr ⟨cw_X8_takePeople, List.forall_mem_cons.mpr ⟨cw_X7_take, List.forall_mem_cons.mpr ⟨cw_X8_givenBy, fun _ h => absurd h List.not_mem_nil⟩⟩⟩⟩
theorem mlT9_cw : ∀ e ∈ mlT9, mlC e ∈ lw_tbl := List.forall_mem_cons.mpr ⟨cw_X9_clear, List.forall_mem_cons.mpr ⟨cw_X9_see, List.forall_mem_cons.mpr ⟨cw_X9_push, List.forall_mem_cons.mpr ⟨cw_X9_doStep, List.forall_mem_cons.mpr ⟨cw_X9_pop, List.forall_mem_cons.mpr ⟨cw_X9_joined, fun _ h => absurd h List.not_mem_nil⟩⟩⟩⟩⟩⟩
theorem mlT10_cw : ∀ e ∈ mlT10, mlC e ∈ lw_tbl := List.forall_mem_cons.mpr ⟨cw_X8_init, List.forall_mem_cons.mpr ⟨cw_X5_init, List.forall_mem_cons.mpr ⟨cw_X9_init, List.forall_mem_cons.mpr ⟨cw_X3_init, List.forall_mem_cons.mpr ⟨cw_X0_init, List.forall_mem_cons.mpr ⟨cw_X6_init, List.forall_mem_cons.mpr ⟨cw_X1_init, List.forall_mem_cons.mpr ⟨cw_X4_init, List.forall_mem_cons.mpr ⟨cw_X2_init, List.forall_mem_cons.mpr ⟨cw_X10_isWithin, List.forall_mem_cons.mpr ⟨cw_X10_isPair, List.forall_mem_cons.mpr ⟨cw_X10_setKeep, List.forall_mem_cons.mpr ⟨cw_X10_setTheRule, List.forall_mem_cons.mpr ⟨cw_X10_setPurse, List.forall_mem_cons.mpr ⟨cw_X10_setParted, List.forall_mem_cons.mpr ⟨cw_X10_isRule, List.forall_mem_cons.mpr ⟨cw_X5_read, List.forall_mem_cons.mpr ⟨cw_X8_givenBy, List.forall_mem_cons.mpr ⟨cw_X10_isWork, List.forall_mem_cons.mpr ⟨cw_X3_fill, List.forall_mem_cons.mpr ⟨cw_X10_isGiver, List.forall_mem_cons.mpr ⟨cw_X3_allHave, List.forall_mem_cons.mpr ⟨cw_X8_keptBy, List.forall_mem_cons.mpr ⟨cw_X3_haveOf, List.forall_mem_cons.mpr ⟨cw_X0_choose, List.forall_mem_cons.mpr ⟨cw_X6_run, List.forall_mem_cons.mpr ⟨cw_X1_find, List.forall_mem_cons.mpr ⟨cw_X4_weighAll, List.forall_mem_cons.mpr ⟨cw_X4_most, List.forall_mem_cons.mpr ⟨cw_X4_leastCost, List.forall_mem_cons.mpr ⟨cw_X8_takePeople, List.forall_mem_cons.mpr ⟨cw_X8_givenInAll, List.forall_mem_cons.mpr ⟨cw_X2_hold, List.forall_mem_cons.mpr ⟨cw_X8_take, List.forall_mem_cons.mpr ⟨cw_X8_coinInAll, List.forall_mem_cons.mpr ⟨cw_X10_count, List.forall_mem_cons.mpr ⟨cw_X10_digestGivers, List.forall_mem_cons.mpr ⟨cw_X10_digestWorks, List.forall_mem_cons.mpr ⟨cw_X10_digestRules, fun _ h => absurd h List.not_mem_nil⟩⟩⟩⟩⟩⟩⟩⟩⟩⟩⟩⟩⟩⟩⟩⟩⟩⟩⟩⟩⟩⟩⟩⟩⟩⟩⟩⟩⟩⟩⟩⟩⟩⟩⟩⟩⟩⟩⟩
theorem mlT11_cw : ∀ e ∈ mlT11, mlC e ∈ lw_tbl := List.forall_mem_cons.mpr ⟨cw_X11_givers, List.forall_mem_cons.mpr ⟨cw_X11_in, List.forall_mem_cons.mpr ⟨cw_X11_works, List.forall_mem_cons.mpr ⟨cw_X11_isGiver, List.forall_mem_cons.mpr ⟨cw_X11_isWork, List.forall_mem_cons.mpr ⟨cw_X11_isRule, List.forall_mem_cons.mpr ⟨cw_X11_textLong, List.forall_mem_cons.mpr ⟨cw_X11_charAt, List.forall_mem_cons.mpr ⟨cw_X11_rank, List.forall_mem_cons.mpr ⟨cw_X11_workOut, List.forall_mem_cons.mpr ⟨cw_X11_ahead, List.forall_mem_cons.mpr ⟨cw_X11_digits, List.forall_mem_cons.mpr ⟨cw_X11_stands, List.forall_mem_cons.mpr ⟨cw_X11_nameOf, List.forall_mem_cons.mpr ⟨cw_X11_workDown, List.forall_mem_cons.mpr ⟨cw_X11_reads, List.forall_mem_cons.mpr ⟨cw_X11_rootOf, List.forall_mem_cons.mpr ⟨cw_X11_gift, List.forall_mem_cons.mpr ⟨cw_X11_putHand, List.forall_mem_cons.mpr ⟨cw_X11_addedBy, List.forall_mem_cons.mpr ⟨cw_X11_part, List.forall_mem_cons.mpr ⟨cw_X11_below, List.forall_mem_cons.mpr ⟨cw_X11_worthOf, List.forall_mem_cons.mpr ⟨cw_X11_addUp, List.forall_mem_cons.mpr ⟨cw_X11_hasNow, List.forall_mem_cons.mpr ⟨cw_X11_allNow, List.forall_mem_cons.mpr ⟨cw_X11_setRow, List.forall_mem_cons.mpr ⟨cw_X11_findBest, List.forall_mem_cons.mpr ⟨cw_X11_note, List.forall_mem_cons.mpr ⟨cw_X11_isAgain, List.forall_mem_cons.mpr ⟨cw_X11_goByTurns, List.forall_mem_cons.mpr ⟨cw_X11_allCoin, List.forall_mem_cons.mpr ⟨cw_X11_findGood, List.forall_mem_cons.mpr ⟨cw_X11_findHands, List.forall_mem_cons.mpr ⟨cw_X11_coinsGiven, List.forall_mem_cons.mpr ⟨cw_X11_addedTo, List.forall_mem_cons.mpr ⟨cw_X11_holds, List.forall_mem_cons.mpr ⟨cw_X11_count, List.forall_mem_cons.mpr ⟨cw_X11_amount, fun _ h => absurd h List.not_mem_nil⟩⟩⟩⟩⟩⟩⟩⟩⟩⟩⟩⟩⟩⟩⟩⟩⟩⟩⟩⟩⟩⟩⟩⟩⟩⟩⟩⟩⟩⟩⟩⟩⟩⟩⟩⟩⟩⟩⟩
theorem mlT12_cw : ∀ e ∈ mlT12, mlC e ∈ lw_tbl := List.forall_mem_cons.mpr ⟨cw_X10_init, List.forall_mem_cons.mpr ⟨cw_X11_init, List.forall_mem_cons.mpr ⟨cw_X10_giver, List.forall_mem_cons.mpr ⟨cw_X11_giver, List.forall_mem_cons.mpr ⟨cw_X10_work, List.forall_mem_cons.mpr ⟨cw_X11_work, List.forall_mem_cons.mpr ⟨cw_X10_worth, List.forall_mem_cons.mpr ⟨cw_X11_worth, List.forall_mem_cons.mpr ⟨cw_X10_set, List.forall_mem_cons.mpr ⟨cw_X11_set, List.forall_mem_cons.mpr ⟨cw_X10_write, List.forall_mem_cons.mpr ⟨cw_X11_write, List.forall_mem_cons.mpr ⟨cw_X10_erase, List.forall_mem_cons.mpr ⟨cw_X11_erase, List.forall_mem_cons.mpr ⟨cw_X10_fault, List.forall_mem_cons.mpr ⟨cw_X11_fault, List.forall_mem_cons.mpr ⟨cw_X10_give, List.forall_mem_cons.mpr ⟨cw_X11_give, List.forall_mem_cons.mpr ⟨cw_X10_amount, List.forall_mem_cons.mpr ⟨cw_X11_amount, List.forall_mem_cons.mpr ⟨cw_X10_isShort, List.forall_mem_cons.mpr ⟨cw_X11_isShort, List.forall_mem_cons.mpr ⟨cw_X10_has, List.forall_mem_cons.mpr ⟨cw_X11_has, List.forall_mem_cons.mpr ⟨cw_X10_best, List.forall_mem_cons.mpr ⟨cw_X11_best, List.forall_mem_cons.mpr ⟨cw_X10_rest, List.forall_mem_cons.mpr ⟨cw_X11_rest, List.forall_mem_cons.mpr ⟨cw_X10_turns, List.forall_mem_cons.mpr ⟨cw_X11_turns, List.forall_mem_cons.mpr ⟨cw_X10_good, List.forall_mem_cons.mpr ⟨cw_X11_good, List.forall_mem_cons.mpr ⟨cw_X10_lost, List.forall_mem_cons.mpr ⟨cw_X11_lost, List.forall_mem_cons.mpr ⟨cw_X10_gain, List.forall_mem_cons.mpr ⟨cw_X11_gain, List.forall_mem_cons.mpr ⟨cw_X10_hand, List.forall_mem_cons.mpr ⟨cw_X11_hand, List.forall_mem_cons.mpr ⟨cw_X10_anyway, List.forall_mem_cons.mpr ⟨cw_X11_anyway, List.forall_mem_cons.mpr ⟨cw_X10_breach, List.forall_mem_cons.mpr ⟨cw_X11_breach, List.forall_mem_cons.mpr ⟨cw_X10_image, List.forall_mem_cons.mpr ⟨cw_X11_image, List.forall_mem_cons.mpr ⟨cw_X10_from, List.forall_mem_cons.mpr ⟨cw_X11_from, List.forall_mem_cons.mpr ⟨cw_X10_count, List.forall_mem_cons.mpr ⟨cw_X11_count, List.forall_mem_cons.mpr ⟨cw_X10_digest, List.forall_mem_cons.mpr ⟨cw_X11_digest, fun _ h => absurd h List.not_mem_nil⟩⟩⟩⟩⟩⟩⟩⟩⟩⟩⟩⟩⟩⟩⟩⟩⟩⟩⟩⟩⟩⟩⟩⟩⟩⟩⟩⟩⟩⟩⟩⟩⟩⟩⟩⟩⟩⟩⟩⟩⟩⟩⟩⟩⟩⟩⟩⟩⟩⟩
theorem mlT13_cw : ∀ e ∈ mlT13, mlC e ∈ lw_tbl := fun _ h => absurd h List.not_mem_nil
theorem mlT14_cw : ∀ e ∈ mlT14, mlC e ∈ lw_tbl := fun _ h => absurd h List.not_mem_nil
def spT : List (Nat × Nat × Nat × Nat) := [(0, 3, 5, 291), (1, 5, 5, 335), (1, 31, 9, 694), (1, 44, 8, 700), (2, 1, 5, 372), (3, 3, 5, 260), (3, 77, 9, 598), (4, 3, 5, 356), (4, 77, 8, 732), (5, 3, 5, 208), (6, 3, 5, 322), (6, 48, 7, 675), (7, 3, 5, 102), (7, 28, 7, 790), (8, 3, 5, 95), (8, 57, 7, 753), (8, 71, 9, 628), (9, 3, 5, 231), (9, 32, 8, 547), (9, 38, 9, 550), (9, 87, 11, 580), (9, 90, 10, 583), (10, 1, 5, 87), (11, 1, 5, 824)]
def sp (oc idx : Nat) : Option (Nat × Nat) := (spT.find? (fun e => e.1 == oc && e.2.1 == idx)).map (fun e => (e.2.2.1, e.2.2.2))
def spN (k : Nat) : MethodName := match k with
  | 5 => objectInit
  | 7 => arraycopyName
  | 8 => Lib.Math.max.name
  | 9 => Lib.Math.min.name
  | 10 => Lib.MathLoose.max_long.x
  | _ => Lib.MathLoose.min_long.x
theorem spT_ok : (spT.all (fun e => decide (lw_tbl[e.2.2.2]? = some (.methodLink (own e.1) e.2.1 (spN e.2.2.1))) && decide (e.2.2.1 ≤ 11))) = true := by decide +kernel
def flT0 : List (Nat × Nat × Nat × Nat) := [(9, 0, 1, 293), (15, 0, 2, 294), (18, 0, 3, 295), (21, 0, 0, 292), (41, 0, 5, 301), (49, 0, 4, 298), (52, 8, 0, 133), (55, 8, 7, 159), (62, 3, 1, 265), (65, 8, 4, 143), (68, 3, 0, 263), (82, 8, 5, 149), (86, 8, 9, 168), (100, 3, 2, 269)]
def flT1 : List (Nat × Nat × Nat × Nat) := [(11, 1, 0, 336), (15, 1, 1, 337), (18, 1, 2, 338), (27, 8, 10, 171), (37, 8, 8, 162), (54, 1, 3, 340), (57, 8, 6, 154)]
def flT2 : List (Nat × Nat × Nat × Nat) := [(7, 2, 0, 373)]
def flT3 : List (Nat × Nat × Nat × Nat) := [(9, 3, 1, 264), (15, 3, 2, 267), (18, 3, 3, 271), (21, 3, 0, 261), (25, 8, 7, 158), (41, 8, 5, 147), (45, 8, 9, 166), (56, 8, 10, 172), (59, 3, 4, 273), (63, 8, 11, 175), (83, 8, 8, 163), (90, 8, 6, 156)]
def flT4 : List (Nat × Nat × Nat × Nat) := [(9, 4, 1, 358), (15, 4, 0, 357), (35, 4, 2, 359), (39, 8, 4, 141), (46, 3, 0, 262), (60, 3, 2, 268), (63, 8, 5, 148), (67, 8, 9, 167)]
def flT5 : List (Nat × Nat × Nat × Nat) := [(9, 5, 0, 209), (15, 5, 1, 210), (19, 5, 2, 211), (22, 5, 3, 212), (25, 5, 4, 213), (29, 7, 3, 113), (34, 7, 4, 116), (37, 7, 2, 110), (47, 7, 0, 104), (61, 7, 1, 107)]
def flT6 : List (Nat × Nat × Nat × Nat) := [(9, 6, 1, 324), (15, 6, 0, 323), (25, 8, 6, 153), (35, 0, 4, 299), (38, 0, 5, 302), (41, 0, 3, 296), (45, 8, 4, 142)]
def flT7 : List (Nat × Nat × Nat × Nat) := [(9, 7, 0, 103), (15, 7, 1, 106), (18, 7, 2, 109), (22, 7, 3, 112), (25, 7, 4, 115)]
def flT8 : List (Nat × Nat × Nat × Nat) := [(9, 8, 0, 131), (15, 8, 1, 134), (18, 8, 2, 136), (21, 8, 3, 138), (24, 8, 4, 140), (29, 8, 5, 146), (33, 8, 6, 151), (37, 8, 7, 157), (40, 8, 8, 161), (43, 8, 9, 165), (46, 8, 10, 170), (49, 8, 11, 174)]
def flT9 : List (Nat × Nat × Nat × Nat) := [(9, 9, 0, 232), (15, 9, 2, 234), (19, 9, 3, 235), (22, 9, 4, 236), (25, 9, 5, 237), (28, 9, 6, 238), (48, 8, 6, 155), (53, 8, 4, 144), (60, 7, 4, 117), (65, 9, 1, 233), (68, 7, 3, 114), (71, 7, 1, 108)]
def flT10 : List (Nat × Nat × Nat × Nat) := [(10, 10, 0, 377), (16, 10, 1, 378), (19, 10, 2, 379), (23, 10, 3, 380), (30, 10, 4, 381), (37, 10, 5, 382), (46, 10, 6, 383), (55, 10, 7, 384), (64, 10, 8, 385), (71, 10, 9, 386), (78, 10, 10, 387), (85, 10, 11, 388), (93, 8, 6, 152), (97, 8, 0, 132), (101, 8, 7, 160), (104, 8, 1, 135), (110, 8, 2, 137), (113, 8, 3, 139), (133, 8, 5, 150), (137, 7, 2, 111), (142, 7, 0, 105), (149, 7, 4, 118), (152, 8, 4, 145), (165, 3, 1, 266), (168, 3, 2, 270), (171, 3, 3, 272), (174, 3, 4, 274), (196, 0, 4, 300), (199, 0, 3, 297), (202, 0, 5, 303), (211, 1, 3, 341), (212, 1, 2, 339), (253, 8, 8, 164), (256, 8, 9, 169), (259, 8, 10, 173), (262, 8, 11, 176)]
def flT11 : List (Nat × Nat × Nat × Nat) := [(7, 11, 0, 825), (13, 11, 1, 826), (16, 11, 2, 827), (20, 11, 6, 831), (24, 11, 8, 833), (27, 11, 10, 835), (30, 11, 12, 837), (33, 11, 14, 839), (36, 11, 15, 840), (39, 11, 16, 841), (42, 11, 17, 842), (45, 11, 19, 844), (49, 11, 20, 845), (52, 11, 21, 846), (55, 11, 22, 847), (58, 11, 23, 848), (61, 11, 24, 849), (64, 11, 25, 850), (67, 11, 26, 851), (70, 11, 27, 852), (73, 11, 28, 853), (113, 11, 3, 828), (116, 11, 4, 829), (126, 11, 9, 834), (129, 11, 7, 832), (142, 11, 5, 830), (165, 11, 11, 836), (177, 11, 13, 838), (193, 11, 18, 843)]
def flT (oc : Nat) : List (Nat × Nat × Nat × Nat) := match oc with
  | 0 => flT0
  | 1 => flT1
  | 2 => flT2
  | 3 => flT3
  | 4 => flT4
  | 5 => flT5
  | 6 => flT6
  | 7 => flT7
  | 8 => flT8
  | 9 => flT9
  | 10 => flT10
  | 11 => flT11
  | _ => []
def fld (oc idx : Nat) : Option (Nat × Nat) := ((flT oc).find? (fun e => e.1 == idx)).map (fun e => (e.2.1, e.2.2.1))
def flK (oc : Nat) (e : Nat × Nat × Nat × Nat) : Bool := match clsT[e.2.1]? with
  | some (C, T, N) => decide (lw_tbl[e.2.2.2]? = some (.fieldLink (own oc) e.1 (T e.2.2.1).1 (T e.2.2.1).2.1 (T e.2.2.1).2.2.1)) && decide (e.2.2.1 < N) && decide (parseFieldDescriptor (T e.2.2.1).2.2.1 = some (tyT e.2.1 e.2.2.1))
  | none => false
set_option maxRecDepth 100000 in
theorem flT0_ok : (flT0.all (flK 0)) = true := by decide +kernel
set_option maxRecDepth 100000 in
theorem flT1_ok : (flT1.all (flK 1)) = true := by decide +kernel
set_option maxRecDepth 100000 in
theorem flT2_ok : (flT2.all (flK 2)) = true := by decide +kernel
set_option maxRecDepth 100000 in
theorem flT3_ok : (flT3.all (flK 3)) = true := by decide +kernel
set_option maxRecDepth 100000 in
theorem flT4_ok : (flT4.all (flK 4)) = true := by decide +kernel
set_option maxRecDepth 100000 in
theorem flT5_ok : (flT5.all (flK 5)) = true := by decide +kernel
set_option maxRecDepth 100000 in
theorem flT6_ok : (flT6.all (flK 6)) = true := by decide +kernel
set_option maxRecDepth 100000 in
theorem flT7_ok : (flT7.all (flK 7)) = true := by decide +kernel
set_option maxRecDepth 100000 in
theorem flT8_ok : (flT8.all (flK 8)) = true := by decide +kernel
set_option maxRecDepth 100000 in
theorem flT9_ok : (flT9.all (flK 9)) = true := by decide +kernel
set_option maxRecDepth 100000 in
theorem flT10_ok : (flT10.all (flK 10)) = true := by decide +kernel
set_option maxRecDepth 100000 in
theorem flT11_ok : (flT11.all (flK 11)) = true := by decide +kernel
def lcT : List (Nat × Nat × Int64 × Nat) := [(9, 81, 99, 579), (9, 92, 1000000000000, 571), (10, 239, 461, 804), (10, 241, 31, 805), (11, 87, 12, 917), (11, 89, 60, 929), (11, 98, 200, 946), (11, 100, 50, 947), (11, 102, 3, 952), (11, 104, 99, 953), (11, 106, 2, 954), (11, 111, 127, 962), (11, 138, 48, 987), (11, 140, 57, 988), (11, 145, 10, 993), (11, 173, 1000000, 1040), (11, 175, 4000000, 1041), (11, 184, 1000000000000, 1042), (11, 256, 461, 1167), (11, 258, 31, 1168)]
def lcn (oc idx : Nat) : Option Int64 := (lcT.find? (fun e => e.1 == oc && e.2.1 == idx)).map (fun e => e.2.2.1)
theorem lcT_ok : (lcT.all (fun e => decide (lw_tbl[e.2.2.2]? = some (.constantLong (own e.1) e.2.1 e.2.2.1)))) = true := by decide +kernel
def nwT : List (Nat × Nat × Nat × Nat × Nat × Nat) := [(8, 27, 7, 96, 98, 70), (10, 7, 8, 90, 91, 69), (10, 27, 5, 203, 204, 71), (10, 34, 9, 226, 227, 72), (10, 41, 3, 255, 256, 73), (10, 50, 0, 286, 287, 74), (10, 59, 6, 317, 318, 75), (10, 68, 1, 330, 331, 76), (10, 75, 4, 351, 352, 77), (10, 82, 2, 367, 368, 78), (12, 7, 10, 82, 83, 68), (12, 10, 11, 819, 820, 79)]
def anT : List (Nat × Nat × Nat × Nat × Nat × Nat) := [(8, 27, 7, 3, 96, 97), (10, 7, 8, 4, 90, 202)]
def nwc (oc idx : Nat) : Option Nat := (nwT.find? (fun e => e.1 == oc && e.2.1 == idx)).map (fun e => e.2.2.1)
def anc (oc idx : Nat) : Option (Nat × Nat) := (anT.find? (fun e => e.1 == oc && e.2.1 == idx)).map (fun e => (e.2.2.1, e.2.2.2.1))
def nwK (e : Nat × Nat × Nat × Nat × Nat × Nat) : Bool := match clsT[e.2.2.1]? with
  | some (C, T, N) => decide (lw_tbl[e.2.2.2.1]? = some (.classLink (own e.1) e.2.1 C)) && decide (lw_tbl[e.2.2.2.2.1]? = some (.instantiable C N)) && decide (lw_tbl[e.2.2.2.2.2]? = some (.initialized C))
  | none => false
theorem nwT_ok : (nwT.all nwK) = true := by decide +kernel
def anK (e : Nat × Nat × Nat × Nat × Nat × Nat) : Bool := match clsT[e.2.2.1]? with
  | some (C, _, _) => decide (lw_tbl[e.2.2.2.2.1]? = some (.classLink (own e.1) e.2.1 C)) && decide (lw_tbl[e.2.2.2.2.2]? = some (.arrayOver (.object C))) && ((decide (e.2.2.1 = 7) && decide (e.2.2.2.1 = 3)) || (decide (e.2.2.1 = 8) && decide (e.2.2.2.1 = 4)))
  | none => false
theorem anT_ok : (anT.all anK) = true := by decide +kernel
theorem w_oi : Cond.instanceMethod objectInit ∈ lw_tbl := List.mem_of_getElem? (i := 88) (by decide +kernel)
theorem w_oc : Cond.code objectInit ⟨#[0xb1]⟩ 1 none ∈ lw_tbl := List.mem_of_getElem? (i := 89) (by decide +kernel)
theorem w_acn : Cond.native arraycopyName ∈ lw_tbl := List.mem_of_getElem? (i := 677) (by decide +kernel)
theorem w_acs : Cond.static arraycopyName ∈ lw_tbl := List.mem_of_getElem? (i := 676) (by decide +kernel)
theorem w_aci : Cond.initialized "java/lang/System" ∈ lw_tbl := List.mem_of_getElem? (i := 81) (by decide +kernel)
theorem w_smax : Cond.static Lib.Math.max.name ∈ lw_tbl := List.mem_of_getElem? (i := 548) (by decide +kernel)
theorem w_cmax : Cond.code Lib.Math.max.name Lib.Math.max.code 2 (some .int) ∈ lw_tbl := List.mem_of_getElem? (i := 549) (by decide +kernel)
theorem w_smin : Cond.static Lib.Math.min.name ∈ lw_tbl := List.mem_of_getElem? (i := 551) (by decide +kernel)
theorem w_cmin : Cond.code Lib.Math.min.name Lib.Math.min.code 2 (some .int) ∈ lw_tbl := List.mem_of_getElem? (i := 552) (by decide +kernel)
theorem w_smaxl : Cond.static Lib.MathLoose.max_long.x ∈ lw_tbl := List.mem_of_getElem? (i := 584) (by decide +kernel)
theorem w_cmaxl : Cond.code Lib.MathLoose.max_long.x Lib.MathLoose.max_long.code 4 (some .long) ∈ lw_tbl := List.mem_of_getElem? (i := 585) (by decide +kernel)
theorem w_sminl : Cond.static Lib.MathLoose.min_long.x ∈ lw_tbl := List.mem_of_getElem? (i := 581) (by decide +kernel)
theorem w_cminl : Cond.code Lib.MathLoose.min_long.x Lib.MathLoose.min_long.code 4 (some .long) ∈ lw_tbl := List.mem_of_getElem? (i := 582) (by decide +kernel)
theorem w_mi : Cond.initialized "java/lang/Math" ∈ lw_tbl := List.mem_of_getElem? (i := 80) (by decide +kernel)
theorem w_aI : Cond.arrayClass .int ∈ lw_tbl := List.mem_of_getElem? (i := 130) (by decide +kernel)
theorem w_aJ : Cond.arrayClass .long ∈ lw_tbl := List.mem_of_getElem? (i := 254) (by decide +kernel)
theorem w_aZ : Cond.arrayClass .boolean ∈ lw_tbl := List.mem_of_getElem? (i := 225) (by decide +kernel)
theorem w_aR : Cond.arrayOver (.object "GiftMatch$Rule") ∈ lw_tbl := List.mem_of_getElem? (i := 97) (by decide +kernel)
theorem w_aS : Cond.arrayOver (.object "GiftMatch$Scene") ∈ lw_tbl := List.mem_of_getElem? (i := 202) (by decide +kernel)
theorem w_rt : Cond.fieldLinkNest (own 9) 41 "GiftMatch" "ROOTS" "[I" "GiftMatch" ∈ lw_tbl := List.mem_of_getElem? (i := 553) (by decide +kernel)
theorem w_rs : Cond.laysStatic "GiftMatch" "ROOTS" "[I" ∈ lw_tbl := List.mem_of_getElem? (i := 554) (by decide +kernel)
theorem w_ri : Cond.initialized "GiftMatch" ∈ lw_tbl := List.mem_of_getElem? (i := 68) (by decide +kernel)
theorem uin0 : ∀ w ∈ u_ws RX0 TX0 6, w ∈ lw_tbl := by
  intro w hw
  have h : u_ws RX0 TX0 6 = [304, 306, 308, 310, 312, 314].filterMap (fun i => lw_tbl[i]?) := by decide +kernel
  rw [h] at hw
  obtain ⟨i, -, hi⟩ := List.mem_filterMap.mp hw
  exact List.mem_of_getElem? hi
theorem uin1 : ∀ w ∈ u_ws RX1 TX1 4, w ∈ lw_tbl := by
  intro w hw
  have h : u_ws RX1 TX1 4 = [342, 344, 346, 348].filterMap (fun i => lw_tbl[i]?) := by decide +kernel
  rw [h] at hw
  obtain ⟨i, -, hi⟩ := List.mem_filterMap.mp hw
  exact List.mem_of_getElem? hi
theorem uin2 : ∀ w ∈ u_ws RX2 TX2 1, w ∈ lw_tbl := by
  intro w hw
  have h : u_ws RX2 TX2 1 = [374].filterMap (fun i => lw_tbl[i]?) := by decide +kernel
  rw [h] at hw
  obtain ⟨i, -, hi⟩ := List.mem_filterMap.mp hw
  exact List.mem_of_getElem? hi
theorem uin3 : ∀ w ∈ u_ws RX3 TX3 5, w ∈ lw_tbl := by
  intro w hw
  have h : u_ws RX3 TX3 5 = [275, 277, 279, 281, 283].filterMap (fun i => lw_tbl[i]?) := by decide +kernel
  rw [h] at hw
  obtain ⟨i, -, hi⟩ := List.mem_filterMap.mp hw
  exact List.mem_of_getElem? hi
theorem uin4 : ∀ w ∈ u_ws RX4 TX4 3, w ∈ lw_tbl := by
  intro w hw
  have h : u_ws RX4 TX4 3 = [360, 362, 364].filterMap (fun i => lw_tbl[i]?) := by decide +kernel
  rw [h] at hw
  obtain ⟨i, -, hi⟩ := List.mem_filterMap.mp hw
  exact List.mem_of_getElem? hi
theorem uin5 : ∀ w ∈ u_ws RX5 TX5 5, w ∈ lw_tbl := by
  intro w hw
  have h : u_ws RX5 TX5 5 = [214, 216, 218, 220, 222].filterMap (fun i => lw_tbl[i]?) := by decide +kernel
  rw [h] at hw
  obtain ⟨i, -, hi⟩ := List.mem_filterMap.mp hw
  exact List.mem_of_getElem? hi
theorem uin6 : ∀ w ∈ u_ws RX6 TX6 2, w ∈ lw_tbl := by
  intro w hw
  have h : u_ws RX6 TX6 2 = [325, 327].filterMap (fun i => lw_tbl[i]?) := by decide +kernel
  rw [h] at hw
  obtain ⟨i, -, hi⟩ := List.mem_filterMap.mp hw
  exact List.mem_of_getElem? hi
theorem uin7 : ∀ w ∈ u_ws RX7 TX7 5, w ∈ lw_tbl := by
  intro w hw
  have h : u_ws RX7 TX7 5 = [119, 121, 123, 125, 127].filterMap (fun i => lw_tbl[i]?) := by decide +kernel
  rw [h] at hw
  obtain ⟨i, -, hi⟩ := List.mem_filterMap.mp hw
  exact List.mem_of_getElem? hi
theorem uin8 : ∀ w ∈ u_ws RX8 TX8 12, w ∈ lw_tbl := by
  intro w hw
  have h : u_ws RX8 TX8 12 = [177, 179, 181, 183, 185, 187, 189, 191, 193, 195, 197, 199].filterMap (fun i => lw_tbl[i]?) := by decide +kernel
  rw [h] at hw
  obtain ⟨i, -, hi⟩ := List.mem_filterMap.mp hw
  exact List.mem_of_getElem? hi
theorem uin9 : ∀ w ∈ u_ws RX9 TX9 7, w ∈ lw_tbl := by
  intro w hw
  have h : u_ws RX9 TX9 7 = [239, 241, 243, 245, 247, 249, 251].filterMap (fun i => lw_tbl[i]?) := by decide +kernel
  rw [h] at hw
  obtain ⟨i, -, hi⟩ := List.mem_filterMap.mp hw
  exact List.mem_of_getElem? hi
theorem uin10 : ∀ w ∈ u_ws RX10 TX10 12, w ∈ lw_tbl := by
  intro w hw
  have h : u_ws RX10 TX10 12 = [389, 391, 393, 395, 397, 399, 401, 403, 405, 407, 409, 411].filterMap (fun i => lw_tbl[i]?) := by decide +kernel
  rw [h] at hw
  obtain ⟨i, -, hi⟩ := List.mem_filterMap.mp hw
  exact List.mem_of_getElem? hi
theorem uin11 : ∀ w ∈ u_ws RX11 TX11 29, w ∈ lw_tbl := by
  intro w hw
  have h : u_ws RX11 TX11 29 = [854, 856, 858, 860, 862, 864, 866, 868, 870, 872, 874, 876, 878, 880, 882, 884, 886, 888, 890, 892, 894, 896, 898, 900, 902, 904, 906, 908, 910].filterMap (fun i => lw_tbl[i]?) := by decide +kernel
  rw [h] at hw
  obtain ⟨i, -, hi⟩ := List.mem_filterMap.mp hw
  exact List.mem_of_getElem? hi
end
section
/-! an interpreter of the bytecode over cells that are numbered; ints are integers -/
abbrev AV : Type := Int ⊕ Int64 ⊕ Nat ⊕ Nat
abbrev iv (z : Int) : AV := .inl z
abbrev jv (z : Int64) : AV := .inr (.inl z)
abbrev rv (k : Nat) : AV := .inr (.inr (.inl k))
abbrev sv (k : Nat) : AV := .inr (.inr (.inr k))
abbrev AC : Type := (Int → Int) ⊕ (Int → Int64) ⊕ (Int → Option Nat)
abbrev AE : Type := (Nat × Nat × AC) ⊕ (Nat × List AV)
abbrev AM : Type := List AE
abbrev AL : Type := List (Option AV)
abbrev AX : Type := Nat × (Nat → Int32)
abbrev AF : Type := Nat × AL × List AV × AM × Nat × Nat
def cat (v : AV) : Nat := match v with
  | .inr (.inl _) => 2
  | _ => 1
def ldI (L : AL) (i : Nat) : Option AV := match L[i]? with
  | some (some (.inl z)) => some (iv z)
  | _ => none
def ldJ (L : AL) (i : Nat) : Option AV := match L[i]? with
  | some (some (.inr (.inl z))) => some (jv z)
  | _ => none
def ldR (L : AL) (i : Nat) : Option AV := match L[i]? with
  | some (some (.inr (.inr (.inl k)))) => some (rv k)
  | some (some (.inr (.inr (.inr (k + 1))))) => some (sv (k + 1))
  | _ => none
def clr (L : AL) (i : Nat) : AL := match i with
  | 0 => L
  | j + 1 => match L[j]? with
    | some (some (.inr (.inl _))) => L.set j none
    | _ => L
def st1 (L : AL) (i : Nat) (v : AV) : AL := (clr L i).set i (some v)
def st2 (L : AL) (i : Nat) (v : AV) : AL := ((clr L i).set i (some v)).set (i + 1) none
def jmp (pc : Nat) (off : Int) : Option Nat := if 0 ≤ (pc : Int) + off then some ((pc : Int) + off).toNat else none
def tst (o : Jvm.ClassFile.Cond) (x y : Int) : Bool := match o with
  | .eq => decide (Int32.ofInt x = Int32.ofInt y)
  | .ne => decide (¬ Int32.ofInt x = Int32.ofInt y)
  | .lt => decide (Int32.ofInt x < Int32.ofInt y)
  | .ge => decide (Int32.ofInt y ≤ Int32.ofInt x)
  | .gt => decide (Int32.ofInt y < Int32.ofInt x)
  | .le => decide (Int32.ofInt x ≤ Int32.ofInt y)
def swt (lo hi dflt : Int) (offs : Array Int) (x : Int) : Option Int := if (Int32.ofInt x).toInt < lo ∨ hi < (Int32.ofInt x).toInt then some dflt else offs[((Int32.ofInt x).toInt - lo).toNat]?
def okv (ty : FieldType) (v : AV) : Bool := match ty, v with
  | .int, .inl _ => true
  | .boolean, .inl z => z == 0 || z == 1
  | .long, .inr (.inl _) => true
  | .object _, .inr (.inr (.inl _)) => true
  | .array _, .inr (.inr (.inl _)) => true
  | _, _ => false
def finT (ci j : Nat) : Bool := match clsT[ci]? with
  | some (_, T, _) => (T j).2.2.2
  | none => true
def decT (ci j : Nat) : String := match clsT[ci]? with
  | some (_, T, _) => (T j).1
  | none => ""
def fszT (ci : Nat) : Nat := match clsT[ci]? with
  | some (_, _, N) => N
  | none => 0
def dflV (ty : FieldType) : AV := match ty with
  | .int => iv 0
  | .boolean => iv 0
  | .long => jv 0
  | _ => sv 0
def dfl (ci : Nat) : List AV := (List.range (fszT ci)).map (fun j => dflV (tyT ci j))
def inA (i : Int) (n : Nat) : Bool := decide (0 ≤ i ∧ i < n ∧ n < 2147483648)
def rootL : List Int := [0, 1000000, 1414213, 1732050, 2000000, 2236067, 2449489, 2645751, 2828427, 3000000, 3162277, 3316624, 3464101]
def rootZ (i : Int) : Int := rootL.getD i.toNat 0
def updA {α : Type} (f : Int → α) (i : Int) (x : α) : Int → α := fun j => if j = i then x else f j
def cpyA (f g : Int → Int) (sp dp n : Int) : Int → Int := fun j => if dp ≤ j ∧ j < dp + n then f (sp + (j - dp)) else g j
def lenOK (ins : Instr) (len : Nat) : Bool := match ins with
  | .tableswitch .. => true
  | .lookupswitch .. => true
  | .iload _ | .lload _ | .aload _ | .istore _ | .lstore _ | .astore _ | .bipush _ | .newarray _ => len == 2
  | .sipush _ | .ldc2_w _ | .iinc _ _ | .goto _ | .ifCond _ _ | .if_icmp _ _ | .getfield _ | .putfield _ | .getstatic _ | .new _ | .anewarray _ | .invokevirtual _ | .invokestatic _ | .invokespecial _ => len == 3
  | _ => len == 1
/-- an instruction that neither calls nor returns -/
def stp (X : AX) (mr : MRec) (d : Nat) (ins : Instr) (pc : Nat) (L : AL) (S : List AV) (M : AM) (c s : Nat) : Option AF := match ins with
  | .iload_n k => (ldI L k).map (fun v => (pc + 1, L, v :: S, M, c, s))
  | .iload k => (ldI L k).map (fun v => (pc + 2, L, v :: S, M, c, s))
  | .lload_n k => (ldJ L k).map (fun v => (pc + 1, L, v :: S, M, c, s))
  | .lload k => (ldJ L k).map (fun v => (pc + 2, L, v :: S, M, c, s))
  | .aload_n k => (ldR L k).map (fun v => (pc + 1, L, v :: S, M, c, s))
  | .aload k => (ldR L k).map (fun v => (pc + 2, L, v :: S, M, c, s))
  | .istore_n k => match S with
    | .inl z :: r => if (k : Nat) < mr.2.2.1 then some (pc + 1, st1 L k (iv z), r, M, c, s) else none
    | _ => none
  | .istore k => match S with
    | .inl z :: r => if k < mr.2.2.1 then some (pc + 2, st1 L k (iv z), r, M, c, s) else none
    | _ => none
  | .lstore_n k => match S with
    | .inr (.inl z) :: r => if (k : Nat) + 1 < mr.2.2.1 then some (pc + 1, st2 L k (jv z), r, M, c, s) else none
    | _ => none
  | .lstore k => match S with
    | .inr (.inl z) :: r => if k + 1 < mr.2.2.1 then some (pc + 2, st2 L k (jv z), r, M, c, s) else none
    | _ => none
  | .astore_n k => match S with
    | .inr (.inr (.inl z)) :: r => if (k : Nat) < mr.2.2.1 then some (pc + 1, st1 L k (rv z), r, M, c, s) else none
    | _ => none
  | .astore k => match S with
    | .inr (.inr (.inl z)) :: r => if k < mr.2.2.1 then some (pc + 2, st1 L k (rv z), r, M, c, s) else none
    | _ => none
  | .iconst n => some (pc + 1, L, iv n :: S, M, c, s)
  | .bipush n => some (pc + 2, L, iv (Int8.ofInt n).toInt :: S, M, c, s)
  | .sipush n => some (pc + 3, L, iv (Int16.ofInt n).toInt :: S, M, c, s)
  | .lconst n => some (pc + 1, L, jv (Int64.ofNat n) :: S, M, c, s)
  | .ldc2_w k => (lcn mr.2.2.2.2.2.2 k).map (fun v => (pc + 3, L, jv v :: S, M, c, s))
  | .iadd => match S with
    | .inl y :: .inl x :: r => some (pc + 1, L, iv (x + y) :: r, M, c, s)
    | _ => none
  | .isub => match S with
    | .inl y :: .inl x :: r => some (pc + 1, L, iv (x - y) :: r, M, c, s)
    | _ => none
  | .imul => match S with
    | .inl y :: .inl x :: r => some (pc + 1, L, iv (x * y) :: r, M, c, s)
    | _ => none
  | .idiv => match S with
    | .inl y :: .inl x :: r => if Int32.ofInt y = 0 then none else some (pc + 1, L, iv (Int32.ofInt x / Int32.ofInt y).toInt :: r, M, c, s)
    | _ => none
  | .ineg => match S with
    | .inl x :: r => some (pc + 1, L, iv (-x) :: r, M, c, s)
    | _ => none
  | .iand => match S with
    | .inl y :: .inl x :: r => some (pc + 1, L, iv (Int32.ofInt x &&& Int32.ofInt y).toInt :: r, M, c, s)
    | _ => none
  | .ladd => match S with
    | .inr (.inl y) :: .inr (.inl x) :: r => some (pc + 1, L, jv (x + y) :: r, M, c, s)
    | _ => none
  | .lsub => match S with
    | .inr (.inl y) :: .inr (.inl x) :: r => some (pc + 1, L, jv (x - y) :: r, M, c, s)
    | _ => none
  | .lmul => match S with
    | .inr (.inl y) :: .inr (.inl x) :: r => some (pc + 1, L, jv (x * y) :: r, M, c, s)
    | _ => none
  | .ldiv => match S with
    | .inr (.inl y) :: .inr (.inl x) :: r => if y = 0 then none else some (pc + 1, L, jv (x / y) :: r, M, c, s)
    | _ => none
  | .lor => match S with
    | .inr (.inl y) :: .inr (.inl x) :: r => some (pc + 1, L, jv (x ||| y) :: r, M, c, s)
    | _ => none
  | .lneg => match S with
    | .inr (.inl x) :: r => some (pc + 1, L, jv (-x) :: r, M, c, s)
    | _ => none
  | .lshl => match S with
    | .inl y :: .inr (.inl x) :: r => some (pc + 1, L, jv (x <<< ((Int32.ofInt y).toInt64 &&& 63)) :: r, M, c, s)
    | _ => none
  | .lcmp => match S with
    | .inr (.inl y) :: .inr (.inl x) :: r => some (pc + 1, L, iv (lg_cmp x y).toInt :: r, M, c, s)
    | _ => none
  | .i2l => match S with
    | .inl x :: r => some (pc + 1, L, jv (Int32.ofInt x).toInt64 :: r, M, c, s)
    | _ => none
  | .l2i => match S with
    | .inr (.inl x) :: r => some (pc + 1, L, iv x.toInt32.toInt :: r, M, c, s)
    | _ => none
  | .iinc k n => match L[k]? with
    | some (some (.inl x)) => if k < mr.2.2.1 then some (pc + 3, st1 L k (iv (x + n)), S, M, c, s) else none
    | _ => none
  | .goto off => (jmp pc off).map (fun t => (t, L, S, M, c, s))
  | .ifCond o off => match S with
    | .inl x :: r => (jmp pc off).map (fun t => (if tst o x 0 then t else pc + 3, L, r, M, c, s))
    | _ => none
  | .if_icmp o off => match S with
    | .inl y :: .inl x :: r => (jmp pc off).map (fun t => (if tst o x y then t else pc + 3, L, r, M, c, s))
    | _ => none
  | .tableswitch dflt lo hi offs => match S with
    | .inl x :: r => match swt lo hi dflt offs x with
      | some off => (jmp pc off).map (fun t => (t, L, r, M, c, s))
      | none => none
    | _ => none
  | .lookupswitch dflt ps => match S with
    | .inl x :: r => if (ps.toList.zip (ps.toList.drop 1)).all (fun (a, next) => a.1 < next.1) = true then (jmp pc (Op.lookupswitch.offset ps.toList dflt (Int32.ofInt x).toInt)).map (fun t => (t, L, r, M, c, s)) else none
    | _ => none
  | .dup => match S with
    | v :: r => if cat v = 1 then some (pc + 1, L, v :: v :: r, M, c, s) else none
    | _ => none
  | .dup2 => match S with
    | v :: w :: r => if cat v = 1 ∧ cat w = 1 then some (pc + 1, L, v :: w :: v :: w :: r, M, c, s) else none
    | _ => none
  | .pop => match S with
    | v :: r => if cat v = 1 then some (pc + 1, L, r, M, c, s) else none
    | _ => none
  | .getfield k => match S with
    | .inr (.inr (.inl q)) :: r => match fld mr.2.2.2.2.2.2 k with
      | some (ci, j) => match M[q]? with
        | some (.inr (ci', fs)) => if ci' = ci then (fs[j]?).map (fun v => (pc + 3, L, v :: r, M, c, s)) else none
        | _ => none
      | none => none
    | _ => none
  | .putfield k => match S with
    | v :: .inr (.inr (.inl q)) :: r => match fld mr.2.2.2.2.2.2 k with
      | some (ci, j) => match M[q]? with
        | some (.inr (ci', fs)) => if ci' = ci ∧ j < fs.length ∧ okv (tyT ci j) v = true ∧ (finT ci j = true → mr.1.name = "<init>" ∧ decT ci j = own mr.2.2.2.2.2.2) then some (pc + 3, L, r, M.set q (.inr (ci, fs.set j v)), c, s) else none
        | _ => none
      | none => none
    | _ => none
  | .getstatic k => if mr.2.2.2.2.2.2 = 9 ∧ k = 41 then some (pc + 3, L, sv 1 :: S, M, c, s) else none
  | .iaload => match S with
    | .inl i :: .inr (.inr (.inl q)) :: r => match M[q]? with
      | some (.inl (0, n, .inl f)) => if inA i n then some (pc + 1, L, iv (f i) :: r, M, c, s) else none
      | _ => none
    | .inl i :: .inr (.inr (.inr 1)) :: r => if inA i 13 then some (pc + 1, L, iv (rootZ i) :: r, M, c, s) else none
    | .inl i :: .inr (.inr (.inr 2)) :: r => if inA i X.1 then some (pc + 1, L, iv (X.2 i.toNat).toInt :: r, M, c, s) else none
    | _ => none
  | .laload => match S with
    | .inl i :: .inr (.inr (.inl q)) :: r => match M[q]? with
      | some (.inl (1, n, .inr (.inl f))) => if inA i n then some (pc + 1, L, jv (f i) :: r, M, c, s) else none
      | _ => none
    | _ => none
  | .baload => match S with
    | .inl i :: .inr (.inr (.inl q)) :: r => match M[q]? with
      | some (.inl (2, n, .inl f)) => if inA i n then some (pc + 1, L, iv (f i) :: r, M, c, s) else none
      | _ => none
    | _ => none
  | .aaload => match S with
    | .inl i :: .inr (.inr (.inl q)) :: r => match M[q]? with
      | some (.inl (t, n, .inr (.inr f))) => if inA i n ∧ (t = 3 ∨ t = 4) then (f i).map (fun k => (pc + 1, L, rv k :: r, M, c, s)) else none
      | _ => none
    | _ => none
  | .iastore => match S with
    | .inl x :: .inl i :: .inr (.inr (.inl q)) :: r => match M[q]? with
      | some (.inl (0, n, .inl f)) => if inA i n then some (pc + 1, L, r, M.set q (.inl (0, n, .inl (updA f i x))), c, s) else none
      | _ => none
    | _ => none
  | .lastore => match S with
    | .inr (.inl x) :: .inl i :: .inr (.inr (.inl q)) :: r => match M[q]? with
      | some (.inl (1, n, .inr (.inl f))) => if inA i n then some (pc + 1, L, r, M.set q (.inl (1, n, .inr (.inl (updA f i x)))), c, s) else none
      | _ => none
    | _ => none
  | .bastore => match S with
    | .inl x :: .inl i :: .inr (.inr (.inl q)) :: r => match M[q]? with
      | some (.inl (2, n, .inl f)) => if inA i n ∧ (x = 0 ∨ x = 1) then some (pc + 1, L, r, M.set q (.inl (2, n, .inl (updA f i x))), c, s) else none
      | _ => none
    | _ => none
  | .aastore => match S with
    | .inr (.inr (.inl v)) :: .inl i :: .inr (.inr (.inl q)) :: r => match M[q]?, M[v]? with
      | some (.inl (t, n, .inr (.inr f))), some (.inr (ci, _)) => if inA i n ∧ ((t = 3 ∧ ci = 7) ∨ (t = 4 ∧ ci = 8)) then some (pc + 1, L, r, M.set q (.inl (t, n, .inr (.inr (updA f i (some v))))), c, s) else none
      | _, _ => none
    | _ => none
  | .arraylength => match S with
    | .inr (.inr (.inr 2)) :: r => some (pc + 1, L, iv (Int32.ofNat X.1).toInt :: r, M, c, s)
    | _ => none
  | .newarray a => match S with
    | .inl n :: r => if 0 ≤ n ∧ n ≤ 100000 ∧ c + 1 ≤ mr.2.2.2.2.1 ∧ s + n.toNat ≤ mr.2.2.2.2.2.1 then match a with
      | .int => some (pc + 2, L, rv M.length :: r, M ++ [.inl (0, n.toNat, .inl (fun _ => 0))], c + 1, s + n.toNat)
      | .long => some (pc + 2, L, rv M.length :: r, M ++ [.inl (1, n.toNat, .inr (.inl (fun _ => 0)))], c + 1, s + n.toNat)
      | .boolean => some (pc + 2, L, rv M.length :: r, M ++ [.inl (2, n.toNat, .inl (fun _ => 0))], c + 1, s + n.toNat)
      | _ => none else none
    | _ => none
  | .anewarray k => match S with
    | .inl n :: r => match anc mr.2.2.2.2.2.2 k with
      | some (_, t) => if 0 ≤ n ∧ n ≤ 100000 ∧ c + 1 ≤ mr.2.2.2.2.1 ∧ s + n.toNat ≤ mr.2.2.2.2.2.1 then some (pc + 3, L, rv M.length :: r, M ++ [.inl (t, n.toNat, .inr (.inr (fun _ => none)))], c + 1, s + n.toNat) else none
      | none => none
    | _ => none
  | .new k => match nwc mr.2.2.2.2.2.2 k with
    | some ci => if c + 1 ≤ mr.2.2.2.2.1 ∧ s + fszT ci ≤ mr.2.2.2.2.2.1 then some (pc + 3, L, rv M.length :: S, M ++ [.inr (ci, dfl ci)], c + 1, s + fszT ci) else none
    | none => none
  | .invokespecial k => match S with
    | .inr (.inr (.inl _)) :: r => match sp mr.2.2.2.2.2.2 k with
      | some (5, _) => if 1 ≤ d ∧ (r.map cat).sum ≤ 8 then some (pc + 3, L, r, M, c, s) else none
      | _ => none
    | _ => none
  | .invokestatic k => match sp mr.2.2.2.2.2.2 k with
    | some (8, _) => match S with
      | .inl y :: .inl x :: r => if 1 ≤ d ∧ (r.map cat).sum ≤ 8 ∧ c ≤ mr.2.2.2.2.1 ∧ s ≤ mr.2.2.2.2.2.1 then some (pc + 3, L, iv (if Int32.ofInt x < Int32.ofInt y then y else x) :: r, M, c, s) else none
      | _ => none
    | some (9, _) => match S with
      | .inl y :: .inl x :: r => if 1 ≤ d ∧ (r.map cat).sum ≤ 8 ∧ c ≤ mr.2.2.2.2.1 ∧ s ≤ mr.2.2.2.2.2.1 then some (pc + 3, L, iv (if Int32.ofInt y < Int32.ofInt x then y else x) :: r, M, c, s) else none
      | _ => none
    | some (10, _) => match S with
      | .inr (.inl y) :: .inr (.inl x) :: r => if 1 ≤ d ∧ (r.map cat).sum ≤ 8 ∧ c ≤ mr.2.2.2.2.1 ∧ s ≤ mr.2.2.2.2.2.1 then some (pc + 3, L, jv (if y < x then x else y) :: r, M, c, s) else none
      | _ => none
    | some (11, _) => match S with
      | .inr (.inl y) :: .inr (.inl x) :: r => if 1 ≤ d ∧ (r.map cat).sum ≤ 8 ∧ c ≤ mr.2.2.2.2.1 ∧ s ≤ mr.2.2.2.2.2.1 then some (pc + 3, L, jv (if y < x then y else x) :: r, M, c, s) else none
      | _ => none
    | some (7, _) => match S with
      | .inl n :: .inl dp :: .inr (.inr (.inl q)) :: .inl sp0 :: .inr (.inr (.inl q0)) :: r => match M[q0]?, M[q]? with
        | some (.inl (0, n0, .inl f)), some (.inl (0, n1, .inl g)) => if 0 ≤ n ∧ 0 ≤ dp ∧ 0 ≤ sp0 ∧ sp0 + n ≤ n0 ∧ dp + n ≤ n1 ∧ n0 < 2147483648 ∧ n1 < 2147483648 ∧ 1 ≤ d ∧ (r.map cat).sum ≤ 8 then some (pc + 3, L, r, M.set q (.inl (0, n1, .inl (cpyA f g sp0 dp n))), c, s) else none
        | _, _ => none
      | _ => none
    | _ => none
  | _ => none
def argL (vs : List AV) (n : Nat) : AL := let l := vs.flatMap (fun v => if cat v = 2 then [some v, none] else [some v]); l ++ List.replicate (n - l.length) none
/-- a call: its link, the arguments (with the receiver), what is left on the stack -/
def cal (mr : MRec) (ins : Instr) (S : List AV) (M : AM) : Option (MRec × List AV × List AV) := match ins with
  | .invokevirtual k => match ml mr.2.2.2.2.2.2 k with
    | some (_, _, 0, na, mr', _) => match S.drop na with
      | .inr (.inr (.inl q)) :: r => match M[q]? with
        | some (.inr (ci, _)) => if ci = mr'.2.2.2.2.2.2 ∧ (S.take na).length = na ∧ (r.map cat).sum ≤ 8 then some (mr', rv q :: (S.take na).reverse, r) else none
        | _ => none
      | _ => none
    | _ => none
  | .invokestatic k => match ml mr.2.2.2.2.2.2 k with
    | some (_, _, 2, na, mr', _) => if (S.take na).length = na ∧ ((S.drop na).map cat).sum ≤ 8 then some (mr', (S.take na).reverse, S.drop na) else none
    | _ => none
  | .invokespecial k => match ml mr.2.2.2.2.2.2 k with
    | some (_, _, kind, na, mr', _) => if kind = 3 ∨ kind = 4 then match S.drop na with
      | .inr (.inr (.inl q)) :: r => if (S.take na).length = na ∧ (r.map cat).sum ≤ 8 then some (mr', rv q :: (S.take na).reverse, r) else none
      | _ => none else none
    | _ => none
  | _ => none
def rtn (mr : MRec) (ins : Instr) (S : List AV) : Option (Option AV) := match ins, mr.2.2.2.1 with
  | .ireturn, some .int => match S with
    | [.inl z] => some (some (iv z))
    | _ => none
  | .ireturn, some .boolean => match S with
    | [.inl z] => if z = 0 ∨ z = 1 then some (some (iv z)) else none
    | _ => none
  | .lreturn, some .long => match S with
    | [.inr (.inl z)] => some (some (jv z))
    | _ => none
  | .return_, none => match S with
    | [] => some none
    | _ => none
  | _, _ => none
def run (X : AX) : Nat → Nat → MRec → Nat → AL → List AV → AM → Nat → Nat → Option (Option AV × AM)
  | 0, _, _, _, _, _, _, _, _ => none
  | n + 1, d, mr, pc, L, S, M, c, s => match decode mr.2.1 pc with
    | .ok (ins, len) => if lenOK ins len then match rtn mr ins S with
      | some v => if c = mr.2.2.2.2.1 ∧ s ≤ mr.2.2.2.2.2.1 then some (v, M) else none
      | none => match stp X mr d ins pc L S M c s with
        | some (pc', L', S', M', c', s') => run X n d mr pc' L' S' M' c' s'
        | none => match cal mr ins S M with
          | some (mr', As, r) => match d with
            | 0 => none
            | d' + 1 => if (argL As mr'.2.2.1).length = mr'.2.2.1 ∧ c + mr'.2.2.2.2.1 ≤ mr.2.2.2.2.1 ∧ s + mr'.2.2.2.2.2.1 ≤ mr.2.2.2.2.2.1 then match run X n d' mr' 0 (argL As mr'.2.2.1) [] M 0 0 with
              | some (v, M') => run X n (d' + 1) mr (pc + 3) L (v.toList ++ r) M' (c + mr'.2.2.2.2.1) (s + mr'.2.2.2.2.2.1)
              | none => none else none
          | none => none
      else none
    | .error _ => none
end
section
/-! what the interpreter's words mean on the machine -/
abbrev GB : Type := Nat × Nat × Nat
def cV (G : GB) (v : AV) : Value := match v with
  | .inl z => .int (Int32.ofInt z)
  | .inr (.inl z) => .long z
  | .inr (.inr (.inl k)) => .ref (G.1 + k)
  | .inr (.inr (.inr 0)) => .null
  | .inr (.inr (.inr 1)) => .ref G.2.1
  | .inr (.inr (.inr _)) => .ref G.2.2
theorem cV_cat (G : GB) (v : AV) : (cV G v).category = cat v := by
  rcases v with z | z | z | z
  · rfl
  · rfl
  · rfl
  · match z with
    | 0 => rfl
    | 1 => rfl
    | _ + 2 => rfl
def cE (G : GB) (tyc : Nat → ClassId) (e : AE) : va_E := match e with
  | .inl (t, n, .inl f) => .inl (tyc t, n, .inl (fun j => Int32.ofInt (f j)))
  | .inl (t, n, .inr (.inl f)) => .inl (tyc t, n, .inr (.inl (fun j => f j)))
  | .inl (t, n, .inr (.inr f)) => .inl (tyc t, n, .inr (.inr (.inr (.inr (fun j => (f j).map (fun k => G.1 + k))))))
  | .inr (ci, fs) => .inr (ci, fs.map (cV G))
def cW (G : GB) (tyc : Nat → ClassId) (M : AM) : va_W := M.mapIdx (fun k e => (G.1 + k, cE G tyc e))
theorem cW_get {G : GB} {tyc : Nat → ClassId} {M : AM} {k : Nat} {e : AE} (h : M[k]? = some e) : (cW G tyc M)[k]? = some (G.1 + k, cE G tyc e) := by
  simp [cW, List.getElem?_mapIdx, h]
theorem cW_inv {G : GB} {tyc : Nat → ClassId} {M : AM} {k : Nat} {q : Nat × va_E} (h : (cW G tyc M)[k]? = some q) : ∃ e, M[k]? = some e ∧ q = (G.1 + k, cE G tyc e) := by
  simp only [cW, List.getElem?_mapIdx] at h
  cases hm : M[k]? with
  | none => rw [hm] at h; cases h
  | some e => rw [hm] at h; exact ⟨e, rfl, (Option.some.inj h).symm⟩
theorem cW_set {G : GB} {tyc : Nat → ClassId} {M : AM} {k : Nat} {e : AE} : (cW G tyc M).set k (G.1 + k, cE G tyc e) = cW G tyc (M.set k e) := by
  apply List.ext_getElem?
  intro i
  simp only [cW, List.getElem?_set, List.getElem?_mapIdx, List.length_mapIdx]
  by_cases h : k = i
  · subst h
    by_cases hk : k < M.length
    · simp [hk]
    · simp [hk]
  · simp [h]
theorem cW_app {G : GB} {tyc : Nat → ClassId} {M : AM} {e : AE} : cW G tyc (M ++ [e]) = cW G tyc M ++ [(G.1 + M.length, cE G tyc e)] := by
  simp [cW, List.mapIdx_append]
theorem cW_D {G : GB} {tyc : Nat → ClassId} {M : AM} : va_D (fun q => G.1 ≤ q) (cW G tyc M) := by
  refine ⟨fun i j p q hp hq h => ?_, fun k q hq => ?_⟩
  · obtain ⟨_, -, rfl⟩ := cW_inv hp
    obtain ⟨_, -, rfl⟩ := cW_inv hq
    simp only at h
    omega
  · obtain ⟨_, -, rfl⟩ := cW_inv hq
    simp
abbrev tysOf (tyc : Nat → ClassId) : List (ClassId × FieldType) := [(tyc 0, .int), (tyc 1, .long), (tyc 2, .boolean), (tyc 3, .object "GiftMatch$Rule"), (tyc 4, .object "GiftMatch$Scene")]
def lh (G : GB) (ls : Array Slot) (nL : Nat) (L : AL) : Prop := ls.size = nL ∧ lv_wf ls ∧ ∀ (i : Nat) (v : AV), L[i]? = some (some v) → ls[i]? = some (.val (cV G v))
def prs (G : GB) (L : AL) : List (Nat × Value) := (List.range L.length).filterMap (fun i => match L[i]? with
  | some (some v) => some (i, cV G v)
  | _ => none)
theorem mem_prs {G : GB} {L : AL} {q : Nat × Value} : q ∈ prs G L ↔ ∃ v, L[q.1]? = some (some v) ∧ q.2 = cV G v := by
  simp only [prs, List.mem_filterMap, List.mem_range]
  constructor
  · rintro ⟨i, hi, h⟩
    split at h
    · next v hv => cases h; exact ⟨v, hv, rfl⟩
    · cases h
  · rintro ⟨v, hv, h⟩
    refine ⟨q.1, (List.getElem?_eq_some_iff.mp hv).1, ?_⟩
    rw [hv]
    simp only
    rw [← h]
theorem lh_has {G : GB} {ls : Array Slot} {nL : Nat} {L : AL} (h : lh G ls nL L) : lv_has ls nL (prs G L) := by
  refine ⟨h.1, h.2.1, fun q hq => ?_⟩
  obtain ⟨v, hv, hw⟩ := mem_prs.mp hq
  rw [hw]
  exact h.2.2 _ _ hv
theorem clr_inv {L : AL} {i j : Nat} {w : AV} (h : (clr L i)[j]? = some (some w)) : L[j]? = some (some w) ∧ ¬ (j + 1 = i ∧ cat w = 2) := by
  unfold clr at h
  cases i with
  | zero => exact ⟨h, fun q => by omega⟩
  | succ k =>
    simp only at h
    split at h
    · next z hz =>
      rw [List.getElem?_set] at h
      by_cases hk : k = j
      · subst hk
        rw [if_pos rfl] at h
        split at h <;> cases h
      · rw [if_neg hk] at h
        exact ⟨h, fun q => hk (by omega)⟩
    · next hz =>
      refine ⟨h, fun q => ?_⟩
      have : j = k := by omega
      subst this
      rcases w with w | w | w | w
      · simp [cat] at q
      · exact hz w h
      · simp [cat] at q
      · simp [cat] at q
theorem has_lh1 {G : GB} {ls : Array Slot} {nL : Nat} {L : AL} {i : Nat} {v : AV} (h : lv_has ls nL ((i, cV G v) :: (prs G L).filter (fun q => !(q.1 == i) && !(q.1 + 1 == i && q.2.category == 2)))) : lh G ls nL (st1 L i v) := by
  refine ⟨h.1, h.2.1, fun j w hj => ?_⟩
  unfold st1 at hj
  rw [List.getElem?_set] at hj
  by_cases hk : i = j
  · subst hk
    rw [if_pos rfl] at hj
    split at hj
    · cases hj
      exact h.2.2 _ List.mem_cons_self
    · cases hj
  · rw [if_neg hk] at hj
    obtain ⟨h1, h2⟩ := clr_inv hj
    refine h.2.2 (j, cV G w) (List.mem_cons_of_mem _ (List.mem_filter.mpr ⟨mem_prs.mpr ⟨w, h1, rfl⟩, ?_⟩))
    simp only [Bool.and_eq_true, Bool.not_eq_true', beq_eq_false_iff_ne, Bool.and_eq_false_iff, ne_eq]
    refine ⟨fun q => hk q.symm, ?_⟩
    rw [cV_cat]
    by_cases hc : j + 1 = i
    · right
      exact fun q => h2 ⟨hc, q⟩
    · left; exact hc
theorem has_lh2 {G : GB} {ls : Array Slot} {nL : Nat} {L : AL} {i : Nat} {v : AV} (h : lv_has ls nL ((i, cV G v) :: (prs G L).filter (fun q => !(q.1 == i) && (!(q.1 == i + 1) && !(q.1 + 1 == i && q.2.category == 2))))) : lh G ls nL (st2 L i v) := by
  refine ⟨h.1, h.2.1, fun j w hj => ?_⟩
  unfold st2 at hj
  rw [List.getElem?_set] at hj
  by_cases hk1 : i + 1 = j
  · subst hk1
    rw [if_pos rfl] at hj
    split at hj <;> cases hj
  · rw [if_neg hk1, List.getElem?_set] at hj
    by_cases hk : i = j
    · subst hk
      rw [if_pos rfl] at hj
      split at hj
      · cases hj
        exact h.2.2 _ List.mem_cons_self
      · cases hj
    · rw [if_neg hk] at hj
      obtain ⟨h1, h2⟩ := clr_inv hj
      refine h.2.2 (j, cV G w) (List.mem_cons_of_mem _ (List.mem_filter.mpr ⟨mem_prs.mpr ⟨w, h1, rfl⟩, ?_⟩))
      simp only [Bool.and_eq_true, Bool.not_eq_true', beq_eq_false_iff_ne, Bool.and_eq_false_iff, ne_eq]
      refine ⟨fun q => hk q.symm, fun q => hk1 q.symm, ?_⟩
      rw [cV_cat]
      by_cases hc : j + 1 = i
      · right
        exact fun q => h2 ⟨hc, q⟩
      · left; exact hc
def HW (G : GB) (D : va_G) (tyc : Nat → ClassId) (M : AM) (H : Heap) : Prop := H.size = G.1 + M.length ∧ va_P D clsT (cW G tyc M) H
abbrev AB (G : GB) : Nat → Prop := fun q => G.1 ≤ q
/-- what a method's own state says -/
def St (G : GB) (D : va_G) (tyc : Nat → ClassId) (X : AX) (s : State) : Prop := va_K D clsT (tysOf tyc) s ∧ (∀ w ∈ nestT, va_Nw w s) ∧ va_AO "GiftMatch$Rule" s ∧ va_AO "GiftMatch$Scene" s ∧ va_Z "GiftMatch" "ROOTS" "[I" (.ref G.2.1) (AB G) s s.heap ∧ va_T .int G.2.1 13 (fun j => .int (Int32.ofInt (rootZ j))) (AB G) s s.heap ∧ va_X G.2.2 X.1 X.2 s s.heap ∧ G.2.2 < G.1 ∧ G.1 ≤ s.heap.size ∧ X.1 ≤ 2560
def Cx (p : Program) (R : Room) (s : State) (m : MethodId) (args : Array Value) (meth : Method) (c : Code) (mr : MRec) (G : GB) (D : va_G) (tyc : Nat → ClassId) (X : AX) (d : Nat) : Prop :=
  p.tables.exec = Jvm.exec ∧ c.code = mr.2.1 ∧ c.maxLocals = mr.2.2.1 ∧ s.vm.findClass (own mr.2.2.2.2.2.2) = some m.cls ∧ (∀ w ∈ gtbl, w.before args s = true) ∧ St G D tyc X s ∧ (mr.1.name = "<init>" → meth.name = "<init>") ∧ d ≤ R.frames ∧ 41 * d ≤ R.locals ∧ mr.2.2.2.2.1 ≤ R.cells ∧ mr.2.2.2.2.2.1 ≤ R.slots
theorem fld_ok {oc idx ci j : Nat} (h : fld oc idx = some (ci, j)) : ∃ (C : String) (T : u_T) (N : Nat), clsT[ci]? = some (C, T, N) ∧ j < N ∧ Cond.fieldLink (own oc) idx (T j).1 (T j).2.1 (T j).2.2.1 ∈ gtbl ∧ parseFieldDescriptor (T j).2.2.1 = some (tyT ci j) := by
  have hall : ∀ e ∈ flT oc, flK oc e = true := by
    unfold flT
    match oc with
    | 0 => exact List.all_eq_true.mp flT0_ok
    | 1 => exact List.all_eq_true.mp flT1_ok
    | 2 => exact List.all_eq_true.mp flT2_ok
    | 3 => exact List.all_eq_true.mp flT3_ok
    | 4 => exact List.all_eq_true.mp flT4_ok
    | 5 => exact List.all_eq_true.mp flT5_ok
    | 6 => exact List.all_eq_true.mp flT6_ok
    | 7 => exact List.all_eq_true.mp flT7_ok
    | 8 => exact List.all_eq_true.mp flT8_ok
    | 9 => exact List.all_eq_true.mp flT9_ok
    | 10 => exact List.all_eq_true.mp flT10_ok
    | 11 => exact List.all_eq_true.mp flT11_ok
    | _ + 12 => exact fun e he => absurd he List.not_mem_nil
  unfold fld at h
  cases hf : (flT oc).find? (fun e => e.1 == idx) with
  | none => rw [hf] at h; cases h
  | some e =>
    rw [hf] at h
    have h1 := hall e (List.mem_of_find?_eq_some hf)
    have h2 : e.1 = idx := by simpa using List.find?_some hf
    obtain ⟨e1, e2, e3, e4⟩ := e
    simp only [Option.map_some, Option.some.injEq, Prod.mk.injEq] at h
    obtain ⟨rfl, rfl⟩ := h
    simp only at h2
    subst h2
    unfold flK at h1
    simp only at h1
    split at h1
    · next C T N hc =>
      simp only [Bool.and_eq_true, decide_eq_true_eq] at h1
      exact ⟨C, T, N, hc, h1.1.2, in_g (List.mem_of_getElem? h1.1.1) rfl, h1.2⟩
    · cases h1
theorem u_in {ci : Nat} {C : String} {T : u_T} {N : Nat} (h : clsT[ci]? = some (C, T, N)) : (∀ w ∈ u_ws C T N, w ∈ gtbl) ∧ (∀ k, k < N → parseFieldDescriptor (T k).2.2.1 = some (tyT ci k)) ∧ (∀ a, a < N → ∀ b, b < N → a ≠ b → (T a).2.1 ≠ (T b).2.1) := by
  have gg : ∀ {C T N}, (∀ w ∈ u_ws C T N, w ∈ lw_tbl) → ∀ w ∈ u_ws C T N, w ∈ gtbl := by
    intro C T N h w hw
    refine in_g (h w hw) ?_
    obtain ⟨k, -, rfl⟩ := List.mem_map.mp hw
    unfold u_lay
    split <;> rfl
  unfold clsT at h
  match ci, h with
  | 0, h => cases h; exact ⟨gg uin0, tyX0_ok, nmX0⟩
  | 1, h => cases h; exact ⟨gg uin1, tyX1_ok, nmX1⟩
  | 2, h => cases h; exact ⟨gg uin2, tyX2_ok, nmX2⟩
  | 3, h => cases h; exact ⟨gg uin3, tyX3_ok, nmX3⟩
  | 4, h => cases h; exact ⟨gg uin4, tyX4_ok, nmX4⟩
  | 5, h => cases h; exact ⟨gg uin5, tyX5_ok, nmX5⟩
  | 6, h => cases h; exact ⟨gg uin6, tyX6_ok, nmX6⟩
  | 7, h => cases h; exact ⟨gg uin7, tyX7_ok, nmX7⟩
  | 8, h => cases h; exact ⟨gg uin8, tyX8_ok, nmX8⟩
  | 9, h => cases h; exact ⟨gg uin9, tyX9_ok, nmX9⟩
  | 10, h => cases h; exact ⟨gg uin10, tyX10_ok, nmX10⟩
  | 11, h => cases h; exact ⟨gg uin11, tyX11_ok, nmX11⟩
  | k + 12, h => simp at h
theorem lcn_ok {oc idx : Nat} {v : Int64} (h : lcn oc idx = some v) : Cond.constantLong (own oc) idx v ∈ gtbl := by
  unfold lcn at h
  cases hf : lcT.find? (fun e => e.1 == oc && e.2.1 == idx) with
  | none => rw [hf] at h; cases h
  | some e =>
    rw [hf] at h
    have h1 := List.all_eq_true.mp lcT_ok e (List.mem_of_find?_eq_some hf)
    have h2 : e.1 = oc ∧ e.2.1 = idx := by simpa using List.find?_some hf
    simp only [decide_eq_true_eq] at h1
    rw [h2.1, h2.2] at h1
    cases h
    exact in_g (List.mem_of_getElem? h1) rfl
theorem sp_ok {oc idx k q : Nat} (h : sp oc idx = some (k, q)) : Cond.methodLink (own oc) idx (spN k) ∈ gtbl := by
  unfold sp at h
  cases hf : spT.find? (fun e => e.1 == oc && e.2.1 == idx) with
  | none => rw [hf] at h; cases h
  | some e =>
    rw [hf] at h
    have h1 := List.all_eq_true.mp spT_ok e (List.mem_of_find?_eq_some hf)
    have h2 : e.1 = oc ∧ e.2.1 = idx := by simpa using List.find?_some hf
    simp only [Bool.and_eq_true, decide_eq_true_eq] at h1
    rw [h2.1, h2.2] at h1
    cases h
    exact in_g (List.mem_of_getElem? h1.1) rfl
theorem nwc_ok {oc idx ci : Nat} (h : nwc oc idx = some ci) : ∃ (C : String) (T : u_T) (N : Nat), clsT[ci]? = some (C, T, N) ∧ Cond.classLink (own oc) idx C ∈ gtbl ∧ Cond.instantiable C N ∈ gtbl ∧ Cond.initialized C ∈ gtbl := by
  unfold nwc at h
  cases hf : nwT.find? (fun e => e.1 == oc && e.2.1 == idx) with
  | none => rw [hf] at h; cases h
  | some e =>
    rw [hf] at h
    have h1 := List.all_eq_true.mp nwT_ok e (List.mem_of_find?_eq_some hf)
    have h2 : e.1 = oc ∧ e.2.1 = idx := by simpa using List.find?_some hf
    cases h
    unfold nwK at h1
    split at h1
    · next C T N hc =>
      simp only [Bool.and_eq_true, decide_eq_true_eq] at h1
      rw [h2.1, h2.2] at h1
      exact ⟨C, T, N, hc, in_g (List.mem_of_getElem? h1.1.1) rfl, in_g (List.mem_of_getElem? h1.1.2) rfl, in_g (List.mem_of_getElem? h1.2) rfl⟩
    · cases h1
theorem anc_ok {oc idx ci t : Nat} (h : anc oc idx = some (ci, t)) : ∃ C : String, Cond.classLink (own oc) idx C ∈ gtbl ∧ ((C = "GiftMatch$Rule" ∧ t = 3) ∨ (C = "GiftMatch$Scene" ∧ t = 4)) := by
  unfold anc at h
  cases hf : anT.find? (fun e => e.1 == oc && e.2.1 == idx) with
  | none => rw [hf] at h; cases h
  | some e =>
    rw [hf] at h
    have h1 := List.all_eq_true.mp anT_ok e (List.mem_of_find?_eq_some hf)
    have h2 : e.1 = oc ∧ e.2.1 = idx := by simpa using List.find?_some hf
    cases h
    unfold anK at h1
    split at h1
    · next C T N hc =>
      simp only [Bool.and_eq_true, decide_eq_true_eq, Bool.or_eq_true] at h1
      rw [h2.1, h2.2] at h1
      refine ⟨C, in_g (List.mem_of_getElem? h1.1.1) rfl, ?_⟩
      rcases h1.2 with ⟨a, b⟩ | ⟨a, b⟩
      · rw [a] at hc; cases hc; exact Or.inl ⟨rfl, b⟩
      · rw [a] at hc; cases hc; exact Or.inr ⟨rfl, b⟩
    · cases h1
end
section
section Sound
variable {p : Program} {l : Launch} {e : Env} {R : Room} {s : State} {m : MethodId} {args : Array Value} {below : List Frame} {meth : Method} {c : Code} {H : Heap} {locs : List Loc} {Q : State → Prop}
variable {mr : MRec} {G : GB} {D : va_G} {tyc : Nat → ClassId} {X : AX} {d : Nat} {pc pc' : Nat} {L L' : AL} {S S' : List AV} {M M' : AM} {cn sn cn' sn' : Nat} {ls : Array Slot}
theorem ofI_ofI8 (n : Int) : (Int8.ofInt n).toInt32 = Int32.ofInt (Int8.ofInt n).toInt := by
  apply Int32.toInt_inj.mp
  have h1 := Int8.minValue_le_toInt (Int8.ofInt n)
  have h2 := Int8.toInt_le (Int8.ofInt n)
  have e1 : Int8.minValue.toInt = -128 := rfl
  have e2 : Int8.maxValue.toInt = 127 := rfl
  rw [Int8.toInt_toInt32, Int32.toInt_ofInt_of_le (by omega) (by omega)]
theorem ofI_ofI16 (n : Int) : (Int16.ofInt n).toInt32 = Int32.ofInt (Int16.ofInt n).toInt := by
  apply Int32.toInt_inj.mp
  have h1 := Int16.minValue_le_toInt (Int16.ofInt n)
  have h2 := Int16.toInt_le (Int16.ofInt n)
  have e1 : Int16.minValue.toInt = -32768 := rfl
  have e2 : Int16.maxValue.toInt = 32767 := rfl
  rw [Int16.toInt_toInt32, Int32.toInt_ofInt_of_le (by omega) (by omega)]
theorem ofI_to (x : Int32) : Int32.ofInt x.toInt = x := Int32.ofInt_toInt x
theorem inA_ok {i : Int} {n : Nat} (h : inA i n = true) : vp_in (Int32.ofInt i) n ∧ (((Int32.ofInt i).toNatClampNeg : Nat) : Int) = i := by
  simp only [inA, decide_eq_true_eq] at h
  have e1 : (Int32.ofInt i).toInt = i := Int32.toInt_ofInt_of_le (by omega) (by omega)
  refine ⟨vp_in_iff.mpr (by rw [e1]; omega), ?_⟩
  rw [Int32.toNatClampNeg, e1]
  omega
theorem okv_ok {ty : FieldType} {v : AV} (h : okv ty v = true) : narrow ty (cV G v) = cV G v ∧ fits ty (cV G v) = true := by
  unfold okv at h
  split at h
  · exact ⟨rfl, rfl⟩
  · next z =>
    simp only [Bool.or_eq_true, beq_iff_eq] at h
    rcases h with rfl | rfl
    · exact ⟨show narrow .boolean (.int 0) = .int 0 by decide +kernel, show fits .boolean (.int 0) = true by decide +kernel⟩
    · exact ⟨show narrow .boolean (.int 1) = .int 1 by decide +kernel, show fits .boolean (.int 1) = true by decide +kernel⟩
  · exact ⟨rfl, rfl⟩
  · exact ⟨rfl, rfl⟩
  · exact ⟨rfl, rfl⟩
  · cases h
theorem jmp_ok {off : Int} {t : Nat} (h : jmp pc off = some t) : (pc : Int) + off = (t : Int) := by
  unfold jmp at h
  split at h
  · cases h; omega
  · cases h
/-- what the interpreter goes on with -/
def KK (p : Program) (l : Launch) (e : Env) (R : Room) (s : State) (m : MethodId) (args : Array Value) (below : List Frame) (meth : Method) (c : Code) (Q : State → Prop) (mr : MRec) (G : GB) (D : va_G) (tyc : Nat → ClassId) (pc : Nat) (L : AL) (S : List AV) (M : AM) (cn sn : Nat) : Prop :=
  ∀ (H : Heap) (locs : List Loc) (ls : Array Slot), HW G D tyc M H → va_S (AB G) s.heap H locs → lh G ls mr.2.2.1 L → W p l e R s m args below meth c H locs cn sn Q (F0 m pc ls (S.map (cV G)))
set_option maxHeartbeats 4000000 in
theorem so_load (C : Cx p R s m args meth c mr G D tyc X d) {ins : Instr} {len : Nat} (hd : decode mr.2.1 pc = .ok (ins, len)) (hlen : lenOK ins len = true)
    (hi : (∃ k, ins = .iload_n k) ∨ (∃ k, ins = .iload k) ∨ (∃ k, ins = .lload_n k) ∨ (∃ k, ins = .lload k) ∨ (∃ k, ins = .aload_n k) ∨ (∃ k, ins = .aload k))
    (h : stp X mr d ins pc L S M cn sn = some (pc', L', S', M', cn', sn')) (hH : HW G D tyc M H) (hS : va_S (AB G) s.heap H locs) (hl : lh G ls mr.2.2.1 L)
    (K : KK p l e R s m args below meth c Q mr G D tyc pc' L' S' M' cn' sn') : W p l e R s m args below meth c H locs cn sn Q (F0 m pc ls (S.map (cV G))) := by
  obtain ⟨hx, hb, -⟩ := C
  rcases hi with ⟨k, rfl⟩ | ⟨k, rfl⟩ | ⟨k, rfl⟩ | ⟨k, rfl⟩ | ⟨k, rfl⟩ | ⟨k, rfl⟩
  all_goals (simp only [lenOK, beq_iff_eq] at hlen; subst hlen)
  all_goals simp only [stp, Option.map_eq_some_iff] at h
  all_goals obtain ⟨v, hv, h⟩ := h
  all_goals simp only [Prod.mk.injEq] at h
  all_goals obtain ⟨rfl, rfl, rfl, rfl, rfl, rfl⟩ := h
  · unfold ldI at hv; split at hv
    · next z hz => cases hv; exact lv_iload_n hx hb hd rfl (hl.2.2 _ _ hz) (K H locs ls hH hS hl)
    · cases hv
  · unfold ldI at hv; split at hv
    · next z hz => cases hv; exact lv_iload hx hb hd (hl.2.2 _ _ hz) (K H locs ls hH hS hl)
    · cases hv
  · unfold ldJ at hv; split at hv
    · next z hz => cases hv; exact lv_lload_n hx hb hd rfl (hl.2.2 _ _ hz) (K H locs ls hH hS hl)
    · cases hv
  · unfold ldJ at hv; split at hv
    · next z hz => cases hv; exact lv_lload hx hb hd (hl.2.2 _ _ hz) (K H locs ls hH hS hl)
    · cases hv
  · unfold ldR at hv; split at hv
    · next z hz => cases hv; exact lv_aload_n hx hb hd rfl (hl.2.2 _ _ hz) (K H locs ls hH hS hl)
    · next z hz =>
      cases hv
      cases z with
      | zero => exact lv_aload_n hx hb hd rfl (hl.2.2 _ _ hz) (K H locs ls hH hS hl)
      | succ z => exact lv_aload_n hx hb hd rfl (hl.2.2 _ _ hz) (K H locs ls hH hS hl)
    · cases hv
  · unfold ldR at hv; split at hv
    · next z hz => cases hv; exact lv_aload hx hb hd (hl.2.2 _ _ hz) (K H locs ls hH hS hl)
    · next z hz =>
      cases hv
      cases z with
      | zero => exact lv_aload hx hb hd (hl.2.2 _ _ hz) (K H locs ls hH hS hl)
      | succ z => exact lv_aload hx hb hd (hl.2.2 _ _ hz) (K H locs ls hH hS hl)
    · cases hv
set_option maxHeartbeats 4000000 in
theorem so_store (C : Cx p R s m args meth c mr G D tyc X d) {ins : Instr} {len : Nat} (hd : decode mr.2.1 pc = .ok (ins, len)) (hlen : lenOK ins len = true)
    (hi : (∃ k, ins = .istore_n k) ∨ (∃ k, ins = .istore k) ∨ (∃ k, ins = .lstore_n k) ∨ (∃ k, ins = .lstore k) ∨ (∃ k, ins = .astore_n k) ∨ (∃ k, ins = .astore k) ∨ (∃ k n, ins = .iinc k n))
    (h : stp X mr d ins pc L S M cn sn = some (pc', L', S', M', cn', sn')) (hH : HW G D tyc M H) (hS : va_S (AB G) s.heap H locs) (hl : lh G ls mr.2.2.1 L)
    (K : KK p l e R s m args below meth c Q mr G D tyc pc' L' S' M' cn' sn') : W p l e R s m args below meth c H locs cn sn Q (F0 m pc ls (S.map (cV G))) := by
  obtain ⟨hx, hb, -⟩ := C
  rcases hi with ⟨k, rfl⟩ | ⟨k, rfl⟩ | ⟨k, rfl⟩ | ⟨k, rfl⟩ | ⟨k, rfl⟩ | ⟨k, rfl⟩ | ⟨k, n, rfl⟩
  all_goals (simp only [lenOK, beq_iff_eq] at hlen; subst hlen)
  all_goals simp only [stp] at h
  all_goals split at h
  all_goals try (cases h; done)
  all_goals split at h
  all_goals try (cases h; done)
  all_goals simp only [Option.some.injEq, Prod.mk.injEq] at h
  all_goals obtain ⟨rfl, rfl, rfl, rfl, rfl, rfl⟩ := h
  · next hk => exact lv_istore_n hx hb hd rfl (lh_has hl) hk rfl (fun ls' hl' => K H locs ls' hH hS (has_lh1 hl'))
  · next hk => exact lv_istore hx hb hd (lh_has hl) hk rfl (fun ls' hl' => K H locs ls' hH hS (has_lh1 hl'))
  · next hk => exact lv_lstore_n hx hb hd rfl (lh_has hl) hk rfl (fun ls' hl' => K H locs ls' hH hS (has_lh2 hl'))
  · next hk => exact lv_lstore hx hb hd (lh_has hl) hk rfl (fun ls' hl' => K H locs ls' hH hS (has_lh2 hl'))
  · next hk => exact lv_astore_n hx hb hd rfl (lh_has hl) hk rfl (fun ls' hl' => K H locs ls' hH hS (has_lh1 hl'))
  · next hk => exact lv_astore hx hb hd (lh_has hl) hk rfl (fun ls' hl' => K H locs ls' hH hS (has_lh1 hl'))
  · next x hx0 hk =>
    obtain ⟨q, hq⟩ := List.getElem?_of_mem (mem_prs (G := G) (L := L) (q := (k, cV G (iv x))) |>.mpr ⟨iv x, hx0, rfl⟩)
    exact lv_iinc (v := Int32.ofInt (x + n)) hx hb hd (lh_has hl) hq (by rw [Int32.ofInt_add]) hk rfl (fun ls' hl' => K H locs ls' hH hS (has_lh1 hl'))
set_option maxHeartbeats 4000000 in
theorem so_const (C : Cx p R s m args meth c mr G D tyc X d) {ins : Instr} {len : Nat} (hd : decode mr.2.1 pc = .ok (ins, len)) (hlen : lenOK ins len = true)
    (hi : (∃ k, ins = .iconst k) ∨ (∃ k, ins = .bipush k) ∨ (∃ k, ins = .sipush k) ∨ (∃ k, ins = .lconst k) ∨ (∃ k, ins = .ldc2_w k))
    (h : stp X mr d ins pc L S M cn sn = some (pc', L', S', M', cn', sn')) (hH : HW G D tyc M H) (hS : va_S (AB G) s.heap H locs) (hl : lh G ls mr.2.2.1 L)
    (K : KK p l e R s m args below meth c Q mr G D tyc pc' L' S' M' cn' sn') : W p l e R s m args below meth c H locs cn sn Q (F0 m pc ls (S.map (cV G))) := by
  obtain ⟨hx, hb, -, hown, hts, -⟩ := C
  rcases hi with ⟨k, rfl⟩ | ⟨k, rfl⟩ | ⟨k, rfl⟩ | ⟨k, rfl⟩ | ⟨k, rfl⟩
  all_goals (simp only [lenOK, beq_iff_eq] at hlen; subst hlen)
  all_goals simp only [stp, Option.map_eq_some_iff, Option.some.injEq, Prod.mk.injEq] at h
  · obtain ⟨rfl, rfl, rfl, rfl, rfl, rfl⟩ := h
    exact lv_iconst hx hb hd rfl (K H locs ls hH hS hl)
  · obtain ⟨rfl, rfl, rfl, rfl, rfl, rfl⟩ := h
    exact lv_bipush hx hb hd (ofI_ofI8 k) (K H locs ls hH hS hl)
  · obtain ⟨rfl, rfl, rfl, rfl, rfl, rfl⟩ := h
    exact lv_sipush hx hb hd (ofI_ofI16 k) (K H locs ls hH hS hl)
  · obtain ⟨rfl, rfl, rfl, rfl, rfl, rfl⟩ := h
    exact lv_lconst hx hb hd rfl (K H locs ls hH hS hl)
  · obtain ⟨v, hv, rfl, rfl, rfl, rfl, rfl, rfl⟩ := h
    exact lv_ldc2 hx hb hown (hts _ (lcn_ok hv)) hd (K H locs ls hH hS hl)
set_option maxHeartbeats 4000000 in
theorem so_arith (C : Cx p R s m args meth c mr G D tyc X d) {ins : Instr} {len : Nat} (hd : decode mr.2.1 pc = .ok (ins, len)) (hlen : lenOK ins len = true)
    (hi : ins = .iadd ∨ ins = .isub ∨ ins = .imul ∨ ins = .idiv ∨ ins = .ineg ∨ ins = .iand ∨ ins = .ladd ∨ ins = .lsub ∨ ins = .lmul ∨ ins = .ldiv ∨ ins = .lor ∨ ins = .lneg ∨ ins = .lshl ∨ ins = .lcmp ∨ ins = .i2l ∨ ins = .l2i)
    (h : stp X mr d ins pc L S M cn sn = some (pc', L', S', M', cn', sn')) (hH : HW G D tyc M H) (hS : va_S (AB G) s.heap H locs) (hl : lh G ls mr.2.2.1 L)
    (K : KK p l e R s m args below meth c Q mr G D tyc pc' L' S' M' cn' sn') : W p l e R s m args below meth c H locs cn sn Q (F0 m pc ls (S.map (cV G))) := by
  obtain ⟨hx, hb, -, hown, hts, -⟩ := C
  rcases hi with rfl | rfl | rfl | rfl | rfl | rfl | rfl | rfl | rfl | rfl | rfl | rfl | rfl | rfl | rfl | rfl
  all_goals (simp only [lenOK, beq_iff_eq] at hlen; subst hlen)
  all_goals simp only [stp] at h
  all_goals split at h
  all_goals try (cases h; done)
  · simp only [Option.some.injEq, Prod.mk.injEq] at h; obtain ⟨rfl, rfl, rfl, rfl, rfl, rfl⟩ := h
    refine lv_iadd hx hb hd ?_
    have := K H locs ls hH hS hl
    simp only [List.map_cons, cV, Int32.ofInt_add] at this
    exact this
  · simp only [Option.some.injEq, Prod.mk.injEq] at h; obtain ⟨rfl, rfl, rfl, rfl, rfl, rfl⟩ := h
    refine lv_isub hx hb hd ?_
    have := K H locs ls hH hS hl
    simp only [List.map_cons, cV, Int32.ofInt_sub] at this
    exact this
  · simp only [Option.some.injEq, Prod.mk.injEq] at h; obtain ⟨rfl, rfl, rfl, rfl, rfl, rfl⟩ := h
    refine lv_imul hx hb hd ?_
    have := K H locs ls hH hS hl
    simp only [List.map_cons, cV, Int32.ofInt_mul] at this
    exact this
  · split at h
    · cases h
    · next hz =>
      simp only [Option.some.injEq, Prod.mk.injEq] at h; obtain ⟨rfl, rfl, rfl, rfl, rfl, rfl⟩ := h
      refine lv_idiv hx hb hd hz ?_
      have := K H locs ls hH hS hl
      simp only [List.map_cons, cV, ofI_to] at this
      exact this
  · simp only [Option.some.injEq, Prod.mk.injEq] at h; obtain ⟨rfl, rfl, rfl, rfl, rfl, rfl⟩ := h
    refine lv_ineg hx hb hd ?_
    have := K H locs ls hH hS hl
    simp only [List.map_cons, cV, Int32.ofInt_neg] at this
    exact this
  · simp only [Option.some.injEq, Prod.mk.injEq] at h; obtain ⟨rfl, rfl, rfl, rfl, rfl, rfl⟩ := h
    refine lv_iand hx hb hd ?_
    have := K H locs ls hH hS hl
    simp only [List.map_cons, cV, ofI_to] at this
    exact this
  · simp only [Option.some.injEq, Prod.mk.injEq] at h; obtain ⟨rfl, rfl, rfl, rfl, rfl, rfl⟩ := h
    exact lv_ladd hx hb hd (K H locs ls hH hS hl)
  · simp only [Option.some.injEq, Prod.mk.injEq] at h; obtain ⟨rfl, rfl, rfl, rfl, rfl, rfl⟩ := h
    exact lv_lsub hx hb hd (K H locs ls hH hS hl)
  · simp only [Option.some.injEq, Prod.mk.injEq] at h; obtain ⟨rfl, rfl, rfl, rfl, rfl, rfl⟩ := h
    exact lv_lmul hx hb hd (K H locs ls hH hS hl)
  · split at h
    · cases h
    · next hz =>
      simp only [Option.some.injEq, Prod.mk.injEq] at h; obtain ⟨rfl, rfl, rfl, rfl, rfl, rfl⟩ := h
      exact lv_ldiv hx hb hd hz (K H locs ls hH hS hl)
  · simp only [Option.some.injEq, Prod.mk.injEq] at h; obtain ⟨rfl, rfl, rfl, rfl, rfl, rfl⟩ := h
    exact lv_lor hx hb hd (K H locs ls hH hS hl)
  · simp only [Option.some.injEq, Prod.mk.injEq] at h; obtain ⟨rfl, rfl, rfl, rfl, rfl, rfl⟩ := h
    exact lv_lneg hx hb hd (K H locs ls hH hS hl)
  · simp only [Option.some.injEq, Prod.mk.injEq] at h; obtain ⟨rfl, rfl, rfl, rfl, rfl, rfl⟩ := h
    exact lv_lshl hx hb hd rfl (K H locs ls hH hS hl)
  · simp only [Option.some.injEq, Prod.mk.injEq] at h; obtain ⟨rfl, rfl, rfl, rfl, rfl, rfl⟩ := h
    refine W.lcmp hx hb hd ?_
    have := K H locs ls hH hS hl
    simp only [List.map_cons, cV, ofI_to] at this
    exact this
  · simp only [Option.some.injEq, Prod.mk.injEq] at h; obtain ⟨rfl, rfl, rfl, rfl, rfl, rfl⟩ := h
    exact lv_i2l hx hb hd rfl (K H locs ls hH hS hl)
  · simp only [Option.some.injEq, Prod.mk.injEq] at h; obtain ⟨rfl, rfl, rfl, rfl, rfl, rfl⟩ := h
    refine lv_l2i hx hb hd rfl ?_
    have := K H locs ls hH hS hl
    simp only [List.map_cons, cV, ofI_to] at this
    exact this
set_option maxHeartbeats 4000000 in
theorem so_jump (C : Cx p R s m args meth c mr G D tyc X d) {ins : Instr} {len : Nat} (hd : decode mr.2.1 pc = .ok (ins, len)) (hlen : lenOK ins len = true)
    (hi : (∃ k, ins = .goto k) ∨ (∃ o k, ins = .ifCond o k) ∨ (∃ o k, ins = .if_icmp o k) ∨ (∃ a b c d, ins = .tableswitch a b c d) ∨ (∃ a b, ins = .lookupswitch a b) ∨ ins = .dup ∨ ins = .dup2 ∨ ins = .pop)
    (h : stp X mr d ins pc L S M cn sn = some (pc', L', S', M', cn', sn')) (hH : HW G D tyc M H) (hS : va_S (AB G) s.heap H locs) (hl : lh G ls mr.2.2.1 L)
    (K : KK p l e R s m args below meth c Q mr G D tyc pc' L' S' M' cn' sn') : W p l e R s m args below meth c H locs cn sn Q (F0 m pc ls (S.map (cV G))) := by
  obtain ⟨hx, hb, -, hown, hts, -⟩ := C
  rcases hi with ⟨k, rfl⟩ | ⟨o, k, rfl⟩ | ⟨o, k, rfl⟩ | ⟨a1, b1, c1, d1, rfl⟩ | ⟨a1, b1, rfl⟩ | rfl | rfl | rfl
  · simp only [lenOK, beq_iff_eq] at hlen; subst hlen
    simp only [stp, Option.map_eq_some_iff] at h
    obtain ⟨t, ht, h⟩ := h
    simp only [Prod.mk.injEq] at h
    obtain ⟨rfl, rfl, rfl, rfl, rfl, rfl⟩ := h
    exact lv_goto hx hb hd (jmp_ok ht) (K H locs ls hH hS hl)
  · simp only [lenOK, beq_iff_eq] at hlen; subst hlen
    simp only [stp] at h
    split at h
    · next x r =>
      simp only [Option.map_eq_some_iff] at h
      obtain ⟨t, ht, h⟩ := h
      simp only [Prod.mk.injEq] at h
      obtain ⟨rfl, rfl, rfl, rfl, rfl, rfl⟩ := h
      have K' := K H locs ls hH hS hl
      have z0 : Int32.ofInt 0 = 0 := rfl
      cases o
      · exact lv_if_eq hx hb hd (jmp_ok ht) (fun n => by rw [if_pos (by simpa [tst, z0] using n)] at K'; exact K') (fun n => by rw [if_neg (by simpa [tst, z0] using n)] at K'; exact K')
      · exact lv_if_ne hx hb hd (jmp_ok ht) (fun n => by rw [if_pos (by simpa [tst, z0] using n)] at K'; exact K') (fun n => by rw [if_neg (by simpa [tst, z0] using n)] at K'; exact K')
      · exact lv_if_lt hx hb hd (jmp_ok ht) (fun n => by rw [if_pos (by simpa [tst, z0] using n)] at K'; exact K') (fun n => by rw [if_neg (by simpa [tst, z0] using n)] at K'; exact K')
      · exact lv_if_ge hx hb hd (jmp_ok ht) (fun n => by rw [if_pos (by simpa [tst, z0] using n)] at K'; exact K') (fun n => by rw [if_neg (by simpa [tst, z0] using n)] at K'; exact K')
      · exact lv_if_gt hx hb hd (jmp_ok ht) (fun n => by rw [if_pos (by simpa [tst, z0] using n)] at K'; exact K') (fun n => by rw [if_neg (by simpa [tst, z0] using n)] at K'; exact K')
      · exact lv_if_le hx hb hd (jmp_ok ht) (fun n => by rw [if_pos (by simpa [tst, z0] using n)] at K'; exact K') (fun n => by rw [if_neg (by simpa [tst, z0] using n)] at K'; exact K')
    · cases h
  · simp only [lenOK, beq_iff_eq] at hlen; subst hlen
    simp only [stp] at h
    split at h
    · next y x r =>
      simp only [Option.map_eq_some_iff] at h
      obtain ⟨t, ht, h⟩ := h
      simp only [Prod.mk.injEq] at h
      obtain ⟨rfl, rfl, rfl, rfl, rfl, rfl⟩ := h
      have K' := K H locs ls hH hS hl
      have z0 : Int32.ofInt 0 = 0 := rfl
      cases o
      · exact lv_icmp_eq hx hb hd (jmp_ok ht) (fun n => by rw [if_pos (by simpa [tst, z0] using n)] at K'; exact K') (fun n => by rw [if_neg (by simpa [tst, z0] using n)] at K'; exact K')
      · exact lv_icmp_ne hx hb hd (jmp_ok ht) (fun n => by rw [if_pos (by simpa [tst, z0] using n)] at K'; exact K') (fun n => by rw [if_neg (by simpa [tst, z0] using n)] at K'; exact K')
      · exact lv_icmp_lt hx hb hd (jmp_ok ht) (fun n => by rw [if_pos (by simpa [tst, z0] using n)] at K'; exact K') (fun n => by rw [if_neg (by simpa [tst, z0] using n)] at K'; exact K')
      · exact lv_icmp_ge hx hb hd (jmp_ok ht) (fun n => by rw [if_pos (by simpa [tst, z0] using n)] at K'; exact K') (fun n => by rw [if_neg (by simpa [tst, z0] using n)] at K'; exact K')
      · exact lv_icmp_gt hx hb hd (jmp_ok ht) (fun n => by rw [if_pos (by simpa [tst, z0] using n)] at K'; exact K') (fun n => by rw [if_neg (by simpa [tst, z0] using n)] at K'; exact K')
      · exact lv_icmp_le hx hb hd (jmp_ok ht) (fun n => by rw [if_pos (by simpa [tst, z0] using n)] at K'; exact K') (fun n => by rw [if_neg (by simpa [tst, z0] using n)] at K'; exact K')
    · cases h
  · simp only [stp] at h
    split at h
    · next x r =>
      split at h
      · next off hoff =>
        simp only [Option.map_eq_some_iff] at h
        obtain ⟨t, ht, h⟩ := h
        simp only [Prod.mk.injEq] at h
        obtain ⟨rfl, rfl, rfl, rfl, rfl, rfl⟩ := h
        unfold swt at hoff
        split at hoff
        · next hr => cases hoff; exact lv_tableOut hx hb hd hr (jmp_ok ht) (K H locs ls hH hS hl)
        · next hr => exact lv_tableIn hx hb hd (fun q => hr (Or.inl q)) (fun q => hr (Or.inr q)) hoff (jmp_ok ht) (K H locs ls hH hS hl)
      · cases h
    · cases h
  · simp only [stp] at h
    split at h
    · next x r =>
      split at h
      · next hp =>
        simp only [Option.map_eq_some_iff] at h
        obtain ⟨t, ht, h⟩ := h
        simp only [Prod.mk.injEq] at h
        obtain ⟨rfl, rfl, rfl, rfl, rfl, rfl⟩ := h
        exact lv_lookup hx hb hd hp rfl (jmp_ok ht) (K H locs ls hH hS hl)
      · cases h
    · cases h
  · simp only [lenOK, beq_iff_eq] at hlen; subst hlen
    simp only [stp] at h
    split at h
    · next v r =>
      split at h
      · next hc =>
        simp only [Option.some.injEq, Prod.mk.injEq] at h; obtain ⟨rfl, rfl, rfl, rfl, rfl, rfl⟩ := h
        exact lv_dup hx hb hd ((cV_cat G v).trans hc) (K H locs ls hH hS hl)
      · cases h
    · cases h
  · simp only [lenOK, beq_iff_eq] at hlen; subst hlen
    simp only [stp] at h
    split at h
    · next v w r =>
      split at h
      · next hc =>
        simp only [Option.some.injEq, Prod.mk.injEq] at h; obtain ⟨rfl, rfl, rfl, rfl, rfl, rfl⟩ := h
        exact lv_dup2_11 hx hb hd ((cV_cat G _).trans hc.1) ((cV_cat G _).trans hc.2) (K H locs ls hH hS hl)
      · cases h
    · cases h
  · simp only [lenOK, beq_iff_eq] at hlen; subst hlen
    simp only [stp] at h
    split at h
    · next v r =>
      split at h
      · next hc =>
        simp only [Option.some.injEq, Prod.mk.injEq] at h; obtain ⟨rfl, rfl, rfl, rfl, rfl, rfl⟩ := h
        exact lv_pop hx hb hd ((cV_cat G v).trans hc) (K H locs ls hH hS hl)
      · cases h
    · cases h
end Sound
end
section
section SoundM
variable {p : Program} {l : Launch} {e : Env} {R : Room} {s : State} {m : MethodId} {args : Array Value} {below : List Frame} {meth : Method} {c : Code} {H : Heap} {locs : List Loc} {Q : State → Prop}
variable {mr : MRec} {G : GB} {D : va_G} {tyc : Nat → ClassId} {X : AX} {d : Nat} {pc pc' : Nat} {L L' : AL} {S S' : List AV} {M M' : AM} {cn sn cn' sn' : Nat} {ls : Array Slot}
theorem cat_sum (G : GB) (r : List AV) : ((r.map (cV G)).map fun v => v.category).sum = (r.map cat).sum := by
  rw [List.map_map]
  congr 1
  apply List.map_congr_left
  intro v _
  exact cV_cat G v
theorem ty_i {t n : Nat} {f : Int → Int} {q : Nat} (h : M[q]? = some (.inl (t, n, .inl f))) : (cW G tyc M)[q]? = some (G.1 + q, .inl (tyc t, n, .inl (fun j : Nat => Int32.ofInt (f j)))) := cW_get h
theorem ty_l {t n : Nat} {f : Int → Int64} {q : Nat} (h : M[q]? = some (.inl (t, n, .inr (.inl f)))) : (cW G tyc M)[q]? = some (G.1 + q, .inl (tyc t, n, .inr (.inl (fun j : Nat => f j)))) := cW_get h
theorem ty_q {t n : Nat} {f : Int → Option Nat} {q : Nat} (h : M[q]? = some (.inl (t, n, .inr (.inr f)))) : (cW G tyc M)[q]? = some (G.1 + q, .inl (tyc t, n, .inr (.inr (.inr (.inr (fun j : Nat => (f j).map (fun k => G.1 + k))))))) := cW_get h
theorem ty_o {ci : Nat} {fs : List AV} {q : Nat} (h : M[q]? = some (.inr (ci, fs))) : (cW G tyc M)[q]? = some (G.1 + q, .inr (ci, fs.map (cV G))) := cW_get h
theorem hw_set {q : Nat} {ee : AE} {H1 : Heap} (hz : H1.size = G.1 + M.length) (h : va_P D clsT ((cW G tyc M).set q (G.1 + q, cE G tyc ee)) H1) : HW G D tyc (M.set q ee) H1 := by
  rw [cW_set] at h
  exact ⟨by rw [List.length_set]; exact hz, h⟩
/-- behind a write the heap is as large as before: nothing of the rest is needed -/
theorem up_i {f : Int → Int} {i x : Int} (h : (((Int32.ofInt i).toNatClampNeg : Nat) : Int) = i) : (upd (fun j : Nat => Int32.ofInt (f j)) (Int32.ofInt i).toNatClampNeg (Int32.ofInt x)) = (fun j : Nat => Int32.ofInt (updA f i x j)) := by
  funext j
  unfold upd updA
  by_cases hj : j = (Int32.ofInt i).toNatClampNeg
  · rw [if_pos hj, if_pos (by rw [hj]; exact h)]
  · rw [if_neg hj, if_neg (by rw [← h]; exact fun q => hj (Int.ofNat.inj q))]
theorem up_l {f : Int → Int64} {i : Int} {x : Int64} (h : (((Int32.ofInt i).toNatClampNeg : Nat) : Int) = i) : (vp_updL (fun j : Nat => f j) (Int32.ofInt i).toNatClampNeg x) = (fun j : Nat => updA f i x j) := by
  funext j
  unfold vp_updL updA
  by_cases hj : j = (Int32.ofInt i).toNatClampNeg
  · rw [if_pos hj, if_pos (by rw [hj]; exact h)]
  · rw [if_neg hj, if_neg (by rw [← h]; exact fun q => hj (Int.ofNat.inj q))]
theorem up_q {f : Int → Option Nat} {i : Int} {v : Nat} (h : (((Int32.ofInt i).toNatClampNeg : Nat) : Int) = i) : (va_up (fun j : Nat => (f j).map (fun k => G.1 + k)) (Int32.ofInt i).toNatClampNeg (some (G.1 + v))) = (fun j : Nat => (updA f i (some v) j).map (fun k => G.1 + k)) := by
  funext j
  unfold va_up updA
  by_cases hj : j = (Int32.ofInt i).toNatClampNeg
  · rw [if_pos hj, if_pos (by rw [hj]; exact h)]; rfl
  · rw [if_neg hj, if_neg (by rw [← h]; exact fun q => hj (Int.ofNat.inj q))]
set_option maxHeartbeats 4000000 in
theorem so_read (C : Cx p R s m args meth c mr G D tyc X d) {ins : Instr} {len : Nat} (hd : decode mr.2.1 pc = .ok (ins, len)) (hlen : lenOK ins len = true)
    (hi : (∃ k, ins = .getfield k) ∨ (∃ k, ins = .getstatic k) ∨ ins = .iaload ∨ ins = .laload ∨ ins = .baload ∨ ins = .aaload ∨ ins = .arraylength)
    (h : stp X mr d ins pc L S M cn sn = some (pc', L', S', M', cn', sn')) (hH : HW G D tyc M H) (hS : va_S (AB G) s.heap H locs) (hl : lh G ls mr.2.2.1 L)
    (K : KK p l e R s m args below meth c Q mr G D tyc pc' L' S' M' cn' sn') : W p l e R s m args below meth c H locs cn sn Q (F0 m pc ls (S.map (cV G))) := by
  obtain ⟨hx, hb, -, hown, hts, ⟨hK, hnest, hao1, hao2, hZ, hT, hX, hsb, hbs, hXl⟩, -⟩ := C
  rcases hi with ⟨k, rfl⟩ | ⟨k, rfl⟩ | rfl | rfl | rfl | rfl | rfl
  all_goals (simp only [lenOK, beq_iff_eq] at hlen; subst hlen)
  all_goals simp only [stp] at h
  · split at h
    · next q r =>
      split at h
      · next ci j hf =>
        split at h
        · next ci' fs hM =>
          split at h
          · next hci =>
            subst hci
            simp only [Option.map_eq_some_iff] at h
            obtain ⟨v, hv, h⟩ := h
            simp only [Prod.mk.injEq] at h
            obtain ⟨rfl, rfl, rfl, rfl, rfl, rfl⟩ := h
            obtain ⟨CC, T, N, hc, hj, hlk, -⟩ := fld_ok hf
            exact va_get (D := D) (ci := ci') (v := cV G v) (C := CC) (T := T) (N := N) hx hb hts (u_in hc).1 hown hK hH.2 q (ty_o hM) hc j hj (hts _ hlk) (fun _ h9 => h9) (by rw [List.getElem?_map, hv]; rfl) hd (K H locs ls hH hS hl)
          · cases h
        · cases h
      · cases h
    · cases h
  · split at h
    · next hk =>
      simp only [Option.some.injEq, Prod.mk.injEq] at h; obtain ⟨rfl, rfl, rfl, rfl, rfl, rfl⟩ := h
      obtain ⟨h9, rfl⟩ := hk
      rw [h9] at hown
      exact va_getsN hx hb hZ hS hown (va_Nw.use rfl (hnest (.fieldLinkNest (own 9) 41 "GiftMatch" "ROOTS" "[I" "GiftMatch") (by decide +kernel))) (fun _ h9 => h9) hd (K H locs ls hH hS hl)
    · cases h
  · split at h
    · next i q r =>
      split at h
      · next n f hM =>
        split at h
        · next hin =>
          simp only [Option.some.injEq, Prod.mk.injEq] at h; obtain ⟨rfl, rfl, rfl, rfl, rfl, rfl⟩ := h
          refine va_iald hx hb hK hH.2 q 0 (ty_i hM) rfl (inA_ok hin).1 hd ?_
          have := K H locs ls hH hS hl
          simp only [(inA_ok hin).2]
          exact this
        · cases h
      · cases h
    · next i r =>
      split at h
      · next hin =>
        simp only [Option.some.injEq, Prod.mk.injEq] at h; obtain ⟨rfl, rfl, rfl, rfl, rfl, rfl⟩ := h
        exact va_ti (v := .int (Int32.ofInt (rootZ i))) hx hb hT hS (inA_ok hin).1 (by simp only [(inA_ok hin).2]) hd (K H locs ls hH hS hl)
      · cases h
    · next i r =>
      split at h
      · next hin =>
        simp only [Option.some.injEq, Prod.mk.injEq] at h; obtain ⟨rfl, rfl, rfl, rfl, rfl, rfl⟩ := h
        refine va_sld hx hb hX (Nat.lt_of_lt_of_le hsb hbs) (Nat.not_le.mpr hsb) hS (inA_ok hin).1 hd ?_
        have := K H locs ls hH hS hl
        simp only [List.map_cons, cV, ofI_to] at this
        have e2 : (Int32.ofInt i).toNatClampNeg = i.toNat := by have := (inA_ok hin).2; omega
        rw [e2]
        exact this
      · cases h
    · cases h
  · split at h
    · next i q r =>
      split at h
      · next n f hM =>
        split at h
        · next hin =>
          simp only [Option.some.injEq, Prod.mk.injEq] at h; obtain ⟨rfl, rfl, rfl, rfl, rfl, rfl⟩ := h
          refine va_lald hx hb hK hH.2 q 1 (ty_l hM) rfl (inA_ok hin).1 hd ?_
          have := K H locs ls hH hS hl
          simp only [(inA_ok hin).2]
          exact this
        · cases h
      · cases h
    · cases h
  · split at h
    · next i q r =>
      split at h
      · next n f hM =>
        split at h
        · next hin =>
          simp only [Option.some.injEq, Prod.mk.injEq] at h; obtain ⟨rfl, rfl, rfl, rfl, rfl, rfl⟩ := h
          refine va_zald hx hb hK hH.2 q 2 (ty_i hM) rfl (inA_ok hin).1 hd ?_
          have := K H locs ls hH hS hl
          simp only [(inA_ok hin).2]
          exact this
        · cases h
      · cases h
    · cases h
  · split at h
    · next i q r =>
      split at h
      · next t n f hM =>
        split at h
        · next hin =>
          simp only [Option.map_eq_some_iff] at h
          obtain ⟨v, hv, h⟩ := h
          simp only [Prod.mk.injEq] at h
          obtain ⟨rfl, rfl, rfl, rfl, rfl, rfl⟩ := h
          have := K H locs ls hH hS hl
          rcases hin.2 with rfl | rfl
          · refine va_aldq hx hb hK hH.2 q 3 (ty_q hM) rfl (inA_ok hin.1).1 hd ?_
            simp only [(inA_ok hin.1).2, hv]
            exact this
          · refine va_aldq hx hb hK hH.2 q 4 (ty_q hM) rfl (inA_ok hin.1).1 hd ?_
            simp only [(inA_ok hin.1).2, hv]
            exact this
        · cases h
      · cases h
    · cases h
  · split at h
    · next r =>
      simp only [Option.some.injEq, Prod.mk.injEq] at h; obtain ⟨rfl, rfl, rfl, rfl, rfl, rfl⟩ := h
      refine va_slen hx hb hX (Nat.lt_of_lt_of_le hsb hbs) (Nat.not_le.mpr hsb) hS hd ?_
      have := K H locs ls hH hS hl
      simp only [List.map_cons, cV, ofI_to] at this
      exact this
    · cases h
end SoundM
end
section
section SoundW
variable {p : Program} {l : Launch} {e : Env} {R : Room} {s : State} {m : MethodId} {args : Array Value} {below : List Frame} {meth : Method} {c : Code} {H : Heap} {locs : List Loc} {Q : State → Prop}
variable {mr : MRec} {G : GB} {D : va_G} {tyc : Nat → ClassId} {X : AX} {d : Nat} {pc pc' : Nat} {L L' : AL} {S S' : List AV} {M M' : AM} {cn sn cn' sn' : Nat} {ls : Array Slot}
theorem W_size {g : JFrame} (k : H.size ≤ s.heap.size + cn → W p l e R s m args below meth c H locs cn sn Q g) : W p l e R s m args below meth c H locs cn sn Q g := by
  intro T hT X
  have h := X.same.2.2.1
  have e : (T.setVm s.vm).heap = H := hT
  rw [e] at h
  exact k h T hT X
theorem hw_up {q : Nat} {ee e0 : AE} {H1 : Heap} (hq : M[q]? = some e0) (hz : s.heap.size + cn = G.1 + M.length) (h9 : H1.size ≤ s.heap.size + cn) (h : va_P D clsT ((cW G tyc M).set q (G.1 + q, cE G tyc ee)) H1) : HW G D tyc (M.set q ee) H1 := by
  rw [cW_set] at h
  refine ⟨?_, h⟩
  rw [List.length_set]
  have hl : 0 < M.length := Nat.lt_of_le_of_lt (Nat.zero_le _) (List.getElem?_eq_some_iff.mp hq).1
  have h1 : M.length - 1 < (M.set q ee).length := by rw [List.length_set]; omega
  have h2 := (h (M.length - 1) _ (cW_get (List.getElem?_eq_getElem h1))).lt
  simp only at h2
  omega
set_option maxHeartbeats 4000000 in
theorem so_write (C : Cx p R s m args meth c mr G D tyc X d) {ins : Instr} {len : Nat} (hd : decode mr.2.1 pc = .ok (ins, len)) (hlen : lenOK ins len = true) (hz : s.heap.size + cn = G.1 + M.length)
    (hi : (∃ k, ins = .putfield k) ∨ ins = .iastore ∨ ins = .lastore ∨ ins = .bastore ∨ ins = .aastore ∨ (∃ k, ins = .invokespecial k) ∨ (∃ k, ins = .invokestatic k))
    (h : stp X mr d ins pc L S M cn sn = some (pc', L', S', M', cn', sn')) (hH : HW G D tyc M H) (hS : va_S (AB G) s.heap H locs) (hl : lh G ls mr.2.2.1 L)
    (K : KK p l e R s m args below meth c Q mr G D tyc pc' L' S' M' cn' sn') : W p l e R s m args below meth c H locs cn sn Q (F0 m pc ls (S.map (cV G))) := by
  obtain ⟨hx, hb, hml, hown, hts, ⟨hK, hnest, hao1, hao2, hZ, hT, hX, hsb, hbs, hXl⟩, hnm, hfr, hlo, hmc, hms⟩ := C
  rcases hi with ⟨k, rfl⟩ | rfl | rfl | rfl | rfl | ⟨k, rfl⟩ | ⟨k, rfl⟩
  all_goals (simp only [lenOK, beq_iff_eq] at hlen; subst hlen)
  all_goals simp only [stp] at h
  · split at h
    · next v q r =>
      split at h
      · next ci j hf =>
        split at h
        · next ci' fs hM =>
          split at h
          · next hc0 =>
            obtain ⟨rfl, hj2, hok, hfin⟩ := hc0
            simp only [Option.some.injEq, Prod.mk.injEq] at h; obtain ⟨rfl, rfl, rfl, rfl, rfl, rfl⟩ := h
            obtain ⟨CC, T, N, hc, hj, hlk, hpd⟩ := fld_ok hf
            have hu := u_in hc
            have hE : (G.1 + q, Sum.inr (ci', (fs.map (cV G)).set j (cV G v))) = ((G.1 + q, cE G tyc (.inr (ci', fs.set j v))) : Nat × va_E) := by
              simp only [cE, List.map_set]
            cases hf2 : (T j).2.2.2 with
            | false =>
              refine va_put (D := D) (ci := ci') (v := cV G v) (ty := tyT ci' j) (C := CC) (T := T) (N := N) hx hb hts hu.1 (tyT ci') hu.2.1 hu.2.2 hown hK hH.2 cW_D hS q (ty_o hM) hc j hj (hts _ hlk) (fun _ h9 => h9) hf2 hpd (okv_ok hok).1 (okv_ok hok).2 (by rw [List.length_map]; exact hj2) hd (fun H1 locs1 hP1 _ hS1 => ?_)
              rw [hE] at hP1
              exact W_size fun h9 => K H1 locs1 ls (hw_up hM hz h9 hP1) hS1 hl
            | true =>
              have hfn := hfin (by unfold finT; rw [hc]; exact hf2)
              have hdc : (T j).1 = own mr.2.2.2.2.2.2 := by rw [← hfn.2]; unfold decT; rw [hc]
              refine va_putF (D := D) (ci := ci') (v := cV G v) (ty := tyT ci' j) (C := CC) (T := T) (N := N) hx hb hts hu.1 (tyT ci') hu.2.1 hu.2.2 hown hK hH.2 cW_D hS q (ty_o hM) hc j hj (hts _ hlk) (fun _ h9 => h9) hf2 (hnm hfn.1) hdc hpd (okv_ok hok).1 (okv_ok hok).2 (by rw [List.length_map]; exact hj2) hd (fun H1 locs1 hP1 _ hS1 => ?_)
              rw [hE] at hP1
              exact W_size fun h9 => K H1 locs1 ls (hw_up hM hz h9 hP1) hS1 hl
          · cases h
        · cases h
      · cases h
    · cases h
  · split at h
    · next x i q r =>
      split at h
      · next n f hM =>
        split at h
        · next hin =>
          simp only [Option.some.injEq, Prod.mk.injEq] at h; obtain ⟨rfl, rfl, rfl, rfl, rfl, rfl⟩ := h
          refine va_iast hx hb hK hH.2 cW_D hS q 0 (ty_i hM) rfl (inA_ok hin).1 hd (fun H1 locs1 hP1 _ hS1 => ?_)
          rw [up_i (inA_ok hin).2] at hP1
          exact W_size fun h9 => K H1 locs1 ls (hw_up hM hz h9 hP1) hS1 hl
        · cases h
      · cases h
    · cases h
  · split at h
    · next x i q r =>
      split at h
      · next n f hM =>
        split at h
        · next hin =>
          simp only [Option.some.injEq, Prod.mk.injEq] at h; obtain ⟨rfl, rfl, rfl, rfl, rfl, rfl⟩ := h
          refine va_last hx hb hK hH.2 cW_D hS q 1 (ty_l hM) rfl (inA_ok hin).1 hd (fun H1 locs1 hP1 _ hS1 => ?_)
          rw [up_l (inA_ok hin).2] at hP1
          exact W_size fun h9 => K H1 locs1 ls (hw_up hM hz h9 hP1) hS1 hl
        · cases h
      · cases h
    · cases h
  · split at h
    · next x i q r =>
      split at h
      · next n f hM =>
        split at h
        · next hin =>
          simp only [Option.some.injEq, Prod.mk.injEq] at h; obtain ⟨rfl, rfl, rfl, rfl, rfl, rfl⟩ := h
          refine va_zast hx hb hK hH.2 cW_D hS q 2 (ty_i hM) rfl (inA_ok hin.1).1 hd (fun H1 locs1 hP1 _ hS1 => ?_)
          have e0 : vp_nar .boolean (Int32.ofInt x) = Int32.ofInt x := by rcases hin.2 with rfl | rfl <;> decide +kernel
          rw [e0, up_i (inA_ok hin.1).2] at hP1
          exact W_size fun h9 => K H1 locs1 ls (hw_up hM hz h9 hP1) hS1 hl
        · cases h
      · cases h
    · cases h
  · split at h
    · next v i q r =>
      split at h
      · next t n f ci fs hM hM2 =>
        split at h
        · next hin =>
          simp only [Option.some.injEq, Prod.mk.injEq] at h; obtain ⟨rfl, rfl, rfl, rfl, rfl, rfl⟩ := h
          rcases hin.2 with ⟨rfl, rfl⟩ | ⟨rfl, rfl⟩
          · refine va_astq (r := (RX7, TX7, 5)) hx hb hK hH.2 cW_D hS q 3 v 7 (ty_q hM) rfl (ty_o hM2) rfl (inA_ok hin.1).1 hd (fun H1 locs1 hP1 _ hS1 => ?_)
            rw [up_q (inA_ok hin.1).2] at hP1
            exact W_size fun h9 => K H1 locs1 ls (hw_up hM hz h9 hP1) hS1 hl
          · refine va_astq (r := (RX8, TX8, 12)) hx hb hK hH.2 cW_D hS q 4 v 8 (ty_q hM) rfl (ty_o hM2) rfl (inA_ok hin.1).1 hd (fun H1 locs1 hP1 _ hS1 => ?_)
            rw [up_q (inA_ok hin.1).2] at hP1
            exact W_size fun h9 => K H1 locs1 ls (hw_up hM hz h9 hP1) hS1 hl
        · cases h
      · cases h
    · cases h
  · split at h
    · next q r =>
      split at h
      · next z hsp =>
        split at h
        · next hc0 =>
          simp only [Option.some.injEq, Prod.mk.injEq] at h; obtain ⟨rfl, rfl, rfl, rfl, rfl, rfl⟩ := h
          have hlk : Cond.methodLink (own mr.2.2.2.2.2.2) k objectInit ∈ gtbl := sp_ok hsp
          exact W.objInit hx hb hown (hts _ hlk) (hts _ (in_g w_oi rfl)) (hts _ (in_g w_oc rfl)) rfl (by rw [hml]; exact hl.1) rfl hd (by omega) (by
            show 2 * 0 + ((r.map (cV G)).map fun v => v.category).sum + 12 ≤ R.locals
            rw [cat_sum]
            omega) (K H locs ls hH hS hl)
        · cases h
      · cases h
    · cases h
  · split at h
    · next z hsp =>
      split at h
      · next y x r =>
        split at h
        · next hc0 =>
          simp only [Option.some.injEq, Prod.mk.injEq] at h; obtain ⟨rfl, rfl, rfl, rfl, rfl, rfl⟩ := h
          obtain ⟨z1, z2, z3, z4⟩ := hc0
          refine va_mmax hx hb (by rw [hml]; exact hl.1.symm) hown (hts _ (sp_ok hsp)) (hts _ (in_g w_smax rfl)) (hts _ (in_g w_mi rfl)) (hts _ (in_g w_cmax rfl)) (by omega) (by rw [cat_sum]; omega) (by omega) (by omega) hd ?_
          have := K H locs ls hH hS hl
          simp only [List.map_cons, cV, apply_ite Int32.ofInt] at this
          exact this
        · cases h
      · cases h
    · next z hsp =>
      split at h
      · next y x r =>
        split at h
        · next hc0 =>
          simp only [Option.some.injEq, Prod.mk.injEq] at h; obtain ⟨rfl, rfl, rfl, rfl, rfl, rfl⟩ := h
          obtain ⟨z1, z2, z3, z4⟩ := hc0
          refine va_mmin hx hb (by rw [hml]; exact hl.1.symm) hown (hts _ (sp_ok hsp)) (hts _ (in_g w_smin rfl)) (hts _ (in_g w_mi rfl)) (hts _ (in_g w_cmin rfl)) (by omega) (by rw [cat_sum]; omega) (by omega) (by omega) hd ?_
          have := K H locs ls hH hS hl
          simp only [List.map_cons, cV, apply_ite Int32.ofInt] at this
          exact this
        · cases h
      · cases h
    · next z hsp =>
      split at h
      · next y x r =>
        split at h
        · next hc0 =>
          simp only [Option.some.injEq, Prod.mk.injEq] at h; obtain ⟨rfl, rfl, rfl, rfl, rfl, rfl⟩ := h
          obtain ⟨z1, z2, z3, z4⟩ := hc0
          refine va_mmax_long hx hb (by rw [hml]; exact hl.1.symm) hown (hts _ (sp_ok hsp)) (hts _ (in_g w_smaxl rfl)) (hts _ (in_g w_mi rfl)) (hts _ (in_g w_cmaxl rfl)) (by omega) (by rw [cat_sum]; omega) (by omega) (by omega) hd ?_
          have := K H locs ls hH hS hl
          simp only [List.map_cons, cV] at this
          exact this
        · cases h
      · cases h
    · next z hsp =>
      split at h
      · next y x r =>
        split at h
        · next hc0 =>
          simp only [Option.some.injEq, Prod.mk.injEq] at h; obtain ⟨rfl, rfl, rfl, rfl, rfl, rfl⟩ := h
          obtain ⟨z1, z2, z3, z4⟩ := hc0
          refine va_mmin_long hx hb (by rw [hml]; exact hl.1.symm) hown (hts _ (sp_ok hsp)) (hts _ (in_g w_sminl rfl)) (hts _ (in_g w_mi rfl)) (hts _ (in_g w_cminl rfl)) (by omega) (by rw [cat_sum]; omega) (by omega) (by omega) hd ?_
          have := K H locs ls hH hS hl
          simp only [List.map_cons, cV] at this
          exact this
        · cases h
      · cases h
    · next z hsp =>
      split at h
      · next n dp q sp0 q0 r =>
        split at h
        · next n0 f n1 g hM0 hM1 =>
          split at h
          · next hc0 =>
            simp only [Option.some.injEq, Prod.mk.injEq] at h; obtain ⟨rfl, rfl, rfl, rfl, rfl, rfl⟩ := h
            obtain ⟨z1, z2, z3, z4, z5, z6, z7, z8, z9⟩ := hc0
            have hlk : Cond.methodLink (own mr.2.2.2.2.2.2) k arraycopyName ∈ gtbl := sp_ok hsp
            have tI : ∀ x : Int, 0 ≤ x → x < 2147483648 → (Int32.ofInt x).toInt = x := fun x a b => Int32.toInt_ofInt_of_le (by omega) (by omega)
            have tN : ∀ x : Int, 0 ≤ x → x < 2147483648 → (((Int32.ofInt x).toNatClampNeg : Nat) : Int) = x := fun x a b => by rw [Int32.toNatClampNeg, tI x a b]; omega
            have tL : ∀ x : Int, 0 ≤ x → x < 2147483648 → ¬ Int32.ofInt x < 0 := fun x a b q => by
              rw [Int32.lt_iff_toInt_lt, tI x a b] at q
              simp at q
              omega
            have t1 := tN n z1 (by omega)
            have t2 := tN dp z2 (by omega)
            have t3 := tN sp0 z3 (by omega)
            refine va_copyi (ty := .int) hx hb (by rw [hml]; exact hl.1.symm) hown (hts _ hlk) (hts _ (in_g w_acn rfl)) (hts _ (in_g w_acs rfl)) (hts _ (in_g w_aci rfl)) hK hH.2 cW_D hS q0 q 0 0 (ty_i hM0) (ty_i hM1) rfl rfl rfl (tL _ z3 (by omega)) (tL _ z2 (by omega)) (tL _ z1 (by omega)) (by omega) (by omega) (fun _ _ => rfl) (by omega) (by
              rw [cat_sum]
              have : nativeFrameWords "java/lang/System" "arraycopy" 5 + 11 ≤ 33 := by decide +kernel
              omega) hd (fun H1 locs1 hP1 _ hS1 => ?_)
            have e5 : va_cpy (fun j : Nat => Int32.ofInt (f j)) (fun j : Nat => Int32.ofInt (g j)) (Int32.ofInt sp0).toNatClampNeg (Int32.ofInt dp).toNatClampNeg (Int32.ofInt n).toNatClampNeg = (fun j : Nat => Int32.ofInt (cpyA f g sp0 dp n j)) := by
              funext j
              unfold va_cpy cpyA
              by_cases hj : (Int32.ofInt dp).toNatClampNeg ≤ j ∧ j < (Int32.ofInt dp).toNatClampNeg + (Int32.ofInt n).toNatClampNeg
              · rw [if_pos hj, if_pos (by omega)]
                have e6 : (((Int32.ofInt sp0).toNatClampNeg + (j - (Int32.ofInt dp).toNatClampNeg) : Nat) : Int) = sp0 + ((j : Int) - dp) := by omega
                show Int32.ofInt (f (((Int32.ofInt sp0).toNatClampNeg + (j - (Int32.ofInt dp).toNatClampNeg) : Nat) : Int)) = _
                rw [e6]
              · rw [if_neg hj, if_neg (by omega)]
            rw [e5] at hP1
            exact W_size fun h9 => K H1 locs1 ls (hw_up hM1 hz h9 hP1) hS1 hl
          · cases h
        · cases h
      · cases h
    · cases h
end SoundW
end
section
section SoundN
variable {p : Program} {l : Launch} {e : Env} {R : Room} {s : State} {m : MethodId} {args : Array Value} {below : List Frame} {meth : Method} {c : Code} {H : Heap} {locs : List Loc} {Q : State → Prop}
variable {mr : MRec} {G : GB} {D : va_G} {tyc : Nat → ClassId} {X : AX} {d : Nat} {pc pc' : Nat} {L L' : AL} {S S' : List AV} {M M' : AM} {cn sn cn' sn' : Nat} {ls : Array Slot}
theorem hw_new {ee : AE} {H1 : Heap} (hH : HW G D tyc M H) (z1 : H1.size = H.size + 1) (o1 : ∀ q : Nat, q < H.size → H1[q]? = H[q]?) (ha : va_at D clsT (G.1 + M.length, cE G tyc ee) H1) : HW G D tyc (M ++ [ee]) H1 := by
  refine ⟨by rw [z1, hH.1, List.length_append]; rfl, ?_⟩
  rw [cW_app]
  refine va_P.app (fun k x hx => (hH.2 k x hx).kept (o1 _ (hH.2 k x hx).lt)) (fun k x hx => ?_)
  have hz : k < 1 := (List.getElem?_eq_some_iff.mp hx).1
  rw [show k = 0 by omega] at hx
  cases hx
  exact ha
theorem s_new {H1 : Heap} (hS : va_S (AB G) s.heap H locs) (z1 : H1.size = H.size + 1) (o1 : ∀ q : Nat, q < H.size → H1[q]? = H[q]?) : va_S (AB G) s.heap H1 locs :=
  ⟨Nat.le_trans hS.1 (by omega), fun x h1 h2 => (o1 x (Nat.lt_of_lt_of_le h1 hS.1)).trans (hS.2.1 x h1 h2), hS.2.2⟩
theorem dfl_ok (ty : FieldType) : (∃ z, ty = .byte ∨ ty = .char ∨ ty = .short ∨ ty = .float ∨ ty = .double ∨ z = 0) ∨ cV G (dflV ty) = defaultValue ty := by
  cases ty <;> first | exact Or.inr rfl | exact Or.inl ⟨0, by simp⟩
def tyOK (ty : FieldType) : Bool := match ty with
  | .int | .boolean | .long | .object _ | .array _ => true
  | _ => false
theorem dfl_eq {ty : FieldType} (h : tyOK ty = true) : cV G (dflV ty) = defaultValue ty := by
  cases ty <;> first | rfl | (simp [tyOK] at h)
theorem tyT_ok : ∀ ci, ci < 12 → ∀ j, j < fszT ci → tyOK (tyT ci j) = true := by decide +kernel
set_option maxHeartbeats 4000000 in
theorem so_new (C : Cx p R s m args meth c mr G D tyc X d) {ins : Instr} {len : Nat} (hd : decode mr.2.1 pc = .ok (ins, len)) (hlen : lenOK ins len = true)
    (hi : (∃ k, ins = .newarray k) ∨ (∃ k, ins = .anewarray k) ∨ (∃ k, ins = .new k))
    (h : stp X mr d ins pc L S M cn sn = some (pc', L', S', M', cn', sn')) (hH : HW G D tyc M H) (hS : va_S (AB G) s.heap H locs) (hl : lh G ls mr.2.2.1 L)
    (K : KK p l e R s m args below meth c Q mr G D tyc pc' L' S' M' cn' sn') : W p l e R s m args below meth c H locs cn sn Q (F0 m pc ls (S.map (cV G))) := by
  obtain ⟨hx, hb, hml, hown, hts, ⟨hK, hnest, hao1, hao2, hZ, hT, hX, hsb, hbs, hXl⟩, hnm, hfr, hlo, hmc, hms⟩ := C
  have tL : ∀ x : Int, 0 ≤ x → x ≤ 100000 → ¬ Int32.ofInt x < 0 ∧ (Int32.ofInt x).toNatClampNeg = x.toNat := fun x a b => by
    have e1 : (Int32.ofInt x).toInt = x := Int32.toInt_ofInt_of_le (by omega) (by omega)
    refine ⟨fun q => ?_, by rw [Int32.toNatClampNeg, e1]⟩
    rw [Int32.lt_iff_toInt_lt, e1] at q
    simp at q
    omega
  rcases hi with ⟨k, rfl⟩ | ⟨k, rfl⟩ | ⟨k, rfl⟩
  all_goals (simp only [lenOK, beq_iff_eq] at hlen; subst hlen)
  all_goals simp only [stp] at h
  · split at h
    · next n r =>
      split at h
      · next hc0 =>
        obtain ⟨z1, z2, z3, z4⟩ := hc0
        obtain ⟨t1, t2⟩ := tL n z1 z2
        cases k <;> simp only at h
        all_goals try (cases h; done)
        · simp only [Option.some.injEq, Prod.mk.injEq] at h; obtain ⟨rfl, rfl, rfl, rfl, rfl, rfl⟩ := h
          refine va_newaK (atype := .boolean) hx hb (hts _ (in_g w_aZ rfl)) rfl hd rfl t1 t2 (by show n.toNat * 1 ≤ _; omega) (by omega) (by omega) rfl fun H1 cA e1 z1 o1 hAr hNm => ?_
          have hcA : cA = tyc 2 := Option.some.inj (hNm.symm.trans (hK.2 2 _ rfl).2)
          subst hcA
          rw [hH.1]
          exact K H1 locs ls (hw_new hH z1 o1 (by rw [← hH.1]; exact e1)) (s_new hS z1 o1) hl
        · simp only [Option.some.injEq, Prod.mk.injEq] at h; obtain ⟨rfl, rfl, rfl, rfl, rfl, rfl⟩ := h
          refine va_newaK (atype := .int) hx hb (hts _ (in_g w_aI rfl)) rfl hd rfl t1 t2 (by show n.toNat * 4 ≤ _; omega) (by omega) (by omega) rfl fun H1 cA e1 z1 o1 hAr hNm => ?_
          have hcA : cA = tyc 0 := Option.some.inj (hNm.symm.trans (hK.2 0 _ rfl).2)
          subst hcA
          rw [hH.1]
          exact K H1 locs ls (hw_new hH z1 o1 (by rw [← hH.1]; exact e1)) (s_new hS z1 o1) hl
        · simp only [Option.some.injEq, Prod.mk.injEq] at h; obtain ⟨rfl, rfl, rfl, rfl, rfl, rfl⟩ := h
          refine va_newaK (atype := .long) hx hb (hts _ (in_g w_aJ rfl)) rfl hd rfl t1 t2 (by show n.toNat * 8 ≤ _; omega) (by omega) (by omega) rfl fun H1 cA e1 z1 o1 hAr hNm => ?_
          have hcA : cA = tyc 1 := Option.some.inj (hNm.symm.trans (hK.2 1 _ rfl).2)
          subst hcA
          rw [hH.1]
          exact K H1 locs ls (hw_new hH z1 o1 (by rw [← hH.1]; exact e1)) (s_new hS z1 o1) hl
      · cases h
    · cases h
  · split at h
    · next n r =>
      split at h
      · next ci t han =>
        split at h
        · next hc0 =>
          obtain ⟨z1, z2, z3, z4⟩ := hc0
          obtain ⟨t1, t2⟩ := tL n z1 z2
          simp only [Option.some.injEq, Prod.mk.injEq] at h; obtain ⟨rfl, rfl, rfl, rfl, rfl, rfl⟩ := h
          obtain ⟨CC, hlk, hCC⟩ := anc_ok han
          have key : ∀ (tt : Nat) (cl : String), (tysOf tyc)[tt]? = some (tyc tt, .object cl) → CC = cl → t = tt → va_AO cl s → W p l e R s m args below meth c H locs cn sn Q (F0 m pc ls ((iv n :: r).map (cV G))) := by
            intro tt cl htt e1 e2 hao
            subst e1
            subst e2
            refine W.anew hx hb hown (hts _ hlk) (va_AO.use hao) rfl hd rfl t1 (by rw [t2]; omega) (by omega) (by rw [t2]; omega) fun cA kA comp f1 f2 f3 f4 => ?_
            obtain ⟨-, -, -, -, -, hfc⟩ := (hK.2 t _ htt).2
            have hcA : cA = tyc t := Option.some.inj (f1.symm.trans hfc)
            subst hcA
            have z9 : (H.push ({ cls := tyc t, slots := Array.replicate (Int32.ofInt n).toNatClampNeg .null, vm := .none } : Cell)).size = H.size + 1 := by rw [Array.size_push]
            have o9 : ∀ q : Nat, q < H.size → (H.push ({ cls := tyc t, slots := Array.replicate (Int32.ofInt n).toNatClampNeg .null, vm := .none } : Cell))[q]? = H[q]? := fun q hq => by rw [Array.getElem?_push, if_neg (Nat.ne_of_lt hq)]
            have e9 : (H.push ({ cls := tyc t, slots := Array.replicate (Int32.ofInt n).toNatClampNeg .null, vm := .none } : Cell))[H.size]? = some (arrV (tyc t) n.toNat (fun _ => .null)) := by rw [Array.getElem?_push_size, ← arrV_new, t2]
            have := K _ locs ls (hw_new (ee := .inl (t, n.toNat, .inr (.inr (fun _ => none)))) hH z9 o9 (by rw [← hH.1]; exact e9)) (s_new hS z9 o9) hl
            rw [t2] at this ⊢
            rw [hH.1]
            exact this
          rcases hCC with ⟨e1, e2⟩ | ⟨e1, e2⟩
          · exact key 3 "GiftMatch$Rule" rfl e1 e2 hao1
          · exact key 4 "GiftMatch$Scene" rfl e1 e2 hao2
        · cases h
      · cases h
    · cases h
  · split at h
    · next ci hnw =>
      split at h
      · next hc0 =>
        obtain ⟨z3, z4⟩ := hc0
        simp only [Option.some.injEq, Prod.mk.injEq] at h; obtain ⟨rfl, rfl, rfl, rfl, rfl, rfl⟩ := h
        obtain ⟨CC, T, N, hc, hlk, hin, hii⟩ := nwc_ok hnw
        have hN : fszT ci = N := by unfold fszT; rw [hc]
        have hKn := hK.1 ci _ hc
        have hu := u_in hc
        have hci : ci < 12 := (List.getElem?_eq_some_iff.mp hc).1
        rw [hN] at z4
        refine W.newcK hx hb hown (hts _ hlk) (hts _ hin) (hts _ hii) rfl hd (by omega) (by omega) hKn.2.1 rfl fun H1 kC hkC e1 z1 o1 => ?_
        have hat : va_at D clsT (G.1 + M.length, cE G tyc (.inr (ci, dfl ci))) H1 := by
          rw [← hH.1]
          refine ⟨_, hc, (u_born (tyT ci) hts hu.1 hKn hkC e1 hu.2.1).to (fun j hj => ?_)⟩
          have hj2 : j < fszT ci := by rw [hN]; exact hj
          rw [← dfl_eq (G := G) (tyT_ok ci hci j hj2)]
          unfold vp_V dfl
          rw [List.getD_eq_getElem?_getD, List.getElem?_map, List.getElem?_map, List.getElem?_range hj2]
          rfl
        have := K H1 locs ls (hw_new hH z1 o1 hat) (s_new hS z1 o1) hl
        rw [hN] at this
        rw [hH.1]
        exact this
      · cases h
    · cases h
end SoundN
end
section
section SoundR
variable {p : Program} {l : Launch} {e : Env} {R : Room} {s : State} {m : MethodId} {args : Array Value} {below : List Frame} {meth : Method} {c : Code} {H : Heap} {locs : List Loc} {Q : State → Prop}
variable {mr : MRec} {G : GB} {D : va_G} {tyc : Nat → ClassId} {X : AX} {d : Nat} {pc pc' : Nat} {L L' : AL} {S S' : List AV} {M M' : AM} {cn sn cn' sn' : Nat} {ls : Array Slot}
set_option maxHeartbeats 4000000 in
theorem stp_sound (C : Cx p R s m args meth c mr G D tyc X d) {ins : Instr} {len : Nat} (hd : decode mr.2.1 pc = .ok (ins, len)) (hlen : lenOK ins len = true) (hz : s.heap.size + cn = G.1 + M.length)
    (h : stp X mr d ins pc L S M cn sn = some (pc', L', S', M', cn', sn')) (hH : HW G D tyc M H) (hS : va_S (AB G) s.heap H locs) (hl : lh G ls mr.2.2.1 L)
    (K : KK p l e R s m args below meth c Q mr G D tyc pc' L' S' M' cn' sn') : W p l e R s m args below meth c H locs cn sn Q (F0 m pc ls (S.map (cV G))) := by
  cases ins
  all_goals first
    | (simp only [stp] at h; cases h; done)
    | (refine so_load C hd hlen ?_ h hH hS hl K; simp; done)
    | (refine so_store C hd hlen ?_ h hH hS hl K; simp; done)
    | (refine so_const C hd hlen ?_ h hH hS hl K; simp; done)
    | (refine so_arith C hd hlen ?_ h hH hS hl K; simp; done)
    | (refine so_jump C hd hlen ?_ h hH hS hl K; simp; done)
    | (refine so_read C hd hlen ?_ h hH hS hl K; simp; done)
    | (refine so_write C hd hlen hz ?_ h hH hS hl K; simp; done)
    | (refine so_new C hd hlen ?_ h hH hS hl K; simp; done)
set_option maxHeartbeats 4000000 in
theorem stp_len {ins : Instr} (h : stp X mr d ins pc L S M cn sn = some (pc', L', S', M', cn', sn')) : cn' + M.length = cn + M'.length := by
  unfold stp at h
  repeat' split at h
  all_goals first
    | (cases h; done)
    | (cases h; first | rfl | (simp only [List.length_set]; done) | (simp only [List.length_append, List.length_cons, List.length_nil]; omega))
    | (simp only [Option.map_eq_some_iff] at h; obtain ⟨_, _, h⟩ := h; cases h; rfl)
theorem run_len : ∀ (n : Nat) {d : Nat} {mr : MRec} {pc : Nat} {L : AL} {S : List AV} {M : AM} {cn sn : Nat} {v : Option AV} {M' : AM}, run X n d mr pc L S M cn sn = some (v, M') → mr.2.2.2.2.1 + M.length = cn + M'.length := by
  intro n
  induction n with
  | zero => intro d mr pc L S M cn sn v M' h; cases h
  | succ n ih =>
    intro d mr pc L S M cn sn v M' h
    unfold run at h
    split at h
    · next ins len hd =>
      split at h
      · split at h
        · split at h
          · next hc => cases h; omega
          · cases h
        · split at h
          · next pc' L' S' M1 c' s' hst =>
            have h1 := stp_len hst
            have h2 := ih h
            omega
          · split at h
            · next mr' As r hcal =>
              split at h
              · cases h
              · split at h
                · next hc =>
                  split at h
                  · next v1 M1 hr1 =>
                    have h1 := ih hr1
                    have h2 := ih h
                    omega
                  · cases h
                · cases h
            · cases h
      · cases h
    · cases h
def mrOK (mr : MRec) : Prop := mr.1.cls = own mr.2.2.2.2.2.2 ∧ plainName mr.1.cls = true ∧ mr.2.2.1 ≤ 22 ∧ Cond.code mr.1 mr.2.1 mr.2.2.1 mr.2.2.2.1 ∈ gtbl
theorem ml_ok {oc idx oc' idx' kind na : Nat} {mr' : MRec} {ps : List Nat} (h : ml oc idx = some (oc', idx', kind, na, mr', ps)) : idx' = idx ∧ oc' = oc ∧ mrOK mr' ∧ (∀ w ∈ mlW (oc, idx, kind, na, mr', ps), w ∈ gtbl) ∧ (mr'.1.cls ≠ "java/lang/invoke/MethodHandle" ∧ mr'.1.cls ≠ "java/lang/invoke/VarHandle" ∧ (parseMethodDescriptor mr'.1.desc).map (fun d => d.parameters.length) = some na) ∧ (kind = 3 ∨ kind = 4 → mr'.1.name = "<init>" ∧ mr'.2.2.2.1 = none) ∧ (kind = 4 → Cond.methodLinkNest (own oc) idx mr'.1 "GiftMatch" ∈ nestT) := by
  have hall : ∀ e ∈ mlT oc, mlK oc e = true ∧ mlC e ∈ lw_tbl := by
    unfold mlT
    match oc with
    | 0 => exact fun e he => ⟨List.all_eq_true.mp mlT0_ok e he, mlT0_cw e he⟩
    | 1 => exact fun e he => ⟨List.all_eq_true.mp mlT1_ok e he, mlT1_cw e he⟩
    | 2 => exact fun e he => ⟨List.all_eq_true.mp mlT2_ok e he, mlT2_cw e he⟩
    | 3 => exact fun e he => ⟨List.all_eq_true.mp mlT3_ok e he, mlT3_cw e he⟩
    | 4 => exact fun e he => ⟨List.all_eq_true.mp mlT4_ok e he, mlT4_cw e he⟩
    | 5 => exact fun e he => ⟨List.all_eq_true.mp mlT5_ok e he, mlT5_cw e he⟩
    | 6 => exact fun e he => ⟨List.all_eq_true.mp mlT6_ok e he, mlT6_cw e he⟩
    | 7 => exact fun e he => ⟨List.all_eq_true.mp mlT7_ok e he, mlT7_cw e he⟩
    | 8 => exact fun e he => ⟨List.all_eq_true.mp mlT8_ok e he, mlT8_cw e he⟩
    | 9 => exact fun e he => ⟨List.all_eq_true.mp mlT9_ok e he, mlT9_cw e he⟩
    | 10 => exact fun e he => ⟨List.all_eq_true.mp mlT10_ok e he, mlT10_cw e he⟩
    | 11 => exact fun e he => ⟨List.all_eq_true.mp mlT11_ok e he, mlT11_cw e he⟩
    | 12 => exact fun e he => ⟨List.all_eq_true.mp mlT12_ok e he, mlT12_cw e he⟩
    | 13 => exact fun e he => absurd he List.not_mem_nil
    | _ + 14 => exact fun e he => absurd he List.not_mem_nil
  unfold ml at h
  obtain ⟨h1, h3⟩ := hall _ (List.mem_of_find?_eq_some h)
  have h2 : idx' = idx := by simpa using List.find?_some h
  subst h2
  obtain ⟨y, b, mL, ret, mc, ms, oy⟩ := mr'
  unfold mlK at h1
  simp only [Bool.and_eq_true, decide_eq_true_eq, Bool.or_eq_true, Bool.not_eq_true', Bool.or_eq_false_iff, decide_eq_false_iff_not] at h1
  obtain ⟨⟨⟨⟨⟨⟨⟨⟨⟨a1, a2⟩, a3⟩, a3'⟩, a4⟩, a5⟩, a6⟩, a7⟩, a8⟩, a9⟩ := h1
  subst a1
  refine ⟨rfl, rfl, ⟨a3, a3', a4, in_g h3 rfl⟩, fun w hw => ?_, a5, fun hk => ?_, fun hk => ?_⟩
  · have g := List.all_eq_true.mp a8 w hw
    rw [a2] at hw
    obtain ⟨i, -, hi⟩ := List.mem_filterMap.mp hw
    exact in_g (List.mem_of_getElem? hi) g
  · rcases a7 with q | ⟨q1, q2⟩
    · exact q
    · rcases hk with hk | hk
      · exact absurd hk q1
      · exact absurd hk q2
  · rcases a9 with q | q
    · exact absurd hk q
    · exact List.contains_iff_mem.mp q
theorem good_g {ws : List Cond} (h : ∀ w ∈ ws, w ∈ gtbl) : GoodIn gtbl ws := fun w hw => ⟨h w hw, good_of_word (List.mem_filter.mp (h w hw)).2⟩
theorem v_call {v : Option AV} {st0 rest : List Value} {mc ms : Nat} (hr : va_Run p l e R s m args below meth c H locs cn sn mc ms (F0 m pc ls st0) rest (fun st oc t => oc = .returned (v.map (cV G)) ∧ HW G D tyc M' t.heap ∧ va_F (AB G) st t) (AB G)) (hS : va_S (AB G) s.heap H locs)
    (kk : ∀ (H1 : Heap) (locs1 : List Loc), HW G D tyc M' H1 → va_S (AB G) s.heap H1 locs1 → W p l e R s m args below meth c H1 locs1 (cn + mc) (sn + ms) Q (F0 m (pc + 3) ls ((v.map (cV G)).toList ++ rest))) : W p l e R s m args below meth c H locs cn sn Q (F0 m pc ls st0) := by
  intro T hT X
  obtain ⟨v1, st₀, t, T', L, h0, X', hL, e1, e2, ⟨hv, hp, hz, hk⟩, st⟩ := hr T hT X
  have hv' := Outcome.returned.inj hv
  subst hv'
  rw [h0] at hz hk
  obtain ⟨t2, a1, b1⟩ := kk T'.heap (locs ++ L) (by rw [e1]; exact hp)
    ⟨Nat.le_trans hS.1 (by rw [e1]; exact hz), fun q h1 h2 => by rw [e1, hk q (Nat.lt_of_lt_of_le h1 hS.1) h2]; exact hS.2.1 q h1 h2, fun q hq => by
      rcases List.mem_append.mp hq with h | h
      · exact hS.2.2 q h
      · exact hL q h⟩ T' rfl X'
  exact ⟨t2, st t2 a1, b1⟩
theorem St_calling {U : State} {g : JFrame} {mk : MethodId} {a : Array Value} (h : St G D tyc X U) : St G D tyc X (U.calling g mk a) := by
  obtain ⟨h1, h2, h3, h4, h5, h6, h7, h8⟩ := h
  exact ⟨va_K.moved (u := U) (U := U.calling g mk a) (Vm.Alike.refl U.vm) h1, fun w hw => by
    have hm : w.onTables = true := by
      simp only [nestT, List.mem_cons, List.not_mem_nil, or_false] at hw
      rcases hw with rfl | rfl | rfl | rfl | rfl <;> rfl
    exact va_Nw.same (u := U) (U := U.calling g mk a) hm rfl (h2 w hw), va_AO.moved (u := U) (U := U.calling g mk a) (Vm.Alike.refl U.vm) h3, va_AO.moved (u := U) (U := U.calling g mk a) (Vm.Alike.refl U.vm) h4, va_Z.moved (u := U) (U := U.calling g mk a) (Vm.Alike.refl U.vm) h5, va_T.moved (u := U) (U := U.calling g mk a) (Vm.Alike.refl U.vm) h6, va_X.moved (u := U) (U := U.calling g mk a) (Vm.Alike.refl U.vm) h7, h8⟩
theorem St_warm {U : State} (h : St G D tyc X s) (hS : va_S (AB G) s.heap H locs) (hU : U.heap = H) (hW : s.WarmedH U.vm) : St G D tyc X U := by
  obtain ⟨h1, h2, h3, h4, h5, h6, h7, h8, h9, h10⟩ := h
  refine ⟨va_K.moved hW.alike h1, fun w hw => ?_, va_AO.moved hW.alike h3, va_AO.moved hW.alike h4, by rw [hU]; exact va_Z.moved hW.alike (h5.kept hS.2.1), by rw [hU]; exact va_T.moved hW.alike (h6.kept hS.2.1), by rw [hU]; exact va_X.moved hW.alike (h7.kept (hS.2.1 _ (Nat.lt_of_lt_of_le h8 h9) (Nat.not_le.mpr h8))), h8, by rw [hU]; exact Nat.le_trans h9 hS.1, h10⟩
  have h := h2 w hw
  simp only [nestT, List.mem_cons, List.not_mem_nil, or_false] at hw
  rcases hw with rfl | rfl | rfl | rfl | rfl
  all_goals first
    | exact va_Nw.warmM hW h
    | exact va_Nw.warmF hW h
def MetOf (l : Launch) (G : GB) (D : va_G) (tyc : Nat → ClassId) (X : AX) (d : Nat) (mr : MRec) (As : List AV) (M : AM) (v : Option AV) (M' : AM) : Prop :=
  Met l mr.1 (Cond.code mr.1 mr.2.1 mr.2.2.1 mr.2.2.2.1 :: gtbl) { frames := d, cells := mr.2.2.2.2.1, slots := mr.2.2.2.2.2.1, locals := 41 * d } (va_Pc (As.map (cV G)) (fun U => HW G D tyc M U.heap ∧ St G D tyc X U)) (fun _ st oc t => oc = .returned (v.map (cV G)) ∧ HW G D tyc M' t.heap ∧ va_F (AB G) st t) mr.2.2.2.2.1 mr.2.2.2.2.2.1 (AB G)
theorem blind {As : List AV} : FrameBlind (va_Pc (As.map (cV G)) (fun U => HW G D tyc M U.heap ∧ St G D tyc X U)) := fun a U g mk q => ⟨q.1, q.2.1, St_calling q.2.2⟩
theorem cls_own {ci : Nat} {r : vw_C} (h : clsT[ci]? = some r) : r.1 = own ci := by
  have hlt : ci < 12 := (List.getElem?_eq_some_iff.mp h).1
  have key : ∀ ci, ci < 12 → ∀ r, clsT[ci]? = some r → r.1 = own ci := by
    intro ci hlt r h
    match ci, hlt, h with
    | 0, _, h => cases h; rfl
    | 1, _, h => cases h; rfl
    | 2, _, h => cases h; rfl
    | 3, _, h => cases h; rfl
    | 4, _, h => cases h; rfl
    | 5, _, h => cases h; rfl
    | 6, _, h => cases h; rfl
    | 7, _, h => cases h; rfl
    | 8, _, h => cases h; rfl
    | 9, _, h => cases h; rfl
    | 10, _, h => cases h; rfl
    | 11, _, h => cases h; rfl
    | k + 12, hlt, h => omega
  exact key ci hlt r h
set_option maxHeartbeats 4000000 in
/-- a call, the callee's contract at hand -/
theorem so_call {dd : Nat} (C : Cx p R s m args meth c mr G D tyc X (dd + 1)) {ins : Instr} {len : Nat} (hd : decode mr.2.1 pc = .ok (ins, len)) (hlen : lenOK ins len = true)
    {mr' : MRec} {As r : List AV} (hcal : cal mr ins S M = some (mr', As, r)) {v : Option AV} (hM : MetOf l G D tyc X dd mr' As M v M') (hmc : cn + mr'.2.2.2.2.1 ≤ mr.2.2.2.2.1) (hms : sn + mr'.2.2.2.2.2.1 ≤ mr.2.2.2.2.2.1)
    (hH : HW G D tyc M H) (hS : va_S (AB G) s.heap H locs) (hl : lh G ls mr.2.2.1 L)
    (K : KK p l e R s m args below meth c Q mr G D tyc (pc + 3) L (v.toList ++ r) M' (cn + mr'.2.2.2.2.1) (sn + mr'.2.2.2.2.2.1)) : W p l e R s m args below meth c H locs cn sn Q (F0 m pc ls (S.map (cV G))) := by
  obtain ⟨hx, hb, hml, hown, hts, hSt, hnm, hfr, hlo, hmcR, hmsR⟩ := C
  have hK := hSt.1
  have hmap : ((v.toList ++ r).map (cV G)) = (v.map (cV G)).toList ++ r.map (cV G) := by
    cases v <;> simp
  have fin : ∀ (H1 : Heap) (locs1 : List Loc), HW G D tyc M' H1 → va_S (AB G) s.heap H1 locs1 → W p l e R s m args below meth c H1 locs1 (cn + mr'.2.2.2.2.1) (sn + mr'.2.2.2.2.2.1) Q (F0 m (pc + 3) ls ((v.map (cV G)).toList ++ r.map (cV G))) := fun H1 locs1 a b => by
    rw [← hmap]
    exact K H1 locs1 ls a b hl
  have hpre : ∀ U : State, U.heap = H → s.WarmedH U.vm → va_Pc (As.map (cV G)) (fun U => HW G D tyc M U.heap ∧ St G D tyc X U) (As.map (cV G)).toArray U := fun U hU hW => ⟨rfl, by rw [hU]; exact hH, St_warm hSt hS hU hW⟩
  have split9 : ∀ na : Nat, (S.take na).length = na → S.map (cV G) = ((S.take na).reverse.map (cV G)).reverse ++ (S.drop na).map (cV G) := by
    intro na _
    rw [← List.map_reverse, List.reverse_reverse, ← List.map_append, List.take_append_drop]
  have hroom : mr'.2.2.1 ≤ 22 → ({ frames := dd, cells := mr'.2.2.2.2.1, slots := mr'.2.2.2.2.2.1, locals := 41 * dd } : Room).frames + 1 ≤ R.frames ∧ 8 + (mr'.2.2.1 + 11) + ({ frames := dd, cells := mr'.2.2.2.2.1, slots := mr'.2.2.2.2.2.1, locals := 41 * dd } : Room).locals ≤ R.locals := fun h22 => ⟨hfr, by show 8 + (mr'.2.2.1 + 11) + 41 * dd ≤ R.locals; omega⟩
  unfold cal at hcal
  split at hcal
  · next k =>
    simp only [lenOK, beq_iff_eq] at hlen; subst hlen
    split at hcal
    · next oc' idx' na mrr ps hml9 =>
      split at hcal
      · next q r9 hdrop =>
        split at hcal
        · next ci fs hMq =>
          split at hcal
          · next hc0 =>
            cases hcal
            obtain ⟨hci, hlen9, hcat⟩ := hc0
            obtain ⟨rfl, rfl, ⟨hcls, hpl, h22, hcode⟩, hws, hdesc, -, -⟩ := ml_ok hml9
            have hrun : va_Run p l e R s m args below meth c H locs cn sn mr'.2.2.2.2.1 mr'.2.2.2.2.2.1 (F0 m pc ls (S.map (cV G))) (r.map (cV G)) (fun st oc t => oc = .returned (v.map (cV G)) ∧ HW G D tyc M' t.heap ∧ va_F (AB G) st t) (AB G) := by
              refine va_runV (Ts := gtbl) (C := mr'.1.cls) (b := G.1 + q) (As := (S.take na).reverse.map (cV G)) ⟨hx, hb, hml, hown, hts⟩ hM (cwV na hts (good_g (fun w hw => ?_)) rfl rfl rfl ⟨rfl, hdesc⟩ (hroom h22)) ⟨blind, ?_, fun U hU hW => ?_⟩ rfl ?_ hl.1 ?_ ?_ hd ⟨by omega, by omega⟩
              · rcases List.mem_append.mp hw with h | h
                · exact hws w h
                · rcases List.mem_cons.mp h with h | h
                  · rw [h]; exact hcode
                  · exact h
              · obtain ⟨rr, hr1, -⟩ := hH.2 q _ (ty_o hMq)
                have hrec := va_recv hK hH.2 hr1 (ty_o hMq)
                rw [cls_own hr1, hci, ← hcls] at hrec
                exact hrec
              · exact hpre U hU hW
              · rw [List.length_map, List.length_reverse]; exact hlen9
              · rw [split9 na hlen9, hdrop]; rfl
              · show 2 * 0 + ((r.map (cV G)).map fun v => v.category).sum ≤ 8
                rw [cat_sum]; omega
            exact v_call hrun hS fin
          · cases hcal
        · cases hcal
      · cases hcal
    · cases hcal
  · next k =>
    simp only [lenOK, beq_iff_eq] at hlen; subst hlen
    split at hcal
    · next oc' idx' na mrr ps hml9 =>
      split at hcal
      · next hc0 =>
        cases hcal
        obtain ⟨hlen9, hcat⟩ := hc0
        obtain ⟨rfl, rfl, ⟨hcls, hpl, h22, hcode⟩, hws, hdesc, -, -⟩ := ml_ok hml9
        have hrun : va_Run p l e R s m args below meth c H locs cn sn mr'.2.2.2.2.1 mr'.2.2.2.2.2.1 (F0 m pc ls (S.map (cV G))) ((S.drop na).map (cV G)) (fun st oc t => oc = .returned (v.map (cV G)) ∧ HW G D tyc M' t.heap ∧ va_F (AB G) st t) (AB G) := by
          refine va_runS (Ts := gtbl) (As := (S.take na).reverse.map (cV G)) ⟨hx, hb, hml, hown, hts⟩ hM (va_cwS na hts (good_g (fun w hw => ?_)) rfl rfl rfl hdesc (hroom h22)) ⟨blind, fun U hU hW => ?_⟩ rfl ?_ hl.1 ?_ ?_ hd ⟨by omega, by omega⟩
          · rcases List.mem_append.mp hw with h | h
            · exact hws w h
            · rcases List.mem_cons.mp h with h | h
              · rw [h]; exact hcode
              · exact h
          · exact hpre U hU hW
          · rw [List.length_map, List.length_reverse]; exact hlen9
          · rw [split9 na hlen9]
          · show 2 * 0 + (((S.drop na).map (cV G)).map fun v => v.category).sum ≤ 8
            rw [cat_sum]; omega
        exact v_call hrun hS fin
      · cases hcal
    · cases hcal
  · next k =>
    simp only [lenOK, beq_iff_eq] at hlen; subst hlen
    split at hcal
    · next oc' idx' kind na mrr ps hml9 =>
      split at hcal
      · next hkind =>
        split at hcal
        · next q r9 hdrop =>
          split at hcal
          · next hc0 =>
            cases hcal
            obtain ⟨hlen9, hcat⟩ := hc0
            obtain ⟨rfl, rfl, ⟨hcls, hpl, h22, hcode⟩, hws, hdesc, hini, hnest⟩ := ml_ok hml9
            have hgood : GoodIn gtbl (Cond.code mr'.1 mr'.2.1 mr'.2.2.1 mr'.2.2.2.1 :: gtbl) := good_g (fun w hw => by
              rcases List.mem_cons.mp hw with h | h
              · rw [h]; exact hcode
              · exact h)
            have hret : mr'.2.2.2.1 = none := (hini hkind).2
            have hrun : va_Run p l e R s m args below meth c H locs cn sn mr'.2.2.2.2.1 mr'.2.2.2.2.2.1 (F0 m pc ls (S.map (cV G))) (r.map (cV G)) (fun st oc t => oc = .returned (v.map (cV G)) ∧ HW G D tyc M' t.heap ∧ va_F (AB G) st t) (AB G) := by
              unfold MetOf at hM
              rw [hret] at hM hgood
              rcases hkind with rfl | rfl
              · refine va_runI (Ts := gtbl) (b := G.1 + q) (As := (S.take na).reverse.map (cV G)) ⟨hx, hb, hml, hown, hts⟩ hM ⟨callB_of na hts hgood rfl rfl rfl (hts _ (hws _ (by simp [mlW]))) (hts _ (hws _ (by simp [mlW]))) hdesc (hroom h22), (hini (Or.inl rfl)).1, hts _ (hws _ (by simp [mlW]))⟩ ⟨blind, fun U hU hW => ?_⟩ rfl ?_ hl.1 ?_ ?_ hd ⟨by omega, by omega⟩
                · exact hpre U hU hW
                · rw [List.length_map, List.length_reverse]; exact hlen9
                · rw [split9 na hlen9, hdrop]; rfl
                · show 2 * 0 + ((r.map (cV G)).map fun v => v.category).sum ≤ 8
                  rw [cat_sum]; omega
              · refine va_runIN (Ts := gtbl) (b := G.1 + q) (As := (S.take na).reverse.map (cV G)) ⟨hx, hb, hml, hown, hts⟩ hM ⟨va_cnB na hts hgood rfl rfl rfl (hSt.2.1 _ (hnest rfl)) (hts _ (hws _ (by simp [mlW]))) hdesc (hroom h22), (hini (Or.inr rfl)).1, hts _ (hws _ (by simp [mlW]))⟩ ⟨blind, fun U hU hW => ?_⟩ rfl ?_ hl.1 ?_ ?_ hd ⟨by omega, by omega⟩
                · exact hpre U hU hW
                · rw [List.length_map, List.length_reverse]; exact hlen9
                · rw [split9 na hlen9, hdrop]; rfl
                · show 2 * 0 + ((r.map (cV G)).map fun v => v.category).sum ≤ 8
                  rw [cat_sum]; omega
            exact v_call hrun hS fin
          · cases hcal
        · cases hcal
      · cases hcal
    · cases hcal
  · cases hcal
end SoundR
end
section
section SoundX
variable {l : Launch} {G : GB} {D : va_G} {tyc : Nat → ClassId} {X : AX}
/-- the machine follows the interpreter, to the method's return -/
def RunW (l : Launch) (G : GB) (D : va_G) (tyc : Nat → ClassId) (X : AX) (n : Nat) : Prop := ∀ {p : Program} {e : Env} {R : Room} {s : State} {m : MethodId} {args : Array Value} {below : List Frame} {meth : Method} {c : Code} {Q : State → Prop} {mr : MRec} {d pc : Nat} {L : AL} {S : List AV} {M : AM} {cn sn : Nat} {v : Option AV} {M' : AM} {H : Heap} {locs : List Loc} {ls : Array Slot},
  run X n d mr pc L S M cn sn = some (v, M') → Cx p R s m args meth c mr G D tyc X d → s.heap.size + cn = G.1 + M.length → HW G D tyc M H → va_S (AB G) s.heap H locs → lh G ls mr.2.2.1 L →
  (∀ (H' : Heap) (locs' : List Loc) (ls' : Array Slot) (pc' : Nat) (S' : List AV) (ins : Instr) (len sn' : Nat), decode mr.2.1 pc' = .ok (ins, len) → lenOK ins len = true → rtn mr ins S' = some v → sn' ≤ mr.2.2.2.2.2.1 → HW G D tyc M' H' → va_S (AB G) s.heap H' locs' → W p l e R s m args below meth c H' locs' mr.2.2.2.2.1 sn' Q (F0 m pc' ls' (S'.map (cV G)))) →
  W p l e R s m args below meth c H locs cn sn Q (F0 m pc ls (S.map (cV G)))
theorem argL_args : ∀ (As : List AV) (n i : Nat) (G : GB) (v : AV) (k : Nat), (As.flatMap (fun v => if cat v = 2 then [some v, none] else [some v]) ++ List.replicate n none)[i]? = some (some v) → (k + i, cV G v) ∈ lv_args k (As.map (cV G)) := by
  intro As
  induction As with
  | nil =>
    intro n i G v k h
    simp only [List.flatMap_nil, List.nil_append] at h
    have := List.eq_of_mem_replicate (List.mem_of_getElem? h)
    cases this
  | cons a As ih =>
    intro n i G v k h
    simp only [List.map_cons, lv_args, cV_cat]
    simp only [List.flatMap_cons, List.append_assoc] at h
    by_cases hc : cat a = 2
    · rw [if_pos hc] at h
      rw [if_pos hc]
      match i, h with
      | 0, h => simp at h; subst h; exact List.mem_cons_self
      | 1, h => simp at h
      | i + 2, h =>
        refine List.mem_cons_of_mem _ ?_
        have := ih n i G v (k + 2) (by simpa using h)
        rw [show k + (i + 2) = k + 2 + i by omega]
        exact this
    · rw [if_neg hc] at h
      rw [if_neg hc]
      match i, h with
      | 0, h => simp at h; subst h; exact List.mem_cons_self
      | i + 1, h =>
        refine List.mem_cons_of_mem _ ?_
        have := ih n i G v (k + 1) (by simpa using h)
        rw [show k + (i + 1) = k + 1 + i by omega]
        exact this
theorem sl_len (G : GB) (As : List AV) : (lg_sl (As.map (cV G))).length = (As.flatMap (fun v => if cat v = 2 then [some v, none] else [some v]) : AL).length := by
  induction As with
  | nil => rfl
  | cons a As ih =>
    simp only [lg_sl, List.map_cons, List.flatMap_cons, List.length_append, cV_cat] at ih ⊢
    rw [ih]
    by_cases hc : cat a = 2
    · rw [if_pos hc, if_pos hc]; rfl
    · rw [if_neg hc, if_neg hc]; rfl
theorem lh_entry {As : List AV} {n : Nat} (h : (argL As n).length = n) : lh G ((lg_sl (As.map (cV G)) ++ List.replicate (n - (lg_sl (As.map (cV G))).length) Slot.unset).toArray) n (argL As n) := by
  have hle : (lg_sl (As.map (cV G))).length ≤ n := by
    rw [sl_len]
    simp only [argL, List.length_append, List.length_replicate] at h
    omega
  have he := lv_entry (As.map (cV G)) hle
  refine ⟨he.1, he.2.1, fun i v hv => ?_⟩
  have := argL_args As _ i G v 0 hv
  rw [Nat.zero_add] at this
  exact he.2.2 _ this
set_option maxHeartbeats 4000000 in
theorem run_Met {n d : Nat} {mr : MRec} {As : List AV} {M M' : AM} {v : Option AV} (ih : RunW l G D tyc X n) (ok : mrOK mr) (hlen : (argL As mr.2.2.1).length = mr.2.2.1) (h : run X n d mr 0 (argL As mr.2.2.1) [] M 0 0 = some (v, M')) : MetOf l G D tyc X d mr As M v M' := by
  obtain ⟨hcls, hpl, h22, hcode⟩ := ok
  refine Met.ofW (cc := mr.2.1) (maxL := mr.2.2.1) (ret := mr.2.2.2.1) hpl rfl ?_
  intro p e s m args below meth c s₁ B hml hv
  obtain ⟨rfl, hH, hSt⟩ := hv
  have hts0 := atoms_spec (ws := Cond.code mr.1 mr.2.1 mr.2.2.1 mr.2.2.2.1 :: gtbl) B.pre
  have hown : s.vm.findClass (own mr.2.2.2.2.2.2) = some m.cls := by rw [← hcls]; exact findClass_of_methodNamed B.named
  have hlocks := B.notSynchronized
  have hr := B.returns
  have hx := B.exec
  have hb := B.bytes
  rw [lg_entry_eq]
  refine ih (S := []) h ⟨hx, hb, hml, hown, fun w hw => hts0 w (List.mem_cons_of_mem _ hw), hSt, fun h9 => (name_of_methodNamed B.named B.method).1.trans h9, Nat.le_refl _, Nat.le_refl _, Nat.le_refl _, Nat.le_refl _⟩ (by rw [Nat.add_zero]; exact hH.1) hH va_S.rf (lh_entry hlen) ?_
  intro H' locs' ls' pc' S' ins len sn' hd hl2 hrt hsn hH' hS'
  refine W.widen (Nat.le_refl _) hsn ?_
  have fin : ∀ t : State, t.heap = H' → s.WarmedH t.vm → ((Outcome.returned (v.map (cV G)) : Outcome) = .returned (v.map (cV G)) ∧ HW G D tyc M' t.heap ∧ va_F (AB G) s t) := fun t ht _ => ⟨rfl, by rw [ht]; exact hH', hS'.F ht⟩
  unfold rtn at hrt
  split at hrt
  · next e1 =>
    simp only [lenOK, beq_iff_eq] at hl2; subst hl2
    split at hrt
    · next z => cases hrt; rw [e1] at hr; exact W.iret hx hb hr (fun t ht hW => fin t ht hW) hS'.2.2 hd
    · cases hrt
  · next e1 =>
    simp only [lenOK, beq_iff_eq] at hl2; subst hl2
    split at hrt
    · next z =>
      split at hrt
      · next hz =>
        cases hrt; rw [e1] at hr
        exact W.zret hx hb hr (by rcases hz with rfl | rfl <;> decide +kernel) (fun t ht hW => fin t ht hW) hS'.2.2 hd
      · cases hrt
    · cases hrt
  · next e1 =>
    simp only [lenOK, beq_iff_eq] at hl2; subst hl2
    split at hrt
    · next z => cases hrt; rw [e1] at hr; exact W.lret hx hb hr (fun t ht hW => fin t ht hW) hS'.2.2 hd
    · cases hrt
  · next e1 =>
    simp only [lenOK, beq_iff_eq] at hl2; subst hl2
    split at hrt
    · cases hrt; rw [e1] at hr; exact W.vret hx hb hr (fun t ht hW => fin t ht hW) hS'.2.2 hd
    · cases hrt
  · cases hrt
theorem cal_ok {mr mr' : MRec} {ins : Instr} {S As r : List AV} {M : AM} (h : cal mr ins S M = some (mr', As, r)) : mrOK mr' := by
  unfold cal at h
  repeat' split at h
  all_goals first
    | (cases h; done)
    | (cases h; exact (ml_ok (mr' := mr') (by assumption)).2.2.1)
set_option maxHeartbeats 4000000 in
theorem run_W : ∀ n, RunW l G D tyc X n := by
  intro n
  induction n with
  | zero => intro p e R s m args below meth c Q mr d pc L S M cn sn v M' H locs ls h; cases h
  | succ n ih =>
    intro p e R s m args below meth c Q mr d pc L S M cn sn v M' H locs ls h C hz hH hS hl K
    unfold run at h
    split at h
    · next ins len hd =>
      split at h
      · next hlen =>
        split at h
        · next v1 hrt =>
          split at h
          · next hc =>
            cases h
            rw [hc.1]
            exact K H locs ls pc S ins len sn hd hlen hrt hc.2 hH hS
          · cases h
        · split at h
          · next pc' L' S' M1 c' s' hst =>
            refine stp_sound C hd hlen hz hst hH hS hl (fun H1 locs1 ls1 hH1 hS1 hl1 => ?_)
            exact ih h C (by have := stp_len hst; omega) hH1 hS1 hl1 K
          · split at h
            · next mr' As r hcal =>
              split at h
              · cases h
              · next dd =>
                split at h
                · next hc =>
                  split at h
                  · next v1 M1 hr1 =>
                    refine so_call C hd hlen hcal (run_Met ih (cal_ok hcal) hc.1 hr1) hc.2.1 hc.2.2 hH hS hl (fun H1 locs1 ls1 hH1 hS1 hl1 => ?_)
                    exact ih h C (by have := run_len n hr1; omega) hH1 hS1 hl1 K
                  · cases h
                · cases h
            · cases h
      · cases h
    · cases h
end SoundX
end
section
/-! the interpreter over memories of a fixed shape: ints and longs by cell and place; how it steps -/
abbrev SG : Type := (Nat → Int → Int) × (Nat → Int → Int64)
abbrev SE : Type := (Nat × Nat × Option (Int → Option Nat)) ⊕ (Nat × List (Nat ⊕ AV))
def entF (σ : SG) (k : Nat) (j : Nat) (f : Nat ⊕ AV) : AV := match f with
  | .inl 0 => iv (σ.1 k j)
  | .inl _ => jv (σ.2 k j)
  | .inr v => v
def ent (σ : SG) (k : Nat) (e : SE) : AE := match e with
  | .inl (1, n, none) => .inl (1, n, .inr (.inl (σ.2 k)))
  | .inl (t, n, none) => .inl (t, n, .inl (σ.1 k))
  | .inl (t, n, some f) => .inl (t, n, .inr (.inr f))
  | .inr (ci, fs) => .inr (ci, fs.mapIdx (entF σ k))
def memS (sh : List SE) (σ : SG) : AM := sh.mapIdx (ent σ)
def upI (σ : SG) (q : Nat) (i : Int) (v : Int) : SG := (fun k j => if k = q ∧ j = i then v else σ.1 k j, σ.2)
def upJ (σ : SG) (q : Nat) (i : Int) (v : Int64) : SG := (σ.1, fun k j => if k = q ∧ j = i then v else σ.2 k j)
def upC (σ : SG) (q : Nat) (f : Int → Int) : SG := (fun k j => if k = q then f j else σ.1 k j, σ.2)
theorem mem_get {sh : List SE} {σ : SG} {q : Nat} {e : SE} (h : sh[q]? = some e) : (memS sh σ)[q]? = some (ent σ q e) := by
  simp [memS, List.getElem?_mapIdx, h]
theorem ent_congr {σ σ' : SG} {k : Nat} (e : SE) (h1 : σ'.1 k = σ.1 k) (h2 : σ'.2 k = σ.2 k) : ent σ' k e = ent σ k e := by
  have h3 : entF σ' k = entF σ k := by
    funext j f
    unfold entF
    rw [h1, h2]
  unfold ent
  rw [h1, h2, h3]
theorem ent_up_ne {σ : SG} {q k : Nat} {i v : Int} (e : SE) (h : k ≠ q) : ent (upI σ q i v) k e = ent σ k e := ent_congr e (funext fun j => by simp only [upI, h, false_and, if_false]) rfl
theorem ent_upJ_ne {σ : SG} {q k : Nat} {i : Int} {v : Int64} (e : SE) (h : k ≠ q) : ent (upJ σ q i v) k e = ent σ k e := ent_congr e rfl (funext fun j => by simp only [upJ, h, false_and, if_false])
theorem ent_upC_ne {σ : SG} {q k : Nat} {f : Int → Int} (e : SE) (h : k ≠ q) : ent (upC σ q f) k e = ent σ k e := ent_congr e (funext fun j => by simp only [upC, h, if_false]) rfl
theorem mem_set_of {sh : List SE} {σ σ' : SG} {q : Nat} {e : SE} (hq : sh[q]? = some e) (h : ∀ k e', k ≠ q → ent σ' k e' = ent σ k e') : (memS sh σ).set q (ent σ' q e) = memS sh σ' := by
  apply List.ext_getElem?
  intro k
  rw [List.getElem?_set]
  by_cases hk : q = k
  · subst hk
    rw [if_pos rfl, mem_get hq, if_pos (by simp [memS]; exact (List.getElem?_eq_some_iff.mp hq).1)]
  · rw [if_neg hk]
    simp only [memS, List.getElem?_mapIdx]
    cases hs : sh[k]? with
    | none => rfl
    | some e' => simp [h k e' (fun q => hk q.symm)]
theorem mem_setA {sh : List SE} {σ : SG} {q t n : Nat} {i v : Int} (ht : t ≠ 1) (hq : sh[q]? = some (.inl (t, n, none))) : (memS sh σ).set q (.inl (t, n, .inl (updA (σ.1 q) i v))) = memS sh (upI σ q i v) := by
  rw [← mem_set_of (σ' := upI σ q i v) hq (fun k e' hk => ent_up_ne e' hk)]
  congr 1
  have h2 : (upI σ q i v).1 q = updA (σ.1 q) i v := by funext j; simp [upI, updA]
  unfold ent
  split
  · next h => cases h; exact absurd rfl ht
  · next h => cases h; rw [h2]
  · next h => cases h
  · next h => cases h
theorem mem_setL {sh : List SE} {σ : SG} {q n : Nat} {i : Int} {v : Int64} (hq : sh[q]? = some (.inl (1, n, none))) : (memS sh σ).set q (.inl (1, n, .inr (.inl (updA (σ.2 q) i v)))) = memS sh (upJ σ q i v) := by
  rw [← mem_set_of (σ' := upJ σ q i v) hq (fun k e' hk => ent_upJ_ne e' hk)]
  congr 1
  have h2 : (upJ σ q i v).2 q = updA (σ.2 q) i v := by funext j; simp [upJ, updA]
  simp only [ent, h2]
theorem mem_setC {sh : List SE} {σ : SG} {q n : Nat} {f : Int → Int} (hq : sh[q]? = some (.inl (0, n, none))) : (memS sh σ).set q (.inl (0, n, .inl f)) = memS sh (upC σ q f) := by
  rw [← mem_set_of (σ' := upC σ q f) hq (fun k e' hk => ent_upC_ne e' hk)]
  congr 1
  have h2 : (upC σ q f).1 q = f := by funext j; simp [upC]
  simp only [ent, h2]
theorem mem_setF {sh : List SE} {σ : SG} {q ci j : Nat} {fs : List (Nat ⊕ AV)} {v : Int} (hq : sh[q]? = some (.inr (ci, fs))) (hj : fs[j]? = some (.inl 0)) : (memS sh σ).set q (.inr (ci, (fs.mapIdx (entF σ q)).set j (iv v))) = memS sh (upI σ q j v) := by
  rw [← mem_set_of (σ' := upI σ q j v) hq (fun k e' hk => ent_up_ne e' hk)]
  congr 1
  simp only [ent]
  congr 2
  apply List.ext_getElem?
  intro k
  rw [List.getElem?_set]
  by_cases hk : j = k
  · subst hk
    have hl : j < fs.length := (List.getElem?_eq_some_iff.mp hj).1
    have hj2 : fs[j] = Sum.inl 0 := (List.getElem?_eq_some_iff.mp hj).2
    simp [List.getElem?_mapIdx, hl, entF, upI, hj2]
  · rw [if_neg hk]
    simp only [List.getElem?_mapIdx]
    cases hs : fs[k]? with
    | none => rfl
    | some f =>
      have h1 : (upI σ q (j : Int) v).1 q (k : Int) = σ.1 q k := by
        have : ¬ (k : Int) = (j : Int) := fun z => hk (by omega)
        simp only [upI, this, and_false, if_false]
      simp only [Option.map_some, Option.some.injEq]
      unfold entF
      rw [h1]
      rfl
theorem mem_setFJ {sh : List SE} {σ : SG} {q ci j : Nat} {fs : List (Nat ⊕ AV)} {v : Int64} (hq : sh[q]? = some (.inr (ci, fs))) (hj : fs[j]? = some (.inl 1)) : (memS sh σ).set q (.inr (ci, (fs.mapIdx (entF σ q)).set j (jv v))) = memS sh (upJ σ q j v) := by
  rw [← mem_set_of (σ' := upJ σ q j v) hq (fun k e' hk => ent_upJ_ne e' hk)]
  congr 1
  simp only [ent]
  congr 2
  apply List.ext_getElem?
  intro k
  rw [List.getElem?_set]
  by_cases hk : j = k
  · subst hk
    have hl : j < fs.length := (List.getElem?_eq_some_iff.mp hj).1
    have hj2 : fs[j] = Sum.inl 1 := (List.getElem?_eq_some_iff.mp hj).2
    simp [List.getElem?_mapIdx, hl, entF, upJ, hj2]
  · rw [if_neg hk]
    simp only [List.getElem?_mapIdx]
    cases hs : fs[k]? with
    | none => rfl
    | some f =>
      have h1 : (upJ σ q (j : Int) v).2 q (k : Int) = σ.2 q k := by
        have : ¬ (k : Int) = (j : Int) := fun z => hk (by omega)
        simp only [upJ, this, and_false, if_false]
      simp only [Option.map_some, Option.some.injEq]
      unfold entF
      rw [h1]
      rfl
end
section
/-- three rules from a cell on; two images -/
def rf3 (b : Nat) : Int → Option Nat := fun i => if i = 0 then some b else if i = 1 then some (b + 3) else if i = 2 then some (b + 6) else none
def rf2 : Int → Option Nat := fun i => if i = 0 then some 56 else if i = 1 then some 72 else none
def shp : List SE := [
  .inr (10, [.inr (rv 1), .inr (rv 17), .inr (rv 33), .inr (rv 34), .inr (rv 35), .inr (rv 37), .inr (rv 39), .inr (rv 43), .inr (rv 47), .inr (rv 49), .inr (rv 53), .inr (rv 55)]),
  .inr (8, [.inr (rv 2), .inr (rv 3), .inr (rv 4), .inr (rv 5), .inr (rv 6), .inr (rv 7), .inl 0, .inl 0, .inl 0, .inl 0, .inl 0, .inl 0]),
  .inl (0, 5, none),
  .inl (0, 3, none),
  .inl (0, 15, none),
  .inl (0, 15, none),
  .inl (0, 15, none),
  .inl (3, 3, some (rf3 8)),
  .inr (7, [.inr (rv 9), .inr (rv 10), .inl 0, .inl 0, .inl 0]),
  .inl (0, 40, none),
  .inl (0, 40, none),
  .inr (7, [.inr (rv 12), .inr (rv 13), .inl 0, .inl 0, .inl 0]),
  .inl (0, 40, none),
  .inl (0, 40, none),
  .inr (7, [.inr (rv 15), .inr (rv 16), .inl 0, .inl 0, .inl 0]),
  .inl (0, 40, none),
  .inl (0, 40, none),
  .inr (8, [.inr (rv 18), .inr (rv 19), .inr (rv 20), .inr (rv 21), .inr (rv 22), .inr (rv 23), .inl 0, .inl 0, .inl 0, .inl 0, .inl 0, .inl 0]),
  .inl (0, 5, none),
  .inl (0, 3, none),
  .inl (0, 15, none),
  .inl (0, 15, none),
  .inl (0, 15, none),
  .inl (3, 3, some (rf3 24)),
  .inr (7, [.inr (rv 25), .inr (rv 26), .inl 0, .inl 0, .inl 0]),
  .inl (0, 40, none),
  .inl (0, 40, none),
  .inr (7, [.inr (rv 28), .inr (rv 29), .inl 0, .inl 0, .inl 0]),
  .inl (0, 40, none),
  .inl (0, 40, none),
  .inr (7, [.inr (rv 31), .inr (rv 32), .inl 0, .inl 0, .inl 0]),
  .inl (0, 40, none),
  .inl (0, 40, none),
  .inl (4, 2, some rf2),
  .inl (2, 2, none),
  .inr (5, [.inr (rv 36), .inl 0, .inl 0, .inl 0, .inl 0]),
  .inl (0, 40, none),
  .inr (9, [.inr (rv 38), .inl 0, .inl 0, .inl 0, .inl 0, .inl 0, .inl 1]),
  .inl (1, 40, none),
  .inr (3, [.inr (rv 37), .inr (rv 40), .inr (rv 41), .inr (rv 42), .inl 0]),
  .inl (0, 3, none),
  .inl (0, 3, none),
  .inl (0, 3, none),
  .inr (0, [.inr (rv 39), .inr (rv 44), .inr (rv 45), .inr (rv 46), .inl 0, .inl 0]),
  .inl (0, 39, none),
  .inl (0, 3, none),
  .inl (0, 3, none),
  .inr (6, [.inr (rv 43), .inr (rv 48)]),
  .inl (1, 41, none),
  .inr (1, [.inr (rv 50), .inr (rv 51), .inr (rv 52), .inl 0]),
  .inl (0, 183, none),
  .inl (0, 1044, none),
  .inl (0, 3, none),
  .inr (4, [.inr (rv 39), .inr (rv 54), .inl 0]),
  .inl (0, 5, none),
  .inr (2, [.inr (rv 37)]),
  .inr (8, [.inr (rv 57), .inr (rv 58), .inr (rv 59), .inr (rv 60), .inr (rv 61), .inr (rv 62), .inl 0, .inl 0, .inl 0, .inl 0, .inl 0, .inl 0]),
  .inl (0, 5, none),
  .inl (0, 3, none),
  .inl (0, 15, none),
  .inl (0, 15, none),
  .inl (0, 15, none),
  .inl (3, 3, some (rf3 63)),
  .inr (7, [.inr (rv 64), .inr (rv 65), .inl 0, .inl 0, .inl 0]),
  .inl (0, 40, none),
  .inl (0, 40, none),
  .inr (7, [.inr (rv 67), .inr (rv 68), .inl 0, .inl 0, .inl 0]),
  .inl (0, 40, none),
  .inl (0, 40, none),
  .inr (7, [.inr (rv 70), .inr (rv 71), .inl 0, .inl 0, .inl 0]),
  .inl (0, 40, none),
  .inl (0, 40, none),
  .inr (8, [.inr (rv 73), .inr (rv 74), .inr (rv 75), .inr (rv 76), .inr (rv 77), .inr (rv 78), .inl 0, .inl 0, .inl 0, .inl 0, .inl 0, .inl 0]),
  .inl (0, 5, none),
  .inl (0, 3, none),
  .inl (0, 15, none),
  .inl (0, 15, none),
  .inl (0, 15, none),
  .inl (3, 3, some (rf3 79)),
  .inr (7, [.inr (rv 80), .inr (rv 81), .inl 0, .inl 0, .inl 0]),
  .inl (0, 40, none),
  .inl (0, 40, none),
  .inr (7, [.inr (rv 83), .inr (rv 84), .inl 0, .inl 0, .inl 0]),
  .inl (0, 40, none),
  .inl (0, 40, none),
  .inr (7, [.inr (rv 86), .inr (rv 87), .inl 0, .inl 0, .inl 0]),
  .inl (0, 40, none),
  .inl (0, 40, none),
  .inr (11, [.inr (rv 89), .inr (rv 90), .inr (rv 91), .inl 0, .inl 0, .inl 0, .inr (rv 92), .inl 0, .inr (rv 93), .inl 0, .inr (rv 94), .inl 1, .inr (rv 95), .inl 0, .inr (rv 96), .inr (rv 97), .inr (rv 98), .inr (rv 99), .inl 0, .inl 0, .inl 0, .inr (rv 100), .inr (rv 101), .inr (rv 102), .inr (rv 103), .inr (rv 104), .inr (rv 105), .inr (rv 106), .inr (rv 107)]),
  .inl (0, 182, none),
  .inl (0, 364, none),
  .inl (2, 2, none),
  .inl (1, 64, none),
  .inl (0, 128, none),
  .inl (1, 5, none),
  .inl (0, 16, none),
  .inl (1, 13, none),
  .inl (0, 3, none),
  .inl (0, 3, none),
  .inl (0, 3, none),
  .inl (0, 4, none),
  .inl (0, 3, none),
  .inl (0, 3, none),
  .inl (0, 615, none),
  .inl (0, 183, none),
  .inl (0, 3, none),
  .inl (0, 5, none),
  .inl (0, 15, none)]
def mem (σ : SG) : AM := memS shp σ
theorem h_0 : shp[0]? = some (.inr (10, [.inr (rv 1), .inr (rv 17), .inr (rv 33), .inr (rv 34), .inr (rv 35), .inr (rv 37), .inr (rv 39), .inr (rv 43), .inr (rv 47), .inr (rv 49), .inr (rv 53), .inr (rv 55)])) := rfl
theorem h_1 : shp[1]? = some (.inr (8, [.inr (rv 2), .inr (rv 3), .inr (rv 4), .inr (rv 5), .inr (rv 6), .inr (rv 7), .inl 0, .inl 0, .inl 0, .inl 0, .inl 0, .inl 0])) := rfl
theorem h_2 : shp[2]? = some (.inl (0, 5, none)) := rfl
theorem h_3 : shp[3]? = some (.inl (0, 3, none)) := rfl
theorem h_4 : shp[4]? = some (.inl (0, 15, none)) := rfl
theorem h_5 : shp[5]? = some (.inl (0, 15, none)) := rfl
theorem h_6 : shp[6]? = some (.inl (0, 15, none)) := rfl
theorem h_7 : shp[7]? = some (.inl (3, 3, some (rf3 8))) := rfl
theorem h_8 : shp[8]? = some (.inr (7, [.inr (rv 9), .inr (rv 10), .inl 0, .inl 0, .inl 0])) := rfl
theorem h_9 : shp[9]? = some (.inl (0, 40, none)) := rfl
theorem h_10 : shp[10]? = some (.inl (0, 40, none)) := rfl
theorem h_11 : shp[11]? = some (.inr (7, [.inr (rv 12), .inr (rv 13), .inl 0, .inl 0, .inl 0])) := rfl
theorem h_12 : shp[12]? = some (.inl (0, 40, none)) := rfl
theorem h_13 : shp[13]? = some (.inl (0, 40, none)) := rfl
theorem h_14 : shp[14]? = some (.inr (7, [.inr (rv 15), .inr (rv 16), .inl 0, .inl 0, .inl 0])) := rfl
theorem h_15 : shp[15]? = some (.inl (0, 40, none)) := rfl
theorem h_16 : shp[16]? = some (.inl (0, 40, none)) := rfl
theorem h_17 : shp[17]? = some (.inr (8, [.inr (rv 18), .inr (rv 19), .inr (rv 20), .inr (rv 21), .inr (rv 22), .inr (rv 23), .inl 0, .inl 0, .inl 0, .inl 0, .inl 0, .inl 0])) := rfl
theorem h_18 : shp[18]? = some (.inl (0, 5, none)) := rfl
theorem h_19 : shp[19]? = some (.inl (0, 3, none)) := rfl
theorem h_20 : shp[20]? = some (.inl (0, 15, none)) := rfl
theorem h_21 : shp[21]? = some (.inl (0, 15, none)) := rfl
theorem h_22 : shp[22]? = some (.inl (0, 15, none)) := rfl
theorem h_23 : shp[23]? = some (.inl (3, 3, some (rf3 24))) := rfl
theorem h_24 : shp[24]? = some (.inr (7, [.inr (rv 25), .inr (rv 26), .inl 0, .inl 0, .inl 0])) := rfl
theorem h_25 : shp[25]? = some (.inl (0, 40, none)) := rfl
theorem h_26 : shp[26]? = some (.inl (0, 40, none)) := rfl
theorem h_27 : shp[27]? = some (.inr (7, [.inr (rv 28), .inr (rv 29), .inl 0, .inl 0, .inl 0])) := rfl
theorem h_28 : shp[28]? = some (.inl (0, 40, none)) := rfl
theorem h_29 : shp[29]? = some (.inl (0, 40, none)) := rfl
theorem h_30 : shp[30]? = some (.inr (7, [.inr (rv 31), .inr (rv 32), .inl 0, .inl 0, .inl 0])) := rfl
theorem h_31 : shp[31]? = some (.inl (0, 40, none)) := rfl
theorem h_32 : shp[32]? = some (.inl (0, 40, none)) := rfl
theorem h_33 : shp[33]? = some (.inl (4, 2, some rf2)) := rfl
theorem h_34 : shp[34]? = some (.inl (2, 2, none)) := rfl
theorem h_35 : shp[35]? = some (.inr (5, [.inr (rv 36), .inl 0, .inl 0, .inl 0, .inl 0])) := rfl
theorem h_36 : shp[36]? = some (.inl (0, 40, none)) := rfl
theorem h_37 : shp[37]? = some (.inr (9, [.inr (rv 38), .inl 0, .inl 0, .inl 0, .inl 0, .inl 0, .inl 1])) := rfl
theorem h_38 : shp[38]? = some (.inl (1, 40, none)) := rfl
theorem h_39 : shp[39]? = some (.inr (3, [.inr (rv 37), .inr (rv 40), .inr (rv 41), .inr (rv 42), .inl 0])) := rfl
theorem h_40 : shp[40]? = some (.inl (0, 3, none)) := rfl
theorem h_41 : shp[41]? = some (.inl (0, 3, none)) := rfl
theorem h_42 : shp[42]? = some (.inl (0, 3, none)) := rfl
theorem h_43 : shp[43]? = some (.inr (0, [.inr (rv 39), .inr (rv 44), .inr (rv 45), .inr (rv 46), .inl 0, .inl 0])) := rfl
theorem h_44 : shp[44]? = some (.inl (0, 39, none)) := rfl
theorem h_45 : shp[45]? = some (.inl (0, 3, none)) := rfl
theorem h_46 : shp[46]? = some (.inl (0, 3, none)) := rfl
theorem h_47 : shp[47]? = some (.inr (6, [.inr (rv 43), .inr (rv 48)])) := rfl
theorem h_48 : shp[48]? = some (.inl (1, 41, none)) := rfl
theorem h_49 : shp[49]? = some (.inr (1, [.inr (rv 50), .inr (rv 51), .inr (rv 52), .inl 0])) := rfl
theorem h_50 : shp[50]? = some (.inl (0, 183, none)) := rfl
theorem h_51 : shp[51]? = some (.inl (0, 1044, none)) := rfl
theorem h_52 : shp[52]? = some (.inl (0, 3, none)) := rfl
theorem h_53 : shp[53]? = some (.inr (4, [.inr (rv 39), .inr (rv 54), .inl 0])) := rfl
theorem h_54 : shp[54]? = some (.inl (0, 5, none)) := rfl
theorem h_55 : shp[55]? = some (.inr (2, [.inr (rv 37)])) := rfl
theorem h_56 : shp[56]? = some (.inr (8, [.inr (rv 57), .inr (rv 58), .inr (rv 59), .inr (rv 60), .inr (rv 61), .inr (rv 62), .inl 0, .inl 0, .inl 0, .inl 0, .inl 0, .inl 0])) := rfl
theorem h_57 : shp[57]? = some (.inl (0, 5, none)) := rfl
theorem h_58 : shp[58]? = some (.inl (0, 3, none)) := rfl
theorem h_59 : shp[59]? = some (.inl (0, 15, none)) := rfl
theorem h_60 : shp[60]? = some (.inl (0, 15, none)) := rfl
theorem h_61 : shp[61]? = some (.inl (0, 15, none)) := rfl
theorem h_62 : shp[62]? = some (.inl (3, 3, some (rf3 63))) := rfl
theorem h_63 : shp[63]? = some (.inr (7, [.inr (rv 64), .inr (rv 65), .inl 0, .inl 0, .inl 0])) := rfl
theorem h_64 : shp[64]? = some (.inl (0, 40, none)) := rfl
theorem h_65 : shp[65]? = some (.inl (0, 40, none)) := rfl
theorem h_66 : shp[66]? = some (.inr (7, [.inr (rv 67), .inr (rv 68), .inl 0, .inl 0, .inl 0])) := rfl
theorem h_67 : shp[67]? = some (.inl (0, 40, none)) := rfl
theorem h_68 : shp[68]? = some (.inl (0, 40, none)) := rfl
theorem h_69 : shp[69]? = some (.inr (7, [.inr (rv 70), .inr (rv 71), .inl 0, .inl 0, .inl 0])) := rfl
theorem h_70 : shp[70]? = some (.inl (0, 40, none)) := rfl
theorem h_71 : shp[71]? = some (.inl (0, 40, none)) := rfl
theorem h_72 : shp[72]? = some (.inr (8, [.inr (rv 73), .inr (rv 74), .inr (rv 75), .inr (rv 76), .inr (rv 77), .inr (rv 78), .inl 0, .inl 0, .inl 0, .inl 0, .inl 0, .inl 0])) := rfl
theorem h_73 : shp[73]? = some (.inl (0, 5, none)) := rfl
theorem h_74 : shp[74]? = some (.inl (0, 3, none)) := rfl
theorem h_75 : shp[75]? = some (.inl (0, 15, none)) := rfl
theorem h_76 : shp[76]? = some (.inl (0, 15, none)) := rfl
theorem h_77 : shp[77]? = some (.inl (0, 15, none)) := rfl
theorem h_78 : shp[78]? = some (.inl (3, 3, some (rf3 79))) := rfl
theorem h_79 : shp[79]? = some (.inr (7, [.inr (rv 80), .inr (rv 81), .inl 0, .inl 0, .inl 0])) := rfl
theorem h_80 : shp[80]? = some (.inl (0, 40, none)) := rfl
theorem h_81 : shp[81]? = some (.inl (0, 40, none)) := rfl
theorem h_82 : shp[82]? = some (.inr (7, [.inr (rv 83), .inr (rv 84), .inl 0, .inl 0, .inl 0])) := rfl
theorem h_83 : shp[83]? = some (.inl (0, 40, none)) := rfl
theorem h_84 : shp[84]? = some (.inl (0, 40, none)) := rfl
theorem h_85 : shp[85]? = some (.inr (7, [.inr (rv 86), .inr (rv 87), .inl 0, .inl 0, .inl 0])) := rfl
theorem h_86 : shp[86]? = some (.inl (0, 40, none)) := rfl
theorem h_87 : shp[87]? = some (.inl (0, 40, none)) := rfl
theorem h_88 : shp[88]? = some (.inr (11, [.inr (rv 89), .inr (rv 90), .inr (rv 91), .inl 0, .inl 0, .inl 0, .inr (rv 92), .inl 0, .inr (rv 93), .inl 0, .inr (rv 94), .inl 1, .inr (rv 95), .inl 0, .inr (rv 96), .inr (rv 97), .inr (rv 98), .inr (rv 99), .inl 0, .inl 0, .inl 0, .inr (rv 100), .inr (rv 101), .inr (rv 102), .inr (rv 103), .inr (rv 104), .inr (rv 105), .inr (rv 106), .inr (rv 107)])) := rfl
theorem h_89 : shp[89]? = some (.inl (0, 182, none)) := rfl
theorem h_90 : shp[90]? = some (.inl (0, 364, none)) := rfl
theorem h_91 : shp[91]? = some (.inl (2, 2, none)) := rfl
theorem h_92 : shp[92]? = some (.inl (1, 64, none)) := rfl
theorem h_93 : shp[93]? = some (.inl (0, 128, none)) := rfl
theorem h_94 : shp[94]? = some (.inl (1, 5, none)) := rfl
theorem h_95 : shp[95]? = some (.inl (0, 16, none)) := rfl
theorem h_96 : shp[96]? = some (.inl (1, 13, none)) := rfl
theorem h_97 : shp[97]? = some (.inl (0, 3, none)) := rfl
theorem h_98 : shp[98]? = some (.inl (0, 3, none)) := rfl
theorem h_99 : shp[99]? = some (.inl (0, 3, none)) := rfl
theorem h_100 : shp[100]? = some (.inl (0, 4, none)) := rfl
theorem h_101 : shp[101]? = some (.inl (0, 3, none)) := rfl
theorem h_102 : shp[102]? = some (.inl (0, 3, none)) := rfl
theorem h_103 : shp[103]? = some (.inl (0, 615, none)) := rfl
theorem h_104 : shp[104]? = some (.inl (0, 183, none)) := rfl
theorem h_105 : shp[105]? = some (.inl (0, 3, none)) := rfl
theorem h_106 : shp[106]? = some (.inl (0, 5, none)) := rfl
theorem h_107 : shp[107]? = some (.inl (0, 15, none)) := rfl
end
section
theorem run_mono {X : AX} : ∀ (n : Nat) {m d : Nat} {mr : MRec} {pc : Nat} {L : AL} {S : List AV} {M : AM} {c s : Nat} {r : Option AV × AM}, run X n d mr pc L S M c s = some r → n ≤ m → run X m d mr pc L S M c s = some r := by
  intro n
  induction n with
  | zero => intro m d mr pc L S M c s r h; cases h
  | succ n ih =>
    intro m d mr pc L S M c s r h hm
    match m, hm with
    | m + 1, hm =>
      have hm' : n ≤ m := by omega
      unfold run at h ⊢
      split at h
      · next ins len hd =>
        try rw [hd]
        try simp only
        split at h
        · next hlen =>
          try rw [if_pos hlen]
          split at h
          · next v hr => first | exact h | (rw [hr]; exact h)
          · next hr =>
            try rw [hr]
            try simp only
            split at h
            · next pc' L' S' M' c' s' hs => first | exact ih h hm' | (rw [hs]; exact ih h hm')
            · next hs =>
              try rw [hs]
              try simp only
              split at h
              · next mr' As r' hc =>
                try rw [hc]
                try simp only
                split at h
                · cases h
                · next d' =>
                  split at h
                  · next hcc =>
                    try rw [if_pos hcc]
                    split at h
                    · next v M' hrun =>
                      rw [ih hrun hm']
                      exact ih h hm'
                    · cases h
                  · cases h
              · cases h
        · cases h
      · cases h
/-- the interpreter comes to a return, with Q -/
def Ev (X : AX) (c s d : Nat) (mr : MRec) (pc : Nat) (L : AL) (S : List AV) (σ : SG) (Q : Option AV → SG → Prop) : Prop := ∃ (n : Nat) (v : Option AV) (σ' : SG), run X n d mr pc L S (mem σ) c s = some (v, mem σ') ∧ Q v σ'
section EV
variable {X : AX} {c s d : Nat} {mr : MRec} {pc pc' : Nat} {L L' : AL} {S S' : List AV} {σ σ' : SG} {Q : Option AV → SG → Prop}
theorem Ev.imp {Q' : Option AV → SG → Prop} (h : Ev X c s d mr pc L S σ Q) (hq : ∀ v σ', Q v σ' → Q' v σ') : Ev X c s d mr pc L S σ Q' := by
  obtain ⟨n, v, σ2, a, b⟩ := h
  exact ⟨n, v, σ2, a, hq _ _ b⟩
theorem e_stp {ins : Instr} {len : Nat} (hd : decode mr.2.1 pc = .ok (ins, len)) (hlen : lenOK ins len = true) (hr : rtn mr ins S = none) (hs : stp X mr d ins pc L S (mem σ) c s = some (pc', L', S', mem σ', c, s)) (K : Ev X c s d mr pc' L' S' σ' Q) : Ev X c s d mr pc L S σ Q := by
  obtain ⟨n, v, σ2, h, q⟩ := K
  refine ⟨n + 1, v, σ2, ?_, q⟩
  unfold run
  rw [hd]
  simp only [hlen, if_true, hr, hs]
  exact h
def rg (x : Int) : Prop := -2147483648 ≤ x ∧ x ≤ 2147483647
theorem rg_to {x : Int} (h : rg x) : (Int32.ofInt x).toInt = x := Int32.toInt_ofInt_of_le (by have := h.1; omega) (by have := h.2; omega)
theorem rg_lt {x y : Int} (hx : rg x) (hy : rg y) : Int32.ofInt x < Int32.ofInt y ↔ x < y := by rw [Int32.lt_iff_toInt_lt, rg_to hx, rg_to hy]
theorem rg_le {x y : Int} (hx : rg x) (hy : rg y) : Int32.ofInt x ≤ Int32.ofInt y ↔ x ≤ y := by rw [Int32.le_iff_toInt_le, rg_to hx, rg_to hy]
theorem rg_eq {x y : Int} (hx : rg x) (hy : rg y) : Int32.ofInt x = Int32.ofInt y ↔ x = y := by rw [← Int32.toInt_inj, rg_to hx, rg_to hy]
theorem e_iload_n {k : Fin 4} {z : Int} (hd : decode mr.2.1 pc = .ok (.iload_n k, 1)) (hp : pc + 1 = pc') (hl : L[(k : Nat)]? = some (some (iv z))) (K : Ev X c s d mr pc' L (iv z :: S) σ Q) : Ev X c s d mr pc L S σ Q := by
  subst hp; exact e_stp hd rfl rfl (by simp only [stp, ldI, hl, Option.map_some]) K
theorem e_iload {k : Nat} {z : Int} (hd : decode mr.2.1 pc = .ok (.iload k, 2)) (hp : pc + 2 = pc') (hl : L[k]? = some (some (iv z))) (K : Ev X c s d mr pc' L (iv z :: S) σ Q) : Ev X c s d mr pc L S σ Q := by
  subst hp; exact e_stp hd rfl rfl (by simp only [stp, ldI, hl, Option.map_some]) K
theorem e_lload_n {k : Fin 4} {z : Int64} (hd : decode mr.2.1 pc = .ok (.lload_n k, 1)) (hp : pc + 1 = pc') (hl : L[(k : Nat)]? = some (some (jv z))) (K : Ev X c s d mr pc' L (jv z :: S) σ Q) : Ev X c s d mr pc L S σ Q := by
  subst hp; exact e_stp hd rfl rfl (by simp only [stp, ldJ, hl, Option.map_some]) K
theorem e_lload {k : Nat} {z : Int64} (hd : decode mr.2.1 pc = .ok (.lload k, 2)) (hp : pc + 2 = pc') (hl : L[k]? = some (some (jv z))) (K : Ev X c s d mr pc' L (jv z :: S) σ Q) : Ev X c s d mr pc L S σ Q := by
  subst hp; exact e_stp hd rfl rfl (by simp only [stp, ldJ, hl, Option.map_some]) K
theorem e_aload_n {k : Fin 4} {z : Nat} (hd : decode mr.2.1 pc = .ok (.aload_n k, 1)) (hp : pc + 1 = pc') (hl : L[(k : Nat)]? = some (some (rv z))) (K : Ev X c s d mr pc' L (rv z :: S) σ Q) : Ev X c s d mr pc L S σ Q := by
  subst hp; exact e_stp hd rfl rfl (by simp only [stp, ldR, hl, Option.map_some]) K
theorem e_aload {k : Nat} {z : Nat} (hd : decode mr.2.1 pc = .ok (.aload k, 2)) (hp : pc + 2 = pc') (hl : L[k]? = some (some (rv z))) (K : Ev X c s d mr pc' L (rv z :: S) σ Q) : Ev X c s d mr pc L S σ Q := by
  subst hp; exact e_stp hd rfl rfl (by simp only [stp, ldR, hl, Option.map_some]) K
theorem e_scr {k : Fin 4} (hd : decode mr.2.1 pc = .ok (.aload_n k, 1)) (hp : pc + 1 = pc') (hl : L[(k : Nat)]? = some (some (sv 2))) (K : Ev X c s d mr pc' L (sv 2 :: S) σ Q) : Ev X c s d mr pc L S σ Q := by
  subst hp; exact e_stp hd rfl rfl (by simp only [stp, ldR, hl, Option.map_some]) K
theorem e_istore_n {k : Fin 4} {z : Int} (hd : decode mr.2.1 pc = .ok (.istore_n k, 1)) (hp : pc + 1 = pc') (hk : (k : Nat) < mr.2.2.1) (hl : st1 L k (iv z) = L') (K : Ev X c s d mr pc' L' S σ Q) : Ev X c s d mr pc L (iv z :: S) σ Q := by
  subst hp; exact e_stp hd rfl rfl (by simp only [stp, hk, if_true, hl]) K
theorem e_istore {k : Nat} {z : Int} (hd : decode mr.2.1 pc = .ok (.istore k, 2)) (hp : pc + 2 = pc') (hk : k < mr.2.2.1) (hl : st1 L k (iv z) = L') (K : Ev X c s d mr pc' L' S σ Q) : Ev X c s d mr pc L (iv z :: S) σ Q := by
  subst hp; exact e_stp hd rfl rfl (by simp only [stp, hk, if_true, hl]) K
theorem e_lstore_n {k : Fin 4} {z : Int64} (hd : decode mr.2.1 pc = .ok (.lstore_n k, 1)) (hp : pc + 1 = pc') (hk : (k : Nat) + 1 < mr.2.2.1) (hl : st2 L k (jv z) = L') (K : Ev X c s d mr pc' L' S σ Q) : Ev X c s d mr pc L (jv z :: S) σ Q := by
  subst hp; exact e_stp hd rfl rfl (by simp only [stp, hk, if_true, hl]) K
theorem e_lstore {k : Nat} {z : Int64} (hd : decode mr.2.1 pc = .ok (.lstore k, 2)) (hp : pc + 2 = pc') (hk : k + 1 < mr.2.2.1) (hl : st2 L k (jv z) = L') (K : Ev X c s d mr pc' L' S σ Q) : Ev X c s d mr pc L (jv z :: S) σ Q := by
  subst hp; exact e_stp hd rfl rfl (by simp only [stp, hk, if_true, hl]) K
theorem e_astore_n {k : Fin 4} {z : Nat} (hd : decode mr.2.1 pc = .ok (.astore_n k, 1)) (hp : pc + 1 = pc') (hk : (k : Nat) < mr.2.2.1) (hl : st1 L k (rv z) = L') (K : Ev X c s d mr pc' L' S σ Q) : Ev X c s d mr pc L (rv z :: S) σ Q := by
  subst hp; exact e_stp hd rfl rfl (by simp only [stp, hk, if_true, hl]) K
theorem e_astore {k : Nat} {z : Nat} (hd : decode mr.2.1 pc = .ok (.astore k, 2)) (hp : pc + 2 = pc') (hk : k < mr.2.2.1) (hl : st1 L k (rv z) = L') (K : Ev X c s d mr pc' L' S σ Q) : Ev X c s d mr pc L (rv z :: S) σ Q := by
  subst hp; exact e_stp hd rfl rfl (by simp only [stp, hk, if_true, hl]) K
theorem e_iinc {k : Nat} {z n : Int} (hd : decode mr.2.1 pc = .ok (.iinc k n, 3)) (hp : pc + 3 = pc') (h : L[k]? = some (some (iv z))) (hk : k < mr.2.2.1) (hl : st1 L k (iv (z + n)) = L') (K : Ev X c s d mr pc' L' S σ Q) : Ev X c s d mr pc L S σ Q := by
  subst hp; exact e_stp hd rfl rfl (by simp only [stp, h, hk, if_true, hl]) K
theorem e_iconst {n : Int} (hd : decode mr.2.1 pc = .ok (.iconst n, 1)) (hp : pc + 1 = pc') (K : Ev X c s d mr pc' L (iv n :: S) σ Q) : Ev X c s d mr pc L S σ Q := by
  subst hp; exact e_stp hd rfl rfl rfl K
theorem e_bipush {n z : Int} (hd : decode mr.2.1 pc = .ok (.bipush n, 2)) (hp : pc + 2 = pc') (hz : (Int8.ofInt n).toInt = z) (K : Ev X c s d mr pc' L (iv z :: S) σ Q) : Ev X c s d mr pc L S σ Q := by
  subst hp; subst hz; exact e_stp hd rfl rfl rfl K
theorem e_sipush {n z : Int} (hd : decode mr.2.1 pc = .ok (.sipush n, 3)) (hp : pc + 3 = pc') (hz : (Int16.ofInt n).toInt = z) (K : Ev X c s d mr pc' L (iv z :: S) σ Q) : Ev X c s d mr pc L S σ Q := by
  subst hp; subst hz; exact e_stp hd rfl rfl rfl K
theorem e_lconst {n : Fin 2} {z : Int64} (hd : decode mr.2.1 pc = .ok (.lconst n, 1)) (hp : pc + 1 = pc') (hz : Int64.ofNat n = z) (K : Ev X c s d mr pc' L (jv z :: S) σ Q) : Ev X c s d mr pc L S σ Q := by
  subst hp; subst hz; exact e_stp hd rfl rfl rfl K
theorem e_ldc2 {k : Nat} {z : Int64} (hd : decode mr.2.1 pc = .ok (.ldc2_w k, 3)) (hp : pc + 3 = pc') (hz : lcn mr.2.2.2.2.2.2 k = some z) (K : Ev X c s d mr pc' L (jv z :: S) σ Q) : Ev X c s d mr pc L S σ Q := by
  subst hp; exact e_stp hd rfl rfl (by simp only [stp, hz, Option.map_some]) K
theorem e_iadd {x y : Int} (hd : decode mr.2.1 pc = .ok (.iadd, 1)) (hp : pc + 1 = pc') (K : Ev X c s d mr pc' L (iv (x + y) :: S) σ Q) : Ev X c s d mr pc L (iv y :: iv x :: S) σ Q := by
  subst hp; exact e_stp hd rfl rfl rfl K
theorem e_isub {x y : Int} (hd : decode mr.2.1 pc = .ok (.isub, 1)) (hp : pc + 1 = pc') (K : Ev X c s d mr pc' L (iv (x - y) :: S) σ Q) : Ev X c s d mr pc L (iv y :: iv x :: S) σ Q := by
  subst hp; exact e_stp hd rfl rfl rfl K
theorem e_imul {x y : Int} (hd : decode mr.2.1 pc = .ok (.imul, 1)) (hp : pc + 1 = pc') (K : Ev X c s d mr pc' L (iv (x * y) :: S) σ Q) : Ev X c s d mr pc L (iv y :: iv x :: S) σ Q := by
  subst hp; exact e_stp hd rfl rfl rfl K
theorem e_ineg {x : Int} (hd : decode mr.2.1 pc = .ok (.ineg, 1)) (hp : pc + 1 = pc') (K : Ev X c s d mr pc' L (iv (-x) :: S) σ Q) : Ev X c s d mr pc L (iv x :: S) σ Q := by
  subst hp; exact e_stp hd rfl rfl rfl K
theorem e_iand {x y : Int} (hd : decode mr.2.1 pc = .ok (.iand, 1)) (hp : pc + 1 = pc') (K : Ev X c s d mr pc' L (iv (Int32.ofInt x &&& Int32.ofInt y).toInt :: S) σ Q) : Ev X c s d mr pc L (iv y :: iv x :: S) σ Q := by
  subst hp; exact e_stp hd rfl rfl rfl K
theorem div_ok {x y : Int} (hx : 0 ≤ x) (hx2 : x ≤ 2147483647) (hy : 0 < y) (hy2 : y ≤ 2147483647) : (Int32.ofInt x / Int32.ofInt y).toInt = x / y := by
  have e1 : Int32.ofInt x = nI x.toNat := by
    apply Int32.toInt_inj.mp
    rw [rg_to ⟨by omega, hx2⟩, nI_toInt (by omega)]
    omega
  have e2 : Int32.ofInt y = nI y.toNat := by
    apply Int32.toInt_inj.mp
    rw [rg_to ⟨by omega, hy2⟩, nI_toInt (by omega)]
    omega
  rw [e1, e2, pk_div (by omega) (by omega) (by omega), nI_toInt]
  · rw [Int.natCast_ediv, Int.toNat_of_nonneg hx, Int.toNat_of_nonneg (by omega)]
  · have := Nat.div_le_self x.toNat y.toNat
    omega
theorem e_idiv {x y : Int} (hd : decode mr.2.1 pc = .ok (.idiv, 1)) (hp : pc + 1 = pc') (hx : 0 ≤ x) (hx2 : x ≤ 2147483647) (hy : 0 < y) (hy2 : y ≤ 2147483647) (K : Ev X c s d mr pc' L (iv (x / y) :: S) σ Q) : Ev X c s d mr pc L (iv y :: iv x :: S) σ Q := by
  subst hp
  rw [← div_ok hx hx2 hy hy2] at K
  have hn : ¬ Int32.ofInt y = 0 := fun q => by
    have : Int32.ofInt y = Int32.ofInt 0 := q
    rw [rg_eq ⟨by omega, hy2⟩ ⟨by omega, by omega⟩] at this
    omega
  exact e_stp hd rfl rfl (by simp only [stp, hn, if_false]) K
theorem e_ladd {x y : Int64} (hd : decode mr.2.1 pc = .ok (.ladd, 1)) (hp : pc + 1 = pc') (K : Ev X c s d mr pc' L (jv (x + y) :: S) σ Q) : Ev X c s d mr pc L (jv y :: jv x :: S) σ Q := by
  subst hp; exact e_stp hd rfl rfl rfl K
theorem e_lsub {x y : Int64} (hd : decode mr.2.1 pc = .ok (.lsub, 1)) (hp : pc + 1 = pc') (K : Ev X c s d mr pc' L (jv (x - y) :: S) σ Q) : Ev X c s d mr pc L (jv y :: jv x :: S) σ Q := by
  subst hp; exact e_stp hd rfl rfl rfl K
theorem e_lmul {x y : Int64} (hd : decode mr.2.1 pc = .ok (.lmul, 1)) (hp : pc + 1 = pc') (K : Ev X c s d mr pc' L (jv (x * y) :: S) σ Q) : Ev X c s d mr pc L (jv y :: jv x :: S) σ Q := by
  subst hp; exact e_stp hd rfl rfl rfl K
theorem e_ldiv {x y : Int64} (hd : decode mr.2.1 pc = .ok (.ldiv, 1)) (hp : pc + 1 = pc') (hy : ¬ y = 0) (K : Ev X c s d mr pc' L (jv (x / y) :: S) σ Q) : Ev X c s d mr pc L (jv y :: jv x :: S) σ Q := by
  subst hp; exact e_stp hd rfl rfl (by simp only [stp, hy, if_false]) K
theorem e_lor {x y : Int64} (hd : decode mr.2.1 pc = .ok (.lor, 1)) (hp : pc + 1 = pc') (K : Ev X c s d mr pc' L (jv (x ||| y) :: S) σ Q) : Ev X c s d mr pc L (jv y :: jv x :: S) σ Q := by
  subst hp; exact e_stp hd rfl rfl rfl K
theorem e_lneg {x : Int64} (hd : decode mr.2.1 pc = .ok (.lneg, 1)) (hp : pc + 1 = pc') (K : Ev X c s d mr pc' L (jv (-x) :: S) σ Q) : Ev X c s d mr pc L (jv x :: S) σ Q := by
  subst hp; exact e_stp hd rfl rfl rfl K
theorem e_lshl {x : Int64} {y : Int} (hd : decode mr.2.1 pc = .ok (.lshl, 1)) (hp : pc + 1 = pc') (K : Ev X c s d mr pc' L (jv (x <<< ((Int32.ofInt y).toInt64 &&& 63)) :: S) σ Q) : Ev X c s d mr pc L (iv y :: jv x :: S) σ Q := by
  subst hp; exact e_stp hd rfl rfl rfl K
theorem e_lcmp {x y : Int64} (hd : decode mr.2.1 pc = .ok (.lcmp, 1)) (hp : pc + 1 = pc') (K : Ev X c s d mr pc' L (iv (lg_cmp x y).toInt :: S) σ Q) : Ev X c s d mr pc L (jv y :: jv x :: S) σ Q := by
  subst hp; exact e_stp hd rfl rfl rfl K
theorem e_i2l {x : Int} (hd : decode mr.2.1 pc = .ok (.i2l, 1)) (hp : pc + 1 = pc') (hx : rg x) (K : Ev X c s d mr pc' L (jv (Int64.ofInt x) :: S) σ Q) : Ev X c s d mr pc L (iv x :: S) σ Q := by
  subst hp
  have e1 : Int64.ofInt x = (Int32.ofInt x).toInt64 := by
    apply Int64.toInt_inj.mp
    have := hx.1
    have := hx.2
    rw [Int32.toInt_toInt64, rg_to hx, Int64.toInt_ofInt_of_le (by omega) (by omega)]
  rw [e1] at K
  exact e_stp hd rfl rfl rfl K
theorem e_l2i {x : Int64} (hd : decode mr.2.1 pc = .ok (.l2i, 1)) (hp : pc + 1 = pc') (K : Ev X c s d mr pc' L (iv x.toInt32.toInt :: S) σ Q) : Ev X c s d mr pc L (jv x :: S) σ Q := by
  subst hp; exact e_stp hd rfl rfl rfl K
theorem jmp_of {off : Int} {t : Nat} (h : (pc : Int) + off = (t : Int)) : jmp pc off = some t := by
  unfold jmp
  rw [h, if_pos (by omega)]
  simp
theorem e_goto {off : Int} (hd : decode mr.2.1 pc = .ok (.goto off, 3)) (hp : (pc : Int) + off = (pc' : Int)) (K : Ev X c s d mr pc' L S σ Q) : Ev X c s d mr pc L S σ Q :=
  e_stp hd rfl rfl (by simp only [stp, jmp_of hp, Option.map_some]) K
theorem e_if {o : Jvm.ClassFile.Cond} {off x : Int} {t : Nat} (hd : decode mr.2.1 pc = .ok (.ifCond o off, 3)) (hp : (pc : Int) + off = (t : Int)) (hp2 : pc + 3 = pc') (ht : tst o x 0 = true → Ev X c s d mr t L S σ Q) (hf : tst o x 0 = false → Ev X c s d mr pc' L S σ Q) : Ev X c s d mr pc L (iv x :: S) σ Q := by
  subst hp2
  cases h : tst o x 0 with
  | true => exact e_stp hd rfl rfl (by simp only [stp, jmp_of hp, Option.map_some, h, if_true]) (ht h)
  | false => exact e_stp hd rfl rfl (by simp only [stp, jmp_of hp, Option.map_some, h]; rfl) (hf h)
theorem e_icmp {o : Jvm.ClassFile.Cond} {off x y : Int} {t : Nat} (hd : decode mr.2.1 pc = .ok (.if_icmp o off, 3)) (hp : (pc : Int) + off = (t : Int)) (hp2 : pc + 3 = pc') (ht : tst o x y = true → Ev X c s d mr t L S σ Q) (hf : tst o x y = false → Ev X c s d mr pc' L S σ Q) : Ev X c s d mr pc L (iv y :: iv x :: S) σ Q := by
  subst hp2
  cases h : tst o x y with
  | true => exact e_stp hd rfl rfl (by simp only [stp, jmp_of hp, Option.map_some, h, if_true]) (ht h)
  | false => exact e_stp hd rfl rfl (by simp only [stp, jmp_of hp, Option.map_some, h]; rfl) (hf h)
/-- the test of two ints in range, as integers -/
def tsI (o : Jvm.ClassFile.Cond) (x y : Int) : Prop := match o with
  | .eq => x = y
  | .ne => x ≠ y
  | .lt => x < y
  | .ge => y ≤ x
  | .gt => y < x
  | .le => x ≤ y
theorem tst_iff {o : Jvm.ClassFile.Cond} {x y : Int} (hx : rg x) (hy : rg y) : tst o x y = true ↔ tsI o x y := by
  cases o <;> simp only [tst, tsI, decide_eq_true_eq, rg_eq hx hy, rg_lt hx hy, rg_le hx hy, rg_lt hy hx, rg_le hy hx, ne_eq]
theorem e_ifI {o : Jvm.ClassFile.Cond} {off x : Int} {t : Nat} (hd : decode mr.2.1 pc = .ok (.ifCond o off, 3)) (hp : (pc : Int) + off = (t : Int)) (hp2 : pc + 3 = pc') (hx : rg x) (ht : tsI o x 0 → Ev X c s d mr t L S σ Q) (hf : ¬ tsI o x 0 → Ev X c s d mr pc' L S σ Q) : Ev X c s d mr pc L (iv x :: S) σ Q :=
  e_if hd hp hp2 (fun h => ht ((tst_iff hx ⟨by omega, by omega⟩).mp h)) (fun h => hf (fun q => by rw [(tst_iff hx ⟨by omega, by omega⟩).mpr q] at h; cases h))
theorem e_icmpI {o : Jvm.ClassFile.Cond} {off x y : Int} {t : Nat} (hd : decode mr.2.1 pc = .ok (.if_icmp o off, 3)) (hp : (pc : Int) + off = (t : Int)) (hp2 : pc + 3 = pc') (hx : rg x) (hy : rg y) (ht : tsI o x y → Ev X c s d mr t L S σ Q) (hf : ¬ tsI o x y → Ev X c s d mr pc' L S σ Q) : Ev X c s d mr pc L (iv y :: iv x :: S) σ Q :=
  e_icmp hd hp hp2 (fun h => ht ((tst_iff hx hy).mp h)) (fun h => hf (fun q => by rw [(tst_iff hx hy).mpr q] at h; cases h))
/-- the test behind a comparison of longs -/
def tsJ (o : Jvm.ClassFile.Cond) (x y : Int64) : Prop := match o with
  | .eq => x = y
  | .ne => x ≠ y
  | .lt => x < y
  | .ge => y ≤ x
  | .gt => y < x
  | .le => x ≤ y
theorem lg_cases (x y : Int64) : (x < y ∧ (lg_cmp x y).toInt = -1) ∨ (x = y ∧ (lg_cmp x y).toInt = 0) ∨ (y < x ∧ (lg_cmp x y).toInt = 1) := by
  unfold lg_cmp
  rcases Int.lt_trichotomy x.toInt y.toInt with h | h | h
  · left
    have h1 : x < y := Int64.lt_iff_toInt_lt.mpr h
    have h2 : ¬ y < x := fun q => by have := Int64.lt_iff_toInt_lt.mp q; omega
    have h3 : ¬ x = y := fun q => by rw [q] at h; omega
    refine ⟨h1, ?_⟩
    simp [h1, h2, h3]
  · right; left
    have h1 : x = y := Int64.toInt_inj.mp h
    subst h1
    have h2 : ¬ x < x := fun q => by have := Int64.lt_iff_toInt_lt.mp q; omega
    refine ⟨rfl, ?_⟩
    simp [h2]
  · right; right
    have h1 : y < x := Int64.lt_iff_toInt_lt.mpr h
    have h2 : ¬ x < y := fun q => by have := Int64.lt_iff_toInt_lt.mp q; omega
    have h3 : ¬ x = y := fun q => by rw [q] at h; omega
    refine ⟨h1, ?_⟩
    simp [h1, h2, h3]
theorem tsJ_iff {o : Jvm.ClassFile.Cond} {x y : Int64} : tsI o (lg_cmp x y).toInt 0 ↔ tsJ o x y := by
  have key : ∀ a b : Int64, (a < b ↔ a.toInt < b.toInt) ∧ (a ≤ b ↔ a.toInt ≤ b.toInt) ∧ (a = b ↔ a.toInt = b.toInt) := fun a b => ⟨Int64.lt_iff_toInt_lt, Int64.le_iff_toInt_le, Int64.toInt_inj.symm⟩
  have h := lg_cases x y
  simp only [(key _ _).1, (key _ _).2.2] at h
  cases o <;> simp only [tsI, tsJ, (key _ _).1, (key _ _).2.1, (key _ _).2.2, ne_eq] <;> omega
theorem e_ifJ {o : Jvm.ClassFile.Cond} {off : Int} {x y : Int64} {t : Nat} (hd : decode mr.2.1 pc = .ok (.ifCond o off, 3)) (hp : (pc : Int) + off = (t : Int)) (hp2 : pc + 3 = pc') (ht : tsJ o x y → Ev X c s d mr t L S σ Q) (hf : ¬ tsJ o x y → Ev X c s d mr pc' L S σ Q) : Ev X c s d mr pc L (iv (lg_cmp x y).toInt :: S) σ Q := by
  have hr : rg (lg_cmp x y).toInt := by
    have h := lg_cases x y
    constructor <;> omega
  exact e_ifI hd hp hp2 hr (fun h => ht (tsJ_iff.mp h)) (fun h => hf (fun q => h (tsJ_iff.mpr q)))
theorem e_table {dflt lo hi x off : Int} {offs : Array Int} {len : Nat} (hd : decode mr.2.1 pc = .ok (.tableswitch dflt lo hi offs, len)) (hx : rg x) (ho : (if x < lo ∨ hi < x then some dflt else offs[(x - lo).toNat]?) = some off) (hp : (pc : Int) + off = (pc' : Int)) (K : Ev X c s d mr pc' L S σ Q) : Ev X c s d mr pc L (iv x :: S) σ Q :=
  e_stp hd rfl rfl (by simp only [stp, swt, rg_to hx, ho, jmp_of hp, Option.map_some]) K
theorem e_lookup {dflt x off : Int} {ps : Array (Int × Int)} {len : Nat} (hd : decode mr.2.1 pc = .ok (.lookupswitch dflt ps, len)) (hx : rg x) (hs : (ps.toList.zip (ps.toList.drop 1)).all (fun (a, next) => a.1 < next.1) = true) (ho : Op.lookupswitch.offset ps.toList dflt x = off) (hp : (pc : Int) + off = (pc' : Int)) (K : Ev X c s d mr pc' L S σ Q) : Ev X c s d mr pc L (iv x :: S) σ Q :=
  e_stp hd rfl rfl (by simp only [stp, rg_to hx, hs, ho, if_true, jmp_of hp, Option.map_some]) K
theorem e_dup {v : AV} (hd : decode mr.2.1 pc = .ok (.dup, 1)) (hp : pc + 1 = pc') (hc : cat v = 1) (K : Ev X c s d mr pc' L (v :: v :: S) σ Q) : Ev X c s d mr pc L (v :: S) σ Q := by
  subst hp; exact e_stp hd rfl rfl (by simp only [stp, hc, if_true]) K
theorem e_dup2 {v w : AV} (hd : decode mr.2.1 pc = .ok (.dup2, 1)) (hp : pc + 1 = pc') (hc : cat v = 1 ∧ cat w = 1) (K : Ev X c s d mr pc' L (v :: w :: v :: w :: S) σ Q) : Ev X c s d mr pc L (v :: w :: S) σ Q := by
  subst hp; exact e_stp hd rfl rfl (by simp only [stp, hc, and_self, if_true]) K
theorem e_pop {v : AV} (hd : decode mr.2.1 pc = .ok (.pop, 1)) (hp : pc + 1 = pc') (hc : cat v = 1) (K : Ev X c s d mr pc' L S σ Q) : Ev X c s d mr pc L (v :: S) σ Q := by
  subst hp; exact e_stp hd rfl rfl (by simp only [stp, hc, if_true]) K
end EV
end
section
section EVM
variable {X : AX} {c s d : Nat} {mr : MRec} {pc pc' : Nat} {L L' : AL} {S S' : List AV} {σ σ' : SG} {Q : Option AV → SG → Prop}
theorem o_get {q ci : Nat} {fs : List (Nat ⊕ AV)} (h : shp[q]? = some (.inr (ci, fs))) : (mem σ)[q]? = some (.inr (ci, fs.mapIdx (entF σ q))) := mem_get h
theorem a_get {q n : Nat} (h : shp[q]? = some (.inl (0, n, none))) : (mem σ)[q]? = some (.inl (0, n, .inl (σ.1 q))) := mem_get h
theorem z_get {q n : Nat} (h : shp[q]? = some (.inl (2, n, none))) : (mem σ)[q]? = some (.inl (2, n, .inl (σ.1 q))) := mem_get h
theorem l_get {q n : Nat} (h : shp[q]? = some (.inl (1, n, none))) : (mem σ)[q]? = some (.inl (1, n, .inr (.inl (σ.2 q)))) := mem_get h
theorem r_get {q t n : Nat} {f : Int → Option Nat} (h : shp[q]? = some (.inl (t, n, some f))) : (mem σ)[q]? = some (.inl (t, n, .inr (.inr f))) := by
  have := mem_get (σ := σ) h
  rw [show mem σ = memS shp σ from rfl, this]
  unfold ent
  split
  · next h => cases h
  · next h => cases h
  · next h => cases h; rfl
  · next h => cases h
theorem e_getI {k q ci j : Nat} {fs : List (Nat ⊕ AV)} {v : Int} (hd : decode mr.2.1 pc = .ok (.getfield k, 3)) (hp : pc + 3 = pc') (hf : fld mr.2.2.2.2.2.2 k = some (ci, j)) (ho : shp[q]? = some (.inr (ci, fs))) (hj : fs[j]? = some (.inl 0)) (hv : σ.1 q j = v) (K : Ev X c s d mr pc' L (iv v :: S) σ Q) : Ev X c s d mr pc L (rv q :: S) σ Q := by
  subst hp; subst hv
  exact e_stp hd rfl rfl (by simp only [stp, hf, o_get ho, if_true, List.getElem?_mapIdx, hj, Option.map_some, entF]) K
theorem e_getJ {k q ci j : Nat} {fs : List (Nat ⊕ AV)} {v : Int64} (hd : decode mr.2.1 pc = .ok (.getfield k, 3)) (hp : pc + 3 = pc') (hf : fld mr.2.2.2.2.2.2 k = some (ci, j)) (ho : shp[q]? = some (.inr (ci, fs))) (hj : fs[j]? = some (.inl 1)) (hv : σ.2 q j = v) (K : Ev X c s d mr pc' L (jv v :: S) σ Q) : Ev X c s d mr pc L (rv q :: S) σ Q := by
  subst hp; subst hv
  exact e_stp hd rfl rfl (by simp only [stp, hf, o_get ho, if_true, List.getElem?_mapIdx, hj, Option.map_some, entF]) K
theorem e_getR {k q ci j : Nat} {fs : List (Nat ⊕ AV)} {v : AV} (hd : decode mr.2.1 pc = .ok (.getfield k, 3)) (hp : pc + 3 = pc') (hf : fld mr.2.2.2.2.2.2 k = some (ci, j)) (ho : shp[q]? = some (.inr (ci, fs))) (hj : fs[j]? = some (.inr v)) (K : Ev X c s d mr pc' L (v :: S) σ Q) : Ev X c s d mr pc L (rv q :: S) σ Q := by
  subst hp
  exact e_stp hd rfl rfl (by simp only [stp, hf, o_get ho, if_true, List.getElem?_mapIdx, hj, Option.map_some, entF]) K
theorem e_putI {k q ci j : Nat} {fs : List (Nat ⊕ AV)} {v : Int} (hd : decode mr.2.1 pc = .ok (.putfield k, 3)) (hp : pc + 3 = pc') (hf : fld mr.2.2.2.2.2.2 k = some (ci, j)) (ho : shp[q]? = some (.inr (ci, fs))) (hj : fs[j]? = some (.inl 0)) (hok : okv (tyT ci j) (iv v) = true) (hfin : finT ci j = false) (K : Ev X c s d mr pc' L S (upI σ q j v) Q) : Ev X c s d mr pc L (iv v :: rv q :: S) σ Q := by
  subst hp
  have hl : j < fs.length := (List.getElem?_eq_some_iff.mp hj).1
  refine e_stp hd rfl rfl ?_ K
  simp only [stp, hf, o_get ho, List.length_mapIdx, hl, hok, hfin, Bool.false_eq_true, false_implies, and_self, if_true]
  rw [show mem σ = memS shp σ from rfl, mem_setF ho hj]
  rfl
theorem e_putJ {k q ci j : Nat} {fs : List (Nat ⊕ AV)} {v : Int64} (hd : decode mr.2.1 pc = .ok (.putfield k, 3)) (hp : pc + 3 = pc') (hf : fld mr.2.2.2.2.2.2 k = some (ci, j)) (ho : shp[q]? = some (.inr (ci, fs))) (hj : fs[j]? = some (.inl 1)) (hok : okv (tyT ci j) (jv v) = true) (hfin : finT ci j = false) (K : Ev X c s d mr pc' L S (upJ σ q j v) Q) : Ev X c s d mr pc L (jv v :: rv q :: S) σ Q := by
  subst hp
  have hl : j < fs.length := (List.getElem?_eq_some_iff.mp hj).1
  refine e_stp hd rfl rfl ?_ K
  simp only [stp, hf, o_get ho, List.length_mapIdx, hl, hok, hfin, Bool.false_eq_true, false_implies, and_self, if_true]
  rw [show mem σ = memS shp σ from rfl, mem_setFJ ho hj]
  rfl
theorem e_stat {k : Nat} (hd : decode mr.2.1 pc = .ok (.getstatic k, 3)) (hp : pc + 3 = pc') (h9 : mr.2.2.2.2.2.2 = 9) (hk : k = 41) (K : Ev X c s d mr pc' L (sv 1 :: S) σ Q) : Ev X c s d mr pc L S σ Q := by
  subst hp; exact e_stp hd rfl rfl (by simp only [stp, h9, hk, and_self, if_true]) K
theorem inA_of {i : Int} {n : Nat} (h0 : 0 ≤ i) (h1 : i < n) (h2 : n < 2147483648) : inA i n = true := by
  simp only [inA, decide_eq_true_eq]; exact ⟨h0, h1, h2⟩
theorem e_iald {q n : Nat} {i v : Int} (hd : decode mr.2.1 pc = .ok (.iaload, 1)) (hp : pc + 1 = pc') (ha : shp[q]? = some (.inl (0, n, none))) (hn : n < 2147483648) (h0 : 0 ≤ i) (h1 : i < n) (hv : σ.1 q i = v) (K : Ev X c s d mr pc' L (iv v :: S) σ Q) : Ev X c s d mr pc L (iv i :: rv q :: S) σ Q := by
  subst hp; subst hv
  exact e_stp hd rfl rfl (by simp only [stp, a_get ha, inA_of h0 h1 hn, if_true]) K
theorem e_bald {q n : Nat} {i v : Int} (hd : decode mr.2.1 pc = .ok (.baload, 1)) (hp : pc + 1 = pc') (ha : shp[q]? = some (.inl (2, n, none))) (hn : n < 2147483648) (h0 : 0 ≤ i) (h1 : i < n) (hv : σ.1 q i = v) (K : Ev X c s d mr pc' L (iv v :: S) σ Q) : Ev X c s d mr pc L (iv i :: rv q :: S) σ Q := by
  subst hp; subst hv
  exact e_stp hd rfl rfl (by simp only [stp, z_get ha, inA_of h0 h1 hn, if_true]) K
theorem e_lald {q n : Nat} {i : Int} {v : Int64} (hd : decode mr.2.1 pc = .ok (.laload, 1)) (hp : pc + 1 = pc') (ha : shp[q]? = some (.inl (1, n, none))) (hn : n < 2147483648) (h0 : 0 ≤ i) (h1 : i < n) (hv : σ.2 q i = v) (K : Ev X c s d mr pc' L (jv v :: S) σ Q) : Ev X c s d mr pc L (iv i :: rv q :: S) σ Q := by
  subst hp; subst hv
  exact e_stp hd rfl rfl (by simp only [stp, l_get ha, inA_of h0 h1 hn, if_true]) K
theorem e_aald {q t n k : Nat} {f : Int → Option Nat} {i : Int} (hd : decode mr.2.1 pc = .ok (.aaload, 1)) (hp : pc + 1 = pc') (ha : shp[q]? = some (.inl (t, n, some f))) (ht : t = 3 ∨ t = 4) (hn : n < 2147483648) (h0 : 0 ≤ i) (h1 : i < n) (hv : f i = some k) (K : Ev X c s d mr pc' L (rv k :: S) σ Q) : Ev X c s d mr pc L (iv i :: rv q :: S) σ Q := by
  subst hp
  exact e_stp hd rfl rfl (by simp only [stp, r_get ha, inA_of h0 h1 hn, ht, and_self, if_true, hv, Option.map_some]) K
theorem e_root {i : Int} (hd : decode mr.2.1 pc = .ok (.iaload, 1)) (hp : pc + 1 = pc') (h0 : 0 ≤ i) (h1 : i < 13) (K : Ev X c s d mr pc' L (iv (rootZ i) :: S) σ Q) : Ev X c s d mr pc L (iv i :: sv 1 :: S) σ Q := by
  subst hp
  exact e_stp hd rfl rfl (by simp only [stp, inA_of (n := 13) h0 h1 (by decide), if_true]) K
theorem e_sld {i : Int} (hd : decode mr.2.1 pc = .ok (.iaload, 1)) (hp : pc + 1 = pc') (hn : X.1 < 2147483648) (h0 : 0 ≤ i) (h1 : i < X.1) (K : Ev X c s d mr pc' L (iv (X.2 i.toNat).toInt :: S) σ Q) : Ev X c s d mr pc L (iv i :: sv 2 :: S) σ Q := by
  subst hp
  exact e_stp hd rfl rfl (by simp only [stp, inA_of h0 h1 hn, if_true]) K
theorem e_slen (hd : decode mr.2.1 pc = .ok (.arraylength, 1)) (hp : pc + 1 = pc') (hn : X.1 < 2147483648) (K : Ev X c s d mr pc' L (iv X.1 :: S) σ Q) : Ev X c s d mr pc L (sv 2 :: S) σ Q := by
  subst hp
  have e1 : (Int32.ofNat X.1).toInt = X.1 := nI_toInt hn
  rw [← e1] at K
  exact e_stp hd rfl rfl rfl K
theorem e_iast {q n : Nat} {i v : Int} (hd : decode mr.2.1 pc = .ok (.iastore, 1)) (hp : pc + 1 = pc') (ha : shp[q]? = some (.inl (0, n, none))) (hn : n < 2147483648) (h0 : 0 ≤ i) (h1 : i < n) (K : Ev X c s d mr pc' L S (upI σ q i v) Q) : Ev X c s d mr pc L (iv v :: iv i :: rv q :: S) σ Q := by
  subst hp
  refine e_stp hd rfl rfl ?_ K
  simp only [stp, a_get ha, inA_of h0 h1 hn, if_true]
  rw [show mem σ = memS shp σ from rfl, mem_setA (by decide) ha]
  rfl
theorem e_bast {q n : Nat} {i v : Int} (hd : decode mr.2.1 pc = .ok (.bastore, 1)) (hp : pc + 1 = pc') (ha : shp[q]? = some (.inl (2, n, none))) (hn : n < 2147483648) (h0 : 0 ≤ i) (h1 : i < n) (hv : v = 0 ∨ v = 1) (K : Ev X c s d mr pc' L S (upI σ q i v) Q) : Ev X c s d mr pc L (iv v :: iv i :: rv q :: S) σ Q := by
  subst hp
  refine e_stp hd rfl rfl ?_ K
  simp only [stp, z_get ha, inA_of h0 h1 hn, hv, and_self, if_true]
  rw [show mem σ = memS shp σ from rfl, mem_setA (by decide) ha]
  rfl
theorem e_last {q n : Nat} {i : Int} {v : Int64} (hd : decode mr.2.1 pc = .ok (.lastore, 1)) (hp : pc + 1 = pc') (ha : shp[q]? = some (.inl (1, n, none))) (hn : n < 2147483648) (h0 : 0 ≤ i) (h1 : i < n) (K : Ev X c s d mr pc' L S (upJ σ q i v) Q) : Ev X c s d mr pc L (jv v :: iv i :: rv q :: S) σ Q := by
  subst hp
  refine e_stp hd rfl rfl ?_ K
  simp only [stp, l_get ha, inA_of h0 h1 hn, if_true]
  rw [show mem σ = memS shp σ from rfl, mem_setL ha]
  rfl
theorem e_max {k pp : Nat} {x y : Int} {dd : Nat} (hd : decode mr.2.1 pc = .ok (.invokestatic k, 3)) (hp : pc + 3 = pc') (hs : sp mr.2.2.2.2.2.2 k = some (8, pp)) (hx : rg x) (hy : rg y) (hr : (S.map cat).sum ≤ 8) (hc : c ≤ mr.2.2.2.2.1 ∧ s ≤ mr.2.2.2.2.2.1) (K : Ev X c s (dd + 1) mr pc' L (iv (max x y) :: S) σ Q) : Ev X c s (dd + 1) mr pc L (iv y :: iv x :: S) σ Q := by
  subst hp
  have e1 : (if Int32.ofInt x < Int32.ofInt y then y else x) = max x y := by
    rw [Int.max_def]
    by_cases h : x < y
    · rw [if_pos ((rg_lt hx hy).mpr h), if_pos (by omega)]
    · rw [if_neg (fun q => h ((rg_lt hx hy).mp q))]
      split <;> omega
  rw [← e1] at K
  exact e_stp hd rfl rfl (by simp only [stp, hs, hr, hc, Nat.le_add_left, and_self, if_true]) K
theorem e_min {k pp : Nat} {x y : Int} {dd : Nat} (hd : decode mr.2.1 pc = .ok (.invokestatic k, 3)) (hp : pc + 3 = pc') (hs : sp mr.2.2.2.2.2.2 k = some (9, pp)) (hx : rg x) (hy : rg y) (hr : (S.map cat).sum ≤ 8) (hc : c ≤ mr.2.2.2.2.1 ∧ s ≤ mr.2.2.2.2.2.1) (K : Ev X c s (dd + 1) mr pc' L (iv (min x y) :: S) σ Q) : Ev X c s (dd + 1) mr pc L (iv y :: iv x :: S) σ Q := by
  subst hp
  have e1 : (if Int32.ofInt y < Int32.ofInt x then y else x) = min x y := by
    rw [Int.min_def]
    by_cases h : y < x
    · rw [if_pos ((rg_lt hy hx).mpr h), if_neg (by omega)]
    · rw [if_neg (fun q => h ((rg_lt hy hx).mp q))]
      split <;> omega
  rw [← e1] at K
  exact e_stp hd rfl rfl (by simp only [stp, hs, hr, hc, Nat.le_add_left, and_self, if_true]) K
theorem e_maxl {k pp : Nat} {x y : Int64} {dd : Nat} (hd : decode mr.2.1 pc = .ok (.invokestatic k, 3)) (hp : pc + 3 = pc') (hs : sp mr.2.2.2.2.2.2 k = some (10, pp)) (hr : (S.map cat).sum ≤ 8) (hc : c ≤ mr.2.2.2.2.1 ∧ s ≤ mr.2.2.2.2.2.1) (K : Ev X c s (dd + 1) mr pc' L (jv (if y < x then x else y) :: S) σ Q) : Ev X c s (dd + 1) mr pc L (jv y :: jv x :: S) σ Q := by
  subst hp
  exact e_stp hd rfl rfl (by simp only [stp, hs, hr, hc, Nat.le_add_left, and_self, if_true]) K
theorem e_minl {k pp : Nat} {x y : Int64} {dd : Nat} (hd : decode mr.2.1 pc = .ok (.invokestatic k, 3)) (hp : pc + 3 = pc') (hs : sp mr.2.2.2.2.2.2 k = some (11, pp)) (hr : (S.map cat).sum ≤ 8) (hc : c ≤ mr.2.2.2.2.1 ∧ s ≤ mr.2.2.2.2.2.1) (K : Ev X c s (dd + 1) mr pc' L (jv (if y < x then y else x) :: S) σ Q) : Ev X c s (dd + 1) mr pc L (jv y :: jv x :: S) σ Q := by
  subst hp
  exact e_stp hd rfl rfl (by simp only [stp, hs, hr, hc, Nat.le_add_left, and_self, if_true]) K
theorem e_copy {k pp q q0 n0 n1 dd : Nat} {n dp sp0 : Int} (hd : decode mr.2.1 pc = .ok (.invokestatic k, 3)) (hp : pc + 3 = pc') (hs : sp mr.2.2.2.2.2.2 k = some (7, pp)) (ha0 : shp[q0]? = some (.inl (0, n0, none))) (ha1 : shp[q]? = some (.inl (0, n1, none))) (hn : 0 ≤ n ∧ 0 ≤ dp ∧ 0 ≤ sp0 ∧ sp0 + n ≤ n0 ∧ dp + n ≤ n1 ∧ n0 < 2147483648 ∧ n1 < 2147483648) (hr : (S.map cat).sum ≤ 8) (K : Ev X c s (dd + 1) mr pc' L S (upC σ q (cpyA (σ.1 q0) (σ.1 q) sp0 dp n)) Q) : Ev X c s (dd + 1) mr pc L (iv n :: iv dp :: rv q :: iv sp0 :: rv q0 :: S) σ Q := by
  subst hp
  refine e_stp hd rfl rfl ?_ K
  simp only [stp, hs, a_get ha0, a_get ha1, hn, hr, Nat.le_add_left, and_self, if_true]
  rw [show mem σ = memS shp σ from rfl, mem_setC ha1]
  rfl
theorem e_ret {ins : Instr} {len : Nat} {v : Option AV} (hd : decode mr.2.1 pc = .ok (ins, len)) (hlen : lenOK ins len = true) (hr : rtn mr ins S = some v) (hc : c = mr.2.2.2.2.1 ∧ s ≤ mr.2.2.2.2.2.1) (q : Q v σ) : Ev X c s d mr pc L S σ Q := by
  refine ⟨1, v, σ, ?_, q⟩
  unfold run
  rw [hd]
  simp only [hlen, if_true, hr, hc, and_self]
theorem e_iret {z : Int} (hd : decode mr.2.1 pc = .ok (.ireturn, 1)) (hr : mr.2.2.2.1 = some .int) (hc : c = mr.2.2.2.2.1 ∧ s ≤ mr.2.2.2.2.2.1) (q : Q (some (iv z)) σ) : Ev X c s d mr pc L [iv z] σ Q := e_ret hd rfl (by simp only [rtn, hr]) hc q
theorem e_zret {z : Int} (hd : decode mr.2.1 pc = .ok (.ireturn, 1)) (hr : mr.2.2.2.1 = some .boolean) (hz : z = 0 ∨ z = 1) (hc : c = mr.2.2.2.2.1 ∧ s ≤ mr.2.2.2.2.2.1) (q : Q (some (iv z)) σ) : Ev X c s d mr pc L [iv z] σ Q := e_ret hd rfl (by simp only [rtn, hr, hz, if_true]) hc q
theorem e_lret {z : Int64} (hd : decode mr.2.1 pc = .ok (.lreturn, 1)) (hr : mr.2.2.2.1 = some .long) (hc : c = mr.2.2.2.2.1 ∧ s ≤ mr.2.2.2.2.2.1) (q : Q (some (jv z)) σ) : Ev X c s d mr pc L [jv z] σ Q := e_ret hd rfl (by simp only [rtn, hr]) hc q
theorem e_vret (hd : decode mr.2.1 pc = .ok (.return_, 1)) (hr : mr.2.2.2.1 = none) (hc : c = mr.2.2.2.2.1 ∧ s ≤ mr.2.2.2.2.2.1) (q : Q none σ) : Ev X c s d mr pc L [] σ Q := e_ret hd rfl (by simp only [rtn, hr]) hc q
theorem e_call {dd : Nat} {ins : Instr} {len : Nat} {mr' : MRec} {As r : List AV} {Qc : Option AV → SG → Prop} (hd : decode mr.2.1 pc = .ok (ins, len)) (hlen : lenOK ins len = true) (hp : pc + 3 = pc') (hr : rtn mr ins S = none) (hs : stp X mr (dd + 1) ins pc L S (mem σ) c s = none) (hc : cal mr ins S (mem σ) = some (mr', As, r)) (hL : argL As mr'.2.2.1 = L') (hl2 : L'.length = mr'.2.2.1) (h0 : mr'.2.2.2.2.1 = 0 ∧ mr'.2.2.2.2.2.1 = 0) (hcc : c ≤ mr.2.2.2.2.1 ∧ s ≤ mr.2.2.2.2.2.1) (E : Ev X 0 0 dd mr' 0 L' [] σ Qc) (K : ∀ v σ', Qc v σ' → Ev X c s (dd + 1) mr pc' L (v.toList ++ r) σ' Q) : Ev X c s (dd + 1) mr pc L S σ Q := by
  subst hp
  obtain ⟨n1, v, σ1, h1, q1⟩ := E
  obtain ⟨n2, w, σ2, h2, q2⟩ := K v σ1 q1
  refine ⟨max n1 n2 + 1, w, σ2, ?_, q2⟩
  unfold run
  rw [hd]
  simp only [hlen, if_true, hr, hs, hc, hL, hl2, h0, Nat.add_zero, hcc, and_self]
  rw [run_mono n1 h1 (Nat.le_max_left _ _)]
  exact run_mono n2 h2 (Nat.le_max_right _ _)
end EVM
end
section
section EVC
variable {X : AX} {c s d : Nat} {mr : MRec} {pc pc' : Nat} {L L' : AL} {S : List AV} {σ : SG} {Q : Option AV → SG → Prop}
theorem e_cv0 {dd k q ci i1 i2 : Nat} {ps : List Nat} {fs : List (Nat ⊕ AV)} {mr' : MRec} {Qc : Option AV → SG → Prop} (hd : decode mr.2.1 pc = .ok (.invokevirtual k, 3)) (hp : pc + 3 = pc') (hm : ml mr.2.2.2.2.2.2 k = some (i1, i2, 0, 0, mr', ps)) (ho : shp[q]? = some (.inr (ci, fs))) (hci : ci = mr'.2.2.2.2.2.2) (hr : (S.map cat).sum ≤ 8) (hL : argL [rv q] mr'.2.2.1 = L') (hl2 : L'.length = mr'.2.2.1) (h0 : mr'.2.2.2.2.1 = 0 ∧ mr'.2.2.2.2.2.1 = 0) (hcc : c ≤ mr.2.2.2.2.1 ∧ s ≤ mr.2.2.2.2.2.1) (E : Ev X 0 0 dd mr' 0 L' [] σ Qc) (K : ∀ v σ', Qc v σ' → Ev X c s (dd + 1) mr pc' L (v.toList ++ S) σ' Q) : Ev X c s (dd + 1) mr pc L (rv q :: S) σ Q := by
  refine e_call hd rfl hp rfl rfl ?_ hL hl2 h0 hcc E K
  simp only [cal, hm, List.drop_succ_cons, List.drop_zero, o_get ho, hci, List.take_succ_cons, List.take_zero, List.length_cons, List.length_nil, hr, and_self, if_true, List.reverse_cons, List.reverse_nil, List.nil_append, List.cons_append]
theorem e_cs0 {dd k i1 i2 : Nat} {ps : List Nat} {mr' : MRec} {Qc : Option AV → SG → Prop} (hd : decode mr.2.1 pc = .ok (.invokestatic k, 3)) (hp : pc + 3 = pc') (hsp : sp mr.2.2.2.2.2.2 k = none) (hm : ml mr.2.2.2.2.2.2 k = some (i1, i2, 2, 0, mr', ps)) (hr : (S.map cat).sum ≤ 8) (hL : argL [] mr'.2.2.1 = L') (hl2 : L'.length = mr'.2.2.1) (h0 : mr'.2.2.2.2.1 = 0 ∧ mr'.2.2.2.2.2.1 = 0) (hcc : c ≤ mr.2.2.2.2.1 ∧ s ≤ mr.2.2.2.2.2.1) (E : Ev X 0 0 dd mr' 0 L' [] σ Qc) (K : ∀ v σ', Qc v σ' → Ev X c s (dd + 1) mr pc' L (v.toList ++ S) σ' Q) : Ev X c s (dd + 1) mr pc L (S) σ Q := by
  refine e_call hd rfl hp rfl (by simp only [stp, hsp]) ?_ hL hl2 h0 hcc E K
  simp only [cal, hm, List.drop_succ_cons, List.drop_zero, List.take_succ_cons, List.take_zero, List.length_cons, List.length_nil, hr, and_self, if_true, List.reverse_cons, List.reverse_nil, List.nil_append, List.cons_append]
theorem e_cv1 {dd k q ci i1 i2 : Nat} {ps : List Nat} {fs : List (Nat ⊕ AV)} {mr' : MRec} {a1 : AV} {Qc : Option AV → SG → Prop} (hd : decode mr.2.1 pc = .ok (.invokevirtual k, 3)) (hp : pc + 3 = pc') (hm : ml mr.2.2.2.2.2.2 k = some (i1, i2, 0, 1, mr', ps)) (ho : shp[q]? = some (.inr (ci, fs))) (hci : ci = mr'.2.2.2.2.2.2) (hr : (S.map cat).sum ≤ 8) (hL : argL [rv q, a1] mr'.2.2.1 = L') (hl2 : L'.length = mr'.2.2.1) (h0 : mr'.2.2.2.2.1 = 0 ∧ mr'.2.2.2.2.2.1 = 0) (hcc : c ≤ mr.2.2.2.2.1 ∧ s ≤ mr.2.2.2.2.2.1) (E : Ev X 0 0 dd mr' 0 L' [] σ Qc) (K : ∀ v σ', Qc v σ' → Ev X c s (dd + 1) mr pc' L (v.toList ++ S) σ' Q) : Ev X c s (dd + 1) mr pc L (a1 :: rv q :: S) σ Q := by
  refine e_call hd rfl hp rfl rfl ?_ hL hl2 h0 hcc E K
  simp only [cal, hm, List.drop_succ_cons, List.drop_zero, o_get ho, hci, List.take_succ_cons, List.take_zero, List.length_cons, List.length_nil, hr, and_self, if_true, List.reverse_cons, List.reverse_nil, List.nil_append, List.cons_append]
theorem e_cs1 {dd k i1 i2 : Nat} {ps : List Nat} {mr' : MRec} {a1 : AV} {Qc : Option AV → SG → Prop} (hd : decode mr.2.1 pc = .ok (.invokestatic k, 3)) (hp : pc + 3 = pc') (hsp : sp mr.2.2.2.2.2.2 k = none) (hm : ml mr.2.2.2.2.2.2 k = some (i1, i2, 2, 1, mr', ps)) (hr : (S.map cat).sum ≤ 8) (hL : argL [a1] mr'.2.2.1 = L') (hl2 : L'.length = mr'.2.2.1) (h0 : mr'.2.2.2.2.1 = 0 ∧ mr'.2.2.2.2.2.1 = 0) (hcc : c ≤ mr.2.2.2.2.1 ∧ s ≤ mr.2.2.2.2.2.1) (E : Ev X 0 0 dd mr' 0 L' [] σ Qc) (K : ∀ v σ', Qc v σ' → Ev X c s (dd + 1) mr pc' L (v.toList ++ S) σ' Q) : Ev X c s (dd + 1) mr pc L (a1 :: S) σ Q := by
  refine e_call hd rfl hp rfl (by simp only [stp, hsp]) ?_ hL hl2 h0 hcc E K
  simp only [cal, hm, List.drop_succ_cons, List.drop_zero, List.take_succ_cons, List.take_zero, List.length_cons, List.length_nil, hr, and_self, if_true, List.reverse_cons, List.reverse_nil, List.nil_append, List.cons_append]
theorem e_cv2 {dd k q ci i1 i2 : Nat} {ps : List Nat} {fs : List (Nat ⊕ AV)} {mr' : MRec} {a1 a2 : AV} {Qc : Option AV → SG → Prop} (hd : decode mr.2.1 pc = .ok (.invokevirtual k, 3)) (hp : pc + 3 = pc') (hm : ml mr.2.2.2.2.2.2 k = some (i1, i2, 0, 2, mr', ps)) (ho : shp[q]? = some (.inr (ci, fs))) (hci : ci = mr'.2.2.2.2.2.2) (hr : (S.map cat).sum ≤ 8) (hL : argL [rv q, a1, a2] mr'.2.2.1 = L') (hl2 : L'.length = mr'.2.2.1) (h0 : mr'.2.2.2.2.1 = 0 ∧ mr'.2.2.2.2.2.1 = 0) (hcc : c ≤ mr.2.2.2.2.1 ∧ s ≤ mr.2.2.2.2.2.1) (E : Ev X 0 0 dd mr' 0 L' [] σ Qc) (K : ∀ v σ', Qc v σ' → Ev X c s (dd + 1) mr pc' L (v.toList ++ S) σ' Q) : Ev X c s (dd + 1) mr pc L (a2 :: a1 :: rv q :: S) σ Q := by
  refine e_call hd rfl hp rfl rfl ?_ hL hl2 h0 hcc E K
  simp only [cal, hm, List.drop_succ_cons, List.drop_zero, o_get ho, hci, List.take_succ_cons, List.take_zero, List.length_cons, List.length_nil, hr, and_self, if_true, List.reverse_cons, List.reverse_nil, List.nil_append, List.cons_append]
theorem e_cs2 {dd k i1 i2 : Nat} {ps : List Nat} {mr' : MRec} {a1 a2 : AV} {Qc : Option AV → SG → Prop} (hd : decode mr.2.1 pc = .ok (.invokestatic k, 3)) (hp : pc + 3 = pc') (hsp : sp mr.2.2.2.2.2.2 k = none) (hm : ml mr.2.2.2.2.2.2 k = some (i1, i2, 2, 2, mr', ps)) (hr : (S.map cat).sum ≤ 8) (hL : argL [a1, a2] mr'.2.2.1 = L') (hl2 : L'.length = mr'.2.2.1) (h0 : mr'.2.2.2.2.1 = 0 ∧ mr'.2.2.2.2.2.1 = 0) (hcc : c ≤ mr.2.2.2.2.1 ∧ s ≤ mr.2.2.2.2.2.1) (E : Ev X 0 0 dd mr' 0 L' [] σ Qc) (K : ∀ v σ', Qc v σ' → Ev X c s (dd + 1) mr pc' L (v.toList ++ S) σ' Q) : Ev X c s (dd + 1) mr pc L (a2 :: a1 :: S) σ Q := by
  refine e_call hd rfl hp rfl (by simp only [stp, hsp]) ?_ hL hl2 h0 hcc E K
  simp only [cal, hm, List.drop_succ_cons, List.drop_zero, List.take_succ_cons, List.take_zero, List.length_cons, List.length_nil, hr, and_self, if_true, List.reverse_cons, List.reverse_nil, List.nil_append, List.cons_append]
theorem e_cv3 {dd k q ci i1 i2 : Nat} {ps : List Nat} {fs : List (Nat ⊕ AV)} {mr' : MRec} {a1 a2 a3 : AV} {Qc : Option AV → SG → Prop} (hd : decode mr.2.1 pc = .ok (.invokevirtual k, 3)) (hp : pc + 3 = pc') (hm : ml mr.2.2.2.2.2.2 k = some (i1, i2, 0, 3, mr', ps)) (ho : shp[q]? = some (.inr (ci, fs))) (hci : ci = mr'.2.2.2.2.2.2) (hr : (S.map cat).sum ≤ 8) (hL : argL [rv q, a1, a2, a3] mr'.2.2.1 = L') (hl2 : L'.length = mr'.2.2.1) (h0 : mr'.2.2.2.2.1 = 0 ∧ mr'.2.2.2.2.2.1 = 0) (hcc : c ≤ mr.2.2.2.2.1 ∧ s ≤ mr.2.2.2.2.2.1) (E : Ev X 0 0 dd mr' 0 L' [] σ Qc) (K : ∀ v σ', Qc v σ' → Ev X c s (dd + 1) mr pc' L (v.toList ++ S) σ' Q) : Ev X c s (dd + 1) mr pc L (a3 :: a2 :: a1 :: rv q :: S) σ Q := by
  refine e_call hd rfl hp rfl rfl ?_ hL hl2 h0 hcc E K
  simp only [cal, hm, List.drop_succ_cons, List.drop_zero, o_get ho, hci, List.take_succ_cons, List.take_zero, List.length_cons, List.length_nil, hr, and_self, if_true, List.reverse_cons, List.reverse_nil, List.nil_append, List.cons_append]
theorem e_cs3 {dd k i1 i2 : Nat} {ps : List Nat} {mr' : MRec} {a1 a2 a3 : AV} {Qc : Option AV → SG → Prop} (hd : decode mr.2.1 pc = .ok (.invokestatic k, 3)) (hp : pc + 3 = pc') (hsp : sp mr.2.2.2.2.2.2 k = none) (hm : ml mr.2.2.2.2.2.2 k = some (i1, i2, 2, 3, mr', ps)) (hr : (S.map cat).sum ≤ 8) (hL : argL [a1, a2, a3] mr'.2.2.1 = L') (hl2 : L'.length = mr'.2.2.1) (h0 : mr'.2.2.2.2.1 = 0 ∧ mr'.2.2.2.2.2.1 = 0) (hcc : c ≤ mr.2.2.2.2.1 ∧ s ≤ mr.2.2.2.2.2.1) (E : Ev X 0 0 dd mr' 0 L' [] σ Qc) (K : ∀ v σ', Qc v σ' → Ev X c s (dd + 1) mr pc' L (v.toList ++ S) σ' Q) : Ev X c s (dd + 1) mr pc L (a3 :: a2 :: a1 :: S) σ Q := by
  refine e_call hd rfl hp rfl (by simp only [stp, hsp]) ?_ hL hl2 h0 hcc E K
  simp only [cal, hm, List.drop_succ_cons, List.drop_zero, List.take_succ_cons, List.take_zero, List.length_cons, List.length_nil, hr, and_self, if_true, List.reverse_cons, List.reverse_nil, List.nil_append, List.cons_append]
theorem e_cv4 {dd k q ci i1 i2 : Nat} {ps : List Nat} {fs : List (Nat ⊕ AV)} {mr' : MRec} {a1 a2 a3 a4 : AV} {Qc : Option AV → SG → Prop} (hd : decode mr.2.1 pc = .ok (.invokevirtual k, 3)) (hp : pc + 3 = pc') (hm : ml mr.2.2.2.2.2.2 k = some (i1, i2, 0, 4, mr', ps)) (ho : shp[q]? = some (.inr (ci, fs))) (hci : ci = mr'.2.2.2.2.2.2) (hr : (S.map cat).sum ≤ 8) (hL : argL [rv q, a1, a2, a3, a4] mr'.2.2.1 = L') (hl2 : L'.length = mr'.2.2.1) (h0 : mr'.2.2.2.2.1 = 0 ∧ mr'.2.2.2.2.2.1 = 0) (hcc : c ≤ mr.2.2.2.2.1 ∧ s ≤ mr.2.2.2.2.2.1) (E : Ev X 0 0 dd mr' 0 L' [] σ Qc) (K : ∀ v σ', Qc v σ' → Ev X c s (dd + 1) mr pc' L (v.toList ++ S) σ' Q) : Ev X c s (dd + 1) mr pc L (a4 :: a3 :: a2 :: a1 :: rv q :: S) σ Q := by
  refine e_call hd rfl hp rfl rfl ?_ hL hl2 h0 hcc E K
  simp only [cal, hm, List.drop_succ_cons, List.drop_zero, o_get ho, hci, List.take_succ_cons, List.take_zero, List.length_cons, List.length_nil, hr, and_self, if_true, List.reverse_cons, List.reverse_nil, List.nil_append, List.cons_append]
theorem e_cs4 {dd k i1 i2 : Nat} {ps : List Nat} {mr' : MRec} {a1 a2 a3 a4 : AV} {Qc : Option AV → SG → Prop} (hd : decode mr.2.1 pc = .ok (.invokestatic k, 3)) (hp : pc + 3 = pc') (hsp : sp mr.2.2.2.2.2.2 k = none) (hm : ml mr.2.2.2.2.2.2 k = some (i1, i2, 2, 4, mr', ps)) (hr : (S.map cat).sum ≤ 8) (hL : argL [a1, a2, a3, a4] mr'.2.2.1 = L') (hl2 : L'.length = mr'.2.2.1) (h0 : mr'.2.2.2.2.1 = 0 ∧ mr'.2.2.2.2.2.1 = 0) (hcc : c ≤ mr.2.2.2.2.1 ∧ s ≤ mr.2.2.2.2.2.1) (E : Ev X 0 0 dd mr' 0 L' [] σ Qc) (K : ∀ v σ', Qc v σ' → Ev X c s (dd + 1) mr pc' L (v.toList ++ S) σ' Q) : Ev X c s (dd + 1) mr pc L (a4 :: a3 :: a2 :: a1 :: S) σ Q := by
  refine e_call hd rfl hp rfl (by simp only [stp, hsp]) ?_ hL hl2 h0 hcc E K
  simp only [cal, hm, List.drop_succ_cons, List.drop_zero, List.take_succ_cons, List.take_zero, List.length_cons, List.length_nil, hr, and_self, if_true, List.reverse_cons, List.reverse_nil, List.nil_append, List.cons_append]
theorem e_cv5 {dd k q ci i1 i2 : Nat} {ps : List Nat} {fs : List (Nat ⊕ AV)} {mr' : MRec} {a1 a2 a3 a4 a5 : AV} {Qc : Option AV → SG → Prop} (hd : decode mr.2.1 pc = .ok (.invokevirtual k, 3)) (hp : pc + 3 = pc') (hm : ml mr.2.2.2.2.2.2 k = some (i1, i2, 0, 5, mr', ps)) (ho : shp[q]? = some (.inr (ci, fs))) (hci : ci = mr'.2.2.2.2.2.2) (hr : (S.map cat).sum ≤ 8) (hL : argL [rv q, a1, a2, a3, a4, a5] mr'.2.2.1 = L') (hl2 : L'.length = mr'.2.2.1) (h0 : mr'.2.2.2.2.1 = 0 ∧ mr'.2.2.2.2.2.1 = 0) (hcc : c ≤ mr.2.2.2.2.1 ∧ s ≤ mr.2.2.2.2.2.1) (E : Ev X 0 0 dd mr' 0 L' [] σ Qc) (K : ∀ v σ', Qc v σ' → Ev X c s (dd + 1) mr pc' L (v.toList ++ S) σ' Q) : Ev X c s (dd + 1) mr pc L (a5 :: a4 :: a3 :: a2 :: a1 :: rv q :: S) σ Q := by
  refine e_call hd rfl hp rfl rfl ?_ hL hl2 h0 hcc E K
  simp only [cal, hm, List.drop_succ_cons, List.drop_zero, o_get ho, hci, List.take_succ_cons, List.take_zero, List.length_cons, List.length_nil, hr, and_self, if_true, List.reverse_cons, List.reverse_nil, List.nil_append, List.cons_append]
theorem e_cs5 {dd k i1 i2 : Nat} {ps : List Nat} {mr' : MRec} {a1 a2 a3 a4 a5 : AV} {Qc : Option AV → SG → Prop} (hd : decode mr.2.1 pc = .ok (.invokestatic k, 3)) (hp : pc + 3 = pc') (hsp : sp mr.2.2.2.2.2.2 k = none) (hm : ml mr.2.2.2.2.2.2 k = some (i1, i2, 2, 5, mr', ps)) (hr : (S.map cat).sum ≤ 8) (hL : argL [a1, a2, a3, a4, a5] mr'.2.2.1 = L') (hl2 : L'.length = mr'.2.2.1) (h0 : mr'.2.2.2.2.1 = 0 ∧ mr'.2.2.2.2.2.1 = 0) (hcc : c ≤ mr.2.2.2.2.1 ∧ s ≤ mr.2.2.2.2.2.1) (E : Ev X 0 0 dd mr' 0 L' [] σ Qc) (K : ∀ v σ', Qc v σ' → Ev X c s (dd + 1) mr pc' L (v.toList ++ S) σ' Q) : Ev X c s (dd + 1) mr pc L (a5 :: a4 :: a3 :: a2 :: a1 :: S) σ Q := by
  refine e_call hd rfl hp rfl (by simp only [stp, hsp]) ?_ hL hl2 h0 hcc E K
  simp only [cal, hm, List.drop_succ_cons, List.drop_zero, List.take_succ_cons, List.take_zero, List.length_cons, List.length_nil, hr, and_self, if_true, List.reverse_cons, List.reverse_nil, List.nil_append, List.cons_append]
theorem e_cv6 {dd k q ci i1 i2 : Nat} {ps : List Nat} {fs : List (Nat ⊕ AV)} {mr' : MRec} {a1 a2 a3 a4 a5 a6 : AV} {Qc : Option AV → SG → Prop} (hd : decode mr.2.1 pc = .ok (.invokevirtual k, 3)) (hp : pc + 3 = pc') (hm : ml mr.2.2.2.2.2.2 k = some (i1, i2, 0, 6, mr', ps)) (ho : shp[q]? = some (.inr (ci, fs))) (hci : ci = mr'.2.2.2.2.2.2) (hr : (S.map cat).sum ≤ 8) (hL : argL [rv q, a1, a2, a3, a4, a5, a6] mr'.2.2.1 = L') (hl2 : L'.length = mr'.2.2.1) (h0 : mr'.2.2.2.2.1 = 0 ∧ mr'.2.2.2.2.2.1 = 0) (hcc : c ≤ mr.2.2.2.2.1 ∧ s ≤ mr.2.2.2.2.2.1) (E : Ev X 0 0 dd mr' 0 L' [] σ Qc) (K : ∀ v σ', Qc v σ' → Ev X c s (dd + 1) mr pc' L (v.toList ++ S) σ' Q) : Ev X c s (dd + 1) mr pc L (a6 :: a5 :: a4 :: a3 :: a2 :: a1 :: rv q :: S) σ Q := by
  refine e_call hd rfl hp rfl rfl ?_ hL hl2 h0 hcc E K
  simp only [cal, hm, List.drop_succ_cons, List.drop_zero, o_get ho, hci, List.take_succ_cons, List.take_zero, List.length_cons, List.length_nil, hr, and_self, if_true, List.reverse_cons, List.reverse_nil, List.nil_append, List.cons_append]
theorem e_cs6 {dd k i1 i2 : Nat} {ps : List Nat} {mr' : MRec} {a1 a2 a3 a4 a5 a6 : AV} {Qc : Option AV → SG → Prop} (hd : decode mr.2.1 pc = .ok (.invokestatic k, 3)) (hp : pc + 3 = pc') (hsp : sp mr.2.2.2.2.2.2 k = none) (hm : ml mr.2.2.2.2.2.2 k = some (i1, i2, 2, 6, mr', ps)) (hr : (S.map cat).sum ≤ 8) (hL : argL [a1, a2, a3, a4, a5, a6] mr'.2.2.1 = L') (hl2 : L'.length = mr'.2.2.1) (h0 : mr'.2.2.2.2.1 = 0 ∧ mr'.2.2.2.2.2.1 = 0) (hcc : c ≤ mr.2.2.2.2.1 ∧ s ≤ mr.2.2.2.2.2.1) (E : Ev X 0 0 dd mr' 0 L' [] σ Qc) (K : ∀ v σ', Qc v σ' → Ev X c s (dd + 1) mr pc' L (v.toList ++ S) σ' Q) : Ev X c s (dd + 1) mr pc L (a6 :: a5 :: a4 :: a3 :: a2 :: a1 :: S) σ Q := by
  refine e_call hd rfl hp rfl (by simp only [stp, hsp]) ?_ hL hl2 h0 hcc E K
  simp only [cal, hm, List.drop_succ_cons, List.drop_zero, List.take_succ_cons, List.take_zero, List.length_cons, List.length_nil, hr, and_self, if_true, List.reverse_cons, List.reverse_nil, List.nil_append, List.cons_append]
end EVC
end
