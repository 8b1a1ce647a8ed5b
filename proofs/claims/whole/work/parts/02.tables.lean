abbrev MRec : Type := MethodName × ByteArray × Nat × Option FieldType × Nat × Nat × Nat
abbrev mX0_init : MRec := (yX0_init, cX0_init, 2, none, 3, 45, 0)
abbrev mX0_choose : MRec := (yX0_choose, cX0_choose, 10, none, 0, 0, 0)
abbrev mX0_foresee : MRec := (yX0_foresee, cX0_foresee, 6, none, 0, 0, 0)
abbrev mX0_weigh : MRec := (yX0_weigh, cX0_weigh, 7, none, 0, 0, 0)
abbrev mX0_enter : MRec := (yX0_enter, cX0_enter, 3, none, 0, 0, 0)
abbrev mX1_init : MRec := (yX1_init, cX1_init, 1, none, 3, 1230, 1)
abbrev mX1_find : MRec := (yX1_find, cX1_find, 6, none, 0, 0, 1)
abbrev mX1_fillWorths : MRec := (yX1_fillWorths, cX1_fillWorths, 6, none, 0, 0, 1)
abbrev mX1_firstBest : MRec := (yX1_firstBest, cX1_firstBest, 8, (some .int), 0, 0, 1)
abbrev mX1_haveBy : MRec := (yX1_haveBy, cX1_haveBy, 4, (some .int), 0, 0, 1)
abbrev mX2_init : MRec := (yX2_init, cX2_init, 2, none, 0, 0, 2)
abbrev mX2_hold : MRec := (yX2_hold, cX2_hold, 7, (some .boolean), 0, 0, 2)
abbrev mX2_noneMoreByHands : MRec := (yX2_noneMoreByHands, cX2_noneMoreByHands, 6, (some .boolean), 0, 0, 2)
abbrev mX2_addedTo : MRec := (yX2_addedTo, cX2_addedTo, 5, (some .int), 0, 0, 2)
abbrev mX3_init : MRec := (yX3_init, cX3_init, 2, none, 3, 9, 3)
abbrev mX3_fill : MRec := (yX3_fill, cX3_fill, 3, none, 0, 0, 3)
abbrev mX3_partPurse : MRec := (yX3_partPurse, cX3_partPurse, 4, none, 0, 0, 3)
abbrev mX3_partByShare : MRec := (yX3_partByShare, cX3_partByShare, 4, none, 0, 0, 3)
abbrev mX3_partByNumber : MRec := (yX3_partByNumber, cX3_partByNumber, 4, none, 0, 0, 3)
abbrev mX3_partByBound : MRec := (yX3_partByBound, cX3_partByBound, 7, none, 0, 0, 3)
abbrev mX3_haveOf : MRec := (yX3_haveOf, cX3_haveOf, 6, (some .int), 0, 0, 3)
abbrev mX3_allHave : MRec := (yX3_allHave, cX3_allHave, 4, (some .int), 0, 0, 3)
abbrev mX4_init : MRec := (yX4_init, cX4_init, 2, none, 1, 5, 4)
abbrev mX4_weighAll : MRec := (yX4_weighAll, cX4_weighAll, 8, none, 0, 0, 4)
abbrev mX4_weigh : MRec := (yX4_weigh, cX4_weigh, 10, none, 0, 0, 4)
abbrev mX4_most : MRec := (yX4_most, cX4_most, 3, (some .int), 0, 0, 4)
abbrev mX4_leastCost : MRec := (yX4_leastCost, cX4_leastCost, 4, (some .int), 0, 0, 4)
abbrev mX5_init : MRec := (yX5_init, cX5_init, 1, none, 1, 40, 5)
abbrev mX5_read : MRec := (yX5_read, cX5_read, 3, none, 0, 0, 5)
abbrev mX5_readCharacter : MRec := (yX5_readCharacter, cX5_readCharacter, 5, none, 0, 0, 5)
abbrev mX5_readDigit : MRec := (yX5_readDigit, cX5_readDigit, 5, none, 0, 0, 5)
abbrev mX5_readUnit : MRec := (yX5_readUnit, cX5_readUnit, 4, (some .boolean), 0, 0, 5)
abbrev mX5_readBehindUnit : MRec := (yX5_readBehindUnit, cX5_readBehindUnit, 4, (some .boolean), 0, 0, 5)
abbrev mX5_closeBracket : MRec := (yX5_closeBracket, cX5_closeBracket, 2, (some .boolean), 0, 0, 5)
abbrev mX5_hold : MRec := (yX5_hold, cX5_hold, 2, none, 0, 0, 5)
abbrev mX5_release : MRec := (yX5_release, cX5_release, 3, none, 0, 0, 5)
abbrev mX5_lastRank : MRec := (yX5_lastRank, cX5_lastRank, 1, (some .int), 0, 0, 5)
abbrev mX5_rankOf : MRec := (yX5_rankOf, cX5_rankOf, 1, (some .int), 0, 0, 5)
abbrev mX6_init : MRec := (yX6_init, cX6_init, 2, none, 1, 41, 6)
abbrev mX6_run : MRec := (yX6_run, cX6_run, 5, (some .int), 0, 0, 6)
abbrev mX6_wasBefore : MRec := (yX6_wasBefore, cX6_wasBefore, 3, (some .boolean), 0, 0, 6)
abbrev mX7_init : MRec := (yX7_init, cX7_init, 1, none, 2, 80, 7)
abbrev mX7_take : MRec := (yX7_take, cX7_take, 2, none, 0, 0, 7)
abbrev mX7_addStep : MRec := (yX7_addStep, cX7_addStep, 2, none, 0, 0, 7)
abbrev mX8_init : MRec := (yX8_init, cX8_init, 2, none, 15, 311, 8)
abbrev mX8_take : MRec := (yX8_take, cX8_take, 3, none, 0, 0, 8)
abbrev mX8_takePeople : MRec := (yX8_takePeople, cX8_takePeople, 3, none, 0, 0, 8)
abbrev mX8_givenBy : MRec := (yX8_givenBy, cX8_givenBy, 4, (some .int), 0, 0, 8)
abbrev mX8_keptBy : MRec := (yX8_keptBy, cX8_keptBy, 2, (some .int), 0, 0, 8)
abbrev mX8_givenTo : MRec := (yX8_givenTo, cX8_givenTo, 4, (some .int), 0, 0, 8)
abbrev mX8_givenInAll : MRec := (yX8_givenInAll, cX8_givenInAll, 3, (some .int), 0, 0, 8)
abbrev mX8_coinInAll : MRec := (yX8_coinInAll, cX8_coinInAll, 3, (some .int), 0, 0, 8)
abbrev mX8_packedGifts : MRec := (yX8_packedGifts, cX8_packedGifts, 4, (some .long), 0, 0, 8)
abbrev mX8_worthOf : MRec := (yX8_worthOf, cX8_worthOf, 7, (some .int), 0, 0, 8)
abbrev mX9_init : MRec := (yX9_init, cX9_init, 1, none, 1, 40, 9)
abbrev mX9_clear : MRec := (yX9_clear, cX9_clear, 1, none, 0, 0, 9)
abbrev mX9_see : MRec := (yX9_see, cX9_see, 2, none, 0, 0, 9)
abbrev mX9_seeAllBut : MRec := (yX9_seeAllBut, cX9_seeAllBut, 5, none, 0, 0, 9)
abbrev mX9_toldBy : MRec := (yX9_toldBy, cX9_toldBy, 4, (some .int), 0, 0, 9)
abbrev mX9_doStep : MRec := (yX9_doStep, cX9_doStep, 6, none, 0, 0, 9)
abbrev mX9_joined : MRec := (yX9_joined, cX9_joined, 5, (some .long), 0, 0, 9)
abbrev mX9_push : MRec := (yX9_push, cX9_push, 3, none, 0, 0, 9)
abbrev mX9_pop : MRec := (yX9_pop, cX9_pop, 1, (some .long), 0, 0, 9)
abbrev mX10_init : MRec := (yX10_init, cX10_init, 2, none, 87, 3500, 10)
abbrev mX10_giver : MRec := (yX10_giver, cX10_giver, 2, (some .int), 0, 0, 10)
abbrev mX10_work : MRec := (yX10_work, cX10_work, 2, (some .int), 0, 0, 10)
abbrev mX10_worth : MRec := (yX10_worth, cX10_worth, 5, (some .int), 0, 0, 10)
abbrev mX10_set : MRec := (yX10_set, cX10_set, 3, (some .int), 0, 0, 10)
abbrev mX10_write : MRec := (yX10_write, cX10_write, 4, (some .int), 0, 0, 10)
abbrev mX10_erase : MRec := (yX10_erase, cX10_erase, 4, (some .int), 0, 0, 10)
abbrev mX10_fault : MRec := (yX10_fault, cX10_fault, 2, (some .int), 0, 0, 10)
abbrev mX10_give : MRec := (yX10_give, cX10_give, 6, (some .int), 0, 0, 10)
abbrev mX10_amount : MRec := (yX10_amount, cX10_amount, 3, (some .int), 0, 0, 10)
abbrev mX10_isShort : MRec := (yX10_isShort, cX10_isShort, 1, (some .int), 0, 0, 10)
abbrev mX10_has : MRec := (yX10_has, cX10_has, 2, (some .int), 0, 0, 10)
abbrev mX10_best : MRec := (yX10_best, cX10_best, 3, (some .int), 0, 0, 10)
abbrev mX10_rest : MRec := (yX10_rest, cX10_rest, 4, (some .int), 0, 0, 10)
abbrev mX10_turns : MRec := (yX10_turns, cX10_turns, 1, (some .int), 0, 0, 10)
abbrev mX10_good : MRec := (yX10_good, cX10_good, 2, (some .int), 0, 0, 10)
abbrev mX10_lost : MRec := (yX10_lost, cX10_lost, 1, (some .int), 0, 0, 10)
abbrev mX10_gain : MRec := (yX10_gain, cX10_gain, 3, (some .int), 0, 0, 10)
abbrev mX10_hand : MRec := (yX10_hand, cX10_hand, 4, (some .int), 0, 0, 10)
abbrev mX10_anyway : MRec := (yX10_anyway, cX10_anyway, 3, (some .int), 0, 0, 10)
abbrev mX10_breach : MRec := (yX10_breach, cX10_breach, 7, (some .int), 0, 0, 10)
abbrev mX10_image : MRec := (yX10_image, cX10_image, 2, (some .int), 0, 0, 10)
abbrev mX10_from : MRec := (yX10_from, cX10_from, 2, (some .int), 0, 0, 10)
abbrev mX10_count : MRec := (yX10_count, cX10_count, 2, (some .int), 0, 0, 10)
abbrev mX10_digest : MRec := (yX10_digest, cX10_digest, 4, (some .long), 0, 0, 10)
abbrev mX10_digestGivers : MRec := (yX10_digestGivers, cX10_digestGivers, 8, (some .long), 0, 0, 10)
abbrev mX10_digestWorks : MRec := (yX10_digestWorks, cX10_digestWorks, 6, (some .long), 0, 0, 10)
abbrev mX10_digestRules : MRec := (yX10_digestRules, cX10_digestRules, 8, (some .long), 0, 0, 10)
abbrev mX10_setKeep : MRec := (yX10_setKeep, cX10_setKeep, 3, (some .int), 0, 0, 10)
abbrev mX10_setTheRule : MRec := (yX10_setTheRule, cX10_setTheRule, 3, (some .int), 0, 0, 10)
abbrev mX10_setPurse : MRec := (yX10_setPurse, cX10_setPurse, 3, (some .int), 0, 0, 10)
abbrev mX10_setParted : MRec := (yX10_setParted, cX10_setParted, 3, (some .int), 0, 0, 10)
abbrev mX10_isWithin : MRec := (yX10_isWithin, cX10_isWithin, 2, (some .boolean), 0, 0, 10)
abbrev mX10_isRule : MRec := (yX10_isRule, cX10_isRule, 1, (some .boolean), 0, 0, 10)
abbrev mX10_isGiver : MRec := (yX10_isGiver, cX10_isGiver, 2, (some .boolean), 0, 0, 10)
abbrev mX10_isWork : MRec := (yX10_isWork, cX10_isWork, 2, (some .boolean), 0, 0, 10)
abbrev mX10_isPair : MRec := (yX10_isPair, cX10_isPair, 3, (some .boolean), 0, 0, 10)
abbrev mX11_init : MRec := (yX11_init, cX11_init, 1, none, 19, 1700, 11)
abbrev mX11_in : MRec := (yX11_in, cX11_in, 6, (some .boolean), 0, 0, 11)
abbrev mX11_givers : MRec := (yX11_givers, cX11_givers, 1, (some .int), 0, 0, 11)
abbrev mX11_works : MRec := (yX11_works, cX11_works, 1, (some .int), 0, 0, 11)
abbrev mX11_isGiver : MRec := (yX11_isGiver, cX11_isGiver, 2, (some .boolean), 0, 0, 11)
abbrev mX11_isWork : MRec := (yX11_isWork, cX11_isWork, 2, (some .boolean), 0, 0, 11)
abbrev mX11_gift : MRec := (yX11_gift, cX11_gift, 3, (some .int), 0, 0, 11)
abbrev mX11_giver : MRec := (yX11_giver, cX11_giver, 2, (some .int), 0, 0, 11)
abbrev mX11_work : MRec := (yX11_work, cX11_work, 2, (some .int), 0, 0, 11)
abbrev mX11_worth : MRec := (yX11_worth, cX11_worth, 5, (some .int), 0, 0, 11)
abbrev mX11_set : MRec := (yX11_set, cX11_set, 4, (some .int), 0, 0, 11)
abbrev mX11_isRule : MRec := (yX11_isRule, cX11_isRule, 1, (some .boolean), 0, 0, 11)
abbrev mX11_write : MRec := (yX11_write, cX11_write, 4, (some .int), 0, 0, 11)
abbrev mX11_erase : MRec := (yX11_erase, cX11_erase, 3, (some .int), 0, 0, 11)
abbrev mX11_textLong : MRec := (yX11_textLong, cX11_textLong, 1, (some .int), 0, 0, 11)
abbrev mX11_charAt : MRec := (yX11_charAt, cX11_charAt, 2, (some .int), 0, 0, 11)
abbrev mX11_ahead : MRec := (yX11_ahead, cX11_ahead, 1, (some .int), 0, 0, 11)
abbrev mX11_rank : MRec := (yX11_rank, cX11_rank, 1, (some .int), 0, 0, 11)
abbrev mX11_workOut : MRec := (yX11_workOut, cX11_workOut, 7, none, 0, 0, 11)
abbrev mX11_workDown : MRec := (yX11_workDown, cX11_workDown, 2, none, 0, 0, 11)
abbrev mX11_stands : MRec := (yX11_stands, cX11_stands, 5, none, 0, 0, 11)
abbrev mX11_nameOf : MRec := (yX11_nameOf, cX11_nameOf, 1, (some .int), 0, 0, 11)
abbrev mX11_digits : MRec := (yX11_digits, cX11_digits, 4, (some .long), 0, 0, 11)
abbrev mX11_reads : MRec := (yX11_reads, cX11_reads, 5, (some .boolean), 0, 0, 11)
abbrev mX11_fault : MRec := (yX11_fault, cX11_fault, 3, (some .int), 0, 0, 11)
abbrev mX11_rootOf : MRec := (yX11_rootOf, cX11_rootOf, 8, (some .long), 0, 0, 11)
abbrev mX11_putHand : MRec := (yX11_putHand, cX11_putHand, 2, none, 0, 0, 11)
abbrev mX11_addedBy : MRec := (yX11_addedBy, cX11_addedBy, 14, (some .int), 0, 0, 11)
abbrev mX11_addUp : MRec := (yX11_addUp, cX11_addUp, 5, none, 0, 0, 11)
abbrev mX11_part : MRec := (yX11_part, cX11_part, 6, none, 0, 0, 11)
abbrev mX11_below : MRec := (yX11_below, cX11_below, 4, (some .int), 0, 0, 11)
abbrev mX11_worthOf : MRec := (yX11_worthOf, cX11_worthOf, 7, (some .int), 0, 0, 11)
abbrev mX11_hasNow : MRec := (yX11_hasNow, cX11_hasNow, 5, (some .int), 0, 0, 11)
abbrev mX11_allNow : MRec := (yX11_allNow, cX11_allNow, 3, (some .int), 0, 0, 11)
abbrev mX11_give : MRec := (yX11_give, cX11_give, 6, (some .int), 0, 0, 11)
abbrev mX11_amount : MRec := (yX11_amount, cX11_amount, 3, (some .int), 0, 0, 11)
abbrev mX11_isShort : MRec := (yX11_isShort, cX11_isShort, 3, (some .int), 0, 0, 11)
abbrev mX11_has : MRec := (yX11_has, cX11_has, 2, (some .int), 0, 0, 11)
abbrev mX11_setRow : MRec := (yX11_setRow, cX11_setRow, 5, none, 0, 0, 11)
abbrev mX11_findBest : MRec := (yX11_findBest, cX11_findBest, 8, (some .int), 0, 0, 11)
abbrev mX11_best : MRec := (yX11_best, cX11_best, 4, (some .int), 0, 0, 11)
abbrev mX11_rest : MRec := (yX11_rest, cX11_rest, 4, (some .int), 0, 0, 11)
abbrev mX11_isAgain : MRec := (yX11_isAgain, cX11_isAgain, 5, (some .boolean), 0, 0, 11)
abbrev mX11_note : MRec := (yX11_note, cX11_note, 3, none, 0, 0, 11)
abbrev mX11_goByTurns : MRec := (yX11_goByTurns, cX11_goByTurns, 5, (some .int), 0, 0, 11)
abbrev mX11_turns : MRec := (yX11_turns, cX11_turns, 1, (some .int), 0, 0, 11)
abbrev mX11_allCoin : MRec := (yX11_allCoin, cX11_allCoin, 3, (some .int), 0, 0, 11)
abbrev mX11_findGood : MRec := (yX11_findGood, cX11_findGood, 9, (some .int), 0, 0, 11)
abbrev mX11_good : MRec := (yX11_good, cX11_good, 3, (some .int), 0, 0, 11)
abbrev mX11_lost : MRec := (yX11_lost, cX11_lost, 1, (some .int), 0, 0, 11)
abbrev mX11_findHands : MRec := (yX11_findHands, cX11_findHands, 10, none, 0, 0, 11)
abbrev mX11_gain : MRec := (yX11_gain, cX11_gain, 5, (some .int), 0, 0, 11)
abbrev mX11_hand : MRec := (yX11_hand, cX11_hand, 6, (some .int), 0, 0, 11)
abbrev mX11_coinsGiven : MRec := (yX11_coinsGiven, cX11_coinsGiven, 3, (some .int), 0, 0, 11)
abbrev mX11_anyway : MRec := (yX11_anyway, cX11_anyway, 6, (some .int), 0, 0, 11)
abbrev mX11_addedTo : MRec := (yX11_addedTo, cX11_addedTo, 5, (some .int), 0, 0, 11)
abbrev mX11_holds : MRec := (yX11_holds, cX11_holds, 9, (some .boolean), 0, 0, 11)
abbrev mX11_breach : MRec := (yX11_breach, cX11_breach, 6, (some .int), 0, 0, 11)
abbrev mX11_image : MRec := (yX11_image, cX11_image, 3, (some .int), 0, 0, 11)
abbrev mX11_from : MRec := (yX11_from, cX11_from, 3, (some .int), 0, 0, 11)
abbrev mX11_count : MRec := (yX11_count, cX11_count, 2, (some .int), 0, 0, 11)
abbrev mX11_digest : MRec := (yX11_digest, cX11_digest, 6, (some .long), 0, 0, 11)
abbrev mJ9_max_7cf53 : MRec := (yJ9_max_7cf53, cJ9_max_7cf53, 2, (some .int), 0, 0, 13)
abbrev mJ9_max_f86c9 : MRec := (yJ9_max_f86c9, cJ9_max_f86c9, 4, (some .long), 0, 0, 13)
abbrev mJ9_min_7cf53 : MRec := (yJ9_min_7cf53, cJ9_min_7cf53, 2, (some .int), 0, 0, 13)
abbrev mJ9_min_f86c9 : MRec := (yJ9_min_f86c9, cJ9_min_f86c9, 4, (some .long), 0, 0, 13)
abbrev mL_law : MRec := (yL_law, cL_law, 4, (some .boolean), 108, 7302250, 12)
def clsT : List vw_C := [(RX0, TX0, 6), (RX1, TX1, 4), (RX2, TX2, 1), (RX3, TX3, 5), (RX4, TX4, 3), (RX5, TX5, 5), (RX6, TX6, 2), (RX7, TX7, 5), (RX8, TX8, 12), (RX9, TX9, 7), (RX10, TX10, 12), (RX11, TX11, 29)]
def ownT : List String := [RX0, RX1, RX2, RX3, RX4, RX5, RX6, RX7, RX8, RX9, RX10, RX11, RL, RJ9, RJ10]
def own (oc : Nat) : String := ownT.getD oc ""
def tyT (ci : Nat) : Nat → FieldType := match ci with
  | 0 => tyX0
  | 1 => tyX1
  | 2 => tyX2
  | 3 => tyX3
  | 4 => tyX4
  | 5 => tyX5
  | 6 => tyX6
  | 7 => tyX7
  | 8 => tyX8
  | 9 => tyX9
  | 10 => tyX10
  | _ => tyX11
/-- method links: own class, index, kind (0 virtual, 2 static, 3 <init>, 4 <init> of a nest mate), parameters, the method, places of its words -/
abbrev MLE : Type := Nat × Nat × Nat × Nat × MRec × List Nat
def mlT0 : List MLE := [(0, 25, 0, 1, mX3_fill, [639, 532, 533, 73]),
  (0, 31, 0, 1, mX8_keptBy, [640, 616, 617, 69]),
  (0, 37, 0, 3, mX3_haveOf, [641, 621, 622, 73]),
  (0, 45, 0, 2, mX0_foresee, [642, 644, 21, 74]),
  (0, 58, 0, 5, mX0_weigh, [649, 651, 22, 74]),
  (0, 72, 0, 3, mX9_seeAllBut, [646, 536, 537, 72]),
  (0, 78, 0, 1, mX9_see, [647, 544, 545, 72]),
  (0, 89, 0, 1, mX9_toldBy, [648, 560, 561, 72]),
  (0, 93, 0, 2, mX0_enter, [653, 655, 23, 74]),
  (0, 97, 0, 1, mX3_partPurse, [657, 587, 588, 73])]
def mlT1 : List MLE := [(1, 21, 0, 0, mX8_coinInAll, [690, 691, 692, 69]),
  (1, 40, 0, 2, mX1_fillWorths, [695, 697, 25, 76]),
  (1, 47, 0, 2, mX1_firstBest, [701, 703, 26, 76]),
  (1, 50, 0, 3, mX1_haveBy, [705, 707, 27, 76]),
  (1, 60, 0, 3, mX8_worthOf, [699, 625, 626, 69])]
def mlT2 : List MLE := [(2, 13, 0, 4, mX2_addedTo, [766, 768, 29, 78]),
  (2, 17, 0, 4, mX2_noneMoreByHands, [773, 775, 30, 78]),
  (2, 21, 0, 0, mX9_clear, [770, 540, 541, 72]),
  (2, 26, 0, 1, mX9_see, [771, 544, 545, 72]),
  (2, 30, 0, 1, mX9_toldBy, [772, 560, 561, 72])]
def mlT3 : List MLE := [(3, 31, 0, 3, mX9_seeAllBut, [535, 536, 537, 72]),
  (3, 37, 0, 1, mX8_givenTo, [555, 556, 557, 69]),
  (3, 48, 0, 1, mX9_toldBy, [559, 560, 561, 72]),
  (3, 52, 0, 1, mX3_partPurse, [586, 587, 588, 73]),
  (3, 66, 0, 2, mX3_partByShare, [590, 592, 18, 73]),
  (3, 70, 0, 1, mX3_partByNumber, [594, 596, 19, 73]),
  (3, 74, 0, 1, mX3_partByBound, [599, 601, 20, 73]),
  (3, 86, 0, 3, mX8_worthOf, [624, 625, 626, 69]),
  (3, 93, 0, 1, mX8_keptBy, [615, 616, 617, 69]),
  (3, 96, 0, 3, mX3_haveOf, [620, 621, 622, 73])]
def mlT4 : List MLE := [(4, 19, 0, 1, mX3_fill, [721, 532, 533, 73]),
  (4, 25, 0, 1, mX8_keptBy, [722, 616, 617, 69]),
  (4, 31, 0, 3, mX3_haveOf, [723, 621, 622, 73]),
  (4, 42, 0, 6, mX4_weigh, [724, 726, 28, 77]),
  (4, 50, 0, 3, mX9_seeAllBut, [728, 536, 537, 72]),
  (4, 56, 0, 1, mX9_see, [729, 544, 545, 72]),
  (4, 70, 0, 1, mX9_toldBy, [730, 560, 561, 72]),
  (4, 74, 0, 1, mX3_partPurse, [731, 587, 588, 73])]
def mlT5 : List MLE := [(5, 40, 0, 2, mX5_readCharacter, [472, 474, 7, 71]),
  (5, 44, 0, 2, mX5_release, [500, 502, 13, 71]),
  (5, 50, 0, 3, mX5_readDigit, [476, 478, 8, 71]),
  (5, 54, 0, 2, mX5_readUnit, [484, 486, 9, 71]),
  (5, 58, 0, 2, mX5_readBehindUnit, [492, 494, 11, 71]),
  (5, 64, 0, 1, mX7_addStep, [480, 481, 482, 70]),
  (5, 68, 0, 1, mX5_hold, [488, 490, 10, 71]),
  (5, 71, 0, 1, mX5_closeBracket, [496, 498, 12, 71]),
  (5, 75, 2, 1, mX5_rankOf, [504, 505, 71]),
  (5, 79, 0, 0, mX5_lastRank, [507, 509, 14, 71])]
def mlT6 : List MLE := [(6, 19, 0, 0, mX8_packedGifts, [670, 671, 672, 69]),
  (6, 29, 0, 2, mX0_choose, [674, 636, 637, 74]),
  (6, 54, 0, 1, mX6_wasBefore, [678, 680, 24, 75])]
def mlT7 : List MLE := []
def mlT8 : List MLE := [(8, 52, 4, 0, mX7_init, [100, 70]),
  (8, 53, 0, 1, mX8_takePeople, [785, 750, 751, 69]),
  (8, 63, 0, 1, mX7_take, [786, 787, 788, 70]),
  (8, 67, 0, 1, mX8_givenBy, [619, 524, 525, 69])]
def mlT9 : List MLE := [(9, 45, 0, 0, mX9_clear, [539, 540, 541, 72]),
  (9, 56, 0, 1, mX9_see, [543, 544, 545, 72]),
  (9, 74, 0, 1, mX9_push, [563, 565, 15, 72]),
  (9, 78, 0, 1, mX9_doStep, [567, 569, 16, 72]),
  (9, 83, 0, 0, mX9_pop, [572, 574, 17, 72]),
  (9, 94, 2, 3, mX9_joined, [576, 577, 72])]
def mlT10 : List MLE := [(10, 9, 3, 0, mX8_init, [92, 93, 69]),
  (10, 29, 4, 0, mX5_init, [206, 71]),
  (10, 36, 4, 0, mX9_init, [229, 72]),
  (10, 43, 3, 1, mX3_init, [257, 258, 73]),
  (10, 52, 3, 1, mX0_init, [288, 289, 74]),
  (10, 61, 3, 1, mX6_init, [319, 320, 75]),
  (10, 70, 4, 0, mX1_init, [333, 76]),
  (10, 77, 3, 1, mX4_init, [353, 354, 77]),
  (10, 84, 3, 1, mX2_init, [369, 370, 78]),
  (10, 89, 2, 2, mX10_isWithin, [418, 419, 68]),
  (10, 107, 0, 2, mX10_isPair, [429, 431, 0, 68]),
  (10, 116, 0, 1, mX10_setKeep, [445, 447, 3, 68]),
  (10, 120, 0, 1, mX10_setTheRule, [449, 451, 4, 68]),
  (10, 123, 0, 1, mX10_setPurse, [456, 458, 5, 68]),
  (10, 126, 0, 1, mX10_setParted, [460, 462, 6, 68]),
  (10, 129, 2, 1, mX10_isRule, [453, 454, 68]),
  (10, 145, 0, 1, mX5_read, [468, 469, 470, 71]),
  (10, 155, 0, 1, mX8_givenBy, [523, 524, 525, 69]),
  (10, 158, 0, 1, mX10_isWork, [437, 439, 2, 68]),
  (10, 161, 0, 1, mX3_fill, [531, 532, 533, 73]),
  (10, 178, 0, 1, mX10_isGiver, [433, 435, 1, 68]),
  (10, 181, 0, 1, mX3_allHave, [611, 612, 613, 73]),
  (10, 185, 0, 1, mX8_keptBy, [629, 616, 617, 69]),
  (10, 188, 0, 3, mX3_haveOf, [630, 621, 622, 73]),
  (10, 192, 0, 2, mX0_choose, [635, 636, 637, 74]),
  (10, 205, 0, 1, mX6_run, [666, 667, 668, 75]),
  (10, 208, 0, 1, mX1_find, [686, 687, 688, 76]),
  (10, 213, 0, 3, mX4_weighAll, [717, 718, 719, 77]),
  (10, 217, 0, 0, mX4_most, [733, 734, 735, 77]),
  (10, 220, 0, 0, mX4_leastCost, [741, 742, 743, 77]),
  (10, 223, 0, 1, mX8_takePeople, [749, 750, 751, 69]),
  (10, 226, 0, 0, mX8_givenInAll, [754, 755, 756, 69]),
  (10, 229, 0, 5, mX2_hold, [762, 763, 764, 78]),
  (10, 233, 0, 1, mX8_take, [781, 782, 783, 69]),
  (10, 236, 0, 0, mX8_coinInAll, [799, 691, 692, 69]),
  (10, 243, 0, 1, mX10_count, [806, 796, 797, 68]),
  (10, 246, 0, 1, mX10_digestGivers, [807, 809, 31, 68]),
  (10, 250, 0, 1, mX10_digestWorks, [811, 813, 32, 68]),
  (10, 265, 0, 1, mX10_digestRules, [815, 817, 33, 68])]
def mlT11 : List MLE := [(11, 76, 0, 0, mX11_givers, [921, 923, 34, 79]),
  (11, 80, 2, 3, mX11_in, [918, 919, 79]),
  (11, 84, 0, 0, mX11_works, [930, 932, 35, 79]),
  (11, 91, 0, 1, mX11_isGiver, [938, 940, 36, 79]),
  (11, 95, 0, 1, mX11_isWork, [942, 944, 37, 79]),
  (11, 108, 2, 1, mX11_isRule, [959, 960, 79]),
  (11, 119, 0, 0, mX11_textLong, [979, 981, 40, 79]),
  (11, 122, 0, 1, mX11_charAt, [983, 985, 41, 79]),
  (11, 132, 2, 1, mX11_rank, [1005, 1006, 79]),
  (11, 135, 0, 0, mX11_workOut, [1008, 1010, 45, 79]),
  (11, 147, 0, 0, mX11_ahead, [975, 977, 39, 79]),
  (11, 150, 0, 0, mX11_digits, [989, 991, 42, 79]),
  (11, 154, 0, 1, mX11_stands, [994, 996, 43, 79]),
  (11, 158, 2, 1, mX11_nameOf, [998, 999, 79]),
  (11, 161, 0, 1, mX11_workDown, [1001, 1003, 44, 79]),
  (11, 169, 0, 0, mX11_reads, [971, 973, 38, 79]),
  (11, 180, 0, 1, mX11_rootOf, [1036, 1038, 50, 79]),
  (11, 186, 0, 2, mX11_gift, [1016, 1018, 46, 79]),
  (11, 190, 0, 1, mX11_putHand, [1028, 1030, 48, 79]),
  (11, 197, 0, 1, mX11_addedBy, [1032, 1034, 49, 79]),
  (11, 200, 0, 2, mX11_part, [1043, 1045, 51, 79]),
  (11, 204, 0, 1, mX11_below, [1047, 1049, 52, 79]),
  (11, 207, 0, 3, mX11_worthOf, [1067, 1069, 55, 79]),
  (11, 211, 0, 0, mX11_addUp, [1024, 1026, 47, 79]),
  (11, 214, 0, 1, mX11_hasNow, [1063, 1065, 54, 79]),
  (11, 217, 0, 0, mX11_allNow, [1059, 1061, 53, 79]),
  (11, 220, 0, 4, mX11_setRow, [1079, 1081, 57, 79]),
  (11, 224, 0, 1, mX11_findBest, [1075, 1077, 56, 79]),
  (11, 227, 0, 1, mX11_note, [1095, 1097, 59, 79]),
  (11, 230, 0, 1, mX11_isAgain, [1099, 1101, 60, 79]),
  (11, 233, 0, 0, mX11_goByTurns, [1091, 1093, 58, 79]),
  (11, 236, 0, 0, mX11_allCoin, [1111, 1113, 62, 79]),
  (11, 239, 0, 0, mX11_findGood, [1107, 1109, 61, 79]),
  (11, 242, 0, 2, mX11_findHands, [1123, 1125, 63, 79]),
  (11, 245, 0, 0, mX11_coinsGiven, [1135, 1137, 64, 79]),
  (11, 248, 0, 4, mX11_addedTo, [1147, 1149, 66, 79]),
  (11, 252, 0, 5, mX11_holds, [1143, 1145, 65, 79]),
  (11, 260, 0, 1, mX11_count, [1169, 1160, 1161, 79]),
  (11, 263, 0, 2, mX11_amount, [1170, 1021, 1022, 79])]
def mlT12 : List MLE := [(12, 9, 3, 0, mX10_init, [84, 85, 68]),
  (12, 12, 3, 0, mX11_init, [821, 822, 79]),
  (12, 13, 0, 1, mX10_giver, [414, 415, 416, 68]),
  (12, 17, 0, 1, mX11_giver, [913, 914, 915, 79]),
  (12, 18, 0, 1, mX10_work, [421, 422, 423, 68]),
  (12, 21, 0, 1, mX11_work, [925, 926, 927, 79]),
  (12, 22, 0, 4, mX10_worth, [425, 426, 427, 68]),
  (12, 26, 0, 4, mX11_worth, [934, 935, 936, 79]),
  (12, 27, 0, 2, mX10_set, [441, 442, 443, 68]),
  (12, 31, 0, 2, mX11_set, [948, 949, 950, 79]),
  (12, 32, 0, 2, mX10_write, [464, 465, 466, 68]),
  (12, 35, 0, 2, mX11_write, [955, 956, 957, 79]),
  (12, 36, 0, 1, mX10_erase, [511, 512, 513, 68]),
  (12, 39, 0, 1, mX11_erase, [963, 964, 965, 79]),
  (12, 40, 0, 1, mX10_fault, [515, 516, 517, 68]),
  (12, 43, 0, 1, mX11_fault, [967, 968, 969, 79]),
  (12, 44, 0, 3, mX10_give, [519, 520, 521, 68]),
  (12, 48, 0, 3, mX11_give, [1012, 1013, 1014, 79]),
  (12, 49, 0, 2, mX10_amount, [527, 528, 529, 68]),
  (12, 52, 0, 2, mX11_amount, [1020, 1021, 1022, 79]),
  (12, 53, 0, 0, mX10_isShort, [603, 604, 605, 68]),
  (12, 57, 0, 0, mX11_isShort, [1051, 1052, 1053, 79]),
  (12, 58, 0, 1, mX10_has, [607, 608, 609, 68]),
  (12, 61, 0, 1, mX11_has, [1055, 1056, 1057, 79]),
  (12, 62, 0, 2, mX10_best, [631, 632, 633, 68]),
  (12, 65, 0, 2, mX11_best, [1071, 1072, 1073, 79]),
  (12, 66, 0, 1, mX10_rest, [658, 659, 660, 68]),
  (12, 69, 0, 1, mX11_rest, [1083, 1084, 1085, 79]),
  (12, 70, 0, 0, mX10_turns, [662, 663, 664, 68]),
  (12, 73, 0, 0, mX11_turns, [1087, 1088, 1089, 79]),
  (12, 74, 0, 1, mX10_good, [682, 683, 684, 68]),
  (12, 77, 0, 1, mX11_good, [1103, 1104, 1105, 79]),
  (12, 78, 0, 0, mX10_lost, [709, 710, 711, 68]),
  (12, 81, 0, 0, mX11_lost, [1115, 1116, 1117, 79]),
  (12, 82, 0, 2, mX10_gain, [713, 714, 715, 68]),
  (12, 85, 0, 2, mX11_gain, [1119, 1120, 1121, 79]),
  (12, 86, 0, 2, mX10_hand, [737, 738, 739, 68]),
  (12, 89, 0, 2, mX11_hand, [1127, 1128, 1129, 79]),
  (12, 90, 0, 1, mX10_anyway, [745, 746, 747, 68]),
  (12, 93, 0, 1, mX11_anyway, [1131, 1132, 1133, 79]),
  (12, 94, 0, 3, mX10_breach, [758, 759, 760, 68]),
  (12, 97, 0, 3, mX11_breach, [1139, 1140, 1141, 79]),
  (12, 98, 0, 1, mX10_image, [777, 778, 779, 68]),
  (12, 101, 0, 1, mX11_image, [1151, 1152, 1153, 79]),
  (12, 102, 0, 1, mX10_from, [791, 792, 793, 68]),
  (12, 105, 0, 1, mX11_from, [1155, 1156, 1157, 79]),
  (12, 106, 0, 1, mX10_count, [795, 796, 797, 68]),
  (12, 109, 0, 1, mX11_count, [1159, 1160, 1161, 79]),
  (12, 110, 0, 0, mX10_digest, [800, 801, 802, 68]),
  (12, 114, 0, 0, mX11_digest, [1163, 1164, 1165, 79])]
def mlT13 : List MLE := []
def mlT14 : List MLE := []
def mlT (oc : Nat) : List MLE := match oc with
  | 0 => mlT0
  | 1 => mlT1
  | 2 => mlT2
  | 3 => mlT3
  | 4 => mlT4
  | 5 => mlT5
  | 6 => mlT6
  | 7 => mlT7
  | 8 => mlT8
  | 9 => mlT9
  | 10 => mlT10
  | 11 => mlT11
  | 12 => mlT12
  | 13 => mlT13
  | _ => mlT14
def ml (oc idx : Nat) : Option MLE := (mlT oc).find? (fun e => e.2.1 == idx)
def nestT : List Cond := [.methodLinkNest (own 8) 52 yX7_init "GiftMatch", .methodLinkNest (own 10) 29 yX5_init "GiftMatch", .methodLinkNest (own 10) 36 yX9_init "GiftMatch", .methodLinkNest (own 10) 70 yX1_init "GiftMatch", .fieldLinkNest (own 9) 41 "GiftMatch" "ROOTS" "[I" "GiftMatch"]
theorem nestT_in : ∀ w ∈ nestT, w ∈ lw_tbl := by
  intro w hw
  have h : nestT = [99, 205, 228, 332, 553].filterMap (fun i => lw_tbl[i]?) := by decide +kernel
  rw [h] at hw
  obtain ⟨i, -, hi⟩ := List.mem_filterMap.mp hw
  exact List.mem_of_getElem? hi
def gtbl : List Cond := lw_tbl.filter goodWord
theorem in_g {w : Cond} (h : w ∈ lw_tbl) (hg : goodWord w = true) : w ∈ gtbl := List.mem_filter.mpr ⟨h, hg⟩
def mlW (e : MLE) : List Cond := match e with
  | (oc, idx, kind, _, (y, _), _) => match kind with
    | 0 => [.methodLink (own oc) idx y, .instanceMethod y, .selects y.cls y y, .initialized y.cls]
    | 2 => [.methodLink (own oc) idx y, .static y, .initialized y.cls]
    | 3 => [.methodLink (own oc) idx y, .instanceMethod y, .initialized y.cls]
    | 4 => [.instanceMethod y, .initialized y.cls]
    | _ => []
def mlK (oc : Nat) (e : MLE) : Bool := match e with
  | (oc', _, kind, na, (y, _, mL, ret, _, _, oy), ps) => decide (oc' = oc) && decide (mlW e = ps.filterMap (fun i => lw_tbl[i]?)) && decide (y.cls = own oy) && plainName y.cls && decide (mL ≤ 22) && decide (y.cls ≠ "java/lang/invoke/MethodHandle" ∧ y.cls ≠ "java/lang/invoke/VarHandle" ∧ (parseMethodDescriptor y.desc).map (fun d => d.parameters.length) = some na)
      && decide (kind = 0 ∨ kind = 2 ∨ kind = 3 ∨ kind = 4) && ((decide (y.name = "<init>") && decide (ret = none)) || !(decide (kind = 3) || decide (kind = 4))) && ((mlW e).all goodWord) && (!(decide (kind = 4)) || nestT.contains (.methodLinkNest (own oc) e.2.1 y "GiftMatch"))
set_option maxRecDepth 100000 in
theorem mlT0_ok : (mlT0.all (mlK 0)) = true := by decide +kernel
set_option maxRecDepth 100000 in
theorem mlT1_ok : (mlT1.all (mlK 1)) = true := by decide +kernel
set_option maxRecDepth 100000 in
theorem mlT2_ok : (mlT2.all (mlK 2)) = true := by decide +kernel
set_option maxRecDepth 100000 in
theorem mlT3_ok : (mlT3.all (mlK 3)) = true := by decide +kernel
set_option maxRecDepth 100000 in
theorem mlT4_ok : (mlT4.all (mlK 4)) = true := by decide +kernel
set_option maxRecDepth 100000 in
theorem mlT5_ok : (mlT5.all (mlK 5)) = true := by decide +kernel
set_option maxRecDepth 100000 in
theorem mlT6_ok : (mlT6.all (mlK 6)) = true := by decide +kernel
set_option maxRecDepth 100000 in
theorem mlT7_ok : (mlT7.all (mlK 7)) = true := by decide +kernel
set_option maxRecDepth 100000 in
theorem mlT8_ok : (mlT8.all (mlK 8)) = true := by decide +kernel
set_option maxRecDepth 100000 in
theorem mlT9_ok : (mlT9.all (mlK 9)) = true := by decide +kernel
set_option maxRecDepth 100000 in
theorem mlT10_ok : (mlT10.all (mlK 10)) = true := by decide +kernel
set_option maxRecDepth 100000 in
theorem mlT11_ok : (mlT11.all (mlK 11)) = true := by decide +kernel
set_option maxRecDepth 100000 in
theorem mlT12_ok : (mlT12.all (mlK 12)) = true := by decide +kernel
set_option maxRecDepth 100000 in
theorem mlT13_ok : (mlT13.all (mlK 13)) = true := by decide +kernel
set_option maxRecDepth 100000 in
theorem mlT14_ok : (mlT14.all (mlK 14)) = true := by decide +kernel
set_option maxRecDepth 100000 in
theorem cw_X0_init : Cond.code yX0_init cX0_init 2 none ∈ lw_tbl := List.mem_of_getElem? (i := 290) rfl
set_option maxRecDepth 100000 in
theorem cw_X0_choose : Cond.code yX0_choose cX0_choose 10 none ∈ lw_tbl := List.mem_of_getElem? (i := 638) rfl
set_option maxRecDepth 100000 in
theorem cw_X0_foresee : Cond.code yX0_foresee cX0_foresee 6 none ∈ lw_tbl := List.mem_of_getElem? (i := 645) rfl
set_option maxRecDepth 100000 in
theorem cw_X0_weigh : Cond.code yX0_weigh cX0_weigh 7 none ∈ lw_tbl := List.mem_of_getElem? (i := 652) rfl
set_option maxRecDepth 100000 in
theorem cw_X0_enter : Cond.code yX0_enter cX0_enter 3 none ∈ lw_tbl := List.mem_of_getElem? (i := 656) rfl
set_option maxRecDepth 100000 in
theorem cw_X1_init : Cond.code yX1_init cX1_init 1 none ∈ lw_tbl := List.mem_of_getElem? (i := 334) rfl
set_option maxRecDepth 100000 in
theorem cw_X1_find : Cond.code yX1_find cX1_find 6 none ∈ lw_tbl := List.mem_of_getElem? (i := 689) rfl
set_option maxRecDepth 100000 in
theorem cw_X1_fillWorths : Cond.code yX1_fillWorths cX1_fillWorths 6 none ∈ lw_tbl := List.mem_of_getElem? (i := 698) rfl
set_option maxRecDepth 100000 in
theorem cw_X1_firstBest : Cond.code yX1_firstBest cX1_firstBest 8 (some .int) ∈ lw_tbl := List.mem_of_getElem? (i := 704) rfl
set_option maxRecDepth 100000 in
theorem cw_X1_haveBy : Cond.code yX1_haveBy cX1_haveBy 4 (some .int) ∈ lw_tbl := List.mem_of_getElem? (i := 708) rfl
set_option maxRecDepth 100000 in
theorem cw_X2_init : Cond.code yX2_init cX2_init 2 none ∈ lw_tbl := List.mem_of_getElem? (i := 371) rfl
set_option maxRecDepth 100000 in
theorem cw_X2_hold : Cond.code yX2_hold cX2_hold 7 (some .boolean) ∈ lw_tbl := List.mem_of_getElem? (i := 765) rfl
set_option maxRecDepth 100000 in
theorem cw_X2_noneMoreByHands : Cond.code yX2_noneMoreByHands cX2_noneMoreByHands 6 (some .boolean) ∈ lw_tbl := List.mem_of_getElem? (i := 776) rfl
set_option maxRecDepth 100000 in
theorem cw_X2_addedTo : Cond.code yX2_addedTo cX2_addedTo 5 (some .int) ∈ lw_tbl := List.mem_of_getElem? (i := 769) rfl
set_option maxRecDepth 100000 in
theorem cw_X3_init : Cond.code yX3_init cX3_init 2 none ∈ lw_tbl := List.mem_of_getElem? (i := 259) rfl
set_option maxRecDepth 100000 in
theorem cw_X3_fill : Cond.code yX3_fill cX3_fill 3 none ∈ lw_tbl := List.mem_of_getElem? (i := 534) rfl
set_option maxRecDepth 100000 in
theorem cw_X3_partPurse : Cond.code yX3_partPurse cX3_partPurse 4 none ∈ lw_tbl := List.mem_of_getElem? (i := 589) rfl
set_option maxRecDepth 100000 in
theorem cw_X3_partByShare : Cond.code yX3_partByShare cX3_partByShare 4 none ∈ lw_tbl := List.mem_of_getElem? (i := 593) rfl
set_option maxRecDepth 100000 in
theorem cw_X3_partByNumber : Cond.code yX3_partByNumber cX3_partByNumber 4 none ∈ lw_tbl := List.mem_of_getElem? (i := 597) rfl
set_option maxRecDepth 100000 in
theorem cw_X3_partByBound : Cond.code yX3_partByBound cX3_partByBound 7 none ∈ lw_tbl := List.mem_of_getElem? (i := 602) rfl
set_option maxRecDepth 100000 in
theorem cw_X3_haveOf : Cond.code yX3_haveOf cX3_haveOf 6 (some .int) ∈ lw_tbl := List.mem_of_getElem? (i := 623) rfl
set_option maxRecDepth 100000 in
theorem cw_X3_allHave : Cond.code yX3_allHave cX3_allHave 4 (some .int) ∈ lw_tbl := List.mem_of_getElem? (i := 614) rfl
set_option maxRecDepth 100000 in
theorem cw_X4_init : Cond.code yX4_init cX4_init 2 none ∈ lw_tbl := List.mem_of_getElem? (i := 355) rfl
set_option maxRecDepth 100000 in
theorem cw_X4_weighAll : Cond.code yX4_weighAll cX4_weighAll 8 none ∈ lw_tbl := List.mem_of_getElem? (i := 720) rfl
set_option maxRecDepth 100000 in
theorem cw_X4_weigh : Cond.code yX4_weigh cX4_weigh 10 none ∈ lw_tbl := List.mem_of_getElem? (i := 727) rfl
set_option maxRecDepth 100000 in
theorem cw_X4_most : Cond.code yX4_most cX4_most 3 (some .int) ∈ lw_tbl := List.mem_of_getElem? (i := 736) rfl
set_option maxRecDepth 100000 in
theorem cw_X4_leastCost : Cond.code yX4_leastCost cX4_leastCost 4 (some .int) ∈ lw_tbl := List.mem_of_getElem? (i := 744) rfl
set_option maxRecDepth 100000 in
theorem cw_X5_init : Cond.code yX5_init cX5_init 1 none ∈ lw_tbl := List.mem_of_getElem? (i := 207) rfl
set_option maxRecDepth 100000 in
theorem cw_X5_read : Cond.code yX5_read cX5_read 3 none ∈ lw_tbl := List.mem_of_getElem? (i := 471) rfl
set_option maxRecDepth 100000 in
theorem cw_X5_readCharacter : Cond.code yX5_readCharacter cX5_readCharacter 5 none ∈ lw_tbl := List.mem_of_getElem? (i := 475) rfl
set_option maxRecDepth 100000 in
theorem cw_X5_readDigit : Cond.code yX5_readDigit cX5_readDigit 5 none ∈ lw_tbl := List.mem_of_getElem? (i := 479) rfl
set_option maxRecDepth 100000 in
theorem cw_X5_readUnit : Cond.code yX5_readUnit cX5_readUnit 4 (some .boolean) ∈ lw_tbl := List.mem_of_getElem? (i := 487) rfl
set_option maxRecDepth 100000 in
theorem cw_X5_readBehindUnit : Cond.code yX5_readBehindUnit cX5_readBehindUnit 4 (some .boolean) ∈ lw_tbl := List.mem_of_getElem? (i := 495) rfl
set_option maxRecDepth 100000 in
theorem cw_X5_closeBracket : Cond.code yX5_closeBracket cX5_closeBracket 2 (some .boolean) ∈ lw_tbl := List.mem_of_getElem? (i := 499) rfl
set_option maxRecDepth 100000 in
theorem cw_X5_hold : Cond.code yX5_hold cX5_hold 2 none ∈ lw_tbl := List.mem_of_getElem? (i := 491) rfl
set_option maxRecDepth 100000 in
theorem cw_X5_release : Cond.code yX5_release cX5_release 3 none ∈ lw_tbl := List.mem_of_getElem? (i := 503) rfl
set_option maxRecDepth 100000 in
theorem cw_X5_lastRank : Cond.code yX5_lastRank cX5_lastRank 1 (some .int) ∈ lw_tbl := List.mem_of_getElem? (i := 510) rfl
set_option maxRecDepth 100000 in
theorem cw_X5_rankOf : Cond.code yX5_rankOf cX5_rankOf 1 (some .int) ∈ lw_tbl := List.mem_of_getElem? (i := 506) rfl
set_option maxRecDepth 100000 in
theorem cw_X6_init : Cond.code yX6_init cX6_init 2 none ∈ lw_tbl := List.mem_of_getElem? (i := 321) rfl
set_option maxRecDepth 100000 in
theorem cw_X6_run : Cond.code yX6_run cX6_run 5 (some .int) ∈ lw_tbl := List.mem_of_getElem? (i := 669) rfl
set_option maxRecDepth 100000 in
theorem cw_X6_wasBefore : Cond.code yX6_wasBefore cX6_wasBefore 3 (some .boolean) ∈ lw_tbl := List.mem_of_getElem? (i := 681) rfl
set_option maxRecDepth 100000 in
theorem cw_X7_init : Cond.code yX7_init cX7_init 1 none ∈ lw_tbl := List.mem_of_getElem? (i := 101) rfl
set_option maxRecDepth 100000 in
theorem cw_X7_take : Cond.code yX7_take cX7_take 2 none ∈ lw_tbl := List.mem_of_getElem? (i := 789) rfl
set_option maxRecDepth 100000 in
theorem cw_X7_addStep : Cond.code yX7_addStep cX7_addStep 2 none ∈ lw_tbl := List.mem_of_getElem? (i := 483) rfl
set_option maxRecDepth 100000 in
theorem cw_X8_init : Cond.code yX8_init cX8_init 2 none ∈ lw_tbl := List.mem_of_getElem? (i := 94) rfl
set_option maxRecDepth 100000 in
theorem cw_X8_take : Cond.code yX8_take cX8_take 3 none ∈ lw_tbl := List.mem_of_getElem? (i := 784) rfl
set_option maxRecDepth 100000 in
theorem cw_X8_takePeople : Cond.code yX8_takePeople cX8_takePeople 3 none ∈ lw_tbl := List.mem_of_getElem? (i := 752) rfl
set_option maxRecDepth 100000 in
theorem cw_X8_givenBy : Cond.code yX8_givenBy cX8_givenBy 4 (some .int) ∈ lw_tbl := List.mem_of_getElem? (i := 526) rfl
set_option maxRecDepth 100000 in
theorem cw_X8_keptBy : Cond.code yX8_keptBy cX8_keptBy 2 (some .int) ∈ lw_tbl := List.mem_of_getElem? (i := 618) rfl
set_option maxRecDepth 100000 in
theorem cw_X8_givenTo : Cond.code yX8_givenTo cX8_givenTo 4 (some .int) ∈ lw_tbl := List.mem_of_getElem? (i := 558) rfl
set_option maxRecDepth 100000 in
theorem cw_X8_givenInAll : Cond.code yX8_givenInAll cX8_givenInAll 3 (some .int) ∈ lw_tbl := List.mem_of_getElem? (i := 757) rfl
set_option maxRecDepth 100000 in
theorem cw_X8_coinInAll : Cond.code yX8_coinInAll cX8_coinInAll 3 (some .int) ∈ lw_tbl := List.mem_of_getElem? (i := 693) rfl
set_option maxRecDepth 100000 in
theorem cw_X8_packedGifts : Cond.code yX8_packedGifts cX8_packedGifts 4 (some .long) ∈ lw_tbl := List.mem_of_getElem? (i := 673) rfl
set_option maxRecDepth 100000 in
theorem cw_X8_worthOf : Cond.code yX8_worthOf cX8_worthOf 7 (some .int) ∈ lw_tbl := List.mem_of_getElem? (i := 627) rfl
set_option maxRecDepth 100000 in
theorem cw_X9_init : Cond.code yX9_init cX9_init 1 none ∈ lw_tbl := List.mem_of_getElem? (i := 230) rfl
set_option maxRecDepth 100000 in
theorem cw_X9_clear : Cond.code yX9_clear cX9_clear 1 none ∈ lw_tbl := List.mem_of_getElem? (i := 542) rfl
set_option maxRecDepth 100000 in
theorem cw_X9_see : Cond.code yX9_see cX9_see 2 none ∈ lw_tbl := List.mem_of_getElem? (i := 546) rfl
set_option maxRecDepth 100000 in
theorem cw_X9_seeAllBut : Cond.code yX9_seeAllBut cX9_seeAllBut 5 none ∈ lw_tbl := List.mem_of_getElem? (i := 538) rfl
set_option maxRecDepth 100000 in
theorem cw_X9_toldBy : Cond.code yX9_toldBy cX9_toldBy 4 (some .int) ∈ lw_tbl := List.mem_of_getElem? (i := 562) rfl
set_option maxRecDepth 100000 in
theorem cw_X9_doStep : Cond.code yX9_doStep cX9_doStep 6 none ∈ lw_tbl := List.mem_of_getElem? (i := 570) rfl
set_option maxRecDepth 100000 in
theorem cw_X9_joined : Cond.code yX9_joined cX9_joined 5 (some .long) ∈ lw_tbl := List.mem_of_getElem? (i := 578) rfl
set_option maxRecDepth 100000 in
theorem cw_X9_push : Cond.code yX9_push cX9_push 3 none ∈ lw_tbl := List.mem_of_getElem? (i := 566) rfl
set_option maxRecDepth 100000 in
theorem cw_X9_pop : Cond.code yX9_pop cX9_pop 1 (some .long) ∈ lw_tbl := List.mem_of_getElem? (i := 575) rfl
set_option maxRecDepth 100000 in
theorem cw_X10_init : Cond.code yX10_init cX10_init 2 none ∈ lw_tbl := List.mem_of_getElem? (i := 86) rfl
set_option maxRecDepth 100000 in
theorem cw_X10_giver : Cond.code yX10_giver cX10_giver 2 (some .int) ∈ lw_tbl := List.mem_of_getElem? (i := 417) rfl
set_option maxRecDepth 100000 in
theorem cw_X10_work : Cond.code yX10_work cX10_work 2 (some .int) ∈ lw_tbl := List.mem_of_getElem? (i := 424) rfl
set_option maxRecDepth 100000 in
theorem cw_X10_worth : Cond.code yX10_worth cX10_worth 5 (some .int) ∈ lw_tbl := List.mem_of_getElem? (i := 428) rfl
set_option maxRecDepth 100000 in
theorem cw_X10_set : Cond.code yX10_set cX10_set 3 (some .int) ∈ lw_tbl := List.mem_of_getElem? (i := 444) rfl
set_option maxRecDepth 100000 in
theorem cw_X10_write : Cond.code yX10_write cX10_write 4 (some .int) ∈ lw_tbl := List.mem_of_getElem? (i := 467) rfl
set_option maxRecDepth 100000 in
theorem cw_X10_erase : Cond.code yX10_erase cX10_erase 4 (some .int) ∈ lw_tbl := List.mem_of_getElem? (i := 514) rfl
set_option maxRecDepth 100000 in
theorem cw_X10_fault : Cond.code yX10_fault cX10_fault 2 (some .int) ∈ lw_tbl := List.mem_of_getElem? (i := 518) rfl
set_option maxRecDepth 100000 in
theorem cw_X10_give : Cond.code yX10_give cX10_give 6 (some .int) ∈ lw_tbl := List.mem_of_getElem? (i := 522) rfl
set_option maxRecDepth 100000 in
theorem cw_X10_amount : Cond.code yX10_amount cX10_amount 3 (some .int) ∈ lw_tbl := List.mem_of_getElem? (i := 530) rfl
set_option maxRecDepth 100000 in
theorem cw_X10_isShort : Cond.code yX10_isShort cX10_isShort 1 (some .int) ∈ lw_tbl := List.mem_of_getElem? (i := 606) rfl
set_option maxRecDepth 100000 in
theorem cw_X10_has : Cond.code yX10_has cX10_has 2 (some .int) ∈ lw_tbl := List.mem_of_getElem? (i := 610) rfl
set_option maxRecDepth 100000 in
theorem cw_X10_best : Cond.code yX10_best cX10_best 3 (some .int) ∈ lw_tbl := List.mem_of_getElem? (i := 634) rfl
set_option maxRecDepth 100000 in
theorem cw_X10_rest : Cond.code yX10_rest cX10_rest 4 (some .int) ∈ lw_tbl := List.mem_of_getElem? (i := 661) rfl
set_option maxRecDepth 100000 in
theorem cw_X10_turns : Cond.code yX10_turns cX10_turns 1 (some .int) ∈ lw_tbl := List.mem_of_getElem? (i := 665) rfl
set_option maxRecDepth 100000 in
theorem cw_X10_good : Cond.code yX10_good cX10_good 2 (some .int) ∈ lw_tbl := List.mem_of_getElem? (i := 685) rfl
set_option maxRecDepth 100000 in
theorem cw_X10_lost : Cond.code yX10_lost cX10_lost 1 (some .int) ∈ lw_tbl := List.mem_of_getElem? (i := 712) rfl
set_option maxRecDepth 100000 in
theorem cw_X10_gain : Cond.code yX10_gain cX10_gain 3 (some .int) ∈ lw_tbl := List.mem_of_getElem? (i := 716) rfl
set_option maxRecDepth 100000 in
theorem cw_X10_hand : Cond.code yX10_hand cX10_hand 4 (some .int) ∈ lw_tbl := List.mem_of_getElem? (i := 740) rfl
set_option maxRecDepth 100000 in
theorem cw_X10_anyway : Cond.code yX10_anyway cX10_anyway 3 (some .int) ∈ lw_tbl := List.mem_of_getElem? (i := 748) rfl
set_option maxRecDepth 100000 in
theorem cw_X10_breach : Cond.code yX10_breach cX10_breach 7 (some .int) ∈ lw_tbl := List.mem_of_getElem? (i := 761) rfl
set_option maxRecDepth 100000 in
theorem cw_X10_image : Cond.code yX10_image cX10_image 2 (some .int) ∈ lw_tbl := List.mem_of_getElem? (i := 780) rfl
set_option maxRecDepth 100000 in
theorem cw_X10_from : Cond.code yX10_from cX10_from 2 (some .int) ∈ lw_tbl := List.mem_of_getElem? (i := 794) rfl
set_option maxRecDepth 100000 in
theorem cw_X10_count : Cond.code yX10_count cX10_count 2 (some .int) ∈ lw_tbl := List.mem_of_getElem? (i := 798) rfl
set_option maxRecDepth 100000 in
theorem cw_X10_digest : Cond.code yX10_digest cX10_digest 4 (some .long) ∈ lw_tbl := List.mem_of_getElem? (i := 803) rfl
set_option maxRecDepth 100000 in
theorem cw_X10_digestGivers : Cond.code yX10_digestGivers cX10_digestGivers 8 (some .long) ∈ lw_tbl := List.mem_of_getElem? (i := 810) rfl
set_option maxRecDepth 100000 in
theorem cw_X10_digestWorks : Cond.code yX10_digestWorks cX10_digestWorks 6 (some .long) ∈ lw_tbl := List.mem_of_getElem? (i := 814) rfl
set_option maxRecDepth 100000 in
theorem cw_X10_digestRules : Cond.code yX10_digestRules cX10_digestRules 8 (some .long) ∈ lw_tbl := List.mem_of_getElem? (i := 818) rfl
set_option maxRecDepth 100000 in
theorem cw_X10_setKeep : Cond.code yX10_setKeep cX10_setKeep 3 (some .int) ∈ lw_tbl := List.mem_of_getElem? (i := 448) rfl
set_option maxRecDepth 100000 in
theorem cw_X10_setTheRule : Cond.code yX10_setTheRule cX10_setTheRule 3 (some .int) ∈ lw_tbl := List.mem_of_getElem? (i := 452) rfl
set_option maxRecDepth 100000 in
theorem cw_X10_setPurse : Cond.code yX10_setPurse cX10_setPurse 3 (some .int) ∈ lw_tbl := List.mem_of_getElem? (i := 459) rfl
set_option maxRecDepth 100000 in
theorem cw_X10_setParted : Cond.code yX10_setParted cX10_setParted 3 (some .int) ∈ lw_tbl := List.mem_of_getElem? (i := 463) rfl
set_option maxRecDepth 100000 in
theorem cw_X10_isWithin : Cond.code yX10_isWithin cX10_isWithin 2 (some .boolean) ∈ lw_tbl := List.mem_of_getElem? (i := 420) rfl
set_option maxRecDepth 100000 in
theorem cw_X10_isRule : Cond.code yX10_isRule cX10_isRule 1 (some .boolean) ∈ lw_tbl := List.mem_of_getElem? (i := 455) rfl
set_option maxRecDepth 100000 in
theorem cw_X10_isGiver : Cond.code yX10_isGiver cX10_isGiver 2 (some .boolean) ∈ lw_tbl := List.mem_of_getElem? (i := 436) rfl
set_option maxRecDepth 100000 in
theorem cw_X10_isWork : Cond.code yX10_isWork cX10_isWork 2 (some .boolean) ∈ lw_tbl := List.mem_of_getElem? (i := 440) rfl
set_option maxRecDepth 100000 in
theorem cw_X10_isPair : Cond.code yX10_isPair cX10_isPair 3 (some .boolean) ∈ lw_tbl := List.mem_of_getElem? (i := 432) rfl
set_option maxRecDepth 100000 in
theorem cw_X11_init : Cond.code yX11_init cX11_init 1 none ∈ lw_tbl := List.mem_of_getElem? (i := 823) rfl
set_option maxRecDepth 100000 in
theorem cw_X11_in : Cond.code yX11_in cX11_in 6 (some .boolean) ∈ lw_tbl := List.mem_of_getElem? (i := 920) rfl
set_option maxRecDepth 100000 in
theorem cw_X11_givers : Cond.code yX11_givers cX11_givers 1 (some .int) ∈ lw_tbl := List.mem_of_getElem? (i := 924) rfl
set_option maxRecDepth 100000 in
theorem cw_X11_works : Cond.code yX11_works cX11_works 1 (some .int) ∈ lw_tbl := List.mem_of_getElem? (i := 933) rfl
set_option maxRecDepth 100000 in
theorem cw_X11_isGiver : Cond.code yX11_isGiver cX11_isGiver 2 (some .boolean) ∈ lw_tbl := List.mem_of_getElem? (i := 941) rfl
set_option maxRecDepth 100000 in
theorem cw_X11_isWork : Cond.code yX11_isWork cX11_isWork 2 (some .boolean) ∈ lw_tbl := List.mem_of_getElem? (i := 945) rfl
set_option maxRecDepth 100000 in
theorem cw_X11_gift : Cond.code yX11_gift cX11_gift 3 (some .int) ∈ lw_tbl := List.mem_of_getElem? (i := 1019) rfl
set_option maxRecDepth 100000 in
theorem cw_X11_giver : Cond.code yX11_giver cX11_giver 2 (some .int) ∈ lw_tbl := List.mem_of_getElem? (i := 916) rfl
set_option maxRecDepth 100000 in
theorem cw_X11_work : Cond.code yX11_work cX11_work 2 (some .int) ∈ lw_tbl := List.mem_of_getElem? (i := 928) rfl
set_option maxRecDepth 100000 in
theorem cw_X11_worth : Cond.code yX11_worth cX11_worth 5 (some .int) ∈ lw_tbl := List.mem_of_getElem? (i := 937) rfl
set_option maxRecDepth 100000 in
theorem cw_X11_set : Cond.code yX11_set cX11_set 4 (some .int) ∈ lw_tbl := List.mem_of_getElem? (i := 951) rfl
set_option maxRecDepth 100000 in
theorem cw_X11_isRule : Cond.code yX11_isRule cX11_isRule 1 (some .boolean) ∈ lw_tbl := List.mem_of_getElem? (i := 961) rfl
set_option maxRecDepth 100000 in
theorem cw_X11_write : Cond.code yX11_write cX11_write 4 (some .int) ∈ lw_tbl := List.mem_of_getElem? (i := 958) rfl
set_option maxRecDepth 100000 in
theorem cw_X11_erase : Cond.code yX11_erase cX11_erase 3 (some .int) ∈ lw_tbl := List.mem_of_getElem? (i := 966) rfl
set_option maxRecDepth 100000 in
theorem cw_X11_textLong : Cond.code yX11_textLong cX11_textLong 1 (some .int) ∈ lw_tbl := List.mem_of_getElem? (i := 982) rfl
set_option maxRecDepth 100000 in
theorem cw_X11_charAt : Cond.code yX11_charAt cX11_charAt 2 (some .int) ∈ lw_tbl := List.mem_of_getElem? (i := 986) rfl
set_option maxRecDepth 100000 in
theorem cw_X11_ahead : Cond.code yX11_ahead cX11_ahead 1 (some .int) ∈ lw_tbl := List.mem_of_getElem? (i := 978) rfl
set_option maxRecDepth 100000 in
theorem cw_X11_rank : Cond.code yX11_rank cX11_rank 1 (some .int) ∈ lw_tbl := List.mem_of_getElem? (i := 1007) rfl
set_option maxRecDepth 100000 in
theorem cw_X11_workOut : Cond.code yX11_workOut cX11_workOut 7 none ∈ lw_tbl := List.mem_of_getElem? (i := 1011) rfl
set_option maxRecDepth 100000 in
theorem cw_X11_workDown : Cond.code yX11_workDown cX11_workDown 2 none ∈ lw_tbl := List.mem_of_getElem? (i := 1004) rfl
set_option maxRecDepth 100000 in
theorem cw_X11_stands : Cond.code yX11_stands cX11_stands 5 none ∈ lw_tbl := List.mem_of_getElem? (i := 997) rfl
set_option maxRecDepth 100000 in
theorem cw_X11_nameOf : Cond.code yX11_nameOf cX11_nameOf 1 (some .int) ∈ lw_tbl := List.mem_of_getElem? (i := 1000) rfl
set_option maxRecDepth 100000 in
theorem cw_X11_digits : Cond.code yX11_digits cX11_digits 4 (some .long) ∈ lw_tbl := List.mem_of_getElem? (i := 992) rfl
set_option maxRecDepth 100000 in
theorem cw_X11_reads : Cond.code yX11_reads cX11_reads 5 (some .boolean) ∈ lw_tbl := List.mem_of_getElem? (i := 974) rfl
set_option maxRecDepth 100000 in
theorem cw_X11_fault : Cond.code yX11_fault cX11_fault 3 (some .int) ∈ lw_tbl := List.mem_of_getElem? (i := 970) rfl
set_option maxRecDepth 100000 in
theorem cw_X11_rootOf : Cond.code yX11_rootOf cX11_rootOf 8 (some .long) ∈ lw_tbl := List.mem_of_getElem? (i := 1039) rfl
set_option maxRecDepth 100000 in
theorem cw_X11_putHand : Cond.code yX11_putHand cX11_putHand 2 none ∈ lw_tbl := List.mem_of_getElem? (i := 1031) rfl
set_option maxRecDepth 100000 in
theorem cw_X11_addedBy : Cond.code yX11_addedBy cX11_addedBy 14 (some .int) ∈ lw_tbl := List.mem_of_getElem? (i := 1035) rfl
set_option maxRecDepth 100000 in
theorem cw_X11_addUp : Cond.code yX11_addUp cX11_addUp 5 none ∈ lw_tbl := List.mem_of_getElem? (i := 1027) rfl
set_option maxRecDepth 100000 in
theorem cw_X11_part : Cond.code yX11_part cX11_part 6 none ∈ lw_tbl := List.mem_of_getElem? (i := 1046) rfl
set_option maxRecDepth 100000 in
theorem cw_X11_below : Cond.code yX11_below cX11_below 4 (some .int) ∈ lw_tbl := List.mem_of_getElem? (i := 1050) rfl
set_option maxRecDepth 100000 in
theorem cw_X11_worthOf : Cond.code yX11_worthOf cX11_worthOf 7 (some .int) ∈ lw_tbl := List.mem_of_getElem? (i := 1070) rfl
set_option maxRecDepth 100000 in
theorem cw_X11_hasNow : Cond.code yX11_hasNow cX11_hasNow 5 (some .int) ∈ lw_tbl := List.mem_of_getElem? (i := 1066) rfl
set_option maxRecDepth 100000 in
theorem cw_X11_allNow : Cond.code yX11_allNow cX11_allNow 3 (some .int) ∈ lw_tbl := List.mem_of_getElem? (i := 1062) rfl
set_option maxRecDepth 100000 in
theorem cw_X11_give : Cond.code yX11_give cX11_give 6 (some .int) ∈ lw_tbl := List.mem_of_getElem? (i := 1015) rfl
set_option maxRecDepth 100000 in
theorem cw_X11_amount : Cond.code yX11_amount cX11_amount 3 (some .int) ∈ lw_tbl := List.mem_of_getElem? (i := 1023) rfl
set_option maxRecDepth 100000 in
theorem cw_X11_isShort : Cond.code yX11_isShort cX11_isShort 3 (some .int) ∈ lw_tbl := List.mem_of_getElem? (i := 1054) rfl
set_option maxRecDepth 100000 in
theorem cw_X11_has : Cond.code yX11_has cX11_has 2 (some .int) ∈ lw_tbl := List.mem_of_getElem? (i := 1058) rfl
set_option maxRecDepth 100000 in
theorem cw_X11_setRow : Cond.code yX11_setRow cX11_setRow 5 none ∈ lw_tbl := List.mem_of_getElem? (i := 1082) rfl
set_option maxRecDepth 100000 in
theorem cw_X11_findBest : Cond.code yX11_findBest cX11_findBest 8 (some .int) ∈ lw_tbl := List.mem_of_getElem? (i := 1078) rfl
set_option maxRecDepth 100000 in
theorem cw_X11_best : Cond.code yX11_best cX11_best 4 (some .int) ∈ lw_tbl := List.mem_of_getElem? (i := 1074) rfl
set_option maxRecDepth 100000 in
theorem cw_X11_rest : Cond.code yX11_rest cX11_rest 4 (some .int) ∈ lw_tbl := List.mem_of_getElem? (i := 1086) rfl
set_option maxRecDepth 100000 in
theorem cw_X11_isAgain : Cond.code yX11_isAgain cX11_isAgain 5 (some .boolean) ∈ lw_tbl := List.mem_of_getElem? (i := 1102) rfl
set_option maxRecDepth 100000 in
theorem cw_X11_note : Cond.code yX11_note cX11_note 3 none ∈ lw_tbl := List.mem_of_getElem? (i := 1098) rfl
set_option maxRecDepth 100000 in
theorem cw_X11_goByTurns : Cond.code yX11_goByTurns cX11_goByTurns 5 (some .int) ∈ lw_tbl := List.mem_of_getElem? (i := 1094) rfl
set_option maxRecDepth 100000 in
theorem cw_X11_turns : Cond.code yX11_turns cX11_turns 1 (some .int) ∈ lw_tbl := List.mem_of_getElem? (i := 1090) rfl
set_option maxRecDepth 100000 in
theorem cw_X11_allCoin : Cond.code yX11_allCoin cX11_allCoin 3 (some .int) ∈ lw_tbl := List.mem_of_getElem? (i := 1114) rfl
set_option maxRecDepth 100000 in
theorem cw_X11_findGood : Cond.code yX11_findGood cX11_findGood 9 (some .int) ∈ lw_tbl := List.mem_of_getElem? (i := 1110) rfl
set_option maxRecDepth 100000 in
theorem cw_X11_good : Cond.code yX11_good cX11_good 3 (some .int) ∈ lw_tbl := List.mem_of_getElem? (i := 1106) rfl
set_option maxRecDepth 100000 in
theorem cw_X11_lost : Cond.code yX11_lost cX11_lost 1 (some .int) ∈ lw_tbl := List.mem_of_getElem? (i := 1118) rfl
set_option maxRecDepth 100000 in
theorem cw_X11_findHands : Cond.code yX11_findHands cX11_findHands 10 none ∈ lw_tbl := List.mem_of_getElem? (i := 1126) rfl
set_option maxRecDepth 100000 in
theorem cw_X11_gain : Cond.code yX11_gain cX11_gain 5 (some .int) ∈ lw_tbl := List.mem_of_getElem? (i := 1122) rfl
set_option maxRecDepth 100000 in
theorem cw_X11_hand : Cond.code yX11_hand cX11_hand 6 (some .int) ∈ lw_tbl := List.mem_of_getElem? (i := 1130) rfl
set_option maxRecDepth 100000 in
theorem cw_X11_coinsGiven : Cond.code yX11_coinsGiven cX11_coinsGiven 3 (some .int) ∈ lw_tbl := List.mem_of_getElem? (i := 1138) rfl
set_option maxRecDepth 100000 in
theorem cw_X11_anyway : Cond.code yX11_anyway cX11_anyway 6 (some .int) ∈ lw_tbl := List.mem_of_getElem? (i := 1134) rfl
set_option maxRecDepth 100000 in
theorem cw_X11_addedTo : Cond.code yX11_addedTo cX11_addedTo 5 (some .int) ∈ lw_tbl := List.mem_of_getElem? (i := 1150) rfl
set_option maxRecDepth 100000 in
theorem cw_X11_holds : Cond.code yX11_holds cX11_holds 9 (some .boolean) ∈ lw_tbl := List.mem_of_getElem? (i := 1146) rfl
set_option maxRecDepth 100000 in
theorem cw_X11_breach : Cond.code yX11_breach cX11_breach 6 (some .int) ∈ lw_tbl := List.mem_of_getElem? (i := 1142) rfl
set_option maxRecDepth 100000 in
theorem cw_X11_image : Cond.code yX11_image cX11_image 3 (some .int) ∈ lw_tbl := List.mem_of_getElem? (i := 1154) rfl
set_option maxRecDepth 100000 in
theorem cw_X11_from : Cond.code yX11_from cX11_from 3 (some .int) ∈ lw_tbl := List.mem_of_getElem? (i := 1158) rfl
set_option maxRecDepth 100000 in
theorem cw_X11_count : Cond.code yX11_count cX11_count 2 (some .int) ∈ lw_tbl := List.mem_of_getElem? (i := 1162) rfl
set_option maxRecDepth 100000 in
theorem cw_X11_digest : Cond.code yX11_digest cX11_digest 6 (some .long) ∈ lw_tbl := List.mem_of_getElem? (i := 1166) rfl
set_option maxRecDepth 100000 in
theorem cw_J9_max_7cf53 : Cond.code yJ9_max_7cf53 cJ9_max_7cf53 2 (some .int) ∈ lw_tbl := List.mem_of_getElem? (i := 549) rfl
set_option maxRecDepth 100000 in
theorem cw_J9_max_f86c9 : Cond.code yJ9_max_f86c9 cJ9_max_f86c9 4 (some .long) ∈ lw_tbl := List.mem_of_getElem? (i := 585) rfl
set_option maxRecDepth 100000 in
theorem cw_J9_min_7cf53 : Cond.code yJ9_min_7cf53 cJ9_min_7cf53 2 (some .int) ∈ lw_tbl := List.mem_of_getElem? (i := 552) rfl
set_option maxRecDepth 100000 in
theorem cw_J9_min_f86c9 : Cond.code yJ9_min_f86c9 cJ9_min_f86c9 4 (some .long) ∈ lw_tbl := List.mem_of_getElem? (i := 582) rfl
def mlC (e : MLE) : Cond := .code e.2.2.2.2.1.1 e.2.2.2.2.1.2.1 e.2.2.2.2.1.2.2.1 e.2.2.2.2.1.2.2.2.1
theorem mlT0_cw : ∀ e ∈ mlT0, mlC e ∈ lw_tbl := List.forall_mem_cons.mpr ⟨cw_X3_fill, List.forall_mem_cons.mpr ⟨cw_X8_keptBy, List.forall_mem_cons.mpr ⟨cw_X3_haveOf, List.forall_mem_cons.mpr ⟨cw_X0_foresee, List.forall_mem_cons.mpr ⟨cw_X0_weigh, List.forall_mem_cons.mpr ⟨cw_X9_seeAllBut, List.forall_mem_cons.mpr ⟨cw_X9_see, List.forall_mem_cons.mpr ⟨cw_X9_toldBy, List.forall_mem_cons.mpr ⟨cw_X0_enter, List.forall_mem_cons.mpr ⟨cw_X3_partPurse, fun _ h => absurd h List.not_mem_nil⟩⟩⟩⟩⟩⟩⟩⟩⟩⟩
theorem mlT1_cw : ∀ e ∈ mlT1, mlC e ∈ lw_tbl := List.forall_mem_cons.mpr ⟨cw_X8_coinInAll, List.forall_mem_cons.mpr ⟨cw_X1_fillWorths, List.forall_mem_cons.mpr ⟨cw_X1_firstBest, List.forall_mem_cons.mpr ⟨cw_X1_haveBy, List.forall_mem_cons.mpr ⟨cw_X8_worthOf, fun _ h => absurd h List.not_mem_nil⟩⟩⟩⟩⟩
theorem mlT2_cw : ∀ e ∈ mlT2, mlC e ∈ lw_tbl := List.forall_mem_cons.mpr ⟨cw_X2_addedTo, List.forall_mem_cons.mpr ⟨cw_X2_noneMoreByHands, List.forall_mem_cons.mpr ⟨cw_X9_clear, List.forall_mem_cons.mpr ⟨cw_X9_see, List.forall_mem_cons.mpr ⟨cw_X9_toldBy, fun _ h => absurd h List.not_mem_nil⟩⟩⟩⟩⟩
theorem mlT3_cw : ∀ e ∈ mlT3, mlC e ∈ lw_tbl := List.forall_mem_cons.mpr ⟨cw_X9_seeAllBut, List.forall_mem_cons.mpr ⟨cw_X8_givenTo, List.forall_mem_cons.mpr ⟨cw_X9_toldBy, List.forall_mem_cons.mpr ⟨cw_X3_partPurse, List.forall_mem_cons.mpr ⟨cw_X3_partByShare, List.forall_mem_cons.mpr ⟨cw_X3_partByNumber, List.forall_mem_cons.mpr ⟨cw_X3_partByBound, List.forall_mem_cons.mpr ⟨cw_X8_worthOf, List.forall_mem_cons.mpr ⟨cw_X8_keptBy, List.forall_mem_cons.mpr ⟨cw_X3_haveOf, fun _ h => absurd h List.not_mem_nil⟩⟩⟩⟩⟩⟩⟩⟩⟩⟩
theorem mlT4_cw : ∀ e ∈ mlT4, mlC e ∈ lw_tbl := List.forall_mem_cons.mpr ⟨cw_X3_fill, List.forall_mem_cons.mpr ⟨cw_X8_keptBy, List.forall_mem_cons.mpr ⟨cw_X3_haveOf, List.forall_mem_cons.mpr ⟨cw_X4_weigh, List.forall_mem_cons.mpr ⟨cw_X9_seeAllBut, List.forall_mem_cons.mpr ⟨cw_X9_see, List.forall_mem_cons.mpr ⟨cw_X9_toldBy, List.forall_mem_cons.mpr ⟨cw_X3_partPurse, fun _ h => absurd h List.not_mem_nil⟩⟩⟩⟩⟩⟩⟩⟩
theorem mlT5_cw : ∀ e ∈ mlT5, mlC e ∈ lw_tbl := List.forall_mem_cons.mpr ⟨cw_X5_readCharacter, List.forall_mem_cons.mpr ⟨cw_X5_release, List.forall_mem_cons.mpr ⟨cw_X5_readDigit, List.forall_mem_cons.mpr ⟨cw_X5_readUnit, List.forall_mem_cons.mpr ⟨cw_X5_readBehindUnit, List.forall_mem_cons.mpr ⟨cw_X7_addStep, List.forall_mem_cons.mpr ⟨cw_X5_hold, List.forall_mem_cons.mpr ⟨cw_X5_closeBracket, List.forall_mem_cons.mpr ⟨cw_X5_rankOf, List.forall_mem_cons.mpr ⟨cw_X5_lastRank, fun _ h => absurd h List.not_mem_nil⟩⟩⟩⟩⟩⟩⟩⟩⟩⟩
theorem mlT6_cw : ∀ e ∈ mlT6, mlC e ∈ lw_tbl := List.forall_mem_cons.mpr ⟨cw_X8_packedGifts, List.forall_mem_cons.mpr ⟨cw_X0_choose, List.forall_mem_cons.mpr ⟨cw_X6_wasBefore, fun _ h => absurd h List.not_mem_nil⟩⟩⟩
theorem mlT7_cw : ∀ e ∈ mlT7, mlC e ∈ lw_tbl := fun _ h => absurd h List.not_mem_nil
theorem mlT8_cw : ∀ e ∈ mlT8, mlC e ∈ lw_tbl := List.forall_mem_cons.mpr ⟨cw_X7_init, List.forall_mem_cons.mpr ⟨cw_X8_takePeople, List.forall_mem_cons.mpr ⟨cw_X7_take, List.forall_mem_cons.mpr ⟨cw_X8_givenBy, fun _ h => absurd h List.not_mem_nil⟩⟩⟩⟩
theorem mlT9_cw : ∀ e ∈ mlT9, mlC e ∈ lw_tbl := List.forall_mem_cons.mpr ⟨cw_X9_clear, List.forall_mem_cons.mpr ⟨cw_X9_see, List.forall_mem_cons.mpr ⟨cw_X9_push, List.forall_mem_cons.mpr ⟨cw_X9_doStep, List.forall_mem_cons.mpr ⟨cw_X9_pop, List.forall_mem_cons.mpr ⟨cw_X9_joined, fun _ h => absurd h List.not_mem_nil⟩⟩⟩⟩⟩⟩
theorem mlT10_cw : ∀ e ∈ mlT10, mlC e ∈ lw_tbl := List.forall_mem_cons.mpr ⟨cw_X8_init, List.forall_mem_cons.mpr ⟨cw_X5_init, List.forall_mem_cons.mpr ⟨cw_X9_init, List.forall_mem_cons.mpr ⟨cw_X3_init, List.forall_mem_cons.mpr ⟨cw_X0_init, List.forall_mem_cons.mpr ⟨cw_X6_init, List.forall_mem_cons.mpr ⟨cw_X1_init, List.forall_mem_cons.mpr ⟨cw_X4_init, List.forall_mem_cons.mpr ⟨cw_X2_init, List.forall_mem_cons.mpr ⟨cw_X10_isWithin, List.forall_mem_cons.mpr ⟨cw_X10_isPair, List.forall_mem_cons.mpr ⟨cw_X10_setKeep, List.forall_mem_cons.mpr ⟨cw_X10_setTheRule, List.forall_mem_cons.mpr ⟨cw_X10_setPurse, List.forall_mem_cons.mpr ⟨cw_X10_setParted, List.forall_mem_cons.mpr ⟨cw_X10_isRule, List.forall_mem_cons.mpr ⟨cw_X5_read, List.forall_mem_cons.mpr ⟨cw_X8_givenBy, List.forall_mem_cons.mpr ⟨cw_X10_isWork, List.forall_mem_cons.mpr ⟨cw_X3_fill, List.forall_mem_cons.mpr ⟨cw_X10_isGiver, List.forall_mem_cons.mpr ⟨cw_X3_allHave, List.forall_mem_cons.mpr ⟨cw_X8_keptBy, List.forall_mem_cons.mpr ⟨cw_X3_haveOf, List.forall_mem_cons.mpr ⟨cw_X0_choose, List.forall_mem_cons.mpr ⟨cw_X6_run, List.forall_mem_cons.mpr ⟨cw_X1_find, List.forall_mem_cons.mpr ⟨cw_X4_weighAll, List.forall_mem_cons.mpr ⟨cw_X4_most, List.forall_mem_cons.mpr ⟨cw_X4_leastCost, List.forall_mem_cons.mpr ⟨cw_X8_takePeople, List.forall_mem_cons.mpr ⟨cw_X8_givenInAll, List.forall_mem_cons.mpr ⟨cw_X2_hold, List.forall_mem_cons.mpr ⟨cw_X8_take, List.forall_mem_cons.mpr ⟨cw_X8_coinInAll, List.forall_mem_cons.mpr ⟨cw_X10_count, List.forall_mem_cons.mpr ⟨cw_X10_digestGivers, List.forall_mem_cons.mpr ⟨cw_X10_digestWorks, List.forall_mem_cons.mpr ⟨cw_X10_digestRules, fun _ h => absurd h List.not_mem_nil⟩⟩⟩⟩⟩⟩⟩⟩⟩⟩⟩⟩⟩⟩⟩⟩⟩⟩⟩⟩⟩⟩⟩⟩⟩⟩⟩⟩⟩⟩⟩⟩⟩⟩⟩⟩⟩⟩⟩
theorem mlT11_cw : ∀ e ∈ mlT11, mlC e ∈ lw_tbl := List.forall_mem_cons.mpr ⟨cw_X11_givers, List.forall_mem_cons.mpr ⟨cw_X11_in, List.forall_mem_cons.mpr ⟨cw_X11_works, List.forall_mem_cons.mpr ⟨cw_X11_isGiver, List.forall_mem_cons.mpr ⟨cw_X11_isWork, List.forall_mem_cons.mpr ⟨cw_X11_isRule, List.forall_mem_cons.mpr ⟨cw_X11_textLong, List.forall_mem_cons.mpr ⟨cw_X11_charAt, List.forall_mem_cons.mpr ⟨cw_X11_rank, List.forall_mem_cons.mpr ⟨cw_X11_workOut, List.forall_mem_cons.mpr ⟨cw_X11_ahead, List.forall_mem_cons.mpr ⟨cw_X11_digits, List.forall_mem_cons.mpr ⟨cw_X11_stands, List.forall_mem_cons.mpr ⟨cw_X11_nameOf, List.forall_mem_cons.mpr ⟨cw_X11_workDown, List.forall_mem_cons.mpr ⟨cw_X11_reads, List.forall_mem_cons.mpr ⟨cw_X11_rootOf, List.forall_mem_cons.mpr ⟨cw_X11_gift, List.forall_mem_cons.mpr ⟨cw_X11_putHand, List.forall_mem_cons.mpr ⟨cw_X11_addedBy, List.forall_mem_cons.mpr ⟨cw_X11_part, List.forall_mem_cons.mpr ⟨cw_X11_below, List.forall_mem_cons.mpr ⟨cw_X11_worthOf, List.forall_mem_cons.mpr ⟨cw_X11_addUp, List.forall_mem_cons.mpr ⟨cw_X11_hasNow, List.forall_mem_cons.mpr ⟨cw_X11_allNow, List.forall_mem_cons.mpr ⟨cw_X11_setRow, List.forall_mem_cons.mpr ⟨cw_X11_findBest, List.forall_mem_cons.mpr ⟨cw_X11_note, List.forall_mem_cons.mpr ⟨cw_X11_isAgain, List.forall_mem_cons.mpr ⟨cw_X11_goByTurns, List.forall_mem_cons.mpr ⟨cw_X11_allCoin, List.forall_mem_cons.mpr ⟨cw_X11_findGood, List.forall_mem_cons.mpr ⟨cw_X11_findHands, List.forall_mem_cons.mpr ⟨cw_X11_coinsGiven, List.forall_mem_cons.mpr ⟨cw_X11_addedTo, List.forall_mem_cons.mpr ⟨cw_X11_holds, List.forall_mem_cons.mpr ⟨cw_X11_count, List.forall_mem_cons.mpr ⟨cw_X11_amount, fun _ h => absurd h List.not_mem_nil⟩⟩⟩⟩⟩⟩⟩⟩⟩⟩⟩⟩⟩⟩⟩⟩⟩⟩⟩⟩⟩⟩⟩⟩⟩⟩⟩⟩⟩⟩⟩⟩⟩⟩⟩⟩⟩⟩⟩
theorem mlT12_cw : ∀ e ∈ mlT12, mlC e ∈ lw_tbl := List.forall_mem_cons.mpr ⟨cw_X10_init, List.forall_mem_cons.mpr ⟨cw_X11_init, List.forall_mem_cons.mpr ⟨cw_X10_giver, List.forall_mem_cons.mpr ⟨cw_X11_giver, List.forall_mem_cons.mpr ⟨cw_X10_work, List.forall_mem_cons.mpr ⟨cw_X11_work, List.forall_mem_cons.mpr ⟨cw_X10_worth, List.forall_mem_cons.mpr ⟨cw_X11_worth, List.forall_mem_cons.mpr ⟨cw_X10_set, List.forall_mem_cons.mpr ⟨cw_X11_set, List.forall_mem_cons.mpr ⟨cw_X10_write, List.forall_mem_cons.mpr ⟨cw_X11_write, List.forall_mem_cons.mpr ⟨cw_X10_erase, List.forall_mem_cons.mpr ⟨cw_X11_erase, List.forall_mem_cons.mpr ⟨cw_X10_fault, List.forall_mem_cons.mpr ⟨cw_X11_fault, List.forall_mem_cons.mpr ⟨cw_X10_give, List.forall_mem_cons.mpr ⟨cw_X11_give, List.forall_mem_cons.mpr ⟨cw_X10_amount, List.forall_mem_cons.mpr ⟨cw_X11_amount, List.forall_mem_cons.mpr ⟨cw_X10_isShort, List.forall_mem_cons.mpr ⟨cw_X11_isShort, List.forall_mem_cons.mpr ⟨cw_X10_has, List.forall_mem_cons.mpr ⟨cw_X11_has, List.forall_mem_cons.mpr ⟨cw_X10_best, List.forall_mem_cons.mpr ⟨cw_X11_best, List.forall_mem_cons.mpr ⟨cw_X10_rest, List.forall_mem_cons.mpr ⟨cw_X11_rest, List.forall_mem_cons.mpr ⟨cw_X10_turns, List.forall_mem_cons.mpr ⟨cw_X11_turns, List.forall_mem_cons.mpr ⟨cw_X10_good, List.forall_mem_cons.mpr ⟨cw_X11_good, List.forall_mem_cons.mpr ⟨cw_X10_lost, List.forall_mem_cons.mpr ⟨cw_X11_lost, List.forall_mem_cons.mpr ⟨cw_X10_gain, List.forall_mem_cons.mpr ⟨cw_X11_gain, List.forall_mem_cons.mpr ⟨cw_X10_hand, List.forall_mem_cons.mpr ⟨cw_X11_hand, List.forall_mem_cons.mpr ⟨cw_X10_anyway, List.forall_mem_cons.mpr ⟨cw_X11_anyway, List.forall_mem_cons.mpr ⟨cw_X10_breach, List.forall_mem_cons.mpr ⟨cw_X11_breach, List.forall_mem_cons.mpr ⟨cw_X10_image, List.forall_mem_cons.mpr ⟨cw_X11_image, List.forall_mem_cons.mpr ⟨cw_X10_from, List.forall_mem_cons.mpr ⟨cw_X11_from, List.forall_mem_cons.mpr ⟨cw_X10_count, List.forall_mem_cons.mpr ⟨cw_X11_count, List.forall_mem_cons.mpr ⟨cw_X10_digest, List.forall_mem_cons.mpr ⟨cw_X11_digest, fun _ h => absurd h List.not_mem_nil⟩⟩⟩⟩⟩⟩⟩⟩⟩⟩⟩⟩⟩⟩⟩⟩⟩⟩⟩⟩⟩⟩⟩⟩⟩⟩⟩⟩⟩⟩⟩⟩⟩⟩⟩⟩⟩⟩⟩⟩⟩⟩⟩⟩⟩⟩⟩⟩⟩⟩
theorem mlT13_cw : ∀ e ∈ mlT13, mlC e ∈ lw_tbl := fun _ h => absurd h List.not_mem_nil
theorem mlT14_cw : ∀ e ∈ mlT14, mlC e ∈ lw_tbl := fun _ h => absurd h List.not_mem_nil
def spT : List (Nat × Nat × Nat × Nat) := [(0, 3, 5, 291), (1, 5, 5, 335), (1, 31, 9, 694), (1, 44, 8, 700), (2, 1, 5, 372), (3, 3, 5, 260), (3, 77, 9, 598), (4, 3, 5, 356), (4, 77, 8, 732), (5, 3, 5, 208), (6, 3, 5, 322), (6, 48, 7, 675), (7, 3, 5, 102), (7, 28, 7, 790), (8, 3, 5, 95), (8, 57, 7, 753), (8, 71, 9, 628), (9, 3, 5, 231), (9, 32, 8, 547), (9, 38, 9, 550), (9, 87, 11, 580), (9, 90, 10, 583), (10, 1, 5, 87), (11, 1, 5, 824)]
def sp (oc idx : Nat) : Option (Nat × Nat) := (spT.find? (fun e => e.1 == oc && e.2.1 == idx)).map (fun e => (e.2.2.1, e.2.2.2))
def spN (k : Nat) : MethodName := match k with
  | 5 => objectInit
  | 7 => arraycopyName
  | 8 => Lib.Math.max.name
  | 9 => Lib.Math.min.name
  | 10 => Lib.MathLoose.max_long.x
  | _ => Lib.MathLoose.min_long.x
theorem spT_ok : (spT.all (fun e => decide (lw_tbl[e.2.2.2]? = some (.methodLink (own e.1) e.2.1 (spN e.2.2.1))) && decide (e.2.2.1 ≤ 11))) = true := by decide +kernel
def flT0 : List (Nat × Nat × Nat × Nat) := [(9, 0, 1, 293), (15, 0, 2, 294), (18, 0, 3, 295), (21, 0, 0, 292), (41, 0, 5, 301), (49, 0, 4, 298), (52, 8, 0, 133), (55, 8, 7, 159), (62, 3, 1, 265), (65, 8, 4, 143), (68, 3, 0, 263), (82, 8, 5, 149), (86, 8, 9, 168), (100, 3, 2, 269)]
def flT1 : List (Nat × Nat × Nat × Nat) := [(11, 1, 0, 336), (15, 1, 1, 337), (18, 1, 2, 338), (27, 8, 10, 171), (37, 8, 8, 162), (54, 1, 3, 340), (57, 8, 6, 154)]
def flT2 : List (Nat × Nat × Nat × Nat) := [(7, 2, 0, 373)]
def flT3 : List (Nat × Nat × Nat × Nat) := [(9, 3, 1, 264), (15, 3, 2, 267), (18, 3, 3, 271), (21, 3, 0, 261), (25, 8, 7, 158), (41, 8, 5, 147), (45, 8, 9, 166), (56, 8, 10, 172), (59, 3, 4, 273), (63, 8, 11, 175), (83, 8, 8, 163), (90, 8, 6, 156)]
def flT4 : List (Nat × Nat × Nat × Nat) := [(9, 4, 1, 358), (15, 4, 0, 357), (35, 4, 2, 359), (39, 8, 4, 141), (46, 3, 0, 262), (60, 3, 2, 268), (63, 8, 5, 148), (67, 8, 9, 167)]
def flT5 : List (Nat × Nat × Nat × Nat) := [(9, 5, 0, 209), (15, 5, 1, 210), (19, 5, 2, 211), (22, 5, 3, 212), (25, 5, 4, 213), (29, 7, 3, 113), (34, 7, 4, 116), (37, 7, 2, 110), (47, 7, 0, 104), (61, 7, 1, 107)]
def flT6 : List (Nat × Nat × Nat × Nat) := [(9, 6, 1, 324), (15, 6, 0, 323), (25, 8, 6, 153), (35, 0, 4, 299), (38, 0, 5, 302), (41, 0, 3, 296), (45, 8, 4, 142)]
def flT7 : List (Nat × Nat × Nat × Nat) := [(9, 7, 0, 103), (15, 7, 1, 106), (18, 7, 2, 109), (22, 7, 3, 112), (25, 7, 4, 115)]
def flT8 : List (Nat × Nat × Nat × Nat) := [(9, 8, 0, 131), (15, 8, 1, 134), (18, 8, 2, 136), (21, 8, 3, 138), (24, 8, 4, 140), (29, 8, 5, 146), (33, 8, 6, 151), (37, 8, 7, 157), (40, 8, 8, 161), (43, 8, 9, 165), (46, 8, 10, 170), (49, 8, 11, 174)]
def flT9 : List (Nat × Nat × Nat × Nat) := [(9, 9, 0, 232), (15, 9, 2, 234), (19, 9, 3, 235), (22, 9, 4, 236), (25, 9, 5, 237), (28, 9, 6, 238), (48, 8, 6, 155), (53, 8, 4, 144), (60, 7, 4, 117), (65, 9, 1, 233), (68, 7, 3, 114), (71, 7, 1, 108)]
def flT10 : List (Nat × Nat × Nat × Nat) := [(10, 10, 0, 377), (16, 10, 1, 378), (19, 10, 2, 379), (23, 10, 3, 380), (30, 10, 4, 381), (37, 10, 5, 382), (46, 10, 6, 383), (55, 10, 7, 384), (64, 10, 8, 385), (71, 10, 9, 386), (78, 10, 10, 387), (85, 10, 11, 388), (93, 8, 6, 152), (97, 8, 0, 132), (101, 8, 7, 160), (104, 8, 1, 135), (110, 8, 2, 137), (113, 8, 3, 139), (133, 8, 5, 150), (137, 7, 2, 111), (142, 7, 0, 105), (149, 7, 4, 118), (152, 8, 4, 145), (165, 3, 1, 266), (168, 3, 2, 270), (171, 3, 3, 272), (174, 3, 4, 274), (196, 0, 4, 300), (199, 0, 3, 297), (202, 0, 5, 303), (211, 1, 3, 341), (212, 1, 2, 339), (253, 8, 8, 164), (256, 8, 9, 169), (259, 8, 10, 173), (262, 8, 11, 176)]
def flT11 : List (Nat × Nat × Nat × Nat) := [(7, 11, 0, 825), (13, 11, 1, 826), (16, 11, 2, 827), (20, 11, 6, 831), (24, 11, 8, 833), (27, 11, 10, 835), (30, 11, 12, 837), (33, 11, 14, 839), (36, 11, 15, 840), (39, 11, 16, 841), (42, 11, 17, 842), (45, 11, 19, 844), (49, 11, 20, 845), (52, 11, 21, 846), (55, 11, 22, 847), (58, 11, 23, 848), (61, 11, 24, 849), (64, 11, 25, 850), (67, 11, 26, 851), (70, 11, 27, 852), (73, 11, 28, 853), (113, 11, 3, 828), (116, 11, 4, 829), (126, 11, 9, 834), (129, 11, 7, 832), (142, 11, 5, 830), (165, 11, 11, 836), (177, 11, 13, 838), (193, 11, 18, 843)]
def flT (oc : Nat) : List (Nat × Nat × Nat × Nat) := match oc with
  | 0 => flT0
  | 1 => flT1
  | 2 => flT2
  | 3 => flT3
  | 4 => flT4
  | 5 => flT5
  | 6 => flT6
  | 7 => flT7
  | 8 => flT8
  | 9 => flT9
  | 10 => flT10
  | 11 => flT11
  | _ => []
def fld (oc idx : Nat) : Option (Nat × Nat) := ((flT oc).find? (fun e => e.1 == idx)).map (fun e => (e.2.1, e.2.2.1))
def flK (oc : Nat) (e : Nat × Nat × Nat × Nat) : Bool := match clsT[e.2.1]? with
  | some (C, T, N) => decide (lw_tbl[e.2.2.2]? = some (.fieldLink (own oc) e.1 (T e.2.2.1).1 (T e.2.2.1).2.1 (T e.2.2.1).2.2.1)) && decide (e.2.2.1 < N) && decide (parseFieldDescriptor (T e.2.2.1).2.2.1 = some (tyT e.2.1 e.2.2.1))
  | none => false
set_option maxRecDepth 100000 in
theorem flT0_ok : (flT0.all (flK 0)) = true := by decide +kernel
set_option maxRecDepth 100000 in
theorem flT1_ok : (flT1.all (flK 1)) = true := by decide +kernel
set_option maxRecDepth 100000 in
theorem flT2_ok : (flT2.all (flK 2)) = true := by decide +kernel
set_option maxRecDepth 100000 in
theorem flT3_ok : (flT3.all (flK 3)) = true := by decide +kernel
set_option maxRecDepth 100000 in
theorem flT4_ok : (flT4.all (flK 4)) = true := by decide +kernel
set_option maxRecDepth 100000 in
theorem flT5_ok : (flT5.all (flK 5)) = true := by decide +kernel
set_option maxRecDepth 100000 in
theorem flT6_ok : (flT6.all (flK 6)) = true := by decide +kernel
set_option maxRecDepth 100000 in
theorem flT7_ok : (flT7.all (flK 7)) = true := by decide +kernel
set_option maxRecDepth 100000 in
theorem flT8_ok : (flT8.all (flK 8)) = true := by decide +kernel
set_option maxRecDepth 100000 in
theorem flT9_ok : (flT9.all (flK 9)) = true := by decide +kernel
set_option maxRecDepth 100000 in
theorem flT10_ok : (flT10.all (flK 10)) = true := by decide +kernel
set_option maxRecDepth 100000 in
theorem flT11_ok : (flT11.all (flK 11)) = true := by decide +kernel
def lcT : List (Nat × Nat × Int64 × Nat) := [(9, 81, 99, 579), (9, 92, 1000000000000, 571), (10, 239, 461, 804), (10, 241, 31, 805), (11, 87, 12, 917), (11, 89, 60, 929), (11, 98, 200, 946), (11, 100, 50, 947), (11, 102, 3, 952), (11, 104, 99, 953), (11, 106, 2, 954), (11, 111, 127, 962), (11, 138, 48, 987), (11, 140, 57, 988), (11, 145, 10, 993), (11, 173, 1000000, 1040), (11, 175, 4000000, 1041), (11, 184, 1000000000000, 1042), (11, 256, 461, 1167), (11, 258, 31, 1168)]
def lcn (oc idx : Nat) : Option Int64 := (lcT.find? (fun e => e.1 == oc && e.2.1 == idx)).map (fun e => e.2.2.1)
theorem lcT_ok : (lcT.all (fun e => decide (lw_tbl[e.2.2.2]? = some (.constantLong (own e.1) e.2.1 e.2.2.1)))) = true := by decide +kernel
def nwT : List (Nat × Nat × Nat × Nat × Nat × Nat) := [(8, 27, 7, 96, 98, 70), (10, 7, 8, 90, 91, 69), (10, 27, 5, 203, 204, 71), (10, 34, 9, 226, 227, 72), (10, 41, 3, 255, 256, 73), (10, 50, 0, 286, 287, 74), (10, 59, 6, 317, 318, 75), (10, 68, 1, 330, 331, 76), (10, 75, 4, 351, 352, 77), (10, 82, 2, 367, 368, 78), (12, 7, 10, 82, 83, 68), (12, 10, 11, 819, 820, 79)]
def anT : List (Nat × Nat × Nat × Nat × Nat × Nat) := [(8, 27, 7, 3, 96, 97), (10, 7, 8, 4, 90, 202)]
def nwc (oc idx : Nat) : Option Nat := (nwT.find? (fun e => e.1 == oc && e.2.1 == idx)).map (fun e => e.2.2.1)
def anc (oc idx : Nat) : Option (Nat × Nat) := (anT.find? (fun e => e.1 == oc && e.2.1 == idx)).map (fun e => (e.2.2.1, e.2.2.2.1))
def nwK (e : Nat × Nat × Nat × Nat × Nat × Nat) : Bool := match clsT[e.2.2.1]? with
  | some (C, T, N) => decide (lw_tbl[e.2.2.2.1]? = some (.classLink (own e.1) e.2.1 C)) && decide (lw_tbl[e.2.2.2.2.1]? = some (.instantiable C N)) && decide (lw_tbl[e.2.2.2.2.2]? = some (.initialized C))
  | none => false
theorem nwT_ok : (nwT.all nwK) = true := by decide +kernel
def anK (e : Nat × Nat × Nat × Nat × Nat × Nat) : Bool := match clsT[e.2.2.1]? with
  | some (C, _, _) => decide (lw_tbl[e.2.2.2.2.1]? = some (.classLink (own e.1) e.2.1 C)) && decide (lw_tbl[e.2.2.2.2.2]? = some (.arrayOver (.object C))) && ((decide (e.2.2.1 = 7) && decide (e.2.2.2.1 = 3)) || (decide (e.2.2.1 = 8) && decide (e.2.2.2.1 = 4)))
  | none => false
theorem anT_ok : (anT.all anK) = true := by decide +kernel
theorem w_oi : Cond.instanceMethod objectInit ∈ lw_tbl := List.mem_of_getElem? (i := 88) (by decide +kernel)
theorem w_oc : Cond.code objectInit ⟨#[0xb1]⟩ 1 none ∈ lw_tbl := List.mem_of_getElem? (i := 89) (by decide +kernel)
theorem w_acn : Cond.native arraycopyName ∈ lw_tbl := List.mem_of_getElem? (i := 677) (by decide +kernel)
theorem w_acs : Cond.static arraycopyName ∈ lw_tbl := List.mem_of_getElem? (i := 676) (by decide +kernel)
theorem w_aci : Cond.initialized "java/lang/System" ∈ lw_tbl := List.mem_of_getElem? (i := 81) (by decide +kernel)
theorem w_smax : Cond.static Lib.Math.max.name ∈ lw_tbl := List.mem_of_getElem? (i := 548) (by decide +kernel)
theorem w_cmax : Cond.code Lib.Math.max.name Lib.Math.max.code 2 (some .int) ∈ lw_tbl := List.mem_of_getElem? (i := 549) (by decide +kernel)
theorem w_smin : Cond.static Lib.Math.min.name ∈ lw_tbl := List.mem_of_getElem? (i := 551) (by decide +kernel)
theorem w_cmin : Cond.code Lib.Math.min.name Lib.Math.min.code 2 (some .int) ∈ lw_tbl := List.mem_of_getElem? (i := 552) (by decide +kernel)
theorem w_smaxl : Cond.static Lib.MathLoose.max_long.x ∈ lw_tbl := List.mem_of_getElem? (i := 584) (by decide +kernel)
theorem w_cmaxl : Cond.code Lib.MathLoose.max_long.x Lib.MathLoose.max_long.code 4 (some .long) ∈ lw_tbl := List.mem_of_getElem? (i := 585) (by decide +kernel)
theorem w_sminl : Cond.static Lib.MathLoose.min_long.x ∈ lw_tbl := List.mem_of_getElem? (i := 581) (by decide +kernel)
theorem w_cminl : Cond.code Lib.MathLoose.min_long.x Lib.MathLoose.min_long.code 4 (some .long) ∈ lw_tbl := List.mem_of_getElem? (i := 582) (by decide +kernel)
theorem w_mi : Cond.initialized "java/lang/Math" ∈ lw_tbl := List.mem_of_getElem? (i := 80) (by decide +kernel)
theorem w_aI : Cond.arrayClass .int ∈ lw_tbl := List.mem_of_getElem? (i := 130) (by decide +kernel)
theorem w_aJ : Cond.arrayClass .long ∈ lw_tbl := List.mem_of_getElem? (i := 254) (by decide +kernel)
theorem w_aZ : Cond.arrayClass .boolean ∈ lw_tbl := List.mem_of_getElem? (i := 225) (by decide +kernel)
theorem w_aR : Cond.arrayOver (.object "GiftMatch$Rule") ∈ lw_tbl := List.mem_of_getElem? (i := 97) (by decide +kernel)
theorem w_aS : Cond.arrayOver (.object "GiftMatch$Scene") ∈ lw_tbl := List.mem_of_getElem? (i := 202) (by decide +kernel)
theorem w_rt : Cond.fieldLinkNest (own 9) 41 "GiftMatch" "ROOTS" "[I" "GiftMatch" ∈ lw_tbl := List.mem_of_getElem? (i := 553) (by decide +kernel)
theorem w_rs : Cond.laysStatic "GiftMatch" "ROOTS" "[I" ∈ lw_tbl := List.mem_of_getElem? (i := 554) (by decide +kernel)
theorem w_ri : Cond.initialized "GiftMatch" ∈ lw_tbl := List.mem_of_getElem? (i := 68) (by decide +kernel)
theorem uin0 : ∀ w ∈ u_ws RX0 TX0 6, w ∈ lw_tbl := by
  intro w hw
  have h : u_ws RX0 TX0 6 = [304, 306, 308, 310, 312, 314].filterMap (fun i => lw_tbl[i]?) := by decide +kernel
  rw [h] at hw
  obtain ⟨i, -, hi⟩ := List.mem_filterMap.mp hw
  exact List.mem_of_getElem? hi
theorem uin1 : ∀ w ∈ u_ws RX1 TX1 4, w ∈ lw_tbl := by
  intro w hw
  have h : u_ws RX1 TX1 4 = [342, 344, 346, 348].filterMap (fun i => lw_tbl[i]?) := by decide +kernel
  rw [h] at hw
  obtain ⟨i, -, hi⟩ := List.mem_filterMap.mp hw
  exact List.mem_of_getElem? hi
theorem uin2 : ∀ w ∈ u_ws RX2 TX2 1, w ∈ lw_tbl := by
  intro w hw
  have h : u_ws RX2 TX2 1 = [374].filterMap (fun i => lw_tbl[i]?) := by decide +kernel
  rw [h] at hw
  obtain ⟨i, -, hi⟩ := List.mem_filterMap.mp hw
  exact List.mem_of_getElem? hi
theorem uin3 : ∀ w ∈ u_ws RX3 TX3 5, w ∈ lw_tbl := by
  intro w hw
  have h : u_ws RX3 TX3 5 = [275, 277, 279, 281, 283].filterMap (fun i => lw_tbl[i]?) := by decide +kernel
  rw [h] at hw
  obtain ⟨i, -, hi⟩ := List.mem_filterMap.mp hw
  exact List.mem_of_getElem? hi
theorem uin4 : ∀ w ∈ u_ws RX4 TX4 3, w ∈ lw_tbl := by
  intro w hw
  have h : u_ws RX4 TX4 3 = [360, 362, 364].filterMap (fun i => lw_tbl[i]?) := by decide +kernel
  rw [h] at hw
  obtain ⟨i, -, hi⟩ := List.mem_filterMap.mp hw
  exact List.mem_of_getElem? hi
theorem uin5 : ∀ w ∈ u_ws RX5 TX5 5, w ∈ lw_tbl := by
  intro w hw
  have h : u_ws RX5 TX5 5 = [214, 216, 218, 220, 222].filterMap (fun i => lw_tbl[i]?) := by decide +kernel
  rw [h] at hw
  obtain ⟨i, -, hi⟩ := List.mem_filterMap.mp hw
  exact List.mem_of_getElem? hi
theorem uin6 : ∀ w ∈ u_ws RX6 TX6 2, w ∈ lw_tbl := by
  intro w hw
  have h : u_ws RX6 TX6 2 = [325, 327].filterMap (fun i => lw_tbl[i]?) := by decide +kernel
  rw [h] at hw
  obtain ⟨i, -, hi⟩ := List.mem_filterMap.mp hw
  exact List.mem_of_getElem? hi
theorem uin7 : ∀ w ∈ u_ws RX7 TX7 5, w ∈ lw_tbl := by
  intro w hw
  have h : u_ws RX7 TX7 5 = [119, 121, 123, 125, 127].filterMap (fun i => lw_tbl[i]?) := by decide +kernel
  rw [h] at hw
  obtain ⟨i, -, hi⟩ := List.mem_filterMap.mp hw
  exact List.mem_of_getElem? hi
theorem uin8 : ∀ w ∈ u_ws RX8 TX8 12, w ∈ lw_tbl := by
  intro w hw
  have h : u_ws RX8 TX8 12 = [177, 179, 181, 183, 185, 187, 189, 191, 193, 195, 197, 199].filterMap (fun i => lw_tbl[i]?) := by decide +kernel
  rw [h] at hw
  obtain ⟨i, -, hi⟩ := List.mem_filterMap.mp hw
  exact List.mem_of_getElem? hi
theorem uin9 : ∀ w ∈ u_ws RX9 TX9 7, w ∈ lw_tbl := by
  intro w hw
  have h : u_ws RX9 TX9 7 = [239, 241, 243, 245, 247, 249, 251].filterMap (fun i => lw_tbl[i]?) := by decide +kernel
  rw [h] at hw
  obtain ⟨i, -, hi⟩ := List.mem_filterMap.mp hw
  exact List.mem_of_getElem? hi
theorem uin10 : ∀ w ∈ u_ws RX10 TX10 12, w ∈ lw_tbl := by
  intro w hw
  have h : u_ws RX10 TX10 12 = [389, 391, 393, 395, 397, 399, 401, 403, 405, 407, 409, 411].filterMap (fun i => lw_tbl[i]?) := by decide +kernel
  rw [h] at hw
  obtain ⟨i, -, hi⟩ := List.mem_filterMap.mp hw
  exact List.mem_of_getElem? hi
theorem uin11 : ∀ w ∈ u_ws RX11 TX11 29, w ∈ lw_tbl := by
  intro w hw
  have h : u_ws RX11 TX11 29 = [854, 856, 858, 860, 862, 864, 866, 868, 870, 872, 874, 876, 878, 880, 882, 884, 886, 888, 890, 892, 894, 896, 898, 900, 902, 904, 906, 908, 910].filterMap (fun i => lw_tbl[i]?) := by decide +kernel
  rw [h] at hw
  obtain ⟨i, -, hi⟩ := List.mem_filterMap.mp hw
  exact List.mem_of_getElem? hi
