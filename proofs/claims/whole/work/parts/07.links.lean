/-! The tables of the machine, by program: classes, methods, links, the layout of the heap. -/
def zown : Nat → String := fun k => ([RX0, RX1, RX2, RX3, RX4, RX5, RX6, RX7, RX8, RX9, RX10, RX11, RX12, RL, RJ0, RJ1, RJ2, RJ3, RJ7, RJ9, RJ10, RJ11] : List String).getD k ""
def zfn : Nat → Nat := fun k => ([6, 10, 2, 4, 5, 3, 10, 5, 8, 4, 3, 11, 47] : List Nat).getD k 0
def zctL : List (List Nat) := [[2, 0, 0, 0, 0, 0], [0, 0, 0, 0, 0, 2, 2, 2, 2, 2], [2, 2], [2, 2, 0, 0], [2, 2, 2, 2, 2], [0, 2, 2], [2, 2, 2, 2, 0, 0, 0, 0, 0, 0], [2, 2, 2, 2, 2], [2, 0, 0, 0, 0, 0, 0, 0], [0, 2, 2, 2], [2, 1, 0], [2, 2, 2, 2, 2, 2, 2, 2, 2, 1, 0], [0, 2, 0, 0, 0, 0, 0, 0, 0, 0, 0, 0, 0, 0, 0, 2, 2, 2, 2, 2, 2, 2, 2, 2, 2, 2, 2, 2, 2, 2, 2, 1, 2, 1, 2, 2, 2, 2, 0, 0, 2, 0, 0, 0, 2, 2, 2]]
def zct (c k : Nat) : Nat := (zctL.getD c []).getD k 0
def zlay : List (Nat × Nat) := [(21, 11), (18, 8), (3, 800), (13, 4), (11, 10), (1, 4), (1, 4), (5, 12), (6, 4), (1, 4), (15, 3), (19, 4), (1, 3), (1, 3), (1, 3), (19, 4), (1, 3), (1, 3), (1, 3), (15, 3), (19, 4), (1, 3), (1, 3), (1, 3), (19, 4), (1, 3), (1, 3), (1, 3), (15, 3), (19, 4), (1, 3), (1, 3), (1, 3), (19, 4), (1, 3), (1, 3), (1, 3), (15, 3), (19, 4), (1, 3), (1, 3), (1, 3), (19, 4), (1, 3), (1, 3), (1, 3), (15, 3), (19, 4), (1, 3), (1, 3), (1, 3), (19, 4), (1, 3), (1, 3), (1, 3), (15, 3), (19, 4), (1, 3), (1, 3), (1, 3), (19, 4), (1, 3), (1, 3), (1, 3), (15, 3), (19, 4), (1, 3), (1, 3), (1, 3), (19, 4), (1, 3), (1, 3), (1, 3), (15, 3), (19, 4), (1, 3), (1, 3), (1, 3), (19, 4), (1, 3), (1, 3), (1, 3), (15, 3), (19, 4), (1, 3), (1, 3), (1, 3), (19, 4), (1, 3), (1, 3), (1, 3), (15, 3), (19, 4), (1, 3), (1, 3), (1, 3), (19, 4), (1, 3), (1, 3), (1, 3), (15, 3), (19, 4), (1, 3), (1, 3), (1, 3), (19, 4), (1, 3), (1, 3), (1, 3), (15, 3), (19, 4), (1, 3), (1, 3), (1, 3), (19, 4), (1, 3), (1, 3), (1, 3), (19, 4), (1, 3), (1, 3), (1, 3), (19, 4), (1, 3), (1, 3), (1, 3), (19, 4), (1, 3), (1, 3), (1, 3), (19, 4), (1, 3), (1, 3), (1, 3), (17, 5), (11, 10), (1, 4), (1, 4), (5, 12), (6, 4), (1, 4), (15, 3), (19, 4), (1, 3), (1, 3), (1, 3), (19, 4), (1, 3), (1, 3), (1, 3), (15, 3), (19, 4), (1, 3), (1, 3), (1, 3), (19, 4), (1, 3), (1, 3), (1, 3), (15, 3), (19, 4), (1, 3), (1, 3), (1, 3), (19, 4), (1, 3), (1, 3), (1, 3), (15, 3), (19, 4), (1, 3), (1, 3), (1, 3), (19, 4), (1, 3), (1, 3), (1, 3), (15, 3), (19, 4), (1, 3), (1, 3), (1, 3), (19, 4), (1, 3), (1, 3), (1, 3), (15, 3), (19, 4), (1, 3), (1, 3), (1, 3), (19, 4), (1, 3), (1, 3), (1, 3), (15, 3), (19, 4), (1, 3), (1, 3), (1, 3), (19, 4), (1, 3), (1, 3), (1, 3), (15, 3), (19, 4), (1, 3), (1, 3), (1, 3), (19, 4), (1, 3), (1, 3), (1, 3), (15, 3), (19, 4), (1, 3), (1, 3), (1, 3), (19, 4), (1, 3), (1, 3), (1, 3), (15, 3), (19, 4), (1, 3), (1, 3), (1, 3), (19, 4), (1, 3), (1, 3), (1, 3), (15, 3), (19, 4), (1, 3), (1, 3), (1, 3), (19, 4), (1, 3), (1, 3), (1, 3), (15, 3), (19, 4), (1, 3), (1, 3), (1, 3), (19, 4), (1, 3), (1, 3), (1, 3), (19, 4), (1, 3), (1, 3), (1, 3), (19, 4), (1, 3), (1, 3), (1, 3), (19, 4), (1, 3), (1, 3), (1, 3), (19, 4), (1, 3), (1, 3), (1, 3), (1, 0), (1, 1000), (1, 4), (1, 4), (20, 3), (14, 5), (2, 1000), (2, 1000), (4, 1000), (1, 1000), (10, 6), (2, 157), (12, 2), (7, 11), (2, 17), (2, 17), (2, 17), (2, 17), (2, 17), (2, 17), (2, 17), (2, 17), (2, 17), (2, 17), (2, 17), (7, 15), (2, 15), (2, 15), (2, 15), (2, 15), (2, 15), (2, 15), (2, 15), (2, 15), (2, 15), (2, 15), (2, 15), (2, 15), (2, 15), (2, 15), (2, 15), (16, 10), (1, 6), (1, 6), (1, 6), (22, 47), (1, 800), (1, 2), (1, 2), (2, 8), (1, 8), (1, 8), (1, 2), (1, 24), (1, 2), (1, 32), (1, 96), (1, 96), (1, 96), (1, 24), (1, 72), (1, 72), (1, 72), (1, 4), (2, 1000), (2, 1000), (1, 1000), (4, 1000), (4, 10000), (1, 61), (1, 61), (1, 61), (1, 20000)]
def zT (a : Nat) : Nat × Nat := zlay.getD a (0, 0)
def zstrL : List (List Int) := [[59, 58, 38, 44, 60, 62, 61, 43, 45], [108, 111, 116, 115], [118, 97, 114], [114, 117, 108, 101], [60, 61, 62], [45, 61, 43], [103, 111, 97, 108]]
def zstr (k : Nat) : List Int := zstrL.getD k []
/-- the methods: body, locals, what the receiver must be (0: none; 1: a text; else a cell of this tag) -/
def mX0_init : ZM := (cX0_init, 0, 9)
def mX0_clear : ZM := (cX0_clear, 0, 0)
def mX0_turnTo : ZM := (cX0_turnTo, 0, 0)
def mX0_takes : ZM := (cX0_takes, 0, 2)
def mX0_note : ZM := (cX0_note, 0, 0)
def mX1_init : ZM := (cX1_init, 1, 9)
def mX1_clear : ZM := (cX1_clear, 1, 0)
def mX1_addVar : ZM := (cX1_addVar, 1, 0)
def mX1_varNamed : ZM := (cX1_varNamed, 1, 1)
def mX1_stateOf : ZM := (cX1_stateOf, 1, 1)
def mX1_valuesOf : ZM := (cX1_valuesOf, 1, 0)
def mX1_valueIn : ZM := (cX1_valueIn, 1, 1)
def mX1_rulesMoving : ZM := (cX1_rulesMoving, 1, 1)
def mX2_init : ZM := (cX2_init, 2, 9)
def mX2_isSize : ZM := (cX2_isSize, 2, 2)
def mX2_isChance : ZM := (cX2_isChance, 2, 2)
def mX2_low : ZM := (cX2_low, 2, 1)
def mX2_high : ZM := (cX2_high, 2, 1)
def mX2_missed : ZM := (cX2_missed, 2, 5)
def mX2_verdict : ZM := (cX2_verdict, 2, 1)
def mX2_isWithin : ZM := (cX2_isWithin, 2, 2)
def mX2_casesOf : ZM := (cX2_casesOf, 2, 5)
def mX2_power : ZM := (cX2_power, 2, 5)
def mX2_choose : ZM := (cX2_choose, 2, 5)
def mX3_init : ZM := (cX3_init, 3, 9)
def mX3_reads : ZM := (cX3_reads, 3, 2)
def mX3_exchange : ZM := (cX3_exchange, 3, 6)
def mX3_fails : ZM := (cX3_fails, 3, 2)
def mX3_readLots : ZM := (cX3_readLots, 3, 2)
def mX3_readVar : ZM := (cX3_readVar, 3, 2)
def mX3_readRule : ZM := (cX3_readRule, 3, 2)
def mX3_readGoal : ZM := (cX3_readGoal, 3, 2)
def mX3_isAtEnd : ZM := (cX3_isAtEnd, 3, 2)
def mX3_readTerms : ZM := (cX3_readTerms, 3, 2)
def mX3_readTerm : ZM := (cX3_readTerm, 3, 2)
def mX3_isNewName : ZM := (cX3_isNewName, 3, 2)
def mX3_isNumber : ZM := (cX3_isNumber, 3, 2)
def mX3_passes : ZM := (cX3_passes, 3, 2)
def mX4_init : ZM := (cX4_init, 4, 9)
def mX4_holding : ZM := (cX4_holding, 4, 5)
def mX4_total : ZM := (cX4_total, 4, 5)
def mX4_statesComeTo : ZM := (cX4_statesComeTo, 4, 1)
def mX4_see : ZM := (cX4_see, 4, 1)
def mX4_stateCount : ZM := (cX4_stateCount, 4, 1)
def mX4_spread : ZM := (cX4_spread, 4, 0)
def mX4_spreadFrom : ZM := (cX4_spreadFrom, 4, 0)
def mX5_init : ZM := (cX5_init, 5, 9)
def mX5_clear : ZM := (cX5_clear, 5, 0)
def mX6_init : ZM := (cX6_init, 6, 9)
def mX6_heldBy : ZM := (cX6_heldBy, 6, 1)
def mX6_follow : ZM := (cX6_follow, 6, 1)
def mX6_putCopies : ZM := (cX6_putCopies, 6, 0)
def mX6_copiesFor : ZM := (cX6_copiesFor, 6, 1)
def mX7_init : ZM := (cX7_init, 7, 9)
def mX7_take : ZM := (cX7_take, 7, 0)
def mX7_firstState : ZM := (cX7_firstState, 7, 1)
def mX7_cell : ZM := (cX7_cell, 7, 1)
def mX7_stateIn : ZM := (cX7_stateIn, 7, 1)
def mX7_ruleIn : ZM := (cX7_ruleIn, 7, 1)
def mX7_hasGoal : ZM := (cX7_hasGoal, 7, 2)
def mX7_isNoState : ZM := (cX7_isNoState, 7, 2)
def mX7_makeRow : ZM := (cX7_makeRow, 7, 0)
def mX7_markGoals : ZM := (cX7_markGoals, 7, 0)
def mX7_fill : ZM := (cX7_fill, 7, 0)
def mX8_init : ZM := (cX8_init, 8, 9)
def mX8_append : ZM := (cX8_append, 8, 2)
def mX8_clear : ZM := (cX8_clear, 8, 0)
def mX8_rewind : ZM := (cX8_rewind, 8, 0)
def mX8_next : ZM := (cX8_next, 8, 0)
def mX8_readRun : ZM := (cX8_readRun, 8, 1)
def mX8_joinArrow : ZM := (cX8_joinArrow, 8, 0)
def mX8_isSign : ZM := (cX8_isSign, 8, 2)
def mX8_isWord : ZM := (cX8_isWord, 8, 2)
def mX9_init : ZM := (cX9_init, 9, 9)
def mX9_clear : ZM := (cX9_clear, 9, 0)
def mX9_add : ZM := (cX9_add, 9, 0)
def mX9_allHold : ZM := (cX9_allHold, 9, 2)
def mX9_change : ZM := (cX9_change, 9, 0)
def mX9_names : ZM := (cX9_names, 9, 2)
def mX10_init : ZM := (cX10_init, 10, 9)
def mX10_begin : ZM := (cX10_begin, 10, 0)
def mX10_step : ZM := (cX10_step, 10, 1)
def mX10_isAt : ZM := (cX10_isAt, 10, 2)
def mX10_valueOf : ZM := (cX10_valueOf, 10, 1)
def mX11_init : ZM := (cX11_init, 11, 9)
def mX11_feed : ZM := (cX11_feed, 11, 1)
def mX11_model : ZM := (cX11_model, 11, 1)
def mX11_fault : ZM := (cX11_fault, 11, 1)
def mX11_seed : ZM := (cX11_seed, 11, 1)
def mX11_count : ZM := (cX11_count, 11, 1)
def mX11_holds : ZM := (cX11_holds, 11, 1)
def mX11_value : ZM := (cX11_value, 11, 1)
def mX11_goes : ZM := (cX11_goes, 11, 1)
def mX11_exact : ZM := (cX11_exact, 11, 5)
def mX11_sum : ZM := (cX11_sum, 11, 5)
def mX11_reached : ZM := (cX11_reached, 11, 1)
def mX11_block : ZM := (cX11_block, 11, 1)
def mX11_told : ZM := (cX11_told, 11, 1)
def mX11_both : ZM := (cX11_both, 11, 1)
def mX11_ends : ZM := (cX11_ends, 11, 1)
def mX11_misses : ZM := (cX11_misses, 11, 5)
def mX11_test : ZM := (cX11_test, 11, 1)
def mX11_split : ZM := (cX11_split, 11, 1)
def mX11_moves : ZM := (cX11_moves, 11, 1)
def mX11_hasNoModel : ZM := (cX11_hasNoModel, 11, 2)
def mX11_isGoal : ZM := (cX11_isGoal, 11, 2)
def mX11_isVar : ZM := (cX11_isVar, 11, 2)
def mX11_isLength : ZM := (cX11_isLength, 11, 2)
def mX11_isRun : ZM := (cX11_isRun, 11, 2)
def mX11_stepOfHolding : ZM := (cX11_stepOfHolding, 11, 1)
def mX11_kindOfPair : ZM := (cX11_kindOfPair, 11, 1)
def mX11_powerIsAbove : ZM := (cX11_powerIsAbove, 11, 2)
def mX12_init : ZM := (cX12_init, 12, 9)
def mX12_in : ZM := (cX12_in, 12, 2)
def mX12_feed : ZM := (cX12_feed, 12, 1)
def mX12_byteAt : ZM := (cX12_byteAt, 12, 1)
def mX12_isLetter : ZM := (cX12_isLetter, 12, 2)
def mX12_isFigure : ZM := (cX12_isFigure, 12, 2)
def mX12_next : ZM := (cX12_next, 12, 0)
def mX12_bad : ZM := (cX12_bad, 12, 0)
def mX12_stands : ZM := (cX12_stands, 12, 0)
def mX12_is : ZM := (cX12_is, 12, 2)
def mX12_take : ZM := (cX12_take, 12, 0)
def mX12_name : ZM := (cX12_name, 12, 5)
def mX12_number : ZM := (cX12_number, 12, 1)
def mX12_numberIn : ZM := (cX12_numberIn, 12, 1)
def mX12_varOf : ZM := (cX12_varOf, 12, 1)
def mX12_statesOf : ZM := (cX12_statesOf, 12, 1)
def mX12_readVar : ZM := (cX12_readVar, 12, 0)
def mX12_readName : ZM := (cX12_readName, 12, 1)
def mX12_readConds : ZM := (cX12_readConds, 12, 0)
def mX12_readEffects : ZM := (cX12_readEffects, 12, 0)
def mX12_readRule : ZM := (cX12_readRule, 12, 0)
def mX12_readGoal : ZM := (cX12_readGoal, 12, 0)
def mX12_model : ZM := (cX12_model, 12, 1)
def mX12_fault : ZM := (cX12_fault, 12, 1)
def mX12_seed : ZM := (cX12_seed, 12, 1)
def mX12_count : ZM := (cX12_count, 12, 1)
def mX12_begin : ZM := (cX12_begin, 12, 0)
def mX12_areHeld : ZM := (cX12_areHeld, 12, 2)
def mX12_isGoal : ZM := (cX12_isGoal, 12, 2)
def mX12_ruleBy : ZM := (cX12_ruleBy, 12, 1)
def mX12_go : ZM := (cX12_go, 12, 0)
def mX12_beginRun : ZM := (cX12_beginRun, 12, 0)
def mX12_draw : ZM := (cX12_draw, 12, 1)
def mX12_isGoalNumber : ZM := (cX12_isGoalNumber, 12, 2)
def mX12_isVar : ZM := (cX12_isVar, 12, 2)
def mX12_isRun : ZM := (cX12_isRun, 12, 2)
def mX12_heldAt : ZM := (cX12_heldAt, 12, 1)
def mX12_holds : ZM := (cX12_holds, 12, 1)
def mX12_value : ZM := (cX12_value, 12, 1)
def mX12_goes : ZM := (cX12_goes, 12, 1)
def mX12_stateNumber : ZM := (cX12_stateNumber, 12, 1)
def mX12_be : ZM := (cX12_be, 12, 0)
def mX12_powerOf : ZM := (cX12_powerOf, 12, 5)
def mX12_step : ZM := (cX12_step, 12, 0)
def mX12_beginWays : ZM := (cX12_beginWays, 12, 0)
def mX12_exact : ZM := (cX12_exact, 12, 5)
def mX12_sum : ZM := (cX12_sum, 12, 5)
def mX12_reached : ZM := (cX12_reached, 12, 1)
def mX12_beginCounts : ZM := (cX12_beginCounts, 12, 0)
def mX12_block : ZM := (cX12_block, 12, 1)
def mX12_told : ZM := (cX12_told, 12, 1)
def mX12_both : ZM := (cX12_both, 12, 1)
def mX12_power : ZM := (cX12_power, 12, 5)
def mX12_cases : ZM := (cX12_cases, 12, 5)
def mX12_casesFrom : ZM := (cX12_casesFrom, 12, 5)
def mX12_low : ZM := (cX12_low, 12, 1)
def mX12_high : ZM := (cX12_high, 12, 1)
def mX12_ends : ZM := (cX12_ends, 12, 1)
def mX12_misses : ZM := (cX12_misses, 12, 5)
def mX12_test : ZM := (cX12_test, 12, 1)
def mX12_pass : ZM := (cX12_pass, 12, 0)
def mX12_split : ZM := (cX12_split, 12, 1)
def mX12_moves : ZM := (cX12_moves, 12, 1)
def mJ0_length_8abf5 : ZM := (cJ0_length_8abf5, 14, 1)
def mJ0_charAt_5068e : ZM := (cJ0_charAt_5068e, 14, 3)
def mJ0_indexOf_0f7a4 : ZM := (cJ0_indexOf_0f7a4, 14, 1)
def mJ0_indexOf_7cf53 : ZM := (cJ0_indexOf_7cf53, 14, 1)
def mJ0_coder_7d493 : ZM := (cJ0_coder_7d493, 14, 4)
def mJ0_isLatin1_aae02 : ZM := (cJ0_isLatin1_aae02, 14, 2)
def mJ0_checkIndex_df160 : ZM := (cJ0_checkIndex_df160, 14, 0)
def mJ1_charAt_3b067 : ZM := (cJ1_charAt_3b067, 15, 3)
def mJ1_canEncode_9a6ad : ZM := (cJ1_canEncode_9a6ad, 15, 2)
def mJ1_indexOf_4cfef : ZM := (cJ1_indexOf_4cfef, 15, 1)
def mJ1_indexOfChar_4cfef : ZM := (cJ1_indexOfChar_4cfef, 15, 1)
def mJ7_fill_d0a16 : ZM := (cJ7_fill_d0a16, 18, 0)
def mJ7_fill_53178 : ZM := (cJ7_fill_53178, 18, 0)
def mJ3_checkIndex_8e157 : ZM := (cJ3_checkIndex_8e157, 17, 1)
def mL_law : ZM := (cL_law, 13, 2)
def zmtL : List (ZM × Nat × Nat) := [(mX0_init, 1, 10), (mX0_clear, 1, 10), (mX0_turnTo, 3, 10), (mX0_takes, 5, 10), (mX0_note, 2, 10), (mX1_init, 2, 11), (mX1_clear, 1, 11), (mX1_addVar, 4, 11), (mX1_varNamed, 3, 11), (mX1_stateOf, 4, 11), (mX1_valuesOf, 6, 11), (mX1_valueIn, 7, 11), (mX1_rulesMoving, 4, 11), (mX2_init, 3, 12), (mX2_isSize, 1, 0), (mX2_isChance, 1, 0), (mX2_low, 5, 12), (mX2_high, 5, 12), (mX2_missed, 7, 12), (mX2_verdict, 10, 12), (mX2_isWithin, 5, 12), (mX2_casesOf, 8, 12), (mX2_power, 3, 12), (mX2_choose, 3, 12), (mX3_init, 2, 13), (mX3_reads, 3, 13), (mX3_exchange, 3, 13), (mX3_fails, 2, 13), (mX3_readLots, 1, 13), (mX3_readVar, 3, 13), (mX3_readRule, 2, 13), (mX3_readGoal, 2, 13), (mX3_isAtEnd, 1, 13), (mX3_readTerms, 6, 13), (mX3_readTerm, 5, 13), (mX3_isNewName, 1, 13), (mX3_isNumber, 3, 13), (mX3_passes, 2, 13), (mX4_init, 2, 14), (mX4_holding, 7, 14), (mX4_total, 7, 14), (mX4_statesComeTo, 5, 14), (mX4_see, 3, 14), (mX4_stateCount, 1, 14), (mX4_spread, 7, 14), (mX4_spreadFrom, 8, 14), (mX5_init, 1, 15), (mX5_clear, 1, 15), (mX6_init, 2, 16), (mX6_heldBy, 8, 16), (mX6_follow, 4, 16), (mX6_putCopies, 4, 16), (mX6_copiesFor, 4, 16), (mX7_init, 1, 17), (mX7_take, 2, 17), (mX7_firstState, 1, 17), (mX7_cell, 4, 17), (mX7_stateIn, 1, 0), (mX7_ruleIn, 2, 0), (mX7_hasGoal, 3, 17), (mX7_isNoState, 2, 17), (mX7_makeRow, 7, 17), (mX7_markGoals, 4, 17), (mX7_fill, 5, 17), (mX8_init, 1, 18), (mX8_append, 5, 18), (mX8_clear, 1, 18), (mX8_rewind, 1, 18), (mX8_next, 2, 18), (mX8_readRun, 6, 18), (mX8_joinArrow, 1, 18), (mX8_isSign, 2, 18), (mX8_isWord, 4, 18), (mX9_init, 1, 19), (mX9_clear, 1, 19), (mX9_add, 4, 19), (mX9_allHold, 6, 19), (mX9_change, 6, 19), (mX9_names, 3, 19), (mX10_init, 2, 20), (mX10_begin, 4, 20), (mX10_step, 3, 20), (mX10_isAt, 2, 20), (mX10_valueOf, 2, 20), (mX11_init, 1, 21), (mX11_feed, 4, 21), (mX11_model, 2, 21), (mX11_fault, 1, 21), (mX11_seed, 3, 21), (mX11_count, 2, 21), (mX11_holds, 4, 21), (mX11_value, 5, 21), (mX11_goes, 5, 21), (mX11_exact, 3, 21), (mX11_sum, 3, 21), (mX11_reached, 1, 21), (mX11_block, 5, 21), (mX11_told, 2, 21), (mX11_both, 8, 21), (mX11_ends, 5, 21), (mX11_misses, 4, 21), (mX11_test, 10, 21), (mX11_split, 7, 21), (mX11_moves, 2, 21), (mX11_hasNoModel, 1, 21), (mX11_isGoal, 2, 21), (mX11_isVar, 2, 21), (mX11_isLength, 1, 0), (mX11_isRun, 1, 0), (mX11_stepOfHolding, 5, 21), (mX11_kindOfPair, 8, 21), (mX11_powerIsAbove, 9, 0), (mX12_init, 1, 22), (mX12_in, 6, 0), (mX12_feed, 5, 22), (mX12_byteAt, 2, 22), (mX12_isLetter, 1, 0), (mX12_isFigure, 1, 0), (mX12_next, 4, 22), (mX12_bad, 3, 22), (mX12_stands, 2, 22), (mX12_is, 2, 22), (mX12_take, 2, 22), (mX12_name, 4, 22), (mX12_number, 3, 22), (mX12_numberIn, 4, 22), (mX12_varOf, 4, 22), (mX12_statesOf, 4, 22), (mX12_readVar, 4, 22), (mX12_readName, 2, 22), (mX12_readConds, 5, 22), (mX12_readEffects, 5, 22), (mX12_readRule, 2, 22), (mX12_readGoal, 1, 22), (mX12_model, 1, 22), (mX12_fault, 1, 22), (mX12_seed, 3, 22), (mX12_count, 2, 22), (mX12_begin, 2, 22), (mX12_areHeld, 5, 22), (mX12_isGoal, 2, 22), (mX12_ruleBy, 4, 22), (mX12_go, 6, 22), (mX12_beginRun, 2, 22), (mX12_draw, 1, 22), (mX12_isGoalNumber, 2, 22), (mX12_isVar, 2, 22), (mX12_isRun, 1, 0), (mX12_heldAt, 5, 22), (mX12_holds, 4, 22), (mX12_value, 5, 22), (mX12_goes, 5, 22), (mX12_stateNumber, 3, 22), (mX12_be, 5, 22), (mX12_powerOf, 7, 22), (mX12_step, 4, 22), (mX12_beginWays, 2, 22), (mX12_exact, 7, 22), (mX12_sum, 6, 22), (mX12_reached, 5, 22), (mX12_beginCounts, 2, 22), (mX12_block, 6, 22), (mX12_told, 2, 22), (mX12_both, 10, 22), (mX12_power, 6, 0), (mX12_cases, 6, 0), (mX12_casesFrom, 7, 0), (mX12_low, 5, 0), (mX12_high, 5, 0), (mX12_ends, 5, 22), (mX12_misses, 7, 22), (mX12_test, 14, 22), (mX12_pass, 8, 22), (mX12_split, 10, 22), (mX12_moves, 6, 22), (mJ0_length_8abf5, 1, 1), (mJ0_charAt_5068e, 2, 1), (mJ0_indexOf_0f7a4, 2, 1), (mJ0_indexOf_7cf53, 3, 1), (mJ0_coder_7d493, 1, 1), (mJ0_isLatin1_aae02, 1, 1), (mJ0_checkIndex_df160, 2, 0), (mJ1_charAt_3b067, 2, 0), (mJ1_canEncode_9a6ad, 1, 0), (mJ1_indexOf_4cfef, 4, 0), (mJ1_indexOfChar_4cfef, 6, 0), (mJ7_fill_d0a16, 5, 0), (mJ7_fill_53178, 4, 0), (mJ3_checkIndex_8e157, 3, 0)]
def zmt (k : Nat) : ZM × Nat × Nat := zmtL.getD k ((ByteArray.empty, 0, 0), 0, 0)
def zmnL : List MethodName := [yX0_init, yX0_clear, yX0_turnTo, yX0_takes, yX0_note, yX1_init, yX1_clear, yX1_addVar, yX1_varNamed, yX1_stateOf, yX1_valuesOf, yX1_valueIn, yX1_rulesMoving, yX2_init, yX2_isSize, yX2_isChance, yX2_low, yX2_high, yX2_missed, yX2_verdict, yX2_isWithin, yX2_casesOf, yX2_power, yX2_choose, yX3_init, yX3_reads, yX3_exchange, yX3_fails, yX3_readLots, yX3_readVar, yX3_readRule, yX3_readGoal, yX3_isAtEnd, yX3_readTerms, yX3_readTerm, yX3_isNewName, yX3_isNumber, yX3_passes, yX4_init, yX4_holding, yX4_total, yX4_statesComeTo, yX4_see, yX4_stateCount, yX4_spread, yX4_spreadFrom, yX5_init, yX5_clear, yX6_init, yX6_heldBy, yX6_follow, yX6_putCopies, yX6_copiesFor, yX7_init, yX7_take, yX7_firstState, yX7_cell, yX7_stateIn, yX7_ruleIn, yX7_hasGoal, yX7_isNoState, yX7_makeRow, yX7_markGoals, yX7_fill, yX8_init, yX8_append, yX8_clear, yX8_rewind, yX8_next, yX8_readRun, yX8_joinArrow, yX8_isSign, yX8_isWord, yX9_init, yX9_clear, yX9_add, yX9_allHold, yX9_change, yX9_names, yX10_init, yX10_begin, yX10_step, yX10_isAt, yX10_valueOf, yX11_init, yX11_feed, yX11_model, yX11_fault, yX11_seed, yX11_count, yX11_holds, yX11_value, yX11_goes, yX11_exact, yX11_sum, yX11_reached, yX11_block, yX11_told, yX11_both, yX11_ends, yX11_misses, yX11_test, yX11_split, yX11_moves, yX11_hasNoModel, yX11_isGoal, yX11_isVar, yX11_isLength, yX11_isRun, yX11_stepOfHolding, yX11_kindOfPair, yX11_powerIsAbove, yX12_init, yX12_in, yX12_feed, yX12_byteAt, yX12_isLetter, yX12_isFigure, yX12_next, yX12_bad, yX12_stands, yX12_is, yX12_take, yX12_name, yX12_number, yX12_numberIn, yX12_varOf, yX12_statesOf, yX12_readVar, yX12_readName, yX12_readConds, yX12_readEffects, yX12_readRule, yX12_readGoal, yX12_model, yX12_fault, yX12_seed, yX12_count, yX12_begin, yX12_areHeld, yX12_isGoal, yX12_ruleBy, yX12_go, yX12_beginRun, yX12_draw, yX12_isGoalNumber, yX12_isVar, yX12_isRun, yX12_heldAt, yX12_holds, yX12_value, yX12_goes, yX12_stateNumber, yX12_be, yX12_powerOf, yX12_step, yX12_beginWays, yX12_exact, yX12_sum, yX12_reached, yX12_beginCounts, yX12_block, yX12_told, yX12_both, yX12_power, yX12_cases, yX12_casesFrom, yX12_low, yX12_high, yX12_ends, yX12_misses, yX12_test, yX12_pass, yX12_split, yX12_moves, yJ0_length_8abf5, yJ0_charAt_5068e, yJ0_indexOf_0f7a4, yJ0_indexOf_7cf53, yJ0_coder_7d493, yJ0_isLatin1_aae02, yJ0_checkIndex_df160, yJ1_charAt_3b067, yJ1_canEncode_9a6ad, yJ1_indexOf_4cfef, yJ1_indexOfChar_4cfef, yJ7_fill_d0a16, yJ7_fill_53178, yJ3_checkIndex_8e157]
def zmn (k : Nat) : MethodName := zmnL.getD k objectInit
def zmrL : List (Option FieldType) := [none, none, none, (some .boolean), none, none, none, none, (some .int), (some .int), none, (some .int), (some .int), none, (some .boolean), (some .boolean), (some .int), (some .int), (some .long), (some .int), (some .boolean), (some .long), (some .long), (some .long), none, (some .boolean), (some (.object "ChanceRuns$Model")), (some .boolean), (some .boolean), (some .boolean), (some .boolean), (some .boolean), (some .boolean), (some .boolean), (some .boolean), (some .boolean), (some .boolean), (some .boolean), none, (some .long), (some .long), (some .int), (some .int), (some .int), none, none, none, none, none, (some .int), (some .int), none, (some .int), none, none, (some .int), (some .int), (some .int), (some .int), (some .boolean), (some .boolean), none, none, none, none, (some .boolean), none, none, none, (some .int), none, (some .boolean), (some .boolean), none, none, none, (some .boolean), none, (some .boolean), none, none, (some .int), (some .boolean), (some .int), none, (some .int), (some .int), (some .int), (some .int), (some .int), (some .int), (some .int), (some .int), (some .long), (some .long), (some .int), (some .int), (some .int), (some .int), (some .int), (some .long), (some .int), (some .int), (some .int), (some .boolean), (some .boolean), (some .boolean), (some .boolean), (some .boolean), (some .int), (some .int), (some .boolean), none, (some .boolean), (some .int), (some .int), (some .boolean), (some .boolean), none, none, none, (some .boolean), none, (some .long), (some .int), (some .int), (some .int), (some .int), none, (some .int), none, none, none, none, (some .int), (some .int), (some .int), (some .int), none, (some .boolean), (some .boolean), (some .int), none, none, (some .int), (some .boolean), (some .boolean), (some .boolean), (some .int), (some .int), (some .int), (some .int), (some .int), none, (some .long), none, none, (some .long), (some .long), (some .int), none, (some .int), (some .int), (some .int), (some .long), (some .long), (some .long), (some .int), (some .int), (some .int), (some .long), (some .int), none, (some .int), (some .int), (some .int), (some .char), (some .int), (some .int), (some .byte), (some .boolean), none, (some .char), (some .boolean), (some .int), (some .int), none, none, (some .int)]
def zmr (k : Nat) : Option FieldType := zmrL.getD k none
/-- fields: class, entry, then class, place, sort (0 int 1 long 2 reference 3 a text's own), kind (1 any 2 boolean 3 char 4 byte; 10 more: final) -/
def zflL : List ((Nat × Nat) × Nat × Nat × Nat × Nat) := [((0, 11), 0, 0, 2, 11), ((0, 15), 0, 1, 0, 1), ((0, 19), 0, 2, 0, 1), ((0, 28), 0, 3, 0, 1), ((0, 31), 0, 4, 0, 1), ((0, 34), 0, 5, 0, 1), ((1, 9), 1, 4, 0, 1), ((1, 15), 1, 5, 2, 11), ((1, 19), 1, 6, 2, 11), ((1, 24), 1, 7, 2, 11), ((1, 30), 1, 8, 2, 11), ((1, 34), 1, 9, 2, 11), ((1, 39), 1, 0, 0, 1), ((1, 42), 1, 1, 0, 1), ((1, 45), 1, 2, 0, 1), ((1, 48), 1, 3, 0, 1), ((1, 57), 5, 2, 2, 11), ((2, 13), 2, 0, 2, 11), ((2, 16), 2, 1, 2, 11), ((3, 12), 3, 1, 2, 1), ((3, 18), 3, 0, 2, 11), ((3, 49), 1, 7, 2, 11), ((3, 57), 1, 2, 0, 1), ((3, 63), 1, 8, 2, 11), ((3, 71), 1, 3, 0, 1), ((3, 77), 3, 2, 0, 1), ((3, 80), 8, 2, 0, 1), ((3, 83), 3, 3, 0, 1), ((3, 95), 8, 6, 0, 1), ((3, 98), 1, 0, 0, 1), ((3, 107), 8, 5, 0, 1), ((3, 110), 1, 4, 0, 1), ((3, 120), 5, 0, 0, 1), ((3, 126), 5, 1, 2, 11), ((3, 136), 5, 2, 2, 11), ((3, 144), 8, 4, 0, 1), ((3, 155), 9, 0, 0, 1), ((3, 158), 8, 7, 0, 3), ((4, 9), 4, 1, 2, 1), ((4, 15), 4, 2, 2, 1), ((4, 18), 4, 3, 2, 11), ((4, 22), 4, 4, 2, 11), ((4, 26), 4, 0, 2, 11), ((4, 44), 7, 0, 2, 1), ((4, 58), 1, 0, 0, 1), ((4, 69), 1, 4, 0, 1), ((5, 10), 5, 1, 2, 11), ((5, 16), 5, 2, 2, 11), ((5, 19), 5, 0, 0, 1), ((6, 11), 6, 1, 2, 11), ((6, 15), 6, 2, 2, 11), ((6, 18), 6, 3, 2, 11), ((6, 21), 6, 0, 2, 11), ((6, 25), 6, 4, 0, 1), ((6, 29), 6, 5, 0, 1), ((6, 38), 6, 6, 0, 1), ((6, 41), 6, 7, 0, 1), ((6, 44), 6, 8, 0, 1), ((6, 47), 6, 9, 0, 1), ((6, 65), 10, 2, 0, 1), ((7, 14), 7, 0, 2, 1), ((7, 20), 7, 1, 2, 1), ((7, 24), 7, 2, 2, 11), ((7, 27), 7, 3, 2, 11), ((7, 30), 7, 4, 2, 11), ((7, 39), 1, 6, 2, 11), ((7, 46), 1, 0, 0, 1), ((7, 58), 1, 4, 0, 1), ((7, 68), 1, 2, 0, 1), ((7, 71), 1, 7, 2, 11), ((7, 75), 5, 1, 2, 11), ((7, 93), 5, 2, 2, 11), ((7, 96), 1, 5, 2, 11), ((7, 103), 5, 0, 0, 1), ((7, 115), 1, 3, 0, 1), ((7, 118), 1, 8, 2, 11), ((8, 9), 8, 0, 2, 11), ((8, 13), 8, 1, 0, 1), ((8, 17), 8, 3, 0, 1), ((8, 23), 8, 2, 0, 1), ((8, 26), 8, 4, 0, 1), ((8, 33), 8, 5, 0, 1), ((8, 36), 8, 6, 0, 1), ((8, 39), 8, 7, 0, 3), ((9, 9), 9, 1, 2, 11), ((9, 13), 9, 2, 2, 11), ((9, 16), 9, 3, 2, 11), ((9, 19), 9, 0, 0, 1), ((10, 7), 10, 0, 2, 11), ((10, 15), 10, 1, 1, 1), ((10, 25), 10, 2, 0, 1), ((10, 33), 7, 0, 2, 1), ((10, 37), 1, 0, 0, 1), ((11, 10), 11, 0, 2, 11), ((11, 21), 11, 1, 2, 11), ((11, 28), 11, 2, 2, 11), ((11, 37), 11, 3, 2, 11), ((11, 44), 11, 4, 2, 11), ((11, 51), 11, 5, 2, 11), ((11, 58), 11, 6, 2, 11), ((11, 67), 11, 7, 2, 11), ((11, 71), 7, 0, 2, 1), ((11, 75), 11, 8, 2, 1), ((11, 82), 8, 1, 0, 1), ((11, 93), 3, 2, 0, 1), ((11, 96), 11, 10, 0, 1), ((11, 99), 3, 3, 0, 1), ((11, 111), 1, 4, 0, 1), ((11, 116), 11, 9, 1, 1), ((11, 123), 1, 0, 0, 1), ((11, 126), 1, 1, 0, 1), ((11, 129), 1, 2, 0, 1), ((11, 132), 1, 3, 0, 1), ((11, 197), 0, 3, 0, 1), ((11, 200), 0, 4, 0, 1), ((11, 203), 0, 5, 0, 1), ((11, 206), 0, 1, 0, 1), ((11, 209), 0, 2, 0, 1), ((12, 7), 12, 1, 2, 11), ((12, 13), 12, 15, 2, 11), ((12, 16), 12, 16, 2, 11), ((12, 19), 12, 17, 2, 11), ((12, 23), 12, 18, 2, 11), ((12, 26), 12, 19, 2, 11), ((12, 29), 12, 20, 2, 11), ((12, 32), 12, 21, 2, 11), ((12, 35), 12, 22, 2, 11), ((12, 38), 12, 23, 2, 11), ((12, 41), 12, 24, 2, 11), ((12, 44), 12, 25, 2, 11), ((12, 47), 12, 26, 2, 11), ((12, 50), 12, 27, 2, 11), ((12, 53), 12, 28, 2, 11), ((12, 56), 12, 29, 2, 11), ((12, 59), 12, 30, 2, 11), ((12, 62), 12, 32, 2, 11), ((12, 65), 12, 34, 2, 11), ((12, 68), 12, 35, 2, 11), ((12, 71), 12, 36, 2, 11), ((12, 74), 12, 37, 2, 11), ((12, 78), 12, 38, 0, 1), ((12, 82), 12, 39, 0, 1), ((12, 85), 12, 40, 2, 11), ((12, 88), 12, 44, 2, 11), ((12, 91), 12, 45, 2, 11), ((12, 94), 12, 46, 2, 11), ((12, 97), 12, 0, 0, 1), ((12, 106), 12, 2, 0, 1), ((12, 111), 12, 4, 0, 1), ((12, 114), 12, 5, 0, 1), ((12, 121), 12, 7, 0, 1), ((12, 124), 12, 9, 0, 1), ((12, 127), 12, 6, 0, 1), ((12, 137), 12, 8, 0, 1), ((12, 140), 12, 10, 0, 1), ((12, 143), 12, 11, 0, 1), ((12, 164), 12, 13, 0, 1), ((12, 197), 12, 12, 0, 1), ((12, 217), 12, 3, 0, 1), ((12, 220), 12, 14, 0, 2), ((12, 227), 12, 31, 1, 1), ((12, 238), 12, 33, 1, 1), ((12, 306), 12, 41, 0, 1), ((12, 309), 12, 42, 0, 1), ((12, 312), 12, 43, 0, 1), ((14, 9), 100, 0, 3, 1), ((14, 15), 100, 1, 3, 1)]
def zfl (c i : Nat) : Option (Nat × Nat × Nat × Nat) := zflL.lookup (c, i)
/-- methods: class, entry, then kind (0 on an object, 1 static, 2 constructor, 3 Object's constructor, 4 a nest mate's constructor, 5 arraycopy, 6 Math.max, 7 Math.min), method, number of arguments -/
def zmlL : List ((Nat × Nat) × Nat × Nat × Nat) := [((0, 5), 3, 0, 0), ((0, 22), 1, 186, 2), ((0, 37), 0, 1, 0), ((1, 3), 3, 0, 0), ((1, 37), 4, 46, 0), ((1, 38), 4, 73, 0), ((1, 51), 7, 0, 2), ((1, 61), 0, 78, 1), ((2, 3), 3, 0, 0), ((2, 19), 0, 21, 4), ((2, 23), 0, 20, 3), ((2, 27), 0, 16, 3), ((2, 31), 0, 17, 3), ((2, 34), 0, 22, 2), ((2, 40), 0, 23, 2), ((3, 3), 3, 0, 0), ((3, 11), 2, 5, 0), ((3, 22), 0, 6, 0), ((3, 25), 0, 67, 0), ((3, 30), 0, 28, 0), ((3, 36), 0, 72, 1), ((3, 40), 0, 29, 0), ((3, 43), 0, 27, 1), ((3, 53), 0, 30, 1), ((3, 67), 0, 31, 1), ((3, 74), 0, 32, 0), ((3, 88), 0, 68, 0), ((3, 91), 0, 36, 2), ((3, 100), 0, 37, 1), ((3, 104), 0, 35, 0), ((3, 113), 0, 7, 3), ((3, 117), 0, 47, 0), ((3, 123), 0, 71, 1), ((3, 132), 0, 33, 3), ((3, 141), 0, 74, 0), ((3, 147), 0, 34, 2), ((3, 151), 0, 8, 1), ((3, 162), 0, 177, 1), ((3, 167), 0, 75, 3), ((4, 1), 3, 0, 0), ((4, 30), 0, 44, 2), ((4, 34), 0, 43, 0), ((4, 38), 0, 59, 2), ((4, 48), 0, 11, 2), ((4, 52), 0, 55, 0), ((4, 55), 0, 42, 2), ((4, 62), 0, 56, 2), ((4, 65), 1, 57, 1), ((4, 72), 7, 0, 2), ((4, 77), 1, 186, 2), ((4, 83), 0, 45, 2), ((5, 1), 3, 0, 0), ((5, 9), 4, 73, 0), ((5, 23), 0, 74, 0), ((6, 3), 3, 0, 0), ((6, 32), 7, 0, 2), ((6, 50), 1, 187, 2), ((6, 56), 0, 51, 3), ((6, 61), 0, 50, 1), ((6, 70), 0, 83, 1), ((6, 73), 0, 52, 1), ((6, 76), 0, 82, 1), ((6, 80), 0, 81, 0), ((7, 7), 3, 0, 0), ((7, 13), 2, 5, 0), ((7, 33), 1, 187, 2), ((7, 42), 0, 9, 1), ((7, 50), 0, 60, 1), ((7, 54), 0, 61, 1), ((7, 61), 0, 10, 2), ((7, 65), 0, 62, 1), ((7, 81), 0, 76, 1), ((7, 87), 5, 0, 5), ((7, 99), 0, 77, 2), ((7, 106), 7, 0, 2), ((7, 112), 0, 63, 3), ((8, 1), 3, 0, 0), ((8, 20), 0, 68, 0), ((8, 29), 0, 69, 4), ((8, 45), 0, 177, 1), ((8, 51), 0, 70, 0), ((8, 54), 0, 175, 0), ((8, 57), 0, 176, 1), ((9, 1), 3, 0, 0), ((9, 23), 7, 0, 2), ((9, 29), 6, 0, 2), ((10, 1), 3, 0, 0), ((10, 19), 0, 55, 0), ((10, 42), 6, 0, 2), ((10, 48), 0, 56, 2), ((10, 51), 1, 57, 1), ((10, 55), 1, 58, 1), ((10, 58), 0, 59, 2), ((10, 62), 0, 11, 2), ((11, 1), 3, 0, 0), ((11, 9), 4, 64, 0), ((11, 18), 2, 24, 1), ((11, 27), 4, 53, 0), ((11, 34), 2, 79, 1), ((11, 43), 2, 38, 1), ((11, 50), 4, 0, 0), ((11, 57), 2, 13, 0), ((11, 64), 2, 48, 1), ((11, 78), 0, 65, 2), ((11, 86), 0, 25, 0), ((11, 90), 0, 66, 0), ((11, 102), 0, 26, 1), ((11, 106), 0, 54, 1), ((11, 110), 0, 1, 0), ((11, 120), 0, 104, 0), ((11, 135), 0, 105, 1), ((11, 139), 1, 107, 1), ((11, 142), 1, 108, 1), ((11, 145), 0, 109, 3), ((11, 149), 0, 106, 1), ((11, 152), 0, 80, 2), ((11, 156), 0, 81, 0), ((11, 160), 0, 83, 1), ((11, 168), 1, 111, 3), ((11, 174), 0, 39, 2), ((11, 180), 0, 40, 2), ((11, 183), 0, 41, 0), ((11, 186), 0, 2, 2), ((11, 190), 0, 3, 1), ((11, 193), 0, 4, 1), ((11, 210), 0, 110, 4), ((11, 214), 1, 14, 1), ((11, 217), 1, 15, 1), ((11, 220), 0, 16, 3), ((11, 223), 0, 17, 3), ((11, 226), 0, 18, 3), ((11, 230), 0, 19, 5), ((11, 234), 0, 49, 5), ((11, 237), 0, 12, 1), ((11, 241), 0, 82, 1), ((12, 1), 3, 0, 0), ((12, 102), 1, 113, 3), ((12, 117), 0, 115, 1), ((12, 130), 1, 116, 1), ((12, 134), 1, 117, 1), ((12, 146), 0, 119, 2), ((12, 150), 0, 121, 1), ((12, 153), 0, 120, 1), ((12, 157), 0, 118, 0), ((12, 160), 0, 124, 0), ((12, 167), 0, 123, 0), ((12, 171), 0, 126, 1), ((12, 177), 0, 127, 1), ((12, 180), 0, 125, 2), ((12, 184), 0, 122, 1), ((12, 188), 0, 129, 0), ((12, 191), 0, 130, 1), ((12, 194), 0, 131, 1), ((12, 204), 0, 128, 0), ((12, 209), 0, 132, 0), ((12, 214), 0, 133, 0), ((12, 224), 0, 160, 0), ((12, 233), 0, 139, 1), ((12, 241), 0, 138, 0), ((12, 250), 0, 143, 1), ((12, 253), 0, 140, 1), ((12, 256), 0, 144, 0), ((12, 259), 0, 141, 1), ((12, 262), 0, 142, 1), ((12, 265), 0, 145, 1), ((12, 270), 1, 147, 1), ((12, 273), 0, 148, 3), ((12, 277), 0, 146, 1), ((12, 282), 0, 153, 1), ((12, 285), 0, 152, 0), ((12, 292), 0, 154, 2), ((12, 298), 0, 156, 0), ((12, 301), 0, 155, 0), ((12, 319), 1, 164, 2), ((12, 323), 1, 165, 3), ((12, 327), 1, 166, 4), ((12, 337), 1, 167, 3), ((12, 340), 1, 168, 3), ((12, 353), 0, 172, 5), ((13, 9), 2, 84, 0), ((13, 12), 2, 112, 0), ((13, 15), 0, 85, 2), ((13, 19), 0, 114, 2), ((13, 20), 0, 86, 0), ((13, 24), 0, 134, 0), ((13, 25), 0, 87, 0), ((13, 28), 0, 135, 0), ((13, 29), 0, 88, 1), ((13, 33), 0, 136, 1), ((13, 34), 0, 89, 1), ((13, 38), 0, 137, 1), ((13, 39), 0, 90, 3), ((13, 43), 0, 149, 3), ((13, 44), 0, 91, 3), ((13, 47), 0, 150, 3), ((13, 48), 0, 92, 2), ((13, 52), 0, 151, 2), ((13, 53), 0, 93, 2), ((13, 57), 0, 157, 2), ((13, 58), 0, 94, 2), ((13, 61), 0, 158, 2), ((13, 62), 0, 95, 0), ((13, 65), 0, 159, 0), ((13, 66), 0, 96, 3), ((13, 69), 0, 161, 3), ((13, 70), 0, 97, 1), ((13, 73), 0, 162, 1), ((13, 74), 0, 98, 5), ((13, 78), 0, 163, 5), ((13, 79), 0, 99, 4), ((13, 83), 0, 169, 4), ((13, 84), 0, 100, 3), ((13, 88), 0, 170, 3), ((13, 89), 0, 101, 6), ((13, 93), 0, 171, 6), ((13, 94), 0, 102, 6), ((13, 97), 0, 173, 6), ((13, 98), 0, 103, 1), ((13, 101), 0, 174, 1), ((14, 335), 0, 179, 0), ((14, 492), 0, 180, 0), ((14, 495), 1, 182, 2), ((14, 505), 0, 175, 0), ((14, 633), 0, 178, 2), ((14, 637), 1, 184, 4), ((14, 1059), 1, 188, 3), ((15, 9), 1, 181, 2), ((15, 38), 7, 0, 2), ((15, 88), 1, 183, 1), ((15, 92), 6, 0, 2), ((15, 95), 1, 185, 4)]
def zml (c i : Nat) : Option (Nat × Nat × Nat) := zmlL.lookup (c, i)
def znlL : List ((Nat × Nat) × Nat) := [((1, 22), 5), ((1, 28), 9), ((2, 11), 99), ((3, 9), 1), ((5, 7), 9), ((7, 1), 1), ((11, 7), 8), ((11, 16), 3), ((11, 25), 7), ((11, 32), 10), ((11, 41), 4), ((11, 48), 0), ((11, 55), 2), ((11, 62), 6), ((13, 7), 11), ((13, 10), 12)]
def znl (c i : Nat) : Option Nat := znlL.lookup (c, i)
def zclL : List ((Nat × Nat) × ZV) := [((2, 38), zl (1000)), ((3, 34), zx 4), ((3, 47), zx 5), ((3, 61), zx 8), ((3, 86), zx 3), ((3, 130), zx 6), ((3, 139), zx 7), ((6, 60), zi (1000000)), ((8, 43), zx 2), ((10, 13), zl (-7046029254386353131)), ((10, 29), zl (6364136223846793005)), ((10, 31), zl (1442695040888963407)), ((11, 164), zl (-2)), ((11, 166), zl (1000000000000000000)), ((11, 172), zl (-4)), ((11, 178), zl (100000000000000000)), ((11, 240), zi (999999)), ((12, 100), zl (8)), ((12, 109), zl (255)), ((12, 175), zl (30)), ((12, 200), zl (1819243635)), ((12, 202), zl (7758194)), ((12, 207), zl (1920298085)), ((12, 212), zl (1735352684)), ((12, 231), zl (3)), ((12, 236), zl (-7046029254386353131)), ((12, 244), zl (6364136223846793005)), ((12, 246), zl (1442695040888963407)), ((12, 248), zl (999999)), ((12, 268), zl (60)), ((12, 280), zl (-1)), ((12, 288), zl (-2)), ((12, 290), zl (1000000000000000000)), ((12, 296), zl (-4)), ((12, 304), zl (100000000000000000)), ((12, 315), zl (9999)), ((12, 317), zl (500)), ((12, 331), zl (1000)), ((12, 333), zl (10)), ((12, 335), zl (14)), ((12, 343), zl (9)), ((12, 345), zl (2)), ((12, 347), zl (20)), ((12, 349), zl (5)), ((12, 351), zl (4)), ((13, 13), zl (4294967295))]
def zcl (c i : Nat) : Option ZV := zclL.lookup (c, i)
theorem lf_0_11 : zfl 0 11 = some (0, 0, 2, 11) := by decide +kernel
theorem lf_0_15 : zfl 0 15 = some (0, 1, 0, 1) := by decide +kernel
theorem lf_0_19 : zfl 0 19 = some (0, 2, 0, 1) := by decide +kernel
theorem lf_0_28 : zfl 0 28 = some (0, 3, 0, 1) := by decide +kernel
theorem lf_0_31 : zfl 0 31 = some (0, 4, 0, 1) := by decide +kernel
theorem lf_0_34 : zfl 0 34 = some (0, 5, 0, 1) := by decide +kernel
theorem lf_1_9 : zfl 1 9 = some (1, 4, 0, 1) := by decide +kernel
theorem lf_1_15 : zfl 1 15 = some (1, 5, 2, 11) := by decide +kernel
theorem lf_1_19 : zfl 1 19 = some (1, 6, 2, 11) := by decide +kernel
theorem lf_1_24 : zfl 1 24 = some (1, 7, 2, 11) := by decide +kernel
theorem lf_1_30 : zfl 1 30 = some (1, 8, 2, 11) := by decide +kernel
theorem lf_1_34 : zfl 1 34 = some (1, 9, 2, 11) := by decide +kernel
theorem lf_1_39 : zfl 1 39 = some (1, 0, 0, 1) := by decide +kernel
theorem lf_1_42 : zfl 1 42 = some (1, 1, 0, 1) := by decide +kernel
theorem lf_1_45 : zfl 1 45 = some (1, 2, 0, 1) := by decide +kernel
theorem lf_1_48 : zfl 1 48 = some (1, 3, 0, 1) := by decide +kernel
theorem lf_1_57 : zfl 1 57 = some (5, 2, 2, 11) := by decide +kernel
theorem lf_2_13 : zfl 2 13 = some (2, 0, 2, 11) := by decide +kernel
theorem lf_2_16 : zfl 2 16 = some (2, 1, 2, 11) := by decide +kernel
theorem lf_3_12 : zfl 3 12 = some (3, 1, 2, 1) := by decide +kernel
theorem lf_3_18 : zfl 3 18 = some (3, 0, 2, 11) := by decide +kernel
theorem lf_3_49 : zfl 3 49 = some (1, 7, 2, 11) := by decide +kernel
theorem lf_3_57 : zfl 3 57 = some (1, 2, 0, 1) := by decide +kernel
theorem lf_3_63 : zfl 3 63 = some (1, 8, 2, 11) := by decide +kernel
theorem lf_3_71 : zfl 3 71 = some (1, 3, 0, 1) := by decide +kernel
theorem lf_3_77 : zfl 3 77 = some (3, 2, 0, 1) := by decide +kernel
theorem lf_3_80 : zfl 3 80 = some (8, 2, 0, 1) := by decide +kernel
theorem lf_3_83 : zfl 3 83 = some (3, 3, 0, 1) := by decide +kernel
theorem lf_3_95 : zfl 3 95 = some (8, 6, 0, 1) := by decide +kernel
theorem lf_3_98 : zfl 3 98 = some (1, 0, 0, 1) := by decide +kernel
theorem lf_3_107 : zfl 3 107 = some (8, 5, 0, 1) := by decide +kernel
theorem lf_3_110 : zfl 3 110 = some (1, 4, 0, 1) := by decide +kernel
theorem lf_3_120 : zfl 3 120 = some (5, 0, 0, 1) := by decide +kernel
theorem lf_3_126 : zfl 3 126 = some (5, 1, 2, 11) := by decide +kernel
theorem lf_3_136 : zfl 3 136 = some (5, 2, 2, 11) := by decide +kernel
theorem lf_3_144 : zfl 3 144 = some (8, 4, 0, 1) := by decide +kernel
theorem lf_3_155 : zfl 3 155 = some (9, 0, 0, 1) := by decide +kernel
theorem lf_3_158 : zfl 3 158 = some (8, 7, 0, 3) := by decide +kernel
theorem lf_4_9 : zfl 4 9 = some (4, 1, 2, 1) := by decide +kernel
theorem lf_4_15 : zfl 4 15 = some (4, 2, 2, 1) := by decide +kernel
theorem lf_4_18 : zfl 4 18 = some (4, 3, 2, 11) := by decide +kernel
theorem lf_4_22 : zfl 4 22 = some (4, 4, 2, 11) := by decide +kernel
theorem lf_4_26 : zfl 4 26 = some (4, 0, 2, 11) := by decide +kernel
theorem lf_4_44 : zfl 4 44 = some (7, 0, 2, 1) := by decide +kernel
theorem lf_4_58 : zfl 4 58 = some (1, 0, 0, 1) := by decide +kernel
theorem lf_4_69 : zfl 4 69 = some (1, 4, 0, 1) := by decide +kernel
theorem lf_5_10 : zfl 5 10 = some (5, 1, 2, 11) := by decide +kernel
theorem lf_5_16 : zfl 5 16 = some (5, 2, 2, 11) := by decide +kernel
theorem lf_5_19 : zfl 5 19 = some (5, 0, 0, 1) := by decide +kernel
theorem lf_6_11 : zfl 6 11 = some (6, 1, 2, 11) := by decide +kernel
theorem lf_6_15 : zfl 6 15 = some (6, 2, 2, 11) := by decide +kernel
theorem lf_6_18 : zfl 6 18 = some (6, 3, 2, 11) := by decide +kernel
theorem lf_6_21 : zfl 6 21 = some (6, 0, 2, 11) := by decide +kernel
theorem lf_6_25 : zfl 6 25 = some (6, 4, 0, 1) := by decide +kernel
theorem lf_6_29 : zfl 6 29 = some (6, 5, 0, 1) := by decide +kernel
theorem lf_6_38 : zfl 6 38 = some (6, 6, 0, 1) := by decide +kernel
theorem lf_6_41 : zfl 6 41 = some (6, 7, 0, 1) := by decide +kernel
theorem lf_6_44 : zfl 6 44 = some (6, 8, 0, 1) := by decide +kernel
theorem lf_6_47 : zfl 6 47 = some (6, 9, 0, 1) := by decide +kernel
theorem lf_6_65 : zfl 6 65 = some (10, 2, 0, 1) := by decide +kernel
theorem lf_7_14 : zfl 7 14 = some (7, 0, 2, 1) := by decide +kernel
theorem lf_7_20 : zfl 7 20 = some (7, 1, 2, 1) := by decide +kernel
theorem lf_7_24 : zfl 7 24 = some (7, 2, 2, 11) := by decide +kernel
theorem lf_7_27 : zfl 7 27 = some (7, 3, 2, 11) := by decide +kernel
theorem lf_7_30 : zfl 7 30 = some (7, 4, 2, 11) := by decide +kernel
theorem lf_7_39 : zfl 7 39 = some (1, 6, 2, 11) := by decide +kernel
theorem lf_7_46 : zfl 7 46 = some (1, 0, 0, 1) := by decide +kernel
theorem lf_7_58 : zfl 7 58 = some (1, 4, 0, 1) := by decide +kernel
theorem lf_7_68 : zfl 7 68 = some (1, 2, 0, 1) := by decide +kernel
theorem lf_7_71 : zfl 7 71 = some (1, 7, 2, 11) := by decide +kernel
theorem lf_7_75 : zfl 7 75 = some (5, 1, 2, 11) := by decide +kernel
theorem lf_7_93 : zfl 7 93 = some (5, 2, 2, 11) := by decide +kernel
theorem lf_7_96 : zfl 7 96 = some (1, 5, 2, 11) := by decide +kernel
theorem lf_7_103 : zfl 7 103 = some (5, 0, 0, 1) := by decide +kernel
theorem lf_7_115 : zfl 7 115 = some (1, 3, 0, 1) := by decide +kernel
theorem lf_7_118 : zfl 7 118 = some (1, 8, 2, 11) := by decide +kernel
theorem lf_8_9 : zfl 8 9 = some (8, 0, 2, 11) := by decide +kernel
theorem lf_8_13 : zfl 8 13 = some (8, 1, 0, 1) := by decide +kernel
theorem lf_8_17 : zfl 8 17 = some (8, 3, 0, 1) := by decide +kernel
theorem lf_8_23 : zfl 8 23 = some (8, 2, 0, 1) := by decide +kernel
theorem lf_8_26 : zfl 8 26 = some (8, 4, 0, 1) := by decide +kernel
theorem lf_8_33 : zfl 8 33 = some (8, 5, 0, 1) := by decide +kernel
theorem lf_8_36 : zfl 8 36 = some (8, 6, 0, 1) := by decide +kernel
theorem lf_8_39 : zfl 8 39 = some (8, 7, 0, 3) := by decide +kernel
theorem lf_9_9 : zfl 9 9 = some (9, 1, 2, 11) := by decide +kernel
theorem lf_9_13 : zfl 9 13 = some (9, 2, 2, 11) := by decide +kernel
theorem lf_9_16 : zfl 9 16 = some (9, 3, 2, 11) := by decide +kernel
theorem lf_9_19 : zfl 9 19 = some (9, 0, 0, 1) := by decide +kernel
theorem lf_10_7 : zfl 10 7 = some (10, 0, 2, 11) := by decide +kernel
theorem lf_10_15 : zfl 10 15 = some (10, 1, 1, 1) := by decide +kernel
theorem lf_10_25 : zfl 10 25 = some (10, 2, 0, 1) := by decide +kernel
theorem lf_10_33 : zfl 10 33 = some (7, 0, 2, 1) := by decide +kernel
theorem lf_10_37 : zfl 10 37 = some (1, 0, 0, 1) := by decide +kernel
theorem lf_11_10 : zfl 11 10 = some (11, 0, 2, 11) := by decide +kernel
theorem lf_11_21 : zfl 11 21 = some (11, 1, 2, 11) := by decide +kernel
theorem lf_11_28 : zfl 11 28 = some (11, 2, 2, 11) := by decide +kernel
theorem lf_11_37 : zfl 11 37 = some (11, 3, 2, 11) := by decide +kernel
theorem lf_11_44 : zfl 11 44 = some (11, 4, 2, 11) := by decide +kernel
theorem lf_11_51 : zfl 11 51 = some (11, 5, 2, 11) := by decide +kernel
theorem lf_11_58 : zfl 11 58 = some (11, 6, 2, 11) := by decide +kernel
theorem lf_11_67 : zfl 11 67 = some (11, 7, 2, 11) := by decide +kernel
theorem lf_11_71 : zfl 11 71 = some (7, 0, 2, 1) := by decide +kernel
theorem lf_11_75 : zfl 11 75 = some (11, 8, 2, 1) := by decide +kernel
theorem lf_11_82 : zfl 11 82 = some (8, 1, 0, 1) := by decide +kernel
theorem lf_11_93 : zfl 11 93 = some (3, 2, 0, 1) := by decide +kernel
theorem lf_11_96 : zfl 11 96 = some (11, 10, 0, 1) := by decide +kernel
theorem lf_11_99 : zfl 11 99 = some (3, 3, 0, 1) := by decide +kernel
theorem lf_11_111 : zfl 11 111 = some (1, 4, 0, 1) := by decide +kernel
theorem lf_11_116 : zfl 11 116 = some (11, 9, 1, 1) := by decide +kernel
theorem lf_11_123 : zfl 11 123 = some (1, 0, 0, 1) := by decide +kernel
theorem lf_11_126 : zfl 11 126 = some (1, 1, 0, 1) := by decide +kernel
theorem lf_11_129 : zfl 11 129 = some (1, 2, 0, 1) := by decide +kernel
theorem lf_11_132 : zfl 11 132 = some (1, 3, 0, 1) := by decide +kernel
theorem lf_11_197 : zfl 11 197 = some (0, 3, 0, 1) := by decide +kernel
theorem lf_11_200 : zfl 11 200 = some (0, 4, 0, 1) := by decide +kernel
theorem lf_11_203 : zfl 11 203 = some (0, 5, 0, 1) := by decide +kernel
theorem lf_11_206 : zfl 11 206 = some (0, 1, 0, 1) := by decide +kernel
theorem lf_11_209 : zfl 11 209 = some (0, 2, 0, 1) := by decide +kernel
theorem lf_12_7 : zfl 12 7 = some (12, 1, 2, 11) := by decide +kernel
theorem lf_12_13 : zfl 12 13 = some (12, 15, 2, 11) := by decide +kernel
theorem lf_12_16 : zfl 12 16 = some (12, 16, 2, 11) := by decide +kernel
theorem lf_12_19 : zfl 12 19 = some (12, 17, 2, 11) := by decide +kernel
theorem lf_12_23 : zfl 12 23 = some (12, 18, 2, 11) := by decide +kernel
theorem lf_12_26 : zfl 12 26 = some (12, 19, 2, 11) := by decide +kernel
theorem lf_12_29 : zfl 12 29 = some (12, 20, 2, 11) := by decide +kernel
theorem lf_12_32 : zfl 12 32 = some (12, 21, 2, 11) := by decide +kernel
theorem lf_12_35 : zfl 12 35 = some (12, 22, 2, 11) := by decide +kernel
theorem lf_12_38 : zfl 12 38 = some (12, 23, 2, 11) := by decide +kernel
theorem lf_12_41 : zfl 12 41 = some (12, 24, 2, 11) := by decide +kernel
theorem lf_12_44 : zfl 12 44 = some (12, 25, 2, 11) := by decide +kernel
theorem lf_12_47 : zfl 12 47 = some (12, 26, 2, 11) := by decide +kernel
theorem lf_12_50 : zfl 12 50 = some (12, 27, 2, 11) := by decide +kernel
theorem lf_12_53 : zfl 12 53 = some (12, 28, 2, 11) := by decide +kernel
theorem lf_12_56 : zfl 12 56 = some (12, 29, 2, 11) := by decide +kernel
theorem lf_12_59 : zfl 12 59 = some (12, 30, 2, 11) := by decide +kernel
theorem lf_12_62 : zfl 12 62 = some (12, 32, 2, 11) := by decide +kernel
theorem lf_12_65 : zfl 12 65 = some (12, 34, 2, 11) := by decide +kernel
theorem lf_12_68 : zfl 12 68 = some (12, 35, 2, 11) := by decide +kernel
theorem lf_12_71 : zfl 12 71 = some (12, 36, 2, 11) := by decide +kernel
theorem lf_12_74 : zfl 12 74 = some (12, 37, 2, 11) := by decide +kernel
theorem lf_12_78 : zfl 12 78 = some (12, 38, 0, 1) := by decide +kernel
theorem lf_12_82 : zfl 12 82 = some (12, 39, 0, 1) := by decide +kernel
theorem lf_12_85 : zfl 12 85 = some (12, 40, 2, 11) := by decide +kernel
theorem lf_12_88 : zfl 12 88 = some (12, 44, 2, 11) := by decide +kernel
theorem lf_12_91 : zfl 12 91 = some (12, 45, 2, 11) := by decide +kernel
theorem lf_12_94 : zfl 12 94 = some (12, 46, 2, 11) := by decide +kernel
theorem lf_12_97 : zfl 12 97 = some (12, 0, 0, 1) := by decide +kernel
theorem lf_12_106 : zfl 12 106 = some (12, 2, 0, 1) := by decide +kernel
theorem lf_12_111 : zfl 12 111 = some (12, 4, 0, 1) := by decide +kernel
theorem lf_12_114 : zfl 12 114 = some (12, 5, 0, 1) := by decide +kernel
theorem lf_12_121 : zfl 12 121 = some (12, 7, 0, 1) := by decide +kernel
theorem lf_12_124 : zfl 12 124 = some (12, 9, 0, 1) := by decide +kernel
theorem lf_12_127 : zfl 12 127 = some (12, 6, 0, 1) := by decide +kernel
theorem lf_12_137 : zfl 12 137 = some (12, 8, 0, 1) := by decide +kernel
theorem lf_12_140 : zfl 12 140 = some (12, 10, 0, 1) := by decide +kernel
theorem lf_12_143 : zfl 12 143 = some (12, 11, 0, 1) := by decide +kernel
theorem lf_12_164 : zfl 12 164 = some (12, 13, 0, 1) := by decide +kernel
theorem lf_12_197 : zfl 12 197 = some (12, 12, 0, 1) := by decide +kernel
theorem lf_12_217 : zfl 12 217 = some (12, 3, 0, 1) := by decide +kernel
theorem lf_12_220 : zfl 12 220 = some (12, 14, 0, 2) := by decide +kernel
theorem lf_12_227 : zfl 12 227 = some (12, 31, 1, 1) := by decide +kernel
theorem lf_12_238 : zfl 12 238 = some (12, 33, 1, 1) := by decide +kernel
theorem lf_12_306 : zfl 12 306 = some (12, 41, 0, 1) := by decide +kernel
theorem lf_12_309 : zfl 12 309 = some (12, 42, 0, 1) := by decide +kernel
theorem lf_12_312 : zfl 12 312 = some (12, 43, 0, 1) := by decide +kernel
theorem lf_14_9 : zfl 14 9 = some (100, 0, 3, 1) := by decide +kernel
theorem lf_14_15 : zfl 14 15 = some (100, 1, 3, 1) := by decide +kernel
theorem lm_0_5 : zml 0 5 = some (3, 0, 0) := by decide +kernel
theorem lm_0_22 : zml 0 22 = some (1, 186, 2) := by decide +kernel
theorem lm_0_37 : zml 0 37 = some (0, 1, 0) := by decide +kernel
theorem lm_1_3 : zml 1 3 = some (3, 0, 0) := by decide +kernel
theorem lm_1_37 : zml 1 37 = some (4, 46, 0) := by decide +kernel
theorem lm_1_38 : zml 1 38 = some (4, 73, 0) := by decide +kernel
theorem lm_1_51 : zml 1 51 = some (7, 0, 2) := by decide +kernel
theorem lm_1_61 : zml 1 61 = some (0, 78, 1) := by decide +kernel
theorem lm_2_3 : zml 2 3 = some (3, 0, 0) := by decide +kernel
theorem lm_2_19 : zml 2 19 = some (0, 21, 4) := by decide +kernel
theorem lm_2_23 : zml 2 23 = some (0, 20, 3) := by decide +kernel
theorem lm_2_27 : zml 2 27 = some (0, 16, 3) := by decide +kernel
theorem lm_2_31 : zml 2 31 = some (0, 17, 3) := by decide +kernel
theorem lm_2_34 : zml 2 34 = some (0, 22, 2) := by decide +kernel
theorem lm_2_40 : zml 2 40 = some (0, 23, 2) := by decide +kernel
theorem lm_3_3 : zml 3 3 = some (3, 0, 0) := by decide +kernel
theorem lm_3_11 : zml 3 11 = some (2, 5, 0) := by decide +kernel
theorem lm_3_22 : zml 3 22 = some (0, 6, 0) := by decide +kernel
theorem lm_3_25 : zml 3 25 = some (0, 67, 0) := by decide +kernel
theorem lm_3_30 : zml 3 30 = some (0, 28, 0) := by decide +kernel
theorem lm_3_36 : zml 3 36 = some (0, 72, 1) := by decide +kernel
theorem lm_3_40 : zml 3 40 = some (0, 29, 0) := by decide +kernel
theorem lm_3_43 : zml 3 43 = some (0, 27, 1) := by decide +kernel
theorem lm_3_53 : zml 3 53 = some (0, 30, 1) := by decide +kernel
theorem lm_3_67 : zml 3 67 = some (0, 31, 1) := by decide +kernel
theorem lm_3_74 : zml 3 74 = some (0, 32, 0) := by decide +kernel
theorem lm_3_88 : zml 3 88 = some (0, 68, 0) := by decide +kernel
theorem lm_3_91 : zml 3 91 = some (0, 36, 2) := by decide +kernel
theorem lm_3_100 : zml 3 100 = some (0, 37, 1) := by decide +kernel
theorem lm_3_104 : zml 3 104 = some (0, 35, 0) := by decide +kernel
theorem lm_3_113 : zml 3 113 = some (0, 7, 3) := by decide +kernel
theorem lm_3_117 : zml 3 117 = some (0, 47, 0) := by decide +kernel
theorem lm_3_123 : zml 3 123 = some (0, 71, 1) := by decide +kernel
theorem lm_3_132 : zml 3 132 = some (0, 33, 3) := by decide +kernel
theorem lm_3_141 : zml 3 141 = some (0, 74, 0) := by decide +kernel
theorem lm_3_147 : zml 3 147 = some (0, 34, 2) := by decide +kernel
theorem lm_3_151 : zml 3 151 = some (0, 8, 1) := by decide +kernel
theorem lm_3_162 : zml 3 162 = some (0, 177, 1) := by decide +kernel
theorem lm_3_167 : zml 3 167 = some (0, 75, 3) := by decide +kernel
theorem lm_4_1 : zml 4 1 = some (3, 0, 0) := by decide +kernel
theorem lm_4_30 : zml 4 30 = some (0, 44, 2) := by decide +kernel
theorem lm_4_34 : zml 4 34 = some (0, 43, 0) := by decide +kernel
theorem lm_4_38 : zml 4 38 = some (0, 59, 2) := by decide +kernel
theorem lm_4_48 : zml 4 48 = some (0, 11, 2) := by decide +kernel
theorem lm_4_52 : zml 4 52 = some (0, 55, 0) := by decide +kernel
theorem lm_4_55 : zml 4 55 = some (0, 42, 2) := by decide +kernel
theorem lm_4_62 : zml 4 62 = some (0, 56, 2) := by decide +kernel
theorem lm_4_65 : zml 4 65 = some (1, 57, 1) := by decide +kernel
theorem lm_4_72 : zml 4 72 = some (7, 0, 2) := by decide +kernel
theorem lm_4_77 : zml 4 77 = some (1, 186, 2) := by decide +kernel
theorem lm_4_83 : zml 4 83 = some (0, 45, 2) := by decide +kernel
theorem lm_5_1 : zml 5 1 = some (3, 0, 0) := by decide +kernel
theorem lm_5_9 : zml 5 9 = some (4, 73, 0) := by decide +kernel
theorem lm_5_23 : zml 5 23 = some (0, 74, 0) := by decide +kernel
theorem lm_6_3 : zml 6 3 = some (3, 0, 0) := by decide +kernel
theorem lm_6_32 : zml 6 32 = some (7, 0, 2) := by decide +kernel
theorem lm_6_50 : zml 6 50 = some (1, 187, 2) := by decide +kernel
theorem lm_6_56 : zml 6 56 = some (0, 51, 3) := by decide +kernel
theorem lm_6_61 : zml 6 61 = some (0, 50, 1) := by decide +kernel
theorem lm_6_70 : zml 6 70 = some (0, 83, 1) := by decide +kernel
theorem lm_6_73 : zml 6 73 = some (0, 52, 1) := by decide +kernel
theorem lm_6_76 : zml 6 76 = some (0, 82, 1) := by decide +kernel
theorem lm_6_80 : zml 6 80 = some (0, 81, 0) := by decide +kernel
theorem lm_7_7 : zml 7 7 = some (3, 0, 0) := by decide +kernel
theorem lm_7_13 : zml 7 13 = some (2, 5, 0) := by decide +kernel
theorem lm_7_33 : zml 7 33 = some (1, 187, 2) := by decide +kernel
theorem lm_7_42 : zml 7 42 = some (0, 9, 1) := by decide +kernel
theorem lm_7_50 : zml 7 50 = some (0, 60, 1) := by decide +kernel
theorem lm_7_54 : zml 7 54 = some (0, 61, 1) := by decide +kernel
theorem lm_7_61 : zml 7 61 = some (0, 10, 2) := by decide +kernel
theorem lm_7_65 : zml 7 65 = some (0, 62, 1) := by decide +kernel
theorem lm_7_81 : zml 7 81 = some (0, 76, 1) := by decide +kernel
theorem lm_7_87 : zml 7 87 = some (5, 0, 5) := by decide +kernel
theorem lm_7_99 : zml 7 99 = some (0, 77, 2) := by decide +kernel
theorem lm_7_106 : zml 7 106 = some (7, 0, 2) := by decide +kernel
theorem lm_7_112 : zml 7 112 = some (0, 63, 3) := by decide +kernel
theorem lm_8_1 : zml 8 1 = some (3, 0, 0) := by decide +kernel
theorem lm_8_20 : zml 8 20 = some (0, 68, 0) := by decide +kernel
theorem lm_8_29 : zml 8 29 = some (0, 69, 4) := by decide +kernel
theorem lm_8_45 : zml 8 45 = some (0, 177, 1) := by decide +kernel
theorem lm_8_51 : zml 8 51 = some (0, 70, 0) := by decide +kernel
theorem lm_8_54 : zml 8 54 = some (0, 175, 0) := by decide +kernel
theorem lm_8_57 : zml 8 57 = some (0, 176, 1) := by decide +kernel
theorem lm_9_1 : zml 9 1 = some (3, 0, 0) := by decide +kernel
theorem lm_9_23 : zml 9 23 = some (7, 0, 2) := by decide +kernel
theorem lm_9_29 : zml 9 29 = some (6, 0, 2) := by decide +kernel
theorem lm_10_1 : zml 10 1 = some (3, 0, 0) := by decide +kernel
theorem lm_10_19 : zml 10 19 = some (0, 55, 0) := by decide +kernel
theorem lm_10_42 : zml 10 42 = some (6, 0, 2) := by decide +kernel
theorem lm_10_48 : zml 10 48 = some (0, 56, 2) := by decide +kernel
theorem lm_10_51 : zml 10 51 = some (1, 57, 1) := by decide +kernel
theorem lm_10_55 : zml 10 55 = some (1, 58, 1) := by decide +kernel
theorem lm_10_58 : zml 10 58 = some (0, 59, 2) := by decide +kernel
theorem lm_10_62 : zml 10 62 = some (0, 11, 2) := by decide +kernel
theorem lm_11_1 : zml 11 1 = some (3, 0, 0) := by decide +kernel
theorem lm_11_9 : zml 11 9 = some (4, 64, 0) := by decide +kernel
theorem lm_11_18 : zml 11 18 = some (2, 24, 1) := by decide +kernel
theorem lm_11_27 : zml 11 27 = some (4, 53, 0) := by decide +kernel
theorem lm_11_34 : zml 11 34 = some (2, 79, 1) := by decide +kernel
theorem lm_11_43 : zml 11 43 = some (2, 38, 1) := by decide +kernel
theorem lm_11_50 : zml 11 50 = some (4, 0, 0) := by decide +kernel
theorem lm_11_57 : zml 11 57 = some (2, 13, 0) := by decide +kernel
theorem lm_11_64 : zml 11 64 = some (2, 48, 1) := by decide +kernel
theorem lm_11_78 : zml 11 78 = some (0, 65, 2) := by decide +kernel
theorem lm_11_86 : zml 11 86 = some (0, 25, 0) := by decide +kernel
theorem lm_11_90 : zml 11 90 = some (0, 66, 0) := by decide +kernel
theorem lm_11_102 : zml 11 102 = some (0, 26, 1) := by decide +kernel
theorem lm_11_106 : zml 11 106 = some (0, 54, 1) := by decide +kernel
theorem lm_11_110 : zml 11 110 = some (0, 1, 0) := by decide +kernel
theorem lm_11_120 : zml 11 120 = some (0, 104, 0) := by decide +kernel
theorem lm_11_135 : zml 11 135 = some (0, 105, 1) := by decide +kernel
theorem lm_11_139 : zml 11 139 = some (1, 107, 1) := by decide +kernel
theorem lm_11_142 : zml 11 142 = some (1, 108, 1) := by decide +kernel
theorem lm_11_145 : zml 11 145 = some (0, 109, 3) := by decide +kernel
theorem lm_11_149 : zml 11 149 = some (0, 106, 1) := by decide +kernel
theorem lm_11_152 : zml 11 152 = some (0, 80, 2) := by decide +kernel
theorem lm_11_156 : zml 11 156 = some (0, 81, 0) := by decide +kernel
theorem lm_11_160 : zml 11 160 = some (0, 83, 1) := by decide +kernel
theorem lm_11_168 : zml 11 168 = some (1, 111, 3) := by decide +kernel
theorem lm_11_174 : zml 11 174 = some (0, 39, 2) := by decide +kernel
theorem lm_11_180 : zml 11 180 = some (0, 40, 2) := by decide +kernel
theorem lm_11_183 : zml 11 183 = some (0, 41, 0) := by decide +kernel
theorem lm_11_186 : zml 11 186 = some (0, 2, 2) := by decide +kernel
theorem lm_11_190 : zml 11 190 = some (0, 3, 1) := by decide +kernel
theorem lm_11_193 : zml 11 193 = some (0, 4, 1) := by decide +kernel
theorem lm_11_210 : zml 11 210 = some (0, 110, 4) := by decide +kernel
theorem lm_11_214 : zml 11 214 = some (1, 14, 1) := by decide +kernel
theorem lm_11_217 : zml 11 217 = some (1, 15, 1) := by decide +kernel
theorem lm_11_220 : zml 11 220 = some (0, 16, 3) := by decide +kernel
theorem lm_11_223 : zml 11 223 = some (0, 17, 3) := by decide +kernel
theorem lm_11_226 : zml 11 226 = some (0, 18, 3) := by decide +kernel
theorem lm_11_230 : zml 11 230 = some (0, 19, 5) := by decide +kernel
theorem lm_11_234 : zml 11 234 = some (0, 49, 5) := by decide +kernel
theorem lm_11_237 : zml 11 237 = some (0, 12, 1) := by decide +kernel
theorem lm_11_241 : zml 11 241 = some (0, 82, 1) := by decide +kernel
theorem lm_12_1 : zml 12 1 = some (3, 0, 0) := by decide +kernel
theorem lm_12_102 : zml 12 102 = some (1, 113, 3) := by decide +kernel
theorem lm_12_117 : zml 12 117 = some (0, 115, 1) := by decide +kernel
theorem lm_12_130 : zml 12 130 = some (1, 116, 1) := by decide +kernel
theorem lm_12_134 : zml 12 134 = some (1, 117, 1) := by decide +kernel
theorem lm_12_146 : zml 12 146 = some (0, 119, 2) := by decide +kernel
theorem lm_12_150 : zml 12 150 = some (0, 121, 1) := by decide +kernel
theorem lm_12_153 : zml 12 153 = some (0, 120, 1) := by decide +kernel
theorem lm_12_157 : zml 12 157 = some (0, 118, 0) := by decide +kernel
theorem lm_12_160 : zml 12 160 = some (0, 124, 0) := by decide +kernel
theorem lm_12_167 : zml 12 167 = some (0, 123, 0) := by decide +kernel
theorem lm_12_171 : zml 12 171 = some (0, 126, 1) := by decide +kernel
theorem lm_12_177 : zml 12 177 = some (0, 127, 1) := by decide +kernel
theorem lm_12_180 : zml 12 180 = some (0, 125, 2) := by decide +kernel
theorem lm_12_184 : zml 12 184 = some (0, 122, 1) := by decide +kernel
theorem lm_12_188 : zml 12 188 = some (0, 129, 0) := by decide +kernel
theorem lm_12_191 : zml 12 191 = some (0, 130, 1) := by decide +kernel
theorem lm_12_194 : zml 12 194 = some (0, 131, 1) := by decide +kernel
theorem lm_12_204 : zml 12 204 = some (0, 128, 0) := by decide +kernel
theorem lm_12_209 : zml 12 209 = some (0, 132, 0) := by decide +kernel
theorem lm_12_214 : zml 12 214 = some (0, 133, 0) := by decide +kernel
theorem lm_12_224 : zml 12 224 = some (0, 160, 0) := by decide +kernel
theorem lm_12_233 : zml 12 233 = some (0, 139, 1) := by decide +kernel
theorem lm_12_241 : zml 12 241 = some (0, 138, 0) := by decide +kernel
theorem lm_12_250 : zml 12 250 = some (0, 143, 1) := by decide +kernel
theorem lm_12_253 : zml 12 253 = some (0, 140, 1) := by decide +kernel
theorem lm_12_256 : zml 12 256 = some (0, 144, 0) := by decide +kernel
theorem lm_12_259 : zml 12 259 = some (0, 141, 1) := by decide +kernel
theorem lm_12_262 : zml 12 262 = some (0, 142, 1) := by decide +kernel
theorem lm_12_265 : zml 12 265 = some (0, 145, 1) := by decide +kernel
theorem lm_12_270 : zml 12 270 = some (1, 147, 1) := by decide +kernel
theorem lm_12_273 : zml 12 273 = some (0, 148, 3) := by decide +kernel
theorem lm_12_277 : zml 12 277 = some (0, 146, 1) := by decide +kernel
theorem lm_12_282 : zml 12 282 = some (0, 153, 1) := by decide +kernel
theorem lm_12_285 : zml 12 285 = some (0, 152, 0) := by decide +kernel
theorem lm_12_292 : zml 12 292 = some (0, 154, 2) := by decide +kernel
theorem lm_12_298 : zml 12 298 = some (0, 156, 0) := by decide +kernel
theorem lm_12_301 : zml 12 301 = some (0, 155, 0) := by decide +kernel
theorem lm_12_319 : zml 12 319 = some (1, 164, 2) := by decide +kernel
theorem lm_12_323 : zml 12 323 = some (1, 165, 3) := by decide +kernel
theorem lm_12_327 : zml 12 327 = some (1, 166, 4) := by decide +kernel
theorem lm_12_337 : zml 12 337 = some (1, 167, 3) := by decide +kernel
theorem lm_12_340 : zml 12 340 = some (1, 168, 3) := by decide +kernel
theorem lm_12_353 : zml 12 353 = some (0, 172, 5) := by decide +kernel
theorem lm_13_9 : zml 13 9 = some (2, 84, 0) := by decide +kernel
theorem lm_13_12 : zml 13 12 = some (2, 112, 0) := by decide +kernel
theorem lm_13_15 : zml 13 15 = some (0, 85, 2) := by decide +kernel
theorem lm_13_19 : zml 13 19 = some (0, 114, 2) := by decide +kernel
theorem lm_13_20 : zml 13 20 = some (0, 86, 0) := by decide +kernel
theorem lm_13_24 : zml 13 24 = some (0, 134, 0) := by decide +kernel
theorem lm_13_25 : zml 13 25 = some (0, 87, 0) := by decide +kernel
theorem lm_13_28 : zml 13 28 = some (0, 135, 0) := by decide +kernel
theorem lm_13_29 : zml 13 29 = some (0, 88, 1) := by decide +kernel
theorem lm_13_33 : zml 13 33 = some (0, 136, 1) := by decide +kernel
theorem lm_13_34 : zml 13 34 = some (0, 89, 1) := by decide +kernel
theorem lm_13_38 : zml 13 38 = some (0, 137, 1) := by decide +kernel
theorem lm_13_39 : zml 13 39 = some (0, 90, 3) := by decide +kernel
theorem lm_13_43 : zml 13 43 = some (0, 149, 3) := by decide +kernel
theorem lm_13_44 : zml 13 44 = some (0, 91, 3) := by decide +kernel
theorem lm_13_47 : zml 13 47 = some (0, 150, 3) := by decide +kernel
theorem lm_13_48 : zml 13 48 = some (0, 92, 2) := by decide +kernel
theorem lm_13_52 : zml 13 52 = some (0, 151, 2) := by decide +kernel
theorem lm_13_53 : zml 13 53 = some (0, 93, 2) := by decide +kernel
theorem lm_13_57 : zml 13 57 = some (0, 157, 2) := by decide +kernel
theorem lm_13_58 : zml 13 58 = some (0, 94, 2) := by decide +kernel
theorem lm_13_61 : zml 13 61 = some (0, 158, 2) := by decide +kernel
theorem lm_13_62 : zml 13 62 = some (0, 95, 0) := by decide +kernel
theorem lm_13_65 : zml 13 65 = some (0, 159, 0) := by decide +kernel
theorem lm_13_66 : zml 13 66 = some (0, 96, 3) := by decide +kernel
theorem lm_13_69 : zml 13 69 = some (0, 161, 3) := by decide +kernel
theorem lm_13_70 : zml 13 70 = some (0, 97, 1) := by decide +kernel
theorem lm_13_73 : zml 13 73 = some (0, 162, 1) := by decide +kernel
theorem lm_13_74 : zml 13 74 = some (0, 98, 5) := by decide +kernel
theorem lm_13_78 : zml 13 78 = some (0, 163, 5) := by decide +kernel
theorem lm_13_79 : zml 13 79 = some (0, 99, 4) := by decide +kernel
theorem lm_13_83 : zml 13 83 = some (0, 169, 4) := by decide +kernel
theorem lm_13_84 : zml 13 84 = some (0, 100, 3) := by decide +kernel
theorem lm_13_88 : zml 13 88 = some (0, 170, 3) := by decide +kernel
theorem lm_13_89 : zml 13 89 = some (0, 101, 6) := by decide +kernel
theorem lm_13_93 : zml 13 93 = some (0, 171, 6) := by decide +kernel
theorem lm_13_94 : zml 13 94 = some (0, 102, 6) := by decide +kernel
theorem lm_13_97 : zml 13 97 = some (0, 173, 6) := by decide +kernel
theorem lm_13_98 : zml 13 98 = some (0, 103, 1) := by decide +kernel
theorem lm_13_101 : zml 13 101 = some (0, 174, 1) := by decide +kernel
theorem lm_14_335 : zml 14 335 = some (0, 179, 0) := by decide +kernel
theorem lm_14_492 : zml 14 492 = some (0, 180, 0) := by decide +kernel
theorem lm_14_495 : zml 14 495 = some (1, 182, 2) := by decide +kernel
theorem lm_14_505 : zml 14 505 = some (0, 175, 0) := by decide +kernel
theorem lm_14_633 : zml 14 633 = some (0, 178, 2) := by decide +kernel
theorem lm_14_637 : zml 14 637 = some (1, 184, 4) := by decide +kernel
theorem lm_14_1059 : zml 14 1059 = some (1, 188, 3) := by decide +kernel
theorem lm_15_9 : zml 15 9 = some (1, 181, 2) := by decide +kernel
theorem lm_15_38 : zml 15 38 = some (7, 0, 2) := by decide +kernel
theorem lm_15_88 : zml 15 88 = some (1, 183, 1) := by decide +kernel
theorem lm_15_92 : zml 15 92 = some (6, 0, 2) := by decide +kernel
theorem lm_15_95 : zml 15 95 = some (1, 185, 4) := by decide +kernel
theorem ln_1_22 : znl 1 22 = some 5 := by decide +kernel
theorem ln_1_28 : znl 1 28 = some 9 := by decide +kernel
theorem ln_2_11 : znl 2 11 = some 99 := by decide +kernel
theorem ln_3_9 : znl 3 9 = some 1 := by decide +kernel
theorem ln_5_7 : znl 5 7 = some 9 := by decide +kernel
theorem ln_7_1 : znl 7 1 = some 1 := by decide +kernel
theorem ln_11_7 : znl 11 7 = some 8 := by decide +kernel
theorem ln_11_16 : znl 11 16 = some 3 := by decide +kernel
theorem ln_11_25 : znl 11 25 = some 7 := by decide +kernel
theorem ln_11_32 : znl 11 32 = some 10 := by decide +kernel
theorem ln_11_41 : znl 11 41 = some 4 := by decide +kernel
theorem ln_11_48 : znl 11 48 = some 0 := by decide +kernel
theorem ln_11_55 : znl 11 55 = some 2 := by decide +kernel
theorem ln_11_62 : znl 11 62 = some 6 := by decide +kernel
theorem ln_13_7 : znl 13 7 = some 11 := by decide +kernel
theorem ln_13_10 : znl 13 10 = some 12 := by decide +kernel
theorem lc_2_38 : zcl 2 38 = some (zl (1000)) := by rfl
theorem lc_3_34 : zcl 3 34 = some (zx 4) := by rfl
theorem lc_3_47 : zcl 3 47 = some (zx 5) := by rfl
theorem lc_3_61 : zcl 3 61 = some (zx 8) := by rfl
theorem lc_3_86 : zcl 3 86 = some (zx 3) := by rfl
theorem lc_3_130 : zcl 3 130 = some (zx 6) := by rfl
theorem lc_3_139 : zcl 3 139 = some (zx 7) := by rfl
theorem lc_6_60 : zcl 6 60 = some (zi (1000000)) := by rfl
theorem lc_8_43 : zcl 8 43 = some (zx 2) := by rfl
theorem lc_10_13 : zcl 10 13 = some (zl (-7046029254386353131)) := by rfl
theorem lc_10_29 : zcl 10 29 = some (zl (6364136223846793005)) := by rfl
theorem lc_10_31 : zcl 10 31 = some (zl (1442695040888963407)) := by rfl
theorem lc_11_164 : zcl 11 164 = some (zl (-2)) := by rfl
theorem lc_11_166 : zcl 11 166 = some (zl (1000000000000000000)) := by rfl
theorem lc_11_172 : zcl 11 172 = some (zl (-4)) := by rfl
theorem lc_11_178 : zcl 11 178 = some (zl (100000000000000000)) := by rfl
theorem lc_11_240 : zcl 11 240 = some (zi (999999)) := by rfl
theorem lc_12_100 : zcl 12 100 = some (zl (8)) := by rfl
theorem lc_12_109 : zcl 12 109 = some (zl (255)) := by rfl
theorem lc_12_175 : zcl 12 175 = some (zl (30)) := by rfl
theorem lc_12_200 : zcl 12 200 = some (zl (1819243635)) := by rfl
theorem lc_12_202 : zcl 12 202 = some (zl (7758194)) := by rfl
theorem lc_12_207 : zcl 12 207 = some (zl (1920298085)) := by rfl
theorem lc_12_212 : zcl 12 212 = some (zl (1735352684)) := by rfl
theorem lc_12_231 : zcl 12 231 = some (zl (3)) := by rfl
theorem lc_12_236 : zcl 12 236 = some (zl (-7046029254386353131)) := by rfl
theorem lc_12_244 : zcl 12 244 = some (zl (6364136223846793005)) := by rfl
theorem lc_12_246 : zcl 12 246 = some (zl (1442695040888963407)) := by rfl
theorem lc_12_248 : zcl 12 248 = some (zl (999999)) := by rfl
theorem lc_12_268 : zcl 12 268 = some (zl (60)) := by rfl
theorem lc_12_280 : zcl 12 280 = some (zl (-1)) := by rfl
theorem lc_12_288 : zcl 12 288 = some (zl (-2)) := by rfl
theorem lc_12_290 : zcl 12 290 = some (zl (1000000000000000000)) := by rfl
theorem lc_12_296 : zcl 12 296 = some (zl (-4)) := by rfl
theorem lc_12_304 : zcl 12 304 = some (zl (100000000000000000)) := by rfl
theorem lc_12_315 : zcl 12 315 = some (zl (9999)) := by rfl
theorem lc_12_317 : zcl 12 317 = some (zl (500)) := by rfl
theorem lc_12_331 : zcl 12 331 = some (zl (1000)) := by rfl
theorem lc_12_333 : zcl 12 333 = some (zl (10)) := by rfl
theorem lc_12_335 : zcl 12 335 = some (zl (14)) := by rfl
theorem lc_12_343 : zcl 12 343 = some (zl (9)) := by rfl
theorem lc_12_345 : zcl 12 345 = some (zl (2)) := by rfl
theorem lc_12_347 : zcl 12 347 = some (zl (20)) := by rfl
theorem lc_12_349 : zcl 12 349 = some (zl (5)) := by rfl
theorem lc_12_351 : zcl 12 351 = some (zl (4)) := by rfl
theorem lc_13_13 : zcl 13 13 = some (zl (4294967295)) := by rfl
