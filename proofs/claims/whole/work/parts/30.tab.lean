/-! THE TABLE OF METHODS -/
def pm_X0_init : px_M := (yX0_init, cX0_init, 1, none, (3, 244), [])
def pm_X0_compare : px_M := (yX0_compare, cX0_compare, 4, none, (0, 0), [])
def pm_X0_fillRow : px_M := (yX0_fillRow, cX0_fillRow, 8, none, (0, 0), [])
def pm_X0_firstKind : px_M := (yX0_firstKind, cX0_firstKind, 5, (some .int), (0, 0), [])
def pm_X1_init : px_M := (yX1_init, cX1_init, 1, none, (1, 8), [])
def pm_X1_grow : px_M := (yX1_grow, cX1_grow, 4, none, (0, 0), [])
def pm_X1_able : px_M := (yX1_able, cX1_able, 3, (some .int), (0, 0), [])
def pm_X1_gainOf : px_M := (yX1_gainOf, cX1_gainOf, 4, (some .int), (0, 0), [])
def pm_X2_init : px_M := (yX2_init, cX2_init, 1, none, (2, 125), [])
def pm_X2_execute : px_M := (yX2_execute, cX2_execute, 6, none, (0, 0), [])
def pm_X2_result : px_M := (yX2_result, cX2_result, 1, (some .int), (0, 0), [])
def pm_X2_turn : px_M := (yX2_turn, cX2_turn, 4, (some .int), (0, 0), [])
def pm_X2_valueOf : px_M := (yX2_valueOf, cX2_valueOf, 2, (some .int), (0, 0), [])
def pm_X2_store : px_M := (yX2_store, cX2_store, 3, none, (0, 0), [])
def pm_X2_stop : px_M := (yX2_stop, cX2_stop, 2, none, (0, 0), [])
def pm_X2_begin : px_M := (yX2_begin, cX2_begin, 2, none, (0, 0), [])
def pm_X2_workOut : px_M := (yX2_workOut, cX2_workOut, 4, none, (0, 0), [])
def pm_X2_divide : px_M := (yX2_divide, cX2_divide, 4, none, (0, 0), [])
def pm_X2_push : px_M := (yX2_push, cX2_push, 2, none, (0, 0), [])
def pm_X2_pop : px_M := (yX2_pop, cX2_pop, 1, (some .int), (0, 0), [])
def pm_X3_init : px_M := (yX3_init, cX3_init, 1, none, (5, 488), [])
def pm_X3_parse : px_M := (yX3_parse, cX3_parse, 2, (some (.object "PracticeGround$Program")), (4, 367), [])
def pm_X3_wrongByte : px_M := (yX3_wrongByte, cX3_wrongByte, 1, (some .int), (0, 0), [])
def pm_X3_block : px_M := (yX3_block, cX3_block, 5, (some .boolean), (0, 0), [])
def pm_X3_doing : px_M := (yX3_doing, cX3_doing, 4, (some .boolean), (0, 0), [])
def pm_X3_loop : px_M := (yX3_loop, cX3_loop, 5, (some .boolean), (0, 0), [])
def pm_X3_choice : px_M := (yX3_choice, cX3_choice, 5, (some .boolean), (0, 0), [])
def pm_X3_braced : px_M := (yX3_braced, cX3_braced, 3, (some .boolean), (0, 0), [])
def pm_X3_expression : px_M := (yX3_expression, cX3_expression, 7, (some .boolean), (0, 0), [])
def pm_X3_factor : px_M := (yX3_factor, cX3_factor, 4, (some .boolean), (0, 0), [])
def pm_X3_here : px_M := (yX3_here, cX3_here, 1, (some .int), (0, 0), [])
def pm_X3_take : px_M := (yX3_take, cX3_take, 2, (some .boolean), (0, 0), [])
def pm_X3_emit : px_M := (yX3_emit, cX3_emit, 3, (some .boolean), (0, 0), [])
def pm_X3_aim : px_M := (yX3_aim, cX3_aim, 2, none, (0, 0), [])
def pm_X4_init : px_M := (yX4_init, cX4_init, 1, none, (1, 256), [])
def pm_X4_fewest : px_M := (yX4_fewest, cX4_fewest, 7, (some .int), (0, 0), [])
def pm_X4_spread : px_M := (yX4_spread, cX4_spread, 6, none, (0, 0), [])
def pm_X5_init : px_M := (yX5_init, cX5_init, 5, none, (3, 363), [])
def pm_X5_firstOfCAndD : px_M := (yX5_firstOfCAndD, cX5_firstOfCAndD, 2, (some .int), (0, 0), [])
def pm_X5_size : px_M := (yX5_size, cX5_size, 1, (some .int), (0, 0), [])
def pm_X5_tokenAt : px_M := (yX5_tokenAt, cX5_tokenAt, 2, (some .int), (0, 0), [])
def pm_X5_shapeAt : px_M := (yX5_shapeAt, cX5_shapeAt, 3, (some .int), (0, 0), [])
def pm_X5_hasShapeOf : px_M := (yX5_hasShapeOf, cX5_hasShapeOf, 3, (some .boolean), (0, 0), [])
def pm_X6_init : px_M := (yX6_init, cX6_init, 1, none, (2, 242), [])
def pm_X6_scan : px_M := (yX6_scan, cX6_scan, 4, none, (0, 0), [])
def pm_X6_passBlanks : px_M := (yX6_passBlanks, cX6_passBlanks, 2, none, (0, 0), [])
def pm_X6_takeToken : px_M := (yX6_takeToken, cX6_takeToken, 3, (some .int), (0, 0), [])
def pm_X6_takeWord : px_M := (yX6_takeWord, cX6_takeWord, 5, (some .int), (0, 0), [])
def pm_X6_takeNumber : px_M := (yX6_takeNumber, cX6_takeNumber, 4, (some .int), (0, 0), [])
def pm_X7_init : px_M := (yX7_init, cX7_init, 1, none, (1, 400), [])
def pm_X7_append : px_M := (yX7_append, cX7_append, 3, none, (0, 0), [])
def pm_X7_hasLetter : px_M := (yX7_hasLetter, cX7_hasLetter, 2, (some .boolean), (0, 0), [])
def pm_X7_hasDigit : px_M := (yX7_hasDigit, cX7_hasDigit, 2, (some .boolean), (0, 0), [])
def pm_X7_hasWord : px_M := (yX7_hasWord, cX7_hasWord, 5, (some .boolean), (0, 0), [])
def pm_X8_init : px_M := (yX8_init, cX8_init, 3, none, (5, 36), [])
def pm_X8_addWorld : px_M := (yX8_addWorld, cX8_addWorld, 4, (some .int), (0, 0), [])
def pm_X8_isPassedBy : px_M := (yX8_isPassedBy, cX8_isPassedBy, 2, (some .boolean), (0, 0), [])
def pm_X8_isOpenTo : px_M := (yX8_isOpenTo, cX8_isOpenTo, 2, (some .boolean), (0, 0), [])
def pm_X8_learnersPassed : px_M := (yX8_learnersPassed, cX8_learnersPassed, 3, (some .int), (0, 0), [])
def pm_X8_keepPass : px_M := (yX8_keepPass, cX8_keepPass, 3, none, (0, 0), [])
def pm_X8_hasWayOfShape : px_M := (yX8_hasWayOfShape, cX8_hasWayOfShape, 3, (some .boolean), (0, 0), [])
def pm_X9_init : px_M := (yX9_init, cX9_init, 2, none, (35, 1621), [])
def pm_X9_feed : px_M := (yX9_feed, cX9_feed, 6, (some .int), (0, 0), [])
def pm_X9_end : px_M := (yX9_end, cX9_end, 2, (some .boolean), (0, 0), [])
def pm_X9_read : px_M := (yX9_read, cX9_read, 2, (some .int), (5, 373), [])
def pm_X9_fault : px_M := (yX9_fault, cX9_fault, 1, (some .int), (0, 0), [])
def pm_X9_run : px_M := (yX9_run, cX9_run, 5, (some .int), (2, 12), [])
def pm_X9_task : px_M := (yX9_task, cX9_task, 3, (some .int), (8, 57), [])
def pm_X9_world : px_M := (yX9_world, cX9_world, 5, (some .int), (1, 6), [])
def pm_X9_attempt : px_M := (yX9_attempt, cX9_attempt, 9, (some .int), (3, 18), [])
def pm_X9_can : px_M := (yX9_can, cX9_can, 4, (some .int), (2, 12), [])
def pm_X9_passed : px_M := (yX9_passed, cX9_passed, 3, (some .boolean), (2, 12), [])
def pm_X9_next : px_M := (yX9_next, cX9_next, 9, (some .int), (1, 6), [])
def pm_X9_wish : px_M := (yX9_wish, cX9_wish, 4, (some .int), (2, 12), [])
def pm_X9_look : px_M := (yX9_look, cX9_look, 4, (some .int), (2, 12), [])
def pm_X9_hint : px_M := (yX9_hint, cX9_hint, 8, (some .int), (3, 18), [])
def pm_X9_alike : px_M := (yX9_alike, cX9_alike, 8, (some .boolean), (3, 18), [])
def pm_X9_token : px_M := (yX9_token, cX9_token, 2, (some .int), (0, 0), [])
def pm_X9_count : px_M := (yX9_count, cX9_count, 2, (some .int), (0, 0), [])
def pm_X9_nearestWay : px_M := (yX9_nearestWay, cX9_nearestWay, 6, (some .int), (0, 0), [])
def pm_X9_taskAt : px_M := (yX9_taskAt, cX9_taskAt, 2, (some (.object "PracticeGround$Task")), (1, 6), [])
def pm_X9_learnerAt : px_M := (yX9_learnerAt, cX9_learnerAt, 2, (some (.object "PracticeGround$Learner")), (1, 6), [])
def pm_X9_programOnSlate : px_M := (yX9_programOnSlate, cX9_programOnSlate, 1, (some (.object "PracticeGround$Program")), (1, 6), [])
def pm_X9_checkSkill : px_M := (yX9_checkSkill, cX9_checkSkill, 1, none, (1, 6), [])
def pm_X9_checkWhat : px_M := (yX9_checkWhat, cX9_checkWhat, 2, none, (1, 6), [])
def pm_X9_isSet : px_M := (yX9_isSet, cX9_isSet, 1, (some .boolean), (0, 0), [])
def pm_X9_variableOf : px_M := (yX9_variableOf, cX9_variableOf, 1, (some .int), (0, 0), [])
def pm_X9_levelOf : px_M := (yX9_levelOf, cX9_levelOf, 1, (some .int), (0, 0), [])
def pm_X9_skillOf : px_M := (yX9_skillOf, cX9_skillOf, 1, (some .int), (0, 0), [])
def pm_X10_init : px_M := (yX10_init, cX10_init, 1, none, (21, 38215), [])
def pm_X10_thrown : px_M := (yX10_thrown, cX10_thrown, 1, (some .int), (0, 0), [])
def pm_X10_throwsIf : px_M := (yX10_throwsIf, cX10_throwsIf, 3, (some .boolean), (0, 0), [])
def pm_X10_in : px_M := (yX10_in, cX10_in, 3, (some .boolean), (0, 0), [])
def pm_X10_feed : px_M := (yX10_feed, cX10_feed, 7, (some .int), (0, 0), [])
def pm_X10_end : px_M := (yX10_end, cX10_end, 2, (some .boolean), (0, 0), [])
def pm_X10_isAt : px_M := (yX10_isAt, cX10_isAt, 4, (some .boolean), (0, 0), [])
def pm_X10_isWord : px_M := (yX10_isWord, cX10_isWord, 4, (some .boolean), (0, 0), [])
def pm_X10_isVariable : px_M := (yX10_isVariable, cX10_isVariable, 1, (some .boolean), (0, 0), [])
def pm_X10_isSign : px_M := (yX10_isSign, cX10_isSign, 1, (some .boolean), (0, 0), [])
def pm_X10_next : px_M := (yX10_next, cX10_next, 2, (some .int), (0, 0), [])
def pm_X10_look : px_M := (yX10_look, cX10_look, 1, none, (0, 0), [])
def pm_X10_accept : px_M := (yX10_accept, cX10_accept, 1, none, (0, 0), [])
def pm_X10_need : px_M := (yX10_need, cX10_need, 2, (some .boolean), (0, 0), [])
def pm_X10_opens : px_M := (yX10_opens, cX10_opens, 2, (some .boolean), (0, 0), [])
def pm_X10_closes : px_M := (yX10_closes, cX10_closes, 2, (some .boolean), (0, 0), [])
def pm_X10_readBlock : px_M := (yX10_readBlock, cX10_readBlock, 1, (some .boolean), (0, 0), [])
def pm_X10_readBraces : px_M := (yX10_readBraces, cX10_readBraces, 1, (some .boolean), (0, 0), [])
def pm_X10_readDo : px_M := (yX10_readDo, cX10_readDo, 2, (some .boolean), (0, 0), [])
def pm_X10_readExpr : px_M := (yX10_readExpr, cX10_readExpr, 1, (some .boolean), (0, 0), [])
def pm_X10_readSum : px_M := (yX10_readSum, cX10_readSum, 1, (some .boolean), (0, 0), [])
def pm_X10_readTerm : px_M := (yX10_readTerm, cX10_readTerm, 1, (some .boolean), (0, 0), [])
def pm_X10_readFactor : px_M := (yX10_readFactor, cX10_readFactor, 1, (some .boolean), (0, 0), [])
def pm_X10_read : px_M := (yX10_read, cX10_read, 3, (some .int), (0, 0), [])
def pm_X10_pairs : px_M := (yX10_pairs, cX10_pairs, 4, none, (0, 0), [])
def pm_X10_fault : px_M := (yX10_fault, cX10_fault, 1, (some .int), (0, 0), [])
def pm_X10_token : px_M := (yX10_token, cX10_token, 2, (some .int), (0, 0), [])
def pm_X10_ends : px_M := (yX10_ends, cX10_ends, 2, none, (0, 0), [])
def pm_X10_burns : px_M := (yX10_burns, cX10_burns, 1, (some .boolean), (0, 0), [])
def pm_X10_factor : px_M := (yX10_factor, cX10_factor, 3, (some .int), (0, 0), [])
def pm_X10_term : px_M := (yX10_term, cX10_term, 4, (some .int), (0, 0), [])
def pm_X10_sum : px_M := (yX10_sum, cX10_sum, 4, (some .int), (0, 0), [])
def pm_X10_expr : px_M := (yX10_expr, cX10_expr, 3, (some .int), (0, 0), [])
def pm_X10_block : px_M := (yX10_block, cX10_block, 1, none, (0, 0), [])
def pm_X10_braces : px_M := (yX10_braces, cX10_braces, 3, none, (0, 0), [])
def pm_X10_does : px_M := (yX10_does, cX10_does, 3, none, (0, 0), [])
def pm_X10_loops : px_M := (yX10_loops, cX10_loops, 3, none, (0, 0), [])
def pm_X10_runs : px_M := (yX10_runs, cX10_runs, 4, none, (0, 0), [])
def pm_X10_run : px_M := (yX10_run, cX10_run, 4, (some .int), (0, 0), [])
def pm_X10_noTask : px_M := (yX10_noTask, cX10_noTask, 2, (some .boolean), (0, 0), [])
def pm_X10_noLearner : px_M := (yX10_noLearner, cX10_noLearner, 1, (some .boolean), (0, 0), [])
def pm_X10_task : px_M := (yX10_task, cX10_task, 3, (some .int), (0, 0), [])
def pm_X10_world : px_M := (yX10_world, cX10_world, 6, (some .int), (0, 0), [])
def pm_X10_shaped : px_M := (yX10_shaped, cX10_shaped, 6, (some .int), (0, 0), [])
def pm_X10_isShape : px_M := (yX10_isShape, cX10_isShape, 3, (some .boolean), (0, 0), [])
def pm_X10_keeps : px_M := (yX10_keeps, cX10_keeps, 4, none, (0, 0), [])
def pm_X10_attempt : px_M := (yX10_attempt, cX10_attempt, 7, (some .int), (0, 0), [])
def pm_X10_can : px_M := (yX10_can, cX10_can, 3, (some .int), (0, 0), [])
def pm_X10_passed : px_M := (yX10_passed, cX10_passed, 3, (some .boolean), (0, 0), [])
def pm_X10_cans : px_M := (yX10_cans, cX10_cans, 4, (some .int), (0, 0), [])
def pm_X10_next_ : px_M := (yX10_next_, cX10_next_, 8, (some .int), (0, 0), [])
def pm_X10_wish : px_M := (yX10_wish, cX10_wish, 7, (some .int), (0, 0), [])
def pm_X10_look_ : px_M := (yX10_look_, cX10_look_, 5, (some .int), (0, 0), [])
def pm_X10_placeOf : px_M := (yX10_placeOf, cX10_placeOf, 2, (some .int), (0, 0), [])
def pm_X10_changes : px_M := (yX10_changes, cX10_changes, 6, (some .int), (0, 0), [])
def pm_X10_hints : px_M := (yX10_hints, cX10_hints, 8, none, (0, 0), [])
def pm_X10_hint : px_M := (yX10_hint, cX10_hint, 7, (some .int), (0, 0), [])
def pm_X10_alike : px_M := (yX10_alike, cX10_alike, 8, (some .boolean), (0, 0), [])
def pm_X10_count : px_M := (yX10_count, cX10_count, 2, (some .int), (0, 0), [])
def pm_L_read : px_M := (yL_read, cL_read, 3, (some .int), (5, 373), [((0, 8, 11, 13), "java/lang/IllegalArgumentException")])
def pm_L_run : px_M := (yL_run, cL_run, 6, (some .int), (2, 12), [((0, 12, 15, 19), "java/lang/IllegalStateException"), ((0, 12, 19, 21), "java/util/NoSuchElementException")])
def pm_L_task : px_M := (yL_task, cL_task, 5, (some .int), (8, 57), [((0, 10, 13, 13), "java/lang/IllegalArgumentException"), ((0, 10, 17, 27), "java/lang/UnsupportedOperationException")])
def pm_L_world : px_M := (yL_world, cL_world, 7, (some .int), (1, 6), [((0, 14, 17, 33), "java/lang/IndexOutOfBoundsException")])
def pm_L_attempt : px_M := (yL_attempt, cL_attempt, 6, (some .int), (3, 18), [((0, 12, 15, 33), "java/lang/IndexOutOfBoundsException"), ((0, 12, 19, 19), "java/lang/IllegalStateException")])
def pm_L_can : px_M := (yL_can, cL_can, 5, (some .int), (2, 12), [((0, 10, 13, 33), "java/lang/IndexOutOfBoundsException")])
def pm_L_passed : px_M := (yL_passed, cL_passed, 5, (some .int), (2, 12), [((0, 17, 20, 33), "java/lang/IndexOutOfBoundsException")])
def pm_L_next : px_M := (yL_next, cL_next, 4, (some .int), (1, 6), [((0, 9, 12, 33), "java/lang/IndexOutOfBoundsException")])
def pm_L_wish : px_M := (yL_wish, cL_wish, 5, (some .int), (2, 12), [((0, 10, 13, 33), "java/lang/IndexOutOfBoundsException")])
def pm_L_look : px_M := (yL_look, cL_look, 5, (some .int), (2, 12), [((0, 10, 13, 33), "java/lang/IndexOutOfBoundsException"), ((0, 10, 17, 21), "java/util/NoSuchElementException")])
def pm_L_hint : px_M := (yL_hint, cL_hint, 5, (some .int), (3, 18), [((0, 10, 13, 33), "java/lang/IndexOutOfBoundsException"), ((0, 10, 17, 19), "java/lang/IllegalStateException"), ((0, 10, 21, 21), "java/util/NoSuchElementException")])
def pm_L_alike : px_M := (yL_alike, cL_alike, 7, (some .int), (3, 18), [((0, 21, 24, 33), "java/lang/IndexOutOfBoundsException")])
def pm_L_law : px_M := (yL_law, cL_law, 7, (some .boolean), (601024, 7293034), [])
def pm_J9_max_7cf53 : px_M := (yJ9_max_7cf53, cJ9_max_7cf53, 2, (some .int), (0, 0), [])
def pm_J9_min_7cf53 : px_M := (yJ9_min_7cf53, cJ9_min_7cf53, 2, (some .int), (0, 0), [])
def pm_J0_length_8abf5 : px_M := (yJ0_length_8abf5, cJ0_length_8abf5, 1, (some .int), (0, 0), [])
def pm_J0_charAt_5068e : px_M := (yJ0_charAt_5068e, cJ0_charAt_5068e, 2, (some .char), (0, 0), [])
def pm_J0_indexOf_0f7a4 : px_M := (yJ0_indexOf_0f7a4, cJ0_indexOf_0f7a4, 2, (some .int), (0, 0), [])
def pm_J0_indexOf_7cf53 : px_M := (yJ0_indexOf_7cf53, cJ0_indexOf_7cf53, 3, (some .int), (0, 0), [])
def pm_J0_coder_7d493 : px_M := (yJ0_coder_7d493, cJ0_coder_7d493, 1, (some .byte), (0, 0), [])
def pm_J0_isLatin1_aae02 : px_M := (yJ0_isLatin1_aae02, cJ0_isLatin1_aae02, 1, (some .boolean), (0, 0), [])
def pm_J0_checkIndex_df160 : px_M := (yJ0_checkIndex_df160, cJ0_checkIndex_df160, 2, none, (0, 0), [])
def pm_J0_checkBoundsBeginEnd_23922 : px_M := (yJ0_checkBoundsBeginEnd_23922, cJ0_checkBoundsBeginEnd_23922, 3, none, (0, 0), [])
def pm_J1_charAt_3b067 : px_M := (yJ1_charAt_3b067, cJ1_charAt_3b067, 2, (some .char), (0, 0), [])
def pm_J1_canEncode_9a6ad : px_M := (yJ1_canEncode_9a6ad, cJ1_canEncode_9a6ad, 1, (some .boolean), (0, 0), [])
def pm_J1_indexOf_4cfef : px_M := (yJ1_indexOf_4cfef, cJ1_indexOf_4cfef, 4, (some .int), (0, 0), [])
def pm_J1_indexOfChar_4cfef : px_M := (yJ1_indexOfChar_4cfef, cJ1_indexOfChar_4cfef, 6, (some .int), (0, 0), [])
def pm_J7_fill_53178 : px_M := (yJ7_fill_53178, cJ7_fill_53178, 4, none, (0, 0), [])
def pm_J7_copyOf_59c91 : px_M := (yJ7_copyOf_59c91, cJ7_copyOf_59c91, 3, (some (.array .int)), (1, 121), [])
def pm_J3_checkIndex_8e157 : px_M := (yJ3_checkIndex_8e157, cJ3_checkIndex_8e157, 3, (some .int), (0, 0), [])
def pm_J3_checkFromToIndex_8c36e : px_M := (yJ3_checkFromToIndex_8c36e, cJ3_checkFromToIndex_8c36e, 4, (some .int), (0, 0), [])
def px_tbl : List px_M := [pm_X0_init, pm_X0_compare, pm_X0_fillRow, pm_X0_firstKind, pm_X1_init, pm_X1_grow, pm_X1_able, pm_X1_gainOf, pm_X2_init, pm_X2_execute, pm_X2_result, pm_X2_turn, pm_X2_valueOf, pm_X2_store, pm_X2_stop, pm_X2_begin, pm_X2_workOut, pm_X2_divide, pm_X2_push, pm_X2_pop, pm_X3_init, pm_X3_parse, pm_X3_wrongByte, pm_X3_block, pm_X3_doing, pm_X3_loop, pm_X3_choice, pm_X3_braced, pm_X3_expression, pm_X3_factor, pm_X3_here, pm_X3_take, pm_X3_emit, pm_X3_aim, pm_X4_init, pm_X4_fewest, pm_X4_spread, pm_X5_init, pm_X5_firstOfCAndD, pm_X5_size, pm_X5_tokenAt, pm_X5_shapeAt, pm_X5_hasShapeOf, pm_X6_init, pm_X6_scan, pm_X6_passBlanks, pm_X6_takeToken, pm_X6_takeWord, pm_X6_takeNumber, pm_X7_init, pm_X7_append, pm_X7_hasLetter, pm_X7_hasDigit, pm_X7_hasWord, pm_X8_init, pm_X8_addWorld, pm_X8_isPassedBy, pm_X8_isOpenTo, pm_X8_learnersPassed, pm_X8_keepPass, pm_X8_hasWayOfShape, pm_X9_init, pm_X9_feed, pm_X9_end, pm_X9_read, pm_X9_fault, pm_X9_run, pm_X9_task, pm_X9_world, pm_X9_attempt, pm_X9_can, pm_X9_passed, pm_X9_next, pm_X9_wish, pm_X9_look, pm_X9_hint, pm_X9_alike, pm_X9_token, pm_X9_count, pm_X9_nearestWay, pm_X9_taskAt, pm_X9_learnerAt, pm_X9_programOnSlate, pm_X9_checkSkill, pm_X9_checkWhat, pm_X9_isSet, pm_X9_variableOf, pm_X9_levelOf, pm_X9_skillOf, pm_X10_init, pm_X10_thrown, pm_X10_throwsIf, pm_X10_in, pm_X10_feed, pm_X10_end, pm_X10_isAt, pm_X10_isWord, pm_X10_isVariable, pm_X10_isSign, pm_X10_next, pm_X10_look, pm_X10_accept, pm_X10_need, pm_X10_opens, pm_X10_closes, pm_X10_readBlock, pm_X10_readBraces, pm_X10_readDo, pm_X10_readExpr, pm_X10_readSum, pm_X10_readTerm, pm_X10_readFactor, pm_X10_read, pm_X10_pairs, pm_X10_fault, pm_X10_token, pm_X10_ends, pm_X10_burns, pm_X10_factor, pm_X10_term, pm_X10_sum, pm_X10_expr, pm_X10_block, pm_X10_braces, pm_X10_does, pm_X10_loops, pm_X10_runs, pm_X10_run, pm_X10_noTask, pm_X10_noLearner, pm_X10_task, pm_X10_world, pm_X10_shaped, pm_X10_isShape, pm_X10_keeps, pm_X10_attempt, pm_X10_can, pm_X10_passed, pm_X10_cans, pm_X10_next_, pm_X10_wish, pm_X10_look_, pm_X10_placeOf, pm_X10_changes, pm_X10_hints, pm_X10_hint, pm_X10_alike, pm_X10_count, pm_L_read, pm_L_run, pm_L_task, pm_L_world, pm_L_attempt, pm_L_can, pm_L_passed, pm_L_next, pm_L_wish, pm_L_look, pm_L_hint, pm_L_alike, pm_L_law, pm_J9_max_7cf53, pm_J9_min_7cf53, pm_J0_length_8abf5, pm_J0_charAt_5068e, pm_J0_indexOf_0f7a4, pm_J0_indexOf_7cf53, pm_J0_coder_7d493, pm_J0_isLatin1_aae02, pm_J0_checkIndex_df160, pm_J0_checkBoundsBeginEnd_23922, pm_J1_charAt_3b067, pm_J1_canEncode_9a6ad, pm_J1_indexOf_4cfef, pm_J1_indexOfChar_4cfef, pm_J7_fill_53178, pm_J7_copyOf_59c91, pm_J3_checkIndex_8e157, pm_J3_checkFromToIndex_8c36e]
def px_tb (k : Nat) : Option px_M := px_tbl[k]?
theorem hw_X0 : ∀ w ∈ u_ws RX0 TX0 3, w ∈ px_big := by
  have h : ((u_ws RX0 TX0 3).all (fun w => decide (w ∈ lw_tbl) && goodWord w)) = true := by decide +kernel
  intro w hw
  have h2 := List.all_eq_true.mp h w hw
  simp only [Bool.and_eq_true, decide_eq_true_eq] at h2
  exact px_big_of h2.1 h2.2
theorem hw_X1 : ∀ w ∈ u_ws RX1 TX1 1, w ∈ px_big := by
  have h : ((u_ws RX1 TX1 1).all (fun w => decide (w ∈ lw_tbl) && goodWord w)) = true := by decide +kernel
  intro w hw
  have h2 := List.all_eq_true.mp h w hw
  simp only [Bool.and_eq_true, decide_eq_true_eq] at h2
  exact px_big_of h2.1 h2.2
theorem hw_X2 : ∀ w ∈ u_ws RX2 TX2 7, w ∈ px_big := by
  have h : ((u_ws RX2 TX2 7).all (fun w => decide (w ∈ lw_tbl) && goodWord w)) = true := by decide +kernel
  intro w hw
  have h2 := List.all_eq_true.mp h w hw
  simp only [Bool.and_eq_true, decide_eq_true_eq] at h2
  exact px_big_of h2.1 h2.2
theorem hw_X3 : ∀ w ∈ u_ws RX3 TX3 5, w ∈ px_big := by
  have h : ((u_ws RX3 TX3 5).all (fun w => decide (w ∈ lw_tbl) && goodWord w)) = true := by decide +kernel
  intro w hw
  have h2 := List.all_eq_true.mp h w hw
  simp only [Bool.and_eq_true, decide_eq_true_eq] at h2
  exact px_big_of h2.1 h2.2
theorem hw_X4 : ∀ w ∈ u_ws RX4 TX4 1, w ∈ px_big := by
  have h : ((u_ws RX4 TX4 1).all (fun w => decide (w ∈ lw_tbl) && goodWord w)) = true := by decide +kernel
  intro w hw
  have h2 := List.all_eq_true.mp h w hw
  simp only [Bool.and_eq_true, decide_eq_true_eq] at h2
  exact px_big_of h2.1 h2.2
theorem hw_X5 : ∀ w ∈ u_ws RX5 TX5 4, w ∈ px_big := by
  have h : ((u_ws RX5 TX5 4).all (fun w => decide (w ∈ lw_tbl) && goodWord w)) = true := by decide +kernel
  intro w hw
  have h2 := List.all_eq_true.mp h w hw
  simp only [Bool.and_eq_true, decide_eq_true_eq] at h2
  exact px_big_of h2.1 h2.2
theorem hw_X6 : ∀ w ∈ u_ws RX6 TX6 4, w ∈ px_big := by
  have h : ((u_ws RX6 TX6 4).all (fun w => decide (w ∈ lw_tbl) && goodWord w)) = true := by decide +kernel
  intro w hw
  have h2 := List.all_eq_true.mp h w hw
  simp only [Bool.and_eq_true, decide_eq_true_eq] at h2
  exact px_big_of h2.1 h2.2
theorem hw_X7 : ∀ w ∈ u_ws RX7 TX7 2, w ∈ px_big := by
  have h : ((u_ws RX7 TX7 2).all (fun w => decide (w ∈ lw_tbl) && goodWord w)) = true := by decide +kernel
  intro w hw
  have h2 := List.all_eq_true.mp h w hw
  simp only [Bool.and_eq_true, decide_eq_true_eq] at h2
  exact px_big_of h2.1 h2.2
theorem hw_X8 : ∀ w ∈ u_ws RX8 TX8 9, w ∈ px_big := by
  have h : ((u_ws RX8 TX8 9).all (fun w => decide (w ∈ lw_tbl) && goodWord w)) = true := by decide +kernel
  intro w hw
  have h2 := List.all_eq_true.mp h w hw
  simp only [Bool.and_eq_true, decide_eq_true_eq] at h2
  exact px_big_of h2.1 h2.2
theorem hw_X9 : ∀ w ∈ u_ws RX9 TX9 13, w ∈ px_big := by
  have h : ((u_ws RX9 TX9 13).all (fun w => decide (w ∈ lw_tbl) && goodWord w)) = true := by decide +kernel
  intro w hw
  have h2 := List.all_eq_true.mp h w hw
  simp only [Bool.and_eq_true, decide_eq_true_eq] at h2
  exact px_big_of h2.1 h2.2
theorem hw_X10 : ∀ w ∈ u_ws RX10 TX10 44, w ∈ px_big := by
  have h : ((u_ws RX10 TX10 44).all (fun w => decide (w ∈ lw_tbl) && goodWord w)) = true := by decide +kernel
  intro w hw
  have h2 := List.all_eq_true.mp h w hw
  simp only [Bool.and_eq_true, decide_eq_true_eq] at h2
  exact px_big_of h2.1 h2.2
theorem cg_X0_init : px_cG pm_X0_init 0 := ⟨(px_big_of (List.mem_append_right _ (List.mem_of_getElem? (i := 133) (by decide +kernel))) rfl), by decide +kernel, by decide +kernel, by decide +kernel, by decide +kernel, (px_big_of (List.mem_append_right _ (List.mem_of_getElem? (i := 6) (by decide +kernel))) rfl)⟩
theorem cg_X0_compare : px_cG pm_X0_compare 2 := ⟨(px_big_of (List.mem_append_right _ (List.mem_of_getElem? (i := 885) (by decide +kernel))) rfl), by decide +kernel, by decide +kernel, by decide +kernel, by decide +kernel, (px_big_of (List.mem_append_right _ (List.mem_of_getElem? (i := 6) (by decide +kernel))) rfl)⟩
theorem cg_X0_fillRow : px_cG pm_X0_fillRow 3 := ⟨(px_big_of (List.mem_append_right _ (List.mem_of_getElem? (i := 890) (by decide +kernel))) rfl), by decide +kernel, by decide +kernel, by decide +kernel, by decide +kernel, (px_big_of (List.mem_append_right _ (List.mem_of_getElem? (i := 6) (by decide +kernel))) rfl)⟩
theorem cg_X0_firstKind : px_cG pm_X0_firstKind 2 := ⟨(px_big_of (List.mem_append_right _ (List.mem_of_getElem? (i := 895) (by decide +kernel))) rfl), by decide +kernel, by decide +kernel, by decide +kernel, by decide +kernel, (px_big_of (List.mem_append_right _ (List.mem_of_getElem? (i := 6) (by decide +kernel))) rfl)⟩
theorem cg_X1_init : px_cG pm_X1_init 0 := ⟨(px_big_of (List.mem_append_right _ (List.mem_of_getElem? (i := 166) (by decide +kernel))) rfl), by decide +kernel, by decide +kernel, by decide +kernel, by decide +kernel, (px_big_of (List.mem_append_right _ (List.mem_of_getElem? (i := 8) (by decide +kernel))) rfl)⟩
theorem cg_X1_grow : px_cG pm_X1_grow 2 := ⟨(px_big_of (List.mem_append_right _ (List.mem_of_getElem? (i := 787) (by decide +kernel))) rfl), by decide +kernel, by decide +kernel, by decide +kernel, by decide +kernel, (px_big_of (List.mem_append_right _ (List.mem_of_getElem? (i := 8) (by decide +kernel))) rfl)⟩
theorem cg_X1_able : px_cG pm_X1_able 0 := ⟨(px_big_of (List.mem_append_right _ (List.mem_of_getElem? (i := 834) (by decide +kernel))) rfl), by decide +kernel, by decide +kernel, by decide +kernel, by decide +kernel, (px_big_of (List.mem_append_right _ (List.mem_of_getElem? (i := 8) (by decide +kernel))) rfl)⟩
theorem cg_X1_gainOf : px_cG pm_X1_gainOf 1 := ⟨(px_big_of (List.mem_append_right _ (List.mem_of_getElem? (i := 842) (by decide +kernel))) rfl), by decide +kernel, by decide +kernel, by decide +kernel, by decide +kernel, (px_big_of (List.mem_append_right _ (List.mem_of_getElem? (i := 8) (by decide +kernel))) rfl)⟩
theorem cg_X2_init : px_cG pm_X2_init 0 := ⟨(px_big_of (List.mem_append_right _ (List.mem_of_getElem? (i := 102) (by decide +kernel))) rfl), by decide +kernel, by decide +kernel, by decide +kernel, by decide +kernel, (px_big_of (List.mem_append_right _ (List.mem_of_getElem? (i := 5) (by decide +kernel))) rfl)⟩
theorem cg_X2_execute : px_cG pm_X2_execute 3 := ⟨(px_big_of (List.mem_append_right _ (List.mem_of_getElem? (i := 618) (by decide +kernel))) rfl), by decide +kernel, by decide +kernel, by decide +kernel, by decide +kernel, (px_big_of (List.mem_append_right _ (List.mem_of_getElem? (i := 5) (by decide +kernel))) rfl)⟩
theorem cg_X2_result : px_cG pm_X2_result 0 := ⟨(px_big_of (List.mem_append_right _ (List.mem_of_getElem? (i := 662) (by decide +kernel))) rfl), by decide +kernel, by decide +kernel, by decide +kernel, by decide +kernel, (px_big_of (List.mem_append_right _ (List.mem_of_getElem? (i := 5) (by decide +kernel))) rfl)⟩
theorem cg_X2_turn : px_cG pm_X2_turn 3 := ⟨(px_big_of (List.mem_append_right _ (List.mem_of_getElem? (i := 626) (by decide +kernel))) rfl), by decide +kernel, by decide +kernel, by decide +kernel, by decide +kernel, (px_big_of (List.mem_append_right _ (List.mem_of_getElem? (i := 5) (by decide +kernel))) rfl)⟩
theorem cg_X2_valueOf : px_cG pm_X2_valueOf 1 := ⟨(px_big_of (List.mem_append_right _ (List.mem_of_getElem? (i := 638) (by decide +kernel))) rfl), by decide +kernel, by decide +kernel, by decide +kernel, by decide +kernel, (px_big_of (List.mem_append_right _ (List.mem_of_getElem? (i := 5) (by decide +kernel))) rfl)⟩
theorem cg_X2_store : px_cG pm_X2_store 2 := ⟨(px_big_of (List.mem_append_right _ (List.mem_of_getElem? (i := 646) (by decide +kernel))) rfl), by decide +kernel, by decide +kernel, by decide +kernel, by decide +kernel, (px_big_of (List.mem_append_right _ (List.mem_of_getElem? (i := 5) (by decide +kernel))) rfl)⟩
theorem cg_X2_stop : px_cG pm_X2_stop 1 := ⟨(px_big_of (List.mem_append_right _ (List.mem_of_getElem? (i := 630) (by decide +kernel))) rfl), by decide +kernel, by decide +kernel, by decide +kernel, by decide +kernel, (px_big_of (List.mem_append_right _ (List.mem_of_getElem? (i := 5) (by decide +kernel))) rfl)⟩
theorem cg_X2_begin : px_cG pm_X2_begin 1 := ⟨(px_big_of (List.mem_append_right _ (List.mem_of_getElem? (i := 650) (by decide +kernel))) rfl), by decide +kernel, by decide +kernel, by decide +kernel, by decide +kernel, (px_big_of (List.mem_append_right _ (List.mem_of_getElem? (i := 5) (by decide +kernel))) rfl)⟩
theorem cg_X2_workOut : px_cG pm_X2_workOut 1 := ⟨(px_big_of (List.mem_append_right _ (List.mem_of_getElem? (i := 654) (by decide +kernel))) rfl), by decide +kernel, by decide +kernel, by decide +kernel, by decide +kernel, (px_big_of (List.mem_append_right _ (List.mem_of_getElem? (i := 5) (by decide +kernel))) rfl)⟩
theorem cg_X2_divide : px_cG pm_X2_divide 3 := ⟨(px_big_of (List.mem_append_right _ (List.mem_of_getElem? (i := 658) (by decide +kernel))) rfl), by decide +kernel, by decide +kernel, by decide +kernel, by decide +kernel, (px_big_of (List.mem_append_right _ (List.mem_of_getElem? (i := 5) (by decide +kernel))) rfl)⟩
theorem cg_X2_push : px_cG pm_X2_push 1 := ⟨(px_big_of (List.mem_append_right _ (List.mem_of_getElem? (i := 634) (by decide +kernel))) rfl), by decide +kernel, by decide +kernel, by decide +kernel, by decide +kernel, (px_big_of (List.mem_append_right _ (List.mem_of_getElem? (i := 5) (by decide +kernel))) rfl)⟩
theorem cg_X2_pop : px_cG pm_X2_pop 0 := ⟨(px_big_of (List.mem_append_right _ (List.mem_of_getElem? (i := 642) (by decide +kernel))) rfl), by decide +kernel, by decide +kernel, by decide +kernel, by decide +kernel, (px_big_of (List.mem_append_right _ (List.mem_of_getElem? (i := 5) (by decide +kernel))) rfl)⟩
theorem cg_X3_init : px_cG pm_X3_init 0 := ⟨(px_big_of (List.mem_append_right _ (List.mem_of_getElem? (i := 57) (by decide +kernel))) rfl), by decide +kernel, by decide +kernel, by decide +kernel, by decide +kernel, (px_big_of (List.mem_append_right _ (List.mem_of_getElem? (i := 3) (by decide +kernel))) rfl)⟩
theorem cg_X3_parse : px_cG pm_X3_parse 1 := ⟨(px_big_of (List.mem_append_right _ (List.mem_of_getElem? (i := 257) (by decide +kernel))) rfl), by decide +kernel, by decide +kernel, by decide +kernel, by decide +kernel, (px_big_of (List.mem_append_right _ (List.mem_of_getElem? (i := 3) (by decide +kernel))) rfl)⟩
theorem cg_X3_wrongByte : px_cG pm_X3_wrongByte 0 := ⟨(px_big_of (List.mem_append_right _ (List.mem_of_getElem? (i := 497) (by decide +kernel))) rfl), by decide +kernel, by decide +kernel, by decide +kernel, by decide +kernel, (px_big_of (List.mem_append_right _ (List.mem_of_getElem? (i := 3) (by decide +kernel))) rfl)⟩
theorem cg_X3_block : px_cG pm_X3_block 2 := ⟨(px_big_of (List.mem_append_right _ (List.mem_of_getElem? (i := 407) (by decide +kernel))) rfl), by decide +kernel, by decide +kernel, by decide +kernel, by decide +kernel, (px_big_of (List.mem_append_right _ (List.mem_of_getElem? (i := 3) (by decide +kernel))) rfl)⟩
theorem cg_X3_doing : px_cG pm_X3_doing 2 := ⟨(px_big_of (List.mem_append_right _ (List.mem_of_getElem? (i := 411) (by decide +kernel))) rfl), by decide +kernel, by decide +kernel, by decide +kernel, by decide +kernel, (px_big_of (List.mem_append_right _ (List.mem_of_getElem? (i := 3) (by decide +kernel))) rfl)⟩
theorem cg_X3_loop : px_cG pm_X3_loop 2 := ⟨(px_big_of (List.mem_append_right _ (List.mem_of_getElem? (i := 442) (by decide +kernel))) rfl), by decide +kernel, by decide +kernel, by decide +kernel, by decide +kernel, (px_big_of (List.mem_append_right _ (List.mem_of_getElem? (i := 3) (by decide +kernel))) rfl)⟩
theorem cg_X3_choice : px_cG pm_X3_choice 2 := ⟨(px_big_of (List.mem_append_right _ (List.mem_of_getElem? (i := 454) (by decide +kernel))) rfl), by decide +kernel, by decide +kernel, by decide +kernel, by decide +kernel, (px_big_of (List.mem_append_right _ (List.mem_of_getElem? (i := 3) (by decide +kernel))) rfl)⟩
theorem cg_X3_braced : px_cG pm_X3_braced 2 := ⟨(px_big_of (List.mem_append_right _ (List.mem_of_getElem? (i := 446) (by decide +kernel))) rfl), by decide +kernel, by decide +kernel, by decide +kernel, by decide +kernel, (px_big_of (List.mem_append_right _ (List.mem_of_getElem? (i := 3) (by decide +kernel))) rfl)⟩
theorem cg_X3_expression : px_cG pm_X3_expression 2 := ⟨(px_big_of (List.mem_append_right _ (List.mem_of_getElem? (i := 428) (by decide +kernel))) rfl), by decide +kernel, by decide +kernel, by decide +kernel, by decide +kernel, (px_big_of (List.mem_append_right _ (List.mem_of_getElem? (i := 3) (by decide +kernel))) rfl)⟩
theorem cg_X3_factor : px_cG pm_X3_factor 1 := ⟨(px_big_of (List.mem_append_right _ (List.mem_of_getElem? (i := 432) (by decide +kernel))) rfl), by decide +kernel, by decide +kernel, by decide +kernel, by decide +kernel, (px_big_of (List.mem_append_right _ (List.mem_of_getElem? (i := 3) (by decide +kernel))) rfl)⟩
theorem cg_X3_here : px_cG pm_X3_here 0 := ⟨(px_big_of (List.mem_append_right _ (List.mem_of_getElem? (i := 415) (by decide +kernel))) rfl), by decide +kernel, by decide +kernel, by decide +kernel, by decide +kernel, (px_big_of (List.mem_append_right _ (List.mem_of_getElem? (i := 3) (by decide +kernel))) rfl)⟩
theorem cg_X3_take : px_cG pm_X3_take 1 := ⟨(px_big_of (List.mem_append_right _ (List.mem_of_getElem? (i := 424) (by decide +kernel))) rfl), by decide +kernel, by decide +kernel, by decide +kernel, by decide +kernel, (px_big_of (List.mem_append_right _ (List.mem_of_getElem? (i := 3) (by decide +kernel))) rfl)⟩
theorem cg_X3_emit : px_cG pm_X3_emit 2 := ⟨(px_big_of (List.mem_append_right _ (List.mem_of_getElem? (i := 420) (by decide +kernel))) rfl), by decide +kernel, by decide +kernel, by decide +kernel, by decide +kernel, (px_big_of (List.mem_append_right _ (List.mem_of_getElem? (i := 3) (by decide +kernel))) rfl)⟩
theorem cg_X3_aim : px_cG pm_X3_aim 1 := ⟨(px_big_of (List.mem_append_right _ (List.mem_of_getElem? (i := 450) (by decide +kernel))) rfl), by decide +kernel, by decide +kernel, by decide +kernel, by decide +kernel, (px_big_of (List.mem_append_right _ (List.mem_of_getElem? (i := 3) (by decide +kernel))) rfl)⟩
theorem cg_X4_init : px_cG pm_X4_init 0 := ⟨(px_big_of (List.mem_append_right _ (List.mem_of_getElem? (i := 153) (by decide +kernel))) rfl), by decide +kernel, by decide +kernel, by decide +kernel, by decide +kernel, (px_big_of (List.mem_append_right _ (List.mem_of_getElem? (i := 7) (by decide +kernel))) rfl)⟩
theorem cg_X4_fewest : px_cG pm_X4_fewest 4 := ⟨(px_big_of (List.mem_append_right _ (List.mem_of_getElem? (i := 853) (by decide +kernel))) rfl), by decide +kernel, by decide +kernel, by decide +kernel, by decide +kernel, (px_big_of (List.mem_append_right _ (List.mem_of_getElem? (i := 7) (by decide +kernel))) rfl)⟩
theorem cg_X4_spread : px_cG pm_X4_spread 3 := ⟨(px_big_of (List.mem_append_right _ (List.mem_of_getElem? (i := 858) (by decide +kernel))) rfl), by decide +kernel, by decide +kernel, by decide +kernel, by decide +kernel, (px_big_of (List.mem_append_right _ (List.mem_of_getElem? (i := 7) (by decide +kernel))) rfl)⟩
theorem cg_X5_init : px_cG pm_X5_init 4 := ⟨(px_big_of (List.mem_append_right _ (List.mem_of_getElem? (i := 458) (by decide +kernel))) rfl), by decide +kernel, by decide +kernel, by decide +kernel, by decide +kernel, (px_big_of (List.mem_append_right _ (List.mem_of_getElem? (i := 16) (by decide +kernel))) rfl)⟩
theorem cg_X5_firstOfCAndD : px_cG pm_X5_firstOfCAndD 1 := ⟨(px_big_of (List.mem_append_right _ (List.mem_of_getElem? (i := 476) (by decide +kernel))) rfl), by decide +kernel, by decide +kernel, by decide +kernel, by decide +kernel, (px_big_of (List.mem_append_right _ (List.mem_of_getElem? (i := 16) (by decide +kernel))) rfl)⟩
theorem cg_X5_size : px_cG pm_X5_size 0 := ⟨(px_big_of (List.mem_append_right _ (List.mem_of_getElem? (i := 245) (by decide +kernel))) rfl), by decide +kernel, by decide +kernel, by decide +kernel, by decide +kernel, (px_big_of (List.mem_append_right _ (List.mem_of_getElem? (i := 16) (by decide +kernel))) rfl)⟩
theorem cg_X5_tokenAt : px_cG pm_X5_tokenAt 1 := ⟨(px_big_of (List.mem_append_right _ (List.mem_of_getElem? (i := 237) (by decide +kernel))) rfl), by decide +kernel, by decide +kernel, by decide +kernel, by decide +kernel, (px_big_of (List.mem_append_right _ (List.mem_of_getElem? (i := 16) (by decide +kernel))) rfl)⟩
theorem cg_X5_shapeAt : px_cG pm_X5_shapeAt 1 := ⟨(px_big_of (List.mem_append_right _ (List.mem_of_getElem? (i := 804) (by decide +kernel))) rfl), by decide +kernel, by decide +kernel, by decide +kernel, by decide +kernel, (px_big_of (List.mem_append_right _ (List.mem_of_getElem? (i := 16) (by decide +kernel))) rfl)⟩
theorem cg_X5_hasShapeOf : px_cG pm_X5_hasShapeOf 1 := ⟨(px_big_of (List.mem_append_right _ (List.mem_of_getElem? (i := 800) (by decide +kernel))) rfl), by decide +kernel, by decide +kernel, by decide +kernel, by decide +kernel, (px_big_of (List.mem_append_right _ (List.mem_of_getElem? (i := 16) (by decide +kernel))) rfl)⟩
theorem cg_X6_init : px_cG pm_X6_init 0 := ⟨(px_big_of (List.mem_append_right _ (List.mem_of_getElem? (i := 63) (by decide +kernel))) rfl), by decide +kernel, by decide +kernel, by decide +kernel, by decide +kernel, (px_big_of (List.mem_append_right _ (List.mem_of_getElem? (i := 4) (by decide +kernel))) rfl)⟩
theorem cg_X6_scan : px_cG pm_X6_scan 1 := ⟨(px_big_of (List.mem_append_right _ (List.mem_of_getElem? (i := 261) (by decide +kernel))) rfl), by decide +kernel, by decide +kernel, by decide +kernel, by decide +kernel, (px_big_of (List.mem_append_right _ (List.mem_of_getElem? (i := 4) (by decide +kernel))) rfl)⟩
theorem cg_X6_passBlanks : px_cG pm_X6_passBlanks 1 := ⟨(px_big_of (List.mem_append_right _ (List.mem_of_getElem? (i := 265) (by decide +kernel))) rfl), by decide +kernel, by decide +kernel, by decide +kernel, by decide +kernel, (px_big_of (List.mem_append_right _ (List.mem_of_getElem? (i := 4) (by decide +kernel))) rfl)⟩
theorem cg_X6_takeToken : px_cG pm_X6_takeToken 1 := ⟨(px_big_of (List.mem_append_right _ (List.mem_of_getElem? (i := 269) (by decide +kernel))) rfl), by decide +kernel, by decide +kernel, by decide +kernel, by decide +kernel, (px_big_of (List.mem_append_right _ (List.mem_of_getElem? (i := 4) (by decide +kernel))) rfl)⟩
theorem cg_X6_takeWord : px_cG pm_X6_takeWord 1 := ⟨(px_big_of (List.mem_append_right _ (List.mem_of_getElem? (i := 277) (by decide +kernel))) rfl), by decide +kernel, by decide +kernel, by decide +kernel, by decide +kernel, (px_big_of (List.mem_append_right _ (List.mem_of_getElem? (i := 4) (by decide +kernel))) rfl)⟩
theorem cg_X6_takeNumber : px_cG pm_X6_takeNumber 1 := ⟨(px_big_of (List.mem_append_right _ (List.mem_of_getElem? (i := 343) (by decide +kernel))) rfl), by decide +kernel, by decide +kernel, by decide +kernel, by decide +kernel, (px_big_of (List.mem_append_right _ (List.mem_of_getElem? (i := 4) (by decide +kernel))) rfl)⟩
theorem cg_X7_init : px_cG pm_X7_init 0 := ⟨(px_big_of (List.mem_append_right _ (List.mem_of_getElem? (i := 40) (by decide +kernel))) rfl), by decide +kernel, by decide +kernel, by decide +kernel, by decide +kernel, (px_big_of (List.mem_append_right _ (List.mem_of_getElem? (i := 2) (by decide +kernel))) rfl)⟩
theorem cg_X7_append : px_cG pm_X7_append 1 := ⟨(px_big_of (List.mem_append_right _ (List.mem_of_getElem? (i := 220) (by decide +kernel))) rfl), by decide +kernel, by decide +kernel, by decide +kernel, by decide +kernel, (px_big_of (List.mem_append_right _ (List.mem_of_getElem? (i := 2) (by decide +kernel))) rfl)⟩
theorem cg_X7_hasLetter : px_cG pm_X7_hasLetter 1 := ⟨(px_big_of (List.mem_append_right _ (List.mem_of_getElem? (i := 273) (by decide +kernel))) rfl), by decide +kernel, by decide +kernel, by decide +kernel, by decide +kernel, (px_big_of (List.mem_append_right _ (List.mem_of_getElem? (i := 2) (by decide +kernel))) rfl)⟩
theorem cg_X7_hasDigit : px_cG pm_X7_hasDigit 1 := ⟨(px_big_of (List.mem_append_right _ (List.mem_of_getElem? (i := 339) (by decide +kernel))) rfl), by decide +kernel, by decide +kernel, by decide +kernel, by decide +kernel, (px_big_of (List.mem_append_right _ (List.mem_of_getElem? (i := 2) (by decide +kernel))) rfl)⟩
theorem cg_X7_hasWord : px_cG pm_X7_hasWord 3 := ⟨(px_big_of (List.mem_append_right _ (List.mem_of_getElem? (i := 285) (by decide +kernel))) rfl), by decide +kernel, by decide +kernel, by decide +kernel, by decide +kernel, (px_big_of (List.mem_append_right _ (List.mem_of_getElem? (i := 2) (by decide +kernel))) rfl)⟩
theorem cg_X8_init : px_cG pm_X8_init 2 := ⟨(px_big_of (List.mem_append_right _ (List.mem_of_getElem? (i := 694) (by decide +kernel))) rfl), by decide +kernel, by decide +kernel, by decide +kernel, by decide +kernel, (px_big_of (List.mem_append_right _ (List.mem_of_getElem? (i := 26) (by decide +kernel))) rfl)⟩
theorem cg_X8_addWorld : px_cG pm_X8_addWorld 3 := ⟨(px_big_of (List.mem_append_right _ (List.mem_of_getElem? (i := 767) (by decide +kernel))) rfl), by decide +kernel, by decide +kernel, by decide +kernel, by decide +kernel, (px_big_of (List.mem_append_right _ (List.mem_of_getElem? (i := 26) (by decide +kernel))) rfl)⟩
theorem cg_X8_isPassedBy : px_cG pm_X8_isPassedBy 1 := ⟨(px_big_of (List.mem_append_right _ (List.mem_of_getElem? (i := 783) (by decide +kernel))) rfl), by decide +kernel, by decide +kernel, by decide +kernel, by decide +kernel, (px_big_of (List.mem_append_right _ (List.mem_of_getElem? (i := 26) (by decide +kernel))) rfl)⟩
theorem cg_X8_isOpenTo : px_cG pm_X8_isOpenTo 1 := ⟨(px_big_of (List.mem_append_right _ (List.mem_of_getElem? (i := 838) (by decide +kernel))) rfl), by decide +kernel, by decide +kernel, by decide +kernel, by decide +kernel, (px_big_of (List.mem_append_right _ (List.mem_of_getElem? (i := 26) (by decide +kernel))) rfl)⟩
theorem cg_X8_learnersPassed : px_cG pm_X8_learnersPassed 0 := ⟨(px_big_of (List.mem_append_right _ (List.mem_of_getElem? (i := 870) (by decide +kernel))) rfl), by decide +kernel, by decide +kernel, by decide +kernel, by decide +kernel, (px_big_of (List.mem_append_right _ (List.mem_of_getElem? (i := 26) (by decide +kernel))) rfl)⟩
theorem cg_X8_keepPass : px_cG pm_X8_keepPass 2 := ⟨(px_big_of (List.mem_append_right _ (List.mem_of_getElem? (i := 792) (by decide +kernel))) rfl), by decide +kernel, by decide +kernel, by decide +kernel, by decide +kernel, (px_big_of (List.mem_append_right _ (List.mem_of_getElem? (i := 26) (by decide +kernel))) rfl)⟩
theorem cg_X8_hasWayOfShape : px_cG pm_X8_hasWayOfShape 1 := ⟨(px_big_of (List.mem_append_right _ (List.mem_of_getElem? (i := 796) (by decide +kernel))) rfl), by decide +kernel, by decide +kernel, by decide +kernel, by decide +kernel, (px_big_of (List.mem_append_right _ (List.mem_of_getElem? (i := 26) (by decide +kernel))) rfl)⟩
theorem cg_X9_init : px_cG pm_X9_init 0 := ⟨(px_big_of (List.mem_append_right _ (List.mem_of_getElem? (i := 32) (by decide +kernel))) rfl), by decide +kernel, by decide +kernel, by decide +kernel, by decide +kernel, (px_big_of (List.mem_append_right _ (List.mem_of_getElem? (i := 1) (by decide +kernel))) rfl)⟩
theorem cg_X9_feed : px_cG pm_X9_feed 5 := ⟨(px_big_of (List.mem_append_right _ (List.mem_of_getElem? (i := 216) (by decide +kernel))) rfl), by decide +kernel, by decide +kernel, by decide +kernel, by decide +kernel, (px_big_of (List.mem_append_right _ (List.mem_of_getElem? (i := 1) (by decide +kernel))) rfl)⟩
theorem cg_X9_end : px_cG pm_X9_end 1 := ⟨(px_big_of (List.mem_append_right _ (List.mem_of_getElem? (i := 224) (by decide +kernel))) rfl), by decide +kernel, by decide +kernel, by decide +kernel, by decide +kernel, (px_big_of (List.mem_append_right _ (List.mem_of_getElem? (i := 1) (by decide +kernel))) rfl)⟩
theorem cg_X9_read : px_cG pm_X9_read 0 := ⟨(px_big_of (List.mem_append_right _ (List.mem_of_getElem? (i := 253) (by decide +kernel))) rfl), by decide +kernel, by decide +kernel, by decide +kernel, by decide +kernel, (px_big_of (List.mem_append_right _ (List.mem_of_getElem? (i := 1) (by decide +kernel))) rfl)⟩
theorem cg_X9_fault : px_cG pm_X9_fault 0 := ⟨(px_big_of (List.mem_append_right _ (List.mem_of_getElem? (i := 228) (by decide +kernel))) rfl), by decide +kernel, by decide +kernel, by decide +kernel, by decide +kernel, (px_big_of (List.mem_append_right _ (List.mem_of_getElem? (i := 1) (by decide +kernel))) rfl)⟩
theorem cg_X9_run : px_cG pm_X9_run 3 := ⟨(px_big_of (List.mem_append_right _ (List.mem_of_getElem? (i := 575) (by decide +kernel))) rfl), by decide +kernel, by decide +kernel, by decide +kernel, by decide +kernel, (px_big_of (List.mem_append_right _ (List.mem_of_getElem? (i := 1) (by decide +kernel))) rfl)⟩
theorem cg_X9_task : px_cG pm_X9_task 2 := ⟨(px_big_of (List.mem_append_right _ (List.mem_of_getElem? (i := 670) (by decide +kernel))) rfl), by decide +kernel, by decide +kernel, by decide +kernel, by decide +kernel, (px_big_of (List.mem_append_right _ (List.mem_of_getElem? (i := 1) (by decide +kernel))) rfl)⟩
theorem cg_X9_world : px_cG pm_X9_world 4 := ⟨(px_big_of (List.mem_append_right _ (List.mem_of_getElem? (i := 743) (by decide +kernel))) rfl), by decide +kernel, by decide +kernel, by decide +kernel, by decide +kernel, (px_big_of (List.mem_append_right _ (List.mem_of_getElem? (i := 1) (by decide +kernel))) rfl)⟩
theorem cg_X9_attempt : px_cG pm_X9_attempt 3 := ⟨(px_big_of (List.mem_append_right _ (List.mem_of_getElem? (i := 774) (by decide +kernel))) rfl), by decide +kernel, by decide +kernel, by decide +kernel, by decide +kernel, (px_big_of (List.mem_append_right _ (List.mem_of_getElem? (i := 1) (by decide +kernel))) rfl)⟩
theorem cg_X9_can : px_cG pm_X9_can 2 := ⟨(px_big_of (List.mem_append_right _ (List.mem_of_getElem? (i := 812) (by decide +kernel))) rfl), by decide +kernel, by decide +kernel, by decide +kernel, by decide +kernel, (px_big_of (List.mem_append_right _ (List.mem_of_getElem? (i := 1) (by decide +kernel))) rfl)⟩
theorem cg_X9_passed : px_cG pm_X9_passed 2 := ⟨(px_big_of (List.mem_append_right _ (List.mem_of_getElem? (i := 823) (by decide +kernel))) rfl), by decide +kernel, by decide +kernel, by decide +kernel, by decide +kernel, (px_big_of (List.mem_append_right _ (List.mem_of_getElem? (i := 1) (by decide +kernel))) rfl)⟩
theorem cg_X9_next : px_cG pm_X9_next 1 := ⟨(px_big_of (List.mem_append_right _ (List.mem_of_getElem? (i := 830) (by decide +kernel))) rfl), by decide +kernel, by decide +kernel, by decide +kernel, by decide +kernel, (px_big_of (List.mem_append_right _ (List.mem_of_getElem? (i := 1) (by decide +kernel))) rfl)⟩
theorem cg_X9_wish : px_cG pm_X9_wish 2 := ⟨(px_big_of (List.mem_append_right _ (List.mem_of_getElem? (i := 849) (by decide +kernel))) rfl), by decide +kernel, by decide +kernel, by decide +kernel, by decide +kernel, (px_big_of (List.mem_append_right _ (List.mem_of_getElem? (i := 1) (by decide +kernel))) rfl)⟩
theorem cg_X9_look : px_cG pm_X9_look 2 := ⟨(px_big_of (List.mem_append_right _ (List.mem_of_getElem? (i := 866) (by decide +kernel))) rfl), by decide +kernel, by decide +kernel, by decide +kernel, by decide +kernel, (px_big_of (List.mem_append_right _ (List.mem_of_getElem? (i := 1) (by decide +kernel))) rfl)⟩
theorem cg_X9_hint : px_cG pm_X9_hint 2 := ⟨(px_big_of (List.mem_append_right _ (List.mem_of_getElem? (i := 877) (by decide +kernel))) rfl), by decide +kernel, by decide +kernel, by decide +kernel, by decide +kernel, (px_big_of (List.mem_append_right _ (List.mem_of_getElem? (i := 1) (by decide +kernel))) rfl)⟩
theorem cg_X9_alike : px_cG pm_X9_alike 4 := ⟨(px_big_of (List.mem_append_right _ (List.mem_of_getElem? (i := 902) (by decide +kernel))) rfl), by decide +kernel, by decide +kernel, by decide +kernel, by decide +kernel, (px_big_of (List.mem_append_right _ (List.mem_of_getElem? (i := 1) (by decide +kernel))) rfl)⟩
theorem cg_X9_token : px_cG pm_X9_token 1 := ⟨(px_big_of (List.mem_append_right _ (List.mem_of_getElem? (i := 232) (by decide +kernel))) rfl), by decide +kernel, by decide +kernel, by decide +kernel, by decide +kernel, (px_big_of (List.mem_append_right _ (List.mem_of_getElem? (i := 1) (by decide +kernel))) rfl)⟩
theorem cg_X9_count : px_cG pm_X9_count 1 := ⟨(px_big_of (List.mem_append_right _ (List.mem_of_getElem? (i := 241) (by decide +kernel))) rfl), by decide +kernel, by decide +kernel, by decide +kernel, by decide +kernel, (px_big_of (List.mem_append_right _ (List.mem_of_getElem? (i := 1) (by decide +kernel))) rfl)⟩
theorem cg_X9_nearestWay : px_cG pm_X9_nearestWay 2 := ⟨(px_big_of (List.mem_append_right _ (List.mem_of_getElem? (i := 881) (by decide +kernel))) rfl), by decide +kernel, by decide +kernel, by decide +kernel, by decide +kernel, (px_big_of (List.mem_append_right _ (List.mem_of_getElem? (i := 1) (by decide +kernel))) rfl)⟩
theorem cg_X9_taskAt : px_cG pm_X9_taskAt 1 := ⟨(px_big_of (List.mem_append_right _ (List.mem_of_getElem? (i := 747) (by decide +kernel))) rfl), by decide +kernel, by decide +kernel, by decide +kernel, by decide +kernel, (px_big_of (List.mem_append_right _ (List.mem_of_getElem? (i := 1) (by decide +kernel))) rfl)⟩
theorem cg_X9_learnerAt : px_cG pm_X9_learnerAt 1 := ⟨(px_big_of (List.mem_append_right _ (List.mem_of_getElem? (i := 778) (by decide +kernel))) rfl), by decide +kernel, by decide +kernel, by decide +kernel, by decide +kernel, (px_big_of (List.mem_append_right _ (List.mem_of_getElem? (i := 1) (by decide +kernel))) rfl)⟩
theorem cg_X9_programOnSlate : px_cG pm_X9_programOnSlate 0 := ⟨(px_big_of (List.mem_append_right _ (List.mem_of_getElem? (i := 579) (by decide +kernel))) rfl), by decide +kernel, by decide +kernel, by decide +kernel, by decide +kernel, (px_big_of (List.mem_append_right _ (List.mem_of_getElem? (i := 1) (by decide +kernel))) rfl)⟩
theorem cg_X9_checkSkill : px_cG pm_X9_checkSkill 1 := ⟨(px_big_of (List.mem_append_right _ (List.mem_of_getElem? (i := 815) (by decide +kernel))) rfl), by decide +kernel, by decide +kernel, by decide +kernel, by decide +kernel, (px_big_of (List.mem_append_right _ (List.mem_of_getElem? (i := 1) (by decide +kernel))) rfl)⟩
theorem cg_X9_checkWhat : px_cG pm_X9_checkWhat 2 := ⟨(px_big_of (List.mem_append_right _ (List.mem_of_getElem? (i := 598) (by decide +kernel))) rfl), by decide +kernel, by decide +kernel, by decide +kernel, by decide +kernel, (px_big_of (List.mem_append_right _ (List.mem_of_getElem? (i := 1) (by decide +kernel))) rfl)⟩
theorem cg_X9_isSet : px_cG pm_X9_isSet 1 := ⟨(px_big_of (List.mem_append_right _ (List.mem_of_getElem? (i := 673) (by decide +kernel))) rfl), by decide +kernel, by decide +kernel, by decide +kernel, by decide +kernel, (px_big_of (List.mem_append_right _ (List.mem_of_getElem? (i := 1) (by decide +kernel))) rfl)⟩
theorem cg_X9_variableOf : px_cG pm_X9_variableOf 1 := ⟨(px_big_of (List.mem_append_right _ (List.mem_of_getElem? (i := 280) (by decide +kernel))) rfl), by decide +kernel, by decide +kernel, by decide +kernel, by decide +kernel, (px_big_of (List.mem_append_right _ (List.mem_of_getElem? (i := 1) (by decide +kernel))) rfl)⟩
theorem cg_X9_levelOf : px_cG pm_X9_levelOf 1 := ⟨(px_big_of (List.mem_append_right _ (List.mem_of_getElem? (i := 435) (by decide +kernel))) rfl), by decide +kernel, by decide +kernel, by decide +kernel, by decide +kernel, (px_big_of (List.mem_append_right _ (List.mem_of_getElem? (i := 1) (by decide +kernel))) rfl)⟩
theorem cg_X9_skillOf : px_cG pm_X9_skillOf 1 := ⟨(px_big_of (List.mem_append_right _ (List.mem_of_getElem? (i := 438) (by decide +kernel))) rfl), by decide +kernel, by decide +kernel, by decide +kernel, by decide +kernel, (px_big_of (List.mem_append_right _ (List.mem_of_getElem? (i := 1) (by decide +kernel))) rfl)⟩
theorem cg_X10_init : px_cG pm_X10_init 0 := ⟨(px_big_of (List.mem_append_right _ (List.mem_of_getElem? (i := 908) (by decide +kernel))) rfl), by decide +kernel, by decide +kernel, by decide +kernel, by decide +kernel, (px_big_of (List.mem_append_right _ (List.mem_of_getElem? (i := 9) (by decide +kernel))) rfl)⟩
theorem cg_X10_thrown : px_cG pm_X10_thrown 0 := ⟨(px_big_of (List.mem_append_right _ (List.mem_of_getElem? (i := 1047) (by decide +kernel))) rfl), by decide +kernel, by decide +kernel, by decide +kernel, by decide +kernel, (px_big_of (List.mem_append_right _ (List.mem_of_getElem? (i := 9) (by decide +kernel))) rfl)⟩
theorem cg_X10_throwsIf : px_cG pm_X10_throwsIf 2 := ⟨(px_big_of (List.mem_append_right _ (List.mem_of_getElem? (i := 1137) (by decide +kernel))) rfl), by decide +kernel, by decide +kernel, by decide +kernel, by decide +kernel, (px_big_of (List.mem_append_right _ (List.mem_of_getElem? (i := 9) (by decide +kernel))) rfl)⟩
theorem cg_X10_in : px_cG pm_X10_in 3 := ⟨(px_big_of (List.mem_append_right _ (List.mem_of_getElem? (i := 1077) (by decide +kernel))) rfl), by decide +kernel, by decide +kernel, by decide +kernel, by decide +kernel, (px_big_of (List.mem_append_right _ (List.mem_of_getElem? (i := 9) (by decide +kernel))) rfl)⟩
theorem cg_X10_feed : px_cG pm_X10_feed 5 := ⟨(px_big_of (List.mem_append_right _ (List.mem_of_getElem? (i := 1051) (by decide +kernel))) rfl), by decide +kernel, by decide +kernel, by decide +kernel, by decide +kernel, (px_big_of (List.mem_append_right _ (List.mem_of_getElem? (i := 9) (by decide +kernel))) rfl)⟩
theorem cg_X10_end : px_cG pm_X10_end 1 := ⟨(px_big_of (List.mem_append_right _ (List.mem_of_getElem? (i := 1055) (by decide +kernel))) rfl), by decide +kernel, by decide +kernel, by decide +kernel, by decide +kernel, (px_big_of (List.mem_append_right _ (List.mem_of_getElem? (i := 9) (by decide +kernel))) rfl)⟩
theorem cg_X10_isAt : px_cG pm_X10_isAt 3 := ⟨(px_big_of (List.mem_append_right _ (List.mem_of_getElem? (i := 1071) (by decide +kernel))) rfl), by decide +kernel, by decide +kernel, by decide +kernel, by decide +kernel, (px_big_of (List.mem_append_right _ (List.mem_of_getElem? (i := 9) (by decide +kernel))) rfl)⟩
theorem cg_X10_isWord : px_cG pm_X10_isWord 1 := ⟨(px_big_of (List.mem_append_right _ (List.mem_of_getElem? (i := 1082) (by decide +kernel))) rfl), by decide +kernel, by decide +kernel, by decide +kernel, by decide +kernel, (px_big_of (List.mem_append_right _ (List.mem_of_getElem? (i := 9) (by decide +kernel))) rfl)⟩
theorem cg_X10_isVariable : px_cG pm_X10_isVariable 1 := ⟨(px_big_of (List.mem_append_right _ (List.mem_of_getElem? (i := 1074) (by decide +kernel))) rfl), by decide +kernel, by decide +kernel, by decide +kernel, by decide +kernel, (px_big_of (List.mem_append_right _ (List.mem_of_getElem? (i := 9) (by decide +kernel))) rfl)⟩
theorem cg_X10_isSign : px_cG pm_X10_isSign 1 := ⟨(px_big_of (List.mem_append_right _ (List.mem_of_getElem? (i := 1089) (by decide +kernel))) rfl), by decide +kernel, by decide +kernel, by decide +kernel, by decide +kernel, (px_big_of (List.mem_append_right _ (List.mem_of_getElem? (i := 9) (by decide +kernel))) rfl)⟩
theorem cg_X10_next : px_cG pm_X10_next 0 := ⟨(px_big_of (List.mem_append_right _ (List.mem_of_getElem? (i := 1067) (by decide +kernel))) rfl), by decide +kernel, by decide +kernel, by decide +kernel, by decide +kernel, (px_big_of (List.mem_append_right _ (List.mem_of_getElem? (i := 9) (by decide +kernel))) rfl)⟩
theorem cg_X10_look : px_cG pm_X10_look 0 := ⟨(px_big_of (List.mem_append_right _ (List.mem_of_getElem? (i := 1063) (by decide +kernel))) rfl), by decide +kernel, by decide +kernel, by decide +kernel, by decide +kernel, (px_big_of (List.mem_append_right _ (List.mem_of_getElem? (i := 9) (by decide +kernel))) rfl)⟩
theorem cg_X10_accept : px_cG pm_X10_accept 0 := ⟨(px_big_of (List.mem_append_right _ (List.mem_of_getElem? (i := 1101) (by decide +kernel))) rfl), by decide +kernel, by decide +kernel, by decide +kernel, by decide +kernel, (px_big_of (List.mem_append_right _ (List.mem_of_getElem? (i := 9) (by decide +kernel))) rfl)⟩
theorem cg_X10_need : px_cG pm_X10_need 1 := ⟨(px_big_of (List.mem_append_right _ (List.mem_of_getElem? (i := 1105) (by decide +kernel))) rfl), by decide +kernel, by decide +kernel, by decide +kernel, by decide +kernel, (px_big_of (List.mem_append_right _ (List.mem_of_getElem? (i := 9) (by decide +kernel))) rfl)⟩
theorem cg_X10_opens : px_cG pm_X10_opens 1 := ⟨(px_big_of (List.mem_append_right _ (List.mem_of_getElem? (i := 1125) (by decide +kernel))) rfl), by decide +kernel, by decide +kernel, by decide +kernel, by decide +kernel, (px_big_of (List.mem_append_right _ (List.mem_of_getElem? (i := 9) (by decide +kernel))) rfl)⟩
theorem cg_X10_closes : px_cG pm_X10_closes 1 := ⟨(px_big_of (List.mem_append_right _ (List.mem_of_getElem? (i := 1129) (by decide +kernel))) rfl), by decide +kernel, by decide +kernel, by decide +kernel, by decide +kernel, (px_big_of (List.mem_append_right _ (List.mem_of_getElem? (i := 9) (by decide +kernel))) rfl)⟩
theorem cg_X10_readBlock : px_cG pm_X10_readBlock 0 := ⟨(px_big_of (List.mem_append_right _ (List.mem_of_getElem? (i := 1093) (by decide +kernel))) rfl), by decide +kernel, by decide +kernel, by decide +kernel, by decide +kernel, (px_big_of (List.mem_append_right _ (List.mem_of_getElem? (i := 9) (by decide +kernel))) rfl)⟩
theorem cg_X10_readBraces : px_cG pm_X10_readBraces 0 := ⟨(px_big_of (List.mem_append_right _ (List.mem_of_getElem? (i := 1133) (by decide +kernel))) rfl), by decide +kernel, by decide +kernel, by decide +kernel, by decide +kernel, (px_big_of (List.mem_append_right _ (List.mem_of_getElem? (i := 9) (by decide +kernel))) rfl)⟩
theorem cg_X10_readDo : px_cG pm_X10_readDo 0 := ⟨(px_big_of (List.mem_append_right _ (List.mem_of_getElem? (i := 1097) (by decide +kernel))) rfl), by decide +kernel, by decide +kernel, by decide +kernel, by decide +kernel, (px_big_of (List.mem_append_right _ (List.mem_of_getElem? (i := 9) (by decide +kernel))) rfl)⟩
theorem cg_X10_readExpr : px_cG pm_X10_readExpr 0 := ⟨(px_big_of (List.mem_append_right _ (List.mem_of_getElem? (i := 1109) (by decide +kernel))) rfl), by decide +kernel, by decide +kernel, by decide +kernel, by decide +kernel, (px_big_of (List.mem_append_right _ (List.mem_of_getElem? (i := 9) (by decide +kernel))) rfl)⟩
theorem cg_X10_readSum : px_cG pm_X10_readSum 0 := ⟨(px_big_of (List.mem_append_right _ (List.mem_of_getElem? (i := 1113) (by decide +kernel))) rfl), by decide +kernel, by decide +kernel, by decide +kernel, by decide +kernel, (px_big_of (List.mem_append_right _ (List.mem_of_getElem? (i := 9) (by decide +kernel))) rfl)⟩
theorem cg_X10_readTerm : px_cG pm_X10_readTerm 0 := ⟨(px_big_of (List.mem_append_right _ (List.mem_of_getElem? (i := 1117) (by decide +kernel))) rfl), by decide +kernel, by decide +kernel, by decide +kernel, by decide +kernel, (px_big_of (List.mem_append_right _ (List.mem_of_getElem? (i := 9) (by decide +kernel))) rfl)⟩
theorem cg_X10_readFactor : px_cG pm_X10_readFactor 0 := ⟨(px_big_of (List.mem_append_right _ (List.mem_of_getElem? (i := 1121) (by decide +kernel))) rfl), by decide +kernel, by decide +kernel, by decide +kernel, by decide +kernel, (px_big_of (List.mem_append_right _ (List.mem_of_getElem? (i := 9) (by decide +kernel))) rfl)⟩
theorem cg_X10_read : px_cG pm_X10_read 0 := ⟨(px_big_of (List.mem_append_right _ (List.mem_of_getElem? (i := 1059) (by decide +kernel))) rfl), by decide +kernel, by decide +kernel, by decide +kernel, by decide +kernel, (px_big_of (List.mem_append_right _ (List.mem_of_getElem? (i := 9) (by decide +kernel))) rfl)⟩
theorem cg_X10_pairs : px_cG pm_X10_pairs 0 := ⟨(px_big_of (List.mem_append_right _ (List.mem_of_getElem? (i := 1141) (by decide +kernel))) rfl), by decide +kernel, by decide +kernel, by decide +kernel, by decide +kernel, (px_big_of (List.mem_append_right _ (List.mem_of_getElem? (i := 9) (by decide +kernel))) rfl)⟩
theorem cg_X10_fault : px_cG pm_X10_fault 0 := ⟨(px_big_of (List.mem_append_right _ (List.mem_of_getElem? (i := 1145) (by decide +kernel))) rfl), by decide +kernel, by decide +kernel, by decide +kernel, by decide +kernel, (px_big_of (List.mem_append_right _ (List.mem_of_getElem? (i := 9) (by decide +kernel))) rfl)⟩
theorem cg_X10_token : px_cG pm_X10_token 1 := ⟨(px_big_of (List.mem_append_right _ (List.mem_of_getElem? (i := 1149) (by decide +kernel))) rfl), by decide +kernel, by decide +kernel, by decide +kernel, by decide +kernel, (px_big_of (List.mem_append_right _ (List.mem_of_getElem? (i := 9) (by decide +kernel))) rfl)⟩
theorem cg_X10_ends : px_cG pm_X10_ends 1 := ⟨(px_big_of (List.mem_append_right _ (List.mem_of_getElem? (i := 1177) (by decide +kernel))) rfl), by decide +kernel, by decide +kernel, by decide +kernel, by decide +kernel, (px_big_of (List.mem_append_right _ (List.mem_of_getElem? (i := 9) (by decide +kernel))) rfl)⟩
theorem cg_X10_burns : px_cG pm_X10_burns 0 := ⟨(px_big_of (List.mem_append_right _ (List.mem_of_getElem? (i := 1173) (by decide +kernel))) rfl), by decide +kernel, by decide +kernel, by decide +kernel, by decide +kernel, (px_big_of (List.mem_append_right _ (List.mem_of_getElem? (i := 9) (by decide +kernel))) rfl)⟩
theorem cg_X10_factor : px_cG pm_X10_factor 0 := ⟨(px_big_of (List.mem_append_right _ (List.mem_of_getElem? (i := 1193) (by decide +kernel))) rfl), by decide +kernel, by decide +kernel, by decide +kernel, by decide +kernel, (px_big_of (List.mem_append_right _ (List.mem_of_getElem? (i := 9) (by decide +kernel))) rfl)⟩
theorem cg_X10_term : px_cG pm_X10_term 0 := ⟨(px_big_of (List.mem_append_right _ (List.mem_of_getElem? (i := 1189) (by decide +kernel))) rfl), by decide +kernel, by decide +kernel, by decide +kernel, by decide +kernel, (px_big_of (List.mem_append_right _ (List.mem_of_getElem? (i := 9) (by decide +kernel))) rfl)⟩
theorem cg_X10_sum : px_cG pm_X10_sum 0 := ⟨(px_big_of (List.mem_append_right _ (List.mem_of_getElem? (i := 1185) (by decide +kernel))) rfl), by decide +kernel, by decide +kernel, by decide +kernel, by decide +kernel, (px_big_of (List.mem_append_right _ (List.mem_of_getElem? (i := 9) (by decide +kernel))) rfl)⟩
theorem cg_X10_expr : px_cG pm_X10_expr 0 := ⟨(px_big_of (List.mem_append_right _ (List.mem_of_getElem? (i := 1181) (by decide +kernel))) rfl), by decide +kernel, by decide +kernel, by decide +kernel, by decide +kernel, (px_big_of (List.mem_append_right _ (List.mem_of_getElem? (i := 9) (by decide +kernel))) rfl)⟩
theorem cg_X10_block : px_cG pm_X10_block 0 := ⟨(px_big_of (List.mem_append_right _ (List.mem_of_getElem? (i := 1161) (by decide +kernel))) rfl), by decide +kernel, by decide +kernel, by decide +kernel, by decide +kernel, (px_big_of (List.mem_append_right _ (List.mem_of_getElem? (i := 9) (by decide +kernel))) rfl)⟩
theorem cg_X10_braces : px_cG pm_X10_braces 1 := ⟨(px_big_of (List.mem_append_right _ (List.mem_of_getElem? (i := 1197) (by decide +kernel))) rfl), by decide +kernel, by decide +kernel, by decide +kernel, by decide +kernel, (px_big_of (List.mem_append_right _ (List.mem_of_getElem? (i := 9) (by decide +kernel))) rfl)⟩
theorem cg_X10_does : px_cG pm_X10_does 0 := ⟨(px_big_of (List.mem_append_right _ (List.mem_of_getElem? (i := 1165) (by decide +kernel))) rfl), by decide +kernel, by decide +kernel, by decide +kernel, by decide +kernel, (px_big_of (List.mem_append_right _ (List.mem_of_getElem? (i := 9) (by decide +kernel))) rfl)⟩
theorem cg_X10_loops : px_cG pm_X10_loops 0 := ⟨(px_big_of (List.mem_append_right _ (List.mem_of_getElem? (i := 1169) (by decide +kernel))) rfl), by decide +kernel, by decide +kernel, by decide +kernel, by decide +kernel, (px_big_of (List.mem_append_right _ (List.mem_of_getElem? (i := 9) (by decide +kernel))) rfl)⟩
theorem cg_X10_runs : px_cG pm_X10_runs 2 := ⟨(px_big_of (List.mem_append_right _ (List.mem_of_getElem? (i := 1157) (by decide +kernel))) rfl), by decide +kernel, by decide +kernel, by decide +kernel, by decide +kernel, (px_big_of (List.mem_append_right _ (List.mem_of_getElem? (i := 9) (by decide +kernel))) rfl)⟩
theorem cg_X10_run : px_cG pm_X10_run 3 := ⟨(px_big_of (List.mem_append_right _ (List.mem_of_getElem? (i := 1153) (by decide +kernel))) rfl), by decide +kernel, by decide +kernel, by decide +kernel, by decide +kernel, (px_big_of (List.mem_append_right _ (List.mem_of_getElem? (i := 9) (by decide +kernel))) rfl)⟩
theorem cg_X10_noTask : px_cG pm_X10_noTask 1 := ⟨(px_big_of (List.mem_append_right _ (List.mem_of_getElem? (i := 1209) (by decide +kernel))) rfl), by decide +kernel, by decide +kernel, by decide +kernel, by decide +kernel, (px_big_of (List.mem_append_right _ (List.mem_of_getElem? (i := 9) (by decide +kernel))) rfl)⟩
theorem cg_X10_noLearner : px_cG pm_X10_noLearner 1 := ⟨(px_big_of (List.mem_append_right _ (List.mem_of_getElem? (i := 1216) (by decide +kernel))) rfl), by decide +kernel, by decide +kernel, by decide +kernel, by decide +kernel, (px_big_of (List.mem_append_right _ (List.mem_of_getElem? (i := 9) (by decide +kernel))) rfl)⟩
theorem cg_X10_task : px_cG pm_X10_task 2 := ⟨(px_big_of (List.mem_append_right _ (List.mem_of_getElem? (i := 1201) (by decide +kernel))) rfl), by decide +kernel, by decide +kernel, by decide +kernel, by decide +kernel, (px_big_of (List.mem_append_right _ (List.mem_of_getElem? (i := 9) (by decide +kernel))) rfl)⟩
theorem cg_X10_world : px_cG pm_X10_world 4 := ⟨(px_big_of (List.mem_append_right _ (List.mem_of_getElem? (i := 1205) (by decide +kernel))) rfl), by decide +kernel, by decide +kernel, by decide +kernel, by decide +kernel, (px_big_of (List.mem_append_right _ (List.mem_of_getElem? (i := 9) (by decide +kernel))) rfl)⟩
theorem cg_X10_shaped : px_cG pm_X10_shaped 4 := ⟨(px_big_of (List.mem_append_right _ (List.mem_of_getElem? (i := 1227) (by decide +kernel))) rfl), by decide +kernel, by decide +kernel, by decide +kernel, by decide +kernel, (px_big_of (List.mem_append_right _ (List.mem_of_getElem? (i := 9) (by decide +kernel))) rfl)⟩
theorem cg_X10_isShape : px_cG pm_X10_isShape 1 := ⟨(px_big_of (List.mem_append_right _ (List.mem_of_getElem? (i := 1224) (by decide +kernel))) rfl), by decide +kernel, by decide +kernel, by decide +kernel, by decide +kernel, (px_big_of (List.mem_append_right _ (List.mem_of_getElem? (i := 9) (by decide +kernel))) rfl)⟩
theorem cg_X10_keeps : px_cG pm_X10_keeps 1 := ⟨(px_big_of (List.mem_append_right _ (List.mem_of_getElem? (i := 1220) (by decide +kernel))) rfl), by decide +kernel, by decide +kernel, by decide +kernel, by decide +kernel, (px_big_of (List.mem_append_right _ (List.mem_of_getElem? (i := 9) (by decide +kernel))) rfl)⟩
theorem cg_X10_attempt : px_cG pm_X10_attempt 3 := ⟨(px_big_of (List.mem_append_right _ (List.mem_of_getElem? (i := 1213) (by decide +kernel))) rfl), by decide +kernel, by decide +kernel, by decide +kernel, by decide +kernel, (px_big_of (List.mem_append_right _ (List.mem_of_getElem? (i := 9) (by decide +kernel))) rfl)⟩
theorem cg_X10_can : px_cG pm_X10_can 2 := ⟨(px_big_of (List.mem_append_right _ (List.mem_of_getElem? (i := 1232) (by decide +kernel))) rfl), by decide +kernel, by decide +kernel, by decide +kernel, by decide +kernel, (px_big_of (List.mem_append_right _ (List.mem_of_getElem? (i := 9) (by decide +kernel))) rfl)⟩
theorem cg_X10_passed : px_cG pm_X10_passed 2 := ⟨(px_big_of (List.mem_append_right _ (List.mem_of_getElem? (i := 1236) (by decide +kernel))) rfl), by decide +kernel, by decide +kernel, by decide +kernel, by decide +kernel, (px_big_of (List.mem_append_right _ (List.mem_of_getElem? (i := 9) (by decide +kernel))) rfl)⟩
theorem cg_X10_cans : px_cG pm_X10_cans 1 := ⟨(px_big_of (List.mem_append_right _ (List.mem_of_getElem? (i := 1244) (by decide +kernel))) rfl), by decide +kernel, by decide +kernel, by decide +kernel, by decide +kernel, (px_big_of (List.mem_append_right _ (List.mem_of_getElem? (i := 9) (by decide +kernel))) rfl)⟩
theorem cg_X10_next_ : px_cG pm_X10_next_ 1 := ⟨(px_big_of (List.mem_append_right _ (List.mem_of_getElem? (i := 1240) (by decide +kernel))) rfl), by decide +kernel, by decide +kernel, by decide +kernel, by decide +kernel, (px_big_of (List.mem_append_right _ (List.mem_of_getElem? (i := 9) (by decide +kernel))) rfl)⟩
theorem cg_X10_wish : px_cG pm_X10_wish 2 := ⟨(px_big_of (List.mem_append_right _ (List.mem_of_getElem? (i := 1248) (by decide +kernel))) rfl), by decide +kernel, by decide +kernel, by decide +kernel, by decide +kernel, (px_big_of (List.mem_append_right _ (List.mem_of_getElem? (i := 9) (by decide +kernel))) rfl)⟩
theorem cg_X10_look_ : px_cG pm_X10_look_ 2 := ⟨(px_big_of (List.mem_append_right _ (List.mem_of_getElem? (i := 1252) (by decide +kernel))) rfl), by decide +kernel, by decide +kernel, by decide +kernel, by decide +kernel, (px_big_of (List.mem_append_right _ (List.mem_of_getElem? (i := 9) (by decide +kernel))) rfl)⟩
theorem cg_X10_placeOf : px_cG pm_X10_placeOf 2 := ⟨(px_big_of (List.mem_append_right _ (List.mem_of_getElem? (i := 1263) (by decide +kernel))) rfl), by decide +kernel, by decide +kernel, by decide +kernel, by decide +kernel, (px_big_of (List.mem_append_right _ (List.mem_of_getElem? (i := 9) (by decide +kernel))) rfl)⟩
theorem cg_X10_changes : px_cG pm_X10_changes 1 := ⟨(px_big_of (List.mem_append_right _ (List.mem_of_getElem? (i := 1260) (by decide +kernel))) rfl), by decide +kernel, by decide +kernel, by decide +kernel, by decide +kernel, (px_big_of (List.mem_append_right _ (List.mem_of_getElem? (i := 9) (by decide +kernel))) rfl)⟩
theorem cg_X10_hints : px_cG pm_X10_hints 1 := ⟨(px_big_of (List.mem_append_right _ (List.mem_of_getElem? (i := 1267) (by decide +kernel))) rfl), by decide +kernel, by decide +kernel, by decide +kernel, by decide +kernel, (px_big_of (List.mem_append_right _ (List.mem_of_getElem? (i := 9) (by decide +kernel))) rfl)⟩
theorem cg_X10_hint : px_cG pm_X10_hint 2 := ⟨(px_big_of (List.mem_append_right _ (List.mem_of_getElem? (i := 1256) (by decide +kernel))) rfl), by decide +kernel, by decide +kernel, by decide +kernel, by decide +kernel, (px_big_of (List.mem_append_right _ (List.mem_of_getElem? (i := 9) (by decide +kernel))) rfl)⟩
theorem cg_X10_alike : px_cG pm_X10_alike 4 := ⟨(px_big_of (List.mem_append_right _ (List.mem_of_getElem? (i := 1271) (by decide +kernel))) rfl), by decide +kernel, by decide +kernel, by decide +kernel, by decide +kernel, (px_big_of (List.mem_append_right _ (List.mem_of_getElem? (i := 9) (by decide +kernel))) rfl)⟩
theorem cg_X10_count : px_cG pm_X10_count 1 := ⟨(px_big_of (List.mem_append_right _ (List.mem_of_getElem? (i := 1275) (by decide +kernel))) rfl), by decide +kernel, by decide +kernel, by decide +kernel, by decide +kernel, (px_big_of (List.mem_append_right _ (List.mem_of_getElem? (i := 9) (by decide +kernel))) rfl)⟩
theorem cg_L_read : px_cG pm_L_read 2 := ⟨(px_big_of (List.mem_append_right _ (List.mem_of_getElem? (i := 248) (by decide +kernel))) rfl), by decide +kernel, by decide +kernel, by decide +kernel, by decide +kernel, (px_big_of (List.mem_append_right _ (List.mem_of_getElem? (i := 0) (by decide +kernel))) rfl)⟩
theorem cg_L_run : px_cG pm_L_run 5 := ⟨(px_big_of (List.mem_append_right _ (List.mem_of_getElem? (i := 569) (by decide +kernel))) rfl), by decide +kernel, by decide +kernel, by decide +kernel, by decide +kernel, (px_big_of (List.mem_append_right _ (List.mem_of_getElem? (i := 0) (by decide +kernel))) rfl)⟩
theorem cg_L_task : px_cG pm_L_task 4 := ⟨(px_big_of (List.mem_append_right _ (List.mem_of_getElem? (i := 665) (by decide +kernel))) rfl), by decide +kernel, by decide +kernel, by decide +kernel, by decide +kernel, (px_big_of (List.mem_append_right _ (List.mem_of_getElem? (i := 0) (by decide +kernel))) rfl)⟩
theorem cg_L_world : px_cG pm_L_world 6 := ⟨(px_big_of (List.mem_append_right _ (List.mem_of_getElem? (i := 738) (by decide +kernel))) rfl), by decide +kernel, by decide +kernel, by decide +kernel, by decide +kernel, (px_big_of (List.mem_append_right _ (List.mem_of_getElem? (i := 0) (by decide +kernel))) rfl)⟩
theorem cg_L_attempt : px_cG pm_L_attempt 5 := ⟨(px_big_of (List.mem_append_right _ (List.mem_of_getElem? (i := 770) (by decide +kernel))) rfl), by decide +kernel, by decide +kernel, by decide +kernel, by decide +kernel, (px_big_of (List.mem_append_right _ (List.mem_of_getElem? (i := 0) (by decide +kernel))) rfl)⟩
theorem cg_L_can : px_cG pm_L_can 4 := ⟨(px_big_of (List.mem_append_right _ (List.mem_of_getElem? (i := 808) (by decide +kernel))) rfl), by decide +kernel, by decide +kernel, by decide +kernel, by decide +kernel, (px_big_of (List.mem_append_right _ (List.mem_of_getElem? (i := 0) (by decide +kernel))) rfl)⟩
theorem cg_L_passed : px_cG pm_L_passed 4 := ⟨(px_big_of (List.mem_append_right _ (List.mem_of_getElem? (i := 819) (by decide +kernel))) rfl), by decide +kernel, by decide +kernel, by decide +kernel, by decide +kernel, (px_big_of (List.mem_append_right _ (List.mem_of_getElem? (i := 0) (by decide +kernel))) rfl)⟩
theorem cg_L_next : px_cG pm_L_next 3 := ⟨(px_big_of (List.mem_append_right _ (List.mem_of_getElem? (i := 826) (by decide +kernel))) rfl), by decide +kernel, by decide +kernel, by decide +kernel, by decide +kernel, (px_big_of (List.mem_append_right _ (List.mem_of_getElem? (i := 0) (by decide +kernel))) rfl)⟩
theorem cg_L_wish : px_cG pm_L_wish 4 := ⟨(px_big_of (List.mem_append_right _ (List.mem_of_getElem? (i := 845) (by decide +kernel))) rfl), by decide +kernel, by decide +kernel, by decide +kernel, by decide +kernel, (px_big_of (List.mem_append_right _ (List.mem_of_getElem? (i := 0) (by decide +kernel))) rfl)⟩
theorem cg_L_look : px_cG pm_L_look 4 := ⟨(px_big_of (List.mem_append_right _ (List.mem_of_getElem? (i := 862) (by decide +kernel))) rfl), by decide +kernel, by decide +kernel, by decide +kernel, by decide +kernel, (px_big_of (List.mem_append_right _ (List.mem_of_getElem? (i := 0) (by decide +kernel))) rfl)⟩
theorem cg_L_hint : px_cG pm_L_hint 4 := ⟨(px_big_of (List.mem_append_right _ (List.mem_of_getElem? (i := 873) (by decide +kernel))) rfl), by decide +kernel, by decide +kernel, by decide +kernel, by decide +kernel, (px_big_of (List.mem_append_right _ (List.mem_of_getElem? (i := 0) (by decide +kernel))) rfl)⟩
theorem cg_L_alike : px_cG pm_L_alike 6 := ⟨(px_big_of (List.mem_append_right _ (List.mem_of_getElem? (i := 898) (by decide +kernel))) rfl), by decide +kernel, by decide +kernel, by decide +kernel, by decide +kernel, (px_big_of (List.mem_append_right _ (List.mem_of_getElem? (i := 0) (by decide +kernel))) rfl)⟩
theorem cg_J9_max_7cf53 : px_cG pm_J9_max_7cf53 2 := ⟨(px_big_of (List.mem_append_right _ (List.mem_of_getElem? (i := 362) (by decide +kernel))) rfl), by decide +kernel, by decide +kernel, by decide +kernel, by decide +kernel, (px_big_of (List.mem_append_right _ (List.mem_of_getElem? (i := 14) (by decide +kernel))) rfl)⟩
theorem cg_J9_min_7cf53 : px_cG pm_J9_min_7cf53 2 := ⟨(px_big_of (List.mem_append_right _ (List.mem_of_getElem? (i := 365) (by decide +kernel))) rfl), by decide +kernel, by decide +kernel, by decide +kernel, by decide +kernel, (px_big_of (List.mem_append_right _ (List.mem_of_getElem? (i := 14) (by decide +kernel))) rfl)⟩
theorem cg_J0_length_8abf5 : px_cG pm_J0_length_8abf5 0 := ⟨(px_big_of (List.mem_append_right _ (List.mem_of_getElem? (i := 289) (by decide +kernel))) rfl), by decide +kernel, by decide +kernel, by decide +kernel, by decide +kernel, (px_big_of (List.mem_append_right _ (List.mem_of_getElem? (i := 10) (by decide +kernel))) rfl)⟩
theorem cg_J0_charAt_5068e : px_cG pm_J0_charAt_5068e 1 := ⟨(px_big_of (List.mem_append_right _ (List.mem_of_getElem? (i := 299) (by decide +kernel))) rfl), by decide +kernel, by decide +kernel, by decide +kernel, by decide +kernel, (px_big_of (List.mem_append_right _ (List.mem_of_getElem? (i := 10) (by decide +kernel))) rfl)⟩
theorem cg_J0_indexOf_0f7a4 : px_cG pm_J0_indexOf_0f7a4 1 := ⟨(px_big_of (List.mem_append_right _ (List.mem_of_getElem? (i := 348) (by decide +kernel))) rfl), by decide +kernel, by decide +kernel, by decide +kernel, by decide +kernel, (px_big_of (List.mem_append_right _ (List.mem_of_getElem? (i := 10) (by decide +kernel))) rfl)⟩
theorem cg_J0_indexOf_7cf53 : px_cG pm_J0_indexOf_7cf53 2 := ⟨(px_big_of (List.mem_append_right _ (List.mem_of_getElem? (i := 352) (by decide +kernel))) rfl), by decide +kernel, by decide +kernel, by decide +kernel, by decide +kernel, (px_big_of (List.mem_append_right _ (List.mem_of_getElem? (i := 10) (by decide +kernel))) rfl)⟩
theorem cg_J0_coder_7d493 : px_cG pm_J0_coder_7d493 0 := ⟨(px_big_of (List.mem_append_right _ (List.mem_of_getElem? (i := 293) (by decide +kernel))) rfl), by decide +kernel, by decide +kernel, by decide +kernel, by decide +kernel, (px_big_of (List.mem_append_right _ (List.mem_of_getElem? (i := 10) (by decide +kernel))) rfl)⟩
theorem cg_J0_isLatin1_aae02 : px_cG pm_J0_isLatin1_aae02 0 := ⟨(px_big_of (List.mem_append_right _ (List.mem_of_getElem? (i := 303) (by decide +kernel))) rfl), by decide +kernel, by decide +kernel, by decide +kernel, by decide +kernel, (px_big_of (List.mem_append_right _ (List.mem_of_getElem? (i := 10) (by decide +kernel))) rfl)⟩
theorem cg_J0_checkIndex_df160 : px_cG pm_J0_checkIndex_df160 2 := ⟨(px_big_of (List.mem_append_right _ (List.mem_of_getElem? (i := 309) (by decide +kernel))) rfl), by decide +kernel, by decide +kernel, by decide +kernel, by decide +kernel, (px_big_of (List.mem_append_right _ (List.mem_of_getElem? (i := 10) (by decide +kernel))) rfl)⟩
theorem cg_J0_checkBoundsBeginEnd_23922 : px_cG pm_J0_checkBoundsBeginEnd_23922 3 := ⟨(px_big_of (List.mem_append_right _ (List.mem_of_getElem? (i := 383) (by decide +kernel))) rfl), by decide +kernel, by decide +kernel, by decide +kernel, by decide +kernel, (px_big_of (List.mem_append_right _ (List.mem_of_getElem? (i := 10) (by decide +kernel))) rfl)⟩
theorem cg_J1_charAt_3b067 : px_cG pm_J1_charAt_3b067 2 := ⟨(px_big_of (List.mem_append_right _ (List.mem_of_getElem? (i := 306) (by decide +kernel))) rfl), by decide +kernel, by decide +kernel, by decide +kernel, by decide +kernel, (px_big_of (List.mem_append_right _ (List.mem_of_getElem? (i := 11) (by decide +kernel))) rfl)⟩
theorem cg_J1_canEncode_9a6ad : px_cG pm_J1_canEncode_9a6ad 1 := ⟨(px_big_of (List.mem_append_right _ (List.mem_of_getElem? (i := 359) (by decide +kernel))) rfl), by decide +kernel, by decide +kernel, by decide +kernel, by decide +kernel, (px_big_of (List.mem_append_right _ (List.mem_of_getElem? (i := 11) (by decide +kernel))) rfl)⟩
theorem cg_J1_indexOf_4cfef : px_cG pm_J1_indexOf_4cfef 4 := ⟨(px_big_of (List.mem_append_right _ (List.mem_of_getElem? (i := 356) (by decide +kernel))) rfl), by decide +kernel, by decide +kernel, by decide +kernel, by decide +kernel, (px_big_of (List.mem_append_right _ (List.mem_of_getElem? (i := 11) (by decide +kernel))) rfl)⟩
theorem cg_J1_indexOfChar_4cfef : px_cG pm_J1_indexOfChar_4cfef 4 := ⟨(px_big_of (List.mem_append_right _ (List.mem_of_getElem? (i := 368) (by decide +kernel))) rfl), by decide +kernel, by decide +kernel, by decide +kernel, by decide +kernel, (px_big_of (List.mem_append_right _ (List.mem_of_getElem? (i := 11) (by decide +kernel))) rfl)⟩
theorem cg_J7_fill_53178 : px_cG pm_J7_fill_53178 2 := ⟨(px_big_of (List.mem_append_right _ (List.mem_of_getElem? (i := 621) (by decide +kernel))) rfl), by decide +kernel, by decide +kernel, by decide +kernel, by decide +kernel, (px_big_of (List.mem_append_right _ (List.mem_of_getElem? (i := 17) (by decide +kernel))) rfl)⟩
theorem cg_J7_copyOf_59c91 : px_cG pm_J7_copyOf_59c91 2 := ⟨(px_big_of (List.mem_append_right _ (List.mem_of_getElem? (i := 462) (by decide +kernel))) rfl), by decide +kernel, by decide +kernel, by decide +kernel, by decide +kernel, (px_big_of (List.mem_append_right _ (List.mem_of_getElem? (i := 17) (by decide +kernel))) rfl)⟩
theorem cg_J3_checkIndex_8e157 : px_cG pm_J3_checkIndex_8e157 3 := ⟨(px_big_of (List.mem_append_right _ (List.mem_of_getElem? (i := 314) (by decide +kernel))) rfl), by decide +kernel, by decide +kernel, by decide +kernel, by decide +kernel, (px_big_of (List.mem_append_right _ (List.mem_of_getElem? (i := 12) (by decide +kernel))) rfl)⟩
theorem cg_J3_checkFromToIndex_8c36e : px_cG pm_J3_checkFromToIndex_8c36e 4 := ⟨(px_big_of (List.mem_append_right _ (List.mem_of_getElem? (i := 386) (by decide +kernel))) rfl), by decide +kernel, by decide +kernel, by decide +kernel, by decide +kernel, (px_big_of (List.mem_append_right _ (List.mem_of_getElem? (i := 12) (by decide +kernel))) rfl)⟩
