/-! methods as values: own class, name, code, locals, answer -/
def mX0_init : aM := (0, yX0_init, cX0_init, 1, none)
def mX0_copyOf : aM := (0, yX0_copyOf, cX0_copyOf, 2, none)
def mX0_byteAt : aM := (0, yX0_byteAt, cX0_byteAt, 2, some .int)
def mX0_put : aM := (0, yX0_put, cX0_put, 2, none)
def mX0_putFour : aM := (0, yX0_putFour, cX0_putFour, 3, none)
def mX1_init : aM := (1, yX1_init, cX1_init, 1, none)
def mX1_copyOf : aM := (1, yX1_copyOf, cX1_copyOf, 2, none)
def mX1_isSettled : aM := (1, yX1_isSettled, cX1_isSettled, 1, some .boolean)
def mX1_isIdle : aM := (1, yX1_isIdle, cX1_isIdle, 1, some .boolean)
def mX1_setSpan : aM := (1, yX1_setSpan, cX1_setSpan, 4, some .boolean)
def mX1_settle : aM := (1, yX1_settle, cX1_settle, 9, some .boolean)
def mX1_isTempting : aM := (1, yX1_isTempting, cX1_isTempting, 2, some .boolean)
def mX1_low : aM := (1, yX1_low, cX1_low, 2, some .int)
def mX1_high : aM := (1, yX1_high, cX1_high, 2, some .int)
def mX1_isUsed : aM := (1, yX1_isUsed, cX1_isUsed, 2, some .boolean)
def mX2_init : aM := (2, yX2_init, cX2_init, 4, none)
def mX2_readRow : aM := (2, yX2_readRow, cX2_readRow, 2, some .boolean)
def mX2_openSentence : aM := (2, yX2_openSentence, cX2_openSentence, 1, none)
def mX2_current : aM := (2, yX2_current, cX2_current, 1, some (.object "SumsInWords$Sentence"))
def mX2_goOn : aM := (2, yX2_goOn, cX2_goOn, 4, some .boolean)
def mX2_closeSentence : aM := (2, yX2_closeSentence, cX2_closeSentence, 2, none)
def mX2_passed : aM := (2, yX2_passed, cX2_passed, 6, some .int)
def mX2_keepPart : aM := (2, yX2_keepPart, cX2_keepPart, 3, some .boolean)
def mX2_isSame : aM := (2, yX2_isSame, cX2_isSame, 6, some .boolean)
def mX2_nextToken : aM := (2, yX2_nextToken, cX2_nextToken, 2, none)
def mX2_skipBlanks : aM := (2, yX2_skipBlanks, cX2_skipBlanks, 1, none)
def mX2_takeWord : aM := (2, yX2_takeWord, cX2_takeWord, 3, none)
def mX2_takeNumber : aM := (2, yX2_takeNumber, cX2_takeNumber, 3, none)
def mX3_init : aM := (3, yX3_init, cX3_init, 1, none)
def mX3_clear : aM := (3, yX3_clear, cX3_clear, 1, none)
def mX4_init : aM := (4, yX4_init, cX4_init, 3, none)
def mX4_renew : aM := (4, yX4_renew, cX4_renew, 2, none)
def mX4_countAll : aM := (4, yX4_countAll, cX4_countAll, 2, some .int)
def mX4_seek : aM := (4, yX4_seek, cX4_seek, 3, some .boolean)
def mX4_fact : aM := (4, yX4_fact, cX4_fact, 2, some .int)
def mX4_number : aM := (4, yX4_number, cX4_number, 2, some .int)
def mX4_waysTo : aM := (4, yX4_waysTo, cX4_waysTo, 4, some .int)
def mX4_wayNumber : aM := (4, yX4_wayNumber, cX4_wayNumber, 2, some .int)
def mX4_restart : aM := (4, yX4_restart, cX4_restart, 1, none)
def mX4_moveOn : aM := (4, yX4_moveOn, cX4_moveOn, 2, none)
def mX4_nextSum : aM := (4, yX4_nextSum, cX4_nextSum, 1, none)
def mX4_doesSumFit : aM := (4, yX4_doesSumFit, cX4_doesSumFit, 2, some .boolean)
def mX4_doesIdleFit : aM := (4, yX4_doesIdleFit, cX4_doesIdleFit, 1, some .boolean)
def mX4_areUnlike : aM := (4, yX4_areUnlike, cX4_areUnlike, 4, some .boolean)
def mX4_isTold : aM := (4, yX4_isTold, cX4_isTold, 3, some .boolean)
def mX5_init : aM := (5, yX5_init, cX5_init, 2, none)
def mX5_find : aM := (5, yX5_find, cX5_find, 4, some .int)
def mX5_isShape : aM := (5, yX5_isShape, cX5_isShape, 4, some .boolean)
def mX5_part : aM := (5, yX5_part, cX5_part, 3, some (.object "SumsInWords$Sentence"))
def mX5_idle : aM := (5, yX5_idle, cX5_idle, 1, some (.object "SumsInWords$Sentence"))
def mX5_hasForms : aM := (5, yX5_hasForms, cX5_hasForms, 2, some .boolean)
def mX5_hasWords : aM := (5, yX5_hasWords, cX5_hasWords, 4, some .boolean)
def mX5_isOrNone : aM := (5, yX5_isOrNone, cX5_isOrNone, 2, some .boolean)
def mX5_hasIdle : aM := (5, yX5_hasIdle, cX5_hasIdle, 2, some .boolean)
def mX5_keepFacts : aM := (5, yX5_keepFacts, cX5_keepFacts, 4, none)
def mX6_init : aM := (6, yX6_init, cX6_init, 1, none)
def mX6_copyOf : aM := (6, yX6_copyOf, cX6_copyOf, 2, none)
def mX6_setAt : aM := (6, yX6_setAt, cX6_setAt, 2, some .int)
def mX6_addUnlike : aM := (6, yX6_addUnlike, cX6_addUnlike, 3, none)
def mX6_hasAnswer : aM := (6, yX6_hasAnswer, cX6_hasAnswer, 3, some .boolean)
def mX7_init : aM := (7, yX7_init, cX7_init, 1, none)
def mX7_copyOf : aM := (7, yX7_copyOf, cX7_copyOf, 2, none)
def mX8_init : aM := (8, yX8_init, cX8_init, 1, none)
def mX8_copyOf : aM := (8, yX8_copyOf, cX8_copyOf, 2, none)
def mX8_addName : aM := (8, yX8_addName, cX8_addName, 3, some .int)
def mX8_addThing : aM := (8, yX8_addThing, cX8_addThing, 4, some .int)
def mX8_hasName : aM := (8, yX8_hasName, cX8_hasName, 2, some .boolean)
def mX8_hasThing : aM := (8, yX8_hasThing, cX8_hasThing, 2, some .boolean)
def mX8_nameWord : aM := (8, yX8_nameWord, cX8_nameWord, 2, some .long)
def mX8_thingWord : aM := (8, yX8_thingWord, cX8_thingWord, 2, some .long)
def mX8_mostOf : aM := (8, yX8_mostOf, cX8_mostOf, 2, some .int)
def mX8_findName : aM := (8, yX8_findName, cX8_findName, 3, some .int)
def mX8_findThing : aM := (8, yX8_findThing, cX8_findThing, 3, some .int)
def mX8_find : aM := (8, yX8_find, cX8_find, 5, some .int)
def mX8_isFree : aM := (8, yX8_isFree, cX8_isFree, 3, some .boolean)
def mX8_isWord : aM := (8, yX8_isWord, cX8_isWord, 5, some .boolean)
def mX8_isKept : aM := (8, yX8_isKept, cX8_isKept, 6, some .boolean)
def mX9_init : aM := (9, yX9_init, cX9_init, 3, none)
def mX9_putTale : aM := (9, yX9_putTale, cX9_putTale, 7, none)
def mX9_putIdle : aM := (9, yX9_putIdle, cX9_putIdle, 3, none)
def mX9_putSentence : aM := (9, yX9_putSentence, cX9_putSentence, 3, none)
def mX9_putPart : aM := (9, yX9_putPart, cX9_putPart, 2, none)
def mX9_putWord : aM := (9, yX9_putWord, cX9_putWord, 5, none)
def mX9_putNumber : aM := (9, yX9_putNumber, cX9_putNumber, 3, none)
def mX10_init : aM := (10, yX10_init, cX10_init, 1, none)
def mX10_name : aM := (10, yX10_name, cX10_name, 3, some .int)
def mX10_thing : aM := (10, yX10_thing, cX10_thing, 4, some .int)
def mX10_span : aM := (10, yX10_span, cX10_span, 4, some .boolean)
def mX10_ways : aM := (10, yX10_ways, cX10_ways, 2, some .boolean)
def mX10_choose : aM := (10, yX10_choose, cX10_choose, 7, some .int)
def mX10_sets : aM := (10, yX10_sets, cX10_sets, 1, some .int)
def mX10_set : aM := (10, yX10_set, cX10_set, 3, some .int)
def mX10_tells : aM := (10, yX10_tells, cX10_tells, 3, some .int)
def mX10_sheet : aM := (10, yX10_sheet, cX10_sheet, 4, some .int)
def mX10_on : aM := (10, yX10_on, cX10_on, 2, some .int)
def mX10_write : aM := (10, yX10_write, cX10_write, 5, some .int)
def mX10_written : aM := (10, yX10_written, cX10_written, 2, some .int)
def mX10_take : aM := (10, yX10_take, cX10_take, 1, some .int)
def mX10_feed : aM := (10, yX10_feed, cX10_feed, 7, some .int)
def mX10_end : aM := (10, yX10_end, cX10_end, 2, some .int)
def mX10_read : aM := (10, yX10_read, cX10_read, 2, some .int)
def mX10_fault : aM := (10, yX10_fault, cX10_fault, 2, some .int)
def mX10_got : aM := (10, yX10_got, cX10_got, 2, some .int)
def mX10_count : aM := (10, yX10_count, cX10_count, 2, some .int)
def mX10_image : aM := (10, yX10_image, cX10_image, 2, some .boolean)
def mX10_again : aM := (10, yX10_again, cX10_again, 2, some .boolean)
def mX10_bodyLength : aM := (10, yX10_bodyLength, cX10_bodyLength, 1, some .int)
def mX10_mayTurn : aM := (10, yX10_mayTurn, cX10_mayTurn, 1, some .boolean)
def mX10_hasPair : aM := (10, yX10_hasPair, cX10_hasPair, 1, some .boolean)
def mX10_unturned : aM := (10, yX10_unturned, cX10_unturned, 2, some .int)
def mX10_formAt : aM := (10, yX10_formAt, cX10_formAt, 4, some .char)
def mX10_numberAt : aM := (10, yX10_numberAt, cX10_numberAt, 3, some .int)
def mX10_isOfM : aM := (10, yX10_isOfM, cX10_isOfM, 2, some .boolean)
def mX10_isQuestion : aM := (10, yX10_isQuestion, cX10_isQuestion, 1, some .boolean)
def mX10_isLetter : aM := (10, yX10_isLetter, cX10_isLetter, 1, some .boolean)
def mX10_isDigit : aM := (10, yX10_isDigit, cX10_isDigit, 1, some .boolean)
def mX10_textOf : aM := (10, yX10_textOf, cX10_textOf, 1, some (.object "java/lang/String"))
def mX10_answerOf : aM := (10, yX10_answerOf, cX10_answerOf, 4, some .int)
def mX10_atLeastOne : aM := (10, yX10_atLeastOne, cX10_atLeastOne, 1, some .int)
def mX10_share : aM := (10, yX10_share, cX10_share, 2, some .int)
def mX11_init : aM := (11, yX11_init, cX11_init, 2, none)
def mX11_isIn : aM := (11, yX11_isIn, cX11_isIn, 3, some .boolean)
def mX11_wordOf : aM := (11, yX11_wordOf, cX11_wordOf, 2, some .int)
def mX11_spelt : aM := (11, yX11_spelt, cX11_spelt, 1, some .long)
def mX11_named : aM := (11, yX11_named, cX11_named, 4, some .int)
def mX11_canBe : aM := (11, yX11_canBe, cX11_canBe, 7, some .boolean)
def mX11_name : aM := (11, yX11_name, cX11_name, 3, some .int)
def mX11_thing : aM := (11, yX11_thing, cX11_thing, 4, some .int)
def mX11_span : aM := (11, yX11_span, cX11_span, 4, some .boolean)
def mX11_ways : aM := (11, yX11_ways, cX11_ways, 2, some .boolean)
def mX11_shape : aM := (11, yX11_shape, cX11_shape, 1, some .int)
def mX11_n : aM := (11, yX11_n, cX11_n, 1, some .int)
def mX11_m : aM := (11, yX11_m, cX11_m, 1, some .int)
def mX11_t : aM := (11, yX11_t, cX11_t, 1, some .int)
def mX11_isIdle : aM := (11, yX11_isIdle, cX11_isIdle, 1, some .boolean)
def mX11_hasOther : aM := (11, yX11_hasOther, cX11_hasOther, 1, some .boolean)
def mX11_canTurn : aM := (11, yX11_canTurn, cX11_canTurn, 1, some .boolean)
def mX11_isName : aM := (11, yX11_isName, cX11_isName, 2, some .boolean)
def mX11_isThing : aM := (11, yX11_isThing, cX11_isThing, 2, some .boolean)
def mX11_choose : aM := (11, yX11_choose, cX11_choose, 9, some .int)
def mX11_answerOf : aM := (11, yX11_answerOf, cX11_answerOf, 5, some .int)
def mX11_answer : aM := (11, yX11_answer, cX11_answer, 1, some .int)
def mX11_way : aM := (11, yX11_way, cX11_way, 3, some .int)
def mX11_isTempting : aM := (11, yX11_isTempting, cX11_isTempting, 3, some .boolean)
def mX11_isRight : aM := (11, yX11_isRight, cX11_isRight, 4, some .boolean)
def mX11_isUnlike : aM := (11, yX11_isUnlike, cX11_isUnlike, 4, some .boolean)
def mX11_least : aM := (11, yX11_least, cX11_least, 2, some .int)
def mX11_greatest : aM := (11, yX11_greatest, cX11_greatest, 2, some .int)
def mX11_scan : aM := (11, yX11_scan, cX11_scan, 4, some .int)
def mX11_looks : aM := (11, yX11_looks, cX11_looks, 2, some .boolean)
def mX11_sets : aM := (11, yX11_sets, cX11_sets, 1, some .int)
def mX11_set : aM := (11, yX11_set, cX11_set, 3, some .int)
def mX11_tells : aM := (11, yX11_tells, cX11_tells, 5, some .int)
def mX11_sheet : aM := (11, yX11_sheet, cX11_sheet, 4, some .int)
def mX11_comes : aM := (11, yX11_comes, cX11_comes, 4, none)
def mX11_on : aM := (11, yX11_on, cX11_on, 2, some .int)
def mX11_puts : aM := (11, yX11_puts, cX11_puts, 2, none)
def mX11_blank : aM := (11, yX11_blank, cX11_blank, 1, none)
def mX11_says : aM := (11, yX11_says, cX11_says, 4, none)
def mX11_keyword : aM := (11, yX11_keyword, cX11_keyword, 2, none)
def mX11_number : aM := (11, yX11_number, cX11_number, 3, none)
def mX11_nameOf : aM := (11, yX11_nameOf, cX11_nameOf, 2, none)
def mX11_thingOf : aM := (11, yX11_thingOf, cX11_thingOf, 2, none)
def mX11_sentence : aM := (11, yX11_sentence, cX11_sentence, 6, none)
def mX11_question : aM := (11, yX11_question, cX11_question, 4, none)
def mX11_kindOf : aM := (11, yX11_kindOf, cX11_kindOf, 2, some .int)
def mX11_sentencesOf : aM := (11, yX11_sentencesOf, cX11_sentencesOf, 1, some .int)
def mX11_numberOf : aM := (11, yX11_numberOf, cX11_numberOf, 2, some .int)
def mX11_write : aM := (11, yX11_write, cX11_write, 9, some .int)
def mX11_written : aM := (11, yX11_written, cX11_written, 2, some .int)
def mX11_take : aM := (11, yX11_take, cX11_take, 2, some .int)
def mX11_feed : aM := (11, yX11_feed, cX11_feed, 8, some .int)
def mX11_end : aM := (11, yX11_end, cX11_end, 2, some .int)
def mX11_byteAt : aM := (11, yX11_byteAt, cX11_byteAt, 2, some .int)
def mX11_isLetter : aM := (11, yX11_isLetter, cX11_isLetter, 1, some .boolean)
def mX11_isDigit : aM := (11, yX11_isDigit, cX11_isDigit, 1, some .boolean)
def mX11_advance : aM := (11, yX11_advance, cX11_advance, 4, none)
def mX11_stops : aM := (11, yX11_stops, cX11_stops, 1, none)
def mX11_isNow : aM := (11, yX11_isNow, cX11_isNow, 2, some .boolean)
def mX11_takes : aM := (11, yX11_takes, cX11_takes, 2, some .boolean)
def mX11_must : aM := (11, yX11_must, cX11_must, 2, none)
def mX11_aNumber : aM := (11, yX11_aNumber, cX11_aNumber, 2, some .int)
def mX11_aName : aM := (11, yX11_aName, cX11_aName, 2, some .int)
def mX11_aThing : aM := (11, yX11_aThing, cX11_aThing, 2, some .int)
def mX11_keeps : aM := (11, yX11_keeps, cX11_keeps, 7, none)
def mX11_fAt : aM := (11, yX11_fAt, cX11_fAt, 2, none)
def mX11_hasAt : aM := (11, yX11_hasAt, cX11_hasAt, 4, none)
def mX11_namedAt : aM := (11, yX11_namedAt, cX11_namedAt, 4, none)
def mX11_aSentence : aM := (11, yX11_aSentence, cX11_aSentence, 3, none)
def mX11_aQuestion : aM := (11, yX11_aQuestion, cX11_aQuestion, 4, none)
def mX11_at : aM := (11, yX11_at, cX11_at, 2, some .int)
def mX11_isTale : aM := (11, yX11_isTale, cX11_isTale, 10, some .boolean)
def mX11_gets : aM := (11, yX11_gets, cX11_gets, 6, none)
def mX11_tale : aM := (11, yX11_tale, cX11_tale, 4, some .int)
def mX11_read : aM := (11, yX11_read, cX11_read, 2, some .int)
def mX11_fault : aM := (11, yX11_fault, cX11_fault, 2, some .int)
def mX11_got : aM := (11, yX11_got, cX11_got, 2, some .int)
def mX11_count : aM := (11, yX11_count, cX11_count, 2, some .int)
def mX11_image : aM := (11, yX11_image, cX11_image, 3, some .boolean)
def mX11_again : aM := (11, yX11_again, cX11_again, 3, some .boolean)
def mJ9_abs_0f7a4 : aM := (26, yJ9_abs_0f7a4, cJ9_abs_0f7a4, 1, some .int)
def mJ9_max_7cf53 : aM := (26, yJ9_max_7cf53, cJ9_max_7cf53, 2, some .int)
def mJ9_min_7cf53 : aM := (26, yJ9_min_7cf53, cJ9_min_7cf53, 2, some .int)
def mJ0_length_8abf5 : aM := (20, yJ0_length_8abf5, cJ0_length_8abf5, 1, some .int)
def mJ0_charAt_5068e : aM := (20, yJ0_charAt_5068e, cJ0_charAt_5068e, 2, some .char)
def mJ0_coder_7d493 : aM := (20, yJ0_coder_7d493, cJ0_coder_7d493, 1, some .byte)
def mJ0_isLatin1_aae02 : aM := (20, yJ0_isLatin1_aae02, cJ0_isLatin1_aae02, 1, some .boolean)
def mJ0_checkIndex_df160 : aM := (20, yJ0_checkIndex_df160, cJ0_checkIndex_df160, 2, none)
def mJ1_charAt_3b067 : aM := (21, yJ1_charAt_3b067, cJ1_charAt_3b067, 2, some .char)
def mJ2_getChar_3b067 : aM := (22, yJ2_getChar_3b067, cJ2_getChar_3b067, 2, some .char)
def mJ2_length_9d52b : aM := (22, yJ2_length_9d52b, cJ2_length_9d52b, 1, some .int)
def mJ2_charAt_3b067 : aM := (22, yJ2_charAt_3b067, cJ2_charAt_3b067, 2, some .char)
def mJ2_checkIndex_2214a : aM := (22, yJ2_checkIndex_2214a, cJ2_checkIndex_2214a, 2, none)
def mJ7_fill_53178 : aM := (24, yJ7_fill_53178, cJ7_fill_53178, 4, none)
def mJ3_checkIndex_8e157 : aM := (25, yJ3_checkIndex_8e157, cJ3_checkIndex_8e157, 3, some .int)
def mL_law : aM := (12, yL_law, cL_law, 4, some .boolean)
def mNo : aM := (99, objectInit, ⟨#[]⟩, 0, none)
def a_ms : List aM := [mX0_init, mX0_copyOf, mX0_byteAt, mX0_put, mX0_putFour, mX1_init, mX1_copyOf, mX1_isSettled, mX1_isIdle, mX1_setSpan, mX1_settle, mX1_isTempting, mX1_low, mX1_high, mX1_isUsed, mX2_init, mX2_readRow, mX2_openSentence, mX2_current, mX2_goOn, mX2_closeSentence, mX2_passed, mX2_keepPart, mX2_isSame, mX2_nextToken, mX2_skipBlanks, mX2_takeWord, mX2_takeNumber, mX3_init, mX3_clear, mX4_init, mX4_renew, mX4_countAll, mX4_seek, mX4_fact, mX4_number, mX4_waysTo, mX4_wayNumber, mX4_restart, mX4_moveOn, mX4_nextSum, mX4_doesSumFit, mX4_doesIdleFit, mX4_areUnlike, mX4_isTold, mX5_init, mX5_find, mX5_isShape, mX5_part, mX5_idle, mX5_hasForms, mX5_hasWords, mX5_isOrNone, mX5_hasIdle, mX5_keepFacts, mX6_init, mX6_copyOf, mX6_setAt, mX6_addUnlike, mX6_hasAnswer, mX7_init, mX7_copyOf, mX8_init, mX8_copyOf, mX8_addName, mX8_addThing, mX8_hasName, mX8_hasThing, mX8_nameWord, mX8_thingWord, mX8_mostOf, mX8_findName, mX8_findThing, mX8_find, mX8_isFree, mX8_isWord, mX8_isKept, mX9_init, mX9_putTale, mX9_putIdle, mX9_putSentence, mX9_putPart, mX9_putWord, mX9_putNumber, mX10_init, mX10_name, mX10_thing, mX10_span, mX10_ways, mX10_choose, mX10_sets, mX10_set, mX10_tells, mX10_sheet, mX10_on, mX10_write, mX10_written, mX10_take, mX10_feed, mX10_end, mX10_read, mX10_fault, mX10_got, mX10_count, mX10_image, mX10_again, mX10_bodyLength, mX10_mayTurn, mX10_hasPair, mX10_unturned, mX10_formAt, mX10_numberAt, mX10_isOfM, mX10_isQuestion, mX10_isLetter, mX10_isDigit, mX10_textOf, mX10_answerOf, mX10_atLeastOne, mX10_share, mX11_init, mX11_isIn, mX11_wordOf, mX11_spelt, mX11_named, mX11_canBe, mX11_name, mX11_thing, mX11_span, mX11_ways, mX11_shape, mX11_n, mX11_m, mX11_t, mX11_isIdle, mX11_hasOther, mX11_canTurn, mX11_isName, mX11_isThing, mX11_choose, mX11_answerOf, mX11_answer, mX11_way, mX11_isTempting, mX11_isRight, mX11_isUnlike, mX11_least, mX11_greatest, mX11_scan, mX11_looks, mX11_sets, mX11_set, mX11_tells, mX11_sheet, mX11_comes, mX11_on, mX11_puts, mX11_blank, mX11_says, mX11_keyword, mX11_number, mX11_nameOf, mX11_thingOf, mX11_sentence, mX11_question, mX11_kindOf, mX11_sentencesOf, mX11_numberOf, mX11_write, mX11_written, mX11_take, mX11_feed, mX11_end, mX11_byteAt, mX11_isLetter, mX11_isDigit, mX11_advance, mX11_stops, mX11_isNow, mX11_takes, mX11_must, mX11_aNumber, mX11_aName, mX11_aThing, mX11_keeps, mX11_fAt, mX11_hasAt, mX11_namedAt, mX11_aSentence, mX11_aQuestion, mX11_at, mX11_isTale, mX11_gets, mX11_tale, mX11_read, mX11_fault, mX11_got, mX11_count, mX11_image, mX11_again, mJ9_abs_0f7a4, mJ9_max_7cf53, mJ9_min_7cf53, mJ0_length_8abf5, mJ0_charAt_5068e, mJ0_coder_7d493, mJ0_isLatin1_aae02, mJ0_checkIndex_df160, mJ1_charAt_3b067, mJ2_getChar_3b067, mJ2_length_9d52b, mJ2_charAt_3b067, mJ2_checkIndex_2214a, mJ7_fill_53178, mJ3_checkIndex_8e157, mL_law]
def a_m (j : Nat) : aM := a_ms.getD j mNo
def a_cp : List Nat := [209, 835, 827, 764, 846, 144, 999, 615, 595, 575, 658, 591, 599, 607, 603, 373, 859, 863, 868, 903, 921, 909, 913, 917, 880, 884, 890, 899, 326, 876, 260, 579, 670, 697, 701, 705, 713, 639, 611, 675, 679, 619, 683, 632, 646, 393, 928, 932, 941, 962, 937, 948, 954, 958, 967, 192, 1004, 734, 722, 726, 112, 990, 118, 994, 494, 567, 662, 587, 790, 800, 583, 552, 559, 555, 498, 501, 508, 320, 749, 755, 760, 786, 795, 804, 104, 490, 563, 571, 650, 654, 688, 693, 709, 717, 730, 738, 823, 831, 842, 851, 855, 974, 978, 982, 986, 1011, 745, 741, 666, 810, 807, 819, 816, 924, 505, 895, 767, 622, 625, 628, 1016, 1087, 1090, 1237, 1113, 1083, 1079, 1117, 1121, 1125, 1148, 1272, 1268, 1164, 1175, 1140, 1223, 1133, 1137, 1129, 1171, 1168, 1187, 1183, 1160, 1179, 1152, 1156, 1144, 1199, 1191, 1195, 1204, 1208, 1212, 1216, 1249, 1245, 1241, 1234, 1257, 1253, 1261, 1230, 1276, 1264, 1226, 1279, 1220, 1283, 1287, 1291, 1295, 1307, 1310, 1313, 1303, 1337, 1321, 1333, 1329, 1341, 1353, 1345, 1349, 1325, 1361, 1357, 1317, 1365, 1376, 1373, 1380, 1369, 1299, 1384, 1388, 1392, 1396, 1400, 642, 635, 871, 381, 514, 385, 518, 524, 521, 542, 538, 532, 535, 148, 529, 0]
def a_nm (o : Nat) : String := match o with
  | 0 => RX0
  | 1 => RX1
  | 2 => RX2
  | 3 => RX3
  | 4 => RX4
  | 5 => RX5
  | 6 => RX6
  | 7 => RX7
  | 8 => RX8
  | 9 => RX9
  | 10 => RX10
  | 11 => RX11
  | 12 => RL
  | 20 => RJ0
  | 21 => RJ1
  | 22 => RJ2
  | 23 => RJ10
  | 24 => RJ7
  | 25 => RJ3
  | 26 => RJ9
  | _ => ""
abbrev aCl : List vw_C := [(RX0, TX0, 2), (RX1, TX1, 9), (RX2, TX2, 15), (RX3, TX3, 5), (RX4, TX4, 17), (RX5, TX5, 8), (RX6, TX6, 3), (RX7, TX7, 8), (RX8, TX8, 5), (RX9, TX9, 3), (RX10, TX10, 5), (RX11, TX11, 19)]
def a_T (c : Nat) : u_T := match c with
  | 0 => TX0
  | 1 => TX1
  | 2 => TX2
  | 3 => TX3
  | 4 => TX4
  | 5 => TX5
  | 6 => TX6
  | 7 => TX7
  | 8 => TX8
  | 9 => TX9
  | 10 => TX10
  | 11 => TX11
  | _ => TX0
def a_ty (c : Nat) : Nat → FieldType := match c with
  | 0 => tyX0
  | 1 => tyX1
  | 2 => tyX2
  | 3 => tyX3
  | 4 => tyX4
  | 5 => tyX5
  | 6 => tyX6
  | 7 => tyX7
  | 8 => tyX8
  | 9 => tyX9
  | 10 => tyX10
  | 11 => tyX11
  | _ => fun _ => .int
def a_N (c : Nat) : Nat := match c with
  | 0 => 2
  | 1 => 9
  | 2 => 15
  | 3 => 5
  | 4 => 17
  | 5 => 8
  | 6 => 3
  | 7 => 8
  | 8 => 5
  | 9 => 3
  | 10 => 5
  | 11 => 19
  | _ => 0
def a_df (c : Nat) : List Value := match c with
  | 0 => [.null, .int 0]
  | 1 => [.null, .null, .int 0, .int 0, .int 0, .int 0, .int 0, .int 0, .int 0]
  | 2 => [.null, .null, .null, .null, .null, .int 0, .int 0, .int 0, .int 0, .int 0, .int 0, .int 0, .int 0, .int 0, .int 0]
  | 3 => [.int 0, .int 0, .int 0, .int 0, .int 0]
  | 4 => [.null, .null, .null, .null, .null, .null, .int 0, .int 0, .int 0, .int 0, .int 0, .int 0, .int 0, .int 0, .int 0, .int 0, .int 0]
  | 5 => [.null, .int 0, .int 0, .int 0, .int 0, .int 0, .int 0, .int 0]
  | 6 => [.null, .null, .int 0]
  | 7 => [.null, .null, .null, .null, .null, .null, .int 0, .int 0]
  | 8 => [.null, .null, .null, .int 0, .int 0]
  | 9 => [.null, .null, .null]
  | 10 => [.null, .null, .null, .null, .null]
  | 11 => [.null, .null, .null, .int 0, .int 0, .int 0, .int 0, .null, .int 0, .int 0, .int 0, .int 0, .int 0, .int 0, .null, .int 0, .int 0, .int 0, .int 0]
  | _ => []
def a_tF : List (Nat × Nat × Nat × Nat × Nat × Nat) := [(8, 9, 8, 0, 0, 120),
  (8, 15, 8, 1, 0, 121),
  (8, 18, 8, 2, 0, 122),
  (8, 28, 8, 3, 0, 123),
  (10, 190, 8, 3, 0, 124),
  (8, 32, 8, 4, 0, 125),
  (10, 193, 8, 4, 0, 126),
  (1, 9, 1, 0, 0, 149),
  (1, 15, 1, 1, 0, 150),
  (1, 49, 1, 2, 0, 151),
  (10, 79, 1, 2, 0, 152),
  (1, 18, 1, 3, 0, 153),
  (9, 32, 1, 3, 0, 154),
  (4, 125, 1, 3, 0, 155),
  (10, 126, 1, 3, 0, 156),
  (1, 22, 1, 4, 0, 157),
  (9, 64, 1, 4, 0, 158),
  (1, 25, 1, 5, 0, 159),
  (9, 61, 1, 5, 0, 160),
  (1, 28, 1, 6, 0, 161),
  (4, 44, 1, 6, 0, 162),
  (9, 73, 1, 6, 0, 163),
  (1, 31, 1, 7, 0, 164),
  (9, 93, 1, 7, 0, 165),
  (1, 34, 1, 8, 0, 166),
  (4, 58, 1, 8, 0, 167),
  (9, 96, 1, 8, 0, 168),
  (6, 9, 6, 0, 0, 194),
  (6, 15, 6, 1, 0, 195),
  (6, 24, 6, 2, 0, 196),
  (10, 113, 6, 2, 0, 197),
  (0, 9, 0, 0, 0, 211),
  (9, 26, 0, 1, 0, 212),
  (0, 21, 0, 1, 0, 213),
  (2, 176, 0, 1, 0, 214),
  (10, 142, 0, 1, 0, 215),
  (7, 12, 7, 0, 0, 222),
  (10, 26, 7, 0, 0, 223),
  (7, 21, 7, 1, 0, 224),
  (10, 22, 7, 1, 0, 225),
  (7, 28, 7, 2, 0, 226),
  (10, 109, 7, 2, 0, 227),
  (7, 35, 7, 3, 0, 228),
  (10, 39, 7, 3, 0, 229),
  (7, 39, 7, 4, 0, 230),
  (10, 52, 7, 4, 0, 231),
  (7, 42, 7, 5, 0, 232),
  (10, 168, 7, 5, 0, 233),
  (7, 46, 7, 6, 0, 234),
  (10, 178, 7, 6, 0, 235),
  (7, 50, 7, 7, 0, 236),
  (10, 184, 7, 7, 0, 237),
  (4, 36, 4, 0, 0, 262),
  (4, 40, 4, 1, 0, 263),
  (4, 9, 4, 2, 0, 264),
  (4, 15, 4, 3, 0, 265),
  (4, 19, 4, 4, 0, 266),
  (4, 22, 4, 5, 0, 267),
  (4, 55, 4, 6, 0, 268),
  (4, 61, 4, 7, 0, 269),
  (4, 25, 4, 8, 0, 270),
  (4, 29, 4, 9, 0, 271),
  (4, 32, 4, 10, 0, 272),
  (4, 116, 4, 11, 0, 273),
  (4, 92, 4, 12, 0, 274),
  (4, 95, 4, 13, 0, 275),
  (4, 98, 4, 14, 0, 276),
  (4, 101, 4, 15, 0, 277),
  (4, 86, 4, 16, 0, 278),
  (10, 103, 4, 16, 1, 279),
  (3, 9, 3, 0, 0, 328),
  (9, 53, 3, 0, 0, 329),
  (2, 118, 3, 0, 0, 330),
  (5, 68, 3, 0, 0, 331),
  (3, 15, 3, 1, 0, 332),
  (9, 67, 3, 1, 0, 333),
  (5, 82, 3, 1, 0, 334),
  (2, 136, 3, 1, 0, 335),
  (3, 19, 3, 2, 0, 336),
  (9, 70, 3, 2, 0, 337),
  (5, 108, 3, 2, 0, 338),
  (2, 139, 3, 2, 0, 339),
  (3, 22, 3, 3, 0, 340),
  (9, 76, 3, 3, 0, 341),
  (5, 94, 3, 3, 0, 342),
  (2, 145, 3, 3, 0, 343),
  (3, 25, 3, 4, 0, 344),
  (9, 88, 3, 4, 0, 345),
  (2, 151, 3, 4, 0, 346),
  (5, 125, 3, 4, 0, 347),
  (9, 18, 9, 0, 0, 359),
  (9, 22, 9, 1, 0, 360),
  (9, 12, 9, 2, 0, 361),
  (5, 9, 5, 0, 0, 395),
  (5, 15, 5, 1, 0, 396),
  (5, 19, 5, 2, 0, 397),
  (5, 34, 5, 3, 0, 398),
  (5, 38, 5, 4, 0, 399),
  (5, 85, 5, 5, 0, 400),
  (5, 91, 5, 6, 0, 401),
  (5, 97, 5, 7, 0, 402),
  (2, 29, 2, 0, 0, 421),
  (2, 33, 2, 1, 0, 422),
  (2, 11, 2, 2, 0, 423),
  (2, 43, 2, 3, 0, 424),
  (10, 161, 2, 3, 0, 425),
  (2, 25, 2, 4, 0, 426),
  (2, 51, 2, 5, 0, 427),
  (10, 165, 2, 5, 0, 428),
  (2, 99, 2, 6, 0, 429),
  (10, 181, 2, 6, 0, 430),
  (2, 71, 2, 7, 0, 431),
  (2, 54, 2, 8, 0, 432),
  (2, 96, 2, 9, 0, 433),
  (10, 187, 2, 9, 0, 434),
  (2, 47, 2, 10, 0, 435),
  (2, 64, 2, 11, 0, 436),
  (2, 133, 2, 12, 0, 437),
  (2, 142, 2, 13, 0, 438),
  (2, 148, 2, 14, 0, 439),
  (10, 10, 10, 0, 0, 471),
  (10, 16, 10, 1, 0, 472),
  (10, 33, 10, 2, 0, 473),
  (10, 46, 10, 3, 0, 474),
  (10, 56, 10, 4, 0, 475),
  (11, 7, 11, 0, 0, 1018),
  (11, 13, 11, 1, 0, 1019),
  (11, 17, 11, 2, 0, 1020),
  (11, 100, 11, 3, 0, 1021),
  (11, 104, 11, 4, 0, 1022),
  (11, 107, 11, 5, 0, 1023),
  (11, 114, 11, 6, 0, 1024),
  (11, 21, 11, 7, 0, 1025),
  (11, 206, 11, 8, 0, 1026),
  (11, 209, 11, 9, 0, 1027),
  (11, 215, 11, 10, 0, 1028),
  (11, 218, 11, 11, 0, 1029),
  (11, 227, 11, 12, 0, 1030),
  (11, 230, 11, 13, 0, 1031),
  (11, 24, 11, 14, 0, 1032),
  (11, 249, 11, 15, 0, 1033),
  (11, 273, 11, 16, 0, 1034),
  (11, 276, 11, 17, 0, 1035),
  (11, 279, 11, 18, 0, 1036),
  (20, 9, 20, 0, 0, 1402),
  (20, 15, 20, 1, 0, 1403)]
def a_tM : List (Nat × Nat × Nat × Nat × Nat × Nat × Nat × Nat × Nat) := [(12, 9, 4, 0, 84, 102, 103, 102, 81),
  (10, 1, 6, 0, 0, 105, 106, 107, 105),
  (10, 9, 4, 0, 60, 110, 111, 110, 82),
  (7, 3, 6, 0, 0, 113, 106, 107, 113),
  (7, 11, 5, 0, 62, 116, 117, 116, 83),
  (8, 3, 6, 0, 0, 119, 106, 107, 119),
  (7, 20, 4, 0, 5, 142, 143, 142, 84),
  (1, 3, 6, 0, 0, 145, 106, 107, 145),
  (1, 37, 2, 2, 213, 146, 147, 146, 85),
  (7, 27, 5, 0, 55, 190, 191, 190, 86),
  (6, 3, 6, 0, 0, 193, 106, 107, 193),
  (7, 34, 5, 0, 0, 207, 208, 207, 87),
  (0, 3, 6, 0, 0, 210, 106, 107, 210),
  (7, 53, 2, 2, 213, 221, 147, 221, 85),
  (10, 30, 4, 2, 30, 258, 259, 258, 88),
  (4, 3, 6, 0, 0, 261, 106, 107, 261),
  (10, 43, 4, 2, 77, 318, 319, 318, 89),
  (9, 3, 6, 0, 0, 321, 106, 107, 321),
  (9, 11, 5, 0, 28, 324, 325, 324, 90),
  (3, 3, 6, 0, 0, 327, 106, 107, 327),
  (10, 55, 4, 2, 15, 371, 372, 371, 91),
  (2, 3, 6, 0, 0, 374, 106, 107, 374),
  (2, 19, 0, 0, 203, 378, 379, 380, 92),
  (20, 335, 0, 0, 205, 382, 383, 384, 92),
  (2, 37, 5, 0, 28, 388, 325, 388, 90),
  (2, 40, 4, 1, 45, 391, 392, 391, 93),
  (5, 3, 6, 0, 0, 394, 106, 107, 394),
  (12, 15, 0, 1, 85, 487, 488, 489, 81),
  (10, 60, 0, 1, 64, 491, 492, 493, 83),
  (8, 35, 0, 1, 74, 495, 497, 0, 83),
  (8, 50, 2, 1, 75, 499, 500, 499, 83),
  (8, 65, 3, 1, 114, 503, 504, 503, 81),
  (8, 53, 2, 1, 76, 506, 507, 506, 83),
  (8, 70, 0, 0, 203, 510, 379, 380, 92),
  (8, 76, 0, 1, 204, 511, 512, 513, 92),
  (20, 492, 0, 0, 206, 515, 516, 517, 92),
  (20, 495, 2, 2, 208, 519, 520, 519, 95),
  (21, 9, 2, 2, 207, 522, 523, 522, 92),
  (20, 1059, 2, 3, 214, 527, 528, 527, 96),
  (20, 498, 2, 2, 211, 530, 531, 530, 97),
  (22, 67, 2, 2, 212, 533, 534, 533, 97),
  (22, 48, 2, 1, 210, 536, 537, 536, 97),
  (22, 414, 2, 2, 207, 539, 523, 539, 92),
  (22, 71, 2, 2, 209, 540, 541, 540, 97),
  (8, 56, 0, 1, 71, 549, 550, 551, 83),
  (8, 46, 2, 3, 73, 553, 554, 553, 83),
  (8, 60, 0, 1, 72, 556, 557, 558, 83),
  (12, 20, 0, 2, 86, 560, 561, 562, 81),
  (10, 66, 0, 2, 65, 564, 565, 566, 83),
  (12, 25, 0, 3, 87, 568, 569, 570, 81),
  (10, 70, 0, 3, 9, 572, 573, 574, 84),
  (10, 76, 0, 0, 31, 576, 577, 578, 88),
  (4, 49, 0, 1, 70, 580, 581, 582, 83),
  (8, 43, 0, 1, 67, 584, 585, 586, 83),
  (4, 64, 0, 1, 11, 588, 589, 590, 84),
  (1, 64, 0, 0, 8, 592, 593, 594, 84),
  (4, 68, 0, 1, 12, 596, 597, 598, 84),
  (1, 68, 0, 1, 14, 600, 602, 1, 84),
  (4, 70, 0, 1, 13, 604, 605, 606, 84),
  (4, 72, 0, 0, 38, 608, 610, 2, 88),
  (4, 79, 0, 0, 7, 612, 613, 614, 84),
  (4, 113, 0, 0, 41, 616, 618, 3, 88),
  (4, 128, 3, 4, 117, 620, 621, 620, 81),
  (10, 239, 2, 1, 118, 623, 624, 623, 81),
  (10, 242, 2, 2, 119, 626, 627, 626, 81),
  (4, 132, 0, 2, 43, 629, 631, 4, 88),
  (4, 109, 8, 2, 0, 633, 634, 635, 98),
  (4, 89, 0, 1, 37, 636, 638, 5, 88),
  (4, 104, 10, 1, 0, 640, 641, 642, 98),
  (4, 139, 0, 1, 44, 643, 645, 6, 88),
  (12, 30, 0, 1, 88, 647, 648, 649, 81),
  (12, 35, 0, 6, 89, 651, 652, 653, 81),
  (10, 83, 0, 7, 10, 655, 656, 657, 84),
  (1, 52, 0, 1, 66, 659, 660, 661, 83),
  (1, 58, 0, 1, 67, 663, 585, 586, 83),
  (1, 61, 3, 1, 108, 664, 665, 664, 81),
  (10, 87, 0, 0, 32, 667, 668, 669, 88),
  (4, 76, 0, 0, 39, 672, 674, 7, 88),
  (4, 119, 0, 0, 40, 676, 678, 8, 88),
  (4, 122, 0, 0, 42, 680, 682, 9, 88),
  (4, 136, 0, 0, 8, 684, 593, 594, 84),
  (12, 40, 0, 0, 90, 685, 686, 687, 81),
  (10, 91, 0, 0, 7, 689, 613, 614, 84),
  (12, 45, 0, 2, 91, 690, 691, 692, 81),
  (10, 95, 0, 1, 33, 694, 695, 696, 88),
  (10, 99, 0, 1, 34, 698, 699, 700, 88),
  (4, 83, 0, 1, 35, 702, 703, 704, 88),
  (12, 50, 0, 2, 92, 706, 707, 708, 81),
  (10, 106, 0, 1, 36, 710, 711, 712, 88),
  (12, 54, 0, 1, 93, 714, 715, 716, 81),
  (10, 119, 0, 2, 58, 719, 720, 721, 86),
  (6, 28, 0, 1, 59, 723, 725, 10, 86),
  (12, 59, 0, 1, 94, 727, 728, 729, 81),
  (10, 123, 0, 1, 57, 731, 732, 733, 86),
  (12, 63, 0, 3, 95, 735, 736, 737, 81),
  (10, 129, 2, 1, 107, 739, 740, 739, 81),
  (10, 132, 0, 0, 8, 742, 593, 594, 84),
  (10, 135, 2, 1, 106, 743, 744, 743, 81),
  (10, 138, 0, 4, 78, 746, 747, 748, 89),
  (9, 37, 3, 1, 106, 750, 744, 750, 81),
  (9, 41, 0, 0, 8, 751, 593, 594, 84),
  (9, 45, 0, 2, 79, 752, 754, 11, 89),
  (9, 83, 0, 1, 35, 756, 703, 704, 88),
  (9, 90, 0, 0, 80, 757, 759, 12, 89),
  (9, 99, 0, 1, 3, 761, 762, 763, 87),
  (9, 103, 3, 1, 116, 765, 766, 765, 81),
  (9, 107, 0, 0, 203, 781, 379, 380, 92),
  (9, 112, 0, 1, 204, 782, 512, 513, 92),
  (9, 116, 0, 1, 81, 783, 785, 13, 89),
  (9, 120, 0, 1, 68, 787, 788, 789, 83),
  (8, 39, 0, 1, 66, 791, 660, 661, 83),
  (9, 126, 0, 1, 82, 792, 794, 14, 89),
  (9, 130, 0, 1, 69, 797, 798, 799, 83),
  (9, 133, 0, 1, 83, 801, 803, 15, 89),
  (9, 49, 3, 3, 110, 805, 806, 805, 81),
  (10, 199, 2, 2, 109, 808, 809, 808, 81),
  (10, 205, 0, 0, 203, 812, 379, 380, 92),
  (10, 209, 0, 1, 204, 813, 512, 513, 92),
  (9, 57, 3, 2, 112, 814, 815, 814, 81),
  (9, 79, 3, 3, 111, 817, 818, 817, 81),
  (12, 68, 0, 1, 96, 820, 821, 822, 81),
  (10, 147, 0, 1, 2, 824, 825, 826, 87),
  (12, 72, 0, 0, 97, 828, 829, 830, 81),
  (10, 150, 0, 1, 1, 832, 833, 834, 87),
  (0, 15, 7, 5, 0, 836, 837, 838, 99),
  (12, 76, 0, 5, 98, 839, 840, 841, 81),
  (10, 154, 0, 1, 4, 843, 844, 845, 87),
  (0, 25, 0, 1, 3, 847, 762, 763, 87),
  (12, 81, 0, 1, 99, 848, 849, 850, 81),
  (12, 85, 0, 0, 100, 852, 853, 854, 81),
  (10, 158, 0, 0, 16, 856, 857, 858, 91),
  (2, 58, 0, 0, 17, 860, 862, 16, 91),
  (2, 74, 2, 2, 213, 864, 147, 864, 85),
  (2, 80, 0, 0, 18, 865, 867, 17, 91),
  (2, 87, 9, 2, 0, 869, 870, 871, 98),
  (2, 93, 8, 2, 0, 872, 634, 635, 98),
  (2, 84, 0, 0, 29, 873, 874, 875, 90),
  (2, 61, 0, 0, 24, 877, 879, 18, 91),
  (2, 164, 0, 0, 25, 881, 883, 19, 91),
  (2, 154, 0, 1, 2, 885, 825, 826, 87),
  (2, 160, 3, 1, 114, 886, 504, 886, 81),
  (2, 167, 0, 0, 26, 887, 889, 20, 91),
  (2, 178, 0, 1, 71, 891, 550, 551, 83),
  (2, 184, 0, 1, 72, 892, 557, 558, 83),
  (2, 170, 3, 1, 115, 893, 894, 893, 81),
  (2, 173, 0, 0, 27, 896, 898, 21, 91),
  (2, 67, 0, 0, 19, 900, 902, 22, 91),
  (2, 102, 0, 1, 204, 904, 512, 513, 92),
  (2, 106, 3, 1, 116, 905, 766, 905, 81),
  (2, 110, 0, 2, 21, 906, 908, 23, 91),
  (2, 126, 0, 1, 22, 910, 912, 24, 91),
  (2, 129, 0, 3, 23, 914, 916, 25, 91),
  (2, 114, 0, 1, 20, 918, 920, 26, 91),
  (2, 122, 3, 1, 113, 922, 923, 922, 81),
  (10, 172, 0, 2, 46, 925, 926, 927, 93),
  (5, 22, 0, 1, 47, 929, 931, 27, 93),
  (5, 41, 3, 1, 106, 933, 744, 933, 81),
  (5, 45, 0, 0, 50, 934, 936, 28, 93),
  (5, 64, 0, 1, 48, 938, 940, 29, 93),
  (5, 55, 9, 2, 0, 942, 870, 871, 98),
  (5, 61, 8, 2, 0, 943, 634, 635, 98),
  (5, 74, 3, 3, 110, 944, 806, 944, 81),
  (5, 49, 0, 0, 51, 945, 947, 30, 93),
  (5, 78, 3, 2, 109, 949, 809, 949, 81),
  (5, 88, 3, 1, 108, 950, 665, 950, 81),
  (5, 100, 3, 2, 112, 951, 815, 951, 81),
  (5, 104, 2, 2, 52, 952, 953, 952, 93),
  (5, 52, 0, 0, 53, 955, 957, 31, 93),
  (5, 111, 0, 0, 49, 959, 961, 32, 93),
  (5, 26, 3, 1, 107, 963, 740, 963, 81),
  (5, 30, 0, 1, 54, 964, 966, 33, 93),
  (5, 115, 2, 2, 213, 968, 147, 968, 85),
  (5, 121, 3, 3, 111, 969, 818, 969, 81),
  (5, 128, 3, 4, 117, 970, 621, 970, 81),
  (12, 89, 0, 1, 101, 971, 972, 973, 81),
  (12, 93, 0, 1, 102, 975, 976, 977, 81),
  (12, 97, 0, 1, 103, 979, 980, 981, 81),
  (12, 101, 0, 1, 104, 983, 984, 985, 81),
  (10, 196, 0, 1, 61, 987, 988, 989, 82),
  (7, 59, 0, 1, 63, 991, 992, 993, 83),
  (8, 22, 7, 5, 0, 995, 837, 838, 99),
  (7, 63, 0, 1, 6, 996, 997, 998, 84),
  (1, 43, 7, 5, 0, 1000, 837, 838, 99),
  (7, 66, 0, 1, 56, 1001, 1002, 1003, 86),
  (6, 18, 7, 5, 0, 1005, 837, 838, 99),
  (7, 69, 0, 1, 1, 1006, 833, 834, 87),
  (7, 72, 7, 5, 0, 1007, 837, 838, 99),
  (12, 105, 0, 1, 105, 1008, 1009, 1010, 81),
  (12, 12, 4, 0, 120, 1014, 1015, 1014, 94),
  (11, 1, 6, 0, 0, 1017, 106, 107, 1017),
  (12, 19, 0, 1, 126, 1076, 1077, 1078, 94),
  (11, 78, 0, 1, 125, 1080, 1082, 34, 94),
  (11, 67, 2, 3, 121, 1085, 1086, 1085, 94),
  (11, 71, 2, 1, 122, 1088, 1089, 1088, 94),
  (11, 75, 0, 1, 124, 1110, 1112, 35, 94),
  (12, 24, 0, 2, 127, 1114, 1115, 1116, 94),
  (12, 29, 0, 3, 128, 1118, 1119, 1120, 94),
  (12, 34, 0, 1, 129, 1122, 1123, 1124, 94),
  (12, 39, 0, 6, 139, 1126, 1127, 1128, 94),
  (11, 82, 0, 1, 137, 1130, 1132, 36, 94),
  (11, 86, 0, 1, 138, 1134, 1136, 37, 94),
  (11, 89, 2, 1, 135, 1138, 1139, 1138, 94),
  (11, 92, 0, 1, 148, 1141, 1143, 38, 94),
  (11, 96, 0, 0, 130, 1145, 1147, 39, 94),
  (11, 133, 0, 1, 146, 1149, 1151, 40, 94),
  (11, 136, 0, 1, 147, 1153, 1155, 41, 94),
  (11, 139, 0, 0, 144, 1157, 1159, 42, 94),
  (11, 124, 0, 0, 133, 1161, 1163, 43, 94),
  (11, 117, 0, 0, 141, 1165, 1167, 44, 94),
  (11, 110, 2, 4, 140, 1169, 1170, 1169, 94),
  (11, 120, 0, 0, 134, 1172, 1174, 45, 94),
  (11, 142, 0, 0, 145, 1176, 1178, 46, 94),
  (11, 127, 0, 1, 143, 1180, 1182, 47, 94),
  (11, 130, 0, 1, 142, 1184, 1186, 48, 94),
  (12, 44, 0, 0, 150, 1188, 1189, 1190, 94),
  (12, 49, 0, 2, 151, 1192, 1193, 1194, 94),
  (11, 146, 0, 1, 149, 1196, 1198, 49, 94),
  (12, 53, 0, 2, 152, 1201, 1202, 1203, 94),
  (12, 58, 0, 1, 153, 1205, 1206, 1207, 94),
  (11, 149, 0, 1, 154, 1209, 1211, 50, 94),
  (12, 62, 0, 1, 155, 1213, 1214, 1215, 94),
  (12, 67, 0, 3, 168, 1217, 1218, 1219, 94),
  (11, 179, 2, 1, 136, 1221, 1222, 1221, 94),
  (11, 182, 2, 1, 166, 1224, 1225, 1224, 94),
  (11, 185, 0, 5, 163, 1227, 1229, 51, 94),
  (11, 167, 0, 1, 159, 1231, 1233, 52, 94),
  (11, 159, 2, 1, 123, 1235, 1236, 1235, 94),
  (11, 163, 0, 1, 158, 1238, 1240, 53, 94),
  (11, 156, 0, 0, 157, 1242, 1244, 54, 94),
  (11, 153, 0, 1, 156, 1246, 1248, 55, 94),
  (11, 170, 0, 1, 161, 1250, 1252, 56, 94),
  (11, 173, 0, 1, 160, 1254, 1256, 57, 94),
  (11, 176, 0, 1, 162, 1258, 1260, 58, 94),
  (11, 189, 2, 2, 165, 1262, 1263, 1262, 94),
  (11, 193, 0, 0, 132, 1265, 1267, 59, 94),
  (11, 196, 0, 0, 131, 1269, 1271, 60, 94),
  (11, 199, 0, 3, 164, 1273, 1275, 61, 94),
  (11, 203, 2, 2, 167, 1277, 1278, 1277, 94),
  (12, 71, 0, 1, 169, 1280, 1281, 1282, 94),
  (12, 75, 0, 0, 170, 1284, 1285, 1286, 94),
  (12, 80, 0, 5, 171, 1288, 1289, 1290, 94),
  (12, 84, 0, 1, 172, 1292, 1293, 1294, 94),
  (12, 88, 0, 0, 194, 1296, 1297, 1298, 94),
  (11, 237, 0, 0, 176, 1300, 1302, 62, 94),
  (11, 212, 0, 1, 173, 1304, 1306, 63, 94),
  (11, 221, 2, 1, 174, 1308, 1309, 1308, 94),
  (11, 224, 2, 1, 175, 1311, 1312, 1311, 94),
  (11, 293, 0, 0, 188, 1314, 1316, 64, 94),
  (11, 234, 0, 1, 178, 1318, 1320, 65, 94),
  (11, 267, 0, 0, 185, 1322, 1324, 66, 94),
  (11, 246, 0, 1, 180, 1326, 1328, 67, 94),
  (11, 240, 0, 1, 179, 1330, 1332, 68, 94),
  (11, 243, 0, 0, 177, 1334, 1336, 69, 94),
  (11, 252, 0, 0, 181, 1338, 1340, 70, 94),
  (11, 255, 0, 0, 183, 1342, 1344, 71, 94),
  (11, 258, 0, 5, 184, 1346, 1348, 72, 94),
  (11, 261, 0, 0, 182, 1350, 1352, 73, 94),
  (11, 270, 0, 0, 187, 1354, 1356, 74, 94),
  (11, 264, 0, 1, 186, 1358, 1360, 75, 94),
  (11, 296, 0, 0, 189, 1362, 1364, 76, 94),
  (11, 299, 0, 0, 193, 1366, 1368, 77, 94),
  (11, 285, 0, 3, 191, 1370, 1372, 78, 94),
  (11, 282, 2, 2, 190, 1374, 1375, 1374, 94),
  (11, 289, 0, 3, 192, 1377, 1379, 79, 94),
  (12, 92, 0, 1, 195, 1381, 1382, 1383, 94),
  (12, 96, 0, 1, 196, 1385, 1386, 1387, 94),
  (12, 100, 0, 1, 197, 1389, 1390, 1391, 94),
  (12, 104, 0, 1, 198, 1393, 1394, 1395, 94),
  (12, 108, 0, 1, 199, 1397, 1398, 1399, 94)]
def a_tC : List (Nat × Nat × Nat × Nat × Nat × Nat) := [(12, 7, 10, 100, 101, 81),
  (10, 7, 7, 108, 109, 82),
  (7, 9, 8, 114, 115, 83),
  (7, 18, 1, 140, 141, 84),
  (7, 25, 6, 188, 189, 86),
  (7, 32, 0, 205, 206, 87),
  (10, 20, 4, 256, 257, 88),
  (10, 37, 9, 316, 317, 89),
  (9, 9, 3, 322, 323, 90),
  (10, 50, 2, 369, 370, 91),
  (2, 9, 3, 375, 323, 90),
  (2, 38, 5, 389, 390, 93),
  (12, 10, 11, 1012, 1013, 94)]
def a_tA : List (Nat × Nat × Nat × Nat) := [(10, 7, 3, 108),
  (9, 9, 4, 322),
  (2, 9, 4, 375)]
def a_tI : List (Nat × Nat × Int32 × Nat) := [(4, 75, 1000000, 671),
  (10, 118, 1000000, 718),
  (11, 145, 13000000, 1200)]
def a_tL : List (Nat × Nat × Int64 × Nat) := [(8, 63, 255, 502),
  (9, 136, 255, 796),
  (11, 65, 255, 1084),
  (11, 27, 6840691, 1091),
  (11, 29, 422776956275, 1092),
  (11, 31, 1734702195, 1093),
  (11, 33, 465726301555, 1094),
  (11, 35, 1886745715, 1095),
  (11, 37, 1952998765, 1096),
  (11, 39, 1768846447, 1097),
  (11, 41, 26990, 1098),
  (11, 43, 97, 1099),
  (11, 45, 6451064, 1100),
  (11, 47, 6386277, 1101),
  (11, 49, 1836020325, 1102),
  (11, 51, 1952997742, 1103),
  (11, 53, 7237495, 1104),
  (11, 55, 6844279, 1105),
  (11, 57, 1835101817, 1106),
  (11, 59, 1751217765, 1107),
  (11, 61, 1651471464, 1108),
  (11, 63, 6840676, 1109),
  (12, 13, 4294967295, 1401)]
def a_tS : List (Nat × Nat × Nat × Nat) := [(2, 17, 0, 377),
  (8, 68, 1, 509),
  (10, 213, 2, 768),
  (10, 215, 3, 769),
  (10, 217, 4, 770),
  (10, 219, 5, 771),
  (10, 221, 6, 772),
  (10, 223, 7, 773),
  (10, 225, 8, 774),
  (10, 227, 9, 775),
  (10, 229, 10, 776),
  (10, 231, 11, 777),
  (10, 233, 12, 778),
  (10, 235, 13, 779),
  (10, 237, 14, 780),
  (10, 203, 15, 811)]
def a_tG : List (Nat × Nat × Nat × Nat) := [(20, 38, 0, 386),
  (20, 1053, 1, 525)]
def a_str : List (String × Nat × String) := [("SumsInWords$Reader", 17, "ABCDEFGHPQRS"), ("SumsInWords$Words", 68, "has boxes gets loses puts them into in a box are more than now how many have both had"), ("SumsInWords", 213, "N has X T."), ("SumsInWords", 215, "N has X boxes."), ("SumsInWords", 217, "N gets X T."), ("SumsInWords", 219, "N loses X T."), ("SumsInWords", 221, "N puts them into X boxes."), ("SumsInWords", 223, "in a box are X T."), ("SumsInWords", 225, "N has X T more than O."), ("SumsInWords", 227, "now N has X T."), ("SumsInWords", 229, "how many T has N?"), ("SumsInWords", 231, "how many T are in a box?"), ("SumsInWords", 233, "how many T have both?"), ("SumsInWords", 235, "how many T had N?"), ("SumsInWords", 237, ""), ("SumsInWords", 203, "ACP ADP AEQ BFP AGP AGR CHS ACEQ")]
def a_byt : List (List Int32) := [[65, 66, 67, 68, 69, 70, 71, 72, 80, 81, 82, 83],
  [104, 97, 115, 32, 98, 111, 120, 101, 115, 32, 103, 101, 116, 115, 32, 108, 111, 115, 101, 115, 32, 112, 117, 116, 115, 32, 116, 104, 101, 109, 32, 105, 110, 116, 111, 32, 105, 110, 32, 97, 32, 98, 111, 120, 32, 97, 114, 101, 32, 109, 111, 114, 101, 32, 116, 104, 97, 110, 32, 110, 111, 119, 32, 104, 111, 119, 32, 109, 97, 110, 121, 32, 104, 97, 118, 101, 32, 98, 111, 116, 104, 32, 104, 97, 100],
  [78, 32, 104, 97, 115, 32, 88, 32, 84, 46],
  [78, 32, 104, 97, 115, 32, 88, 32, 98, 111, 120, 101, 115, 46],
  [78, 32, 103, 101, 116, 115, 32, 88, 32, 84, 46],
  [78, 32, 108, 111, 115, 101, 115, 32, 88, 32, 84, 46],
  [78, 32, 112, 117, 116, 115, 32, 116, 104, 101, 109, 32, 105, 110, 116, 111, 32, 88, 32, 98, 111, 120, 101, 115, 46],
  [105, 110, 32, 97, 32, 98, 111, 120, 32, 97, 114, 101, 32, 88, 32, 84, 46],
  [78, 32, 104, 97, 115, 32, 88, 32, 84, 32, 109, 111, 114, 101, 32, 116, 104, 97, 110, 32, 79, 46],
  [110, 111, 119, 32, 78, 32, 104, 97, 115, 32, 88, 32, 84, 46],
  [104, 111, 119, 32, 109, 97, 110, 121, 32, 84, 32, 104, 97, 115, 32, 78, 63],
  [104, 111, 119, 32, 109, 97, 110, 121, 32, 84, 32, 97, 114, 101, 32, 105, 110, 32, 97, 32, 98, 111, 120, 63],
  [104, 111, 119, 32, 109, 97, 110, 121, 32, 84, 32, 104, 97, 118, 101, 32, 98, 111, 116, 104, 63],
  [104, 111, 119, 32, 109, 97, 110, 121, 32, 84, 32, 104, 97, 100, 32, 78, 63],
  [],
  [65, 67, 80, 32, 65, 68, 80, 32, 65, 69, 81, 32, 66, 70, 80, 32, 65, 71, 80, 32, 65, 71, 82, 32, 67, 72, 83, 32, 65, 67, 69, 81]]
/-- places of the words on array classes: int, long, boolean -/
def a_pA : List (FieldType × Nat) := [(.int, 139), (.long, 138), (.boolean, 315)]
