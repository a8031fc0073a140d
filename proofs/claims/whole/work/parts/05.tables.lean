/-! methods as values: own class, name, code, locals, answer -/
def mX0_init : aM := (0, yX0_init, cX0_init, 1, none)
def mX0_copyOf : aM := (0, yX0_copyOf, cX0_copyOf, 2, none)
def mX0_byteAt : aM := (0, yX0_byteAt, cX0_byteAt, 2, some .int)
def mX0_put : aM := (0, yX0_put, cX0_put, 2, none)
def mX0_putFour : aM := (0, yX0_putFour, cX0_putFour, 3, none)
def mX1_init : aM := (1, yX1_init, cX1_init, 1, none)
def mX1_copyOf : aM := (1, yX1_copyOf, cX1_copyOf, 2, none)
def mX1_isSettled : aM := (1, yX1_isSettled, cX1_isSettled, 1, some .boolean)
def mX1_isIdle : aM := (1, yX1_isIdle, cX1_isIdle, 1, some .boolean)
def mX1_setSpan : aM := (1, yX1_setSpan, cX1_setSpan, 4, some .boolean)
def mX1_settle : aM := (1, yX1_settle, cX1_settle, 9, some .boolean)
def mX1_isTempting : aM := (1, yX1_isTempting, cX1_isTempting, 2, some .boolean)
def mX1_low : aM := (1, yX1_low, cX1_low, 2, some .int)
def mX1_high : aM := (1, yX1_high, cX1_high, 2, some .int)
def mX1_isUsed : aM := (1, yX1_isUsed, cX1_isUsed, 2, some .boolean)
def mX2_init : aM := (2, yX2_init, cX2_init, 3, none)
def mX2_readRow : aM := (2, yX2_readRow, cX2_readRow, 2, some .boolean)
def mX2_openSentence : aM := (2, yX2_openSentence, cX2_openSentence, 1, none)
def mX2_goOn : aM := (2, yX2_goOn, cX2_goOn, 4, some .boolean)
def mX2_closeSentence : aM := (2, yX2_closeSentence, cX2_closeSentence, 2, none)
def mX2_passed : aM := (2, yX2_passed, cX2_passed, 6, some .int)
def mX2_keepPart : aM := (2, yX2_keepPart, cX2_keepPart, 3, some .boolean)
def mX2_isSame : aM := (2, yX2_isSame, cX2_isSame, 6, some .boolean)
def mX2_nextToken : aM := (2, yX2_nextToken, cX2_nextToken, 2, none)
def mX2_skipBlanks : aM := (2, yX2_skipBlanks, cX2_skipBlanks, 1, none)
def mX2_takeWord : aM := (2, yX2_takeWord, cX2_takeWord, 3, none)
def mX2_takeNumber : aM := (2, yX2_takeNumber, cX2_takeNumber, 3, none)
def mX3_init : aM := (3, yX3_init, cX3_init, 1, none)
def mX3_clear : aM := (3, yX3_clear, cX3_clear, 1, none)
def mX4_init : aM := (4, yX4_init, cX4_init, 3, none)
def mX4_renew : aM := (4, yX4_renew, cX4_renew, 2, none)
def mX4_countAll : aM := (4, yX4_countAll, cX4_countAll, 2, some .int)
def mX4_seek : aM := (4, yX4_seek, cX4_seek, 3, some .boolean)
def mX4_fact : aM := (4, yX4_fact, cX4_fact, 2, some .int)
def mX4_number : aM := (4, yX4_number, cX4_number, 2, some .int)
def mX4_waysTo : aM := (4, yX4_waysTo, cX4_waysTo, 4, some .int)
def mX4_wayNumber : aM := (4, yX4_wayNumber, cX4_wayNumber, 2, some .int)
def mX4_restart : aM := (4, yX4_restart, cX4_restart, 1, none)
def mX4_moveOn : aM := (4, yX4_moveOn, cX4_moveOn, 2, none)
def mX4_nextSum : aM := (4, yX4_nextSum, cX4_nextSum, 1, none)
def mX4_doesSumFit : aM := (4, yX4_doesSumFit, cX4_doesSumFit, 2, some .boolean)
def mX4_doesIdleFit : aM := (4, yX4_doesIdleFit, cX4_doesIdleFit, 1, some .boolean)
def mX4_areUnlike : aM := (4, yX4_areUnlike, cX4_areUnlike, 4, some .boolean)
def mX4_isTold : aM := (4, yX4_isTold, cX4_isTold, 3, some .boolean)
def mX5_init : aM := (5, yX5_init, cX5_init, 2, none)
def mX5_sentenceAt : aM := (5, yX5_sentenceAt, cX5_sentenceAt, 2, some (.object "SumsInWords$Sentence"))
def mX5_find : aM := (5, yX5_find, cX5_find, 4, some .int)
def mX5_isShape : aM := (5, yX5_isShape, cX5_isShape, 4, some .boolean)
def mX5_part : aM := (5, yX5_part, cX5_part, 2, some (.object "SumsInWords$Sentence"))
def mX5_idle : aM := (5, yX5_idle, cX5_idle, 1, some (.object "SumsInWords$Sentence"))
def mX5_hasForms : aM := (5, yX5_hasForms, cX5_hasForms, 2, some .boolean)
def mX5_hasWords : aM := (5, yX5_hasWords, cX5_hasWords, 4, some .boolean)
def mX5_isOrNone : aM := (5, yX5_isOrNone, cX5_isOrNone, 2, some .boolean)
def mX5_hasIdle : aM := (5, yX5_hasIdle, cX5_hasIdle, 2, some .boolean)
def mX5_keepFacts : aM := (5, yX5_keepFacts, cX5_keepFacts, 4, none)
def mX6_init : aM := (6, yX6_init, cX6_init, 1, none)
def mX6_copyOf : aM := (6, yX6_copyOf, cX6_copyOf, 2, none)
def mX6_setAt : aM := (6, yX6_setAt, cX6_setAt, 2, some .int)
def mX6_addUnlike : aM := (6, yX6_addUnlike, cX6_addUnlike, 3, none)
def mX6_hasAnswer : aM := (6, yX6_hasAnswer, cX6_hasAnswer, 3, some .boolean)
def mX7_init : aM := (7, yX7_init, cX7_init, 1, none)
def mX7_copyOf : aM := (7, yX7_copyOf, cX7_copyOf, 2, none)
def mX8_init : aM := (8, yX8_init, cX8_init, 1, none)
def mX8_copyOf : aM := (8, yX8_copyOf, cX8_copyOf, 2, none)
def mX8_addName : aM := (8, yX8_addName, cX8_addName, 3, some .int)
def mX8_addThing : aM := (8, yX8_addThing, cX8_addThing, 4, some .int)
def mX8_hasName : aM := (8, yX8_hasName, cX8_hasName, 2, some .boolean)
def mX8_hasThing : aM := (8, yX8_hasThing, cX8_hasThing, 2, some .boolean)
def mX8_nameWord : aM := (8, yX8_nameWord, cX8_nameWord, 2, some .long)
def mX8_thingWord : aM := (8, yX8_thingWord, cX8_thingWord, 2, some .long)
def mX8_mostOf : aM := (8, yX8_mostOf, cX8_mostOf, 2, some .int)
def mX8_findName : aM := (8, yX8_findName, cX8_findName, 3, some .int)
def mX8_findThing : aM := (8, yX8_findThing, cX8_findThing, 3, some .int)
def mX8_find : aM := (8, yX8_find, cX8_find, 5, some .int)
def mX8_isFree : aM := (8, yX8_isFree, cX8_isFree, 3, some .boolean)
def mX8_isWord : aM := (8, yX8_isWord, cX8_isWord, 5, some .boolean)
def mX8_isKept : aM := (8, yX8_isKept, cX8_isKept, 6, some .boolean)
def mX9_init : aM := (9, yX9_init, cX9_init, 3, none)
def mX9_putTale : aM := (9, yX9_putTale, cX9_putTale, 7, none)
def mX9_putIdle : aM := (9, yX9_putIdle, cX9_putIdle, 3, none)
def mX9_putSentence : aM := (9, yX9_putSentence, cX9_putSentence, 3, none)
def mX9_putPart : aM := (9, yX9_putPart, cX9_putPart, 2, none)
def mX9_putWord : aM := (9, yX9_putWord, cX9_putWord, 5, none)
def mX9_putNumber : aM := (9, yX9_putNumber, cX9_putNumber, 3, none)
def mX10_init : aM := (10, yX10_init, cX10_init, 2, none)
def mX10_name : aM := (10, yX10_name, cX10_name, 3, some .int)
def mX10_thing : aM := (10, yX10_thing, cX10_thing, 4, some .int)
def mX10_span : aM := (10, yX10_span, cX10_span, 4, some .boolean)
def mX10_ways : aM := (10, yX10_ways, cX10_ways, 2, some .boolean)
def mX10_choose : aM := (10, yX10_choose, cX10_choose, 7, some .int)
def mX10_sets : aM := (10, yX10_sets, cX10_sets, 1, some .int)
def mX10_set : aM := (10, yX10_set, cX10_set, 3, some .int)
def mX10_tells : aM := (10, yX10_tells, cX10_tells, 3, some .int)
def mX10_sheet : aM := (10, yX10_sheet, cX10_sheet, 4, some .int)
def mX10_on : aM := (10, yX10_on, cX10_on, 2, some .int)
def mX10_write : aM := (10, yX10_write, cX10_write, 5, some .int)
def mX10_written : aM := (10, yX10_written, cX10_written, 2, some .int)
def mX10_take : aM := (10, yX10_take, cX10_take, 1, some .int)
def mX10_feed : aM := (10, yX10_feed, cX10_feed, 7, some .int)
def mX10_end : aM := (10, yX10_end, cX10_end, 2, some .int)
def mX10_read : aM := (10, yX10_read, cX10_read, 2, some .int)
def mX10_fault : aM := (10, yX10_fault, cX10_fault, 2, some .int)
def mX10_got : aM := (10, yX10_got, cX10_got, 2, some .int)
def mX10_count : aM := (10, yX10_count, cX10_count, 2, some .int)
def mX10_image : aM := (10, yX10_image, cX10_image, 2, some .boolean)
def mX10_again : aM := (10, yX10_again, cX10_again, 2, some .boolean)
def mX10_bodyLength : aM := (10, yX10_bodyLength, cX10_bodyLength, 1, some .int)
def mX10_mayTurn : aM := (10, yX10_mayTurn, cX10_mayTurn, 1, some .boolean)
def mX10_hasPair : aM := (10, yX10_hasPair, cX10_hasPair, 1, some .boolean)
def mX10_unturned : aM := (10, yX10_unturned, cX10_unturned, 2, some .int)
def mX10_formAt : aM := (10, yX10_formAt, cX10_formAt, 4, some .char)
def mX10_numberAt : aM := (10, yX10_numberAt, cX10_numberAt, 3, some .int)
def mX10_isOfM : aM := (10, yX10_isOfM, cX10_isOfM, 2, some .boolean)
def mX10_isQuestion : aM := (10, yX10_isQuestion, cX10_isQuestion, 1, some .boolean)
def mX10_isLetter : aM := (10, yX10_isLetter, cX10_isLetter, 1, some .boolean)
def mX10_isDigit : aM := (10, yX10_isDigit, cX10_isDigit, 1, some .boolean)
def mX10_textOf : aM := (10, yX10_textOf, cX10_textOf, 1, some (.object "java/lang/String"))
def mX10_answerOf : aM := (10, yX10_answerOf, cX10_answerOf, 4, some .int)
def mX10_atLeastOne : aM := (10, yX10_atLeastOne, cX10_atLeastOne, 1, some .int)
def mX10_share : aM := (10, yX10_share, cX10_share, 2, some .int)
def mX11_init : aM := (11, yX11_init, cX11_init, 2, none)
def mX11_isIn : aM := (11, yX11_isIn, cX11_isIn, 3, some .boolean)
def mX11_wordOf : aM := (11, yX11_wordOf, cX11_wordOf, 2, some .int)
def mX11_spelt : aM := (11, yX11_spelt, cX11_spelt, 1, some .long)
def mX11_named : aM := (11, yX11_named, cX11_named, 4, some .int)
def mX11_canBe : aM := (11, yX11_canBe, cX11_canBe, 7, some .boolean)
def mX11_name : aM := (11, yX11_name, cX11_name, 3, some .int)
def mX11_thing : aM := (11, yX11_thing, cX11_thing, 4, some .int)
def mX11_span : aM := (11, yX11_span, cX11_span, 4, some .boolean)
def mX11_ways : aM := (11, yX11_ways, cX11_ways, 2, some .boolean)
def mX11_shape : aM := (11, yX11_shape, cX11_shape, 1, some .int)
def mX11_n : aM := (11, yX11_n, cX11_n, 1, some .int)
def mX11_m : aM := (11, yX11_m, cX11_m, 1, some .int)
def mX11_t : aM := (11, yX11_t, cX11_t, 1, some .int)
def mX11_isIdle : aM := (11, yX11_isIdle, cX11_isIdle, 1, some .boolean)
def mX11_hasOther : aM := (11, yX11_hasOther, cX11_hasOther, 1, some .boolean)
def mX11_canTurn : aM := (11, yX11_canTurn, cX11_canTurn, 1, some .boolean)
def mX11_isName : aM := (11, yX11_isName, cX11_isName, 2, some .boolean)
def mX11_isThing : aM := (11, yX11_isThing, cX11_isThing, 2, some .boolean)
def mX11_choose : aM := (11, yX11_choose, cX11_choose, 9, some .int)
def mX11_answerOf : aM := (11, yX11_answerOf, cX11_answerOf, 5, some .int)
def mX11_answer : aM := (11, yX11_answer, cX11_answer, 1, some .int)
def mX11_way : aM := (11, yX11_way, cX11_way, 3, some .int)
def mX11_isTempting : aM := (11, yX11_isTempting, cX11_isTempting, 3, some .boolean)
def mX11_isRight : aM := (11, yX11_isRight, cX11_isRight, 4, some .boolean)
def mX11_isUnlike : aM := (11, yX11_isUnlike, cX11_isUnlike, 4, some .boolean)
def mX11_least : aM := (11, yX11_least, cX11_least, 2, some .int)
def mX11_greatest : aM := (11, yX11_greatest, cX11_greatest, 2, some .int)
def mX11_scan : aM := (11, yX11_scan, cX11_scan, 4, some .int)
def mX11_looks : aM := (11, yX11_looks, cX11_looks, 2, some .boolean)
def mX11_sets : aM := (11, yX11_sets, cX11_sets, 1, some .int)
def mX11_set : aM := (11, yX11_set, cX11_set, 3, some .int)
def mX11_tells : aM := (11, yX11_tells, cX11_tells, 5, some .int)
def mX11_sheet : aM := (11, yX11_sheet, cX11_sheet, 4, some .int)
def mX11_comes : aM := (11, yX11_comes, cX11_comes, 4, none)
def mX11_on : aM := (11, yX11_on, cX11_on, 2, some .int)
def mX11_puts : aM := (11, yX11_puts, cX11_puts, 2, none)
def mX11_blank : aM := (11, yX11_blank, cX11_blank, 1, none)
def mX11_says : aM := (11, yX11_says, cX11_says, 4, none)
def mX11_keyword : aM := (11, yX11_keyword, cX11_keyword, 2, none)
def mX11_number : aM := (11, yX11_number, cX11_number, 3, none)
def mX11_nameOf : aM := (11, yX11_nameOf, cX11_nameOf, 2, none)
def mX11_thingOf : aM := (11, yX11_thingOf, cX11_thingOf, 2, none)
def mX11_sentence : aM := (11, yX11_sentence, cX11_sentence, 6, none)
def mX11_question : aM := (11, yX11_question, cX11_question, 4, none)
def mX11_kindOf : aM := (11, yX11_kindOf, cX11_kindOf, 2, some .int)
def mX11_sentencesOf : aM := (11, yX11_sentencesOf, cX11_sentencesOf, 1, some .int)
def mX11_numberOf : aM := (11, yX11_numberOf, cX11_numberOf, 2, some .int)
def mX11_write : aM := (11, yX11_write, cX11_write, 9, some .int)
def mX11_written : aM := (11, yX11_written, cX11_written, 2, some .int)
def mX11_take : aM := (11, yX11_take, cX11_take, 2, some .int)
def mX11_feed : aM := (11, yX11_feed, cX11_feed, 8, some .int)
def mX11_end : aM := (11, yX11_end, cX11_end, 2, some .int)
def mX11_byteAt : aM := (11, yX11_byteAt, cX11_byteAt, 2, some .int)
def mX11_isLetter : aM := (11, yX11_isLetter, cX11_isLetter, 1, some .boolean)
def mX11_isDigit : aM := (11, yX11_isDigit, cX11_isDigit, 1, some .boolean)
def mX11_advance : aM := (11, yX11_advance, cX11_advance, 4, none)
def mX11_stops : aM := (11, yX11_stops, cX11_stops, 1, none)
def mX11_isNow : aM := (11, yX11_isNow, cX11_isNow, 2, some .boolean)
def mX11_takes : aM := (11, yX11_takes, cX11_takes, 2, some .boolean)
def mX11_must : aM := (11, yX11_must, cX11_must, 2, none)
def mX11_aNumber : aM := (11, yX11_aNumber, cX11_aNumber, 2, some .int)
def mX11_aName : aM := (11, yX11_aName, cX11_aName, 2, some .int)
def mX11_aThing : aM := (11, yX11_aThing, cX11_aThing, 2, some .int)
def mX11_keeps : aM := (11, yX11_keeps, cX11_keeps, 7, none)
def mX11_fAt : aM := (11, yX11_fAt, cX11_fAt, 2, none)
def mX11_hasAt : aM := (11, yX11_hasAt, cX11_hasAt, 4, none)
def mX11_namedAt : aM := (11, yX11_namedAt, cX11_namedAt, 4, none)
def mX11_aSentence : aM := (11, yX11_aSentence, cX11_aSentence, 3, none)
def mX11_aQuestion : aM := (11, yX11_aQuestion, cX11_aQuestion, 4, none)
def mX11_at : aM := (11, yX11_at, cX11_at, 2, some .int)
def mX11_isTale : aM := (11, yX11_isTale, cX11_isTale, 10, some .boolean)
def mX11_gets : aM := (11, yX11_gets, cX11_gets, 6, none)
def mX11_tale : aM := (11, yX11_tale, cX11_tale, 4, some .int)
def mX11_read : aM := (11, yX11_read, cX11_read, 2, some .int)
def mX11_fault : aM := (11, yX11_fault, cX11_fault, 2, some .int)
def mX11_got : aM := (11, yX11_got, cX11_got, 2, some .int)
def mX11_count : aM := (11, yX11_count, cX11_count, 2, some .int)
def mX11_image : aM := (11, yX11_image, cX11_image, 3, some .boolean)
def mX11_again : aM := (11, yX11_again, cX11_again, 3, some .boolean)
def mJ9_abs_0f7a4 : aM := (26, yJ9_abs_0f7a4, cJ9_abs_0f7a4, 1, some .int)
def mJ9_max_7cf53 : aM := (26, yJ9_max_7cf53, cJ9_max_7cf53, 2, some .int)
def mJ9_min_7cf53 : aM := (26, yJ9_min_7cf53, cJ9_min_7cf53, 2, some .int)
def mJ0_length_8abf5 : aM := (20, yJ0_length_8abf5, cJ0_length_8abf5, 1, some .int)
def mJ0_charAt_5068e : aM := (20, yJ0_charAt_5068e, cJ0_charAt_5068e, 2, some .char)
def mJ0_coder_7d493 : aM := (20, yJ0_coder_7d493, cJ0_coder_7d493, 1, some .byte)
def mJ0_isLatin1_aae02 : aM := (20, yJ0_isLatin1_aae02, cJ0_isLatin1_aae02, 1, some .boolean)
def mJ0_checkIndex_df160 : aM := (20, yJ0_checkIndex_df160, cJ0_checkIndex_df160, 2, none)
def mJ1_charAt_3b067 : aM := (21, yJ1_charAt_3b067, cJ1_charAt_3b067, 2, some .char)
def mJ2_getChar_3b067 : aM := (22, yJ2_getChar_3b067, cJ2_getChar_3b067, 2, some .char)
def mJ2_length_9d52b : aM := (22, yJ2_length_9d52b, cJ2_length_9d52b, 1, some .int)
def mJ2_charAt_3b067 : aM := (22, yJ2_charAt_3b067, cJ2_charAt_3b067, 2, some .char)
def mJ2_checkIndex_2214a : aM := (22, yJ2_checkIndex_2214a, cJ2_checkIndex_2214a, 2, none)
def mJ7_fill_53178 : aM := (24, yJ7_fill_53178, cJ7_fill_53178, 4, none)
def mJ3_checkIndex_8e157 : aM := (25, yJ3_checkIndex_8e157, cJ3_checkIndex_8e157, 3, some .int)
def mL_law : aM := (12, yL_law, cL_law, 4, some .boolean)
def mNo : aM := (99, objectInit, ⟨#[]⟩, 0, none)
def a_ms : List aM := [mX0_init, mX0_copyOf, mX0_byteAt, mX0_put, mX0_putFour, mX1_init, mX1_copyOf, mX1_isSettled, mX1_isIdle, mX1_setSpan, mX1_settle, mX1_isTempting, mX1_low, mX1_high, mX1_isUsed, mX2_init, mX2_readRow, mX2_openSentence, mX2_goOn, mX2_closeSentence, mX2_passed, mX2_keepPart, mX2_isSame, mX2_nextToken, mX2_skipBlanks, mX2_takeWord, mX2_takeNumber, mX3_init, mX3_clear, mX4_init, mX4_renew, mX4_countAll, mX4_seek, mX4_fact, mX4_number, mX4_waysTo, mX4_wayNumber, mX4_restart, mX4_moveOn, mX4_nextSum, mX4_doesSumFit, mX4_doesIdleFit, mX4_areUnlike, mX4_isTold, mX5_init, mX5_sentenceAt, mX5_find, mX5_isShape, mX5_part, mX5_idle, mX5_hasForms, mX5_hasWords, mX5_isOrNone, mX5_hasIdle, mX5_keepFacts, mX6_init, mX6_copyOf, mX6_setAt, mX6_addUnlike, mX6_hasAnswer, mX7_init, mX7_copyOf, mX8_init, mX8_copyOf, mX8_addName, mX8_addThing, mX8_hasName, mX8_hasThing, mX8_nameWord, mX8_thingWord, mX8_mostOf, mX8_findName, mX8_findThing, mX8_find, mX8_isFree, mX8_isWord, mX8_isKept, mX9_init, mX9_putTale, mX9_putIdle, mX9_putSentence, mX9_putPart, mX9_putWord, mX9_putNumber, mX10_init, mX10_name, mX10_thing, mX10_span, mX10_ways, mX10_choose, mX10_sets, mX10_set, mX10_tells, mX10_sheet, mX10_on, mX10_write, mX10_written, mX10_take, mX10_feed, mX10_end, mX10_read, mX10_fault, mX10_got, mX10_count, mX10_image, mX10_again, mX10_bodyLength, mX10_mayTurn, mX10_hasPair, mX10_unturned, mX10_formAt, mX10_numberAt, mX10_isOfM, mX10_isQuestion, mX10_isLetter, mX10_isDigit, mX10_textOf, mX10_answerOf, mX10_atLeastOne, mX10_share, mX11_init, mX11_isIn, mX11_wordOf, mX11_spelt, mX11_named, mX11_canBe, mX11_name, mX11_thing, mX11_span, mX11_ways, mX11_shape, mX11_n, mX11_m, mX11_t, mX11_isIdle, mX11_hasOther, mX11_canTurn, mX11_isName, mX11_isThing, mX11_choose, mX11_answerOf, mX11_answer, mX11_way, mX11_isTempting, mX11_isRight, mX11_isUnlike, mX11_least, mX11_greatest, mX11_scan, mX11_looks, mX11_sets, mX11_set, mX11_tells, mX11_sheet, mX11_comes, mX11_on, mX11_puts, mX11_blank, mX11_says, mX11_keyword, mX11_number, mX11_nameOf, mX11_thingOf, mX11_sentence, mX11_question, mX11_kindOf, mX11_sentencesOf, mX11_numberOf, mX11_write, mX11_written, mX11_take, mX11_feed, mX11_end, mX11_byteAt, mX11_isLetter, mX11_isDigit, mX11_advance, mX11_stops, mX11_isNow, mX11_takes, mX11_must, mX11_aNumber, mX11_aName, mX11_aThing, mX11_keeps, mX11_fAt, mX11_hasAt, mX11_namedAt, mX11_aSentence, mX11_aQuestion, mX11_at, mX11_isTale, mX11_gets, mX11_tale, mX11_read, mX11_fault, mX11_got, mX11_count, mX11_image, mX11_again, mJ9_abs_0f7a4, mJ9_max_7cf53, mJ9_min_7cf53, mJ0_length_8abf5, mJ0_charAt_5068e, mJ0_coder_7d493, mJ0_isLatin1_aae02, mJ0_checkIndex_df160, mJ1_charAt_3b067, mJ2_getChar_3b067, mJ2_length_9d52b, mJ2_charAt_3b067, mJ2_checkIndex_2214a, mJ7_fill_53178, mJ3_checkIndex_8e157, mL_law]
def a_m (j : Nat) : aM := a_ms.getD j mNo
def a_cp : List Nat := [208, 831, 823, 760, 842, 143, 994, 611, 591, 571, 654, 587, 595, 603, 599, 372, 855, 859, 899, 917, 905, 909, 913, 876, 880, 886, 895, 325, 872, 259, 575, 666, 693, 697, 701, 709, 635, 607, 671, 675, 615, 679, 628, 642, 378, 864, 924, 928, 937, 957, 933, 943, 949, 953, 962, 191, 999, 730, 718, 722, 111, 985, 117, 989, 490, 563, 658, 583, 786, 796, 579, 548, 555, 551, 494, 497, 504, 319, 745, 751, 756, 782, 791, 800, 103, 486, 559, 567, 646, 650, 684, 689, 705, 713, 726, 734, 819, 827, 838, 847, 851, 969, 973, 977, 981, 1006, 741, 737, 662, 806, 803, 815, 812, 920, 501, 891, 763, 618, 621, 624, 1011, 1082, 1085, 1232, 1108, 1078, 1074, 1112, 1116, 1120, 1143, 1267, 1263, 1159, 1170, 1135, 1218, 1128, 1132, 1124, 1166, 1163, 1182, 1178, 1155, 1174, 1147, 1151, 1139, 1194, 1186, 1190, 1199, 1203, 1207, 1211, 1244, 1240, 1236, 1229, 1252, 1248, 1256, 1225, 1271, 1259, 1221, 1274, 1215, 1278, 1282, 1286, 1290, 1302, 1305, 1308, 1298, 1332, 1316, 1328, 1324, 1336, 1348, 1340, 1344, 1320, 1356, 1352, 1312, 1360, 1371, 1368, 1375, 1364, 1294, 1379, 1383, 1387, 1391, 1395, 638, 631, 867, 412, 510, 416, 514, 520, 517, 538, 534, 528, 531, 147, 525, 0]
def a_nm (o : Nat) : String := match o with
  | 0 => RX0
  | 1 => RX1
  | 2 => RX2
  | 3 => RX3
  | 4 => RX4
  | 5 => RX5
  | 6 => RX6
  | 7 => RX7
  | 8 => RX8
  | 9 => RX9
  | 10 => RX10
  | 11 => RX11
  | 12 => RL
  | 20 => RJ0
  | 21 => RJ1
  | 22 => RJ2
  | 23 => RJ10
  | 24 => RJ7
  | 25 => RJ3
  | 26 => RJ9
  | _ => ""
abbrev aCl : List vw_C := [(RX0, TX0, 2), (RX1, TX1, 9), (RX2, TX2, 14), (RX3, TX3, 5), (RX4, TX4, 17), (RX5, TX5, 8), (RX6, TX6, 3), (RX7, TX7, 8), (RX8, TX8, 5), (RX9, TX9, 3), (RX10, TX10, 5), (RX11, TX11, 19)]
def a_T (c : Nat) : u_T := match c with
  | 0 => TX0
  | 1 => TX1
  | 2 => TX2
  | 3 => TX3
  | 4 => TX4
  | 5 => TX5
  | 6 => TX6
  | 7 => TX7
  | 8 => TX8
  | 9 => TX9
  | 10 => TX10
  | 11 => TX11
  | _ => TX0
def a_ty (c : Nat) : Nat → FieldType := match c with
  | 0 => tyX0
  | 1 => tyX1
  | 2 => tyX2
  | 3 => tyX3
  | 4 => tyX4
  | 5 => tyX5
  | 6 => tyX6
  | 7 => tyX7
  | 8 => tyX8
  | 9 => tyX9
  | 10 => tyX10
  | 11 => tyX11
  | _ => fun _ => .int
def a_N (c : Nat) : Nat := match c with
  | 0 => 2
  | 1 => 9
  | 2 => 14
  | 3 => 5
  | 4 => 17
  | 5 => 8
  | 6 => 3
  | 7 => 8
  | 8 => 5
  | 9 => 3
  | 10 => 5
  | 11 => 19
  | _ => 0
def a_df (c : Nat) : List Value := match c with
  | 0 => [.null, .int 0]
  | 1 => [.null, .null, .int 0, .int 0, .int 0, .int 0, .int 0, .int 0, .int 0]
  | 2 => [.null, .null, .null, .null, .int 0, .int 0, .int 0, .int 0, .int 0, .int 0, .int 0, .int 0, .int 0, .int 0]
  | 3 => [.int 0, .int 0, .int 0, .int 0, .int 0]
  | 4 => [.null, .null, .null, .null, .null, .null, .int 0, .int 0, .int 0, .int 0, .int 0, .int 0, .int 0, .int 0, .int 0, .int 0, .int 0]
  | 5 => [.null, .int 0, .int 0, .int 0, .int 0, .int 0, .int 0, .int 0]
  | 6 => [.null, .null, .int 0]
  | 7 => [.null, .null, .null, .null, .null, .null, .int 0, .int 0]
  | 8 => [.null, .null, .null, .int 0, .int 0]
  | 9 => [.null, .null, .null]
  | 10 => [.null, .null, .null, .null, .null]
  | 11 => [.null, .null, .null, .int 0, .int 0, .int 0, .int 0, .null, .int 0, .int 0, .int 0, .int 0, .int 0, .int 0, .null, .int 0, .int 0, .int 0, .int 0]
  | _ => []
def a_tF : List (Nat × Nat × Nat × Nat × Nat × Nat) := [(8, 9, 8, 0, 0, 119),
  (8, 15, 8, 1, 0, 120),
  (8, 18, 8, 2, 0, 121),
  (8, 28, 8, 3, 0, 122),
  (10, 190, 8, 3, 0, 123),
  (8, 32, 8, 4, 0, 124),
  (10, 193, 8, 4, 0, 125),
  (1, 9, 1, 0, 0, 148),
  (1, 15, 1, 1, 0, 149),
  (1, 49, 1, 2, 0, 150),
  (10, 79, 1, 2, 0, 151),
  (1, 18, 1, 3, 0, 152),
  (9, 32, 1, 3, 0, 153),
  (4, 125, 1, 3, 0, 154),
  (10, 126, 1, 3, 0, 155),
  (1, 22, 1, 4, 0, 156),
  (9, 64, 1, 4, 0, 157),
  (1, 25, 1, 5, 0, 158),
  (9, 61, 1, 5, 0, 159),
  (1, 28, 1, 6, 0, 160),
  (4, 44, 1, 6, 0, 161),
  (9, 73, 1, 6, 0, 162),
  (1, 31, 1, 7, 0, 163),
  (9, 93, 1, 7, 0, 164),
  (1, 34, 1, 8, 0, 165),
  (4, 58, 1, 8, 0, 166),
  (9, 96, 1, 8, 0, 167),
  (6, 9, 6, 0, 0, 193),
  (6, 15, 6, 1, 0, 194),
  (6, 24, 6, 2, 0, 195),
  (10, 113, 6, 2, 0, 196),
  (0, 9, 0, 0, 0, 210),
  (9, 26, 0, 1, 0, 211),
  (0, 21, 0, 1, 0, 212),
  (2, 160, 0, 1, 0, 213),
  (10, 142, 0, 1, 0, 214),
  (7, 12, 7, 0, 0, 221),
  (10, 26, 7, 0, 0, 222),
  (7, 21, 7, 1, 0, 223),
  (10, 22, 7, 1, 0, 224),
  (7, 28, 7, 2, 0, 225),
  (10, 109, 7, 2, 0, 226),
  (7, 35, 7, 3, 0, 227),
  (10, 39, 7, 3, 0, 228),
  (7, 39, 7, 4, 0, 229),
  (10, 52, 7, 4, 0, 230),
  (7, 42, 7, 5, 0, 231),
  (10, 168, 7, 5, 0, 232),
  (7, 46, 7, 6, 0, 233),
  (10, 178, 7, 6, 0, 234),
  (7, 50, 7, 7, 0, 235),
  (10, 184, 7, 7, 0, 236),
  (4, 36, 4, 0, 0, 261),
  (4, 40, 4, 1, 0, 262),
  (4, 9, 4, 2, 0, 263),
  (4, 15, 4, 3, 0, 264),
  (4, 19, 4, 4, 0, 265),
  (4, 22, 4, 5, 0, 266),
  (4, 55, 4, 6, 0, 267),
  (4, 61, 4, 7, 0, 268),
  (4, 25, 4, 8, 0, 269),
  (4, 29, 4, 9, 0, 270),
  (4, 32, 4, 10, 0, 271),
  (4, 116, 4, 11, 0, 272),
  (4, 92, 4, 12, 0, 273),
  (4, 95, 4, 13, 0, 274),
  (4, 98, 4, 14, 0, 275),
  (4, 101, 4, 15, 0, 276),
  (4, 86, 4, 16, 0, 277),
  (10, 103, 4, 16, 1, 278),
  (3, 9, 3, 0, 0, 327),
  (9, 53, 3, 0, 0, 328),
  (2, 102, 3, 0, 0, 329),
  (5, 74, 3, 0, 0, 330),
  (3, 15, 3, 1, 0, 331),
  (9, 67, 3, 1, 0, 332),
  (2, 120, 3, 1, 0, 333),
  (5, 86, 3, 1, 0, 334),
  (3, 19, 3, 2, 0, 335),
  (9, 70, 3, 2, 0, 336),
  (2, 123, 3, 2, 0, 337),
  (5, 112, 3, 2, 0, 338),
  (3, 22, 3, 3, 0, 339),
  (9, 76, 3, 3, 0, 340),
  (2, 129, 3, 3, 0, 341),
  (5, 98, 3, 3, 0, 342),
  (3, 25, 3, 4, 0, 343),
  (9, 88, 3, 4, 0, 344),
  (2, 135, 3, 4, 0, 345),
  (5, 129, 3, 4, 0, 346),
  (9, 18, 9, 0, 0, 358),
  (9, 22, 9, 1, 0, 359),
  (9, 12, 9, 2, 0, 360),
  (5, 11, 5, 0, 0, 383),
  (5, 27, 5, 1, 0, 384),
  (5, 31, 5, 2, 0, 385),
  (5, 46, 5, 3, 0, 386),
  (5, 50, 5, 4, 0, 387),
  (5, 89, 5, 5, 0, 388),
  (5, 95, 5, 6, 0, 389),
  (5, 101, 5, 7, 0, 390),
  (2, 30, 2, 0, 0, 419),
  (2, 34, 2, 1, 0, 420),
  (2, 12, 2, 2, 0, 421),
  (10, 161, 2, 2, 0, 422),
  (2, 26, 2, 3, 0, 423),
  (2, 42, 2, 4, 0, 424),
  (10, 165, 2, 4, 0, 425),
  (2, 83, 2, 5, 0, 426),
  (10, 181, 2, 5, 0, 427),
  (2, 62, 2, 6, 0, 428),
  (2, 45, 2, 7, 0, 429),
  (2, 80, 2, 8, 0, 430),
  (10, 187, 2, 8, 0, 431),
  (2, 38, 2, 9, 0, 432),
  (2, 55, 2, 10, 0, 433),
  (2, 117, 2, 11, 0, 434),
  (2, 126, 2, 12, 0, 435),
  (2, 132, 2, 13, 0, 436),
  (10, 10, 10, 0, 0, 467),
  (10, 16, 10, 1, 0, 468),
  (10, 33, 10, 2, 0, 469),
  (10, 46, 10, 3, 0, 470),
  (10, 56, 10, 4, 0, 471),
  (11, 7, 11, 0, 0, 1013),
  (11, 13, 11, 1, 0, 1014),
  (11, 17, 11, 2, 0, 1015),
  (11, 100, 11, 3, 0, 1016),
  (11, 104, 11, 4, 0, 1017),
  (11, 107, 11, 5, 0, 1018),
  (11, 114, 11, 6, 0, 1019),
  (11, 21, 11, 7, 0, 1020),
  (11, 206, 11, 8, 0, 1021),
  (11, 209, 11, 9, 0, 1022),
  (11, 215, 11, 10, 0, 1023),
  (11, 218, 11, 11, 0, 1024),
  (11, 227, 11, 12, 0, 1025),
  (11, 230, 11, 13, 0, 1026),
  (11, 24, 11, 14, 0, 1027),
  (11, 249, 11, 15, 0, 1028),
  (11, 273, 11, 16, 0, 1029),
  (11, 276, 11, 17, 0, 1030),
  (11, 279, 11, 18, 0, 1031),
  (20, 9, 20, 0, 0, 1397),
  (20, 15, 20, 1, 0, 1398)]
def a_tM : List (Nat × Nat × Nat × Nat × Nat × Nat × Nat × Nat × Nat) := [(12, 9, 4, 0, 84, 101, 102, 101, 80),
  (10, 1, 6, 0, 0, 104, 105, 106, 104),
  (10, 9, 4, 0, 60, 109, 110, 109, 81),
  (7, 3, 6, 0, 0, 112, 105, 106, 112),
  (7, 11, 5, 0, 62, 115, 116, 115, 82),
  (8, 3, 6, 0, 0, 118, 105, 106, 118),
  (7, 20, 4, 0, 5, 141, 142, 141, 83),
  (1, 3, 6, 0, 0, 144, 105, 106, 144),
  (1, 37, 2, 2, 213, 145, 146, 145, 84),
  (7, 27, 5, 0, 55, 189, 190, 189, 85),
  (6, 3, 6, 0, 0, 192, 105, 106, 192),
  (7, 34, 5, 0, 0, 206, 207, 206, 86),
  (0, 3, 6, 0, 0, 209, 105, 106, 209),
  (7, 53, 2, 2, 213, 220, 146, 220, 84),
  (10, 30, 4, 2, 29, 257, 258, 257, 87),
  (4, 3, 6, 0, 0, 260, 105, 106, 260),
  (10, 43, 4, 2, 77, 317, 318, 317, 88),
  (9, 3, 6, 0, 0, 320, 105, 106, 320),
  (9, 11, 5, 0, 27, 323, 324, 323, 89),
  (3, 3, 6, 0, 0, 326, 105, 106, 326),
  (10, 55, 4, 2, 15, 370, 371, 370, 90),
  (2, 3, 6, 0, 0, 373, 105, 106, 373),
  (2, 11, 4, 0, 44, 376, 377, 376, 91),
  (5, 3, 6, 0, 0, 379, 105, 106, 379),
  (5, 17, 5, 0, 27, 382, 324, 382, 89),
  (2, 20, 0, 0, 203, 409, 410, 411, 92),
  (20, 335, 0, 0, 205, 413, 414, 415, 92),
  (12, 15, 0, 1, 85, 483, 484, 485, 80),
  (10, 60, 0, 1, 64, 487, 488, 489, 82),
  (8, 35, 0, 1, 74, 491, 493, 0, 82),
  (8, 50, 2, 1, 75, 495, 496, 495, 82),
  (8, 65, 3, 1, 114, 499, 500, 499, 80),
  (8, 53, 2, 1, 76, 502, 503, 502, 82),
  (8, 70, 0, 0, 203, 506, 410, 411, 92),
  (8, 76, 0, 1, 204, 507, 508, 509, 92),
  (20, 492, 0, 0, 206, 511, 512, 513, 92),
  (20, 495, 2, 2, 208, 515, 516, 515, 94),
  (21, 9, 2, 2, 207, 518, 519, 518, 92),
  (20, 1059, 2, 3, 214, 523, 524, 523, 95),
  (20, 498, 2, 2, 211, 526, 527, 526, 96),
  (22, 67, 2, 2, 212, 529, 530, 529, 96),
  (22, 48, 2, 1, 210, 532, 533, 532, 96),
  (22, 414, 2, 2, 207, 535, 519, 535, 92),
  (22, 71, 2, 2, 209, 536, 537, 536, 96),
  (8, 56, 0, 1, 71, 545, 546, 547, 82),
  (8, 46, 2, 3, 73, 549, 550, 549, 82),
  (8, 60, 0, 1, 72, 552, 553, 554, 82),
  (12, 20, 0, 2, 86, 556, 557, 558, 80),
  (10, 66, 0, 2, 65, 560, 561, 562, 82),
  (12, 25, 0, 3, 87, 564, 565, 566, 80),
  (10, 70, 0, 3, 9, 568, 569, 570, 83),
  (10, 76, 0, 0, 30, 572, 573, 574, 87),
  (4, 49, 0, 1, 70, 576, 577, 578, 82),
  (8, 43, 0, 1, 67, 580, 581, 582, 82),
  (4, 64, 0, 1, 11, 584, 585, 586, 83),
  (1, 64, 0, 0, 8, 588, 589, 590, 83),
  (4, 68, 0, 1, 12, 592, 593, 594, 83),
  (1, 68, 0, 1, 14, 596, 598, 1, 83),
  (4, 70, 0, 1, 13, 600, 601, 602, 83),
  (4, 72, 0, 0, 37, 604, 606, 2, 87),
  (4, 79, 0, 0, 7, 608, 609, 610, 83),
  (4, 113, 0, 0, 40, 612, 614, 3, 87),
  (4, 128, 3, 4, 117, 616, 617, 616, 80),
  (10, 239, 2, 1, 118, 619, 620, 619, 80),
  (10, 242, 2, 2, 119, 622, 623, 622, 80),
  (4, 132, 0, 2, 42, 625, 627, 4, 87),
  (4, 109, 8, 2, 0, 629, 630, 631, 97),
  (4, 89, 0, 1, 36, 632, 634, 5, 87),
  (4, 104, 10, 1, 0, 636, 637, 638, 97),
  (4, 139, 0, 1, 43, 639, 641, 6, 87),
  (12, 30, 0, 1, 88, 643, 644, 645, 80),
  (12, 35, 0, 6, 89, 647, 648, 649, 80),
  (10, 83, 0, 7, 10, 651, 652, 653, 83),
  (1, 52, 0, 1, 66, 655, 656, 657, 82),
  (1, 58, 0, 1, 67, 659, 581, 582, 82),
  (1, 61, 3, 1, 108, 660, 661, 660, 80),
  (10, 87, 0, 0, 31, 663, 664, 665, 87),
  (4, 76, 0, 0, 38, 668, 670, 7, 87),
  (4, 119, 0, 0, 39, 672, 674, 8, 87),
  (4, 122, 0, 0, 41, 676, 678, 9, 87),
  (4, 136, 0, 0, 8, 680, 589, 590, 83),
  (12, 40, 0, 0, 90, 681, 682, 683, 80),
  (10, 91, 0, 0, 7, 685, 609, 610, 83),
  (12, 45, 0, 2, 91, 686, 687, 688, 80),
  (10, 95, 0, 1, 32, 690, 691, 692, 87),
  (10, 99, 0, 1, 33, 694, 695, 696, 87),
  (4, 83, 0, 1, 34, 698, 699, 700, 87),
  (12, 50, 0, 2, 92, 702, 703, 704, 80),
  (10, 106, 0, 1, 35, 706, 707, 708, 87),
  (12, 54, 0, 1, 93, 710, 711, 712, 80),
  (10, 119, 0, 2, 58, 715, 716, 717, 85),
  (6, 28, 0, 1, 59, 719, 721, 10, 85),
  (12, 59, 0, 1, 94, 723, 724, 725, 80),
  (10, 123, 0, 1, 57, 727, 728, 729, 85),
  (12, 63, 0, 3, 95, 731, 732, 733, 80),
  (10, 129, 2, 1, 107, 735, 736, 735, 80),
  (10, 132, 0, 0, 8, 738, 589, 590, 83),
  (10, 135, 2, 1, 106, 739, 740, 739, 80),
  (10, 138, 0, 4, 78, 742, 743, 744, 88),
  (9, 37, 3, 1, 106, 746, 740, 746, 80),
  (9, 41, 0, 0, 8, 747, 589, 590, 83),
  (9, 45, 0, 2, 79, 748, 750, 11, 88),
  (9, 83, 0, 1, 34, 752, 699, 700, 87),
  (9, 90, 0, 0, 80, 753, 755, 12, 88),
  (9, 99, 0, 1, 3, 757, 758, 759, 86),
  (9, 103, 3, 1, 116, 761, 762, 761, 80),
  (9, 107, 0, 0, 203, 777, 410, 411, 92),
  (9, 112, 0, 1, 204, 778, 508, 509, 92),
  (9, 116, 0, 1, 81, 779, 781, 13, 88),
  (9, 120, 0, 1, 68, 783, 784, 785, 82),
  (8, 39, 0, 1, 66, 787, 656, 657, 82),
  (9, 126, 0, 1, 82, 788, 790, 14, 88),
  (9, 130, 0, 1, 69, 793, 794, 795, 82),
  (9, 133, 0, 1, 83, 797, 799, 15, 88),
  (9, 49, 3, 3, 110, 801, 802, 801, 80),
  (10, 199, 2, 2, 109, 804, 805, 804, 80),
  (10, 205, 0, 0, 203, 808, 410, 411, 92),
  (10, 209, 0, 1, 204, 809, 508, 509, 92),
  (9, 57, 3, 2, 112, 810, 811, 810, 80),
  (9, 79, 3, 3, 111, 813, 814, 813, 80),
  (12, 68, 0, 1, 96, 816, 817, 818, 80),
  (10, 147, 0, 1, 2, 820, 821, 822, 86),
  (12, 72, 0, 0, 97, 824, 825, 826, 80),
  (10, 150, 0, 1, 1, 828, 829, 830, 86),
  (0, 15, 7, 5, 0, 832, 833, 834, 98),
  (12, 76, 0, 5, 98, 835, 836, 837, 80),
  (10, 154, 0, 1, 4, 839, 840, 841, 86),
  (0, 25, 0, 1, 3, 843, 758, 759, 86),
  (12, 81, 0, 1, 99, 844, 845, 846, 80),
  (12, 85, 0, 0, 100, 848, 849, 850, 80),
  (10, 158, 0, 0, 16, 852, 853, 854, 90),
  (2, 49, 0, 0, 17, 856, 858, 16, 90),
  (2, 65, 2, 2, 213, 860, 146, 860, 84),
  (2, 71, 0, 1, 45, 861, 862, 863, 91),
  (5, 18, 9, 2, 0, 865, 866, 867, 97),
  (5, 24, 8, 2, 0, 868, 630, 631, 97),
  (2, 75, 0, 0, 28, 869, 870, 871, 89),
  (2, 52, 0, 0, 23, 873, 875, 17, 90),
  (2, 148, 0, 0, 24, 877, 879, 18, 90),
  (2, 138, 0, 1, 2, 881, 821, 822, 86),
  (2, 144, 3, 1, 114, 882, 500, 882, 80),
  (2, 151, 0, 0, 25, 883, 885, 19, 90),
  (2, 162, 0, 1, 71, 887, 546, 547, 82),
  (2, 168, 0, 1, 72, 888, 553, 554, 82),
  (2, 154, 3, 1, 115, 889, 890, 889, 80),
  (2, 157, 0, 0, 26, 892, 894, 20, 90),
  (2, 58, 0, 0, 18, 896, 898, 21, 90),
  (2, 86, 0, 1, 204, 900, 508, 509, 92),
  (2, 90, 3, 1, 116, 901, 762, 901, 80),
  (2, 94, 0, 2, 20, 902, 904, 22, 90),
  (2, 110, 0, 1, 21, 906, 908, 23, 90),
  (2, 113, 0, 3, 22, 910, 912, 24, 90),
  (2, 98, 0, 1, 19, 914, 916, 25, 90),
  (2, 106, 3, 1, 113, 918, 919, 918, 80),
  (10, 172, 0, 2, 46, 921, 922, 923, 91),
  (5, 34, 0, 1, 47, 925, 927, 26, 91),
  (5, 53, 3, 1, 106, 929, 740, 929, 80),
  (5, 57, 0, 0, 50, 930, 932, 27, 91),
  (5, 71, 0, 1, 48, 934, 936, 28, 91),
  (5, 67, 0, 1, 45, 938, 862, 863, 91),
  (5, 78, 3, 3, 110, 939, 802, 939, 80),
  (5, 61, 0, 0, 51, 940, 942, 29, 91),
  (5, 82, 3, 2, 109, 944, 805, 944, 80),
  (5, 92, 3, 1, 108, 945, 661, 945, 80),
  (5, 104, 3, 2, 112, 946, 811, 946, 80),
  (5, 108, 2, 2, 52, 947, 948, 947, 91),
  (5, 64, 0, 0, 53, 950, 952, 30, 91),
  (5, 115, 0, 0, 49, 954, 956, 31, 91),
  (5, 38, 3, 1, 107, 958, 736, 958, 80),
  (5, 42, 0, 1, 54, 959, 961, 32, 91),
  (5, 119, 2, 2, 213, 963, 146, 963, 84),
  (5, 125, 3, 3, 111, 964, 814, 964, 80),
  (5, 132, 3, 4, 117, 965, 617, 965, 80),
  (12, 89, 0, 1, 101, 966, 967, 968, 80),
  (12, 93, 0, 1, 102, 970, 971, 972, 80),
  (12, 97, 0, 1, 103, 974, 975, 976, 80),
  (12, 101, 0, 1, 104, 978, 979, 980, 80),
  (10, 196, 0, 1, 61, 982, 983, 984, 81),
  (7, 59, 0, 1, 63, 986, 987, 988, 82),
  (8, 22, 7, 5, 0, 990, 833, 834, 98),
  (7, 63, 0, 1, 6, 991, 992, 993, 83),
  (1, 43, 7, 5, 0, 995, 833, 834, 98),
  (7, 66, 0, 1, 56, 996, 997, 998, 85),
  (6, 18, 7, 5, 0, 1000, 833, 834, 98),
  (7, 69, 0, 1, 1, 1001, 829, 830, 86),
  (7, 72, 7, 5, 0, 1002, 833, 834, 98),
  (12, 105, 0, 1, 105, 1003, 1004, 1005, 80),
  (12, 12, 4, 0, 120, 1009, 1010, 1009, 93),
  (11, 1, 6, 0, 0, 1012, 105, 106, 1012),
  (12, 19, 0, 1, 126, 1071, 1072, 1073, 93),
  (11, 78, 0, 1, 125, 1075, 1077, 33, 93),
  (11, 67, 2, 3, 121, 1080, 1081, 1080, 93),
  (11, 71, 2, 1, 122, 1083, 1084, 1083, 93),
  (11, 75, 0, 1, 124, 1105, 1107, 34, 93),
  (12, 24, 0, 2, 127, 1109, 1110, 1111, 93),
  (12, 29, 0, 3, 128, 1113, 1114, 1115, 93),
  (12, 34, 0, 1, 129, 1117, 1118, 1119, 93),
  (12, 39, 0, 6, 139, 1121, 1122, 1123, 93),
  (11, 82, 0, 1, 137, 1125, 1127, 35, 93),
  (11, 86, 0, 1, 138, 1129, 1131, 36, 93),
  (11, 89, 2, 1, 135, 1133, 1134, 1133, 93),
  (11, 92, 0, 1, 148, 1136, 1138, 37, 93),
  (11, 96, 0, 0, 130, 1140, 1142, 38, 93),
  (11, 133, 0, 1, 146, 1144, 1146, 39, 93),
  (11, 136, 0, 1, 147, 1148, 1150, 40, 93),
  (11, 139, 0, 0, 144, 1152, 1154, 41, 93),
  (11, 124, 0, 0, 133, 1156, 1158, 42, 93),
  (11, 117, 0, 0, 141, 1160, 1162, 43, 93),
  (11, 110, 2, 4, 140, 1164, 1165, 1164, 93),
  (11, 120, 0, 0, 134, 1167, 1169, 44, 93),
  (11, 142, 0, 0, 145, 1171, 1173, 45, 93),
  (11, 127, 0, 1, 143, 1175, 1177, 46, 93),
  (11, 130, 0, 1, 142, 1179, 1181, 47, 93),
  (12, 44, 0, 0, 150, 1183, 1184, 1185, 93),
  (12, 49, 0, 2, 151, 1187, 1188, 1189, 93),
  (11, 146, 0, 1, 149, 1191, 1193, 48, 93),
  (12, 53, 0, 2, 152, 1196, 1197, 1198, 93),
  (12, 58, 0, 1, 153, 1200, 1201, 1202, 93),
  (11, 149, 0, 1, 154, 1204, 1206, 49, 93),
  (12, 62, 0, 1, 155, 1208, 1209, 1210, 93),
  (12, 67, 0, 3, 168, 1212, 1213, 1214, 93),
  (11, 179, 2, 1, 136, 1216, 1217, 1216, 93),
  (11, 182, 2, 1, 166, 1219, 1220, 1219, 93),
  (11, 185, 0, 5, 163, 1222, 1224, 50, 93),
  (11, 167, 0, 1, 159, 1226, 1228, 51, 93),
  (11, 159, 2, 1, 123, 1230, 1231, 1230, 93),
  (11, 163, 0, 1, 158, 1233, 1235, 52, 93),
  (11, 156, 0, 0, 157, 1237, 1239, 53, 93),
  (11, 153, 0, 1, 156, 1241, 1243, 54, 93),
  (11, 170, 0, 1, 161, 1245, 1247, 55, 93),
  (11, 173, 0, 1, 160, 1249, 1251, 56, 93),
  (11, 176, 0, 1, 162, 1253, 1255, 57, 93),
  (11, 189, 2, 2, 165, 1257, 1258, 1257, 93),
  (11, 193, 0, 0, 132, 1260, 1262, 58, 93),
  (11, 196, 0, 0, 131, 1264, 1266, 59, 93),
  (11, 199, 0, 3, 164, 1268, 1270, 60, 93),
  (11, 203, 2, 2, 167, 1272, 1273, 1272, 93),
  (12, 71, 0, 1, 169, 1275, 1276, 1277, 93),
  (12, 75, 0, 0, 170, 1279, 1280, 1281, 93),
  (12, 80, 0, 5, 171, 1283, 1284, 1285, 93),
  (12, 84, 0, 1, 172, 1287, 1288, 1289, 93),
  (12, 88, 0, 0, 194, 1291, 1292, 1293, 93),
  (11, 237, 0, 0, 176, 1295, 1297, 61, 93),
  (11, 212, 0, 1, 173, 1299, 1301, 62, 93),
  (11, 221, 2, 1, 174, 1303, 1304, 1303, 93),
  (11, 224, 2, 1, 175, 1306, 1307, 1306, 93),
  (11, 293, 0, 0, 188, 1309, 1311, 63, 93),
  (11, 234, 0, 1, 178, 1313, 1315, 64, 93),
  (11, 267, 0, 0, 185, 1317, 1319, 65, 93),
  (11, 246, 0, 1, 180, 1321, 1323, 66, 93),
  (11, 240, 0, 1, 179, 1325, 1327, 67, 93),
  (11, 243, 0, 0, 177, 1329, 1331, 68, 93),
  (11, 252, 0, 0, 181, 1333, 1335, 69, 93),
  (11, 255, 0, 0, 183, 1337, 1339, 70, 93),
  (11, 258, 0, 5, 184, 1341, 1343, 71, 93),
  (11, 261, 0, 0, 182, 1345, 1347, 72, 93),
  (11, 270, 0, 0, 187, 1349, 1351, 73, 93),
  (11, 264, 0, 1, 186, 1353, 1355, 74, 93),
  (11, 296, 0, 0, 189, 1357, 1359, 75, 93),
  (11, 299, 0, 0, 193, 1361, 1363, 76, 93),
  (11, 285, 0, 3, 191, 1365, 1367, 77, 93),
  (11, 282, 2, 2, 190, 1369, 1370, 1369, 93),
  (11, 289, 0, 3, 192, 1372, 1374, 78, 93),
  (12, 92, 0, 1, 195, 1376, 1377, 1378, 93),
  (12, 96, 0, 1, 196, 1380, 1381, 1382, 93),
  (12, 100, 0, 1, 197, 1384, 1385, 1386, 93),
  (12, 104, 0, 1, 198, 1388, 1389, 1390, 93),
  (12, 108, 0, 1, 199, 1392, 1393, 1394, 93)]
def a_tC : List (Nat × Nat × Nat × Nat × Nat × Nat) := [(12, 7, 10, 99, 100, 80),
  (10, 7, 7, 107, 108, 81),
  (7, 9, 8, 113, 114, 82),
  (7, 18, 1, 139, 140, 83),
  (7, 25, 6, 187, 188, 85),
  (7, 32, 0, 204, 205, 86),
  (10, 20, 4, 255, 256, 87),
  (10, 37, 9, 315, 316, 88),
  (9, 9, 3, 321, 322, 89),
  (10, 50, 2, 368, 369, 90),
  (2, 9, 5, 374, 375, 91),
  (5, 9, 3, 380, 322, 89),
  (12, 10, 11, 1007, 1008, 93)]
def a_tA : List (Nat × Nat × Nat × Nat) := [(10, 7, 3, 107),
  (9, 9, 4, 321),
  (5, 9, 4, 380)]
def a_tI : List (Nat × Nat × Int32 × Nat) := [(4, 75, 1000000, 667),
  (10, 118, 1000000, 714),
  (11, 145, 13000000, 1195)]
def a_tL : List (Nat × Nat × Int64 × Nat) := [(8, 63, 255, 498),
  (9, 136, 255, 792),
  (11, 65, 255, 1079),
  (11, 27, 6840691, 1086),
  (11, 29, 422776956275, 1087),
  (11, 31, 1734702195, 1088),
  (11, 33, 465726301555, 1089),
  (11, 35, 1886745715, 1090),
  (11, 37, 1952998765, 1091),
  (11, 39, 1768846447, 1092),
  (11, 41, 26990, 1093),
  (11, 43, 97, 1094),
  (11, 45, 6451064, 1095),
  (11, 47, 6386277, 1096),
  (11, 49, 1836020325, 1097),
  (11, 51, 1952997742, 1098),
  (11, 53, 7237495, 1099),
  (11, 55, 6844279, 1100),
  (11, 57, 1835101817, 1101),
  (11, 59, 1751217765, 1102),
  (11, 61, 1651471464, 1103),
  (11, 63, 6840676, 1104),
  (12, 13, 4294967295, 1396)]
def a_tS : List (Nat × Nat × Nat × Nat) := [(2, 18, 0, 408),
  (8, 68, 1, 505),
  (10, 213, 2, 764),
  (10, 215, 3, 765),
  (10, 217, 4, 766),
  (10, 219, 5, 767),
  (10, 221, 6, 768),
  (10, 223, 7, 769),
  (10, 225, 8, 770),
  (10, 227, 9, 771),
  (10, 229, 10, 772),
  (10, 231, 11, 773),
  (10, 233, 12, 774),
  (10, 235, 13, 775),
  (10, 237, 14, 776),
  (10, 203, 15, 807)]
def a_tG : List (Nat × Nat × Nat × Nat) := [(20, 38, 0, 417),
  (20, 1053, 1, 521)]
def a_str : List (String × Nat × String) := [("SumsInWords$Reader", 18, "ABCDEFGHPQRS"), ("SumsInWords$Words", 68, "has boxes gets loses puts them into in a box are more than now how many have both had"), ("SumsInWords", 213, "N has X T."), ("SumsInWords", 215, "N has X boxes."), ("SumsInWords", 217, "N gets X T."), ("SumsInWords", 219, "N loses X T."), ("SumsInWords", 221, "N puts them into X boxes."), ("SumsInWords", 223, "in a box are X T."), ("SumsInWords", 225, "N has X T more than O."), ("SumsInWords", 227, "now N has X T."), ("SumsInWords", 229, "how many T has N?"), ("SumsInWords", 231, "how many T are in a box?"), ("SumsInWords", 233, "how many T have both?"), ("SumsInWords", 235, "how many T had N?"), ("SumsInWords", 237, ""), ("SumsInWords", 203, "ACP ADP AEQ BFP AGP AGR CHS ACEQ")]
def a_byt : List (List Int32) := [[65, 66, 67, 68, 69, 70, 71, 72, 80, 81, 82, 83],
  [104, 97, 115, 32, 98, 111, 120, 101, 115, 32, 103, 101, 116, 115, 32, 108, 111, 115, 101, 115, 32, 112, 117, 116, 115, 32, 116, 104, 101, 109, 32, 105, 110, 116, 111, 32, 105, 110, 32, 97, 32, 98, 111, 120, 32, 97, 114, 101, 32, 109, 111, 114, 101, 32, 116, 104, 97, 110, 32, 110, 111, 119, 32, 104, 111, 119, 32, 109, 97, 110, 121, 32, 104, 97, 118, 101, 32, 98, 111, 116, 104, 32, 104, 97, 100],
  [78, 32, 104, 97, 115, 32, 88, 32, 84, 46],
  [78, 32, 104, 97, 115, 32, 88, 32, 98, 111, 120, 101, 115, 46],
  [78, 32, 103, 101, 116, 115, 32, 88, 32, 84, 46],
  [78, 32, 108, 111, 115, 101, 115, 32, 88, 32, 84, 46],
  [78, 32, 112, 117, 116, 115, 32, 116, 104, 101, 109, 32, 105, 110, 116, 111, 32, 88, 32, 98, 111, 120, 101, 115, 46],
  [105, 110, 32, 97, 32, 98, 111, 120, 32, 97, 114, 101, 32, 88, 32, 84, 46],
  [78, 32, 104, 97, 115, 32, 88, 32, 84, 32, 109, 111, 114, 101, 32, 116, 104, 97, 110, 32, 79, 46],
  [110, 111, 119, 32, 78, 32, 104, 97, 115, 32, 88, 32, 84, 46],
  [104, 111, 119, 32, 109, 97, 110, 121, 32, 84, 32, 104, 97, 115, 32, 78, 63],
  [104, 111, 119, 32, 109, 97, 110, 121, 32, 84, 32, 97, 114, 101, 32, 105, 110, 32, 97, 32, 98, 111, 120, 63],
  [104, 111, 119, 32, 109, 97, 110, 121, 32, 84, 32, 104, 97, 118, 101, 32, 98, 111, 116, 104, 63],
  [104, 111, 119, 32, 109, 97, 110, 121, 32, 84, 32, 104, 97, 100, 32, 78, 63],
  [],
  [65, 67, 80, 32, 65, 68, 80, 32, 65, 69, 81, 32, 66, 70, 80, 32, 65, 71, 80, 32, 65, 71, 82, 32, 67, 72, 83, 32, 65, 67, 69, 81]]
/-- places of the words on array classes: int, long, boolean -/
def a_pA : List (FieldType × Nat) := [(.int, 138), (.long, 137), (.boolean, 314)]
