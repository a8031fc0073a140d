/-! methods as values: own class, name, code, locals, answer -/
def mX0_init : aM := (0, yX0_init, cX0_init, 1, none)
def mX0_copyOf : aM := (0, yX0_copyOf, cX0_copyOf, 2, none)
def mX0_byteAt : aM := (0, yX0_byteAt, cX0_byteAt, 2, some .int)
def mX0_put : aM := (0, yX0_put, cX0_put, 2, none)
def mX0_putFour : aM := (0, yX0_putFour, cX0_putFour, 3, none)
def mX1_init : aM := (1, yX1_init, cX1_init, 1, none)
def mX1_copyOf : aM := (1, yX1_copyOf, cX1_copyOf, 2, none)
def mX1_isSettled : aM := (1, yX1_isSettled, cX1_isSettled, 1, some .boolean)
def mX1_isIdle : aM := (1, yX1_isIdle, cX1_isIdle, 1, some .boolean)
def mX1_setSpan : aM := (1, yX1_setSpan, cX1_setSpan, 4, some .boolean)
def mX1_settle : aM := (1, yX1_settle, cX1_settle, 9, some .boolean)
def mX1_isTempting : aM := (1, yX1_isTempting, cX1_isTempting, 2, some .boolean)
def mX1_low : aM := (1, yX1_low, cX1_low, 2, some .int)
def mX1_high : aM := (1, yX1_high, cX1_high, 2, some .int)
def mX1_isUsed : aM := (1, yX1_isUsed, cX1_isUsed, 2, some .boolean)
def mX2_init : aM := (2, yX2_init, cX2_init, 4, none)
def mX2_readRow : aM := (2, yX2_readRow, cX2_readRow, 2, some .boolean)
def mX2_openSentence : aM := (2, yX2_openSentence, cX2_openSentence, 1, none)
def mX2_current : aM := (2, yX2_current, cX2_current, 1, some (.object "SumsInWords$Sentence"))
def mX2_goOn : aM := (2, yX2_goOn, cX2_goOn, 4, some .boolean)
def mX2_closeSentence : aM := (2, yX2_closeSentence, cX2_closeSentence, 2, none)
def mX2_passed : aM := (2, yX2_passed, cX2_passed, 6, some .int)
def mX2_keepPart : aM := (2, yX2_keepPart, cX2_keepPart, 3, some .boolean)
def mX2_isSame : aM := (2, yX2_isSame, cX2_isSame, 6, some .boolean)
def mX2_nextToken : aM := (2, yX2_nextToken, cX2_nextToken, 2, none)
def mX2_skipBlanks : aM := (2, yX2_skipBlanks, cX2_skipBlanks, 1, none)
def mX2_takeWord : aM := (2, yX2_takeWord, cX2_takeWord, 3, none)
def mX2_takeNumber : aM := (2, yX2_takeNumber, cX2_takeNumber, 3, none)
def mX3_init : aM := (3, yX3_init, cX3_init, 1, none)
def mX3_clear : aM := (3, yX3_clear, cX3_clear, 1, none)
def mX4_init : aM := (4, yX4_init, cX4_init, 3, none)
def mX4_renew : aM := (4, yX4_renew, cX4_renew, 2, none)
def mX4_countAll : aM := (4, yX4_countAll, cX4_countAll, 2, some .int)
def mX4_seek : aM := (4, yX4_seek, cX4_seek, 3, some .boolean)
def mX4_fact : aM := (4, yX4_fact, cX4_fact, 2, some .int)
def mX4_number : aM := (4, yX4_number, cX4_number, 2, some .int)
def mX4_waysTo : aM := (4, yX4_waysTo, cX4_waysTo, 4, some .int)
def mX4_wayNumber : aM := (4, yX4_wayNumber, cX4_wayNumber, 2, some .int)
def mX4_restart : aM := (4, yX4_restart, cX4_restart, 1, none)
def mX4_moveOn : aM := (4, yX4_moveOn, cX4_moveOn, 2, none)
def mX4_nextSum : aM := (4, yX4_nextSum, cX4_nextSum, 1, none)
def mX4_doesSumFit : aM := (4, yX4_doesSumFit, cX4_doesSumFit, 2, some .boolean)
def mX4_doesIdleFit : aM := (4, yX4_doesIdleFit, cX4_doesIdleFit, 1, some .boolean)
def mX4_areUnlike : aM := (4, yX4_areUnlike, cX4_areUnlike, 4, some .boolean)
def mX4_isTold : aM := (4, yX4_isTold, cX4_isTold, 3, some .boolean)
def mX5_init : aM := (5, yX5_init, cX5_init, 2, none)
def mX5_find : aM := (5, yX5_find, cX5_find, 4, some .int)
def mX5_isShape : aM := (5, yX5_isShape, cX5_isShape, 4, some .boolean)
def mX5_part : aM := (5, yX5_part, cX5_part, 3, some (.object "SumsInWords$Sentence"))
def mX5_idle : aM := (5, yX5_idle, cX5_idle, 1, some (.object "SumsInWords$Sentence"))
def mX5_hasForms : aM := (5, yX5_hasForms, cX5_hasForms, 2, some .boolean)
def mX5_hasWords : aM := (5, yX5_hasWords, cX5_hasWords, 4, some .boolean)
def mX5_isOrNone : aM := (5, yX5_isOrNone, cX5_isOrNone, 2, some .boolean)
def mX5_hasIdle : aM := (5, yX5_hasIdle, cX5_hasIdle, 2, some .boolean)
def mX5_keepFacts : aM := (5, yX5_keepFacts, cX5_keepFacts, 4, none)
def mX6_init : aM := (6, yX6_init, cX6_init, 1, none)
def mX6_copyOf : aM := (6, yX6_copyOf, cX6_copyOf, 2, none)
def mX6_setAt : aM := (6, yX6_setAt, cX6_setAt, 2, some .int)
def mX6_addUnlike : aM := (6, yX6_addUnlike, cX6_addUnlike, 3, none)
def mX6_hasAnswer : aM := (6, yX6_hasAnswer, cX6_hasAnswer, 3, some .boolean)
def mX7_init : aM := (7, yX7_init, cX7_init, 1, none)
def mX7_copyOf : aM := (7, yX7_copyOf, cX7_copyOf, 2, none)
def mX8_init : aM := (8, yX8_init, cX8_init, 1, none)
def mX8_copyOf : aM := (8, yX8_copyOf, cX8_copyOf, 2, none)
def mX8_addName : aM := (8, yX8_addName, cX8_addName, 3, some .int)
def mX8_addThing : aM := (8, yX8_addThing, cX8_addThing, 4, some .int)
def mX8_hasName : aM := (8, yX8_hasName, cX8_hasName, 2, some .boolean)
def mX8_hasThing : aM := (8, yX8_hasThing, cX8_hasThing, 2, some .boolean)
def mX8_nameWord : aM := (8, yX8_nameWord, cX8_nameWord, 2, some .long)
def mX8_thingWord : aM := (8, yX8_thingWord, cX8_thingWord, 2, some .long)
def mX8_mostOf : aM := (8, yX8_mostOf, cX8_mostOf, 2, some .int)
def mX8_findName : aM := (8, yX8_findName, cX8_findName, 3, some .int)
def mX8_findThing : aM := (8, yX8_findThing, cX8_findThing, 3, some .int)
def mX8_find : aM := (8, yX8_find, cX8_find, 5, some .int)
def mX8_isFree : aM := (8, yX8_isFree, cX8_isFree, 3, some .boolean)
def mX8_isWord : aM := (8, yX8_isWord, cX8_isWord, 5, some .boolean)
def mX8_isKept : aM := (8, yX8_isKept, cX8_isKept, 6, some .boolean)
def mX9_init : aM := (9, yX9_init, cX9_init, 3, none)
def mX9_putTale : aM := (9, yX9_putTale, cX9_putTale, 7, none)
def mX9_putIdle : aM := (9, yX9_putIdle, cX9_putIdle, 3, none)
def mX9_putSentence : aM := (9, yX9_putSentence, cX9_putSentence, 3, none)
def mX9_putPart : aM := (9, yX9_putPart, cX9_putPart, 2, none)
def mX9_putWord : aM := (9, yX9_putWord, cX9_putWord, 5, none)
def mX9_putNumber : aM := (9, yX9_putNumber, cX9_putNumber, 3, none)
def mX10_init : aM := (10, yX10_init, cX10_init, 1, none)
def mX10_name : aM := (10, yX10_name, cX10_name, 3, some .int)
def mX10_thing : aM := (10, yX10_thing, cX10_thing, 4, some .int)
def mX10_span : aM := (10, yX10_span, cX10_span, 4, some .boolean)
def mX10_ways : aM := (10, yX10_ways, cX10_ways, 2, some .boolean)
def mX10_choose : aM := (10, yX10_choose, cX10_choose, 7, some .int)
def mX10_sets : aM := (10, yX10_sets, cX10_sets, 1, some .int)
def mX10_set : aM := (10, yX10_set, cX10_set, 3, some .int)
def mX10_tells : aM := (10, yX10_tells, cX10_tells, 3, some .int)
def mX10_sheet : aM := (10, yX10_sheet, cX10_sheet, 4, some .int)
def mX10_on : aM := (10, yX10_on, cX10_on, 2, some .int)
def mX10_write : aM := (10, yX10_write, cX10_write, 5, some .int)
def mX10_written : aM := (10, yX10_written, cX10_written, 2, some .int)
def mX10_take : aM := (10, yX10_take, cX10_take, 1, some .int)
def mX10_feed : aM := (10, yX10_feed, cX10_feed, 7, some .int)
def mX10_end : aM := (10, yX10_end, cX10_end, 2, some .int)
def mX10_read : aM := (10, yX10_read, cX10_read, 2, some .int)
def mX10_fault : aM := (10, yX10_fault, cX10_fault, 2, some .int)
def mX10_got : aM := (10, yX10_got, cX10_got, 2, some .int)
def mX10_count : aM := (10, yX10_count, cX10_count, 2, some .int)
def mX10_image : aM := (10, yX10_image, cX10_image, 2, some .boolean)
def mX10_again : aM := (10, yX10_again, cX10_again, 2, some .boolean)
def mX10_bodyLength : aM := (10, yX10_bodyLength, cX10_bodyLength, 1, some .int)
def mX10_mayTurn : aM := (10, yX10_mayTurn, cX10_mayTurn, 1, some .boolean)
def mX10_hasPair : aM := (10, yX10_hasPair, cX10_hasPair, 1, some .boolean)
def mX10_unturned : aM := (10, yX10_unturned, cX10_unturned, 2, some .int)
def mX10_formAt : aM := (10, yX10_formAt, cX10_formAt, 4, some .char)
def mX10_numberAt : aM := (10, yX10_numberAt, cX10_numberAt, 3, some .int)
def mX10_isOfM : aM := (10, yX10_isOfM, cX10_isOfM, 2, some .boolean)
def mX10_isQuestion : aM := (10, yX10_isQuestion, cX10_isQuestion, 1, some .boolean)
def mX10_isLetter : aM := (10, yX10_isLetter, cX10_isLetter, 1, some .boolean)
def mX10_isDigit : aM := (10, yX10_isDigit, cX10_isDigit, 1, some .boolean)
def mX10_textOf : aM := (10, yX10_textOf, cX10_textOf, 1, some (.object "java/lang/String"))
def mX10_answerOf : aM := (10, yX10_answerOf, cX10_answerOf, 4, some .int)
def mX10_atLeastOne : aM := (10, yX10_atLeastOne, cX10_atLeastOne, 1, some .int)
def mX10_share : aM := (10, yX10_share, cX10_share, 2, some .int)
def mX11_init : aM := (11, yX11_init, cX11_init, 2, none)
def mX11_isIn : aM := (11, yX11_isIn, cX11_isIn, 3, some .boolean)
def mX11_wordOf : aM := (11, yX11_wordOf, cX11_wordOf, 2, some .int)
def mX11_spelt : aM := (11, yX11_spelt, cX11_spelt, 1, some .long)
def mX11_named : aM := (11, yX11_named, cX11_named, 4, some .int)
def mX11_canBe : aM := (11, yX11_canBe, cX11_canBe, 7, some .boolean)
def mX11_name : aM := (11, yX11_name, cX11_name, 3, some .int)
def mX11_thing : aM := (11, yX11_thing, cX11_thing, 4, some .int)
def mX11_span : aM := (11, yX11_span, cX11_span, 4, some .boolean)
def mX11_ways : aM := (11, yX11_ways, cX11_ways, 2, some .boolean)
def mX11_shape : aM := (11, yX11_shape, cX11_shape, 1, some .int)
def mX11_n : aM := (11, yX11_n, cX11_n, 1, some .int)
def mX11_m : aM := (11, yX11_m, cX11_m, 1, some .int)
def mX11_t : aM := (11, yX11_t, cX11_t, 1, some .int)
def mX11_isIdle : aM := (11, yX11_isIdle, cX11_isIdle, 1, some .boolean)
def mX11_hasOther : aM := (11, yX11_hasOther, cX11_hasOther, 1, some .boolean)
def mX11_canTurn : aM := (11, yX11_canTurn, cX11_canTurn, 1, some .boolean)
def mX11_isName : aM := (11, yX11_isName, cX11_isName, 2, some .boolean)
def mX11_isThing : aM := (11, yX11_isThing, cX11_isThing, 2, some .boolean)
def mX11_choose : aM := (11, yX11_choose, cX11_choose, 9, some .int)
def mX11_answerOf : aM := (11, yX11_answerOf, cX11_answerOf, 5, some .int)
def mX11_answer : aM := (11, yX11_answer, cX11_answer, 1, some .int)
def mX11_way : aM := (11, yX11_way, cX11_way, 3, some .int)
def mX11_isTempting : aM := (11, yX11_isTempting, cX11_isTempting, 3, some .boolean)
def mX11_isRight : aM := (11, yX11_isRight, cX11_isRight, 4, some .boolean)
def mX11_isUnlike : aM := (11, yX11_isUnlike, cX11_isUnlike, 4, some .boolean)
def mX11_least : aM := (11, yX11_least, cX11_least, 2, some .int)
def mX11_greatest : aM := (11, yX11_greatest, cX11_greatest, 2, some .int)
def mX11_scan : aM := (11, yX11_scan, cX11_scan, 4, some .int)
def mX11_looks : aM := (11, yX11_looks, cX11_looks, 2, some .boolean)
def mX11_sets : aM := (11, yX11_sets, cX11_sets, 1, some .int)
def mX11_set : aM := (11, yX11_set, cX11_set, 3, some .int)
def mX11_tells : aM := (11, yX11_tells, cX11_tells, 5, some .int)
def mX11_sheet : aM := (11, yX11_sheet, cX11_sheet, 4, some .int)
def mX11_comes : aM := (11, yX11_comes, cX11_comes, 4, none)
def mX11_on : aM := (11, yX11_on, cX11_on, 2, some .int)
def mX11_puts : aM := (11, yX11_puts, cX11_puts, 2, none)
def mX11_blank : aM := (11, yX11_blank, cX11_blank, 1, none)
def mX11_says : aM := (11, yX11_says, cX11_says, 4, none)
def mX11_keyword : aM := (11, yX11_keyword, cX11_keyword, 2, none)
def mX11_number : aM := (11, yX11_number, cX11_number, 3, none)
def mX11_nameOf : aM := (11, yX11_nameOf, cX11_nameOf, 2, none)
def mX11_thingOf : aM := (11, yX11_thingOf, cX11_thingOf, 2, none)
def mX11_sentence : aM := (11, yX11_sentence, cX11_sentence, 6, none)
def mX11_question : aM := (11, yX11_question, cX11_question, 4, none)
def mX11_kindOf : aM := (11, yX11_kindOf, cX11_kindOf, 2, some .int)
def mX11_sentencesOf : aM := (11, yX11_sentencesOf, cX11_sentencesOf, 1, some .int)
def mX11_numberOf : aM := (11, yX11_numberOf, cX11_numberOf, 2, some .int)
def mX11_write : aM := (11, yX11_write, cX11_write, 9, some .int)
def mX11_written : aM := (11, yX11_written, cX11_written, 2, some .int)
def mX11_take : aM := (11, yX11_take, cX11_take, 2, some .int)
def mX11_feed : aM := (11, yX11_feed, cX11_feed, 8, some .int)
def mX11_end : aM := (11, yX11_end, cX11_end, 2, some .int)
def mX11_byteAt : aM := (11, yX11_byteAt, cX11_byteAt, 2, some .int)
def mX11_isLetter : aM := (11, yX11_isLetter, cX11_isLetter, 1, some .boolean)
def mX11_isDigit : aM := (11, yX11_isDigit, cX11_isDigit, 1, some .boolean)
def mX11_advance : aM := (11, yX11_advance, cX11_advance, 4, none)
def mX11_stops : aM := (11, yX11_stops, cX11_stops, 1, none)
def mX11_isNow : aM := (11, yX11_isNow, cX11_isNow, 2, some .boolean)
def mX11_takes : aM := (11, yX11_takes, cX11_takes, 2, some .boolean)
def mX11_must : aM := (11, yX11_must, cX11_must, 2, none)
def mX11_aNumber : aM := (11, yX11_aNumber, cX11_aNumber, 2, some .int)
def mX11_aName : aM := (11, yX11_aName, cX11_aName, 2, some .int)
def mX11_aThing : aM := (11, yX11_aThing, cX11_aThing, 2, some .int)
def mX11_keeps : aM := (11, yX11_keeps, cX11_keeps, 7, none)
def mX11_fAt : aM := (11, yX11_fAt, cX11_fAt, 2, none)
def mX11_hasAt : aM := (11, yX11_hasAt, cX11_hasAt, 4, none)
def mX11_namedAt : aM := (11, yX11_namedAt, cX11_namedAt, 4, none)
def mX11_aSentence : aM := (11, yX11_aSentence, cX11_aSentence, 3, none)
def mX11_aQuestion : aM := (11, yX11_aQuestion, cX11_aQuestion, 4, none)
def mX11_at : aM := (11, yX11_at, cX11_at, 2, some .int)
def mX11_isTale : aM := (11, yX11_isTale, cX11_isTale, 10, some .boolean)
def mX11_gets : aM := (11, yX11_gets, cX11_gets, 6, none)
def mX11_tale : aM := (11, yX11_tale, cX11_tale, 4, some .int)
def mX11_read : aM := (11, yX11_read, cX11_read, 2, some .int)
def mX11_fault : aM := (11, yX11_fault, cX11_fault, 2, some .int)
def mX11_got : aM := (11, yX11_got, cX11_got, 2, some .int)
def mX11_count : aM := (11, yX11_count, cX11_count, 2, some .int)
def mX11_image : aM := (11, yX11_image, cX11_image, 3, some .boolean)
def mX11_again : aM := (11, yX11_again, cX11_again, 3, some .boolean)
def mJ9_abs_0f7a4 : aM := (26, yJ9_abs_0f7a4, cJ9_abs_0f7a4, 1, some .int)
def mJ9_max_7cf53 : aM := (26, yJ9_max_7cf53, cJ9_max_7cf53, 2, some .int)
def mJ9_min_7cf53 : aM := (26, yJ9_min_7cf53, cJ9_min_7cf53, 2, some .int)
def mJ0_length_8abf5 : aM := (20, yJ0_length_8abf5, cJ0_length_8abf5, 1, some .int)
def mJ0_charAt_5068e : aM := (20, yJ0_charAt_5068e, cJ0_charAt_5068e, 2, some .char)
def mJ0_coder_7d493 : aM := (20, yJ0_coder_7d493, cJ0_coder_7d493, 1, some .byte)
def mJ0_isLatin1_aae02 : aM := (20, yJ0_isLatin1_aae02, cJ0_isLatin1_aae02, 1, some .boolean)
def mJ0_checkIndex_df160 : aM := (20, yJ0_checkIndex_df160, cJ0_checkIndex_df160, 2, none)
def mJ1_charAt_3b067 : aM := (21, yJ1_charAt_3b067, cJ1_charAt_3b067, 2, some .char)
def mJ2_getChar_3b067 : aM := (22, yJ2_getChar_3b067, cJ2_getChar_3b067, 2, some .char)
def mJ2_length_9d52b : aM := (22, yJ2_length_9d52b, cJ2_length_9d52b, 1, some .int)
def mJ2_charAt_3b067 : aM := (22, yJ2_charAt_3b067, cJ2_charAt_3b067, 2, some .char)
def mJ2_checkIndex_2214a : aM := (22, yJ2_checkIndex_2214a, cJ2_checkIndex_2214a, 2, none)
def mJ7_fill_53178 : aM := (24, yJ7_fill_53178, cJ7_fill_53178, 4, none)
def mJ3_checkIndex_8e157 : aM := (25, yJ3_checkIndex_8e157, cJ3_checkIndex_8e157, 3, some .int)
def mL_law : aM := (12, yL_law, cL_law, 4, some .boolean)
def mNo : aM := (99, objectInit, ⟨#[]⟩, 0, none)
def a_nm (o : Nat) : String := match o with
  | 0 => RX0
  | 1 => RX1
  | 2 => RX2
  | 3 => RX3
  | 4 => RX4
  | 5 => RX5
  | 6 => RX6
  | 7 => RX7
  | 8 => RX8
  | 9 => RX9
  | 10 => RX10
  | 11 => RX11
  | 12 => RL
  | 20 => RJ0
  | 21 => RJ1
  | 22 => RJ2
  | 23 => RJ10
  | 24 => RJ7
  | 25 => RJ3
  | 26 => RJ9
  | _ => ""
abbrev aCl : List vw_C := [(RX0, TX0, 2), (RX1, TX1, 9), (RX2, TX2, 15), (RX3, TX3, 5), (RX4, TX4, 17), (RX5, TX5, 8), (RX6, TX6, 3), (RX7, TX7, 8), (RX8, TX8, 5), (RX9, TX9, 3), (RX10, TX10, 5), (RX11, TX11, 19)]
def a_T (c : Nat) : u_T := match c with
  | 0 => TX0
  | 1 => TX1
  | 2 => TX2
  | 3 => TX3
  | 4 => TX4
  | 5 => TX5
  | 6 => TX6
  | 7 => TX7
  | 8 => TX8
  | 9 => TX9
  | 10 => TX10
  | 11 => TX11
  | _ => TX0
def a_ty (c : Nat) : Nat → FieldType := match c with
  | 0 => tyX0
  | 1 => tyX1
  | 2 => tyX2
  | 3 => tyX3
  | 4 => tyX4
  | 5 => tyX5
  | 6 => tyX6
  | 7 => tyX7
  | 8 => tyX8
  | 9 => tyX9
  | 10 => tyX10
  | 11 => tyX11
  | _ => fun _ => .int
def a_N (c : Nat) : Nat := match c with
  | 0 => 2
  | 1 => 9
  | 2 => 15
  | 3 => 5
  | 4 => 17
  | 5 => 8
  | 6 => 3
  | 7 => 8
  | 8 => 5
  | 9 => 3
  | 10 => 5
  | 11 => 19
  | _ => 0
def a_df (c : Nat) : List Value := match c with
  | 0 => [.null, .int 0]
  | 1 => [.null, .null, .int 0, .int 0, .int 0, .int 0, .int 0, .int 0, .int 0]
  | 2 => [.null, .null, .null, .null, .null, .int 0, .int 0, .int 0, .int 0, .int 0, .int 0, .int 0, .int 0, .int 0, .int 0]
  | 3 => [.int 0, .int 0, .int 0, .int 0, .int 0]
  | 4 => [.null, .null, .null, .null, .null, .null, .int 0, .int 0, .int 0, .int 0, .int 0, .int 0, .int 0, .int 0, .int 0, .int 0, .int 0]
  | 5 => [.null, .int 0, .int 0, .int 0, .int 0, .int 0, .int 0, .int 0]
  | 6 => [.null, .null, .int 0]
  | 7 => [.null, .null, .null, .null, .null, .null, .int 0, .int 0]
  | 8 => [.null, .null, .null, .int 0, .int 0]
  | 9 => [.null, .null, .null]
  | 10 => [.null, .null, .null, .null, .null]
  | 11 => [.null, .null, .null, .int 0, .int 0, .int 0, .int 0, .null, .int 0, .int 0, .int 0, .int 0, .int 0, .int 0, .null, .int 0, .int 0, .int 0, .int 0]
  | _ => []
def a_tF : List (Nat × Nat × Nat × Nat × Nat) := [(80009, 8, 0, 0, 120),
  (80015, 8, 1, 0, 121),
  (80018, 8, 2, 0, 122),
  (80028, 8, 3, 0, 123),
  (100190, 8, 3, 0, 124),
  (80032, 8, 4, 0, 125),
  (100193, 8, 4, 0, 126),
  (10009, 1, 0, 0, 149),
  (10015, 1, 1, 0, 150),
  (10049, 1, 2, 0, 151),
  (100079, 1, 2, 0, 152),
  (10018, 1, 3, 0, 153),
  (90032, 1, 3, 0, 154),
  (40125, 1, 3, 0, 155),
  (100126, 1, 3, 0, 156),
  (10022, 1, 4, 0, 157),
  (90064, 1, 4, 0, 158),
  (10025, 1, 5, 0, 159),
  (90061, 1, 5, 0, 160),
  (10028, 1, 6, 0, 161),
  (40044, 1, 6, 0, 162),
  (90073, 1, 6, 0, 163),
  (10031, 1, 7, 0, 164),
  (90093, 1, 7, 0, 165),
  (10034, 1, 8, 0, 166),
  (40058, 1, 8, 0, 167),
  (90096, 1, 8, 0, 168),
  (60009, 6, 0, 0, 194),
  (60015, 6, 1, 0, 195),
  (60024, 6, 2, 0, 196),
  (100113, 6, 2, 0, 197),
  (9, 0, 0, 0, 211),
  (90026, 0, 1, 0, 212),
  (21, 0, 1, 0, 213),
  (20176, 0, 1, 0, 214),
  (100142, 0, 1, 0, 215),
  (70012, 7, 0, 0, 222),
  (100026, 7, 0, 0, 223),
  (70021, 7, 1, 0, 224),
  (100022, 7, 1, 0, 225),
  (70028, 7, 2, 0, 226),
  (100109, 7, 2, 0, 227),
  (70035, 7, 3, 0, 228),
  (100039, 7, 3, 0, 229),
  (70039, 7, 4, 0, 230),
  (100052, 7, 4, 0, 231),
  (70042, 7, 5, 0, 232),
  (100168, 7, 5, 0, 233),
  (70046, 7, 6, 0, 234),
  (100178, 7, 6, 0, 235),
  (70050, 7, 7, 0, 236),
  (100184, 7, 7, 0, 237),
  (40036, 4, 0, 0, 262),
  (40040, 4, 1, 0, 263),
  (40009, 4, 2, 0, 264),
  (40015, 4, 3, 0, 265),
  (40019, 4, 4, 0, 266),
  (40022, 4, 5, 0, 267),
  (40055, 4, 6, 0, 268),
  (40061, 4, 7, 0, 269),
  (40025, 4, 8, 0, 270),
  (40029, 4, 9, 0, 271),
  (40032, 4, 10, 0, 272),
  (40116, 4, 11, 0, 273),
  (40092, 4, 12, 0, 274),
  (40095, 4, 13, 0, 275),
  (40098, 4, 14, 0, 276),
  (40101, 4, 15, 0, 277),
  (40086, 4, 16, 0, 278),
  (100103, 4, 16, 1, 279),
  (30009, 3, 0, 0, 328),
  (90053, 3, 0, 0, 329),
  (20118, 3, 0, 0, 330),
  (50068, 3, 0, 0, 331),
  (30015, 3, 1, 0, 332),
  (90067, 3, 1, 0, 333),
  (50082, 3, 1, 0, 334),
  (20136, 3, 1, 0, 335),
  (30019, 3, 2, 0, 336),
  (90070, 3, 2, 0, 337),
  (50108, 3, 2, 0, 338),
  (20139, 3, 2, 0, 339),
  (30022, 3, 3, 0, 340),
  (90076, 3, 3, 0, 341),
  (50094, 3, 3, 0, 342),
  (20145, 3, 3, 0, 343),
  (30025, 3, 4, 0, 344),
  (90088, 3, 4, 0, 345),
  (20151, 3, 4, 0, 346),
  (50125, 3, 4, 0, 347),
  (90018, 9, 0, 0, 359),
  (90022, 9, 1, 0, 360),
  (90012, 9, 2, 0, 361),
  (50009, 5, 0, 0, 395),
  (50015, 5, 1, 0, 396),
  (50019, 5, 2, 0, 397),
  (50034, 5, 3, 0, 398),
  (50038, 5, 4, 0, 399),
  (50085, 5, 5, 0, 400),
  (50091, 5, 6, 0, 401),
  (50097, 5, 7, 0, 402),
  (20029, 2, 0, 0, 421),
  (20033, 2, 1, 0, 422),
  (20011, 2, 2, 0, 423),
  (20043, 2, 3, 0, 424),
  (100161, 2, 3, 0, 425),
  (20025, 2, 4, 0, 426),
  (20051, 2, 5, 0, 427),
  (100165, 2, 5, 0, 428),
  (20099, 2, 6, 0, 429),
  (100181, 2, 6, 0, 430),
  (20071, 2, 7, 0, 431),
  (20054, 2, 8, 0, 432),
  (20096, 2, 9, 0, 433),
  (100187, 2, 9, 0, 434),
  (20047, 2, 10, 0, 435),
  (20064, 2, 11, 0, 436),
  (20133, 2, 12, 0, 437),
  (20142, 2, 13, 0, 438),
  (20148, 2, 14, 0, 439),
  (100010, 10, 0, 0, 471),
  (100016, 10, 1, 0, 472),
  (100033, 10, 2, 0, 473),
  (100046, 10, 3, 0, 474),
  (100056, 10, 4, 0, 475),
  (110007, 11, 0, 0, 1018),
  (110013, 11, 1, 0, 1019),
  (110017, 11, 2, 0, 1020),
  (110100, 11, 3, 0, 1021),
  (110104, 11, 4, 0, 1022),
  (110107, 11, 5, 0, 1023),
  (110114, 11, 6, 0, 1024),
  (110021, 11, 7, 0, 1025),
  (110206, 11, 8, 0, 1026),
  (110209, 11, 9, 0, 1027),
  (110215, 11, 10, 0, 1028),
  (110218, 11, 11, 0, 1029),
  (110227, 11, 12, 0, 1030),
  (110230, 11, 13, 0, 1031),
  (110024, 11, 14, 0, 1032),
  (110249, 11, 15, 0, 1033),
  (110273, 11, 16, 0, 1034),
  (110276, 11, 17, 0, 1035),
  (110279, 11, 18, 0, 1036),
  (200009, 20, 0, 0, 1402),
  (200015, 20, 1, 0, 1403)]
def a_tM : List (Nat × aL × Nat × Nat × Nat × Nat × Nat) := [(120009, (4, 0, mX10_init), 102, 103, 102, 81, 104),
  (100001, (6, 0, mNo), 105, 106, 105, 105, 107),
  (100009, (4, 0, mX7_init), 110, 111, 110, 82, 112),
  (70003, (6, 0, mNo), 113, 106, 113, 113, 107),
  (70011, (5, 0, mX8_init), 116, 117, 116, 83, 118),
  (80003, (6, 0, mNo), 119, 106, 119, 119, 107),
  (70020, (4, 0, mX1_init), 142, 143, 142, 84, 144),
  (10003, (6, 0, mNo), 145, 106, 145, 145, 107),
  (10037, (2, 2, mJ7_fill_53178), 146, 147, 146, 85, 148),
  (70027, (5, 0, mX6_init), 190, 191, 190, 86, 192),
  (60003, (6, 0, mNo), 193, 106, 193, 193, 107),
  (70034, (5, 0, mX0_init), 207, 208, 207, 87, 209),
  (3, (6, 0, mNo), 210, 106, 210, 210, 107),
  (70053, (2, 2, mJ7_fill_53178), 221, 147, 221, 85, 148),
  (100030, (4, 2, mX4_init), 258, 259, 258, 88, 260),
  (40003, (6, 0, mNo), 261, 106, 261, 261, 107),
  (100043, (4, 2, mX9_init), 318, 319, 318, 89, 320),
  (90003, (6, 0, mNo), 321, 106, 321, 321, 107),
  (90011, (5, 0, mX3_init), 324, 325, 324, 90, 326),
  (30003, (6, 0, mNo), 327, 106, 327, 327, 107),
  (100055, (4, 2, mX2_init), 371, 372, 371, 91, 373),
  (20003, (6, 0, mNo), 374, 106, 374, 374, 107),
  (20019, (0, 0, mJ0_length_8abf5), 378, 379, 380, 92, 381),
  (200335, (0, 0, mJ0_coder_7d493), 382, 383, 384, 92, 385),
  (20037, (5, 0, mX3_init), 388, 325, 388, 90, 326),
  (20040, (4, 1, mX5_init), 391, 392, 391, 93, 393),
  (50003, (6, 0, mNo), 394, 106, 394, 394, 107),
  (120015, (0, 1, mX10_name), 487, 488, 489, 81, 490),
  (100060, (0, 1, mX8_addName), 491, 492, 493, 83, 494),
  (80035, (0, 1, mX8_isFree), 495, 497, 0, 83, 498),
  (80050, (2, 1, mX8_isWord), 499, 500, 499, 83, 501),
  (80065, (3, 1, mX10_isLetter), 503, 504, 503, 81, 505),
  (80053, (2, 1, mX8_isKept), 506, 507, 506, 83, 508),
  (80070, (0, 0, mJ0_length_8abf5), 510, 379, 380, 92, 381),
  (80076, (0, 1, mJ0_charAt_5068e), 511, 512, 513, 92, 514),
  (200492, (0, 0, mJ0_isLatin1_aae02), 515, 516, 517, 92, 518),
  (200495, (2, 2, mJ1_charAt_3b067), 519, 520, 519, 95, 521),
  (210009, (2, 2, mJ0_checkIndex_df160), 522, 523, 522, 92, 524),
  (201059, (2, 3, mJ3_checkIndex_8e157), 527, 528, 527, 96, 529),
  (200498, (2, 2, mJ2_charAt_3b067), 530, 531, 530, 97, 532),
  (220067, (2, 2, mJ2_checkIndex_2214a), 533, 534, 533, 97, 535),
  (220048, (2, 1, mJ2_length_9d52b), 536, 537, 536, 97, 538),
  (220414, (2, 2, mJ0_checkIndex_df160), 539, 523, 539, 92, 524),
  (220071, (2, 2, mJ2_getChar_3b067), 540, 541, 540, 97, 542),
  (80056, (0, 1, mX8_findName), 549, 550, 551, 83, 552),
  (80046, (2, 3, mX8_find), 553, 554, 553, 83, 555),
  (80060, (0, 1, mX8_findThing), 556, 557, 558, 83, 559),
  (120020, (0, 2, mX10_thing), 560, 561, 562, 81, 563),
  (100066, (0, 2, mX8_addThing), 564, 565, 566, 83, 567),
  (120025, (0, 3, mX10_span), 568, 569, 570, 81, 571),
  (100070, (0, 3, mX1_setSpan), 572, 573, 574, 84, 575),
  (100076, (0, 0, mX4_renew), 576, 577, 578, 88, 579),
  (40049, (0, 1, mX8_mostOf), 580, 581, 582, 83, 583),
  (80043, (0, 1, mX8_hasThing), 584, 585, 586, 83, 587),
  (40064, (0, 1, mX1_isTempting), 588, 589, 590, 84, 591),
  (10064, (0, 0, mX1_isIdle), 592, 593, 594, 84, 595),
  (40068, (0, 1, mX1_low), 596, 597, 598, 84, 599),
  (10068, (0, 1, mX1_isUsed), 600, 602, 1, 84, 603),
  (40070, (0, 1, mX1_high), 604, 605, 606, 84, 607),
  (40072, (0, 0, mX4_restart), 608, 610, 2, 88, 611),
  (40079, (0, 0, mX1_isSettled), 612, 613, 614, 84, 615),
  (40113, (0, 0, mX4_doesSumFit), 616, 618, 3, 88, 619),
  (40128, (3, 4, mX10_answerOf), 620, 621, 620, 81, 622),
  (100239, (2, 1, mX10_atLeastOne), 623, 624, 623, 81, 625),
  (100242, (2, 2, mX10_share), 626, 627, 626, 81, 628),
  (40132, (0, 2, mX4_areUnlike), 629, 631, 4, 88, 632),
  (40109, (2, 2, mJ9_max_7cf53), 633, 634, 633, 98, 635),
  (40089, (0, 1, mX4_wayNumber), 636, 638, 5, 88, 639),
  (40104, (2, 1, mJ9_abs_0f7a4), 640, 641, 640, 98, 642),
  (40139, (0, 1, mX4_isTold), 643, 645, 6, 88, 646),
  (120030, (0, 1, mX10_ways), 647, 648, 649, 81, 650),
  (120035, (0, 6, mX10_choose), 651, 652, 653, 81, 654),
  (100083, (0, 7, mX1_settle), 655, 656, 657, 84, 658),
  (10052, (0, 1, mX8_hasName), 659, 660, 661, 83, 662),
  (10058, (0, 1, mX8_hasThing), 663, 585, 586, 83, 587),
  (10061, (3, 1, mX10_hasPair), 664, 665, 664, 81, 666),
  (100087, (0, 0, mX4_countAll), 667, 668, 669, 88, 670),
  (40076, (0, 0, mX4_moveOn), 672, 674, 7, 88, 675),
  (40119, (0, 0, mX4_nextSum), 676, 678, 8, 88, 679),
  (40122, (0, 0, mX4_doesIdleFit), 680, 682, 9, 88, 683),
  (40136, (0, 0, mX1_isIdle), 684, 593, 594, 84, 595),
  (120040, (0, 0, mX10_sets), 685, 686, 687, 81, 688),
  (100091, (0, 0, mX1_isSettled), 689, 613, 614, 84, 615),
  (120045, (0, 2, mX10_set), 690, 691, 692, 81, 693),
  (100095, (0, 1, mX4_seek), 694, 695, 696, 88, 697),
  (100099, (0, 1, mX4_fact), 698, 699, 700, 88, 701),
  (40083, (0, 1, mX4_number), 702, 703, 704, 88, 705),
  (120050, (0, 2, mX10_tells), 706, 707, 708, 81, 709),
  (100106, (0, 1, mX4_waysTo), 710, 711, 712, 88, 713),
  (120054, (0, 1, mX10_sheet), 714, 715, 716, 81, 717),
  (100119, (0, 2, mX6_addUnlike), 719, 720, 721, 86, 722),
  (60028, (0, 1, mX6_hasAnswer), 723, 725, 10, 86, 726),
  (120059, (0, 1, mX10_on), 727, 728, 729, 81, 730),
  (100123, (0, 1, mX6_setAt), 731, 732, 733, 86, 734),
  (120063, (0, 3, mX10_write), 735, 736, 737, 81, 738),
  (100129, (2, 1, mX10_mayTurn), 739, 740, 739, 81, 741),
  (100132, (0, 0, mX1_isIdle), 742, 593, 594, 84, 595),
  (100135, (2, 1, mX10_bodyLength), 743, 744, 743, 81, 745),
  (100138, (0, 4, mX9_putTale), 746, 747, 748, 89, 749),
  (90037, (3, 1, mX10_bodyLength), 750, 744, 750, 81, 745),
  (90041, (0, 0, mX1_isIdle), 751, 593, 594, 84, 595),
  (90045, (0, 2, mX9_putIdle), 752, 754, 11, 89, 755),
  (90083, (0, 1, mX4_number), 756, 703, 704, 88, 705),
  (90090, (0, 0, mX9_putSentence), 757, 759, 12, 89, 760),
  (90099, (0, 1, mX0_put), 761, 762, 763, 87, 764),
  (90103, (3, 1, mX10_textOf), 765, 766, 765, 81, 767),
  (90107, (0, 0, mJ0_length_8abf5), 781, 379, 380, 92, 381),
  (90112, (0, 1, mJ0_charAt_5068e), 782, 512, 513, 92, 514),
  (90116, (0, 1, mX9_putPart), 783, 785, 13, 89, 786),
  (90120, (0, 1, mX8_nameWord), 787, 788, 789, 83, 790),
  (80039, (0, 1, mX8_hasName), 791, 660, 661, 83, 662),
  (90126, (0, 1, mX9_putWord), 792, 794, 14, 89, 795),
  (90130, (0, 1, mX8_thingWord), 797, 798, 799, 83, 800),
  (90133, (0, 1, mX9_putNumber), 801, 803, 15, 89, 804),
  (90049, (3, 3, mX10_formAt), 805, 806, 805, 81, 807),
  (100199, (2, 2, mX10_unturned), 808, 809, 808, 81, 810),
  (100205, (0, 0, mJ0_length_8abf5), 812, 379, 380, 92, 381),
  (100209, (0, 1, mJ0_charAt_5068e), 813, 512, 513, 92, 514),
  (90057, (3, 2, mX10_isOfM), 814, 815, 814, 81, 816),
  (90079, (3, 3, mX10_numberAt), 817, 818, 817, 81, 819),
  (120068, (0, 1, mX10_written), 820, 821, 822, 81, 823),
  (100147, (0, 1, mX0_byteAt), 824, 825, 826, 87, 827),
  (120072, (0, 0, mX10_take), 828, 829, 830, 81, 831),
  (100150, (0, 1, mX0_copyOf), 832, 833, 834, 87, 835),
  (15, (7, 5, mNo), 836, 837, 838, 99, 836),
  (120076, (0, 5, mX10_feed), 839, 840, 841, 81, 842),
  (100154, (0, 1, mX0_putFour), 843, 844, 845, 87, 846),
  (25, (0, 1, mX0_put), 847, 762, 763, 87, 764),
  (120081, (0, 1, mX10_end), 848, 849, 850, 81, 851),
  (120085, (0, 0, mX10_read), 852, 853, 854, 81, 855),
  (100158, (0, 0, mX2_readRow), 856, 857, 858, 91, 859),
  (20058, (0, 0, mX2_openSentence), 860, 862, 16, 91, 863),
  (20074, (2, 2, mJ7_fill_53178), 864, 147, 864, 85, 148),
  (20080, (0, 0, mX2_current), 865, 867, 17, 91, 868),
  (20087, (2, 2, mJ9_min_7cf53), 869, 870, 869, 98, 871),
  (20093, (2, 2, mJ9_max_7cf53), 872, 634, 872, 98, 635),
  (20084, (0, 0, mX3_clear), 873, 874, 875, 90, 876),
  (20061, (0, 0, mX2_nextToken), 877, 879, 18, 91, 880),
  (20164, (0, 0, mX2_skipBlanks), 881, 883, 19, 91, 884),
  (20154, (0, 1, mX0_byteAt), 885, 825, 826, 87, 827),
  (20160, (3, 1, mX10_isLetter), 886, 504, 886, 81, 505),
  (20167, (0, 0, mX2_takeWord), 887, 889, 20, 91, 890),
  (20178, (0, 1, mX8_findName), 891, 550, 551, 83, 552),
  (20184, (0, 1, mX8_findThing), 892, 557, 558, 83, 559),
  (20170, (3, 1, mX10_isDigit), 893, 894, 893, 81, 895),
  (20173, (0, 0, mX2_takeNumber), 896, 898, 21, 91, 899),
  (20067, (0, 0, mX2_goOn), 900, 902, 22, 91, 903),
  (20102, (0, 1, mJ0_charAt_5068e), 904, 512, 513, 92, 514),
  (20106, (3, 1, mX10_textOf), 905, 766, 905, 81, 767),
  (20110, (0, 2, mX2_passed), 906, 908, 23, 91, 909),
  (20126, (0, 1, mX2_keepPart), 910, 912, 24, 91, 913),
  (20129, (0, 3, mX2_isSame), 914, 916, 25, 91, 917),
  (20114, (0, 1, mX2_closeSentence), 918, 920, 26, 91, 921),
  (20122, (3, 1, mX10_isQuestion), 922, 923, 922, 81, 924),
  (100172, (0, 2, mX5_find), 925, 926, 927, 93, 928),
  (50022, (0, 1, mX5_isShape), 929, 931, 27, 93, 932),
  (50041, (3, 1, mX10_bodyLength), 933, 744, 933, 81, 745),
  (50045, (0, 0, mX5_hasForms), 934, 936, 28, 93, 937),
  (50064, (0, 1, mX5_part), 938, 940, 29, 93, 941),
  (50055, (2, 2, mJ9_min_7cf53), 942, 870, 942, 98, 871),
  (50061, (2, 2, mJ9_max_7cf53), 943, 634, 943, 98, 635),
  (50074, (3, 3, mX10_formAt), 944, 806, 944, 81, 807),
  (50049, (0, 0, mX5_hasWords), 945, 947, 30, 93, 948),
  (50078, (3, 2, mX10_unturned), 949, 809, 949, 81, 810),
  (50088, (3, 1, mX10_hasPair), 950, 665, 950, 81, 666),
  (50100, (3, 2, mX10_isOfM), 951, 815, 951, 81, 816),
  (50104, (2, 2, mX5_isOrNone), 952, 953, 952, 93, 954),
  (50052, (0, 0, mX5_hasIdle), 955, 957, 31, 93, 958),
  (50111, (0, 0, mX5_idle), 959, 961, 32, 93, 962),
  (50026, (3, 1, mX10_mayTurn), 963, 740, 963, 81, 741),
  (50030, (0, 1, mX5_keepFacts), 964, 966, 33, 93, 967),
  (50115, (2, 2, mJ7_fill_53178), 968, 147, 968, 85, 148),
  (50121, (3, 3, mX10_numberAt), 969, 818, 969, 81, 819),
  (50128, (3, 4, mX10_answerOf), 970, 621, 970, 81, 622),
  (120089, (0, 1, mX10_fault), 971, 972, 973, 81, 974),
  (120093, (0, 1, mX10_got), 975, 976, 977, 81, 978),
  (120097, (0, 1, mX10_count), 979, 980, 981, 81, 982),
  (120101, (0, 1, mX10_image), 983, 984, 985, 81, 986),
  (100196, (0, 1, mX7_copyOf), 987, 988, 989, 82, 990),
  (70059, (0, 1, mX8_copyOf), 991, 992, 993, 83, 994),
  (80022, (7, 5, mNo), 995, 837, 838, 99, 995),
  (70063, (0, 1, mX1_copyOf), 996, 997, 998, 84, 999),
  (10043, (7, 5, mNo), 1000, 837, 838, 99, 1000),
  (70066, (0, 1, mX6_copyOf), 1001, 1002, 1003, 86, 1004),
  (60018, (7, 5, mNo), 1005, 837, 838, 99, 1005),
  (70069, (0, 1, mX0_copyOf), 1006, 833, 834, 87, 835),
  (70072, (7, 5, mNo), 1007, 837, 838, 99, 1007),
  (120105, (0, 1, mX10_again), 1008, 1009, 1010, 81, 1011),
  (120012, (4, 0, mX11_init), 1014, 1015, 1014, 94, 1016),
  (110001, (6, 0, mNo), 1017, 106, 1017, 1017, 107),
  (120019, (0, 1, mX11_name), 1076, 1077, 1078, 94, 1079),
  (110078, (0, 1, mX11_canBe), 1080, 1082, 34, 94, 1083),
  (110067, (2, 3, mX11_isIn), 1085, 1086, 1085, 94, 1087),
  (110071, (2, 1, mX11_wordOf), 1088, 1089, 1088, 94, 1090),
  (110075, (0, 1, mX11_named), 1110, 1112, 35, 94, 1113),
  (120024, (0, 2, mX11_thing), 1114, 1115, 1116, 94, 1117),
  (120029, (0, 3, mX11_span), 1118, 1119, 1120, 94, 1121),
  (120034, (0, 1, mX11_ways), 1122, 1123, 1124, 94, 1125),
  (120039, (0, 6, mX11_choose), 1126, 1127, 1128, 94, 1129),
  (110082, (0, 1, mX11_isName), 1130, 1132, 36, 94, 1133),
  (110086, (0, 1, mX11_isThing), 1134, 1136, 37, 94, 1137),
  (110089, (2, 1, mX11_hasOther), 1138, 1139, 1138, 94, 1140),
  (110092, (0, 1, mX11_scan), 1141, 1143, 38, 94, 1144),
  (110096, (0, 0, mX11_shape), 1145, 1147, 39, 94, 1148),
  (110133, (0, 1, mX11_least), 1149, 1151, 40, 94, 1152),
  (110136, (0, 1, mX11_greatest), 1153, 1155, 41, 94, 1156),
  (110139, (0, 0, mX11_isRight), 1157, 1159, 42, 94, 1160),
  (110124, (0, 0, mX11_t), 1161, 1163, 43, 94, 1164),
  (110117, (0, 0, mX11_answer), 1165, 1167, 44, 94, 1168),
  (110110, (2, 4, mX11_answerOf), 1169, 1170, 1169, 94, 1171),
  (110120, (0, 0, mX11_isIdle), 1172, 1174, 45, 94, 1175),
  (110142, (0, 0, mX11_isUnlike), 1176, 1178, 46, 94, 1179),
  (110127, (0, 1, mX11_isTempting), 1180, 1182, 47, 94, 1183),
  (110130, (0, 1, mX11_way), 1184, 1186, 48, 94, 1187),
  (120044, (0, 0, mX11_sets), 1188, 1189, 1190, 94, 1191),
  (120049, (0, 2, mX11_set), 1192, 1193, 1194, 94, 1195),
  (110146, (0, 1, mX11_looks), 1196, 1198, 49, 94, 1199),
  (120053, (0, 2, mX11_tells), 1201, 1202, 1203, 94, 1204),
  (120058, (0, 1, mX11_sheet), 1205, 1206, 1207, 94, 1208),
  (110149, (0, 1, mX11_comes), 1209, 1211, 50, 94, 1212),
  (120062, (0, 1, mX11_on), 1213, 1214, 1215, 94, 1216),
  (120067, (0, 3, mX11_write), 1217, 1218, 1219, 94, 1220),
  (110179, (2, 1, mX11_canTurn), 1221, 1222, 1221, 94, 1223),
  (110182, (2, 1, mX11_sentencesOf), 1224, 1225, 1224, 94, 1226),
  (110185, (0, 5, mX11_sentence), 1227, 1229, 51, 94, 1230),
  (110167, (0, 1, mX11_keyword), 1231, 1233, 52, 94, 1234),
  (110159, (2, 1, mX11_spelt), 1235, 1236, 1235, 94, 1237),
  (110163, (0, 1, mX11_says), 1238, 1240, 53, 94, 1241),
  (110156, (0, 0, mX11_blank), 1242, 1244, 54, 94, 1245),
  (110153, (0, 1, mX11_puts), 1246, 1248, 55, 94, 1249),
  (110170, (0, 1, mX11_nameOf), 1250, 1252, 56, 94, 1253),
  (110173, (0, 1, mX11_number), 1254, 1256, 57, 94, 1257),
  (110176, (0, 1, mX11_thingOf), 1258, 1260, 58, 94, 1261),
  (110189, (2, 2, mX11_kindOf), 1262, 1263, 1262, 94, 1264),
  (110193, (0, 0, mX11_m), 1265, 1267, 59, 94, 1268),
  (110196, (0, 0, mX11_n), 1269, 1271, 60, 94, 1272),
  (110199, (0, 3, mX11_question), 1273, 1275, 61, 94, 1276),
  (110203, (2, 2, mX11_numberOf), 1277, 1278, 1277, 94, 1279),
  (120071, (0, 1, mX11_written), 1280, 1281, 1282, 94, 1283),
  (120075, (0, 0, mX11_take), 1284, 1285, 1286, 94, 1287),
  (120080, (0, 5, mX11_feed), 1288, 1289, 1290, 94, 1291),
  (120084, (0, 1, mX11_end), 1292, 1293, 1294, 94, 1295),
  (120088, (0, 0, mX11_read), 1296, 1297, 1298, 94, 1299),
  (110237, (0, 0, mX11_advance), 1300, 1302, 62, 94, 1303),
  (110212, (0, 1, mX11_byteAt), 1304, 1306, 63, 94, 1307),
  (110221, (2, 1, mX11_isLetter), 1308, 1309, 1308, 94, 1310),
  (110224, (2, 1, mX11_isDigit), 1311, 1312, 1311, 94, 1313),
  (110293, (0, 0, mX11_aSentence), 1314, 1316, 64, 94, 1317),
  (110234, (0, 1, mX11_isNow), 1318, 1320, 65, 94, 1321),
  (110267, (0, 0, mX11_fAt), 1322, 1324, 66, 94, 1325),
  (110246, (0, 1, mX11_must), 1326, 1328, 67, 94, 1329),
  (110240, (0, 1, mX11_takes), 1330, 1332, 68, 94, 1333),
  (110243, (0, 0, mX11_stops), 1334, 1336, 69, 94, 1337),
  (110252, (0, 0, mX11_aNumber), 1338, 1340, 70, 94, 1341),
  (110255, (0, 0, mX11_aThing), 1342, 1344, 71, 94, 1345),
  (110258, (0, 5, mX11_keeps), 1346, 1348, 72, 94, 1349),
  (110261, (0, 0, mX11_aName), 1350, 1352, 73, 94, 1353),
  (110270, (0, 0, mX11_namedAt), 1354, 1356, 74, 94, 1357),
  (110264, (0, 1, mX11_hasAt), 1358, 1360, 75, 94, 1361),
  (110296, (0, 0, mX11_aQuestion), 1362, 1364, 76, 94, 1365),
  (110299, (0, 0, mX11_tale), 1366, 1368, 77, 94, 1369),
  (110285, (0, 3, mX11_isTale), 1370, 1372, 78, 94, 1373),
  (110282, (2, 2, mX11_at), 1374, 1375, 1374, 94, 1376),
  (110289, (0, 3, mX11_gets), 1377, 1379, 79, 94, 1380),
  (120092, (0, 1, mX11_fault), 1381, 1382, 1383, 94, 1384),
  (120096, (0, 1, mX11_got), 1385, 1386, 1387, 94, 1388),
  (120100, (0, 1, mX11_count), 1389, 1390, 1391, 94, 1392),
  (120104, (0, 1, mX11_image), 1393, 1394, 1395, 94, 1396),
  (120108, (0, 1, mX11_again), 1397, 1398, 1399, 94, 1400)]
def a_tC : List (Nat × Nat × Nat × Nat × Nat) := [(120007, 10, 100, 101, 81),
  (100007, 7, 108, 109, 82),
  (70009, 8, 114, 115, 83),
  (70018, 1, 140, 141, 84),
  (70025, 6, 188, 189, 86),
  (70032, 0, 205, 206, 87),
  (100020, 4, 256, 257, 88),
  (100037, 9, 316, 317, 89),
  (90009, 3, 322, 323, 90),
  (100050, 2, 369, 370, 91),
  (20009, 3, 375, 323, 90),
  (20038, 5, 389, 390, 93),
  (120010, 11, 1012, 1013, 94)]
def a_tA : List (Nat × Nat × Nat) := [(100007, 3, 108),
  (90009, 4, 322),
  (20009, 4, 375)]
def a_tI : List (Nat × Int32 × Nat) := [(40075, 1000000, 671),
  (100118, 1000000, 718),
  (110145, 13000000, 1200)]
def a_tL : List (Nat × Int64 × Nat) := [(80063, 255, 502),
  (90136, 255, 796),
  (110065, 255, 1084),
  (110027, 6840691, 1091),
  (110029, 422776956275, 1092),
  (110031, 1734702195, 1093),
  (110033, 465726301555, 1094),
  (110035, 1886745715, 1095),
  (110037, 1952998765, 1096),
  (110039, 1768846447, 1097),
  (110041, 26990, 1098),
  (110043, 97, 1099),
  (110045, 6451064, 1100),
  (110047, 6386277, 1101),
  (110049, 1836020325, 1102),
  (110051, 1952997742, 1103),
  (110053, 7237495, 1104),
  (110055, 6844279, 1105),
  (110057, 1835101817, 1106),
  (110059, 1751217765, 1107),
  (110061, 1651471464, 1108),
  (110063, 6840676, 1109),
  (120013, 4294967295, 1401)]
def a_tS : List (Nat × Nat × Nat) := [(20017, 0, 377),
  (80068, 1, 509),
  (100213, 2, 768),
  (100215, 3, 769),
  (100217, 4, 770),
  (100219, 5, 771),
  (100221, 6, 772),
  (100223, 7, 773),
  (100225, 8, 774),
  (100227, 9, 775),
  (100229, 10, 776),
  (100231, 11, 777),
  (100233, 12, 778),
  (100235, 13, 779),
  (100237, 14, 780),
  (100203, 15, 811)]
def a_tG : List (Nat × Nat × Nat) := [(200038, 0, 386),
  (201053, 1, 525)]
def a_str : List (String × Nat × String) := [("SumsInWords$Reader", 17, "ABCDEFGHPQRS"), ("SumsInWords$Words", 68, "has boxes gets loses puts them into in a box are more than now how many have both had"), ("SumsInWords", 213, "N has X T."), ("SumsInWords", 215, "N has X boxes."), ("SumsInWords", 217, "N gets X T."), ("SumsInWords", 219, "N loses X T."), ("SumsInWords", 221, "N puts them into X boxes."), ("SumsInWords", 223, "in a box are X T."), ("SumsInWords", 225, "N has X T more than O."), ("SumsInWords", 227, "now N has X T."), ("SumsInWords", 229, "how many T has N?"), ("SumsInWords", 231, "how many T are in a box?"), ("SumsInWords", 233, "how many T have both?"), ("SumsInWords", 235, "how many T had N?"), ("SumsInWords", 237, ""), ("SumsInWords", 203, "ACP ADP AEQ BFP AGP AGR CHS ACEQ")]
def a_byt : List (List Int32) := [[65, 66, 67, 68, 69, 70, 71, 72, 80, 81, 82, 83],
  [104, 97, 115, 32, 98, 111, 120, 101, 115, 32, 103, 101, 116, 115, 32, 108, 111, 115, 101, 115, 32, 112, 117, 116, 115, 32, 116, 104, 101, 109, 32, 105, 110, 116, 111, 32, 105, 110, 32, 97, 32, 98, 111, 120, 32, 97, 114, 101, 32, 109, 111, 114, 101, 32, 116, 104, 97, 110, 32, 110, 111, 119, 32, 104, 111, 119, 32, 109, 97, 110, 121, 32, 104, 97, 118, 101, 32, 98, 111, 116, 104, 32, 104, 97, 100],
  [78, 32, 104, 97, 115, 32, 88, 32, 84, 46],
  [78, 32, 104, 97, 115, 32, 88, 32, 98, 111, 120, 101, 115, 46],
  [78, 32, 103, 101, 116, 115, 32, 88, 32, 84, 46],
  [78, 32, 108, 111, 115, 101, 115, 32, 88, 32, 84, 46],
  [78, 32, 112, 117, 116, 115, 32, 116, 104, 101, 109, 32, 105, 110, 116, 111, 32, 88, 32, 98, 111, 120, 101, 115, 46],
  [105, 110, 32, 97, 32, 98, 111, 120, 32, 97, 114, 101, 32, 88, 32, 84, 46],
  [78, 32, 104, 97, 115, 32, 88, 32, 84, 32, 109, 111, 114, 101, 32, 116, 104, 97, 110, 32, 79, 46],
  [110, 111, 119, 32, 78, 32, 104, 97, 115, 32, 88, 32, 84, 46],
  [104, 111, 119, 32, 109, 97, 110, 121, 32, 84, 32, 104, 97, 115, 32, 78, 63],
  [104, 111, 119, 32, 109, 97, 110, 121, 32, 84, 32, 97, 114, 101, 32, 105, 110, 32, 97, 32, 98, 111, 120, 63],
  [104, 111, 119, 32, 109, 97, 110, 121, 32, 84, 32, 104, 97, 118, 101, 32, 98, 111, 116, 104, 63],
  [104, 111, 119, 32, 109, 97, 110, 121, 32, 84, 32, 104, 97, 100, 32, 78, 63],
  [],
  [65, 67, 80, 32, 65, 68, 80, 32, 65, 69, 81, 32, 66, 70, 80, 32, 65, 71, 80, 32, 65, 71, 82, 32, 67, 72, 83, 32, 65, 67, 69, 81]]
/-- places of the words on array classes: int, long, boolean -/
def a_pA : List (FieldType × Nat) := [(.int, 139), (.long, 138), (.boolean, 315)]
