abbrev mX7_init : MD := (yX7_init, cX7_init, 3, none, 0)
abbrev mX0_init : MD := (yX0_init, cX0_init, 1, none, 0)
abbrev mX1_init : MD := (yX1_init, cX1_init, 2, none, 0)
abbrev mX5_init : MD := (yX5_init, cX5_init, 1, none, 0)
abbrev mX4_init : MD := (yX4_init, cX4_init, 1, none, 0)
abbrev mX3_init : MD := (yX3_init, cX3_init, 1, none, 0)
abbrev mX2_init : MD := (yX2_init, cX2_init, 2, none, 1)
abbrev mJ0_length_8abf5 : MD := (yJ0_length_8abf5, cJ0_length_8abf5, 1, (some .int), 0)
abbrev mJ0_coder_7d493 : MD := (yJ0_coder_7d493, cJ0_coder_7d493, 1, (some .byte), 0)
abbrev mJ0_charAt_5068e : MD := (yJ0_charAt_5068e, cJ0_charAt_5068e, 2, (some .char), 1)
abbrev mJ0_isLatin1_aae02 : MD := (yJ0_isLatin1_aae02, cJ0_isLatin1_aae02, 1, (some .boolean), 0)
abbrev mJ1_charAt_3b067 : MD := (yJ1_charAt_3b067, cJ1_charAt_3b067, 2, (some .char), 2)
abbrev mJ0_checkIndex_df160 : MD := (yJ0_checkIndex_df160, cJ0_checkIndex_df160, 2, none, 2)
abbrev mJ3_checkIndex_8e157 : MD := (yJ3_checkIndex_8e157, cJ3_checkIndex_8e157, 3, (some .int), 3)
abbrev mJ2_charAt_3b067 : MD := (yJ2_charAt_3b067, cJ2_charAt_3b067, 2, (some .char), 2)
abbrev mJ2_checkIndex_2214a : MD := (yJ2_checkIndex_2214a, cJ2_checkIndex_2214a, 2, none, 2)
abbrev mJ2_length_9d52b : MD := (yJ2_length_9d52b, cJ2_length_9d52b, 1, (some .int), 1)
abbrev mJ2_getChar_3b067 : MD := (yJ2_getChar_3b067, cJ2_getChar_3b067, 2, (some .char), 2)
abbrev mX2_put : MD := (yX2_put, cX2_put, 2, (some .boolean), 1)
abbrev mX2_readInto : MD := (yX2_readInto, cX2_readInto, 3, (some .int), 1)
abbrev mX4_clear : MD := (yX4_clear, cX4_clear, 1, none, 0)
abbrev mX2_advance : MD := (yX2_advance, cX2_advance, 1, none, 0)
abbrev mX2_isBlank : MD := (yX2_isBlank, cX2_isBlank, 1, (some .boolean), 1)
abbrev mX2_isLetter : MD := (yX2_isLetter, cX2_isLetter, 1, (some .boolean), 1)
abbrev mX2_readWord : MD := (yX2_readWord, cX2_readWord, 2, none, 0)
abbrev mX2_wordRead : MD := (yX2_wordRead, cX2_wordRead, 6, (some .int), 0)
abbrev mJ9_max_7cf53 : MD := (yJ9_max_7cf53, cJ9_max_7cf53, 2, (some .int), 2)
abbrev mX2_isDigit : MD := (yX2_isDigit, cX2_isDigit, 1, (some .boolean), 1)
abbrev mX2_readNumber : MD := (yX2_readNumber, cX2_readNumber, 1, none, 0)
abbrev mX2_isSign : MD := (yX2_isSign, cX2_isSign, 1, (some .boolean), 1)
abbrev mX2_expect : MD := (yX2_expect, cX2_expect, 2, none, 1)
abbrev mX2_fail : MD := (yX2_fail, cX2_fail, 1, none, 0)
abbrev mX2_readEither : MD := (yX2_readEither, cX2_readEither, 3, none, 1)
abbrev mX2_readBoth : MD := (yX2_readBoth, cX2_readBoth, 3, none, 1)
abbrev mX2_readNot : MD := (yX2_readNot, cX2_readNot, 4, none, 1)
abbrev mX2_readOpen : MD := (yX2_readOpen, cX2_readOpen, 4, (some .int), 2)
abbrev mX2_readCompared : MD := (yX2_readCompared, cX2_readCompared, 3, none, 1)
abbrev mX2_readSum : MD := (yX2_readSum, cX2_readSum, 4, none, 1)
abbrev mX2_readTerm : MD := (yX2_readTerm, cX2_readTerm, 3, none, 1)
abbrev mX2_readOne : MD := (yX2_readOne, cX2_readOne, 5, none, 1)
abbrev mX4_add : MD := (yX4_add, cX4_add, 2, none, 1)
abbrev mX4_endPart : MD := (yX4_endPart, cX4_endPart, 2, none, 1)
abbrev mX2_clear : MD := (yX2_clear, cX2_clear, 1, none, 0)
abbrev mX6_init : MD := (yX6_init, cX6_init, 3, none, 2)
abbrev mX7_learns : MD := (yX7_learns, cX7_learns, 3, (some .int), 2)
abbrev mX7_isSet : MD := (yX7_isSet, cX7_isSet, 1, (some .boolean), 1)
abbrev mX7_isFact : MD := (yX7_isFact, cX7_isFact, 1, (some .boolean), 1)
abbrev mX0_add : MD := (yX0_add, cX0_add, 3, (some .int), 2)
abbrev mX7_set : MD := (yX7_set, cX7_set, 6, (some .int), 3)
abbrev mX1_at : MD := (yX1_at, cX1_at, 2, (some (.object "ApplesFall$Tree")), 1)
abbrev mX7_greatest : MD := (yX7_greatest, cX7_greatest, 1, (some .int), 1)
abbrev mX7_tellOf : MD := (yX7_tellOf, cX7_tellOf, 3, (some .int), 2)
abbrev mX5_number : MD := (yX5_number, cX5_number, 2, (some .int), 1)
abbrev mX5_change : MD := (yX5_change, cX5_change, 3, none, 2)
abbrev mX7_house : MD := (yX7_house, cX7_house, 3, (some .int), 2)
abbrev mX7_isHouse : MD := (yX7_isHouse, cX7_isHouse, 2, (some .boolean), 2)
abbrev mX1_add : MD := (yX1_add, cX1_add, 4, (some .int), 2)
abbrev mX5_begin : MD := (yX5_begin, cX5_begin, 3, none, 2)
abbrev mX7_told : MD := (yX7_told, cX7_told, 4, (some .int), 2)
abbrev mX0_next : MD := (yX0_next, cX0_next, 5, (some .int), 2)
abbrev mX6_understands : MD := (yX6_understands, cX6_understands, 5, (some .int), 2)
abbrev mX0_closure : MD := (yX0_closure, cX0_closure, 6, (some .int), 2)
abbrev mX6_fallen : MD := (yX6_fallen, cX6_fallen, 6, (some .int), 3)
abbrev mX6_fall : MD := (yX6_fall, cX6_fall, 5, (some .int), 3)
abbrev mX6_describe : MD := (yX6_describe, cX6_describe, 4, none, 3)
abbrev mJ6_bitCount_0f7a4 : MD := (yJ6_bitCount_0f7a4, cJ6_bitCount_0f7a4, 1, (some .int), 1)
abbrev mX4_value : MD := (yX4_value, cX4_value, 7, (some .int), 2)
abbrev mX4_ofTwo : MD := (yX4_ofTwo, cX4_ofTwo, 3, (some .int), 3)
abbrev mX4_ofOne : MD := (yX4_ofOne, cX4_ofOne, 2, (some .int), 2)
abbrev mX7_held : MD := (yX7_held, cX7_held, 3, (some .int), 3)
abbrev mJ9_min_7cf53 : MD := (yJ9_min_7cf53, cJ9_min_7cf53, 2, (some .int), 2)
abbrev mX7_liveOn : MD := (yX7_liveOn, cX7_liveOn, 5, none, 3)
abbrev mX5_become : MD := (yX5_become, cX5_become, 2, none, 1)
abbrev mX6_pass : MD := (yX6_pass, cX6_pass, 6, none, 2)
abbrev mX0_missed : MD := (yX0_missed, cX0_missed, 6, (some .int), 1)
abbrev mX7_feed : MD := (yX7_feed, cX7_feed, 2, (some .int), 1)
abbrev mX7_text : MD := (yX7_text, cX7_text, 3, (some .int), 0)
abbrev mX7_ruleAt : MD := (yX7_ruleAt, cX7_ruleAt, 2, (some (.object "ApplesFall$Rule")), 1)
abbrev mX7_force : MD := (yX7_force, cX7_force, 4, (some .int), 1)
abbrev mX7_follows : MD := (yX7_follows, cX7_follows, 3, (some .int), 2)
abbrev mX0_rounds : MD := (yX0_rounds, cX0_rounds, 5, (some .int), 1)
abbrev mX7_laws : MD := (yX7_laws, cX7_laws, 2, (some .int), 1)
abbrev mX0_idle : MD := (yX0_idle, cX0_idle, 3, (some .int), 0)
abbrev mX0_roots : MD := (yX0_roots, cX0_roots, 3, (some .int), 0)
abbrev mX0_same : MD := (yX0_same, cX0_same, 4, (some .int), 0)
abbrev mX0_has : MD := (yX0_has, cX0_has, 2, (some .boolean), 1)
abbrev mX7_tell : MD := (yX7_tell, cX7_tell, 4, (some .int), 2)
abbrev mX5_isKnown : MD := (yX5_isKnown, cX5_isKnown, 2, (some .boolean), 1)
abbrev mX6_hear : MD := (yX6_hear, cX6_hear, 4, none, 3)
abbrev mX6_wouldLearn : MD := (yX6_wouldLearn, cX6_wouldLearn, 4, (some .boolean), 3)
abbrev mX6_takes : MD := (yX6_takes, cX6_takes, 5, (some .boolean), 3)
abbrev mX7_day : MD := (yX7_day, cX7_day, 2, (some .int), 0)
abbrev mX1_apples : MD := (yX1_apples, cX1_apples, 4, (some .int), 0)
abbrev mX1_pass : MD := (yX1_pass, cX1_pass, 4, none, 1)
abbrev mX7_run : MD := (yX7_run, cX7_run, 5, (some .int), 3)
abbrev mX7_isDays : MD := (yX7_isDays, cX7_isDays, 1, (some .boolean), 1)
abbrev mX7_basketsBehind : MD := (yX7_basketsBehind, cX7_basketsBehind, 3, (some .int), 1)
abbrev mX1_become : MD := (yX1_become, cX1_become, 5, none, 1)
abbrev mX7_asks : MD := (yX7_asks, cX7_asks, 5, (some .int), 3)
abbrev mX7_knowsWhen : MD := (yX7_knowsWhen, cX7_knowsWhen, 4, (some .int), 2)
abbrev mX0_fewest : MD := (yX0_fewest, cX0_fewest, 5, (some .int), 2)
abbrev mX7_best : MD := (yX7_best, cX7_best, 9, (some .int), 3)
abbrev mX7_basketBehind : MD := (yX7_basketBehind, cX7_basketBehind, 4, (some .int), 3)
abbrev mX7_whom : MD := (yX7_whom, cX7_whom, 11, (some .int), 3)
abbrev mX7_tells : MD := (yX7_tells, cX7_tells, 6, (some .int), 3)
abbrev mX7_rowAt : MD := (yX7_rowAt, cX7_rowAt, 2, (some (.object "ApplesFall$Row")), 1)
abbrev mX3_isMissing : MD := (yX3_isMissing, cX3_isMissing, 1, (some .boolean), 0)
abbrev mX7_firstOther : MD := (yX7_firstOther, cX7_firstOther, 4, (some .int), 2)
abbrev mX3_has : MD := (yX3_has, cX3_has, 2, (some .boolean), 1)
abbrev mX7_bitsThatFit : MD := (yX7_bitsThatFit, cX7_bitsThatFit, 7, (some .int), 4)
abbrev mX7_ripesThatFit : MD := (yX7_ripesThatFit, cX7_ripesThatFit, 5, (some .int), 2)
abbrev mX7_leastRipeThatFits : MD := (yX7_leastRipeThatFits, cX7_leastRipeThatFits, 4, (some .int), 2)
abbrev mX7_textsThatFit : MD := (yX7_textsThatFit, cX7_textsThatFit, 7, (some .int), 2)
abbrev mX7_housesThatFit : MD := (yX7_housesThatFit, cX7_housesThatFit, 5, (some .int), 1)
abbrev mX7_film : MD := (yX7_film, cX7_film, 7, (some .int), 3)
abbrev mX3_begin : MD := (yX3_begin, cX3_begin, 4, none, 2)
abbrev mX3_put : MD := (yX3_put, cX3_put, 3, none, 2)
abbrev mX7_drawn : MD := (yX7_drawn, cX7_drawn, 2, (some .int), 1)
abbrev mX7_basketsDrawn : MD := (yX7_basketsDrawn, cX7_basketsDrawn, 5, (some .int), 1)
abbrev mX7_chance : MD := (yX7_chance, cX7_chance, 7, (some .long), 4)
abbrev mX7_inLowestTerms : MD := (yX7_inLowestTerms, cX7_inLowestTerms, 4, (some .int), 3)
abbrev mX7_image : MD := (yX7_image, cX7_image, 1, (some .int), 0)
abbrev mX7_back : MD := (yX7_back, cX7_back, 2, (some .int), 0)
abbrev mX0_leave : MD := (yX0_leave, cX0_leave, 2, none, 1)
abbrev mX7_count : MD := (yX7_count, cX7_count, 2, (some .int), 1)
abbrev mX7_sheet : MD := (yX7_sheet, cX7_sheet, 5, (some .int), 3)
abbrev mX7_isSort : MD := (yX7_isSort, cX7_isSort, 1, (some .boolean), 1)
abbrev mX7_cell : MD := (yX7_cell, cX7_cell, 5, (some .int), 3)
abbrev mX7_copy : MD := (yX7_copy, cX7_copy, 8, (some .int), 5)
abbrev mX3_hasAll : MD := (yX3_hasAll, cX3_hasAll, 3, (some .boolean), 2)
abbrev mX7_houses : MD := (yX7_houses, cX7_houses, 11, (some .int), 4)
abbrev mX7_taken : MD := (yX7_taken, cX7_taken, 4, (some .int), 2)
abbrev mX5_isOf : MD := (yX5_isOf, cX5_isOf, 4, (some .boolean), 1)
abbrev mX8_init : MD := (yX8_init, cX8_init, 1, none, 0)
abbrev mX8_spell : MD := (yX8_spell, cX8_spell, 10, none, 9)
abbrev mX8_learns : MD := (yX8_learns, cX8_learns, 3, (some .int), 2)
abbrev mX8_in : MD := (yX8_in, cX8_in, 6, (some .boolean), 3)
abbrev mX8_isFact : MD := (yX8_isFact, cX8_isFact, 1, (some .boolean), 1)
abbrev mX8_set : MD := (yX8_set, cX8_set, 5, (some .int), 3)
abbrev mX8_isHouse : MD := (yX8_isHouse, cX8_isHouse, 2, (some .boolean), 1)
abbrev mX8_mostOf : MD := (yX8_mostOf, cX8_mostOf, 1, (some .int), 1)
abbrev mX8_told : MD := (yX8_told, cX8_told, 3, (some .int), 2)
abbrev mX8_knows : MD := (yX8_knows, cX8_knows, 2, (some .int), 1)
abbrev mX8_followsOf : MD := (yX8_followsOf, cX8_followsOf, 5, (some .int), 2)
abbrev mX8_understands : MD := (yX8_understands, cX8_understands, 6, (some .int), 1)
abbrev mX8_bitsOf : MD := (yX8_bitsOf, cX8_bitsOf, 3, (some .int), 1)
abbrev mX8_allOf : MD := (yX8_allOf, cX8_allOf, 4, (some .int), 2)
abbrev mX8_fallsFor : MD := (yX8_fallsFor, cX8_fallsFor, 5, (some .int), 2)
abbrev mX8_fallOf : MD := (yX8_fallOf, cX8_fallOf, 5, (some .int), 2)
abbrev mX8_says : MD := (yX8_says, cX8_says, 5, (some .int), 3)
abbrev mX8_read : MD := (yX8_read, cX8_read, 6, (some .int), 2)
abbrev mX8_next : MD := (yX8_next, cX8_next, 3, none, 0)
abbrev mX8_byteAt : MD := (yX8_byteAt, cX8_byteAt, 2, (some .int), 1)
abbrev mX8_isWord : MD := (yX8_isWord, cX8_isWord, 9, (some .boolean), 8)
abbrev mX8_isLetter : MD := (yX8_isLetter, cX8_isLetter, 3, (some .boolean), 2)
abbrev mX8_part : MD := (yX8_part, cX8_part, 3, (some .int), 1)
abbrev mX8_fail : MD := (yX8_fail, cX8_fail, 1, none, 0)
abbrev mX8_either0 : MD := (yX8_either0, cX8_either0, 3, (some .int), 0)
abbrev mX8_both0 : MD := (yX8_both0, cX8_both0, 3, (some .int), 0)
abbrev mX8_not0 : MD := (yX8_not0, cX8_not0, 4, (some .int), 0)
abbrev mX8_opens : MD := (yX8_opens, cX8_opens, 1, (some .boolean), 0)
abbrev mX8_not1 : MD := (yX8_not1, cX8_not1, 4, (some .int), 0)
abbrev mX8_not2 : MD := (yX8_not2, cX8_not2, 4, (some .int), 0)
abbrev mX8_not3 : MD := (yX8_not3, cX8_not3, 4, (some .int), 0)
abbrev mX8_not4 : MD := (yX8_not4, cX8_not4, 4, (some .int), 0)
abbrev mX8_not5 : MD := (yX8_not5, cX8_not5, 4, (some .int), 0)
abbrev mX8_added5 : MD := (yX8_added5, cX8_added5, 4, (some .int), 0)
abbrev mX8_term5 : MD := (yX8_term5, cX8_term5, 2, (some .int), 0)
abbrev mX8_atom5 : MD := (yX8_atom5, cX8_atom5, 2, (some .int), 0)
abbrev mX8_isSign : MD := (yX8_isSign, cX8_isSign, 2, (some .boolean), 1)
abbrev mX8_name : MD := (yX8_name, cX8_name, 1, (some .int), 0)
abbrev mX8_added4 : MD := (yX8_added4, cX8_added4, 4, (some .int), 0)
abbrev mX8_term4 : MD := (yX8_term4, cX8_term4, 2, (some .int), 0)
abbrev mX8_atom4 : MD := (yX8_atom4, cX8_atom4, 2, (some .int), 0)
abbrev mX8_either5 : MD := (yX8_either5, cX8_either5, 3, (some .int), 0)
abbrev mX8_both5 : MD := (yX8_both5, cX8_both5, 3, (some .int), 0)
abbrev mX8_added3 : MD := (yX8_added3, cX8_added3, 4, (some .int), 0)
abbrev mX8_term3 : MD := (yX8_term3, cX8_term3, 2, (some .int), 0)
abbrev mX8_atom3 : MD := (yX8_atom3, cX8_atom3, 2, (some .int), 0)
abbrev mX8_either4 : MD := (yX8_either4, cX8_either4, 3, (some .int), 0)
abbrev mX8_both4 : MD := (yX8_both4, cX8_both4, 3, (some .int), 0)
abbrev mX8_added2 : MD := (yX8_added2, cX8_added2, 4, (some .int), 0)
abbrev mX8_term2 : MD := (yX8_term2, cX8_term2, 2, (some .int), 0)
abbrev mX8_atom2 : MD := (yX8_atom2, cX8_atom2, 2, (some .int), 0)
abbrev mX8_either3 : MD := (yX8_either3, cX8_either3, 3, (some .int), 0)
abbrev mX8_both3 : MD := (yX8_both3, cX8_both3, 3, (some .int), 0)
abbrev mX8_added1 : MD := (yX8_added1, cX8_added1, 4, (some .int), 0)
abbrev mX8_term1 : MD := (yX8_term1, cX8_term1, 2, (some .int), 0)
abbrev mX8_atom1 : MD := (yX8_atom1, cX8_atom1, 2, (some .int), 0)
abbrev mX8_either2 : MD := (yX8_either2, cX8_either2, 3, (some .int), 0)
abbrev mX8_both2 : MD := (yX8_both2, cX8_both2, 3, (some .int), 0)
abbrev mX8_added0 : MD := (yX8_added0, cX8_added0, 4, (some .int), 0)
abbrev mX8_term0 : MD := (yX8_term0, cX8_term0, 2, (some .int), 0)
abbrev mX8_atom0 : MD := (yX8_atom0, cX8_atom0, 2, (some .int), 0)
abbrev mX8_either1 : MD := (yX8_either1, cX8_either1, 3, (some .int), 0)
abbrev mX8_both1 : MD := (yX8_both1, cX8_both1, 3, (some .int), 0)
abbrev mX8_within : MD := (yX8_within, cX8_within, 3, (some .int), 3)
abbrev mX8_neverOf : MD := (yX8_neverOf, cX8_neverOf, 3, (some .int), 1)
abbrev mX8_laysAside : MD := (yX8_laysAside, cX8_laysAside, 2, none, 0)
abbrev mX8_passes : MD := (yX8_passes, cX8_passes, 6, (some .int), 0)
abbrev mX8_laysBack : MD := (yX8_laysBack, cX8_laysBack, 2, none, 0)
abbrev mX8_missOf : MD := (yX8_missOf, cX8_missOf, 6, (some .int), 1)
abbrev mX8_lays : MD := (yX8_lays, cX8_lays, 4, none, 3)
abbrev mX8_house : MD := (yX8_house, cX8_house, 3, (some .int), 2)
abbrev mX8_feed : MD := (yX8_feed, cX8_feed, 2, (some .int), 1)
abbrev mX8_text : MD := (yX8_text, cX8_text, 2, (some .int), 0)
abbrev mX8_force : MD := (yX8_force, cX8_force, 3, (some .int), 1)
abbrev mX8_follows : MD := (yX8_follows, cX8_follows, 3, (some .int), 2)
abbrev mX8_roundsOf : MD := (yX8_roundsOf, cX8_roundsOf, 4, (some .int), 1)
abbrev mX8_laws : MD := (yX8_laws, cX8_laws, 4, (some .int), 1)
abbrev mX8_idleSet : MD := (yX8_idleSet, cX8_idleSet, 3, (some .int), 0)
abbrev mX8_rootSet : MD := (yX8_rootSet, cX8_rootSet, 3, (some .int), 0)
abbrev mX8_sameMany : MD := (yX8_sameMany, cX8_sameMany, 4, (some .int), 0)
abbrev mX8_tell : MD := (yX8_tell, cX8_tell, 3, (some .int), 2)
abbrev mX8_knowsIt : MD := (yX8_knowsIt, cX8_knowsIt, 3, (some .boolean), 2)
abbrev mX8_hears : MD := (yX8_hears, cX8_hears, 3, (some .int), 2)
abbrev mX8_takes1 : MD := (yX8_takes1, cX8_takes1, 5, (some .boolean), 2)
abbrev mX8_day : MD := (yX8_day, cX8_day, 1, (some .int), 0)
abbrev mX8_run : MD := (yX8_run, cX8_run, 6, (some .int), 3)
abbrev mX8_applesAll : MD := (yX8_applesAll, cX8_applesAll, 3, (some .int), 0)
abbrev mX8_asks : MD := (yX8_asks, cX8_asks, 4, (some .int), 3)
abbrev mX8_whenOf : MD := (yX8_whenOf, cX8_whenOf, 4, (some .int), 2)
abbrev mX8_fewestOf : MD := (yX8_fewestOf, cX8_fewestOf, 7, (some .int), 2)
abbrev mX8_best : MD := (yX8_best, cX8_best, 8, (some .int), 3)
abbrev mX8_basketBy : MD := (yX8_basketBy, cX8_basketBy, 7, (some .int), 4)
abbrev mX8_whom : MD := (yX8_whom, cX8_whom, 8, (some .int), 3)
abbrev mX8_tells : MD := (yX8_tells, cX8_tells, 11, (some .int), 3)
abbrev mX8_isSheet : MD := (yX8_isSheet, cX8_isSheet, 1, (some .boolean), 1)
abbrev mX8_firstOther : MD := (yX8_firstOther, cX8_firstOther, 5, (some .int), 2)
abbrev mX8_likeSet : MD := (yX8_likeSet, cX8_likeSet, 4, (some .int), 1)
abbrev mX8_turnedSet : MD := (yX8_turnedSet, cX8_turnedSet, 5, (some .int), 2)
abbrev mX8_film : MD := (yX8_film, cX8_film, 5, (some .int), 3)
abbrev mX8_sheet : MD := (yX8_sheet, cX8_sheet, 5, (some .int), 3)
abbrev mX8_drawn : MD := (yX8_drawn, cX8_drawn, 2, (some .int), 1)
abbrev mX8_basketsDrawn : MD := (yX8_basketsDrawn, cX8_basketsDrawn, 5, (some .int), 1)
abbrev mX8_chance : MD := (yX8_chance, cX8_chance, 13, (some .long), 4)
abbrev mX8_image : MD := (yX8_image, cX8_image, 2, (some .int), 0)
abbrev mX8_back : MD := (yX8_back, cX8_back, 2, (some .int), 0)
abbrev mX8_count : MD := (yX8_count, cX8_count, 2, (some .int), 1)
abbrev mX8_cell : MD := (yX8_cell, cX8_cell, 4, (some .int), 3)
abbrev mX8_copy : MD := (yX8_copy, cX8_copy, 9, (some .int), 5)
abbrev mX8_houses : MD := (yX8_houses, cX8_houses, 8, (some .int), 4)
abbrev mX8_taken : MD := (yX8_taken, cX8_taken, 4, (some .int), 2)
abbrev mX8_over : MD := (yX8_over, cX8_over, 1, (some .int), 1)
theorem ok_X7_init : MOK mX7_init := ⟨(gw 126 (by decide +kernel) (by decide +kernel)), (gw 106 (by decide +kernel) (by decide +kernel)), by decide +kernel, by decide⟩
theorem ok_X0_init : MOK mX0_init := ⟨(gw 134 (by decide +kernel) (by decide +kernel)), (gw 107 (by decide +kernel) (by decide +kernel)), by decide +kernel, by decide⟩
theorem ok_X1_init : MOK mX1_init := ⟨(gw 157 (by decide +kernel) (by decide +kernel)), (gw 108 (by decide +kernel) (by decide +kernel)), by decide +kernel, by decide⟩
theorem ok_X5_init : MOK mX5_init := ⟨(gw 164 (by decide +kernel) (by decide +kernel)), (gw 109 (by decide +kernel) (by decide +kernel)), by decide +kernel, by decide⟩
theorem ok_X4_init : MOK mX4_init := ⟨(gw 218 (by decide +kernel) (by decide +kernel)), (gw 110 (by decide +kernel) (by decide +kernel)), by decide +kernel, by decide⟩
theorem ok_X3_init : MOK mX3_init := ⟨(gw 236 (by decide +kernel) (by decide +kernel)), (gw 111 (by decide +kernel) (by decide +kernel)), by decide +kernel, by decide⟩
theorem ok_X2_init : MOK mX2_init := ⟨(gw 255 (by decide +kernel) (by decide +kernel)), (gw 112 (by decide +kernel) (by decide +kernel)), by decide +kernel, by decide⟩
theorem ok_X2_put : MOK mX2_put := ⟨(gw 335 (by decide +kernel) (by decide +kernel)), (gw 112 (by decide +kernel) (by decide +kernel)), by decide +kernel, by decide⟩
theorem ok_X2_readInto : MOK mX2_readInto := ⟨(gw 339 (by decide +kernel) (by decide +kernel)), (gw 112 (by decide +kernel) (by decide +kernel)), by decide +kernel, by decide⟩
theorem ok_X4_clear : MOK mX4_clear := ⟨(gw 343 (by decide +kernel) (by decide +kernel)), (gw 110 (by decide +kernel) (by decide +kernel)), by decide +kernel, by decide⟩
theorem ok_X2_advance : MOK mX2_advance := ⟨(gw 347 (by decide +kernel) (by decide +kernel)), (gw 112 (by decide +kernel) (by decide +kernel)), by decide +kernel, by decide⟩
theorem ok_X2_isBlank : MOK mX2_isBlank := ⟨(gw 350 (by decide +kernel) (by decide +kernel)), (gw 112 (by decide +kernel) (by decide +kernel)), by decide +kernel, by decide⟩
theorem ok_X2_isLetter : MOK mX2_isLetter := ⟨(gw 353 (by decide +kernel) (by decide +kernel)), (gw 112 (by decide +kernel) (by decide +kernel)), by decide +kernel, by decide⟩
theorem ok_X2_readWord : MOK mX2_readWord := ⟨(gw 357 (by decide +kernel) (by decide +kernel)), (gw 112 (by decide +kernel) (by decide +kernel)), by decide +kernel, by decide⟩
theorem ok_X2_wordRead : MOK mX2_wordRead := ⟨(gw 361 (by decide +kernel) (by decide +kernel)), (gw 112 (by decide +kernel) (by decide +kernel)), by decide +kernel, by decide⟩
theorem ok_X2_isDigit : MOK mX2_isDigit := ⟨(gw 370 (by decide +kernel) (by decide +kernel)), (gw 112 (by decide +kernel) (by decide +kernel)), by decide +kernel, by decide⟩
theorem ok_X2_readNumber : MOK mX2_readNumber := ⟨(gw 374 (by decide +kernel) (by decide +kernel)), (gw 112 (by decide +kernel) (by decide +kernel)), by decide +kernel, by decide⟩
theorem ok_X2_isSign : MOK mX2_isSign := ⟨(gw 377 (by decide +kernel) (by decide +kernel)), (gw 112 (by decide +kernel) (by decide +kernel)), by decide +kernel, by decide⟩
theorem ok_X2_expect : MOK mX2_expect := ⟨(gw 381 (by decide +kernel) (by decide +kernel)), (gw 112 (by decide +kernel) (by decide +kernel)), by decide +kernel, by decide⟩
theorem ok_X2_fail : MOK mX2_fail := ⟨(gw 385 (by decide +kernel) (by decide +kernel)), (gw 112 (by decide +kernel) (by decide +kernel)), by decide +kernel, by decide⟩
theorem ok_X2_readEither : MOK mX2_readEither := ⟨(gw 389 (by decide +kernel) (by decide +kernel)), (gw 112 (by decide +kernel) (by decide +kernel)), by decide +kernel, by decide⟩
theorem ok_X2_readBoth : MOK mX2_readBoth := ⟨(gw 393 (by decide +kernel) (by decide +kernel)), (gw 112 (by decide +kernel) (by decide +kernel)), by decide +kernel, by decide⟩
theorem ok_X2_readNot : MOK mX2_readNot := ⟨(gw 397 (by decide +kernel) (by decide +kernel)), (gw 112 (by decide +kernel) (by decide +kernel)), by decide +kernel, by decide⟩
theorem ok_X2_readOpen : MOK mX2_readOpen := ⟨(gw 401 (by decide +kernel) (by decide +kernel)), (gw 112 (by decide +kernel) (by decide +kernel)), by decide +kernel, by decide⟩
theorem ok_X2_readCompared : MOK mX2_readCompared := ⟨(gw 405 (by decide +kernel) (by decide +kernel)), (gw 112 (by decide +kernel) (by decide +kernel)), by decide +kernel, by decide⟩
theorem ok_X2_readSum : MOK mX2_readSum := ⟨(gw 409 (by decide +kernel) (by decide +kernel)), (gw 112 (by decide +kernel) (by decide +kernel)), by decide +kernel, by decide⟩
theorem ok_X2_readTerm : MOK mX2_readTerm := ⟨(gw 413 (by decide +kernel) (by decide +kernel)), (gw 112 (by decide +kernel) (by decide +kernel)), by decide +kernel, by decide⟩
theorem ok_X2_readOne : MOK mX2_readOne := ⟨(gw 417 (by decide +kernel) (by decide +kernel)), (gw 112 (by decide +kernel) (by decide +kernel)), by decide +kernel, by decide⟩
theorem ok_X4_add : MOK mX4_add := ⟨(gw 421 (by decide +kernel) (by decide +kernel)), (gw 110 (by decide +kernel) (by decide +kernel)), by decide +kernel, by decide⟩
theorem ok_X4_endPart : MOK mX4_endPart := ⟨(gw 425 (by decide +kernel) (by decide +kernel)), (gw 110 (by decide +kernel) (by decide +kernel)), by decide +kernel, by decide⟩
theorem ok_X2_clear : MOK mX2_clear := ⟨(gw 429 (by decide +kernel) (by decide +kernel)), (gw 112 (by decide +kernel) (by decide +kernel)), by decide +kernel, by decide⟩
theorem ok_X6_init : MOK mX6_init := ⟨(gw 434 (by decide +kernel) (by decide +kernel)), (gw 118 (by decide +kernel) (by decide +kernel)), by decide +kernel, by decide⟩
theorem ok_X7_learns : MOK mX7_learns := ⟨(gw 491 (by decide +kernel) (by decide +kernel)), (gw 106 (by decide +kernel) (by decide +kernel)), by decide +kernel, by decide⟩
theorem ok_X7_isSet : MOK mX7_isSet := ⟨(gw 494 (by decide +kernel) (by decide +kernel)), (gw 106 (by decide +kernel) (by decide +kernel)), by decide +kernel, by decide⟩
theorem ok_X7_isFact : MOK mX7_isFact := ⟨(gw 497 (by decide +kernel) (by decide +kernel)), (gw 106 (by decide +kernel) (by decide +kernel)), by decide +kernel, by decide⟩
theorem ok_X0_add : MOK mX0_add := ⟨(gw 501 (by decide +kernel) (by decide +kernel)), (gw 107 (by decide +kernel) (by decide +kernel)), by decide +kernel, by decide⟩
theorem ok_X7_set : MOK mX7_set := ⟨(gw 505 (by decide +kernel) (by decide +kernel)), (gw 106 (by decide +kernel) (by decide +kernel)), by decide +kernel, by decide⟩
theorem ok_X1_at : MOK mX1_at := ⟨(gw 509 (by decide +kernel) (by decide +kernel)), (gw 108 (by decide +kernel) (by decide +kernel)), by decide +kernel, by decide⟩
theorem ok_X7_greatest : MOK mX7_greatest := ⟨(gw 512 (by decide +kernel) (by decide +kernel)), (gw 106 (by decide +kernel) (by decide +kernel)), by decide +kernel, by decide⟩
theorem ok_X7_tellOf : MOK mX7_tellOf := ⟨(gw 516 (by decide +kernel) (by decide +kernel)), (gw 106 (by decide +kernel) (by decide +kernel)), by decide +kernel, by decide⟩
theorem ok_X5_number : MOK mX5_number := ⟨(gw 520 (by decide +kernel) (by decide +kernel)), (gw 109 (by decide +kernel) (by decide +kernel)), by decide +kernel, by decide⟩
theorem ok_X5_change : MOK mX5_change := ⟨(gw 524 (by decide +kernel) (by decide +kernel)), (gw 109 (by decide +kernel) (by decide +kernel)), by decide +kernel, by decide⟩
theorem ok_X7_house : MOK mX7_house := ⟨(gw 528 (by decide +kernel) (by decide +kernel)), (gw 106 (by decide +kernel) (by decide +kernel)), by decide +kernel, by decide⟩
theorem ok_X7_isHouse : MOK mX7_isHouse := ⟨(gw 531 (by decide +kernel) (by decide +kernel)), (gw 106 (by decide +kernel) (by decide +kernel)), by decide +kernel, by decide⟩
theorem ok_X1_add : MOK mX1_add := ⟨(gw 535 (by decide +kernel) (by decide +kernel)), (gw 108 (by decide +kernel) (by decide +kernel)), by decide +kernel, by decide⟩
theorem ok_X5_begin : MOK mX5_begin := ⟨(gw 540 (by decide +kernel) (by decide +kernel)), (gw 109 (by decide +kernel) (by decide +kernel)), by decide +kernel, by decide⟩
theorem ok_X7_told : MOK mX7_told := ⟨(gw 544 (by decide +kernel) (by decide +kernel)), (gw 106 (by decide +kernel) (by decide +kernel)), by decide +kernel, by decide⟩
theorem ok_X0_next : MOK mX0_next := ⟨(gw 548 (by decide +kernel) (by decide +kernel)), (gw 107 (by decide +kernel) (by decide +kernel)), by decide +kernel, by decide⟩
theorem ok_X6_understands : MOK mX6_understands := ⟨(gw 552 (by decide +kernel) (by decide +kernel)), (gw 118 (by decide +kernel) (by decide +kernel)), by decide +kernel, by decide⟩
theorem ok_X0_closure : MOK mX0_closure := ⟨(gw 557 (by decide +kernel) (by decide +kernel)), (gw 107 (by decide +kernel) (by decide +kernel)), by decide +kernel, by decide⟩
theorem ok_X6_fallen : MOK mX6_fallen := ⟨(gw 562 (by decide +kernel) (by decide +kernel)), (gw 118 (by decide +kernel) (by decide +kernel)), by decide +kernel, by decide⟩
theorem ok_X6_fall : MOK mX6_fall := ⟨(gw 566 (by decide +kernel) (by decide +kernel)), (gw 118 (by decide +kernel) (by decide +kernel)), by decide +kernel, by decide⟩
theorem ok_X6_describe : MOK mX6_describe := ⟨(gw 570 (by decide +kernel) (by decide +kernel)), (gw 118 (by decide +kernel) (by decide +kernel)), by decide +kernel, by decide⟩
theorem ok_J6_bitCount_0f7a4 : MOK mJ6_bitCount_0f7a4 := ⟨(gw 573 (by decide +kernel) (by decide +kernel)), (gw 120 (by decide +kernel) (by decide +kernel)), by decide +kernel, by decide⟩
theorem ok_X4_value : MOK mX4_value := ⟨(gw 580 (by decide +kernel) (by decide +kernel)), (gw 110 (by decide +kernel) (by decide +kernel)), by decide +kernel, by decide⟩
theorem ok_X4_ofTwo : MOK mX4_ofTwo := ⟨(gw 583 (by decide +kernel) (by decide +kernel)), (gw 110 (by decide +kernel) (by decide +kernel)), by decide +kernel, by decide⟩
theorem ok_X4_ofOne : MOK mX4_ofOne := ⟨(gw 586 (by decide +kernel) (by decide +kernel)), (gw 110 (by decide +kernel) (by decide +kernel)), by decide +kernel, by decide⟩
theorem ok_X7_held : MOK mX7_held := ⟨(gw 589 (by decide +kernel) (by decide +kernel)), (gw 106 (by decide +kernel) (by decide +kernel)), by decide +kernel, by decide⟩
theorem ok_X7_liveOn : MOK mX7_liveOn := ⟨(gw 598 (by decide +kernel) (by decide +kernel)), (gw 106 (by decide +kernel) (by decide +kernel)), by decide +kernel, by decide⟩
theorem ok_X5_become : MOK mX5_become := ⟨(gw 602 (by decide +kernel) (by decide +kernel)), (gw 109 (by decide +kernel) (by decide +kernel)), by decide +kernel, by decide⟩
theorem ok_X6_pass : MOK mX6_pass := ⟨(gw 606 (by decide +kernel) (by decide +kernel)), (gw 118 (by decide +kernel) (by decide +kernel)), by decide +kernel, by decide⟩
theorem ok_X0_missed : MOK mX0_missed := ⟨(gw 613 (by decide +kernel) (by decide +kernel)), (gw 107 (by decide +kernel) (by decide +kernel)), by decide +kernel, by decide⟩
theorem ok_X7_feed : MOK mX7_feed := ⟨(gw 619 (by decide +kernel) (by decide +kernel)), (gw 106 (by decide +kernel) (by decide +kernel)), by decide +kernel, by decide⟩
theorem ok_X7_text : MOK mX7_text := ⟨(gw 623 (by decide +kernel) (by decide +kernel)), (gw 106 (by decide +kernel) (by decide +kernel)), by decide +kernel, by decide⟩
theorem ok_X7_ruleAt : MOK mX7_ruleAt := ⟨(gw 627 (by decide +kernel) (by decide +kernel)), (gw 106 (by decide +kernel) (by decide +kernel)), by decide +kernel, by decide⟩
theorem ok_X7_force : MOK mX7_force := ⟨(gw 631 (by decide +kernel) (by decide +kernel)), (gw 106 (by decide +kernel) (by decide +kernel)), by decide +kernel, by decide⟩
theorem ok_X7_follows : MOK mX7_follows := ⟨(gw 635 (by decide +kernel) (by decide +kernel)), (gw 106 (by decide +kernel) (by decide +kernel)), by decide +kernel, by decide⟩
theorem ok_X0_rounds : MOK mX0_rounds := ⟨(gw 639 (by decide +kernel) (by decide +kernel)), (gw 107 (by decide +kernel) (by decide +kernel)), by decide +kernel, by decide⟩
theorem ok_X7_laws : MOK mX7_laws := ⟨(gw 643 (by decide +kernel) (by decide +kernel)), (gw 106 (by decide +kernel) (by decide +kernel)), by decide +kernel, by decide⟩
theorem ok_X0_idle : MOK mX0_idle := ⟨(gw 647 (by decide +kernel) (by decide +kernel)), (gw 107 (by decide +kernel) (by decide +kernel)), by decide +kernel, by decide⟩
theorem ok_X0_roots : MOK mX0_roots := ⟨(gw 651 (by decide +kernel) (by decide +kernel)), (gw 107 (by decide +kernel) (by decide +kernel)), by decide +kernel, by decide⟩
theorem ok_X0_same : MOK mX0_same := ⟨(gw 655 (by decide +kernel) (by decide +kernel)), (gw 107 (by decide +kernel) (by decide +kernel)), by decide +kernel, by decide⟩
theorem ok_X0_has : MOK mX0_has := ⟨(gw 659 (by decide +kernel) (by decide +kernel)), (gw 107 (by decide +kernel) (by decide +kernel)), by decide +kernel, by decide⟩
theorem ok_X7_tell : MOK mX7_tell := ⟨(gw 663 (by decide +kernel) (by decide +kernel)), (gw 106 (by decide +kernel) (by decide +kernel)), by decide +kernel, by decide⟩
theorem ok_X5_isKnown : MOK mX5_isKnown := ⟨(gw 667 (by decide +kernel) (by decide +kernel)), (gw 109 (by decide +kernel) (by decide +kernel)), by decide +kernel, by decide⟩
theorem ok_X6_hear : MOK mX6_hear := ⟨(gw 671 (by decide +kernel) (by decide +kernel)), (gw 118 (by decide +kernel) (by decide +kernel)), by decide +kernel, by decide⟩
theorem ok_X6_wouldLearn : MOK mX6_wouldLearn := ⟨(gw 675 (by decide +kernel) (by decide +kernel)), (gw 118 (by decide +kernel) (by decide +kernel)), by decide +kernel, by decide⟩
theorem ok_X6_takes : MOK mX6_takes := ⟨(gw 680 (by decide +kernel) (by decide +kernel)), (gw 118 (by decide +kernel) (by decide +kernel)), by decide +kernel, by decide⟩
theorem ok_X7_day : MOK mX7_day := ⟨(gw 684 (by decide +kernel) (by decide +kernel)), (gw 106 (by decide +kernel) (by decide +kernel)), by decide +kernel, by decide⟩
theorem ok_X1_apples : MOK mX1_apples := ⟨(gw 688 (by decide +kernel) (by decide +kernel)), (gw 108 (by decide +kernel) (by decide +kernel)), by decide +kernel, by decide⟩
theorem ok_X1_pass : MOK mX1_pass := ⟨(gw 692 (by decide +kernel) (by decide +kernel)), (gw 108 (by decide +kernel) (by decide +kernel)), by decide +kernel, by decide⟩
theorem ok_X7_run : MOK mX7_run := ⟨(gw 697 (by decide +kernel) (by decide +kernel)), (gw 106 (by decide +kernel) (by decide +kernel)), by decide +kernel, by decide⟩
theorem ok_X7_isDays : MOK mX7_isDays := ⟨(gw 700 (by decide +kernel) (by decide +kernel)), (gw 106 (by decide +kernel) (by decide +kernel)), by decide +kernel, by decide⟩
theorem ok_X7_basketsBehind : MOK mX7_basketsBehind := ⟨(gw 704 (by decide +kernel) (by decide +kernel)), (gw 106 (by decide +kernel) (by decide +kernel)), by decide +kernel, by decide⟩
theorem ok_X1_become : MOK mX1_become := ⟨(gw 708 (by decide +kernel) (by decide +kernel)), (gw 108 (by decide +kernel) (by decide +kernel)), by decide +kernel, by decide⟩
theorem ok_X7_asks : MOK mX7_asks := ⟨(gw 713 (by decide +kernel) (by decide +kernel)), (gw 106 (by decide +kernel) (by decide +kernel)), by decide +kernel, by decide⟩
theorem ok_X7_knowsWhen : MOK mX7_knowsWhen := ⟨(gw 717 (by decide +kernel) (by decide +kernel)), (gw 106 (by decide +kernel) (by decide +kernel)), by decide +kernel, by decide⟩
theorem ok_X0_fewest : MOK mX0_fewest := ⟨(gw 721 (by decide +kernel) (by decide +kernel)), (gw 107 (by decide +kernel) (by decide +kernel)), by decide +kernel, by decide⟩
theorem ok_X7_best : MOK mX7_best := ⟨(gw 728 (by decide +kernel) (by decide +kernel)), (gw 106 (by decide +kernel) (by decide +kernel)), by decide +kernel, by decide⟩
theorem ok_X7_basketBehind : MOK mX7_basketBehind := ⟨(gw 732 (by decide +kernel) (by decide +kernel)), (gw 106 (by decide +kernel) (by decide +kernel)), by decide +kernel, by decide⟩
theorem ok_X7_whom : MOK mX7_whom := ⟨(gw 737 (by decide +kernel) (by decide +kernel)), (gw 106 (by decide +kernel) (by decide +kernel)), by decide +kernel, by decide⟩
theorem ok_X7_tells : MOK mX7_tells := ⟨(gw 741 (by decide +kernel) (by decide +kernel)), (gw 106 (by decide +kernel) (by decide +kernel)), by decide +kernel, by decide⟩
theorem ok_X7_rowAt : MOK mX7_rowAt := ⟨(gw 745 (by decide +kernel) (by decide +kernel)), (gw 106 (by decide +kernel) (by decide +kernel)), by decide +kernel, by decide⟩
theorem ok_X3_isMissing : MOK mX3_isMissing := ⟨(gw 749 (by decide +kernel) (by decide +kernel)), (gw 111 (by decide +kernel) (by decide +kernel)), by decide +kernel, by decide⟩
theorem ok_X7_firstOther : MOK mX7_firstOther := ⟨(gw 753 (by decide +kernel) (by decide +kernel)), (gw 106 (by decide +kernel) (by decide +kernel)), by decide +kernel, by decide⟩
theorem ok_X3_has : MOK mX3_has := ⟨(gw 757 (by decide +kernel) (by decide +kernel)), (gw 111 (by decide +kernel) (by decide +kernel)), by decide +kernel, by decide⟩
theorem ok_X7_bitsThatFit : MOK mX7_bitsThatFit := ⟨(gw 761 (by decide +kernel) (by decide +kernel)), (gw 106 (by decide +kernel) (by decide +kernel)), by decide +kernel, by decide⟩
theorem ok_X7_ripesThatFit : MOK mX7_ripesThatFit := ⟨(gw 765 (by decide +kernel) (by decide +kernel)), (gw 106 (by decide +kernel) (by decide +kernel)), by decide +kernel, by decide⟩
theorem ok_X7_leastRipeThatFits : MOK mX7_leastRipeThatFits := ⟨(gw 769 (by decide +kernel) (by decide +kernel)), (gw 106 (by decide +kernel) (by decide +kernel)), by decide +kernel, by decide⟩
theorem ok_X7_textsThatFit : MOK mX7_textsThatFit := ⟨(gw 773 (by decide +kernel) (by decide +kernel)), (gw 106 (by decide +kernel) (by decide +kernel)), by decide +kernel, by decide⟩
theorem ok_X7_housesThatFit : MOK mX7_housesThatFit := ⟨(gw 777 (by decide +kernel) (by decide +kernel)), (gw 106 (by decide +kernel) (by decide +kernel)), by decide +kernel, by decide⟩
theorem ok_X7_film : MOK mX7_film := ⟨(gw 781 (by decide +kernel) (by decide +kernel)), (gw 106 (by decide +kernel) (by decide +kernel)), by decide +kernel, by decide⟩
theorem ok_X3_begin : MOK mX3_begin := ⟨(gw 785 (by decide +kernel) (by decide +kernel)), (gw 111 (by decide +kernel) (by decide +kernel)), by decide +kernel, by decide⟩
theorem ok_X3_put : MOK mX3_put := ⟨(gw 789 (by decide +kernel) (by decide +kernel)), (gw 111 (by decide +kernel) (by decide +kernel)), by decide +kernel, by decide⟩
theorem ok_X7_drawn : MOK mX7_drawn := ⟨(gw 794 (by decide +kernel) (by decide +kernel)), (gw 106 (by decide +kernel) (by decide +kernel)), by decide +kernel, by decide⟩
theorem ok_X7_basketsDrawn : MOK mX7_basketsDrawn := ⟨(gw 798 (by decide +kernel) (by decide +kernel)), (gw 106 (by decide +kernel) (by decide +kernel)), by decide +kernel, by decide⟩
theorem ok_X7_chance : MOK mX7_chance := ⟨(gw 803 (by decide +kernel) (by decide +kernel)), (gw 106 (by decide +kernel) (by decide +kernel)), by decide +kernel, by decide⟩
theorem ok_X7_inLowestTerms : MOK mX7_inLowestTerms := ⟨(gw 807 (by decide +kernel) (by decide +kernel)), (gw 106 (by decide +kernel) (by decide +kernel)), by decide +kernel, by decide⟩
theorem ok_X7_image : MOK mX7_image := ⟨(gw 811 (by decide +kernel) (by decide +kernel)), (gw 106 (by decide +kernel) (by decide +kernel)), by decide +kernel, by decide⟩
theorem ok_X7_back : MOK mX7_back := ⟨(gw 815 (by decide +kernel) (by decide +kernel)), (gw 106 (by decide +kernel) (by decide +kernel)), by decide +kernel, by decide⟩
theorem ok_X0_leave : MOK mX0_leave := ⟨(gw 819 (by decide +kernel) (by decide +kernel)), (gw 107 (by decide +kernel) (by decide +kernel)), by decide +kernel, by decide⟩
theorem ok_X7_count : MOK mX7_count := ⟨(gw 823 (by decide +kernel) (by decide +kernel)), (gw 106 (by decide +kernel) (by decide +kernel)), by decide +kernel, by decide⟩
theorem ok_X7_sheet : MOK mX7_sheet := ⟨(gw 827 (by decide +kernel) (by decide +kernel)), (gw 106 (by decide +kernel) (by decide +kernel)), by decide +kernel, by decide⟩
theorem ok_X7_isSort : MOK mX7_isSort := ⟨(gw 830 (by decide +kernel) (by decide +kernel)), (gw 106 (by decide +kernel) (by decide +kernel)), by decide +kernel, by decide⟩
theorem ok_X7_cell : MOK mX7_cell := ⟨(gw 834 (by decide +kernel) (by decide +kernel)), (gw 106 (by decide +kernel) (by decide +kernel)), by decide +kernel, by decide⟩
theorem ok_X7_copy : MOK mX7_copy := ⟨(gw 838 (by decide +kernel) (by decide +kernel)), (gw 106 (by decide +kernel) (by decide +kernel)), by decide +kernel, by decide⟩
theorem ok_X3_hasAll : MOK mX3_hasAll := ⟨(gw 842 (by decide +kernel) (by decide +kernel)), (gw 111 (by decide +kernel) (by decide +kernel)), by decide +kernel, by decide⟩
theorem ok_X7_houses : MOK mX7_houses := ⟨(gw 849 (by decide +kernel) (by decide +kernel)), (gw 106 (by decide +kernel) (by decide +kernel)), by decide +kernel, by decide⟩
theorem ok_X7_taken : MOK mX7_taken := ⟨(gw 853 (by decide +kernel) (by decide +kernel)), (gw 106 (by decide +kernel) (by decide +kernel)), by decide +kernel, by decide⟩
theorem ok_X5_isOf : MOK mX5_isOf := ⟨(gw 857 (by decide +kernel) (by decide +kernel)), (gw 109 (by decide +kernel) (by decide +kernel)), by decide +kernel, by decide⟩
theorem ok_X8_init : MOK mX8_init := ⟨(gw 864 (by decide +kernel) (by decide +kernel)), (gw 119 (by decide +kernel) (by decide +kernel)), by decide +kernel, by decide⟩
theorem ok_X8_spell : MOK mX8_spell := ⟨(gw 869 (by decide +kernel) (by decide +kernel)), (gw 119 (by decide +kernel) (by decide +kernel)), by decide +kernel, by decide⟩
theorem ok_X8_learns : MOK mX8_learns := ⟨(gw 1000 (by decide +kernel) (by decide +kernel)), (gw 119 (by decide +kernel) (by decide +kernel)), by decide +kernel, by decide⟩
theorem ok_X8_in : MOK mX8_in := ⟨(gw 1004 (by decide +kernel) (by decide +kernel)), (gw 119 (by decide +kernel) (by decide +kernel)), by decide +kernel, by decide⟩
theorem ok_X8_isFact : MOK mX8_isFact := ⟨(gw 1007 (by decide +kernel) (by decide +kernel)), (gw 119 (by decide +kernel) (by decide +kernel)), by decide +kernel, by decide⟩
theorem ok_X8_set : MOK mX8_set := ⟨(gw 1012 (by decide +kernel) (by decide +kernel)), (gw 119 (by decide +kernel) (by decide +kernel)), by decide +kernel, by decide⟩
theorem ok_X8_isHouse : MOK mX8_isHouse := ⟨(gw 1017 (by decide +kernel) (by decide +kernel)), (gw 119 (by decide +kernel) (by decide +kernel)), by decide +kernel, by decide⟩
theorem ok_X8_mostOf : MOK mX8_mostOf := ⟨(gw 1020 (by decide +kernel) (by decide +kernel)), (gw 119 (by decide +kernel) (by decide +kernel)), by decide +kernel, by decide⟩
theorem ok_X8_told : MOK mX8_told := ⟨(gw 1024 (by decide +kernel) (by decide +kernel)), (gw 119 (by decide +kernel) (by decide +kernel)), by decide +kernel, by decide⟩
theorem ok_X8_knows : MOK mX8_knows := ⟨(gw 1028 (by decide +kernel) (by decide +kernel)), (gw 119 (by decide +kernel) (by decide +kernel)), by decide +kernel, by decide⟩
theorem ok_X8_followsOf : MOK mX8_followsOf := ⟨(gw 1032 (by decide +kernel) (by decide +kernel)), (gw 119 (by decide +kernel) (by decide +kernel)), by decide +kernel, by decide⟩
theorem ok_X8_understands : MOK mX8_understands := ⟨(gw 1036 (by decide +kernel) (by decide +kernel)), (gw 119 (by decide +kernel) (by decide +kernel)), by decide +kernel, by decide⟩
theorem ok_X8_bitsOf : MOK mX8_bitsOf := ⟨(gw 1039 (by decide +kernel) (by decide +kernel)), (gw 119 (by decide +kernel) (by decide +kernel)), by decide +kernel, by decide⟩
theorem ok_X8_allOf : MOK mX8_allOf := ⟨(gw 1043 (by decide +kernel) (by decide +kernel)), (gw 119 (by decide +kernel) (by decide +kernel)), by decide +kernel, by decide⟩
theorem ok_X8_fallsFor : MOK mX8_fallsFor := ⟨(gw 1047 (by decide +kernel) (by decide +kernel)), (gw 119 (by decide +kernel) (by decide +kernel)), by decide +kernel, by decide⟩
theorem ok_X8_fallOf : MOK mX8_fallOf := ⟨(gw 1051 (by decide +kernel) (by decide +kernel)), (gw 119 (by decide +kernel) (by decide +kernel)), by decide +kernel, by decide⟩
theorem ok_X8_says : MOK mX8_says := ⟨(gw 1055 (by decide +kernel) (by decide +kernel)), (gw 119 (by decide +kernel) (by decide +kernel)), by decide +kernel, by decide⟩
theorem ok_X8_read : MOK mX8_read := ⟨(gw 1059 (by decide +kernel) (by decide +kernel)), (gw 119 (by decide +kernel) (by decide +kernel)), by decide +kernel, by decide⟩
theorem ok_X8_next : MOK mX8_next := ⟨(gw 1063 (by decide +kernel) (by decide +kernel)), (gw 119 (by decide +kernel) (by decide +kernel)), by decide +kernel, by decide⟩
theorem ok_X8_byteAt : MOK mX8_byteAt := ⟨(gw 1067 (by decide +kernel) (by decide +kernel)), (gw 119 (by decide +kernel) (by decide +kernel)), by decide +kernel, by decide⟩
theorem ok_X8_isWord : MOK mX8_isWord := ⟨(gw 1076 (by decide +kernel) (by decide +kernel)), (gw 119 (by decide +kernel) (by decide +kernel)), by decide +kernel, by decide⟩
theorem ok_X8_isLetter : MOK mX8_isLetter := ⟨(gw 1080 (by decide +kernel) (by decide +kernel)), (gw 119 (by decide +kernel) (by decide +kernel)), by decide +kernel, by decide⟩
theorem ok_X8_part : MOK mX8_part := ⟨(gw 1084 (by decide +kernel) (by decide +kernel)), (gw 119 (by decide +kernel) (by decide +kernel)), by decide +kernel, by decide⟩
theorem ok_X8_fail : MOK mX8_fail := ⟨(gw 1088 (by decide +kernel) (by decide +kernel)), (gw 119 (by decide +kernel) (by decide +kernel)), by decide +kernel, by decide⟩
theorem ok_X8_either0 : MOK mX8_either0 := ⟨(gw 1092 (by decide +kernel) (by decide +kernel)), (gw 119 (by decide +kernel) (by decide +kernel)), by decide +kernel, by decide⟩
theorem ok_X8_both0 : MOK mX8_both0 := ⟨(gw 1096 (by decide +kernel) (by decide +kernel)), (gw 119 (by decide +kernel) (by decide +kernel)), by decide +kernel, by decide⟩
theorem ok_X8_not0 : MOK mX8_not0 := ⟨(gw 1100 (by decide +kernel) (by decide +kernel)), (gw 119 (by decide +kernel) (by decide +kernel)), by decide +kernel, by decide⟩
theorem ok_X8_opens : MOK mX8_opens := ⟨(gw 1104 (by decide +kernel) (by decide +kernel)), (gw 119 (by decide +kernel) (by decide +kernel)), by decide +kernel, by decide⟩
theorem ok_X8_not1 : MOK mX8_not1 := ⟨(gw 1108 (by decide +kernel) (by decide +kernel)), (gw 119 (by decide +kernel) (by decide +kernel)), by decide +kernel, by decide⟩
theorem ok_X8_not2 : MOK mX8_not2 := ⟨(gw 1112 (by decide +kernel) (by decide +kernel)), (gw 119 (by decide +kernel) (by decide +kernel)), by decide +kernel, by decide⟩
theorem ok_X8_not3 : MOK mX8_not3 := ⟨(gw 1116 (by decide +kernel) (by decide +kernel)), (gw 119 (by decide +kernel) (by decide +kernel)), by decide +kernel, by decide⟩
theorem ok_X8_not4 : MOK mX8_not4 := ⟨(gw 1120 (by decide +kernel) (by decide +kernel)), (gw 119 (by decide +kernel) (by decide +kernel)), by decide +kernel, by decide⟩
theorem ok_X8_not5 : MOK mX8_not5 := ⟨(gw 1124 (by decide +kernel) (by decide +kernel)), (gw 119 (by decide +kernel) (by decide +kernel)), by decide +kernel, by decide⟩
theorem ok_X8_added5 : MOK mX8_added5 := ⟨(gw 1128 (by decide +kernel) (by decide +kernel)), (gw 119 (by decide +kernel) (by decide +kernel)), by decide +kernel, by decide⟩
theorem ok_X8_term5 : MOK mX8_term5 := ⟨(gw 1132 (by decide +kernel) (by decide +kernel)), (gw 119 (by decide +kernel) (by decide +kernel)), by decide +kernel, by decide⟩
theorem ok_X8_atom5 : MOK mX8_atom5 := ⟨(gw 1136 (by decide +kernel) (by decide +kernel)), (gw 119 (by decide +kernel) (by decide +kernel)), by decide +kernel, by decide⟩
theorem ok_X8_isSign : MOK mX8_isSign := ⟨(gw 1140 (by decide +kernel) (by decide +kernel)), (gw 119 (by decide +kernel) (by decide +kernel)), by decide +kernel, by decide⟩
theorem ok_X8_name : MOK mX8_name := ⟨(gw 1144 (by decide +kernel) (by decide +kernel)), (gw 119 (by decide +kernel) (by decide +kernel)), by decide +kernel, by decide⟩
theorem ok_X8_added4 : MOK mX8_added4 := ⟨(gw 1150 (by decide +kernel) (by decide +kernel)), (gw 119 (by decide +kernel) (by decide +kernel)), by decide +kernel, by decide⟩
theorem ok_X8_term4 : MOK mX8_term4 := ⟨(gw 1154 (by decide +kernel) (by decide +kernel)), (gw 119 (by decide +kernel) (by decide +kernel)), by decide +kernel, by decide⟩
theorem ok_X8_atom4 : MOK mX8_atom4 := ⟨(gw 1158 (by decide +kernel) (by decide +kernel)), (gw 119 (by decide +kernel) (by decide +kernel)), by decide +kernel, by decide⟩
theorem ok_X8_either5 : MOK mX8_either5 := ⟨(gw 1162 (by decide +kernel) (by decide +kernel)), (gw 119 (by decide +kernel) (by decide +kernel)), by decide +kernel, by decide⟩
theorem ok_X8_both5 : MOK mX8_both5 := ⟨(gw 1166 (by decide +kernel) (by decide +kernel)), (gw 119 (by decide +kernel) (by decide +kernel)), by decide +kernel, by decide⟩
theorem ok_X8_added3 : MOK mX8_added3 := ⟨(gw 1170 (by decide +kernel) (by decide +kernel)), (gw 119 (by decide +kernel) (by decide +kernel)), by decide +kernel, by decide⟩
theorem ok_X8_term3 : MOK mX8_term3 := ⟨(gw 1174 (by decide +kernel) (by decide +kernel)), (gw 119 (by decide +kernel) (by decide +kernel)), by decide +kernel, by decide⟩
theorem ok_X8_atom3 : MOK mX8_atom3 := ⟨(gw 1178 (by decide +kernel) (by decide +kernel)), (gw 119 (by decide +kernel) (by decide +kernel)), by decide +kernel, by decide⟩
theorem ok_X8_either4 : MOK mX8_either4 := ⟨(gw 1182 (by decide +kernel) (by decide +kernel)), (gw 119 (by decide +kernel) (by decide +kernel)), by decide +kernel, by decide⟩
theorem ok_X8_both4 : MOK mX8_both4 := ⟨(gw 1186 (by decide +kernel) (by decide +kernel)), (gw 119 (by decide +kernel) (by decide +kernel)), by decide +kernel, by decide⟩
theorem ok_X8_added2 : MOK mX8_added2 := ⟨(gw 1190 (by decide +kernel) (by decide +kernel)), (gw 119 (by decide +kernel) (by decide +kernel)), by decide +kernel, by decide⟩
theorem ok_X8_term2 : MOK mX8_term2 := ⟨(gw 1194 (by decide +kernel) (by decide +kernel)), (gw 119 (by decide +kernel) (by decide +kernel)), by decide +kernel, by decide⟩
theorem ok_X8_atom2 : MOK mX8_atom2 := ⟨(gw 1198 (by decide +kernel) (by decide +kernel)), (gw 119 (by decide +kernel) (by decide +kernel)), by decide +kernel, by decide⟩
theorem ok_X8_either3 : MOK mX8_either3 := ⟨(gw 1202 (by decide +kernel) (by decide +kernel)), (gw 119 (by decide +kernel) (by decide +kernel)), by decide +kernel, by decide⟩
theorem ok_X8_both3 : MOK mX8_both3 := ⟨(gw 1206 (by decide +kernel) (by decide +kernel)), (gw 119 (by decide +kernel) (by decide +kernel)), by decide +kernel, by decide⟩
theorem ok_X8_added1 : MOK mX8_added1 := ⟨(gw 1210 (by decide +kernel) (by decide +kernel)), (gw 119 (by decide +kernel) (by decide +kernel)), by decide +kernel, by decide⟩
theorem ok_X8_term1 : MOK mX8_term1 := ⟨(gw 1214 (by decide +kernel) (by decide +kernel)), (gw 119 (by decide +kernel) (by decide +kernel)), by decide +kernel, by decide⟩
theorem ok_X8_atom1 : MOK mX8_atom1 := ⟨(gw 1218 (by decide +kernel) (by decide +kernel)), (gw 119 (by decide +kernel) (by decide +kernel)), by decide +kernel, by decide⟩
theorem ok_X8_either2 : MOK mX8_either2 := ⟨(gw 1222 (by decide +kernel) (by decide +kernel)), (gw 119 (by decide +kernel) (by decide +kernel)), by decide +kernel, by decide⟩
theorem ok_X8_both2 : MOK mX8_both2 := ⟨(gw 1226 (by decide +kernel) (by decide +kernel)), (gw 119 (by decide +kernel) (by decide +kernel)), by decide +kernel, by decide⟩
theorem ok_X8_added0 : MOK mX8_added0 := ⟨(gw 1230 (by decide +kernel) (by decide +kernel)), (gw 119 (by decide +kernel) (by decide +kernel)), by decide +kernel, by decide⟩
theorem ok_X8_term0 : MOK mX8_term0 := ⟨(gw 1234 (by decide +kernel) (by decide +kernel)), (gw 119 (by decide +kernel) (by decide +kernel)), by decide +kernel, by decide⟩
theorem ok_X8_atom0 : MOK mX8_atom0 := ⟨(gw 1238 (by decide +kernel) (by decide +kernel)), (gw 119 (by decide +kernel) (by decide +kernel)), by decide +kernel, by decide⟩
theorem ok_X8_either1 : MOK mX8_either1 := ⟨(gw 1242 (by decide +kernel) (by decide +kernel)), (gw 119 (by decide +kernel) (by decide +kernel)), by decide +kernel, by decide⟩
theorem ok_X8_both1 : MOK mX8_both1 := ⟨(gw 1246 (by decide +kernel) (by decide +kernel)), (gw 119 (by decide +kernel) (by decide +kernel)), by decide +kernel, by decide⟩
theorem ok_X8_within : MOK mX8_within := ⟨(gw 1249 (by decide +kernel) (by decide +kernel)), (gw 119 (by decide +kernel) (by decide +kernel)), by decide +kernel, by decide⟩
theorem ok_X8_neverOf : MOK mX8_neverOf := ⟨(gw 1253 (by decide +kernel) (by decide +kernel)), (gw 119 (by decide +kernel) (by decide +kernel)), by decide +kernel, by decide⟩
theorem ok_X8_laysAside : MOK mX8_laysAside := ⟨(gw 1257 (by decide +kernel) (by decide +kernel)), (gw 119 (by decide +kernel) (by decide +kernel)), by decide +kernel, by decide⟩
theorem ok_X8_passes : MOK mX8_passes := ⟨(gw 1261 (by decide +kernel) (by decide +kernel)), (gw 119 (by decide +kernel) (by decide +kernel)), by decide +kernel, by decide⟩
theorem ok_X8_laysBack : MOK mX8_laysBack := ⟨(gw 1265 (by decide +kernel) (by decide +kernel)), (gw 119 (by decide +kernel) (by decide +kernel)), by decide +kernel, by decide⟩
theorem ok_X8_missOf : MOK mX8_missOf := ⟨(gw 1269 (by decide +kernel) (by decide +kernel)), (gw 119 (by decide +kernel) (by decide +kernel)), by decide +kernel, by decide⟩
theorem ok_X8_lays : MOK mX8_lays := ⟨(gw 1273 (by decide +kernel) (by decide +kernel)), (gw 119 (by decide +kernel) (by decide +kernel)), by decide +kernel, by decide⟩
theorem ok_X8_house : MOK mX8_house := ⟨(gw 1277 (by decide +kernel) (by decide +kernel)), (gw 119 (by decide +kernel) (by decide +kernel)), by decide +kernel, by decide⟩
theorem ok_X8_feed : MOK mX8_feed := ⟨(gw 1284 (by decide +kernel) (by decide +kernel)), (gw 119 (by decide +kernel) (by decide +kernel)), by decide +kernel, by decide⟩
theorem ok_X8_text : MOK mX8_text := ⟨(gw 1289 (by decide +kernel) (by decide +kernel)), (gw 119 (by decide +kernel) (by decide +kernel)), by decide +kernel, by decide⟩
theorem ok_X8_force : MOK mX8_force := ⟨(gw 1293 (by decide +kernel) (by decide +kernel)), (gw 119 (by decide +kernel) (by decide +kernel)), by decide +kernel, by decide⟩
theorem ok_X8_follows : MOK mX8_follows := ⟨(gw 1297 (by decide +kernel) (by decide +kernel)), (gw 119 (by decide +kernel) (by decide +kernel)), by decide +kernel, by decide⟩
theorem ok_X8_roundsOf : MOK mX8_roundsOf := ⟨(gw 1302 (by decide +kernel) (by decide +kernel)), (gw 119 (by decide +kernel) (by decide +kernel)), by decide +kernel, by decide⟩
theorem ok_X8_laws : MOK mX8_laws := ⟨(gw 1306 (by decide +kernel) (by decide +kernel)), (gw 119 (by decide +kernel) (by decide +kernel)), by decide +kernel, by decide⟩
theorem ok_X8_idleSet : MOK mX8_idleSet := ⟨(gw 1310 (by decide +kernel) (by decide +kernel)), (gw 119 (by decide +kernel) (by decide +kernel)), by decide +kernel, by decide⟩
theorem ok_X8_rootSet : MOK mX8_rootSet := ⟨(gw 1314 (by decide +kernel) (by decide +kernel)), (gw 119 (by decide +kernel) (by decide +kernel)), by decide +kernel, by decide⟩
theorem ok_X8_sameMany : MOK mX8_sameMany := ⟨(gw 1318 (by decide +kernel) (by decide +kernel)), (gw 119 (by decide +kernel) (by decide +kernel)), by decide +kernel, by decide⟩
theorem ok_X8_tell : MOK mX8_tell := ⟨(gw 1322 (by decide +kernel) (by decide +kernel)), (gw 119 (by decide +kernel) (by decide +kernel)), by decide +kernel, by decide⟩
theorem ok_X8_knowsIt : MOK mX8_knowsIt := ⟨(gw 1326 (by decide +kernel) (by decide +kernel)), (gw 119 (by decide +kernel) (by decide +kernel)), by decide +kernel, by decide⟩
theorem ok_X8_hears : MOK mX8_hears := ⟨(gw 1330 (by decide +kernel) (by decide +kernel)), (gw 119 (by decide +kernel) (by decide +kernel)), by decide +kernel, by decide⟩
theorem ok_X8_takes1 : MOK mX8_takes1 := ⟨(gw 1334 (by decide +kernel) (by decide +kernel)), (gw 119 (by decide +kernel) (by decide +kernel)), by decide +kernel, by decide⟩
theorem ok_X8_day : MOK mX8_day := ⟨(gw 1338 (by decide +kernel) (by decide +kernel)), (gw 119 (by decide +kernel) (by decide +kernel)), by decide +kernel, by decide⟩
theorem ok_X8_run : MOK mX8_run := ⟨(gw 1342 (by decide +kernel) (by decide +kernel)), (gw 119 (by decide +kernel) (by decide +kernel)), by decide +kernel, by decide⟩
theorem ok_X8_applesAll : MOK mX8_applesAll := ⟨(gw 1348 (by decide +kernel) (by decide +kernel)), (gw 119 (by decide +kernel) (by decide +kernel)), by decide +kernel, by decide⟩
theorem ok_X8_asks : MOK mX8_asks := ⟨(gw 1352 (by decide +kernel) (by decide +kernel)), (gw 119 (by decide +kernel) (by decide +kernel)), by decide +kernel, by decide⟩
theorem ok_X8_whenOf : MOK mX8_whenOf := ⟨(gw 1356 (by decide +kernel) (by decide +kernel)), (gw 119 (by decide +kernel) (by decide +kernel)), by decide +kernel, by decide⟩
theorem ok_X8_fewestOf : MOK mX8_fewestOf := ⟨(gw 1360 (by decide +kernel) (by decide +kernel)), (gw 119 (by decide +kernel) (by decide +kernel)), by decide +kernel, by decide⟩
theorem ok_X8_best : MOK mX8_best := ⟨(gw 1364 (by decide +kernel) (by decide +kernel)), (gw 119 (by decide +kernel) (by decide +kernel)), by decide +kernel, by decide⟩
theorem ok_X8_basketBy : MOK mX8_basketBy := ⟨(gw 1368 (by decide +kernel) (by decide +kernel)), (gw 119 (by decide +kernel) (by decide +kernel)), by decide +kernel, by decide⟩
theorem ok_X8_whom : MOK mX8_whom := ⟨(gw 1372 (by decide +kernel) (by decide +kernel)), (gw 119 (by decide +kernel) (by decide +kernel)), by decide +kernel, by decide⟩
theorem ok_X8_tells : MOK mX8_tells := ⟨(gw 1376 (by decide +kernel) (by decide +kernel)), (gw 119 (by decide +kernel) (by decide +kernel)), by decide +kernel, by decide⟩
theorem ok_X8_isSheet : MOK mX8_isSheet := ⟨(gw 1379 (by decide +kernel) (by decide +kernel)), (gw 119 (by decide +kernel) (by decide +kernel)), by decide +kernel, by decide⟩
theorem ok_X8_firstOther : MOK mX8_firstOther := ⟨(gw 1384 (by decide +kernel) (by decide +kernel)), (gw 119 (by decide +kernel) (by decide +kernel)), by decide +kernel, by decide⟩
theorem ok_X8_likeSet : MOK mX8_likeSet := ⟨(gw 1388 (by decide +kernel) (by decide +kernel)), (gw 119 (by decide +kernel) (by decide +kernel)), by decide +kernel, by decide⟩
theorem ok_X8_turnedSet : MOK mX8_turnedSet := ⟨(gw 1392 (by decide +kernel) (by decide +kernel)), (gw 119 (by decide +kernel) (by decide +kernel)), by decide +kernel, by decide⟩
theorem ok_X8_film : MOK mX8_film := ⟨(gw 1396 (by decide +kernel) (by decide +kernel)), (gw 119 (by decide +kernel) (by decide +kernel)), by decide +kernel, by decide⟩
theorem ok_X8_sheet : MOK mX8_sheet := ⟨(gw 1401 (by decide +kernel) (by decide +kernel)), (gw 119 (by decide +kernel) (by decide +kernel)), by decide +kernel, by decide⟩
theorem ok_X8_drawn : MOK mX8_drawn := ⟨(gw 1406 (by decide +kernel) (by decide +kernel)), (gw 119 (by decide +kernel) (by decide +kernel)), by decide +kernel, by decide⟩
theorem ok_X8_basketsDrawn : MOK mX8_basketsDrawn := ⟨(gw 1410 (by decide +kernel) (by decide +kernel)), (gw 119 (by decide +kernel) (by decide +kernel)), by decide +kernel, by decide⟩
theorem ok_X8_chance : MOK mX8_chance := ⟨(gw 1415 (by decide +kernel) (by decide +kernel)), (gw 119 (by decide +kernel) (by decide +kernel)), by decide +kernel, by decide⟩
theorem ok_X8_image : MOK mX8_image := ⟨(gw 1421 (by decide +kernel) (by decide +kernel)), (gw 119 (by decide +kernel) (by decide +kernel)), by decide +kernel, by decide⟩
theorem ok_X8_back : MOK mX8_back := ⟨(gw 1425 (by decide +kernel) (by decide +kernel)), (gw 119 (by decide +kernel) (by decide +kernel)), by decide +kernel, by decide⟩
theorem ok_X8_count : MOK mX8_count := ⟨(gw 1429 (by decide +kernel) (by decide +kernel)), (gw 119 (by decide +kernel) (by decide +kernel)), by decide +kernel, by decide⟩
theorem ok_X8_cell : MOK mX8_cell := ⟨(gw 1434 (by decide +kernel) (by decide +kernel)), (gw 119 (by decide +kernel) (by decide +kernel)), by decide +kernel, by decide⟩
theorem ok_X8_copy : MOK mX8_copy := ⟨(gw 1438 (by decide +kernel) (by decide +kernel)), (gw 119 (by decide +kernel) (by decide +kernel)), by decide +kernel, by decide⟩
theorem ok_X8_houses : MOK mX8_houses := ⟨(gw 1442 (by decide +kernel) (by decide +kernel)), (gw 119 (by decide +kernel) (by decide +kernel)), by decide +kernel, by decide⟩
theorem ok_X8_taken : MOK mX8_taken := ⟨(gw 1447 (by decide +kernel) (by decide +kernel)), (gw 119 (by decide +kernel) (by decide +kernel)), by decide +kernel, by decide⟩
theorem ok_X8_over : MOK mX8_over := ⟨(gw 1450 (by decide +kernel) (by decide +kernel)), (gw 119 (by decide +kernel) (by decide +kernel)), by decide +kernel, by decide⟩
theorem cls0 : ClsOK 0 RX0 TX0 4 tyX0 := ⟨rfl, gws [143, 145, 147, 149] (by decide +kernel) (by decide +kernel), tyX0_ok, nmX0, rfl, by decide⟩
theorem cls1 : ClsOK 1 RX1 TX1 4 tyX1 := ⟨rfl, gws [200, 202, 204, 206] (by decide +kernel) (by decide +kernel), tyX1_ok, nmX1, rfl, by decide⟩
theorem cls2 : ClsOK 2 RX2 TX2 8 tyX2 := ⟨rfl, gws [266, 268, 270, 272, 274, 276, 278, 280] (by decide +kernel) (by decide +kernel), tyX2_ok, nmX2, rfl, by decide⟩
theorem cls3 : ClsOK 3 RX3 TX3 3 tyX3 := ⟨rfl, gws [244, 246, 248] (by decide +kernel) (by decide +kernel), tyX3_ok, nmX3, rfl, by decide⟩
theorem cls4 : ClsOK 4 RX4 TX4 4 tyX4 := ⟨rfl, gws [224, 226, 228, 230] (by decide +kernel) (by decide +kernel), tyX4_ok, nmX4, rfl, by decide⟩
theorem cls5 : ClsOK 5 RX5 TX5 5 tyX5 := ⟨rfl, gws [182, 184, 186, 188, 190] (by decide +kernel) (by decide +kernel), tyX5_ok, nmX5, rfl, by decide⟩
theorem cls6 : ClsOK 6 RX6 TX6 3 tyX6 := ⟨rfl, gws [440, 442, 444] (by decide +kernel) (by decide +kernel), tyX6_ok, nmX6, rfl, by decide⟩
theorem cls7 : ClsOK 7 RX7 TX7 13 tyX7 := ⟨rfl, gws [461, 463, 465, 467, 469, 471, 473, 475, 477, 479, 481, 483, 485] (by decide +kernel) (by decide +kernel), tyX7_ok, nmX7, rfl, by decide⟩
theorem cls8 : ClsOK 8 RX8 TX8 42 tyX8 := ⟨rfl, gws [911, 913, 915, 917, 919, 921, 923, 925, 927, 929, 931, 933, 935, 937, 939, 941, 943, 945, 947, 949, 951, 953, 955, 957, 959, 961, 963, 965, 967, 969, 971, 973, 975, 977, 979, 981, 983, 985, 987, 989, 991, 993] (by decide +kernel) (by decide +kernel), tyX8_ok, nmX8, rfl, by decide⟩
theorem f_RX0_15 : FldP RX0 15 0 1 1 2 := ⟨RX0, TX0, 4, tyX0, cls0, by decide, (gw 138 (by decide +kernel) (by decide +kernel)), rfl, (fun _ => rfl), (Or.inr ⟨_, rfl⟩), rfl⟩
theorem f_RX0_18 : FldP RX0 18 0 2 1 2 := ⟨RX0, TX0, 4, tyX0, cls0, by decide, (gw 140 (by decide +kernel) (by decide +kernel)), rfl, (fun _ => rfl), (Or.inr ⟨_, rfl⟩), rfl⟩
theorem f_RX0_21 : FldP RX0 21 0 3 0 0 := ⟨RX0, TX0, 4, tyX0, cls0, by decide, (gw 141 (by decide +kernel) (by decide +kernel)), rfl, (fun h => absurd h (by decide)), rfl, rfl⟩
theorem f_RX0_9 : FldP RX0 9 0 0 1 2 := ⟨RX0, TX0, 4, tyX0, cls0, by decide, (gw 136 (by decide +kernel) (by decide +kernel)), rfl, (fun _ => rfl), (Or.inr ⟨_, rfl⟩), rfl⟩
theorem f_RX1_11 : FldP RX1 11 1 0 1 2 := ⟨RX1, TX1, 4, tyX1, cls1, by decide, (gw 193 (by decide +kernel) (by decide +kernel)), rfl, (fun _ => rfl), (Or.inr ⟨_, rfl⟩), rfl⟩
theorem f_RX1_17 : FldP RX1 17 1 1 0 0 := ⟨RX1, TX1, 4, tyX1, cls1, by decide, (gw 194 (by decide +kernel) (by decide +kernel)), rfl, (fun h => absurd h (by decide)), rfl, rfl⟩
theorem f_RX1_21 : FldP RX1 21 1 2 0 0 := ⟨RX1, TX1, 4, tyX1, cls1, by decide, (gw 196 (by decide +kernel) (by decide +kernel)), rfl, (fun h => absurd h (by decide)), rfl, rfl⟩
theorem f_RX1_24 : FldP RX1 24 1 3 0 0 := ⟨RX1, TX1, 4, tyX1, cls1, by decide, (gw 198 (by decide +kernel) (by decide +kernel)), rfl, (fun h => absurd h (by decide)), rfl, rfl⟩
theorem f_RX1_40 : FldP RX1 40 5 3 0 0 := ⟨RX5, TX5, 5, tyX5, cls5, by decide, (gw 176 (by decide +kernel) (by decide +kernel)), rfl, (fun h => absurd h (by decide)), rfl, rfl⟩
theorem f_RX2_11 : FldP RX2 11 2 0 1 2 := ⟨RX2, TX2, 8, tyX2, cls2, by decide, (gw 257 (by decide +kernel) (by decide +kernel)), rfl, (fun _ => rfl), (Or.inr ⟨_, rfl⟩), rfl⟩
theorem f_RX2_15 : FldP RX2 15 2 1 0 0 := ⟨RX2, TX2, 8, tyX2, cls2, by decide, (gw 258 (by decide +kernel) (by decide +kernel)), rfl, (fun h => absurd h (by decide)), rfl, rfl⟩
theorem f_RX2_19 : FldP RX2 19 2 7 0 0 := ⟨RX2, TX2, 8, tyX2, cls2, by decide, (gw 265 (by decide +kernel) (by decide +kernel)), rfl, (fun h => absurd h (by decide)), rfl, rfl⟩
theorem f_RX2_22 : FldP RX2 22 2 2 0 2 := ⟨RX2, TX2, 8, tyX2, cls2, by decide, (gw 260 (by decide +kernel) (by decide +kernel)), rfl, (fun h => absurd h (by decide)), (Or.inl ⟨_, rfl⟩), rfl⟩
theorem f_RX2_31 : FldP RX2 31 2 3 0 0 := ⟨RX2, TX2, 8, tyX2, cls2, by decide, (gw 261 (by decide +kernel) (by decide +kernel)), rfl, (fun h => absurd h (by decide)), rfl, rfl⟩
theorem f_RX2_47 : FldP RX2 47 2 5 0 0 := ⟨RX2, TX2, 8, tyX2, cls2, by decide, (gw 263 (by decide +kernel) (by decide +kernel)), rfl, (fun h => absurd h (by decide)), rfl, rfl⟩
theorem f_RX2_53 : FldP RX2 53 2 4 0 0 := ⟨RX2, TX2, 8, tyX2, cls2, by decide, (gw 262 (by decide +kernel) (by decide +kernel)), rfl, (fun h => absurd h (by decide)), rfl, rfl⟩
theorem f_RX2_81 : FldP RX2 81 2 6 0 0 := ⟨RX2, TX2, 8, tyX2, cls2, by decide, (gw 264 (by decide +kernel) (by decide +kernel)), rfl, (fun h => absurd h (by decide)), rfl, rfl⟩
theorem f_RX3_15 : FldP RX3 15 3 1 0 0 := ⟨RX3, TX3, 3, tyX3, cls3, by decide, (gw 240 (by decide +kernel) (by decide +kernel)), rfl, (fun h => absurd h (by decide)), rfl, rfl⟩
theorem f_RX3_19 : FldP RX3 19 3 2 0 0 := ⟨RX3, TX3, 3, tyX3, cls3, by decide, (gw 242 (by decide +kernel) (by decide +kernel)), rfl, (fun h => absurd h (by decide)), rfl, rfl⟩
theorem f_RX3_9 : FldP RX3 9 3 0 1 2 := ⟨RX3, TX3, 3, tyX3, cls3, by decide, (gw 238 (by decide +kernel) (by decide +kernel)), rfl, (fun _ => rfl), (Or.inr ⟨_, rfl⟩), rfl⟩
theorem f_RX4_11 : FldP RX4 11 4 0 1 2 := ⟨RX4, TX4, 4, tyX4, cls4, by decide, (gw 220 (by decide +kernel) (by decide +kernel)), rfl, (fun _ => rfl), (Or.inr ⟨_, rfl⟩), rfl⟩
theorem f_RX4_15 : FldP RX4 15 4 1 1 2 := ⟨RX4, TX4, 4, tyX4, cls4, by decide, (gw 221 (by decide +kernel) (by decide +kernel)), rfl, (fun _ => rfl), (Or.inr ⟨_, rfl⟩), rfl⟩
theorem f_RX4_18 : FldP RX4 18 4 2 1 2 := ⟨RX4, TX4, 4, tyX4, cls4, by decide, (gw 222 (by decide +kernel) (by decide +kernel)), rfl, (fun _ => rfl), (Or.inr ⟨_, rfl⟩), rfl⟩
theorem f_RX4_21 : FldP RX4 21 4 3 0 0 := ⟨RX4, TX4, 4, tyX4, cls4, by decide, (gw 223 (by decide +kernel) (by decide +kernel)), rfl, (fun h => absurd h (by decide)), rfl, rfl⟩
theorem f_RX5_15 : FldP RX5 15 5 1 0 0 := ⟨RX5, TX5, 5, tyX5, cls5, by decide, (gw 169 (by decide +kernel) (by decide +kernel)), rfl, (fun h => absurd h (by decide)), rfl, rfl⟩
theorem f_RX5_18 : FldP RX5 18 5 2 0 0 := ⟨RX5, TX5, 5, tyX5, cls5, by decide, (gw 173 (by decide +kernel) (by decide +kernel)), rfl, (fun h => absurd h (by decide)), rfl, rfl⟩
theorem f_RX5_21 : FldP RX5 21 5 3 0 0 := ⟨RX5, TX5, 5, tyX5, cls5, by decide, (gw 175 (by decide +kernel) (by decide +kernel)), rfl, (fun h => absurd h (by decide)), rfl, rfl⟩
theorem f_RX5_24 : FldP RX5 24 5 4 0 0 := ⟨RX5, TX5, 5, tyX5, cls5, by decide, (gw 179 (by decide +kernel) (by decide +kernel)), rfl, (fun h => absurd h (by decide)), rfl, rfl⟩
theorem f_RX5_9 : FldP RX5 9 5 0 0 0 := ⟨RX5, TX5, 5, tyX5, cls5, by decide, (gw 166 (by decide +kernel) (by decide +kernel)), rfl, (fun h => absurd h (by decide)), rfl, rfl⟩
theorem f_RX6_11 : FldP RX6 11 6 1 1 2 := ⟨RX6, TX6, 3, tyX6, cls6, by decide, (gw 437 (by decide +kernel) (by decide +kernel)), rfl, (fun _ => rfl), (Or.inr ⟨_, rfl⟩), rfl⟩
theorem f_RX6_17 : FldP RX6 17 6 0 1 2 := ⟨RX6, TX6, 3, tyX6, cls6, by decide, (gw 436 (by decide +kernel) (by decide +kernel)), rfl, (fun _ => rfl), (Or.inl ⟨_, rfl⟩), rfl⟩
theorem f_RX6_21 : FldP RX6 21 6 2 0 2 := ⟨RX6, TX6, 3, tyX6, cls6, by decide, (gw 438 (by decide +kernel) (by decide +kernel)), rfl, (fun h => absurd h (by decide)), (Or.inl ⟨_, rfl⟩), rfl⟩
theorem f_RX6_25 : FldP RX6 25 5 2 0 0 := ⟨RX5, TX5, 5, tyX5, cls5, by decide, (gw 172 (by decide +kernel) (by decide +kernel)), rfl, (fun h => absurd h (by decide)), rfl, rfl⟩
theorem f_RX6_37 : FldP RX6 37 5 0 0 0 := ⟨RX5, TX5, 5, tyX5, cls5, by decide, (gw 167 (by decide +kernel) (by decide +kernel)), rfl, (fun h => absurd h (by decide)), rfl, rfl⟩
theorem f_RX6_43 : FldP RX6 43 5 1 0 0 := ⟨RX5, TX5, 5, tyX5, cls5, by decide, (gw 170 (by decide +kernel) (by decide +kernel)), rfl, (fun h => absurd h (by decide)), rfl, rfl⟩
theorem f_RX6_58 : FldP RX6 58 5 4 0 0 := ⟨RX5, TX5, 5, tyX5, cls5, by decide, (gw 180 (by decide +kernel) (by decide +kernel)), rfl, (fun h => absurd h (by decide)), rfl, rfl⟩
theorem f_RX6_83 : FldP RX6 83 5 3 0 0 := ⟨RX5, TX5, 5, tyX5, cls5, by decide, (gw 177 (by decide +kernel) (by decide +kernel)), rfl, (fun h => absurd h (by decide)), rfl, rfl⟩
theorem f_RX7_10 : FldP RX7 10 7 0 1 2 := ⟨RX7, TX7, 13, tyX7, cls7, by decide, (gw 448 (by decide +kernel) (by decide +kernel)), rfl, (fun _ => rfl), (Or.inl ⟨_, rfl⟩), rfl⟩
theorem f_RX7_101 : FldP RX7 101 7 9 1 2 := ⟨RX7, TX7, 13, tyX7, cls7, by decide, (gw 457 (by decide +kernel) (by decide +kernel)), rfl, (fun _ => rfl), (Or.inl ⟨_, rfl⟩), rfl⟩
theorem f_RX7_127 : FldP RX7 127 1 2 0 0 := ⟨RX1, TX1, 4, tyX1, cls1, by decide, (gw 197 (by decide +kernel) (by decide +kernel)), rfl, (fun h => absurd h (by decide)), rfl, rfl⟩
theorem f_RX7_139 : FldP RX7 139 5 0 0 0 := ⟨RX5, TX5, 5, tyX5, cls5, by decide, (gw 168 (by decide +kernel) (by decide +kernel)), rfl, (fun h => absurd h (by decide)), rfl, rfl⟩
theorem f_RX7_142 : FldP RX7 142 5 2 0 0 := ⟨RX5, TX5, 5, tyX5, cls5, by decide, (gw 174 (by decide +kernel) (by decide +kernel)), rfl, (fun h => absurd h (by decide)), rfl, rfl⟩
theorem f_RX7_165 : FldP RX7 165 2 1 0 0 := ⟨RX2, TX2, 8, tyX2, cls2, by decide, (gw 259 (by decide +kernel) (by decide +kernel)), rfl, (fun h => absurd h (by decide)), rfl, rfl⟩
theorem f_RX7_172 : FldP RX7 172 1 3 0 0 := ⟨RX1, TX1, 4, tyX1, cls1, by decide, (gw 199 (by decide +kernel) (by decide +kernel)), rfl, (fun h => absurd h (by decide)), rfl, rfl⟩
theorem f_RX7_175 : FldP RX7 175 6 2 0 2 := ⟨RX6, TX6, 3, tyX6, cls6, by decide, (gw 439 (by decide +kernel) (by decide +kernel)), rfl, (fun h => absurd h (by decide)), (Or.inl ⟨_, rfl⟩), rfl⟩
theorem f_RX7_19 : FldP RX7 19 7 1 1 2 := ⟨RX7, TX7, 13, tyX7, cls7, by decide, (gw 449 (by decide +kernel) (by decide +kernel)), rfl, (fun _ => rfl), (Or.inl ⟨_, rfl⟩), rfl⟩
theorem f_RX7_193 : FldP RX7 193 0 1 2 2 := ⟨RX0, TX0, 4, tyX0, cls0, by decide, (gw 139 (by decide +kernel) (by decide +kernel)), rfl, (fun h => absurd h (by decide)), (Or.inr ⟨_, rfl⟩), rfl⟩
theorem f_RX7_197 : FldP RX7 197 0 0 2 2 := ⟨RX0, TX0, 4, tyX0, cls0, by decide, (gw 137 (by decide +kernel) (by decide +kernel)), rfl, (fun h => absurd h (by decide)), (Or.inr ⟨_, rfl⟩), rfl⟩
theorem f_RX7_219 : FldP RX7 219 5 3 0 0 := ⟨RX5, TX5, 5, tyX5, cls5, by decide, (gw 178 (by decide +kernel) (by decide +kernel)), rfl, (fun h => absurd h (by decide)), rfl, rfl⟩
theorem f_RX7_221 : FldP RX7 221 5 4 0 0 := ⟨RX5, TX5, 5, tyX5, cls5, by decide, (gw 181 (by decide +kernel) (by decide +kernel)), rfl, (fun h => absurd h (by decide)), rfl, rfl⟩
theorem f_RX7_23 : FldP RX7 23 7 2 1 2 := ⟨RX7, TX7, 13, tyX7, cls7, by decide, (gw 450 (by decide +kernel) (by decide +kernel)), rfl, (fun _ => rfl), (Or.inl ⟨_, rfl⟩), rfl⟩
theorem f_RX7_256 : FldP RX7 256 3 2 0 0 := ⟨RX3, TX3, 3, tyX3, cls3, by decide, (gw 243 (by decide +kernel) (by decide +kernel)), rfl, (fun h => absurd h (by decide)), rfl, rfl⟩
theorem f_RX7_26 : FldP RX7 26 7 3 1 2 := ⟨RX7, TX7, 13, tyX7, cls7, by decide, (gw 451 (by decide +kernel) (by decide +kernel)), rfl, (fun _ => rfl), (Or.inl ⟨_, rfl⟩), rfl⟩
theorem f_RX7_299 : FldP RX7 299 0 3 0 0 := ⟨RX0, TX0, 4, tyX0, cls0, by decide, (gw 142 (by decide +kernel) (by decide +kernel)), rfl, (fun h => absurd h (by decide)), rfl, rfl⟩
theorem f_RX7_305 : FldP RX7 305 1 1 0 0 := ⟨RX1, TX1, 4, tyX1, cls1, by decide, (gw 195 (by decide +kernel) (by decide +kernel)), rfl, (fun h => absurd h (by decide)), rfl, rfl⟩
theorem f_RX7_314 : FldP RX7 314 3 1 0 0 := ⟨RX3, TX3, 3, tyX3, cls3, by decide, (gw 241 (by decide +kernel) (by decide +kernel)), rfl, (fun h => absurd h (by decide)), rfl, rfl⟩
theorem f_RX7_32 : FldP RX7 32 7 4 1 2 := ⟨RX7, TX7, 13, tyX7, cls7, by decide, (gw 452 (by decide +kernel) (by decide +kernel)), rfl, (fun _ => rfl), (Or.inl ⟨_, rfl⟩), rfl⟩
theorem f_RX7_320 : FldP RX7 320 3 0 2 2 := ⟨RX3, TX3, 3, tyX3, cls3, by decide, (gw 239 (by decide +kernel) (by decide +kernel)), rfl, (fun h => absurd h (by decide)), (Or.inr ⟨_, rfl⟩), rfl⟩
theorem f_RX7_332 : FldP RX7 332 5 1 0 0 := ⟨RX5, TX5, 5, tyX5, cls5, by decide, (gw 171 (by decide +kernel) (by decide +kernel)), rfl, (fun h => absurd h (by decide)), rfl, rfl⟩
theorem f_RX7_36 : FldP RX7 36 7 5 1 2 := ⟨RX7, TX7, 13, tyX7, cls7, by decide, (gw 453 (by decide +kernel) (by decide +kernel)), rfl, (fun _ => rfl), (Or.inl ⟨_, rfl⟩), rfl⟩
theorem f_RX7_41 : FldP RX7 41 7 6 1 2 := ⟨RX7, TX7, 13, tyX7, cls7, by decide, (gw 454 (by decide +kernel) (by decide +kernel)), rfl, (fun _ => rfl), (Or.inr ⟨_, rfl⟩), rfl⟩
theorem f_RX7_47 : FldP RX7 47 7 7 1 2 := ⟨RX7, TX7, 13, tyX7, cls7, by decide, (gw 455 (by decide +kernel) (by decide +kernel)), rfl, (fun _ => rfl), (Or.inr ⟨_, rfl⟩), rfl⟩
theorem f_RX7_51 : FldP RX7 51 7 10 0 0 := ⟨RX7, TX7, 13, tyX7, cls7, by decide, (gw 458 (by decide +kernel) (by decide +kernel)), rfl, (fun h => absurd h (by decide)), rfl, rfl⟩
theorem f_RX7_55 : FldP RX7 55 7 11 0 0 := ⟨RX7, TX7, 13, tyX7, cls7, by decide, (gw 459 (by decide +kernel) (by decide +kernel)), rfl, (fun h => absurd h (by decide)), rfl, rfl⟩
theorem f_RX7_58 : FldP RX7 58 7 12 0 3 := ⟨RX7, TX7, 13, tyX7, cls7, by decide, (gw 460 (by decide +kernel) (by decide +kernel)), rfl, (fun h => absurd h (by decide)), rfl, rfl⟩
theorem f_RX7_69 : FldP RX7 69 7 8 1 2 := ⟨RX7, TX7, 13, tyX7, cls7, by decide, (gw 456 (by decide +kernel) (by decide +kernel)), rfl, (fun _ => rfl), (Or.inl ⟨_, rfl⟩), rfl⟩
theorem f_RX8_105 : FldP RX8 105 8 7 0 0 := ⟨RX8, TX8, 42, tyX8, cls8, by decide, (gw 876 (by decide +kernel) (by decide +kernel)), rfl, (fun h => absurd h (by decide)), rfl, rfl⟩
theorem f_RX8_108 : FldP RX8 108 8 4 0 0 := ⟨RX8, TX8, 42, tyX8, cls8, by decide, (gw 873 (by decide +kernel) (by decide +kernel)), rfl, (fun h => absurd h (by decide)), rfl, rfl⟩
theorem f_RX8_13 : FldP RX8 13 8 1 1 2 := ⟨RX8, TX8, 42, tyX8, cls8, by decide, (gw 870 (by decide +kernel) (by decide +kernel)), rfl, (fun _ => rfl), (Or.inr ⟨_, rfl⟩), rfl⟩
theorem f_RX8_138 : FldP RX8 138 8 6 0 0 := ⟨RX8, TX8, 42, tyX8, cls8, by decide, (gw 875 (by decide +kernel) (by decide +kernel)), rfl, (fun h => absurd h (by decide)), rfl, rfl⟩
theorem f_RX8_141 : FldP RX8 141 8 21 0 0 := ⟨RX8, TX8, 42, tyX8, cls8, by decide, (gw 890 (by decide +kernel) (by decide +kernel)), rfl, (fun h => absurd h (by decide)), rfl, rfl⟩
theorem f_RX8_144 : FldP RX8 144 8 20 0 0 := ⟨RX8, TX8, 42, tyX8, cls8, by decide, (gw 889 (by decide +kernel) (by decide +kernel)), rfl, (fun h => absurd h (by decide)), rfl, rfl⟩
theorem f_RX8_147 : FldP RX8 147 8 22 0 0 := ⟨RX8, TX8, 42, tyX8, cls8, by decide, (gw 891 (by decide +kernel) (by decide +kernel)), rfl, (fun h => absurd h (by decide)), rfl, rfl⟩
theorem f_RX8_153 : FldP RX8 153 8 24 0 0 := ⟨RX8, TX8, 42, tyX8, cls8, by decide, (gw 893 (by decide +kernel) (by decide +kernel)), rfl, (fun h => absurd h (by decide)), rfl, rfl⟩
theorem f_RX8_156 : FldP RX8 156 8 23 0 0 := ⟨RX8, TX8, 42, tyX8, cls8, by decide, (gw 892 (by decide +kernel) (by decide +kernel)), rfl, (fun h => absurd h (by decide)), rfl, rfl⟩
theorem f_RX8_167 : FldP RX8 167 8 25 0 1 := ⟨RX8, TX8, 42, tyX8, cls8, by decide, (gw 894 (by decide +kernel) (by decide +kernel)), rfl, (fun h => absurd h (by decide)), rfl, rfl⟩
theorem f_RX8_17 : FldP RX8 17 8 2 1 2 := ⟨RX8, TX8, 42, tyX8, cls8, by decide, (gw 871 (by decide +kernel) (by decide +kernel)), rfl, (fun _ => rfl), (Or.inr ⟨_, rfl⟩), rfl⟩
theorem f_RX8_173 : FldP RX8 173 8 27 0 3 := ⟨RX8, TX8, 42, tyX8, cls8, by decide, (gw 896 (by decide +kernel) (by decide +kernel)), rfl, (fun h => absurd h (by decide)), rfl, rfl⟩
theorem f_RX8_177 : FldP RX8 177 8 28 0 0 := ⟨RX8, TX8, 42, tyX8, cls8, by decide, (gw 897 (by decide +kernel) (by decide +kernel)), rfl, (fun h => absurd h (by decide)), rfl, rfl⟩
theorem f_RX8_184 : FldP RX8 184 8 26 0 0 := ⟨RX8, TX8, 42, tyX8, cls8, by decide, (gw 895 (by decide +kernel) (by decide +kernel)), rfl, (fun h => absurd h (by decide)), rfl, rfl⟩
theorem f_RX8_197 : FldP RX8 197 8 14 0 0 := ⟨RX8, TX8, 42, tyX8, cls8, by decide, (gw 883 (by decide +kernel) (by decide +kernel)), rfl, (fun h => absurd h (by decide)), rfl, rfl⟩
theorem f_RX8_20 : FldP RX8 20 8 5 1 2 := ⟨RX8, TX8, 42, tyX8, cls8, by decide, (gw 874 (by decide +kernel) (by decide +kernel)), rfl, (fun _ => rfl), (Or.inr ⟨_, rfl⟩), rfl⟩
theorem f_RX8_200 : FldP RX8 200 8 15 0 0 := ⟨RX8, TX8, 42, tyX8, cls8, by decide, (gw 884 (by decide +kernel) (by decide +kernel)), rfl, (fun h => absurd h (by decide)), rfl, rfl⟩
theorem f_RX8_203 : FldP RX8 203 8 16 0 0 := ⟨RX8, TX8, 42, tyX8, cls8, by decide, (gw 885 (by decide +kernel) (by decide +kernel)), rfl, (fun h => absurd h (by decide)), rfl, rfl⟩
theorem f_RX8_206 : FldP RX8 206 8 17 0 0 := ⟨RX8, TX8, 42, tyX8, cls8, by decide, (gw 886 (by decide +kernel) (by decide +kernel)), rfl, (fun h => absurd h (by decide)), rfl, rfl⟩
theorem f_RX8_209 : FldP RX8 209 8 18 0 0 := ⟨RX8, TX8, 42, tyX8, cls8, by decide, (gw 887 (by decide +kernel) (by decide +kernel)), rfl, (fun h => absurd h (by decide)), rfl, rfl⟩
theorem f_RX8_212 : FldP RX8 212 8 19 0 0 := ⟨RX8, TX8, 42, tyX8, cls8, by decide, (gw 888 (by decide +kernel) (by decide +kernel)), rfl, (fun h => absurd h (by decide)), rfl, rfl⟩
theorem f_RX8_23 : FldP RX8 23 8 8 1 2 := ⟨RX8, TX8, 42, tyX8, cls8, by decide, (gw 877 (by decide +kernel) (by decide +kernel)), rfl, (fun _ => rfl), (Or.inr ⟨_, rfl⟩), rfl⟩
theorem f_RX8_26 : FldP RX8 26 8 9 1 2 := ⟨RX8, TX8, 42, tyX8, cls8, by decide, (gw 878 (by decide +kernel) (by decide +kernel)), rfl, (fun _ => rfl), (Or.inr ⟨_, rfl⟩), rfl⟩
theorem f_RX8_29 : FldP RX8 29 8 11 1 2 := ⟨RX8, TX8, 42, tyX8, cls8, by decide, (gw 880 (by decide +kernel) (by decide +kernel)), rfl, (fun _ => rfl), (Or.inr ⟨_, rfl⟩), rfl⟩
theorem f_RX8_32 : FldP RX8 32 8 12 1 2 := ⟨RX8, TX8, 42, tyX8, cls8, by decide, (gw 881 (by decide +kernel) (by decide +kernel)), rfl, (fun _ => rfl), (Or.inr ⟨_, rfl⟩), rfl⟩
theorem f_RX8_35 : FldP RX8 35 8 29 1 2 := ⟨RX8, TX8, 42, tyX8, cls8, by decide, (gw 898 (by decide +kernel) (by decide +kernel)), rfl, (fun _ => rfl), (Or.inr ⟨_, rfl⟩), rfl⟩
theorem f_RX8_38 : FldP RX8 38 8 31 1 2 := ⟨RX8, TX8, 42, tyX8, cls8, by decide, (gw 900 (by decide +kernel) (by decide +kernel)), rfl, (fun _ => rfl), (Or.inr ⟨_, rfl⟩), rfl⟩
theorem f_RX8_384 : FldP RX8 384 8 30 0 0 := ⟨RX8, TX8, 42, tyX8, cls8, by decide, (gw 899 (by decide +kernel) (by decide +kernel)), rfl, (fun h => absurd h (by decide)), rfl, rfl⟩
theorem f_RX8_41 : FldP RX8 41 8 32 1 2 := ⟨RX8, TX8, 42, tyX8, cls8, by decide, (gw 901 (by decide +kernel) (by decide +kernel)), rfl, (fun _ => rfl), (Or.inr ⟨_, rfl⟩), rfl⟩
theorem f_RX8_437 : FldP RX8 437 8 34 0 0 := ⟨RX8, TX8, 42, tyX8, cls8, by decide, (gw 903 (by decide +kernel) (by decide +kernel)), rfl, (fun h => absurd h (by decide)), rfl, rfl⟩
theorem f_RX8_44 : FldP RX8 44 8 33 1 2 := ⟨RX8, TX8, 42, tyX8, cls8, by decide, (gw 902 (by decide +kernel) (by decide +kernel)), rfl, (fun _ => rfl), (Or.inr ⟨_, rfl⟩), rfl⟩
theorem f_RX8_440 : FldP RX8 440 8 36 0 0 := ⟨RX8, TX8, 42, tyX8, cls8, by decide, (gw 905 (by decide +kernel) (by decide +kernel)), rfl, (fun h => absurd h (by decide)), rfl, rfl⟩
theorem f_RX8_443 : FldP RX8 443 8 37 0 0 := ⟨RX8, TX8, 42, tyX8, cls8, by decide, (gw 906 (by decide +kernel) (by decide +kernel)), rfl, (fun h => absurd h (by decide)), rfl, rfl⟩
theorem f_RX8_47 : FldP RX8 47 8 35 0 0 := ⟨RX8, TX8, 42, tyX8, cls8, by decide, (gw 904 (by decide +kernel) (by decide +kernel)), rfl, (fun h => absurd h (by decide)), rfl, rfl⟩
theorem f_RX8_50 : FldP RX8 50 8 38 1 2 := ⟨RX8, TX8, 42, tyX8, cls8, by decide, (gw 907 (by decide +kernel) (by decide +kernel)), rfl, (fun _ => rfl), (Or.inr ⟨_, rfl⟩), rfl⟩
theorem f_RX8_54 : FldP RX8 54 8 39 1 2 := ⟨RX8, TX8, 42, tyX8, cls8, by decide, (gw 908 (by decide +kernel) (by decide +kernel)), rfl, (fun _ => rfl), (Or.inr ⟨_, rfl⟩), rfl⟩
theorem f_RX8_57 : FldP RX8 57 8 40 1 2 := ⟨RX8, TX8, 42, tyX8, cls8, by decide, (gw 909 (by decide +kernel) (by decide +kernel)), rfl, (fun _ => rfl), (Or.inr ⟨_, rfl⟩), rfl⟩
theorem f_RX8_60 : FldP RX8 60 8 41 1 2 := ⟨RX8, TX8, 42, tyX8, cls8, by decide, (gw 910 (by decide +kernel) (by decide +kernel)), rfl, (fun _ => rfl), (Or.inr ⟨_, rfl⟩), rfl⟩
theorem f_RX8_67 : FldP RX8 67 8 3 0 0 := ⟨RX8, TX8, 42, tyX8, cls8, by decide, (gw 872 (by decide +kernel) (by decide +kernel)), rfl, (fun h => absurd h (by decide)), rfl, rfl⟩
theorem f_RX8_70 : FldP RX8 70 8 13 0 0 := ⟨RX8, TX8, 42, tyX8, cls8, by decide, (gw 882 (by decide +kernel) (by decide +kernel)), rfl, (fun h => absurd h (by decide)), rfl, rfl⟩
theorem f_RX8_85 : FldP RX8 85 8 10 0 0 := ⟨RX8, TX8, 42, tyX8, cls8, by decide, (gw 879 (by decide +kernel) (by decide +kernel)), rfl, (fun h => absurd h (by decide)), rfl, rfl⟩
