abbrev mJ0_charAt_5068e : MD := (yJ0_charAt_5068e, cJ0_charAt_5068e, 2, (some .char))
abbrev mJ0_checkIndex_df160 : MD := (yJ0_checkIndex_df160, cJ0_checkIndex_df160, 2, none)
abbrev mJ0_coder_7d493 : MD := (yJ0_coder_7d493, cJ0_coder_7d493, 1, (some .byte))
abbrev mJ0_isLatin1_aae02 : MD := (yJ0_isLatin1_aae02, cJ0_isLatin1_aae02, 1, (some .boolean))
abbrev mJ0_length_8abf5 : MD := (yJ0_length_8abf5, cJ0_length_8abf5, 1, (some .int))
abbrev mJ13_bitCount_95d88 : MD := (yJ13_bitCount_95d88, cJ13_bitCount_95d88, 2, (some .int))
abbrev mJ1_charAt_3b067 : MD := (yJ1_charAt_3b067, cJ1_charAt_3b067, 2, (some .char))
abbrev mJ2_charAt_3b067 : MD := (yJ2_charAt_3b067, cJ2_charAt_3b067, 2, (some .char))
abbrev mJ2_checkIndex_2214a : MD := (yJ2_checkIndex_2214a, cJ2_checkIndex_2214a, 2, none)
abbrev mJ2_getChar_3b067 : MD := (yJ2_getChar_3b067, cJ2_getChar_3b067, 2, (some .char))
abbrev mJ2_length_9d52b : MD := (yJ2_length_9d52b, cJ2_length_9d52b, 1, (some .int))
abbrev mJ3_checkIndex_8e157 : MD := (yJ3_checkIndex_8e157, cJ3_checkIndex_8e157, 3, (some .int))
abbrev mJ6_bitCount_0f7a4 : MD := (yJ6_bitCount_0f7a4, cJ6_bitCount_0f7a4, 1, (some .int))
abbrev mJ9_floorMod_7cf53 : MD := (yJ9_floorMod_7cf53, cJ9_floorMod_7cf53, 3, (some .int))
abbrev mJ9_max_7cf53 : MD := (yJ9_max_7cf53, cJ9_max_7cf53, 2, (some .int))
abbrev mJ9_min_7cf53 : MD := (yJ9_min_7cf53, cJ9_min_7cf53, 2, (some .int))
abbrev mX0_at : MD := (yX0_at, cX0_at, 2, (some (.object "RicePriests$Priest")))
abbrev mX0_becomeLike : MD := (yX0_becomeLike, cX0_becomeLike, 5, none)
abbrev mX0_bury : MD := (yX0_bury, cX0_bury, 5, (some .int))
abbrev mX0_draw : MD := (yX0_draw, cX0_draw, 1, (some .int))
abbrev mX0_fewestTaking : MD := (yX0_fewestTaking, cX0_fewestTaking, 4, (some .int))
abbrev mX0_fullest : MD := (yX0_fullest, cX0_fullest, 5, (some .int))
abbrev mX0_hungriestOf : MD := (yX0_hungriestOf, cX0_hungriestOf, 7, (some .int))
abbrev mX0_init : MD := (yX0_init, cX0_init, 2, none)
abbrev mX0_letAllDigest : MD := (yX0_letAllDigest, cX0_letAllDigest, 3, none)
abbrev mX0_letTheOverfullFallIll : MD := (yX0_letTheOverfullFallIll, cX0_letTheOverfullFallIll, 3, none)
abbrev mX0_passDay : MD := (yX0_passDay, cX0_passDay, 5, none)
abbrev mX0_passDays : MD := (yX0_passDays, cX0_passDays, 3, none)
abbrev mX0_placeToday : MD := (yX0_placeToday, cX0_placeToday, 1, (some .int))
abbrev mX0_sinsTogether : MD := (yX0_sinsTogether, cX0_sinsTogether, 5, (some .int))
abbrev mX0_spotsInUse : MD := (yX0_spotsInUse, cX0_spotsInUse, 3, (some .int))
abbrev mX0_sumTogether : MD := (yX0_sumTogether, cX0_sumTogether, 5, (some .int))
abbrev mX0_takeTogether : MD := (yX0_takeTogether, cX0_takeTogether, 6, (some .boolean))
abbrev mX0_takersOf : MD := (yX0_takersOf, cX0_takersOf, 5, (some .int))
abbrev mX0_tellOf : MD := (yX0_tellOf, cX0_tellOf, 3, (some .int))
abbrev mX0_welcome : MD := (yX0_welcome, cX0_welcome, 5, (some .int))
abbrev mX1_becomeLike : MD := (yX1_becomeLike, cX1_becomeLike, 2, none)
abbrev mX1_begin : MD := (yX1_begin, cX1_begin, 3, none)
abbrev mX1_digesting : MD := (yX1_digesting, cX1_digesting, 3, (some .int))
abbrev mX1_eat : MD := (yX1_eat, cX1_eat, 4, none)
abbrev mX1_fallIll : MD := (yX1_fallIll, cX1_fallIll, 1, none)
abbrev mX1_holding : MD := (yX1_holding, cX1_holding, 3, (some .int))
abbrev mX1_init : MD := (yX1_init, cX1_init, 1, none)
abbrev mX1_isKind : MD := (yX1_isKind, cX1_isKind, 1, (some .boolean))
abbrev mX1_isOneOf : MD := (yX1_isOneOf, cX1_isOneOf, 4, (some .boolean))
abbrev mX1_keepsSilent : MD := (yX1_keepsSilent, cX1_keepsSilent, 1, (some .boolean))
abbrev mX1_mayBe : MD := (yX1_mayBe, cX1_mayBe, 2, (some .boolean))
abbrev mX1_put : MD := (yX1_put, cX1_put, 3, none)
abbrev mX1_swelling : MD := (yX1_swelling, cX1_swelling, 6, (some .int))
abbrev mX2_advance : MD := (yX2_advance, cX2_advance, 2, none)
abbrev mX2_init : MD := (yX2_init, cX2_init, 1, none)
abbrev mX2_isDigit : MD := (yX2_isDigit, cX2_isDigit, 1, (some .boolean))
abbrev mX2_isLetter : MD := (yX2_isLetter, cX2_isLetter, 1, (some .boolean))
abbrev mX2_isWord : MD := (yX2_isWord, cX2_isWord, 3, (some .boolean))
abbrev mX2_kindAtHand : MD := (yX2_kindAtHand, cX2_kindAtHand, 2, (some .int))
abbrev mX2_readInto : MD := (yX2_readInto, cX2_readInto, 3, (some .int))
abbrev mX2_readItem : MD := (yX2_readItem, cX2_readItem, 2, (some .boolean))
abbrev mX2_readNumber : MD := (yX2_readNumber, cX2_readNumber, 2, (some .boolean))
abbrev mX2_readOut : MD := (yX2_readOut, cX2_readOut, 2, (some .boolean))
abbrev mX2_readPerhaps : MD := (yX2_readPerhaps, cX2_readPerhaps, 4, (some .boolean))
abbrev mX2_readPriest : MD := (yX2_readPriest, cX2_readPriest, 4, (some .boolean))
abbrev mX2_readTold : MD := (yX2_readTold, cX2_readTold, 4, (some .boolean))
abbrev mX2_readWater : MD := (yX2_readWater, cX2_readWater, 2, (some .boolean))
abbrev mX2_wordOf : MD := (yX2_wordOf, cX2_wordOf, 1, (some (.object "java/lang/String")))
abbrev mX3_daysTillIll : MD := (yX3_daysTillIll, cX3_daysTillIll, 6, (some .int))
abbrev mX3_daysTillOut : MD := (yX3_daysTillOut, cX3_daysTillOut, 4, (some .int))
abbrev mX3_daysTillStuffed : MD := (yX3_daysTillStuffed, cX3_daysTillStuffed, 6, (some .int))
abbrev mX3_daysTillWise : MD := (yX3_daysTillWise, cX3_daysTillWise, 6, (some .int))
abbrev mX3_dreamOf : MD := (yX3_dreamOf, cX3_dreamOf, 2, (some (.object "RicePriests$Mission")))
abbrev mX3_dreamsAsTold : MD := (yX3_dreamsAsTold, cX3_dreamsAsTold, 6, (some .boolean))
abbrev mX3_fewestFasting : MD := (yX3_fewestFasting, cX3_fewestFasting, 5, (some .int))
abbrev mX3_fittingKinds : MD := (yX3_fittingKinds, cX3_fittingKinds, 7, (some .int))
abbrev mX3_fittingWords : MD := (yX3_fittingWords, cX3_fittingWords, 9, (some .long))
abbrev mX3_healthiestKind : MD := (yX3_healthiestKind, cX3_healthiestKind, 9, (some .int))
abbrev mX3_init : MD := (yX3_init, cX3_init, 1, none)
abbrev mX3_leastQuietWater : MD := (yX3_leastQuietWater, cX3_leastQuietWater, 4, (some .int))
abbrev mX3_makeFast : MD := (yX3_makeFast, cX3_makeFast, 4, none)
abbrev mX3_mostHarmlessWords : MD := (yX3_mostHarmlessWords, cX3_mostHarmlessWords, 7, (some .int))
abbrev mX3_sinToSpare : MD := (yX3_sinToSpare, cX3_sinToSpare, 8, (some .int))
abbrev mX3_staysQuiet : MD := (yX3_staysQuiet, cX3_staysQuiet, 4, (some .boolean))
abbrev mX3_tellBehind : MD := (yX3_tellBehind, cX3_tellBehind, 6, (some .int))
abbrev mX4_begin : MD := (yX4_begin, cX4_begin, 4, none)
abbrev mX4_cut : MD := (yX4_cut, cX4_cut, 2, (some .int))
abbrev mX4_has : MD := (yX4_has, cX4_has, 3, (some .boolean))
abbrev mX4_init : MD := (yX4_init, cX4_init, 1, none)
abbrev mX4_isMissing : MD := (yX4_isMissing, cX4_isMissing, 1, (some .boolean))
abbrev mX4_mayHaveBits : MD := (yX4_mayHaveBits, cX4_mayHaveBits, 1, (some .boolean))
abbrev mX4_put : MD := (yX4_put, cX4_put, 3, (some .boolean))
abbrev mX5_append : MD := (yX5_append, cX5_append, 4, (some .boolean))
abbrev mX5_byteAt : MD := (yX5_byteAt, cX5_byteAt, 2, (some .int))
abbrev mX5_empty : MD := (yX5_empty, cX5_empty, 2, (some .int))
abbrev mX5_init : MD := (yX5_init, cX5_init, 1, none)
abbrev mX6_ahead : MD := (yX6_ahead, cX6_ahead, 4, (some .int))
abbrev mX6_as : MD := (yX6_as, cX6_as, 5, (some .int))
abbrev mX6_change : MD := (yX6_change, cX6_change, 6, (some .int))
abbrev mX6_changesByDays : MD := (yX6_changesByDays, cX6_changesByDays, 1, (some .boolean))
abbrev mX6_come : MD := (yX6_come, cX6_come, 5, (some .int))
abbrev mX6_confessionOf : MD := (yX6_confessionOf, cX6_confessionOf, 2, (some .int))
abbrev mX6_copy : MD := (yX6_copy, cX6_copy, 8, (some .int))
abbrev mX6_count : MD := (yX6_count, cX6_count, 2, (some .int))
abbrev mX6_cover : MD := (yX6_cover, cX6_cover, 2, (some .int))
abbrev mX6_dies : MD := (yX6_dies, cX6_dies, 3, (some .int))
abbrev mX6_fast : MD := (yX6_fast, cX6_fast, 2, (some .int))
abbrev mX6_feed : MD := (yX6_feed, cX6_feed, 3, (some .int))
abbrev mX6_fits : MD := (yX6_fits, cX6_fits, 5, (some .int))
abbrev mX6_go : MD := (yX6_go, cX6_go, 2, (some .int))
abbrev mX6_goes : MD := (yX6_goes, cX6_goes, 2, (some .int))
abbrev mX6_hold : MD := (yX6_hold, cX6_hold, 3, (some .int))
abbrev mX6_ill : MD := (yX6_ill, cX6_ill, 2, (some .int))
abbrev mX6_image : MD := (yX6_image, cX6_image, 1, (some .int))
abbrev mX6_init : MD := (yX6_init, cX6_init, 2, none)
abbrev mX6_isConfession : MD := (yX6_isConfession, cX6_isConfession, 1, (some .boolean))
abbrev mX6_judge : MD := (yX6_judge, cX6_judge, 6, (some .int))
abbrev mX6_kindFor : MD := (yX6_kindFor, cX6_kindFor, 3, (some .int))
abbrev mX6_kinds : MD := (yX6_kinds, cX6_kinds, 5, (some .int))
abbrev mX6_list : MD := (yX6_list, cX6_list, 4, (some .int))
abbrev mX6_listed : MD := (yX6_listed, cX6_listed, 2, (some .int))
abbrev mX6_load : MD := (yX6_load, cX6_load, 5, (some .int))
abbrev mX6_now : MD := (yX6_now, cX6_now, 2, (some .int))
abbrev mX6_odds : MD := (yX6_odds, cX6_odds, 8, (some .long))
abbrev mX6_of : MD := (yX6_of, cX6_of, 4, (some .int))
abbrev mX6_orNone : MD := (yX6_orNone, cX6_orNone, 2, (some .int))
abbrev mX6_out : MD := (yX6_out, cX6_out, 2, (some .int))
abbrev mX6_power : MD := (yX6_power, cX6_power, 5, (some .long))
abbrev mX6_priest : MD := (yX6_priest, cX6_priest, 4, (some .int))
abbrev mX6_seed : MD := (yX6_seed, cX6_seed, 3, (some .int))
abbrev mX6_set : MD := (yX6_set, cX6_set, 4, (some .int))
abbrev mX6_sheet : MD := (yX6_sheet, cX6_sheet, 5, (some .int))
abbrev mX6_sheetAt : MD := (yX6_sheetAt, cX6_sheetAt, 2, (some (.object "RicePriests$Sheet")))
abbrev mX6_sinOf : MD := (yX6_sinOf, cX6_sinOf, 1, (some .int))
abbrev mX6_spare : MD := (yX6_spare, cX6_spare, 3, (some .int))
abbrev mX6_status : MD := (yX6_status, cX6_status, 4, (some .int))
abbrev mX6_swells : MD := (yX6_swells, cX6_swells, 4, (some .int))
abbrev mX6_tear : MD := (yX6_tear, cX6_tear, 2, (some .int))
abbrev mX6_tell : MD := (yX6_tell, cX6_tell, 3, (some .int))
abbrev mX6_text : MD := (yX6_text, cX6_text, 2, (some .int))
abbrev mX6_undo : MD := (yX6_undo, cX6_undo, 1, (some .int))
abbrev mX6_waterFor : MD := (yX6_waterFor, cX6_waterFor, 2, (some .int))
abbrev mX6_when : MD := (yX6_when, cX6_when, 3, (some .int))
abbrev mX6_wipe : MD := (yX6_wipe, cX6_wipe, 1, (some .int))
abbrev mX6_wise : MD := (yX6_wise, cX6_wise, 3, (some .int))
abbrev mX6_within : MD := (yX6_within, cX6_within, 2, (some .boolean))
abbrev mX6_words : MD := (yX6_words, cX6_words, 8, (some .int))
abbrev mX6_wordsFor : MD := (yX6_wordsFor, cX6_wordsFor, 3, (some .int))
abbrev mX6_wordsOf : MD := (yX6_wordsOf, cX6_wordsOf, 1, (some .int))
abbrev mX6_write : MD := (yX6_write, cX6_write, 6, (some .int))
abbrev mX6_wrongFulness : MD := (yX6_wrongFulness, cX6_wrongFulness, 4, (some .int))
abbrev mX6_wrongSheet : MD := (yX6_wrongSheet, cX6_wrongSheet, 1, (some .int))
abbrev mX7_above : MD := (yX7_above, cX7_above, 1, (some .int))
abbrev mX7_ahead : MD := (yX7_ahead, cX7_ahead, 5, (some .int))
abbrev mX7_areSins : MD := (yX7_areSins, cX7_areSins, 1, (some .boolean))
abbrev mX7_as : MD := (yX7_as, cX7_as, 5, (some .int))
abbrev mX7_becomes : MD := (yX7_becomes, cX7_becomes, 4, (some .int))
abbrev mX7_behind : MD := (yX7_behind, cX7_behind, 4, (some .int))
abbrev mX7_byteAt : MD := (yX7_byteAt, cX7_byteAt, 2, (some .int))
abbrev mX7_change : MD := (yX7_change, cX7_change, 4, (some .int))
abbrev mX7_come : MD := (yX7_come, cX7_come, 4, (some .int))
abbrev mX7_comes : MD := (yX7_comes, cX7_comes, 5, (some .int))
abbrev mX7_confesses : MD := (yX7_confesses, cX7_confesses, 5, none)
abbrev mX7_copies : MD := (yX7_copies, cX7_copies, 3, none)
abbrev mX7_copy : MD := (yX7_copy, cX7_copy, 7, (some .int))
abbrev mX7_count : MD := (yX7_count, cX7_count, 2, (some .int))
abbrev mX7_cover : MD := (yX7_cover, cX7_cover, 6, (some .int))
abbrev mX7_dayGoes : MD := (yX7_dayGoes, cX7_dayGoes, 2, none)
abbrev mX7_daysGo : MD := (yX7_daysGo, cX7_daysGo, 3, none)
abbrev mX7_dies : MD := (yX7_dies, cX7_dies, 3, (some .int))
abbrev mX7_digests : MD := (yX7_digests, cX7_digests, 2, (some .int))
abbrev mX7_draw : MD := (yX7_draw, cX7_draw, 1, (some .int))
abbrev mX7_fast : MD := (yX7_fast, cX7_fast, 5, (some .int))
abbrev mX7_feed : MD := (yX7_feed, cX7_feed, 4, (some .int))
abbrev mX7_finds : MD := (yX7_finds, cX7_finds, 2, (some .int))
abbrev mX7_firstOf : MD := (yX7_firstOf, cX7_firstOf, 6, (some .int))
abbrev mX7_fits : MD := (yX7_fits, cX7_fits, 6, (some .int))
abbrev mX7_fullest : MD := (yX7_fullest, cX7_fullest, 3, (some .int))
abbrev mX7_go : MD := (yX7_go, cX7_go, 2, (some .int))
abbrev mX7_goes : MD := (yX7_goes, cX7_goes, 3, (some .int))
abbrev mX7_held : MD := (yX7_held, cX7_held, 3, (some .int))
abbrev mX7_hold : MD := (yX7_hold, cX7_hold, 3, (some .int))
abbrev mX7_holding : MD := (yX7_holding, cX7_holding, 3, (some .int))
abbrev mX7_holds : MD := (yX7_holds, cX7_holds, 4, (some .int))
abbrev mX7_ill : MD := (yX7_ill, cX7_ill, 2, (some .int))
abbrev mX7_illBehind : MD := (yX7_illBehind, cX7_illBehind, 3, (some .int))
abbrev mX7_image : MD := (yX7_image, cX7_image, 1, (some .int))
abbrev mX7_in : MD := (yX7_in, cX7_in, 6, (some .boolean))
abbrev mX7_init : MD := (yX7_init, cX7_init, 1, none)
abbrev mX7_isConfession : MD := (yX7_isConfession, cX7_isConfession, 1, (some .boolean))
abbrev mX7_isDigit : MD := (yX7_isDigit, cX7_isDigit, 1, (some .boolean))
abbrev mX7_isOf : MD := (yX7_isOf, cX7_isOf, 4, (some .boolean))
abbrev mX7_isPlace : MD := (yX7_isPlace, cX7_isPlace, 1, (some .boolean))
abbrev mX7_isPriest : MD := (yX7_isPriest, cX7_isPriest, 2, (some .boolean))
abbrev mX7_isSheet : MD := (yX7_isSheet, cX7_isSheet, 1, (some .boolean))
abbrev mX7_isShort : MD := (yX7_isShort, cX7_isShort, 1, (some .boolean))
abbrev mX7_isSin : MD := (yX7_isSin, cX7_isSin, 1, (some .boolean))
abbrev mX7_isTold : MD := (yX7_isTold, cX7_isTold, 6, (some .boolean))
abbrev mX7_isWord : MD := (yX7_isWord, cX7_isWord, 3, (some .boolean))
abbrev mX7_item : MD := (yX7_item, cX7_item, 2, none)
abbrev mX7_items : MD := (yX7_items, cX7_items, 2, (some .int))
abbrev mX7_its : MD := (yX7_its, cX7_its, 3, (some .int))
abbrev mX7_judge : MD := (yX7_judge, cX7_judge, 4, (some .int))
abbrev mX7_keeps : MD := (yX7_keeps, cX7_keeps, 3, (some .boolean))
abbrev mX7_kindFor : MD := (yX7_kindFor, cX7_kindFor, 7, (some .int))
abbrev mX7_kindHere : MD := (yX7_kindHere, cX7_kindHere, 1, (some .int))
abbrev mX7_kinds : MD := (yX7_kinds, cX7_kinds, 6, (some .int))
abbrev mX7_letter : MD := (yX7_letter, cX7_letter, 1, (some .int))
abbrev mX7_list : MD := (yX7_list, cX7_list, 3, (some .int))
abbrev mX7_listed : MD := (yX7_listed, cX7_listed, 2, (some .int))
abbrev mX7_load : MD := (yX7_load, cX7_load, 4, (some .int))
abbrev mX7_mostOf : MD := (yX7_mostOf, cX7_mostOf, 1, (some .int))
abbrev mX7_next : MD := (yX7_next, cX7_next, 2, none)
abbrev mX7_now : MD := (yX7_now, cX7_now, 2, (some .int))
abbrev mX7_numberHere : MD := (yX7_numberHere, cX7_numberHere, 3, (some .int))
abbrev mX7_odds : MD := (yX7_odds, cX7_odds, 9, (some .long))
abbrev mX7_of : MD := (yX7_of, cX7_of, 3, (some .int))
abbrev mX7_ones : MD := (yX7_ones, cX7_ones, 3, (some .int))
abbrev mX7_out : MD := (yX7_out, cX7_out, 4, (some .int))
abbrev mX7_perhaps : MD := (yX7_perhaps, cX7_perhaps, 6, none)
abbrev mX7_priest : MD := (yX7_priest, cX7_priest, 3, (some .int))
abbrev mX7_priestHere : MD := (yX7_priestHere, cX7_priestHere, 3, none)
abbrev mX7_room : MD := (yX7_room, cX7_room, 2, (some .int))
abbrev mX7_roomiest : MD := (yX7_roomiest, cX7_roomiest, 5, (some .int))
abbrev mX7_seed : MD := (yX7_seed, cX7_seed, 2, (some .int))
abbrev mX7_set : MD := (yX7_set, cX7_set, 3, (some .int))
abbrev mX7_sets : MD := (yX7_sets, cX7_sets, 4, none)
abbrev mX7_sheet : MD := (yX7_sheet, cX7_sheet, 5, (some .int))
abbrev mX7_spare : MD := (yX7_spare, cX7_spare, 7, (some .int))
abbrev mX7_status : MD := (yX7_status, cX7_status, 4, (some .int))
abbrev mX7_sumOf : MD := (yX7_sumOf, cX7_sumOf, 4, (some .int))
abbrev mX7_swells : MD := (yX7_swells, cX7_swells, 3, (some .int))
abbrev mX7_swellsBy : MD := (yX7_swellsBy, cX7_swellsBy, 6, (some .int))
abbrev mX7_tear : MD := (yX7_tear, cX7_tear, 2, (some .int))
abbrev mX7_text : MD := (yX7_text, cX7_text, 2, (some .int))
abbrev mX7_todays : MD := (yX7_todays, cX7_todays, 1, (some .int))
abbrev mX7_together : MD := (yX7_together, cX7_together, 4, (some .int))
abbrev mX7_toldHere : MD := (yX7_toldHere, cX7_toldHere, 4, none)
abbrev mX7_undo : MD := (yX7_undo, cX7_undo, 1, (some .int))
abbrev mX7_waterFor : MD := (yX7_waterFor, cX7_waterFor, 3, (some .int))
abbrev mX7_when : MD := (yX7_when, cX7_when, 3, (some .int))
abbrev mX7_whyNone : MD := (yX7_whyNone, cX7_whyNone, 2, (some .int))
abbrev mX7_whyNot : MD := (yX7_whyNot, cX7_whyNot, 4, (some .int))
abbrev mX7_wipe : MD := (yX7_wipe, cX7_wipe, 2, (some .int))
abbrev mX7_wise : MD := (yX7_wise, cX7_wise, 5, (some .int))
abbrev mX7_words : MD := (yX7_words, cX7_words, 5, (some .int))
abbrev mX7_wordsFor : MD := (yX7_wordsFor, cX7_wordsFor, 5, (some .int))
abbrev mX7_write : MD := (yX7_write, cX7_write, 5, (some .int))
abbrev mX7_wrongHere : MD := (yX7_wrongHere, cX7_wrongHere, 1, none)
def arraycN : MethodName := arraycopyName
theorem ii_X6 : Cond.initialized RX6 ∈ GW := gw_of (List.mem_append_right _ (List.mem_of_getElem? (i := 1) (by decide +kernel))) rfl
theorem ii_X0 : Cond.initialized RX0 ∈ GW := gw_of (List.mem_append_right _ (List.mem_of_getElem? (i := 2) (by decide +kernel))) rfl
theorem ii_X1 : Cond.initialized RX1 ∈ GW := gw_of (List.mem_append_right _ (List.mem_of_getElem? (i := 3) (by decide +kernel))) rfl
theorem ii_X2 : Cond.initialized RX2 ∈ GW := gw_of (List.mem_append_right _ (List.mem_of_getElem? (i := 5) (by decide +kernel))) rfl
theorem ii_X3 : Cond.initialized RX3 ∈ GW := gw_of (List.mem_append_right _ (List.mem_of_getElem? (i := 4) (by decide +kernel))) rfl
theorem ii_X4 : Cond.initialized RX4 ∈ GW := gw_of (List.mem_append_right _ (List.mem_of_getElem? (i := 7) (by decide +kernel))) rfl
theorem ii_X5 : Cond.initialized RX5 ∈ GW := gw_of (List.mem_append_right _ (List.mem_of_getElem? (i := 6) (by decide +kernel))) rfl
theorem ii_L : Cond.initialized RL ∈ GW := gw_of (List.mem_append_right _ (List.mem_of_getElem? (i := 0) (by decide +kernel))) rfl
theorem ii_X7 : Cond.initialized RX7 ∈ GW := gw_of (List.mem_append_right _ (List.mem_of_getElem? (i := 8) (by decide +kernel))) rfl
theorem ii_J6 : Cond.initialized RJ6 ∈ GW := gw_of (List.mem_append_right _ (List.mem_of_getElem? (i := 9) (by decide +kernel))) rfl
theorem ii_J13 : Cond.initialized RJ13 ∈ GW := gw_of (List.mem_append_right _ (List.mem_of_getElem? (i := 12) (by decide +kernel))) rfl
theorem ii_J9 : Cond.initialized RJ9 ∈ GW := gw_of (List.mem_append_right _ (List.mem_of_getElem? (i := 10) (by decide +kernel))) rfl
theorem ii_J0 : Cond.initialized RJ0 ∈ GW := gw_of (List.mem_append_right _ (List.mem_of_getElem? (i := 13) (by decide +kernel))) rfl
theorem ii_J1 : Cond.initialized RJ1 ∈ GW := gw_of (List.mem_append_right _ (List.mem_of_getElem? (i := 14) (by decide +kernel))) rfl
theorem ii_J2 : Cond.initialized RJ2 ∈ GW := gw_of (List.mem_append_right _ (List.mem_of_getElem? (i := 16) (by decide +kernel))) rfl
theorem ii_J10 : Cond.initialized RJ10 ∈ GW := gw_of (List.mem_append_right _ (List.mem_of_getElem? (i := 11) (by decide +kernel))) rfl
theorem ii_J3 : Cond.initialized RJ3 ∈ GW := gw_of (List.mem_append_right _ (List.mem_of_getElem? (i := 15) (by decide +kernel))) rfl
theorem cf_J0_charAt_5068e : CF mJ0_charAt_5068e 1 := ⟨gw_of (List.mem_append_right _ (List.mem_of_getElem? (i := 665) (by decide +kernel))) rfl, ii_J0, ⟨by decide +kernel, by decide +kernel, by decide +kernel⟩, by decide +kernel⟩
theorem cf_J0_checkIndex_df160 : CF mJ0_checkIndex_df160 2 := ⟨gw_of (List.mem_append_right _ (List.mem_of_getElem? (i := 675) (by decide +kernel))) rfl, ii_J0, ⟨by decide +kernel, by decide +kernel, by decide +kernel⟩, by decide +kernel⟩
theorem cf_J0_coder_7d493 : CF mJ0_coder_7d493 0 := ⟨gw_of (List.mem_append_right _ (List.mem_of_getElem? (i := 659) (by decide +kernel))) rfl, ii_J0, ⟨by decide +kernel, by decide +kernel, by decide +kernel⟩, by decide +kernel⟩
theorem cf_J0_isLatin1_aae02 : CF mJ0_isLatin1_aae02 0 := ⟨gw_of (List.mem_append_right _ (List.mem_of_getElem? (i := 669) (by decide +kernel))) rfl, ii_J0, ⟨by decide +kernel, by decide +kernel, by decide +kernel⟩, by decide +kernel⟩
theorem cf_J0_length_8abf5 : CF mJ0_length_8abf5 0 := ⟨gw_of (List.mem_append_right _ (List.mem_of_getElem? (i := 655) (by decide +kernel))) rfl, ii_J0, ⟨by decide +kernel, by decide +kernel, by decide +kernel⟩, by decide +kernel⟩
theorem cf_J13_bitCount_95d88 : CF mJ13_bitCount_95d88 1 := ⟨gw_of (List.mem_append_right _ (List.mem_of_getElem? (i := 560) (by decide +kernel))) rfl, ii_J13, ⟨by decide +kernel, by decide +kernel, by decide +kernel⟩, by decide +kernel⟩
theorem cf_J1_charAt_3b067 : CF mJ1_charAt_3b067 2 := ⟨gw_of (List.mem_append_right _ (List.mem_of_getElem? (i := 672) (by decide +kernel))) rfl, ii_J1, ⟨by decide +kernel, by decide +kernel, by decide +kernel⟩, by decide +kernel⟩
theorem cf_J2_charAt_3b067 : CF mJ2_charAt_3b067 2 := ⟨gw_of (List.mem_append_right _ (List.mem_of_getElem? (i := 683) (by decide +kernel))) rfl, ii_J2, ⟨by decide +kernel, by decide +kernel, by decide +kernel⟩, by decide +kernel⟩
theorem cf_J2_checkIndex_2214a : CF mJ2_checkIndex_2214a 2 := ⟨gw_of (List.mem_append_right _ (List.mem_of_getElem? (i := 686) (by decide +kernel))) rfl, ii_J2, ⟨by decide +kernel, by decide +kernel, by decide +kernel⟩, by decide +kernel⟩
theorem cf_J2_getChar_3b067 : CF mJ2_getChar_3b067 2 := ⟨gw_of (List.mem_append_right _ (List.mem_of_getElem? (i := 693) (by decide +kernel))) rfl, ii_J2, ⟨by decide +kernel, by decide +kernel, by decide +kernel⟩, by decide +kernel⟩
theorem cf_J2_length_9d52b : CF mJ2_length_9d52b 1 := ⟨gw_of (List.mem_append_right _ (List.mem_of_getElem? (i := 689) (by decide +kernel))) rfl, ii_J2, ⟨by decide +kernel, by decide +kernel, by decide +kernel⟩, by decide +kernel⟩
theorem cf_J3_checkIndex_8e157 : CF mJ3_checkIndex_8e157 3 := ⟨gw_of (List.mem_append_right _ (List.mem_of_getElem? (i := 680) (by decide +kernel))) rfl, ii_J3, ⟨by decide +kernel, by decide +kernel, by decide +kernel⟩, by decide +kernel⟩
theorem cf_J6_bitCount_0f7a4 : CF mJ6_bitCount_0f7a4 1 := ⟨gw_of (List.mem_append_right _ (List.mem_of_getElem? (i := 277) (by decide +kernel))) rfl, ii_J6, ⟨by decide +kernel, by decide +kernel, by decide +kernel⟩, by decide +kernel⟩
theorem cf_J9_floorMod_7cf53 : CF mJ9_floorMod_7cf53 2 := ⟨gw_of (List.mem_append_right _ (List.mem_of_getElem? (i := 361) (by decide +kernel))) rfl, ii_J9, ⟨by decide +kernel, by decide +kernel, by decide +kernel⟩, by decide +kernel⟩
theorem cf_J9_max_7cf53 : CF mJ9_max_7cf53 2 := ⟨gw_of (List.mem_append_right _ (List.mem_of_getElem? (i := 290) (by decide +kernel))) rfl, ii_J9, ⟨by decide +kernel, by decide +kernel, by decide +kernel⟩, by decide +kernel⟩
theorem cf_J9_min_7cf53 : CF mJ9_min_7cf53 2 := ⟨gw_of (List.mem_append_right _ (List.mem_of_getElem? (i := 283) (by decide +kernel))) rfl, ii_J9, ⟨by decide +kernel, by decide +kernel, by decide +kernel⟩, by decide +kernel⟩
theorem cf_X0_at : CF mX0_at 1 := ⟨gw_of (List.mem_append_right _ (List.mem_of_getElem? (i := 256) (by decide +kernel))) rfl, ii_X0, ⟨by decide +kernel, by decide +kernel, by decide +kernel⟩, by decide +kernel⟩
theorem cf_X0_becomeLike : CF mX0_becomeLike 1 := ⟨gw_of (List.mem_append_right _ (List.mem_of_getElem? (i := 416) (by decide +kernel))) rfl, ii_X0, ⟨by decide +kernel, by decide +kernel, by decide +kernel⟩, by decide +kernel⟩
theorem cf_X0_bury : CF mX0_bury 2 := ⟨gw_of (List.mem_append_right _ (List.mem_of_getElem? (i := 339) (by decide +kernel))) rfl, ii_X0, ⟨by decide +kernel, by decide +kernel, by decide +kernel⟩, by decide +kernel⟩
theorem cf_X0_draw : CF mX0_draw 0 := ⟨gw_of (List.mem_append_right _ (List.mem_of_getElem? (i := 583) (by decide +kernel))) rfl, ii_X0, ⟨by decide +kernel, by decide +kernel, by decide +kernel⟩, by decide +kernel⟩
theorem cf_X0_fewestTaking : CF mX0_fewestTaking 1 := ⟨gw_of (List.mem_append_right _ (List.mem_of_getElem? (i := 523) (by decide +kernel))) rfl, ii_X0, ⟨by decide +kernel, by decide +kernel, by decide +kernel⟩, by decide +kernel⟩
theorem cf_X0_fullest : CF mX0_fullest 0 := ⟨gw_of (List.mem_append_right _ (List.mem_of_getElem? (i := 401) (by decide +kernel))) rfl, ii_X0, ⟨by decide +kernel, by decide +kernel, by decide +kernel⟩, by decide +kernel⟩
theorem cf_X0_hungriestOf : CF mX0_hungriestOf 1 := ⟨gw_of (List.mem_append_right _ (List.mem_of_getElem? (i := 326) (by decide +kernel))) rfl, ii_X0, ⟨by decide +kernel, by decide +kernel, by decide +kernel⟩, by decide +kernel⟩
theorem cf_X0_init : CF mX0_init 0 := ⟨gw_of (List.mem_append_right _ (List.mem_of_getElem? (i := 29) (by decide +kernel))) rfl, ii_X0, ⟨by decide +kernel, by decide +kernel, by decide +kernel⟩, by decide +kernel⟩
theorem cf_X0_letAllDigest : CF mX0_letAllDigest 0 := ⟨gw_of (List.mem_append_right _ (List.mem_of_getElem? (i := 383) (by decide +kernel))) rfl, ii_X0, ⟨by decide +kernel, by decide +kernel, by decide +kernel⟩, by decide +kernel⟩
theorem cf_X0_letTheOverfullFallIll : CF mX0_letTheOverfullFallIll 0 := ⟨gw_of (List.mem_append_right _ (List.mem_of_getElem? (i := 375) (by decide +kernel))) rfl, ii_X0, ⟨by decide +kernel, by decide +kernel, by decide +kernel⟩, by decide +kernel⟩
theorem cf_X0_passDay : CF mX0_passDay 0 := ⟨gw_of (List.mem_append_right _ (List.mem_of_getElem? (i := 354) (by decide +kernel))) rfl, ii_X0, ⟨by decide +kernel, by decide +kernel, by decide +kernel⟩, by decide +kernel⟩
theorem cf_X0_passDays : CF mX0_passDays 1 := ⟨gw_of (List.mem_append_right _ (List.mem_of_getElem? (i := 350) (by decide +kernel))) rfl, ii_X0, ⟨by decide +kernel, by decide +kernel, by decide +kernel⟩, by decide +kernel⟩
theorem cf_X0_placeToday : CF mX0_placeToday 0 := ⟨gw_of (List.mem_append_right _ (List.mem_of_getElem? (i := 358) (by decide +kernel))) rfl, ii_X0, ⟨by decide +kernel, by decide +kernel, by decide +kernel⟩, by decide +kernel⟩
theorem cf_X0_sinsTogether : CF mX0_sinsTogether 1 := ⟨gw_of (List.mem_append_right _ (List.mem_of_getElem? (i := 392) (by decide +kernel))) rfl, ii_X0, ⟨by decide +kernel, by decide +kernel, by decide +kernel⟩, by decide +kernel⟩
theorem cf_X0_spotsInUse : CF mX0_spotsInUse 0 := ⟨gw_of (List.mem_append_right _ (List.mem_of_getElem? (i := 826) (by decide +kernel))) rfl, ii_X0, ⟨by decide +kernel, by decide +kernel, by decide +kernel⟩, by decide +kernel⟩
theorem cf_X0_sumTogether : CF mX0_sumTogether 1 := ⟨gw_of (List.mem_append_right _ (List.mem_of_getElem? (i := 397) (by decide +kernel))) rfl, ii_X0, ⟨by decide +kernel, by decide +kernel, by decide +kernel⟩, by decide +kernel⟩
theorem cf_X0_takeTogether : CF mX0_takeTogether 2 := ⟨gw_of (List.mem_append_right _ (List.mem_of_getElem? (i := 528) (by decide +kernel))) rfl, ii_X0, ⟨by decide +kernel, by decide +kernel, by decide +kernel⟩, by decide +kernel⟩
theorem cf_X0_takersOf : CF mX0_takersOf 1 := ⟨gw_of (List.mem_append_right _ (List.mem_of_getElem? (i := 322) (by decide +kernel))) rfl, ii_X0, ⟨by decide +kernel, by decide +kernel, by decide +kernel⟩, by decide +kernel⟩
theorem cf_X0_tellOf : CF mX0_tellOf 2 := ⟨gw_of (List.mem_append_right _ (List.mem_of_getElem? (i := 270) (by decide +kernel))) rfl, ii_X0, ⟨by decide +kernel, by decide +kernel, by decide +kernel⟩, by decide +kernel⟩
theorem cf_X0_welcome : CF mX0_welcome 2 := ⟨gw_of (List.mem_append_right _ (List.mem_of_getElem? (i := 252) (by decide +kernel))) rfl, ii_X0, ⟨by decide +kernel, by decide +kernel, by decide +kernel⟩, by decide +kernel⟩
theorem cf_X1_becomeLike : CF mX1_becomeLike 1 := ⟨gw_of (List.mem_append_right _ (List.mem_of_getElem? (i := 423) (by decide +kernel))) rfl, ii_X1, ⟨by decide +kernel, by decide +kernel, by decide +kernel⟩, by decide +kernel⟩
theorem cf_X1_begin : CF mX1_begin 2 := ⟨gw_of (List.mem_append_right _ (List.mem_of_getElem? (i := 260) (by decide +kernel))) rfl, ii_X1, ⟨by decide +kernel, by decide +kernel, by decide +kernel⟩, by decide +kernel⟩
theorem cf_X1_digesting : CF mX1_digesting 2 := ⟨gw_of (List.mem_append_right _ (List.mem_of_getElem? (i := 287) (by decide +kernel))) rfl, ii_X1, ⟨by decide +kernel, by decide +kernel, by decide +kernel⟩, by decide +kernel⟩
theorem cf_X1_eat : CF mX1_eat 3 := ⟨gw_of (List.mem_append_right _ (List.mem_of_getElem? (i := 368) (by decide +kernel))) rfl, ii_X1, ⟨by decide +kernel, by decide +kernel, by decide +kernel⟩, by decide +kernel⟩
theorem cf_X1_fallIll : CF mX1_fallIll 0 := ⟨gw_of (List.mem_append_right _ (List.mem_of_getElem? (i := 379) (by decide +kernel))) rfl, ii_X1, ⟨by decide +kernel, by decide +kernel, by decide +kernel⟩, by decide +kernel⟩
theorem cf_X1_holding : CF mX1_holding 0 := ⟨gw_of (List.mem_append_right _ (List.mem_of_getElem? (i := 274) (by decide +kernel))) rfl, ii_X1, ⟨by decide +kernel, by decide +kernel, by decide +kernel⟩, by decide +kernel⟩
theorem cf_X1_init : CF mX1_init 0 := ⟨gw_of (List.mem_append_right _ (List.mem_of_getElem? (i := 36) (by decide +kernel))) rfl, ii_X1, ⟨by decide +kernel, by decide +kernel, by decide +kernel⟩, by decide +kernel⟩
theorem cf_X1_isKind : CF mX1_isKind 1 := ⟨gw_of (List.mem_append_right _ (List.mem_of_getElem? (i := 247) (by decide +kernel))) rfl, ii_X1, ⟨by decide +kernel, by decide +kernel, by decide +kernel⟩, by decide +kernel⟩
theorem cf_X1_isOneOf : CF mX1_isOneOf 1 := ⟨gw_of (List.mem_append_right _ (List.mem_of_getElem? (i := 760) (by decide +kernel))) rfl, ii_X1, ⟨by decide +kernel, by decide +kernel, by decide +kernel⟩, by decide +kernel⟩
theorem cf_X1_keepsSilent : CF mX1_keepsSilent 0 := ⟨gw_of (List.mem_append_right _ (List.mem_of_getElem? (i := 294) (by decide +kernel))) rfl, ii_X1, ⟨by decide +kernel, by decide +kernel, by decide +kernel⟩, by decide +kernel⟩
theorem cf_X1_mayBe : CF mX1_mayBe 2 := ⟨gw_of (List.mem_append_right _ (List.mem_of_getElem? (i := 301) (by decide +kernel))) rfl, ii_X1, ⟨by decide +kernel, by decide +kernel, by decide +kernel⟩, by decide +kernel⟩
theorem cf_X1_put : CF mX1_put 2 := ⟨gw_of (List.mem_append_right _ (List.mem_of_getElem? (i := 306) (by decide +kernel))) rfl, ii_X1, ⟨by decide +kernel, by decide +kernel, by decide +kernel⟩, by decide +kernel⟩
theorem cf_X1_swelling : CF mX1_swelling 3 := ⟨gw_of (List.mem_append_right _ (List.mem_of_getElem? (i := 314) (by decide +kernel))) rfl, ii_X1, ⟨by decide +kernel, by decide +kernel, by decide +kernel⟩, by decide +kernel⟩
theorem cf_X2_advance : CF mX2_advance 0 := ⟨gw_of (List.mem_append_right _ (List.mem_of_getElem? (i := 631) (by decide +kernel))) rfl, ii_X2, ⟨by decide +kernel, by decide +kernel, by decide +kernel⟩, by decide +kernel⟩
theorem cf_X2_init : CF mX2_init 0 := ⟨gw_of (List.mem_append_right _ (List.mem_of_getElem? (i := 131) (by decide +kernel))) rfl, ii_X2, ⟨by decide +kernel, by decide +kernel, by decide +kernel⟩, by decide +kernel⟩
theorem cf_X2_isDigit : CF mX2_isDigit 1 := ⟨gw_of (List.mem_append_right _ (List.mem_of_getElem? (i := 641) (by decide +kernel))) rfl, ii_X2, ⟨by decide +kernel, by decide +kernel, by decide +kernel⟩, by decide +kernel⟩
theorem cf_X2_isLetter : CF mX2_isLetter 1 := ⟨gw_of (List.mem_append_right _ (List.mem_of_getElem? (i := 638) (by decide +kernel))) rfl, ii_X2, ⟨by decide +kernel, by decide +kernel, by decide +kernel⟩, by decide +kernel⟩
theorem cf_X2_isWord : CF mX2_isWord 1 := ⟨gw_of (List.mem_append_right _ (List.mem_of_getElem? (i := 651) (by decide +kernel))) rfl, ii_X2, ⟨by decide +kernel, by decide +kernel, by decide +kernel⟩, by decide +kernel⟩
theorem cf_X2_kindAtHand : CF mX2_kindAtHand 0 := ⟨gw_of (List.mem_append_right _ (List.mem_of_getElem? (i := 727) (by decide +kernel))) rfl, ii_X2, ⟨by decide +kernel, by decide +kernel, by decide +kernel⟩, by decide +kernel⟩
theorem cf_X2_readInto : CF mX2_readInto 1 := ⟨gw_of (List.mem_append_right _ (List.mem_of_getElem? (i := 627) (by decide +kernel))) rfl, ii_X2, ⟨by decide +kernel, by decide +kernel, by decide +kernel⟩, by decide +kernel⟩
theorem cf_X2_readItem : CF mX2_readItem 1 := ⟨gw_of (List.mem_append_right _ (List.mem_of_getElem? (i := 646) (by decide +kernel))) rfl, ii_X2, ⟨by decide +kernel, by decide +kernel, by decide +kernel⟩, by decide +kernel⟩
theorem cf_X2_readNumber : CF mX2_readNumber 1 := ⟨gw_of (List.mem_append_right _ (List.mem_of_getElem? (i := 707) (by decide +kernel))) rfl, ii_X2, ⟨by decide +kernel, by decide +kernel, by decide +kernel⟩, by decide +kernel⟩
theorem cf_X2_readOut : CF mX2_readOut 1 := ⟨gw_of (List.mem_append_right _ (List.mem_of_getElem? (i := 719) (by decide +kernel))) rfl, ii_X2, ⟨by decide +kernel, by decide +kernel, by decide +kernel⟩, by decide +kernel⟩
theorem cf_X2_readPerhaps : CF mX2_readPerhaps 3 := ⟨gw_of (List.mem_append_right _ (List.mem_of_getElem? (i := 744) (by decide +kernel))) rfl, ii_X2, ⟨by decide +kernel, by decide +kernel, by decide +kernel⟩, by decide +kernel⟩
theorem cf_X2_readPriest : CF mX2_readPriest 1 := ⟨gw_of (List.mem_append_right _ (List.mem_of_getElem? (i := 723) (by decide +kernel))) rfl, ii_X2, ⟨by decide +kernel, by decide +kernel, by decide +kernel⟩, by decide +kernel⟩
theorem cf_X2_readTold : CF mX2_readTold 1 := ⟨gw_of (List.mem_append_right _ (List.mem_of_getElem? (i := 703) (by decide +kernel))) rfl, ii_X2, ⟨by decide +kernel, by decide +kernel, by decide +kernel⟩, by decide +kernel⟩
theorem cf_X2_readWater : CF mX2_readWater 1 := ⟨gw_of (List.mem_append_right _ (List.mem_of_getElem? (i := 714) (by decide +kernel))) rfl, ii_X2, ⟨by decide +kernel, by decide +kernel, by decide +kernel⟩, by decide +kernel⟩
theorem cf_X2_wordOf : CF mX2_wordOf 1 := ⟨gw_of (List.mem_append_right _ (List.mem_of_getElem? (i := 730) (by decide +kernel))) rfl, ii_X2, ⟨by decide +kernel, by decide +kernel, by decide +kernel⟩, by decide +kernel⟩
theorem cf_X3_daysTillIll : CF mX3_daysTillIll 2 := ⟨gw_of (List.mem_append_right _ (List.mem_of_getElem? (i := 434) (by decide +kernel))) rfl, ii_X3, ⟨by decide +kernel, by decide +kernel, by decide +kernel⟩, by decide +kernel⟩
theorem cf_X3_daysTillOut : CF mX3_daysTillOut 2 := ⟨gw_of (List.mem_append_right _ (List.mem_of_getElem? (i := 443) (by decide +kernel))) rfl, ii_X3, ⟨by decide +kernel, by decide +kernel, by decide +kernel⟩, by decide +kernel⟩
theorem cf_X3_daysTillStuffed : CF mX3_daysTillStuffed 3 := ⟨gw_of (List.mem_append_right _ (List.mem_of_getElem? (i := 460) (by decide +kernel))) rfl, ii_X3, ⟨by decide +kernel, by decide +kernel, by decide +kernel⟩, by decide +kernel⟩
theorem cf_X3_daysTillWise : CF mX3_daysTillWise 3 := ⟨gw_of (List.mem_append_right _ (List.mem_of_getElem? (i := 451) (by decide +kernel))) rfl, ii_X3, ⟨by decide +kernel, by decide +kernel, by decide +kernel⟩, by decide +kernel⟩
theorem cf_X3_dreamOf : CF mX3_dreamOf 1 := ⟨gw_of (List.mem_append_right _ (List.mem_of_getElem? (i := 623) (by decide +kernel))) rfl, ii_X3, ⟨by decide +kernel, by decide +kernel, by decide +kernel⟩, by decide +kernel⟩
theorem cf_X3_dreamsAsTold : CF mX3_dreamsAsTold 2 := ⟨gw_of (List.mem_append_right _ (List.mem_of_getElem? (i := 557) (by decide +kernel))) rfl, ii_X3, ⟨by decide +kernel, by decide +kernel, by decide +kernel⟩, by decide +kernel⟩
theorem cf_X3_fewestFasting : CF mX3_fewestFasting 2 := ⟨gw_of (List.mem_append_right _ (List.mem_of_getElem? (i := 511) (by decide +kernel))) rfl, ii_X3, ⟨by decide +kernel, by decide +kernel, by decide +kernel⟩, by decide +kernel⟩
theorem cf_X3_fittingKinds : CF mX3_fittingKinds 3 := ⟨gw_of (List.mem_append_right _ (List.mem_of_getElem? (i := 575) (by decide +kernel))) rfl, ii_X3, ⟨by decide +kernel, by decide +kernel, by decide +kernel⟩, by decide +kernel⟩
theorem cf_X3_fittingWords : CF mX3_fittingWords 3 := ⟨gw_of (List.mem_append_right _ (List.mem_of_getElem? (i := 552) (by decide +kernel))) rfl, ii_X3, ⟨by decide +kernel, by decide +kernel, by decide +kernel⟩, by decide +kernel⟩
theorem cf_X3_healthiestKind : CF mX3_healthiestKind 3 := ⟨gw_of (List.mem_append_right _ (List.mem_of_getElem? (i := 502) (by decide +kernel))) rfl, ii_X3, ⟨by decide +kernel, by decide +kernel, by decide +kernel⟩, by decide +kernel⟩
theorem cf_X3_init : CF mX3_init 0 := ⟨gw_of (List.mem_append_right _ (List.mem_of_getElem? (i := 118) (by decide +kernel))) rfl, ii_X3, ⟨by decide +kernel, by decide +kernel, by decide +kernel⟩, by decide +kernel⟩
theorem cf_X3_leastQuietWater : CF mX3_leastQuietWater 2 := ⟨gw_of (List.mem_append_right _ (List.mem_of_getElem? (i := 482) (by decide +kernel))) rfl, ii_X3, ⟨by decide +kernel, by decide +kernel, by decide +kernel⟩, by decide +kernel⟩
theorem cf_X3_makeFast : CF mX3_makeFast 1 := ⟨gw_of (List.mem_append_right _ (List.mem_of_getElem? (i := 515) (by decide +kernel))) rfl, ii_X3, ⟨by decide +kernel, by decide +kernel, by decide +kernel⟩, by decide +kernel⟩
theorem cf_X3_mostHarmlessWords : CF mX3_mostHarmlessWords 3 := ⟨gw_of (List.mem_append_right _ (List.mem_of_getElem? (i := 468) (by decide +kernel))) rfl, ii_X3, ⟨by decide +kernel, by decide +kernel, by decide +kernel⟩, by decide +kernel⟩
theorem cf_X3_sinToSpare : CF mX3_sinToSpare 3 := ⟨gw_of (List.mem_append_right _ (List.mem_of_getElem? (i := 494) (by decide +kernel))) rfl, ii_X3, ⟨by decide +kernel, by decide +kernel, by decide +kernel⟩, by decide +kernel⟩
theorem cf_X3_staysQuiet : CF mX3_staysQuiet 1 := ⟨gw_of (List.mem_append_right _ (List.mem_of_getElem? (i := 486) (by decide +kernel))) rfl, ii_X3, ⟨by decide +kernel, by decide +kernel, by decide +kernel⟩, by decide +kernel⟩
theorem cf_X3_tellBehind : CF mX3_tellBehind 4 := ⟨gw_of (List.mem_append_right _ (List.mem_of_getElem? (i := 412) (by decide +kernel))) rfl, ii_X3, ⟨by decide +kernel, by decide +kernel, by decide +kernel⟩, by decide +kernel⟩
theorem cf_X4_begin : CF mX4_begin 2 := ⟨gw_of (List.mem_append_right _ (List.mem_of_getElem? (i := 775) (by decide +kernel))) rfl, ii_X4, ⟨by decide +kernel, by decide +kernel, by decide +kernel⟩, by decide +kernel⟩
theorem cf_X4_cut : CF mX4_cut 1 := ⟨gw_of (List.mem_append_right _ (List.mem_of_getElem? (i := 789) (by decide +kernel))) rfl, ii_X4, ⟨by decide +kernel, by decide +kernel, by decide +kernel⟩, by decide +kernel⟩
theorem cf_X4_has : CF mX4_has 2 := ⟨gw_of (List.mem_append_right _ (List.mem_of_getElem? (i := 797) (by decide +kernel))) rfl, ii_X4, ⟨by decide +kernel, by decide +kernel, by decide +kernel⟩, by decide +kernel⟩
theorem cf_X4_init : CF mX4_init 0 := ⟨gw_of (List.mem_append_right _ (List.mem_of_getElem? (i := 173) (by decide +kernel))) rfl, ii_X4, ⟨by decide +kernel, by decide +kernel, by decide +kernel⟩, by decide +kernel⟩
theorem cf_X4_isMissing : CF mX4_isMissing 0 := ⟨gw_of (List.mem_append_right _ (List.mem_of_getElem? (i := 547) (by decide +kernel))) rfl, ii_X4, ⟨by decide +kernel, by decide +kernel, by decide +kernel⟩, by decide +kernel⟩
theorem cf_X4_mayHaveBits : CF mX4_mayHaveBits 1 := ⟨gw_of (List.mem_append_right _ (List.mem_of_getElem? (i := 770) (by decide +kernel))) rfl, ii_X4, ⟨by decide +kernel, by decide +kernel, by decide +kernel⟩, by decide +kernel⟩
theorem cf_X4_put : CF mX4_put 2 := ⟨gw_of (List.mem_append_right _ (List.mem_of_getElem? (i := 785) (by decide +kernel))) rfl, ii_X4, ⟨by decide +kernel, by decide +kernel, by decide +kernel⟩, by decide +kernel⟩
theorem cf_X5_append : CF mX5_append 2 := ⟨gw_of (List.mem_append_right _ (List.mem_of_getElem? (i := 607) (by decide +kernel))) rfl, ii_X5, ⟨by decide +kernel, by decide +kernel, by decide +kernel⟩, by decide +kernel⟩
theorem cf_X5_byteAt : CF mX5_byteAt 1 := ⟨gw_of (List.mem_append_right _ (List.mem_of_getElem? (i := 635) (by decide +kernel))) rfl, ii_X5, ⟨by decide +kernel, by decide +kernel, by decide +kernel⟩, by decide +kernel⟩
theorem cf_X5_empty : CF mX5_empty 0 := ⟨gw_of (List.mem_append_right _ (List.mem_of_getElem? (i := 615) (by decide +kernel))) rfl, ii_X5, ⟨by decide +kernel, by decide +kernel, by decide +kernel⟩, by decide +kernel⟩
theorem cf_X5_init : CF mX5_init 0 := ⟨gw_of (List.mem_append_right _ (List.mem_of_getElem? (i := 137) (by decide +kernel))) rfl, ii_X5, ⟨by decide +kernel, by decide +kernel, by decide +kernel⟩, by decide +kernel⟩
theorem cf_X6_ahead : CF mX6_ahead 3 := ⟨gw_of (List.mem_append_right _ (List.mem_of_getElem? (i := 405) (by decide +kernel))) rfl, ii_X6, ⟨by decide +kernel, by decide +kernel, by decide +kernel⟩, by decide +kernel⟩
theorem cf_X6_as : CF mX6_as 2 := ⟨gw_of (List.mem_append_right _ (List.mem_of_getElem? (i := 756) (by decide +kernel))) rfl, ii_X6, ⟨by decide +kernel, by decide +kernel, by decide +kernel⟩, by decide +kernel⟩
theorem cf_X6_change : CF mX6_change 3 := ⟨gw_of (List.mem_append_right _ (List.mem_of_getElem? (i := 298) (by decide +kernel))) rfl, ii_X6, ⟨by decide +kernel, by decide +kernel, by decide +kernel⟩, by decide +kernel⟩
theorem cf_X6_changesByDays : CF mX6_changesByDays 1 := ⟨gw_of (List.mem_append_right _ (List.mem_of_getElem? (i := 408) (by decide +kernel))) rfl, ii_X6, ⟨by decide +kernel, by decide +kernel, by decide +kernel⟩, by decide +kernel⟩
theorem cf_X6_come : CF mX6_come 1 := ⟨gw_of (List.mem_append_right _ (List.mem_of_getElem? (i := 579) (by decide +kernel))) rfl, ii_X6, ⟨by decide +kernel, by decide +kernel, by decide +kernel⟩, by decide +kernel⟩
theorem cf_X6_confessionOf : CF mX6_confessionOf 2 := ⟨gw_of (List.mem_append_right _ (List.mem_of_getElem? (i := 474) (by decide +kernel))) rfl, ii_X6, ⟨by decide +kernel, by decide +kernel, by decide +kernel⟩, by decide +kernel⟩
theorem cf_X6_copy : CF mX6_copy 5 := ⟨gw_of (List.mem_append_right _ (List.mem_of_getElem? (i := 793) (by decide +kernel))) rfl, ii_X6, ⟨by decide +kernel, by decide +kernel, by decide +kernel⟩, by decide +kernel⟩
theorem cf_X6_count : CF mX6_count 1 := ⟨gw_of (List.mem_append_right _ (List.mem_of_getElem? (i := 822) (by decide +kernel))) rfl, ii_X6, ⟨by decide +kernel, by decide +kernel, by decide +kernel⟩, by decide +kernel⟩
theorem cf_X6_cover : CF mX6_cover 1 := ⟨gw_of (List.mem_append_right _ (List.mem_of_getElem? (i := 519) (by decide +kernel))) rfl, ii_X6, ⟨by decide +kernel, by decide +kernel, by decide +kernel⟩, by decide +kernel⟩
theorem cf_X6_dies : CF mX6_dies 1 := ⟨gw_of (List.mem_append_right _ (List.mem_of_getElem? (i := 335) (by decide +kernel))) rfl, ii_X6, ⟨by decide +kernel, by decide +kernel, by decide +kernel⟩, by decide +kernel⟩
theorem cf_X6_fast : CF mX6_fast 1 := ⟨gw_of (List.mem_append_right _ (List.mem_of_getElem? (i := 507) (by decide +kernel))) rfl, ii_X6, ⟨by decide +kernel, by decide +kernel, by decide +kernel⟩, by decide +kernel⟩
theorem cf_X6_feed : CF mX6_feed 2 := ⟨gw_of (List.mem_append_right _ (List.mem_of_getElem? (i := 603) (by decide +kernel))) rfl, ii_X6, ⟨by decide +kernel, by decide +kernel, by decide +kernel⟩, by decide +kernel⟩
theorem cf_X6_fits : CF mX6_fits 2 := ⟨gw_of (List.mem_append_right _ (List.mem_of_getElem? (i := 532) (by decide +kernel))) rfl, ii_X6, ⟨by decide +kernel, by decide +kernel, by decide +kernel⟩, by decide +kernel⟩
theorem cf_X6_go : CF mX6_go 1 := ⟨gw_of (List.mem_append_right _ (List.mem_of_getElem? (i := 344) (by decide +kernel))) rfl, ii_X6, ⟨by decide +kernel, by decide +kernel, by decide +kernel⟩, by decide +kernel⟩
theorem cf_X6_goes : CF mX6_goes 1 := ⟨gw_of (List.mem_append_right _ (List.mem_of_getElem? (i := 318) (by decide +kernel))) rfl, ii_X6, ⟨by decide +kernel, by decide +kernel, by decide +kernel⟩, by decide +kernel⟩
theorem cf_X6_hold : CF mX6_hold 2 := ⟨gw_of (List.mem_append_right _ (List.mem_of_getElem? (i := 752) (by decide +kernel))) rfl, ii_X6, ⟨by decide +kernel, by decide +kernel, by decide +kernel⟩, by decide +kernel⟩
theorem cf_X6_ill : CF mX6_ill 1 := ⟨gw_of (List.mem_append_right _ (List.mem_of_getElem? (i := 430) (by decide +kernel))) rfl, ii_X6, ⟨by decide +kernel, by decide +kernel, by decide +kernel⟩, by decide +kernel⟩
theorem cf_X6_image : CF mX6_image 0 := ⟨gw_of (List.mem_append_right _ (List.mem_of_getElem? (i := 810) (by decide +kernel))) rfl, ii_X6, ⟨by decide +kernel, by decide +kernel, by decide +kernel⟩, by decide +kernel⟩
theorem cf_X6_init : CF mX6_init 0 := ⟨gw_of (List.mem_append_right _ (List.mem_of_getElem? (i := 21) (by decide +kernel))) rfl, ii_X6, ⟨by decide +kernel, by decide +kernel, by decide +kernel⟩, by decide +kernel⟩
theorem cf_X6_isConfession : CF mX6_isConfession 1 := ⟨gw_of (List.mem_append_right _ (List.mem_of_getElem? (i := 230) (by decide +kernel))) rfl, ii_X6, ⟨by decide +kernel, by decide +kernel, by decide +kernel⟩, by decide +kernel⟩
theorem cf_X6_judge : CF mX6_judge 1 := ⟨gw_of (List.mem_append_right _ (List.mem_of_getElem? (i := 806) (by decide +kernel))) rfl, ii_X6, ⟨by decide +kernel, by decide +kernel, by decide +kernel⟩, by decide +kernel⟩
theorem cf_X6_kindFor : CF mX6_kindFor 2 := ⟨gw_of (List.mem_append_right _ (List.mem_of_getElem? (i := 498) (by decide +kernel))) rfl, ii_X6, ⟨by decide +kernel, by decide +kernel, by decide +kernel⟩, by decide +kernel⟩
theorem cf_X6_kinds : CF mX6_kinds 2 := ⟨gw_of (List.mem_append_right _ (List.mem_of_getElem? (i := 571) (by decide +kernel))) rfl, ii_X6, ⟨by decide +kernel, by decide +kernel, by decide +kernel⟩, by decide +kernel⟩
theorem cf_X6_list : CF mX6_list 2 := ⟨gw_of (List.mem_append_right _ (List.mem_of_getElem? (i := 227) (by decide +kernel))) rfl, ii_X6, ⟨by decide +kernel, by decide +kernel, by decide +kernel⟩, by decide +kernel⟩
theorem cf_X6_listed : CF mX6_listed 1 := ⟨gw_of (List.mem_append_right _ (List.mem_of_getElem? (i := 240) (by decide +kernel))) rfl, ii_X6, ⟨by decide +kernel, by decide +kernel, by decide +kernel⟩, by decide +kernel⟩
theorem cf_X6_load : CF mX6_load 1 := ⟨gw_of (List.mem_append_right _ (List.mem_of_getElem? (i := 802) (by decide +kernel))) rfl, ii_X6, ⟨by decide +kernel, by decide +kernel, by decide +kernel⟩, by decide +kernel⟩
theorem cf_X6_now : CF mX6_now 1 := ⟨gw_of (List.mem_append_right _ (List.mem_of_getElem? (i := 388) (by decide +kernel))) rfl, ii_X6, ⟨by decide +kernel, by decide +kernel, by decide +kernel⟩, by decide +kernel⟩
theorem cf_X6_odds : CF mX6_odds 3 := ⟨gw_of (List.mem_append_right _ (List.mem_of_getElem? (i := 591) (by decide +kernel))) rfl, ii_X6, ⟨by decide +kernel, by decide +kernel, by decide +kernel⟩, by decide +kernel⟩
theorem cf_X6_of : CF mX6_of 2 := ⟨gw_of (List.mem_append_right _ (List.mem_of_getElem? (i := 265) (by decide +kernel))) rfl, ii_X6, ⟨by decide +kernel, by decide +kernel, by decide +kernel⟩, by decide +kernel⟩
theorem cf_X6_orNone : CF mX6_orNone 1 := ⟨gw_of (List.mem_append_right _ (List.mem_of_getElem? (i := 330) (by decide +kernel))) rfl, ii_X6, ⟨by decide +kernel, by decide +kernel, by decide +kernel⟩, by decide +kernel⟩
theorem cf_X6_out : CF mX6_out 1 := ⟨gw_of (List.mem_append_right _ (List.mem_of_getElem? (i := 439) (by decide +kernel))) rfl, ii_X6, ⟨by decide +kernel, by decide +kernel, by decide +kernel⟩, by decide +kernel⟩
theorem cf_X6_power : CF mX6_power 2 := ⟨gw_of (List.mem_append_right _ (List.mem_of_getElem? (i := 595) (by decide +kernel))) rfl, ii_X6, ⟨by decide +kernel, by decide +kernel, by decide +kernel⟩, by decide +kernel⟩
theorem cf_X6_priest : CF mX6_priest 2 := ⟨gw_of (List.mem_append_right _ (List.mem_of_getElem? (i := 244) (by decide +kernel))) rfl, ii_X6, ⟨by decide +kernel, by decide +kernel, by decide +kernel⟩, by decide +kernel⟩
theorem cf_X6_seed : CF mX6_seed 1 := ⟨gw_of (List.mem_append_right _ (List.mem_of_getElem? (i := 599) (by decide +kernel))) rfl, ii_X6, ⟨by decide +kernel, by decide +kernel, by decide +kernel⟩, by decide +kernel⟩
theorem cf_X6_set : CF mX6_set 2 := ⟨gw_of (List.mem_append_right _ (List.mem_of_getElem? (i := 215) (by decide +kernel))) rfl, ii_X6, ⟨by decide +kernel, by decide +kernel, by decide +kernel⟩, by decide +kernel⟩
theorem cf_X6_sheet : CF mX6_sheet 3 := ⟨gw_of (List.mem_append_right _ (List.mem_of_getElem? (i := 767) (by decide +kernel))) rfl, ii_X6, ⟨by decide +kernel, by decide +kernel, by decide +kernel⟩, by decide +kernel⟩
theorem cf_X6_sheetAt : CF mX6_sheetAt 1 := ⟨gw_of (List.mem_append_right _ (List.mem_of_getElem? (i := 536) (by decide +kernel))) rfl, ii_X6, ⟨by decide +kernel, by decide +kernel, by decide +kernel⟩, by decide +kernel⟩
theorem cf_X6_sinOf : CF mX6_sinOf 1 := ⟨gw_of (List.mem_append_right _ (List.mem_of_getElem? (i := 233) (by decide +kernel))) rfl, ii_X6, ⟨by decide +kernel, by decide +kernel, by decide +kernel⟩, by decide +kernel⟩
theorem cf_X6_spare : CF mX6_spare 2 := ⟨gw_of (List.mem_append_right _ (List.mem_of_getElem? (i := 490) (by decide +kernel))) rfl, ii_X6, ⟨by decide +kernel, by decide +kernel, by decide +kernel⟩, by decide +kernel⟩
theorem cf_X6_status : CF mX6_status 1 := ⟨gw_of (List.mem_append_right _ (List.mem_of_getElem? (i := 830) (by decide +kernel))) rfl, ii_X6, ⟨by decide +kernel, by decide +kernel, by decide +kernel⟩, by decide +kernel⟩
theorem cf_X6_swells : CF mX6_swells 2 := ⟨gw_of (List.mem_append_right _ (List.mem_of_getElem? (i := 310) (by decide +kernel))) rfl, ii_X6, ⟨by decide +kernel, by decide +kernel, by decide +kernel⟩, by decide +kernel⟩
theorem cf_X6_tear : CF mX6_tear 0 := ⟨gw_of (List.mem_append_right _ (List.mem_of_getElem? (i := 818) (by decide +kernel))) rfl, ii_X6, ⟨by decide +kernel, by decide +kernel, by decide +kernel⟩, by decide +kernel⟩
theorem cf_X6_tell : CF mX6_tell 1 := ⟨gw_of (List.mem_append_right _ (List.mem_of_getElem? (i := 223) (by decide +kernel))) rfl, ii_X6, ⟨by decide +kernel, by decide +kernel, by decide +kernel⟩, by decide +kernel⟩
theorem cf_X6_text : CF mX6_text 0 := ⟨gw_of (List.mem_append_right _ (List.mem_of_getElem? (i := 619) (by decide +kernel))) rfl, ii_X6, ⟨by decide +kernel, by decide +kernel, by decide +kernel⟩, by decide +kernel⟩
theorem cf_X6_undo : CF mX6_undo 0 := ⟨gw_of (List.mem_append_right _ (List.mem_of_getElem? (i := 814) (by decide +kernel))) rfl, ii_X6, ⟨by decide +kernel, by decide +kernel, by decide +kernel⟩, by decide +kernel⟩
theorem cf_X6_waterFor : CF mX6_waterFor 1 := ⟨gw_of (List.mem_append_right _ (List.mem_of_getElem? (i := 478) (by decide +kernel))) rfl, ii_X6, ⟨by decide +kernel, by decide +kernel, by decide +kernel⟩, by decide +kernel⟩
theorem cf_X6_when : CF mX6_when 2 := ⟨gw_of (List.mem_append_right _ (List.mem_of_getElem? (i := 456) (by decide +kernel))) rfl, ii_X6, ⟨by decide +kernel, by decide +kernel, by decide +kernel⟩, by decide +kernel⟩
theorem cf_X6_wipe : CF mX6_wipe 0 := ⟨gw_of (List.mem_append_right _ (List.mem_of_getElem? (i := 611) (by decide +kernel))) rfl, ii_X6, ⟨by decide +kernel, by decide +kernel, by decide +kernel⟩, by decide +kernel⟩
theorem cf_X6_wise : CF mX6_wise 2 := ⟨gw_of (List.mem_append_right _ (List.mem_of_getElem? (i := 447) (by decide +kernel))) rfl, ii_X6, ⟨by decide +kernel, by decide +kernel, by decide +kernel⟩, by decide +kernel⟩
theorem cf_X6_within : CF mX6_within 2 := ⟨gw_of (List.mem_append_right _ (List.mem_of_getElem? (i := 218) (by decide +kernel))) rfl, ii_X6, ⟨by decide +kernel, by decide +kernel, by decide +kernel⟩, by decide +kernel⟩
theorem cf_X6_words : CF mX6_words 2 := ⟨gw_of (List.mem_append_right _ (List.mem_of_getElem? (i := 567) (by decide +kernel))) rfl, ii_X6, ⟨by decide +kernel, by decide +kernel, by decide +kernel⟩, by decide +kernel⟩
theorem cf_X6_wordsFor : CF mX6_wordsFor 2 := ⟨gw_of (List.mem_append_right _ (List.mem_of_getElem? (i := 464) (by decide +kernel))) rfl, ii_X6, ⟨by decide +kernel, by decide +kernel, by decide +kernel⟩, by decide +kernel⟩
theorem cf_X6_wordsOf : CF mX6_wordsOf 1 := ⟨gw_of (List.mem_append_right _ (List.mem_of_getElem? (i := 236) (by decide +kernel))) rfl, ii_X6, ⟨by decide +kernel, by decide +kernel, by decide +kernel⟩, by decide +kernel⟩
theorem cf_X6_write : CF mX6_write 3 := ⟨gw_of (List.mem_append_right _ (List.mem_of_getElem? (i := 781) (by decide +kernel))) rfl, ii_X6, ⟨by decide +kernel, by decide +kernel, by decide +kernel⟩, by decide +kernel⟩
theorem cf_X6_wrongFulness : CF mX6_wrongFulness 2 := ⟨gw_of (List.mem_append_right _ (List.mem_of_getElem? (i := 540) (by decide +kernel))) rfl, ii_X6, ⟨by decide +kernel, by decide +kernel, by decide +kernel⟩, by decide +kernel⟩
theorem cf_X6_wrongSheet : CF mX6_wrongSheet 1 := ⟨gw_of (List.mem_append_right _ (List.mem_of_getElem? (i := 543) (by decide +kernel))) rfl, ii_X6, ⟨by decide +kernel, by decide +kernel, by decide +kernel⟩, by decide +kernel⟩
theorem cf_X7_above : CF mX7_above 1 := ⟨gw_of (List.mem_append_right _ (List.mem_of_getElem? (i := 1250) (by decide +kernel))) rfl, ii_X7, ⟨by decide +kernel, by decide +kernel, by decide +kernel⟩, by decide +kernel⟩
theorem cf_X7_ahead : CF mX7_ahead 3 := ⟨gw_of (List.mem_append_right _ (List.mem_of_getElem? (i := 1045) (by decide +kernel))) rfl, ii_X7, ⟨by decide +kernel, by decide +kernel, by decide +kernel⟩, by decide +kernel⟩
theorem cf_X7_areSins : CF mX7_areSins 1 := ⟨gw_of (List.mem_append_right _ (List.mem_of_getElem? (i := 899) (by decide +kernel))) rfl, ii_X7, ⟨by decide +kernel, by decide +kernel, by decide +kernel⟩, by decide +kernel⟩
theorem cf_X7_as : CF mX7_as 2 := ⟨gw_of (List.mem_append_right _ (List.mem_of_getElem? (i := 1247) (by decide +kernel))) rfl, ii_X7, ⟨by decide +kernel, by decide +kernel, by decide +kernel⟩, by decide +kernel⟩
theorem cf_X7_becomes : CF mX7_becomes 2 := ⟨gw_of (List.mem_append_right _ (List.mem_of_getElem? (i := 904) (by decide +kernel))) rfl, ii_X7, ⟨by decide +kernel, by decide +kernel, by decide +kernel⟩, by decide +kernel⟩
theorem cf_X7_behind : CF mX7_behind 2 := ⟨gw_of (List.mem_append_right _ (List.mem_of_getElem? (i := 1090) (by decide +kernel))) rfl, ii_X7, ⟨by decide +kernel, by decide +kernel, by decide +kernel⟩, by decide +kernel⟩
theorem cf_X7_byteAt : CF mX7_byteAt 1 := ⟨gw_of (List.mem_append_right _ (List.mem_of_getElem? (i := 1182) (by decide +kernel))) rfl, ii_X7, ⟨by decide +kernel, by decide +kernel, by decide +kernel⟩, by decide +kernel⟩
theorem cf_X7_change : CF mX7_change 3 := ⟨gw_of (List.mem_append_right _ (List.mem_of_getElem? (i := 976) (by decide +kernel))) rfl, ii_X7, ⟨by decide +kernel, by decide +kernel, by decide +kernel⟩, by decide +kernel⟩
theorem cf_X7_come : CF mX7_come 1 := ⟨gw_of (List.mem_append_right _ (List.mem_of_getElem? (i := 1144) (by decide +kernel))) rfl, ii_X7, ⟨by decide +kernel, by decide +kernel, by decide +kernel⟩, by decide +kernel⟩
theorem cf_X7_comes : CF mX7_comes 2 := ⟨gw_of (List.mem_append_right _ (List.mem_of_getElem? (i := 934) (by decide +kernel))) rfl, ii_X7, ⟨by decide +kernel, by decide +kernel, by decide +kernel⟩, by decide +kernel⟩
theorem cf_X7_confesses : CF mX7_confesses 1 := ⟨gw_of (List.mem_append_right _ (List.mem_of_getElem? (i := 1025) (by decide +kernel))) rfl, ii_X7, ⟨by decide +kernel, by decide +kernel, by decide +kernel⟩, by decide +kernel⟩
theorem cf_X7_copies : CF mX7_copies 2 := ⟨gw_of (List.mem_append_right _ (List.mem_of_getElem? (i := 1049) (by decide +kernel))) rfl, ii_X7, ⟨by decide +kernel, by decide +kernel, by decide +kernel⟩, by decide +kernel⟩
theorem cf_X7_copy : CF mX7_copy 5 := ⟨gw_of (List.mem_append_right _ (List.mem_of_getElem? (i := 1262) (by decide +kernel))) rfl, ii_X7, ⟨by decide +kernel, by decide +kernel, by decide +kernel⟩, by decide +kernel⟩
theorem cf_X7_count : CF mX7_count 1 := ⟨gw_of (List.mem_append_right _ (List.mem_of_getElem? (i := 1286) (by decide +kernel))) rfl, ii_X7, ⟨by decide +kernel, by decide +kernel, by decide +kernel⟩, by decide +kernel⟩
theorem cf_X7_cover : CF mX7_cover 1 := ⟨gw_of (List.mem_append_right _ (List.mem_of_getElem? (i := 1108) (by decide +kernel))) rfl, ii_X7, ⟨by decide +kernel, by decide +kernel, by decide +kernel⟩, by decide +kernel⟩
theorem cf_X7_dayGoes : CF mX7_dayGoes 0 := ⟨gw_of (List.mem_append_right _ (List.mem_of_getElem? (i := 1017) (by decide +kernel))) rfl, ii_X7, ⟨by decide +kernel, by decide +kernel, by decide +kernel⟩, by decide +kernel⟩
theorem cf_X7_daysGo : CF mX7_daysGo 1 := ⟨gw_of (List.mem_append_right _ (List.mem_of_getElem? (i := 1013) (by decide +kernel))) rfl, ii_X7, ⟨by decide +kernel, by decide +kernel, by decide +kernel⟩, by decide +kernel⟩
theorem cf_X7_dies : CF mX7_dies 1 := ⟨gw_of (List.mem_append_right _ (List.mem_of_getElem? (i := 1003) (by decide +kernel))) rfl, ii_X7, ⟨by decide +kernel, by decide +kernel, by decide +kernel⟩, by decide +kernel⟩
theorem cf_X7_digests : CF mX7_digests 1 := ⟨gw_of (List.mem_append_right _ (List.mem_of_getElem? (i := 968) (by decide +kernel))) rfl, ii_X7, ⟨by decide +kernel, by decide +kernel, by decide +kernel⟩, by decide +kernel⟩
theorem cf_X7_draw : CF mX7_draw 0 := ⟨gw_of (List.mem_append_right _ (List.mem_of_getElem? (i := 1148) (by decide +kernel))) rfl, ii_X7, ⟨by decide +kernel, by decide +kernel, by decide +kernel⟩, by decide +kernel⟩
theorem cf_X7_fast : CF mX7_fast 1 := ⟨gw_of (List.mem_append_right _ (List.mem_of_getElem? (i := 1103) (by decide +kernel))) rfl, ii_X7, ⟨by decide +kernel, by decide +kernel, by decide +kernel⟩, by decide +kernel⟩
theorem cf_X7_feed : CF mX7_feed 2 := ⟨gw_of (List.mem_append_right _ (List.mem_of_getElem? (i := 1161) (by decide +kernel))) rfl, ii_X7, ⟨by decide +kernel, by decide +kernel, by decide +kernel⟩, by decide +kernel⟩
theorem cf_X7_finds : CF mX7_finds 1 := ⟨gw_of (List.mem_append_right _ (List.mem_of_getElem? (i := 908) (by decide +kernel))) rfl, ii_X7, ⟨by decide +kernel, by decide +kernel, by decide +kernel⟩, by decide +kernel⟩
theorem cf_X7_firstOf : CF mX7_firstOf 3 := ⟨gw_of (List.mem_append_right _ (List.mem_of_getElem? (i := 1057) (by decide +kernel))) rfl, ii_X7, ⟨by decide +kernel, by decide +kernel, by decide +kernel⟩, by decide +kernel⟩
theorem cf_X7_fits : CF mX7_fits 2 := ⟨gw_of (List.mem_append_right _ (List.mem_of_getElem? (i := 1112) (by decide +kernel))) rfl, ii_X7, ⟨by decide +kernel, by decide +kernel, by decide +kernel⟩, by decide +kernel⟩
theorem cf_X7_fullest : CF mX7_fullest 0 := ⟨gw_of (List.mem_append_right _ (List.mem_of_getElem? (i := 1041) (by decide +kernel))) rfl, ii_X7, ⟨by decide +kernel, by decide +kernel, by decide +kernel⟩, by decide +kernel⟩
theorem cf_X7_go : CF mX7_go 1 := ⟨gw_of (List.mem_append_right _ (List.mem_of_getElem? (i := 1007) (by decide +kernel))) rfl, ii_X7, ⟨by decide +kernel, by decide +kernel, by decide +kernel⟩, by decide +kernel⟩
theorem cf_X7_goes : CF mX7_goes 1 := ⟨gw_of (List.mem_append_right _ (List.mem_of_getElem? (i := 991) (by decide +kernel))) rfl, ii_X7, ⟨by decide +kernel, by decide +kernel, by decide +kernel⟩, by decide +kernel⟩
theorem cf_X7_held : CF mX7_held 3 := ⟨gw_of (List.mem_append_right _ (List.mem_of_getElem? (i := 960) (by decide +kernel))) rfl, ii_X7, ⟨by decide +kernel, by decide +kernel, by decide +kernel⟩, by decide +kernel⟩
theorem cf_X7_hold : CF mX7_hold 2 := ⟨gw_of (List.mem_append_right _ (List.mem_of_getElem? (i := 1242) (by decide +kernel))) rfl, ii_X7, ⟨by decide +kernel, by decide +kernel, by decide +kernel⟩, by decide +kernel⟩
theorem cf_X7_holding : CF mX7_holding 0 := ⟨gw_of (List.mem_append_right _ (List.mem_of_getElem? (i := 1290) (by decide +kernel))) rfl, ii_X7, ⟨by decide +kernel, by decide +kernel, by decide +kernel⟩, by decide +kernel⟩
theorem cf_X7_holds : CF mX7_holds 1 := ⟨gw_of (List.mem_append_right _ (List.mem_of_getElem? (i := 950) (by decide +kernel))) rfl, ii_X7, ⟨by decide +kernel, by decide +kernel, by decide +kernel⟩, by decide +kernel⟩
theorem cf_X7_ill : CF mX7_ill 1 := ⟨gw_of (List.mem_append_right _ (List.mem_of_getElem? (i := 1053) (by decide +kernel))) rfl, ii_X7, ⟨by decide +kernel, by decide +kernel, by decide +kernel⟩, by decide +kernel⟩
theorem cf_X7_illBehind : CF mX7_illBehind 1 := ⟨gw_of (List.mem_append_right _ (List.mem_of_getElem? (i := 1082) (by decide +kernel))) rfl, ii_X7, ⟨by decide +kernel, by decide +kernel, by decide +kernel⟩, by decide +kernel⟩
theorem cf_X7_image : CF mX7_image 0 := ⟨gw_of (List.mem_append_right _ (List.mem_of_getElem? (i := 1274) (by decide +kernel))) rfl, ii_X7, ⟨by decide +kernel, by decide +kernel, by decide +kernel⟩, by decide +kernel⟩
theorem cf_X7_in : CF mX7_in 3 := ⟨gw_of (List.mem_append_right _ (List.mem_of_getElem? (i := 896) (by decide +kernel))) rfl, ii_X7, ⟨by decide +kernel, by decide +kernel, by decide +kernel⟩, by decide +kernel⟩
theorem cf_X7_init : CF mX7_init 0 := ⟨gw_of (List.mem_append_right _ (List.mem_of_getElem? (i := 835) (by decide +kernel))) rfl, ii_X7, ⟨by decide +kernel, by decide +kernel, by decide +kernel⟩, by decide +kernel⟩
theorem cf_X7_isConfession : CF mX7_isConfession 1 := ⟨gw_of (List.mem_append_right _ (List.mem_of_getElem? (i := 920) (by decide +kernel))) rfl, ii_X7, ⟨by decide +kernel, by decide +kernel, by decide +kernel⟩, by decide +kernel⟩
theorem cf_X7_isDigit : CF mX7_isDigit 1 := ⟨gw_of (List.mem_append_right _ (List.mem_of_getElem? (i := 1190) (by decide +kernel))) rfl, ii_X7, ⟨by decide +kernel, by decide +kernel, by decide +kernel⟩, by decide +kernel⟩
theorem cf_X7_isOf : CF mX7_isOf 3 := ⟨gw_of (List.mem_append_right _ (List.mem_of_getElem? (i := 1128) (by decide +kernel))) rfl, ii_X7, ⟨by decide +kernel, by decide +kernel, by decide +kernel⟩, by decide +kernel⟩
theorem cf_X7_isPlace : CF mX7_isPlace 1 := ⟨gw_of (List.mem_append_right _ (List.mem_of_getElem? (i := 916) (by decide +kernel))) rfl, ii_X7, ⟨by decide +kernel, by decide +kernel, by decide +kernel⟩, by decide +kernel⟩
theorem cf_X7_isPriest : CF mX7_isPriest 1 := ⟨gw_of (List.mem_append_right _ (List.mem_of_getElem? (i := 946) (by decide +kernel))) rfl, ii_X7, ⟨by decide +kernel, by decide +kernel, by decide +kernel⟩, by decide +kernel⟩
theorem cf_X7_isSheet : CF mX7_isSheet 1 := ⟨gw_of (List.mem_append_right _ (List.mem_of_getElem? (i := 1123) (by decide +kernel))) rfl, ii_X7, ⟨by decide +kernel, by decide +kernel, by decide +kernel⟩, by decide +kernel⟩
theorem cf_X7_isShort : CF mX7_isShort 1 := ⟨gw_of (List.mem_append_right _ (List.mem_of_getElem? (i := 1078) (by decide +kernel))) rfl, ii_X7, ⟨by decide +kernel, by decide +kernel, by decide +kernel⟩, by decide +kernel⟩
theorem cf_X7_isSin : CF mX7_isSin 1 := ⟨gw_of (List.mem_append_right _ (List.mem_of_getElem? (i := 994) (by decide +kernel))) rfl, ii_X7, ⟨by decide +kernel, by decide +kernel, by decide +kernel⟩, by decide +kernel⟩
theorem cf_X7_isTold : CF mX7_isTold 2 := ⟨gw_of (List.mem_append_right _ (List.mem_of_getElem? (i := 1132) (by decide +kernel))) rfl, ii_X7, ⟨by decide +kernel, by decide +kernel, by decide +kernel⟩, by decide +kernel⟩
theorem cf_X7_isWord : CF mX7_isWord 1 := ⟨gw_of (List.mem_append_right _ (List.mem_of_getElem? (i := 1206) (by decide +kernel))) rfl, ii_X7, ⟨by decide +kernel, by decide +kernel, by decide +kernel⟩, by decide +kernel⟩
theorem cf_X7_item : CF mX7_item 0 := ⟨gw_of (List.mem_append_right _ (List.mem_of_getElem? (i := 1197) (by decide +kernel))) rfl, ii_X7, ⟨by decide +kernel, by decide +kernel, by decide +kernel⟩, by decide +kernel⟩
theorem cf_X7_items : CF mX7_items 0 := ⟨gw_of (List.mem_append_right _ (List.mem_of_getElem? (i := 1174) (by decide +kernel))) rfl, ii_X7, ⟨by decide +kernel, by decide +kernel, by decide +kernel⟩, by decide +kernel⟩
theorem cf_X7_its : CF mX7_its 2 := ⟨gw_of (List.mem_append_right _ (List.mem_of_getElem? (i := 954) (by decide +kernel))) rfl, ii_X7, ⟨by decide +kernel, by decide +kernel, by decide +kernel⟩, by decide +kernel⟩
theorem cf_X7_judge : CF mX7_judge 1 := ⟨gw_of (List.mem_append_right _ (List.mem_of_getElem? (i := 1270) (by decide +kernel))) rfl, ii_X7, ⟨by decide +kernel, by decide +kernel, by decide +kernel⟩, by decide +kernel⟩
theorem cf_X7_keeps : CF mX7_keeps 1 := ⟨gw_of (List.mem_append_right _ (List.mem_of_getElem? (i := 972) (by decide +kernel))) rfl, ii_X7, ⟨by decide +kernel, by decide +kernel, by decide +kernel⟩, by decide +kernel⟩
theorem cf_X7_kindFor : CF mX7_kindFor 2 := ⟨gw_of (List.mem_append_right _ (List.mem_of_getElem? (i := 1098) (by decide +kernel))) rfl, ii_X7, ⟨by decide +kernel, by decide +kernel, by decide +kernel⟩, by decide +kernel⟩
theorem cf_X7_kindHere : CF mX7_kindHere 0 := ⟨gw_of (List.mem_append_right _ (List.mem_of_getElem? (i := 1201) (by decide +kernel))) rfl, ii_X7, ⟨by decide +kernel, by decide +kernel, by decide +kernel⟩, by decide +kernel⟩
theorem cf_X7_kinds : CF mX7_kinds 2 := ⟨gw_of (List.mem_append_right _ (List.mem_of_getElem? (i := 1140) (by decide +kernel))) rfl, ii_X7, ⟨by decide +kernel, by decide +kernel, by decide +kernel⟩, by decide +kernel⟩
theorem cf_X7_letter : CF mX7_letter 1 := ⟨gw_of (List.mem_append_right _ (List.mem_of_getElem? (i := 1185) (by decide +kernel))) rfl, ii_X7, ⟨by decide +kernel, by decide +kernel, by decide +kernel⟩, by decide +kernel⟩
theorem cf_X7_list : CF mX7_list 2 := ⟨gw_of (List.mem_append_right _ (List.mem_of_getElem? (i := 913) (by decide +kernel))) rfl, ii_X7, ⟨by decide +kernel, by decide +kernel, by decide +kernel⟩, by decide +kernel⟩
theorem cf_X7_listed : CF mX7_listed 1 := ⟨gw_of (List.mem_append_right _ (List.mem_of_getElem? (i := 925) (by decide +kernel))) rfl, ii_X7, ⟨by decide +kernel, by decide +kernel, by decide +kernel⟩, by decide +kernel⟩
theorem cf_X7_load : CF mX7_load 1 := ⟨gw_of (List.mem_append_right _ (List.mem_of_getElem? (i := 1266) (by decide +kernel))) rfl, ii_X7, ⟨by decide +kernel, by decide +kernel, by decide +kernel⟩, by decide +kernel⟩
theorem cf_X7_mostOf : CF mX7_mostOf 1 := ⟨gw_of (List.mem_append_right _ (List.mem_of_getElem? (i := 979) (by decide +kernel))) rfl, ii_X7, ⟨by decide +kernel, by decide +kernel, by decide +kernel⟩, by decide +kernel⟩
theorem cf_X7_next : CF mX7_next 0 := ⟨gw_of (List.mem_append_right _ (List.mem_of_getElem? (i := 1178) (by decide +kernel))) rfl, ii_X7, ⟨by decide +kernel, by decide +kernel, by decide +kernel⟩, by decide +kernel⟩
theorem cf_X7_now : CF mX7_now 1 := ⟨gw_of (List.mem_append_right _ (List.mem_of_getElem? (i := 1029) (by decide +kernel))) rfl, ii_X7, ⟨by decide +kernel, by decide +kernel, by decide +kernel⟩, by decide +kernel⟩
theorem cf_X7_numberHere : CF mX7_numberHere 1 := ⟨gw_of (List.mem_append_right _ (List.mem_of_getElem? (i := 1229) (by decide +kernel))) rfl, ii_X7, ⟨by decide +kernel, by decide +kernel, by decide +kernel⟩, by decide +kernel⟩
theorem cf_X7_odds : CF mX7_odds 3 := ⟨gw_of (List.mem_append_right _ (List.mem_of_getElem? (i := 1153) (by decide +kernel))) rfl, ii_X7, ⟨by decide +kernel, by decide +kernel, by decide +kernel⟩, by decide +kernel⟩
theorem cf_X7_of : CF mX7_of 2 := ⟨gw_of (List.mem_append_right _ (List.mem_of_getElem? (i := 942) (by decide +kernel))) rfl, ii_X7, ⟨by decide +kernel, by decide +kernel, by decide +kernel⟩, by decide +kernel⟩
theorem cf_X7_ones : CF mX7_ones 1 := ⟨gw_of (List.mem_append_right _ (List.mem_of_getElem? (i := 957) (by decide +kernel))) rfl, ii_X7, ⟨by decide +kernel, by decide +kernel, by decide +kernel⟩, by decide +kernel⟩
theorem cf_X7_out : CF mX7_out 1 := ⟨gw_of (List.mem_append_right _ (List.mem_of_getElem? (i := 1061) (by decide +kernel))) rfl, ii_X7, ⟨by decide +kernel, by decide +kernel, by decide +kernel⟩, by decide +kernel⟩
theorem cf_X7_perhaps : CF mX7_perhaps 3 := ⟨gw_of (List.mem_append_right _ (List.mem_of_getElem? (i := 1225) (by decide +kernel))) rfl, ii_X7, ⟨by decide +kernel, by decide +kernel, by decide +kernel⟩, by decide +kernel⟩
theorem cf_X7_priest : CF mX7_priest 2 := ⟨gw_of (List.mem_append_right _ (List.mem_of_getElem? (i := 929) (by decide +kernel))) rfl, ii_X7, ⟨by decide +kernel, by decide +kernel, by decide +kernel⟩, by decide +kernel⟩
theorem cf_X7_priestHere : CF mX7_priestHere 1 := ⟨gw_of (List.mem_append_right _ (List.mem_of_getElem? (i := 1216) (by decide +kernel))) rfl, ii_X7, ⟨by decide +kernel, by decide +kernel, by decide +kernel⟩, by decide +kernel⟩
theorem cf_X7_room : CF mX7_room 1 := ⟨gw_of (List.mem_append_right _ (List.mem_of_getElem? (i := 964) (by decide +kernel))) rfl, ii_X7, ⟨by decide +kernel, by decide +kernel, by decide +kernel⟩, by decide +kernel⟩
theorem cf_X7_roomiest : CF mX7_roomiest 2 := ⟨gw_of (List.mem_append_right _ (List.mem_of_getElem? (i := 999) (by decide +kernel))) rfl, ii_X7, ⟨by decide +kernel, by decide +kernel, by decide +kernel⟩, by decide +kernel⟩
theorem cf_X7_seed : CF mX7_seed 1 := ⟨gw_of (List.mem_append_right _ (List.mem_of_getElem? (i := 1157) (by decide +kernel))) rfl, ii_X7, ⟨by decide +kernel, by decide +kernel, by decide +kernel⟩, by decide +kernel⟩
theorem cf_X7_set : CF mX7_set 2 := ⟨gw_of (List.mem_append_right _ (List.mem_of_getElem? (i := 892) (by decide +kernel))) rfl, ii_X7, ⟨by decide +kernel, by decide +kernel, by decide +kernel⟩, by decide +kernel⟩
theorem cf_X7_sets : CF mX7_sets 3 := ⟨gw_of (List.mem_append_right _ (List.mem_of_getElem? (i := 938) (by decide +kernel))) rfl, ii_X7, ⟨by decide +kernel, by decide +kernel, by decide +kernel⟩, by decide +kernel⟩
theorem cf_X7_sheet : CF mX7_sheet 3 := ⟨gw_of (List.mem_append_right _ (List.mem_of_getElem? (i := 1254) (by decide +kernel))) rfl, ii_X7, ⟨by decide +kernel, by decide +kernel, by decide +kernel⟩, by decide +kernel⟩
theorem cf_X7_spare : CF mX7_spare 2 := ⟨gw_of (List.mem_append_right _ (List.mem_of_getElem? (i := 1094) (by decide +kernel))) rfl, ii_X7, ⟨by decide +kernel, by decide +kernel, by decide +kernel⟩, by decide +kernel⟩
theorem cf_X7_status : CF mX7_status 1 := ⟨gw_of (List.mem_append_right _ (List.mem_of_getElem? (i := 1294) (by decide +kernel))) rfl, ii_X7, ⟨by decide +kernel, by decide +kernel, by decide +kernel⟩, by decide +kernel⟩
theorem cf_X7_sumOf : CF mX7_sumOf 1 := ⟨gw_of (List.mem_append_right _ (List.mem_of_getElem? (i := 1037) (by decide +kernel))) rfl, ii_X7, ⟨by decide +kernel, by decide +kernel, by decide +kernel⟩, by decide +kernel⟩
theorem cf_X7_swells : CF mX7_swells 2 := ⟨gw_of (List.mem_append_right _ (List.mem_of_getElem? (i := 983) (by decide +kernel))) rfl, ii_X7, ⟨by decide +kernel, by decide +kernel, by decide +kernel⟩, by decide +kernel⟩
theorem cf_X7_swellsBy : CF mX7_swellsBy 3 := ⟨gw_of (List.mem_append_right _ (List.mem_of_getElem? (i := 987) (by decide +kernel))) rfl, ii_X7, ⟨by decide +kernel, by decide +kernel, by decide +kernel⟩, by decide +kernel⟩
theorem cf_X7_tear : CF mX7_tear 0 := ⟨gw_of (List.mem_append_right _ (List.mem_of_getElem? (i := 1282) (by decide +kernel))) rfl, ii_X7, ⟨by decide +kernel, by decide +kernel, by decide +kernel⟩, by decide +kernel⟩
theorem cf_X7_text : CF mX7_text 0 := ⟨gw_of (List.mem_append_right _ (List.mem_of_getElem? (i := 1170) (by decide +kernel))) rfl, ii_X7, ⟨by decide +kernel, by decide +kernel, by decide +kernel⟩, by decide +kernel⟩
theorem cf_X7_todays : CF mX7_todays 0 := ⟨gw_of (List.mem_append_right _ (List.mem_of_getElem? (i := 1021) (by decide +kernel))) rfl, ii_X7, ⟨by decide +kernel, by decide +kernel, by decide +kernel⟩, by decide +kernel⟩
theorem cf_X7_together : CF mX7_together 1 := ⟨gw_of (List.mem_append_right _ (List.mem_of_getElem? (i := 1033) (by decide +kernel))) rfl, ii_X7, ⟨by decide +kernel, by decide +kernel, by decide +kernel⟩, by decide +kernel⟩
theorem cf_X7_toldHere : CF mX7_toldHere 0 := ⟨gw_of (List.mem_append_right _ (List.mem_of_getElem? (i := 1236) (by decide +kernel))) rfl, ii_X7, ⟨by decide +kernel, by decide +kernel, by decide +kernel⟩, by decide +kernel⟩
theorem cf_X7_undo : CF mX7_undo 0 := ⟨gw_of (List.mem_append_right _ (List.mem_of_getElem? (i := 1278) (by decide +kernel))) rfl, ii_X7, ⟨by decide +kernel, by decide +kernel, by decide +kernel⟩, by decide +kernel⟩
theorem cf_X7_waterFor : CF mX7_waterFor 1 := ⟨gw_of (List.mem_append_right _ (List.mem_of_getElem? (i := 1086) (by decide +kernel))) rfl, ii_X7, ⟨by decide +kernel, by decide +kernel, by decide +kernel⟩, by decide +kernel⟩
theorem cf_X7_when : CF mX7_when 2 := ⟨gw_of (List.mem_append_right _ (List.mem_of_getElem? (i := 1070) (by decide +kernel))) rfl, ii_X7, ⟨by decide +kernel, by decide +kernel, by decide +kernel⟩, by decide +kernel⟩
theorem cf_X7_whyNone : CF mX7_whyNone 1 := ⟨gw_of (List.mem_append_right _ (List.mem_of_getElem? (i := 1120) (by decide +kernel))) rfl, ii_X7, ⟨by decide +kernel, by decide +kernel, by decide +kernel⟩, by decide +kernel⟩
theorem cf_X7_whyNot : CF mX7_whyNot 2 := ⟨gw_of (List.mem_append_right _ (List.mem_of_getElem? (i := 1116) (by decide +kernel))) rfl, ii_X7, ⟨by decide +kernel, by decide +kernel, by decide +kernel⟩, by decide +kernel⟩
theorem cf_X7_wipe : CF mX7_wipe 0 := ⟨gw_of (List.mem_append_right _ (List.mem_of_getElem? (i := 1166) (by decide +kernel))) rfl, ii_X7, ⟨by decide +kernel, by decide +kernel, by decide +kernel⟩, by decide +kernel⟩
theorem cf_X7_wise : CF mX7_wise 2 := ⟨gw_of (List.mem_append_right _ (List.mem_of_getElem? (i := 1065) (by decide +kernel))) rfl, ii_X7, ⟨by decide +kernel, by decide +kernel, by decide +kernel⟩, by decide +kernel⟩
theorem cf_X7_words : CF mX7_words 2 := ⟨gw_of (List.mem_append_right _ (List.mem_of_getElem? (i := 1136) (by decide +kernel))) rfl, ii_X7, ⟨by decide +kernel, by decide +kernel, by decide +kernel⟩, by decide +kernel⟩
theorem cf_X7_wordsFor : CF mX7_wordsFor 2 := ⟨gw_of (List.mem_append_right _ (List.mem_of_getElem? (i := 1075) (by decide +kernel))) rfl, ii_X7, ⟨by decide +kernel, by decide +kernel, by decide +kernel⟩, by decide +kernel⟩
theorem cf_X7_write : CF mX7_write 3 := ⟨gw_of (List.mem_append_right _ (List.mem_of_getElem? (i := 1258) (by decide +kernel))) rfl, ii_X7, ⟨by decide +kernel, by decide +kernel, by decide +kernel⟩, by decide +kernel⟩
theorem cf_X7_wrongHere : CF mX7_wrongHere 0 := ⟨gw_of (List.mem_append_right _ (List.mem_of_getElem? (i := 1220) (by decide +kernel))) rfl, ii_X7, ⟨by decide +kernel, by decide +kernel, by decide +kernel⟩, by decide +kernel⟩
theorem lk_L_9 : Cond.methodLink RL 9 yX6_init ∈ GW := gw_of (List.mem_append_right _ (List.mem_of_getElem? (i := 19) (by decide +kernel))) rfl
theorem in_X6_init : Cond.instanceMethod yX6_init ∈ GW := gw_of (List.mem_append_right _ (List.mem_of_getElem? (i := 20) (by decide +kernel))) rfl
theorem lo_X6_3 : Cond.methodLink RX6 3 objectInit ∈ GW := gw_of (List.mem_append_right _ (List.mem_of_getElem? (i := 22) (by decide +kernel))) rfl
theorem lk_X6_11 : Cond.methodLink RX6 11 yX0_init ∈ GW := gw_of (List.mem_append_right _ (List.mem_of_getElem? (i := 27) (by decide +kernel))) rfl
theorem in_X0_init : Cond.instanceMethod yX0_init ∈ GW := gw_of (List.mem_append_right _ (List.mem_of_getElem? (i := 28) (by decide +kernel))) rfl
theorem lo_X0_3 : Cond.methodLink RX0 3 objectInit ∈ GW := gw_of (List.mem_append_right _ (List.mem_of_getElem? (i := 30) (by decide +kernel))) rfl
theorem ln_X0_43 : Cond.methodLinkNest RX0 43 yX1_init RX6 ∈ NL := nl_of (List.mem_append_right _ (List.mem_of_getElem? (i := 34) (by decide +kernel))) rfl
theorem in_X1_init : Cond.instanceMethod yX1_init ∈ GW := gw_of (List.mem_append_right _ (List.mem_of_getElem? (i := 35) (by decide +kernel))) rfl
theorem lo_X1_5 : Cond.methodLink RX1 5 objectInit ∈ GW := gw_of (List.mem_append_right _ (List.mem_of_getElem? (i := 37) (by decide +kernel))) rfl
theorem ln_X6_25 : Cond.methodLinkNest RX6 25 yX3_init RX6 ∈ NL := nl_of (List.mem_append_right _ (List.mem_of_getElem? (i := 116) (by decide +kernel))) rfl
theorem in_X3_init : Cond.instanceMethod yX3_init ∈ GW := gw_of (List.mem_append_right _ (List.mem_of_getElem? (i := 117) (by decide +kernel))) rfl
theorem lo_X3_3 : Cond.methodLink RX3 3 objectInit ∈ GW := gw_of (List.mem_append_right _ (List.mem_of_getElem? (i := 119) (by decide +kernel))) rfl
theorem lk_X3_11 : Cond.methodLink RX3 11 yX0_init ∈ GW := gw_of (List.mem_append_right _ (List.mem_of_getElem? (i := 121) (by decide +kernel))) rfl
theorem ln_X6_32 : Cond.methodLinkNest RX6 32 yX2_init RX6 ∈ NL := nl_of (List.mem_append_right _ (List.mem_of_getElem? (i := 129) (by decide +kernel))) rfl
theorem in_X2_init : Cond.instanceMethod yX2_init ∈ GW := gw_of (List.mem_append_right _ (List.mem_of_getElem? (i := 130) (by decide +kernel))) rfl
theorem lo_X2_3 : Cond.methodLink RX2 3 objectInit ∈ GW := gw_of (List.mem_append_right _ (List.mem_of_getElem? (i := 132) (by decide +kernel))) rfl
theorem ln_X2_11 : Cond.methodLinkNest RX2 11 yX5_init RX6 ∈ NL := nl_of (List.mem_append_right _ (List.mem_of_getElem? (i := 135) (by decide +kernel))) rfl
theorem in_X5_init : Cond.instanceMethod yX5_init ∈ GW := gw_of (List.mem_append_right _ (List.mem_of_getElem? (i := 136) (by decide +kernel))) rfl
theorem lo_X5_3 : Cond.methodLink RX5 3 objectInit ∈ GW := gw_of (List.mem_append_right _ (List.mem_of_getElem? (i := 138) (by decide +kernel))) rfl
theorem ln_X6_47 : Cond.methodLinkNest RX6 47 yX4_init RX6 ∈ NL := nl_of (List.mem_append_right _ (List.mem_of_getElem? (i := 171) (by decide +kernel))) rfl
theorem in_X4_init : Cond.instanceMethod yX4_init ∈ GW := gw_of (List.mem_append_right _ (List.mem_of_getElem? (i := 172) (by decide +kernel))) rfl
theorem lo_X4_3 : Cond.methodLink RX4 3 objectInit ∈ GW := gw_of (List.mem_append_right _ (List.mem_of_getElem? (i := 174) (by decide +kernel))) rfl
theorem lk_L_13 : Cond.methodLink RL 13 yX6_set ∈ GW := gw_of (List.mem_append_right _ (List.mem_of_getElem? (i := 212) (by decide +kernel))) rfl
theorem in_X6_set : Cond.instanceMethod yX6_set ∈ GW := gw_of (List.mem_append_right _ (List.mem_of_getElem? (i := 213) (by decide +kernel))) rfl
theorem se_X6_set : Cond.selects yX6_set.cls yX6_set yX6_set ∈ GW := gw_of (List.mem_append_right _ (List.mem_of_getElem? (i := 214) (by decide +kernel))) rfl
theorem lk_X6_48 : Cond.methodLink RX6 48 yX6_within ∈ GW := gw_of (List.mem_append_right _ (List.mem_of_getElem? (i := 216) (by decide +kernel))) rfl
theorem st_X6_within : Cond.static yX6_within ∈ GW := gw_of (List.mem_append_right _ (List.mem_of_getElem? (i := 217) (by decide +kernel))) rfl
theorem kc_X6_59 : Cond.constant RX6 59 (-1000001) ∈ GW := gw_of (List.mem_append_right _ (List.mem_of_getElem? (i := 219) (by decide +kernel))) rfl
theorem lk_X6_60 : Cond.methodLink RX6 60 yX6_tell ∈ GW := gw_of (List.mem_append_right _ (List.mem_of_getElem? (i := 220) (by decide +kernel))) rfl
theorem in_X6_tell : Cond.instanceMethod yX6_tell ∈ GW := gw_of (List.mem_append_right _ (List.mem_of_getElem? (i := 222) (by decide +kernel))) rfl
theorem lk_L_18 : Cond.methodLink RL 18 yX6_list ∈ GW := gw_of (List.mem_append_right _ (List.mem_of_getElem? (i := 224) (by decide +kernel))) rfl
theorem in_X6_list : Cond.instanceMethod yX6_list ∈ GW := gw_of (List.mem_append_right _ (List.mem_of_getElem? (i := 225) (by decide +kernel))) rfl
theorem se_X6_list : Cond.selects yX6_list.cls yX6_list yX6_list ∈ GW := gw_of (List.mem_append_right _ (List.mem_of_getElem? (i := 226) (by decide +kernel))) rfl
theorem lk_X6_64 : Cond.methodLink RX6 64 yX6_isConfession ∈ GW := gw_of (List.mem_append_right _ (List.mem_of_getElem? (i := 228) (by decide +kernel))) rfl
theorem st_X6_isConfession : Cond.static yX6_isConfession ∈ GW := gw_of (List.mem_append_right _ (List.mem_of_getElem? (i := 229) (by decide +kernel))) rfl
theorem lk_X6_96 : Cond.methodLink RX6 96 yX6_sinOf ∈ GW := gw_of (List.mem_append_right _ (List.mem_of_getElem? (i := 231) (by decide +kernel))) rfl
theorem st_X6_sinOf : Cond.static yX6_sinOf ∈ GW := gw_of (List.mem_append_right _ (List.mem_of_getElem? (i := 232) (by decide +kernel))) rfl
theorem lk_X6_99 : Cond.methodLink RX6 99 yX6_wordsOf ∈ GW := gw_of (List.mem_append_right _ (List.mem_of_getElem? (i := 234) (by decide +kernel))) rfl
theorem st_X6_wordsOf : Cond.static yX6_wordsOf ∈ GW := gw_of (List.mem_append_right _ (List.mem_of_getElem? (i := 235) (by decide +kernel))) rfl
theorem lk_L_22 : Cond.methodLink RL 22 yX6_listed ∈ GW := gw_of (List.mem_append_right _ (List.mem_of_getElem? (i := 237) (by decide +kernel))) rfl
theorem in_X6_listed : Cond.instanceMethod yX6_listed ∈ GW := gw_of (List.mem_append_right _ (List.mem_of_getElem? (i := 238) (by decide +kernel))) rfl
theorem se_X6_listed : Cond.selects yX6_listed.cls yX6_listed yX6_listed ∈ GW := gw_of (List.mem_append_right _ (List.mem_of_getElem? (i := 239) (by decide +kernel))) rfl
theorem lk_L_27 : Cond.methodLink RL 27 yX6_priest ∈ GW := gw_of (List.mem_append_right _ (List.mem_of_getElem? (i := 241) (by decide +kernel))) rfl
theorem in_X6_priest : Cond.instanceMethod yX6_priest ∈ GW := gw_of (List.mem_append_right _ (List.mem_of_getElem? (i := 242) (by decide +kernel))) rfl
theorem se_X6_priest : Cond.selects yX6_priest.cls yX6_priest yX6_priest ∈ GW := gw_of (List.mem_append_right _ (List.mem_of_getElem? (i := 243) (by decide +kernel))) rfl
theorem lk_X6_71 : Cond.methodLink RX6 71 yX1_isKind ∈ GW := gw_of (List.mem_append_right _ (List.mem_of_getElem? (i := 245) (by decide +kernel))) rfl
theorem st_X1_isKind : Cond.static yX1_isKind ∈ GW := gw_of (List.mem_append_right _ (List.mem_of_getElem? (i := 246) (by decide +kernel))) rfl
theorem ln_X1_11 : Cond.methodLinkNest RX1 11 yX6_within RX6 ∈ NL := nl_of (List.mem_append_right _ (List.mem_of_getElem? (i := 248) (by decide +kernel))) rfl
theorem lk_X6_76 : Cond.methodLink RX6 76 yX0_welcome ∈ GW := gw_of (List.mem_append_right _ (List.mem_of_getElem? (i := 249) (by decide +kernel))) rfl
theorem in_X0_welcome : Cond.instanceMethod yX0_welcome ∈ GW := gw_of (List.mem_append_right _ (List.mem_of_getElem? (i := 250) (by decide +kernel))) rfl
theorem se_X0_welcome : Cond.selects yX0_welcome.cls yX0_welcome yX0_welcome ∈ GW := gw_of (List.mem_append_right _ (List.mem_of_getElem? (i := 251) (by decide +kernel))) rfl
theorem lk_X0_50 : Cond.methodLink RX0 50 yX0_at ∈ GW := gw_of (List.mem_append_right _ (List.mem_of_getElem? (i := 253) (by decide +kernel))) rfl
theorem in_X0_at : Cond.instanceMethod yX0_at ∈ GW := gw_of (List.mem_append_right _ (List.mem_of_getElem? (i := 254) (by decide +kernel))) rfl
theorem se_X0_at : Cond.selects yX0_at.cls yX0_at yX0_at ∈ GW := gw_of (List.mem_append_right _ (List.mem_of_getElem? (i := 255) (by decide +kernel))) rfl
theorem lk_X0_58 : Cond.methodLink RX0 58 yX1_begin ∈ GW := gw_of (List.mem_append_right _ (List.mem_of_getElem? (i := 257) (by decide +kernel))) rfl
theorem in_X1_begin : Cond.instanceMethod yX1_begin ∈ GW := gw_of (List.mem_append_right _ (List.mem_of_getElem? (i := 258) (by decide +kernel))) rfl
theorem se_X1_begin : Cond.selects yX1_begin.cls yX1_begin yX1_begin ∈ GW := gw_of (List.mem_append_right _ (List.mem_of_getElem? (i := 259) (by decide +kernel))) rfl
theorem kc_X6_80 : Cond.constant RX6 80 (-1000002) ∈ GW := gw_of (List.mem_append_right _ (List.mem_of_getElem? (i := 261) (by decide +kernel))) rfl
theorem lk_L_31 : Cond.methodLink RL 31 yX6_of ∈ GW := gw_of (List.mem_append_right _ (List.mem_of_getElem? (i := 262) (by decide +kernel))) rfl
theorem in_X6_of : Cond.instanceMethod yX6_of ∈ GW := gw_of (List.mem_append_right _ (List.mem_of_getElem? (i := 263) (by decide +kernel))) rfl
theorem se_X6_of : Cond.selects yX6_of.cls yX6_of yX6_of ∈ GW := gw_of (List.mem_append_right _ (List.mem_of_getElem? (i := 264) (by decide +kernel))) rfl
theorem lk_X6_81 : Cond.methodLink RX6 81 yX0_at ∈ GW := gw_of (List.mem_append_right _ (List.mem_of_getElem? (i := 266) (by decide +kernel))) rfl
theorem lk_X6_85 : Cond.methodLink RX6 85 yX0_tellOf ∈ GW := gw_of (List.mem_append_right _ (List.mem_of_getElem? (i := 267) (by decide +kernel))) rfl
theorem in_X0_tellOf : Cond.instanceMethod yX0_tellOf ∈ GW := gw_of (List.mem_append_right _ (List.mem_of_getElem? (i := 268) (by decide +kernel))) rfl
theorem se_X0_tellOf : Cond.selects yX0_tellOf.cls yX0_tellOf yX0_tellOf ∈ GW := gw_of (List.mem_append_right _ (List.mem_of_getElem? (i := 269) (by decide +kernel))) rfl
theorem lk_X0_80 : Cond.methodLink RX0 80 yX1_holding ∈ GW := gw_of (List.mem_append_right _ (List.mem_of_getElem? (i := 271) (by decide +kernel))) rfl
theorem in_X1_holding : Cond.instanceMethod yX1_holding ∈ GW := gw_of (List.mem_append_right _ (List.mem_of_getElem? (i := 272) (by decide +kernel))) rfl
theorem se_X1_holding : Cond.selects yX1_holding.cls yX1_holding yX1_holding ∈ GW := gw_of (List.mem_append_right _ (List.mem_of_getElem? (i := 273) (by decide +kernel))) rfl
theorem lk_X1_42 : Cond.methodLink RX1 42 yJ6_bitCount_0f7a4 ∈ GW := gw_of (List.mem_append_right _ (List.mem_of_getElem? (i := 275) (by decide +kernel))) rfl
theorem st_J6_bitCount_0f7a4 : Cond.static yJ6_bitCount_0f7a4 ∈ GW := gw_of (List.mem_append_right _ (List.mem_of_getElem? (i := 276) (by decide +kernel))) rfl
theorem kc_J6_265 : Cond.constant RJ6 265 (1431655765) ∈ GW := gw_of (List.mem_append_right _ (List.mem_of_getElem? (i := 278) (by decide +kernel))) rfl
theorem kc_J6_266 : Cond.constant RJ6 266 (858993459) ∈ GW := gw_of (List.mem_append_right _ (List.mem_of_getElem? (i := 279) (by decide +kernel))) rfl
theorem kc_J6_267 : Cond.constant RJ6 267 (252645135) ∈ GW := gw_of (List.mem_append_right _ (List.mem_of_getElem? (i := 280) (by decide +kernel))) rfl
theorem lk_X1_48 : Cond.methodLink RX1 48 yJ9_min_7cf53 ∈ GW := gw_of (List.mem_append_right _ (List.mem_of_getElem? (i := 281) (by decide +kernel))) rfl
theorem st_J9_min_7cf53 : Cond.static yJ9_min_7cf53 ∈ GW := gw_of (List.mem_append_right _ (List.mem_of_getElem? (i := 282) (by decide +kernel))) rfl
theorem lk_X0_84 : Cond.methodLink RX0 84 yX1_digesting ∈ GW := gw_of (List.mem_append_right _ (List.mem_of_getElem? (i := 284) (by decide +kernel))) rfl
theorem in_X1_digesting : Cond.instanceMethod yX1_digesting ∈ GW := gw_of (List.mem_append_right _ (List.mem_of_getElem? (i := 285) (by decide +kernel))) rfl
theorem se_X1_digesting : Cond.selects yX1_digesting.cls yX1_digesting yX1_digesting ∈ GW := gw_of (List.mem_append_right _ (List.mem_of_getElem? (i := 286) (by decide +kernel))) rfl
theorem lk_X1_54 : Cond.methodLink RX1 54 yJ9_max_7cf53 ∈ GW := gw_of (List.mem_append_right _ (List.mem_of_getElem? (i := 288) (by decide +kernel))) rfl
theorem st_J9_max_7cf53 : Cond.static yJ9_max_7cf53 ∈ GW := gw_of (List.mem_append_right _ (List.mem_of_getElem? (i := 289) (by decide +kernel))) rfl
theorem lk_X0_88 : Cond.methodLink RX0 88 yX1_keepsSilent ∈ GW := gw_of (List.mem_append_right _ (List.mem_of_getElem? (i := 291) (by decide +kernel))) rfl
theorem in_X1_keepsSilent : Cond.instanceMethod yX1_keepsSilent ∈ GW := gw_of (List.mem_append_right _ (List.mem_of_getElem? (i := 292) (by decide +kernel))) rfl
theorem se_X1_keepsSilent : Cond.selects yX1_keepsSilent.cls yX1_keepsSilent yX1_keepsSilent ∈ GW := gw_of (List.mem_append_right _ (List.mem_of_getElem? (i := 293) (by decide +kernel))) rfl
theorem lk_L_35 : Cond.methodLink RL 35 yX6_change ∈ GW := gw_of (List.mem_append_right _ (List.mem_of_getElem? (i := 295) (by decide +kernel))) rfl
theorem in_X6_change : Cond.instanceMethod yX6_change ∈ GW := gw_of (List.mem_append_right _ (List.mem_of_getElem? (i := 296) (by decide +kernel))) rfl
theorem se_X6_change : Cond.selects yX6_change.cls yX6_change yX6_change ∈ GW := gw_of (List.mem_append_right _ (List.mem_of_getElem? (i := 297) (by decide +kernel))) rfl
theorem lk_X6_89 : Cond.methodLink RX6 89 yX1_mayBe ∈ GW := gw_of (List.mem_append_right _ (List.mem_of_getElem? (i := 299) (by decide +kernel))) rfl
theorem st_X1_mayBe : Cond.static yX1_mayBe ∈ GW := gw_of (List.mem_append_right _ (List.mem_of_getElem? (i := 300) (by decide +kernel))) rfl
theorem lk_X1_15 : Cond.methodLink RX1 15 yX1_isKind ∈ GW := gw_of (List.mem_append_right _ (List.mem_of_getElem? (i := 302) (by decide +kernel))) rfl
theorem lk_X6_92 : Cond.methodLink RX6 92 yX1_put ∈ GW := gw_of (List.mem_append_right _ (List.mem_of_getElem? (i := 303) (by decide +kernel))) rfl
theorem in_X1_put : Cond.instanceMethod yX1_put ∈ GW := gw_of (List.mem_append_right _ (List.mem_of_getElem? (i := 304) (by decide +kernel))) rfl
theorem se_X1_put : Cond.selects yX1_put.cls yX1_put yX1_put ∈ GW := gw_of (List.mem_append_right _ (List.mem_of_getElem? (i := 305) (by decide +kernel))) rfl
theorem lk_L_40 : Cond.methodLink RL 40 yX6_swells ∈ GW := gw_of (List.mem_append_right _ (List.mem_of_getElem? (i := 307) (by decide +kernel))) rfl
theorem in_X6_swells : Cond.instanceMethod yX6_swells ∈ GW := gw_of (List.mem_append_right _ (List.mem_of_getElem? (i := 308) (by decide +kernel))) rfl
theorem se_X6_swells : Cond.selects yX6_swells.cls yX6_swells yX6_swells ∈ GW := gw_of (List.mem_append_right _ (List.mem_of_getElem? (i := 309) (by decide +kernel))) rfl
theorem lk_X6_102 : Cond.methodLink RX6 102 yX1_swelling ∈ GW := gw_of (List.mem_append_right _ (List.mem_of_getElem? (i := 311) (by decide +kernel))) rfl
theorem in_X1_swelling : Cond.instanceMethod yX1_swelling ∈ GW := gw_of (List.mem_append_right _ (List.mem_of_getElem? (i := 312) (by decide +kernel))) rfl
theorem se_X1_swelling : Cond.selects yX1_swelling.cls yX1_swelling yX1_swelling ∈ GW := gw_of (List.mem_append_right _ (List.mem_of_getElem? (i := 313) (by decide +kernel))) rfl
theorem lk_L_44 : Cond.methodLink RL 44 yX6_goes ∈ GW := gw_of (List.mem_append_right _ (List.mem_of_getElem? (i := 315) (by decide +kernel))) rfl
theorem in_X6_goes : Cond.instanceMethod yX6_goes ∈ GW := gw_of (List.mem_append_right _ (List.mem_of_getElem? (i := 316) (by decide +kernel))) rfl
theorem se_X6_goes : Cond.selects yX6_goes.cls yX6_goes yX6_goes ∈ GW := gw_of (List.mem_append_right _ (List.mem_of_getElem? (i := 317) (by decide +kernel))) rfl
theorem lk_X6_106 : Cond.methodLink RX6 106 yX0_takersOf ∈ GW := gw_of (List.mem_append_right _ (List.mem_of_getElem? (i := 319) (by decide +kernel))) rfl
theorem in_X0_takersOf : Cond.instanceMethod yX0_takersOf ∈ GW := gw_of (List.mem_append_right _ (List.mem_of_getElem? (i := 320) (by decide +kernel))) rfl
theorem se_X0_takersOf : Cond.selects yX0_takersOf.cls yX0_takersOf yX0_takersOf ∈ GW := gw_of (List.mem_append_right _ (List.mem_of_getElem? (i := 321) (by decide +kernel))) rfl
theorem lk_X6_109 : Cond.methodLink RX6 109 yX0_hungriestOf ∈ GW := gw_of (List.mem_append_right _ (List.mem_of_getElem? (i := 323) (by decide +kernel))) rfl
theorem in_X0_hungriestOf : Cond.instanceMethod yX0_hungriestOf ∈ GW := gw_of (List.mem_append_right _ (List.mem_of_getElem? (i := 324) (by decide +kernel))) rfl
theorem se_X0_hungriestOf : Cond.selects yX0_hungriestOf.cls yX0_hungriestOf yX0_hungriestOf ∈ GW := gw_of (List.mem_append_right _ (List.mem_of_getElem? (i := 325) (by decide +kernel))) rfl
theorem lk_X6_112 : Cond.methodLink RX6 112 yX6_orNone ∈ GW := gw_of (List.mem_append_right _ (List.mem_of_getElem? (i := 327) (by decide +kernel))) rfl
theorem in_X6_orNone : Cond.instanceMethod yX6_orNone ∈ GW := gw_of (List.mem_append_right _ (List.mem_of_getElem? (i := 329) (by decide +kernel))) rfl
theorem kc_X6_198 : Cond.constant RX6 198 (-1000004) ∈ GW := gw_of (List.mem_append_right _ (List.mem_of_getElem? (i := 331) (by decide +kernel))) rfl
theorem lk_L_48 : Cond.methodLink RL 48 yX6_dies ∈ GW := gw_of (List.mem_append_right _ (List.mem_of_getElem? (i := 332) (by decide +kernel))) rfl
theorem in_X6_dies : Cond.instanceMethod yX6_dies ∈ GW := gw_of (List.mem_append_right _ (List.mem_of_getElem? (i := 333) (by decide +kernel))) rfl
theorem se_X6_dies : Cond.selects yX6_dies.cls yX6_dies yX6_dies ∈ GW := gw_of (List.mem_append_right _ (List.mem_of_getElem? (i := 334) (by decide +kernel))) rfl
theorem lk_X6_115 : Cond.methodLink RX6 115 yX0_bury ∈ GW := gw_of (List.mem_append_right _ (List.mem_of_getElem? (i := 336) (by decide +kernel))) rfl
theorem in_X0_bury : Cond.instanceMethod yX0_bury ∈ GW := gw_of (List.mem_append_right _ (List.mem_of_getElem? (i := 337) (by decide +kernel))) rfl
theorem se_X0_bury : Cond.selects yX0_bury.cls yX0_bury yX0_bury ∈ GW := gw_of (List.mem_append_right _ (List.mem_of_getElem? (i := 338) (by decide +kernel))) rfl
theorem lk_X0_98 : Cond.methodLink RX0 98 yX0_hungriestOf ∈ GW := gw_of (List.mem_append_right _ (List.mem_of_getElem? (i := 340) (by decide +kernel))) rfl
theorem lk_L_52 : Cond.methodLink RL 52 yX6_go ∈ GW := gw_of (List.mem_append_right _ (List.mem_of_getElem? (i := 341) (by decide +kernel))) rfl
theorem in_X6_go : Cond.instanceMethod yX6_go ∈ GW := gw_of (List.mem_append_right _ (List.mem_of_getElem? (i := 342) (by decide +kernel))) rfl
theorem se_X6_go : Cond.selects yX6_go.cls yX6_go yX6_go ∈ GW := gw_of (List.mem_append_right _ (List.mem_of_getElem? (i := 343) (by decide +kernel))) rfl
theorem kc_X6_122 : Cond.constant RX6 122 (99999) ∈ GW := gw_of (List.mem_append_right _ (List.mem_of_getElem? (i := 345) (by decide +kernel))) rfl
theorem kc_X6_123 : Cond.constant RX6 123 (-1000005) ∈ GW := gw_of (List.mem_append_right _ (List.mem_of_getElem? (i := 346) (by decide +kernel))) rfl
theorem lk_X6_124 : Cond.methodLink RX6 124 yX0_passDays ∈ GW := gw_of (List.mem_append_right _ (List.mem_of_getElem? (i := 347) (by decide +kernel))) rfl
theorem in_X0_passDays : Cond.instanceMethod yX0_passDays ∈ GW := gw_of (List.mem_append_right _ (List.mem_of_getElem? (i := 348) (by decide +kernel))) rfl
theorem se_X0_passDays : Cond.selects yX0_passDays.cls yX0_passDays yX0_passDays ∈ GW := gw_of (List.mem_append_right _ (List.mem_of_getElem? (i := 349) (by decide +kernel))) rfl
theorem lk_X0_102 : Cond.methodLink RX0 102 yX0_passDay ∈ GW := gw_of (List.mem_append_right _ (List.mem_of_getElem? (i := 351) (by decide +kernel))) rfl
theorem in_X0_passDay : Cond.instanceMethod yX0_passDay ∈ GW := gw_of (List.mem_append_right _ (List.mem_of_getElem? (i := 352) (by decide +kernel))) rfl
theorem se_X0_passDay : Cond.selects yX0_passDay.cls yX0_passDay yX0_passDay ∈ GW := gw_of (List.mem_append_right _ (List.mem_of_getElem? (i := 353) (by decide +kernel))) rfl
theorem lk_X0_105 : Cond.methodLink RX0 105 yX0_placeToday ∈ GW := gw_of (List.mem_append_right _ (List.mem_of_getElem? (i := 355) (by decide +kernel))) rfl
theorem in_X0_placeToday : Cond.instanceMethod yX0_placeToday ∈ GW := gw_of (List.mem_append_right _ (List.mem_of_getElem? (i := 356) (by decide +kernel))) rfl
theorem se_X0_placeToday : Cond.selects yX0_placeToday.cls yX0_placeToday yX0_placeToday ∈ GW := gw_of (List.mem_append_right _ (List.mem_of_getElem? (i := 357) (by decide +kernel))) rfl
theorem lk_X0_92 : Cond.methodLink RX0 92 yJ9_floorMod_7cf53 ∈ GW := gw_of (List.mem_append_right _ (List.mem_of_getElem? (i := 359) (by decide +kernel))) rfl
theorem st_J9_floorMod_7cf53 : Cond.static yJ9_floorMod_7cf53 ∈ GW := gw_of (List.mem_append_right _ (List.mem_of_getElem? (i := 360) (by decide +kernel))) rfl
theorem ln_X0_108 : Cond.methodLinkNest RX0 108 yX6_sinOf RX6 ∈ NL := nl_of (List.mem_append_right _ (List.mem_of_getElem? (i := 362) (by decide +kernel))) rfl
theorem ln_X0_111 : Cond.methodLinkNest RX0 111 yX6_wordsOf RX6 ∈ NL := nl_of (List.mem_append_right _ (List.mem_of_getElem? (i := 363) (by decide +kernel))) rfl
theorem lk_X0_114 : Cond.methodLink RX0 114 yX0_takersOf ∈ GW := gw_of (List.mem_append_right _ (List.mem_of_getElem? (i := 364) (by decide +kernel))) rfl
theorem lk_X0_117 : Cond.methodLink RX0 117 yX1_eat ∈ GW := gw_of (List.mem_append_right _ (List.mem_of_getElem? (i := 365) (by decide +kernel))) rfl
theorem in_X1_eat : Cond.instanceMethod yX1_eat ∈ GW := gw_of (List.mem_append_right _ (List.mem_of_getElem? (i := 366) (by decide +kernel))) rfl
theorem se_X1_eat : Cond.selects yX1_eat.cls yX1_eat yX1_eat ∈ GW := gw_of (List.mem_append_right _ (List.mem_of_getElem? (i := 367) (by decide +kernel))) rfl
theorem lk_X1_57 : Cond.methodLink RX1 57 yX1_swelling ∈ GW := gw_of (List.mem_append_right _ (List.mem_of_getElem? (i := 369) (by decide +kernel))) rfl
theorem kc_X0_121 : Cond.constant RX0 121 (99999) ∈ GW := gw_of (List.mem_append_right _ (List.mem_of_getElem? (i := 370) (by decide +kernel))) rfl
theorem lk_X0_122 : Cond.methodLink RX0 122 yJ9_min_7cf53 ∈ GW := gw_of (List.mem_append_right _ (List.mem_of_getElem? (i := 371) (by decide +kernel))) rfl
theorem lk_X0_125 : Cond.methodLink RX0 125 yX0_letTheOverfullFallIll ∈ GW := gw_of (List.mem_append_right _ (List.mem_of_getElem? (i := 372) (by decide +kernel))) rfl
theorem in_X0_letTheOverfullFallIll : Cond.instanceMethod yX0_letTheOverfullFallIll ∈ GW := gw_of (List.mem_append_right _ (List.mem_of_getElem? (i := 374) (by decide +kernel))) rfl
theorem lk_X0_131 : Cond.methodLink RX0 131 yX1_fallIll ∈ GW := gw_of (List.mem_append_right _ (List.mem_of_getElem? (i := 376) (by decide +kernel))) rfl
theorem in_X1_fallIll : Cond.instanceMethod yX1_fallIll ∈ GW := gw_of (List.mem_append_right _ (List.mem_of_getElem? (i := 377) (by decide +kernel))) rfl
theorem se_X1_fallIll : Cond.selects yX1_fallIll.cls yX1_fallIll yX1_fallIll ∈ GW := gw_of (List.mem_append_right _ (List.mem_of_getElem? (i := 378) (by decide +kernel))) rfl
theorem lk_X0_128 : Cond.methodLink RX0 128 yX0_letAllDigest ∈ GW := gw_of (List.mem_append_right _ (List.mem_of_getElem? (i := 380) (by decide +kernel))) rfl
theorem in_X0_letAllDigest : Cond.instanceMethod yX0_letAllDigest ∈ GW := gw_of (List.mem_append_right _ (List.mem_of_getElem? (i := 382) (by decide +kernel))) rfl
theorem lk_X0_134 : Cond.methodLink RX0 134 yJ9_max_7cf53 ∈ GW := gw_of (List.mem_append_right _ (List.mem_of_getElem? (i := 384) (by decide +kernel))) rfl
theorem lk_L_56 : Cond.methodLink RL 56 yX6_now ∈ GW := gw_of (List.mem_append_right _ (List.mem_of_getElem? (i := 385) (by decide +kernel))) rfl
theorem in_X6_now : Cond.instanceMethod yX6_now ∈ GW := gw_of (List.mem_append_right _ (List.mem_of_getElem? (i := 386) (by decide +kernel))) rfl
theorem se_X6_now : Cond.selects yX6_now.cls yX6_now yX6_now ∈ GW := gw_of (List.mem_append_right _ (List.mem_of_getElem? (i := 387) (by decide +kernel))) rfl
theorem lk_X6_131 : Cond.methodLink RX6 131 yX0_sinsTogether ∈ GW := gw_of (List.mem_append_right _ (List.mem_of_getElem? (i := 389) (by decide +kernel))) rfl
theorem in_X0_sinsTogether : Cond.instanceMethod yX0_sinsTogether ∈ GW := gw_of (List.mem_append_right _ (List.mem_of_getElem? (i := 390) (by decide +kernel))) rfl
theorem se_X0_sinsTogether : Cond.selects yX0_sinsTogether.cls yX0_sinsTogether yX0_sinsTogether ∈ GW := gw_of (List.mem_append_right _ (List.mem_of_getElem? (i := 391) (by decide +kernel))) rfl
theorem lk_X0_137 : Cond.methodLink RX0 137 yX0_tellOf ∈ GW := gw_of (List.mem_append_right _ (List.mem_of_getElem? (i := 393) (by decide +kernel))) rfl
theorem lk_X6_134 : Cond.methodLink RX6 134 yX0_sumTogether ∈ GW := gw_of (List.mem_append_right _ (List.mem_of_getElem? (i := 394) (by decide +kernel))) rfl
theorem in_X0_sumTogether : Cond.instanceMethod yX0_sumTogether ∈ GW := gw_of (List.mem_append_right _ (List.mem_of_getElem? (i := 395) (by decide +kernel))) rfl
theorem se_X0_sumTogether : Cond.selects yX0_sumTogether.cls yX0_sumTogether yX0_sumTogether ∈ GW := gw_of (List.mem_append_right _ (List.mem_of_getElem? (i := 396) (by decide +kernel))) rfl
theorem lk_X6_137 : Cond.methodLink RX6 137 yX0_fullest ∈ GW := gw_of (List.mem_append_right _ (List.mem_of_getElem? (i := 398) (by decide +kernel))) rfl
theorem in_X0_fullest : Cond.instanceMethod yX0_fullest ∈ GW := gw_of (List.mem_append_right _ (List.mem_of_getElem? (i := 399) (by decide +kernel))) rfl
theorem se_X0_fullest : Cond.selects yX0_fullest.cls yX0_fullest yX0_fullest ∈ GW := gw_of (List.mem_append_right _ (List.mem_of_getElem? (i := 400) (by decide +kernel))) rfl
theorem lk_L_60 : Cond.methodLink RL 60 yX6_ahead ∈ GW := gw_of (List.mem_append_right _ (List.mem_of_getElem? (i := 402) (by decide +kernel))) rfl
theorem in_X6_ahead : Cond.instanceMethod yX6_ahead ∈ GW := gw_of (List.mem_append_right _ (List.mem_of_getElem? (i := 403) (by decide +kernel))) rfl
theorem se_X6_ahead : Cond.selects yX6_ahead.cls yX6_ahead yX6_ahead ∈ GW := gw_of (List.mem_append_right _ (List.mem_of_getElem? (i := 404) (by decide +kernel))) rfl
theorem lk_X6_141 : Cond.methodLink RX6 141 yX6_changesByDays ∈ GW := gw_of (List.mem_append_right _ (List.mem_of_getElem? (i := 406) (by decide +kernel))) rfl
theorem st_X6_changesByDays : Cond.static yX6_changesByDays ∈ GW := gw_of (List.mem_append_right _ (List.mem_of_getElem? (i := 407) (by decide +kernel))) rfl
theorem lk_X6_144 : Cond.methodLink RX6 144 yX3_tellBehind ∈ GW := gw_of (List.mem_append_right _ (List.mem_of_getElem? (i := 409) (by decide +kernel))) rfl
theorem in_X3_tellBehind : Cond.instanceMethod yX3_tellBehind ∈ GW := gw_of (List.mem_append_right _ (List.mem_of_getElem? (i := 410) (by decide +kernel))) rfl
theorem se_X3_tellBehind : Cond.selects yX3_tellBehind.cls yX3_tellBehind yX3_tellBehind ∈ GW := gw_of (List.mem_append_right _ (List.mem_of_getElem? (i := 411) (by decide +kernel))) rfl
theorem lk_X3_18 : Cond.methodLink RX3 18 yX0_becomeLike ∈ GW := gw_of (List.mem_append_right _ (List.mem_of_getElem? (i := 413) (by decide +kernel))) rfl
theorem in_X0_becomeLike : Cond.instanceMethod yX0_becomeLike ∈ GW := gw_of (List.mem_append_right _ (List.mem_of_getElem? (i := 414) (by decide +kernel))) rfl
theorem se_X0_becomeLike : Cond.selects yX0_becomeLike.cls yX0_becomeLike yX0_becomeLike ∈ GW := gw_of (List.mem_append_right _ (List.mem_of_getElem? (i := 415) (by decide +kernel))) rfl
theorem lk_X0_44 : Cond.methodLink RX0 44 arraycopyName ∈ GW := gw_of (List.mem_append_right _ (List.mem_of_getElem? (i := 417) (by decide +kernel))) rfl
theorem lk_X0_54 : Cond.methodLink RX0 54 yX1_becomeLike ∈ GW := gw_of (List.mem_append_right _ (List.mem_of_getElem? (i := 420) (by decide +kernel))) rfl
theorem in_X1_becomeLike : Cond.instanceMethod yX1_becomeLike ∈ GW := gw_of (List.mem_append_right _ (List.mem_of_getElem? (i := 421) (by decide +kernel))) rfl
theorem se_X1_becomeLike : Cond.selects yX1_becomeLike.cls yX1_becomeLike yX1_becomeLike ∈ GW := gw_of (List.mem_append_right _ (List.mem_of_getElem? (i := 422) (by decide +kernel))) rfl
theorem lk_X3_22 : Cond.methodLink RX3 22 yX0_passDays ∈ GW := gw_of (List.mem_append_right _ (List.mem_of_getElem? (i := 424) (by decide +kernel))) rfl
theorem lk_X3_26 : Cond.methodLink RX3 26 yX0_at ∈ GW := gw_of (List.mem_append_right _ (List.mem_of_getElem? (i := 425) (by decide +kernel))) rfl
theorem lk_X3_30 : Cond.methodLink RX3 30 yX0_tellOf ∈ GW := gw_of (List.mem_append_right _ (List.mem_of_getElem? (i := 426) (by decide +kernel))) rfl
theorem lk_L_64 : Cond.methodLink RL 64 yX6_ill ∈ GW := gw_of (List.mem_append_right _ (List.mem_of_getElem? (i := 427) (by decide +kernel))) rfl
theorem in_X6_ill : Cond.instanceMethod yX6_ill ∈ GW := gw_of (List.mem_append_right _ (List.mem_of_getElem? (i := 428) (by decide +kernel))) rfl
theorem se_X6_ill : Cond.selects yX6_ill.cls yX6_ill yX6_ill ∈ GW := gw_of (List.mem_append_right _ (List.mem_of_getElem? (i := 429) (by decide +kernel))) rfl
theorem lk_X6_148 : Cond.methodLink RX6 148 yX3_daysTillIll ∈ GW := gw_of (List.mem_append_right _ (List.mem_of_getElem? (i := 431) (by decide +kernel))) rfl
theorem in_X3_daysTillIll : Cond.instanceMethod yX3_daysTillIll ∈ GW := gw_of (List.mem_append_right _ (List.mem_of_getElem? (i := 432) (by decide +kernel))) rfl
theorem se_X3_daysTillIll : Cond.selects yX3_daysTillIll.cls yX3_daysTillIll yX3_daysTillIll ∈ GW := gw_of (List.mem_append_right _ (List.mem_of_getElem? (i := 433) (by decide +kernel))) rfl
theorem lk_X3_40 : Cond.methodLink RX3 40 yX0_passDay ∈ GW := gw_of (List.mem_append_right _ (List.mem_of_getElem? (i := 435) (by decide +kernel))) rfl
theorem lk_L_68 : Cond.methodLink RL 68 yX6_out ∈ GW := gw_of (List.mem_append_right _ (List.mem_of_getElem? (i := 436) (by decide +kernel))) rfl
theorem in_X6_out : Cond.instanceMethod yX6_out ∈ GW := gw_of (List.mem_append_right _ (List.mem_of_getElem? (i := 437) (by decide +kernel))) rfl
theorem se_X6_out : Cond.selects yX6_out.cls yX6_out yX6_out ∈ GW := gw_of (List.mem_append_right _ (List.mem_of_getElem? (i := 438) (by decide +kernel))) rfl
theorem lk_X6_152 : Cond.methodLink RX6 152 yX3_daysTillOut ∈ GW := gw_of (List.mem_append_right _ (List.mem_of_getElem? (i := 440) (by decide +kernel))) rfl
theorem in_X3_daysTillOut : Cond.instanceMethod yX3_daysTillOut ∈ GW := gw_of (List.mem_append_right _ (List.mem_of_getElem? (i := 441) (by decide +kernel))) rfl
theorem se_X3_daysTillOut : Cond.selects yX3_daysTillOut.cls yX3_daysTillOut yX3_daysTillOut ∈ GW := gw_of (List.mem_append_right _ (List.mem_of_getElem? (i := 442) (by decide +kernel))) rfl
theorem lk_L_72 : Cond.methodLink RL 72 yX6_wise ∈ GW := gw_of (List.mem_append_right _ (List.mem_of_getElem? (i := 444) (by decide +kernel))) rfl
theorem in_X6_wise : Cond.instanceMethod yX6_wise ∈ GW := gw_of (List.mem_append_right _ (List.mem_of_getElem? (i := 445) (by decide +kernel))) rfl
theorem se_X6_wise : Cond.selects yX6_wise.cls yX6_wise yX6_wise ∈ GW := gw_of (List.mem_append_right _ (List.mem_of_getElem? (i := 446) (by decide +kernel))) rfl
theorem lk_X6_155 : Cond.methodLink RX6 155 yX3_daysTillWise ∈ GW := gw_of (List.mem_append_right _ (List.mem_of_getElem? (i := 448) (by decide +kernel))) rfl
theorem in_X3_daysTillWise : Cond.instanceMethod yX3_daysTillWise ∈ GW := gw_of (List.mem_append_right _ (List.mem_of_getElem? (i := 449) (by decide +kernel))) rfl
theorem se_X3_daysTillWise : Cond.selects yX3_daysTillWise.cls yX3_daysTillWise yX3_daysTillWise ∈ GW := gw_of (List.mem_append_right _ (List.mem_of_getElem? (i := 450) (by decide +kernel))) rfl
theorem lk_X3_49 : Cond.methodLink RX3 49 yJ6_bitCount_0f7a4 ∈ GW := gw_of (List.mem_append_right _ (List.mem_of_getElem? (i := 452) (by decide +kernel))) rfl
theorem lk_L_76 : Cond.methodLink RL 76 yX6_when ∈ GW := gw_of (List.mem_append_right _ (List.mem_of_getElem? (i := 453) (by decide +kernel))) rfl
theorem in_X6_when : Cond.instanceMethod yX6_when ∈ GW := gw_of (List.mem_append_right _ (List.mem_of_getElem? (i := 454) (by decide +kernel))) rfl
theorem se_X6_when : Cond.selects yX6_when.cls yX6_when yX6_when ∈ GW := gw_of (List.mem_append_right _ (List.mem_of_getElem? (i := 455) (by decide +kernel))) rfl
theorem lk_X6_159 : Cond.methodLink RX6 159 yX3_daysTillStuffed ∈ GW := gw_of (List.mem_append_right _ (List.mem_of_getElem? (i := 457) (by decide +kernel))) rfl
theorem in_X3_daysTillStuffed : Cond.instanceMethod yX3_daysTillStuffed ∈ GW := gw_of (List.mem_append_right _ (List.mem_of_getElem? (i := 458) (by decide +kernel))) rfl
theorem se_X3_daysTillStuffed : Cond.selects yX3_daysTillStuffed.cls yX3_daysTillStuffed yX3_daysTillStuffed ∈ GW := gw_of (List.mem_append_right _ (List.mem_of_getElem? (i := 459) (by decide +kernel))) rfl
theorem lk_L_80 : Cond.methodLink RL 80 yX6_wordsFor ∈ GW := gw_of (List.mem_append_right _ (List.mem_of_getElem? (i := 461) (by decide +kernel))) rfl
theorem in_X6_wordsFor : Cond.instanceMethod yX6_wordsFor ∈ GW := gw_of (List.mem_append_right _ (List.mem_of_getElem? (i := 462) (by decide +kernel))) rfl
theorem se_X6_wordsFor : Cond.selects yX6_wordsFor.cls yX6_wordsFor yX6_wordsFor ∈ GW := gw_of (List.mem_append_right _ (List.mem_of_getElem? (i := 463) (by decide +kernel))) rfl
theorem lk_X6_162 : Cond.methodLink RX6 162 yX3_mostHarmlessWords ∈ GW := gw_of (List.mem_append_right _ (List.mem_of_getElem? (i := 465) (by decide +kernel))) rfl
theorem in_X3_mostHarmlessWords : Cond.instanceMethod yX3_mostHarmlessWords ∈ GW := gw_of (List.mem_append_right _ (List.mem_of_getElem? (i := 466) (by decide +kernel))) rfl
theorem se_X3_mostHarmlessWords : Cond.selects yX3_mostHarmlessWords.cls yX3_mostHarmlessWords yX3_mostHarmlessWords ∈ GW := gw_of (List.mem_append_right _ (List.mem_of_getElem? (i := 467) (by decide +kernel))) rfl
theorem ln_X3_58 : Cond.methodLinkNest RX3 58 yX6_within RX6 ∈ NL := nl_of (List.mem_append_right _ (List.mem_of_getElem? (i := 469) (by decide +kernel))) rfl
theorem ln_X3_66 : Cond.methodLinkNest RX3 66 yX6_sinOf RX6 ∈ NL := nl_of (List.mem_append_right _ (List.mem_of_getElem? (i := 470) (by decide +kernel))) rfl
theorem lk_X3_69 : Cond.methodLink RX3 69 yX0_sumTogether ∈ GW := gw_of (List.mem_append_right _ (List.mem_of_getElem? (i := 471) (by decide +kernel))) rfl
theorem ln_X3_72 : Cond.methodLinkNest RX3 72 yX6_confessionOf RX6 ∈ NL := nl_of (List.mem_append_right _ (List.mem_of_getElem? (i := 472) (by decide +kernel))) rfl
theorem st_X6_confessionOf : Cond.static yX6_confessionOf ∈ GW := gw_of (List.mem_append_right _ (List.mem_of_getElem? (i := 473) (by decide +kernel))) rfl
theorem lk_L_84 : Cond.methodLink RL 84 yX6_waterFor ∈ GW := gw_of (List.mem_append_right _ (List.mem_of_getElem? (i := 475) (by decide +kernel))) rfl
theorem in_X6_waterFor : Cond.instanceMethod yX6_waterFor ∈ GW := gw_of (List.mem_append_right _ (List.mem_of_getElem? (i := 476) (by decide +kernel))) rfl
theorem se_X6_waterFor : Cond.selects yX6_waterFor.cls yX6_waterFor yX6_waterFor ∈ GW := gw_of (List.mem_append_right _ (List.mem_of_getElem? (i := 477) (by decide +kernel))) rfl
theorem lk_X6_165 : Cond.methodLink RX6 165 yX3_leastQuietWater ∈ GW := gw_of (List.mem_append_right _ (List.mem_of_getElem? (i := 479) (by decide +kernel))) rfl
theorem in_X3_leastQuietWater : Cond.instanceMethod yX3_leastQuietWater ∈ GW := gw_of (List.mem_append_right _ (List.mem_of_getElem? (i := 480) (by decide +kernel))) rfl
theorem se_X3_leastQuietWater : Cond.selects yX3_leastQuietWater.cls yX3_leastQuietWater yX3_leastQuietWater ∈ GW := gw_of (List.mem_append_right _ (List.mem_of_getElem? (i := 481) (by decide +kernel))) rfl
theorem lk_X3_79 : Cond.methodLink RX3 79 yX3_staysQuiet ∈ GW := gw_of (List.mem_append_right _ (List.mem_of_getElem? (i := 483) (by decide +kernel))) rfl
theorem in_X3_staysQuiet : Cond.instanceMethod yX3_staysQuiet ∈ GW := gw_of (List.mem_append_right _ (List.mem_of_getElem? (i := 485) (by decide +kernel))) rfl
theorem lk_L_88 : Cond.methodLink RL 88 yX6_spare ∈ GW := gw_of (List.mem_append_right _ (List.mem_of_getElem? (i := 487) (by decide +kernel))) rfl
theorem in_X6_spare : Cond.instanceMethod yX6_spare ∈ GW := gw_of (List.mem_append_right _ (List.mem_of_getElem? (i := 488) (by decide +kernel))) rfl
theorem se_X6_spare : Cond.selects yX6_spare.cls yX6_spare yX6_spare ∈ GW := gw_of (List.mem_append_right _ (List.mem_of_getElem? (i := 489) (by decide +kernel))) rfl
theorem lk_X6_168 : Cond.methodLink RX6 168 yX3_sinToSpare ∈ GW := gw_of (List.mem_append_right _ (List.mem_of_getElem? (i := 491) (by decide +kernel))) rfl
theorem in_X3_sinToSpare : Cond.instanceMethod yX3_sinToSpare ∈ GW := gw_of (List.mem_append_right _ (List.mem_of_getElem? (i := 492) (by decide +kernel))) rfl
theorem se_X3_sinToSpare : Cond.selects yX3_sinToSpare.cls yX3_sinToSpare yX3_sinToSpare ∈ GW := gw_of (List.mem_append_right _ (List.mem_of_getElem? (i := 493) (by decide +kernel))) rfl
theorem lk_L_92 : Cond.methodLink RL 92 yX6_kindFor ∈ GW := gw_of (List.mem_append_right _ (List.mem_of_getElem? (i := 495) (by decide +kernel))) rfl
theorem in_X6_kindFor : Cond.instanceMethod yX6_kindFor ∈ GW := gw_of (List.mem_append_right _ (List.mem_of_getElem? (i := 496) (by decide +kernel))) rfl
theorem se_X6_kindFor : Cond.selects yX6_kindFor.cls yX6_kindFor yX6_kindFor ∈ GW := gw_of (List.mem_append_right _ (List.mem_of_getElem? (i := 497) (by decide +kernel))) rfl
theorem lk_X6_171 : Cond.methodLink RX6 171 yX3_healthiestKind ∈ GW := gw_of (List.mem_append_right _ (List.mem_of_getElem? (i := 499) (by decide +kernel))) rfl
theorem in_X3_healthiestKind : Cond.instanceMethod yX3_healthiestKind ∈ GW := gw_of (List.mem_append_right _ (List.mem_of_getElem? (i := 500) (by decide +kernel))) rfl
theorem se_X3_healthiestKind : Cond.selects yX3_healthiestKind.cls yX3_healthiestKind yX3_healthiestKind ∈ GW := gw_of (List.mem_append_right _ (List.mem_of_getElem? (i := 501) (by decide +kernel))) rfl
theorem kc_X3_86 : Cond.constant RX3 86 (79993) ∈ GW := gw_of (List.mem_append_right _ (List.mem_of_getElem? (i := 503) (by decide +kernel))) rfl
theorem lk_L_96 : Cond.methodLink RL 96 yX6_fast ∈ GW := gw_of (List.mem_append_right _ (List.mem_of_getElem? (i := 504) (by decide +kernel))) rfl
theorem in_X6_fast : Cond.instanceMethod yX6_fast ∈ GW := gw_of (List.mem_append_right _ (List.mem_of_getElem? (i := 505) (by decide +kernel))) rfl
theorem se_X6_fast : Cond.selects yX6_fast.cls yX6_fast yX6_fast ∈ GW := gw_of (List.mem_append_right _ (List.mem_of_getElem? (i := 506) (by decide +kernel))) rfl
theorem lk_X6_174 : Cond.methodLink RX6 174 yX3_fewestFasting ∈ GW := gw_of (List.mem_append_right _ (List.mem_of_getElem? (i := 508) (by decide +kernel))) rfl
theorem in_X3_fewestFasting : Cond.instanceMethod yX3_fewestFasting ∈ GW := gw_of (List.mem_append_right _ (List.mem_of_getElem? (i := 509) (by decide +kernel))) rfl
theorem se_X3_fewestFasting : Cond.selects yX3_fewestFasting.cls yX3_fewestFasting yX3_fewestFasting ∈ GW := gw_of (List.mem_append_right _ (List.mem_of_getElem? (i := 510) (by decide +kernel))) rfl
theorem lk_X3_93 : Cond.methodLink RX3 93 yX3_makeFast ∈ GW := gw_of (List.mem_append_right _ (List.mem_of_getElem? (i := 512) (by decide +kernel))) rfl
theorem in_X3_makeFast : Cond.instanceMethod yX3_makeFast ∈ GW := gw_of (List.mem_append_right _ (List.mem_of_getElem? (i := 514) (by decide +kernel))) rfl
theorem lk_L_100 : Cond.methodLink RL 100 yX6_cover ∈ GW := gw_of (List.mem_append_right _ (List.mem_of_getElem? (i := 516) (by decide +kernel))) rfl
theorem in_X6_cover : Cond.instanceMethod yX6_cover ∈ GW := gw_of (List.mem_append_right _ (List.mem_of_getElem? (i := 517) (by decide +kernel))) rfl
theorem se_X6_cover : Cond.selects yX6_cover.cls yX6_cover yX6_cover ∈ GW := gw_of (List.mem_append_right _ (List.mem_of_getElem? (i := 518) (by decide +kernel))) rfl
theorem lk_X6_177 : Cond.methodLink RX6 177 yX0_fewestTaking ∈ GW := gw_of (List.mem_append_right _ (List.mem_of_getElem? (i := 520) (by decide +kernel))) rfl
theorem in_X0_fewestTaking : Cond.instanceMethod yX0_fewestTaking ∈ GW := gw_of (List.mem_append_right _ (List.mem_of_getElem? (i := 521) (by decide +kernel))) rfl
theorem se_X0_fewestTaking : Cond.selects yX0_fewestTaking.cls yX0_fewestTaking yX0_fewestTaking ∈ GW := gw_of (List.mem_append_right _ (List.mem_of_getElem? (i := 522) (by decide +kernel))) rfl
theorem lk_X0_141 : Cond.methodLink RX0 141 yJ6_bitCount_0f7a4 ∈ GW := gw_of (List.mem_append_right _ (List.mem_of_getElem? (i := 524) (by decide +kernel))) rfl
theorem lk_X0_146 : Cond.methodLink RX0 146 yX0_takeTogether ∈ GW := gw_of (List.mem_append_right _ (List.mem_of_getElem? (i := 525) (by decide +kernel))) rfl
theorem in_X0_takeTogether : Cond.instanceMethod yX0_takeTogether ∈ GW := gw_of (List.mem_append_right _ (List.mem_of_getElem? (i := 527) (by decide +kernel))) rfl
theorem lk_L_104 : Cond.methodLink RL 104 yX6_fits ∈ GW := gw_of (List.mem_append_right _ (List.mem_of_getElem? (i := 529) (by decide +kernel))) rfl
theorem in_X6_fits : Cond.instanceMethod yX6_fits ∈ GW := gw_of (List.mem_append_right _ (List.mem_of_getElem? (i := 530) (by decide +kernel))) rfl
theorem se_X6_fits : Cond.selects yX6_fits.cls yX6_fits yX6_fits ∈ GW := gw_of (List.mem_append_right _ (List.mem_of_getElem? (i := 531) (by decide +kernel))) rfl
theorem lk_X6_180 : Cond.methodLink RX6 180 yX6_sheetAt ∈ GW := gw_of (List.mem_append_right _ (List.mem_of_getElem? (i := 533) (by decide +kernel))) rfl
theorem in_X6_sheetAt : Cond.instanceMethod yX6_sheetAt ∈ GW := gw_of (List.mem_append_right _ (List.mem_of_getElem? (i := 535) (by decide +kernel))) rfl
theorem lk_X6_184 : Cond.methodLink RX6 184 yX6_wrongFulness ∈ GW := gw_of (List.mem_append_right _ (List.mem_of_getElem? (i := 537) (by decide +kernel))) rfl
theorem in_X6_wrongFulness : Cond.instanceMethod yX6_wrongFulness ∈ GW := gw_of (List.mem_append_right _ (List.mem_of_getElem? (i := 539) (by decide +kernel))) rfl
theorem lk_X6_280 : Cond.methodLink RX6 280 yX6_wrongSheet ∈ GW := gw_of (List.mem_append_right _ (List.mem_of_getElem? (i := 541) (by decide +kernel))) rfl
theorem st_X6_wrongSheet : Cond.static yX6_wrongSheet ∈ GW := gw_of (List.mem_append_right _ (List.mem_of_getElem? (i := 542) (by decide +kernel))) rfl
theorem lk_X6_286 : Cond.methodLink RX6 286 yX4_isMissing ∈ GW := gw_of (List.mem_append_right _ (List.mem_of_getElem? (i := 544) (by decide +kernel))) rfl
theorem in_X4_isMissing : Cond.instanceMethod yX4_isMissing ∈ GW := gw_of (List.mem_append_right _ (List.mem_of_getElem? (i := 545) (by decide +kernel))) rfl
theorem se_X4_isMissing : Cond.selects yX4_isMissing.cls yX4_isMissing yX4_isMissing ∈ GW := gw_of (List.mem_append_right _ (List.mem_of_getElem? (i := 546) (by decide +kernel))) rfl
theorem kc_X6_265 : Cond.constant RX6 265 (-1000006) ∈ GW := gw_of (List.mem_append_right _ (List.mem_of_getElem? (i := 548) (by decide +kernel))) rfl
theorem lk_X6_188 : Cond.methodLink RX6 188 yX3_fittingWords ∈ GW := gw_of (List.mem_append_right _ (List.mem_of_getElem? (i := 549) (by decide +kernel))) rfl
theorem in_X3_fittingWords : Cond.instanceMethod yX3_fittingWords ∈ GW := gw_of (List.mem_append_right _ (List.mem_of_getElem? (i := 550) (by decide +kernel))) rfl
theorem se_X3_fittingWords : Cond.selects yX3_fittingWords.cls yX3_fittingWords yX3_fittingWords ∈ GW := gw_of (List.mem_append_right _ (List.mem_of_getElem? (i := 551) (by decide +kernel))) rfl
theorem lk_X3_104 : Cond.methodLink RX3 104 yX0_placeToday ∈ GW := gw_of (List.mem_append_right _ (List.mem_of_getElem? (i := 553) (by decide +kernel))) rfl
theorem lk_X3_108 : Cond.methodLink RX3 108 yX3_dreamsAsTold ∈ GW := gw_of (List.mem_append_right _ (List.mem_of_getElem? (i := 554) (by decide +kernel))) rfl
theorem in_X3_dreamsAsTold : Cond.instanceMethod yX3_dreamsAsTold ∈ GW := gw_of (List.mem_append_right _ (List.mem_of_getElem? (i := 556) (by decide +kernel))) rfl
theorem lk_X6_192 : Cond.methodLink RX6 192 yJ13_bitCount_95d88 ∈ GW := gw_of (List.mem_append_right _ (List.mem_of_getElem? (i := 558) (by decide +kernel))) rfl
theorem st_J13_bitCount_95d88 : Cond.static yJ13_bitCount_95d88 ∈ GW := gw_of (List.mem_append_right _ (List.mem_of_getElem? (i := 559) (by decide +kernel))) rfl
theorem kl_J13_314 : Cond.constantLong RJ13 314 (6148914691236517205) ∈ GW := gw_of (List.mem_append_right _ (List.mem_of_getElem? (i := 561) (by decide +kernel))) rfl
theorem kl_J13_316 : Cond.constantLong RJ13 316 (3689348814741910323) ∈ GW := gw_of (List.mem_append_right _ (List.mem_of_getElem? (i := 562) (by decide +kernel))) rfl
theorem kl_J13_318 : Cond.constantLong RJ13 318 (1085102592571150095) ∈ GW := gw_of (List.mem_append_right _ (List.mem_of_getElem? (i := 563) (by decide +kernel))) rfl
theorem lk_L_108 : Cond.methodLink RL 108 yX6_words ∈ GW := gw_of (List.mem_append_right _ (List.mem_of_getElem? (i := 564) (by decide +kernel))) rfl
theorem in_X6_words : Cond.instanceMethod yX6_words ∈ GW := gw_of (List.mem_append_right _ (List.mem_of_getElem? (i := 565) (by decide +kernel))) rfl
theorem se_X6_words : Cond.selects yX6_words.cls yX6_words yX6_words ∈ GW := gw_of (List.mem_append_right _ (List.mem_of_getElem? (i := 566) (by decide +kernel))) rfl
theorem lk_L_112 : Cond.methodLink RL 112 yX6_kinds ∈ GW := gw_of (List.mem_append_right _ (List.mem_of_getElem? (i := 568) (by decide +kernel))) rfl
theorem in_X6_kinds : Cond.instanceMethod yX6_kinds ∈ GW := gw_of (List.mem_append_right _ (List.mem_of_getElem? (i := 569) (by decide +kernel))) rfl
theorem se_X6_kinds : Cond.selects yX6_kinds.cls yX6_kinds yX6_kinds ∈ GW := gw_of (List.mem_append_right _ (List.mem_of_getElem? (i := 570) (by decide +kernel))) rfl
theorem lk_X6_199 : Cond.methodLink RX6 199 yX3_fittingKinds ∈ GW := gw_of (List.mem_append_right _ (List.mem_of_getElem? (i := 572) (by decide +kernel))) rfl
theorem in_X3_fittingKinds : Cond.instanceMethod yX3_fittingKinds ∈ GW := gw_of (List.mem_append_right _ (List.mem_of_getElem? (i := 573) (by decide +kernel))) rfl
theorem se_X3_fittingKinds : Cond.selects yX3_fittingKinds.cls yX3_fittingKinds yX3_fittingKinds ∈ GW := gw_of (List.mem_append_right _ (List.mem_of_getElem? (i := 574) (by decide +kernel))) rfl
theorem lk_L_116 : Cond.methodLink RL 116 yX6_come ∈ GW := gw_of (List.mem_append_right _ (List.mem_of_getElem? (i := 576) (by decide +kernel))) rfl
theorem in_X6_come : Cond.instanceMethod yX6_come ∈ GW := gw_of (List.mem_append_right _ (List.mem_of_getElem? (i := 577) (by decide +kernel))) rfl
theorem se_X6_come : Cond.selects yX6_come.cls yX6_come yX6_come ∈ GW := gw_of (List.mem_append_right _ (List.mem_of_getElem? (i := 578) (by decide +kernel))) rfl
theorem lk_X6_203 : Cond.methodLink RX6 203 yX0_draw ∈ GW := gw_of (List.mem_append_right _ (List.mem_of_getElem? (i := 580) (by decide +kernel))) rfl
theorem in_X0_draw : Cond.instanceMethod yX0_draw ∈ GW := gw_of (List.mem_append_right _ (List.mem_of_getElem? (i := 581) (by decide +kernel))) rfl
theorem se_X0_draw : Cond.selects yX0_draw.cls yX0_draw yX0_draw ∈ GW := gw_of (List.mem_append_right _ (List.mem_of_getElem? (i := 582) (by decide +kernel))) rfl
theorem kc_X0_97 : Cond.constant RX0 97 (1103515245) ∈ GW := gw_of (List.mem_append_right _ (List.mem_of_getElem? (i := 584) (by decide +kernel))) rfl
theorem lk_X6_206 : Cond.methodLink RX6 206 yX0_placeToday ∈ GW := gw_of (List.mem_append_right _ (List.mem_of_getElem? (i := 585) (by decide +kernel))) rfl
theorem lk_X6_209 : Cond.methodLink RX6 209 yX6_confessionOf ∈ GW := gw_of (List.mem_append_right _ (List.mem_of_getElem? (i := 586) (by decide +kernel))) rfl
theorem lk_X6_212 : Cond.methodLink RX6 212 yX0_passDay ∈ GW := gw_of (List.mem_append_right _ (List.mem_of_getElem? (i := 587) (by decide +kernel))) rfl
theorem lk_L_120 : Cond.methodLink RL 120 yX6_odds ∈ GW := gw_of (List.mem_append_right _ (List.mem_of_getElem? (i := 588) (by decide +kernel))) rfl
theorem in_X6_odds : Cond.instanceMethod yX6_odds ∈ GW := gw_of (List.mem_append_right _ (List.mem_of_getElem? (i := 589) (by decide +kernel))) rfl
theorem se_X6_odds : Cond.selects yX6_odds.cls yX6_odds yX6_odds ∈ GW := gw_of (List.mem_append_right _ (List.mem_of_getElem? (i := 590) (by decide +kernel))) rfl
theorem lk_X6_218 : Cond.methodLink RX6 218 yJ6_bitCount_0f7a4 ∈ GW := gw_of (List.mem_append_right _ (List.mem_of_getElem? (i := 592) (by decide +kernel))) rfl
theorem lk_X6_222 : Cond.methodLink RX6 222 yX6_power ∈ GW := gw_of (List.mem_append_right _ (List.mem_of_getElem? (i := 593) (by decide +kernel))) rfl
theorem st_X6_power : Cond.static yX6_power ∈ GW := gw_of (List.mem_append_right _ (List.mem_of_getElem? (i := 594) (by decide +kernel))) rfl
theorem lk_L_125 : Cond.methodLink RL 125 yX6_seed ∈ GW := gw_of (List.mem_append_right _ (List.mem_of_getElem? (i := 596) (by decide +kernel))) rfl
theorem in_X6_seed : Cond.instanceMethod yX6_seed ∈ GW := gw_of (List.mem_append_right _ (List.mem_of_getElem? (i := 597) (by decide +kernel))) rfl
theorem se_X6_seed : Cond.selects yX6_seed.cls yX6_seed yX6_seed ∈ GW := gw_of (List.mem_append_right _ (List.mem_of_getElem? (i := 598) (by decide +kernel))) rfl
theorem lk_L_129 : Cond.methodLink RL 129 yX6_feed ∈ GW := gw_of (List.mem_append_right _ (List.mem_of_getElem? (i := 600) (by decide +kernel))) rfl
theorem in_X6_feed : Cond.instanceMethod yX6_feed ∈ GW := gw_of (List.mem_append_right _ (List.mem_of_getElem? (i := 601) (by decide +kernel))) rfl
theorem se_X6_feed : Cond.selects yX6_feed.cls yX6_feed yX6_feed ∈ GW := gw_of (List.mem_append_right _ (List.mem_of_getElem? (i := 602) (by decide +kernel))) rfl
theorem lk_X6_233 : Cond.methodLink RX6 233 yX5_append ∈ GW := gw_of (List.mem_append_right _ (List.mem_of_getElem? (i := 604) (by decide +kernel))) rfl
theorem in_X5_append : Cond.instanceMethod yX5_append ∈ GW := gw_of (List.mem_append_right _ (List.mem_of_getElem? (i := 605) (by decide +kernel))) rfl
theorem se_X5_append : Cond.selects yX5_append.cls yX5_append yX5_append ∈ GW := gw_of (List.mem_append_right _ (List.mem_of_getElem? (i := 606) (by decide +kernel))) rfl
theorem lk_L_133 : Cond.methodLink RL 133 yX6_wipe ∈ GW := gw_of (List.mem_append_right _ (List.mem_of_getElem? (i := 608) (by decide +kernel))) rfl
theorem in_X6_wipe : Cond.instanceMethod yX6_wipe ∈ GW := gw_of (List.mem_append_right _ (List.mem_of_getElem? (i := 609) (by decide +kernel))) rfl
theorem se_X6_wipe : Cond.selects yX6_wipe.cls yX6_wipe yX6_wipe ∈ GW := gw_of (List.mem_append_right _ (List.mem_of_getElem? (i := 610) (by decide +kernel))) rfl
theorem lk_X6_241 : Cond.methodLink RX6 241 yX5_empty ∈ GW := gw_of (List.mem_append_right _ (List.mem_of_getElem? (i := 612) (by decide +kernel))) rfl
theorem in_X5_empty : Cond.instanceMethod yX5_empty ∈ GW := gw_of (List.mem_append_right _ (List.mem_of_getElem? (i := 613) (by decide +kernel))) rfl
theorem se_X5_empty : Cond.selects yX5_empty.cls yX5_empty yX5_empty ∈ GW := gw_of (List.mem_append_right _ (List.mem_of_getElem? (i := 614) (by decide +kernel))) rfl
theorem lk_L_138 : Cond.methodLink RL 138 yX6_text ∈ GW := gw_of (List.mem_append_right _ (List.mem_of_getElem? (i := 616) (by decide +kernel))) rfl
theorem in_X6_text : Cond.instanceMethod yX6_text ∈ GW := gw_of (List.mem_append_right _ (List.mem_of_getElem? (i := 617) (by decide +kernel))) rfl
theorem se_X6_text : Cond.selects yX6_text.cls yX6_text yX6_text ∈ GW := gw_of (List.mem_append_right _ (List.mem_of_getElem? (i := 618) (by decide +kernel))) rfl
theorem lk_X6_244 : Cond.methodLink RX6 244 yX3_dreamOf ∈ GW := gw_of (List.mem_append_right _ (List.mem_of_getElem? (i := 620) (by decide +kernel))) rfl
theorem in_X3_dreamOf : Cond.instanceMethod yX3_dreamOf ∈ GW := gw_of (List.mem_append_right _ (List.mem_of_getElem? (i := 621) (by decide +kernel))) rfl
theorem se_X3_dreamOf : Cond.selects yX3_dreamOf.cls yX3_dreamOf yX3_dreamOf ∈ GW := gw_of (List.mem_append_right _ (List.mem_of_getElem? (i := 622) (by decide +kernel))) rfl
theorem lk_X6_248 : Cond.methodLink RX6 248 yX2_readInto ∈ GW := gw_of (List.mem_append_right _ (List.mem_of_getElem? (i := 624) (by decide +kernel))) rfl
theorem in_X2_readInto : Cond.instanceMethod yX2_readInto ∈ GW := gw_of (List.mem_append_right _ (List.mem_of_getElem? (i := 625) (by decide +kernel))) rfl
theorem se_X2_readInto : Cond.selects yX2_readInto.cls yX2_readInto yX2_readInto ∈ GW := gw_of (List.mem_append_right _ (List.mem_of_getElem? (i := 626) (by decide +kernel))) rfl
theorem lk_X2_34 : Cond.methodLink RX2 34 yX2_advance ∈ GW := gw_of (List.mem_append_right _ (List.mem_of_getElem? (i := 628) (by decide +kernel))) rfl
theorem in_X2_advance : Cond.instanceMethod yX2_advance ∈ GW := gw_of (List.mem_append_right _ (List.mem_of_getElem? (i := 630) (by decide +kernel))) rfl
theorem lk_X2_135 : Cond.methodLink RX2 135 yX5_byteAt ∈ GW := gw_of (List.mem_append_right _ (List.mem_of_getElem? (i := 632) (by decide +kernel))) rfl
theorem in_X5_byteAt : Cond.instanceMethod yX5_byteAt ∈ GW := gw_of (List.mem_append_right _ (List.mem_of_getElem? (i := 633) (by decide +kernel))) rfl
theorem se_X5_byteAt : Cond.selects yX5_byteAt.cls yX5_byteAt yX5_byteAt ∈ GW := gw_of (List.mem_append_right _ (List.mem_of_getElem? (i := 634) (by decide +kernel))) rfl
theorem lk_X2_143 : Cond.methodLink RX2 143 yX2_isLetter ∈ GW := gw_of (List.mem_append_right _ (List.mem_of_getElem? (i := 636) (by decide +kernel))) rfl
theorem st_X2_isLetter : Cond.static yX2_isLetter ∈ GW := gw_of (List.mem_append_right _ (List.mem_of_getElem? (i := 637) (by decide +kernel))) rfl
theorem lk_X2_146 : Cond.methodLink RX2 146 yX2_isDigit ∈ GW := gw_of (List.mem_append_right _ (List.mem_of_getElem? (i := 639) (by decide +kernel))) rfl
theorem st_X2_isDigit : Cond.static yX2_isDigit ∈ GW := gw_of (List.mem_append_right _ (List.mem_of_getElem? (i := 640) (by decide +kernel))) rfl
theorem lk_X2_149 : Cond.methodLink RX2 149 yJ9_min_7cf53 ∈ GW := gw_of (List.mem_append_right _ (List.mem_of_getElem? (i := 642) (by decide +kernel))) rfl
theorem lk_X2_37 : Cond.methodLink RX2 37 yX2_readItem ∈ GW := gw_of (List.mem_append_right _ (List.mem_of_getElem? (i := 643) (by decide +kernel))) rfl
theorem in_X2_readItem : Cond.instanceMethod yX2_readItem ∈ GW := gw_of (List.mem_append_right _ (List.mem_of_getElem? (i := 645) (by decide +kernel))) rfl
theorem lk_X2_43 : Cond.methodLink RX2 43 yX2_isWord ∈ GW := gw_of (List.mem_append_right _ (List.mem_of_getElem? (i := 648) (by decide +kernel))) rfl
theorem in_X2_isWord : Cond.instanceMethod yX2_isWord ∈ GW := gw_of (List.mem_append_right _ (List.mem_of_getElem? (i := 650) (by decide +kernel))) rfl
theorem lk_X2_130 : Cond.methodLink RX2 130 yJ0_length_8abf5 ∈ GW := gw_of (List.mem_append_right _ (List.mem_of_getElem? (i := 652) (by decide +kernel))) rfl
theorem in_J0_length_8abf5 : Cond.instanceMethod yJ0_length_8abf5 ∈ GW := gw_of (List.mem_append_right _ (List.mem_of_getElem? (i := 653) (by decide +kernel))) rfl
theorem se_J0_length_8abf5 : Cond.selects yJ0_length_8abf5.cls yJ0_length_8abf5 yJ0_length_8abf5 ∈ GW := gw_of (List.mem_append_right _ (List.mem_of_getElem? (i := 654) (by decide +kernel))) rfl
theorem lk_J0_335 : Cond.methodLink RJ0 335 yJ0_coder_7d493 ∈ GW := gw_of (List.mem_append_right _ (List.mem_of_getElem? (i := 656) (by decide +kernel))) rfl
theorem in_J0_coder_7d493 : Cond.instanceMethod yJ0_coder_7d493 ∈ GW := gw_of (List.mem_append_right _ (List.mem_of_getElem? (i := 657) (by decide +kernel))) rfl
theorem se_J0_coder_7d493 : Cond.selects yJ0_coder_7d493.cls yJ0_coder_7d493 yJ0_coder_7d493 ∈ GW := gw_of (List.mem_append_right _ (List.mem_of_getElem? (i := 658) (by decide +kernel))) rfl
theorem lk_X2_139 : Cond.methodLink RX2 139 yJ0_charAt_5068e ∈ GW := gw_of (List.mem_append_right _ (List.mem_of_getElem? (i := 662) (by decide +kernel))) rfl
theorem in_J0_charAt_5068e : Cond.instanceMethod yJ0_charAt_5068e ∈ GW := gw_of (List.mem_append_right _ (List.mem_of_getElem? (i := 663) (by decide +kernel))) rfl
theorem se_J0_charAt_5068e : Cond.selects yJ0_charAt_5068e.cls yJ0_charAt_5068e yJ0_charAt_5068e ∈ GW := gw_of (List.mem_append_right _ (List.mem_of_getElem? (i := 664) (by decide +kernel))) rfl
theorem lk_J0_492 : Cond.methodLink RJ0 492 yJ0_isLatin1_aae02 ∈ GW := gw_of (List.mem_append_right _ (List.mem_of_getElem? (i := 666) (by decide +kernel))) rfl
theorem in_J0_isLatin1_aae02 : Cond.instanceMethod yJ0_isLatin1_aae02 ∈ GW := gw_of (List.mem_append_right _ (List.mem_of_getElem? (i := 667) (by decide +kernel))) rfl
theorem se_J0_isLatin1_aae02 : Cond.selects yJ0_isLatin1_aae02.cls yJ0_isLatin1_aae02 yJ0_isLatin1_aae02 ∈ GW := gw_of (List.mem_append_right _ (List.mem_of_getElem? (i := 668) (by decide +kernel))) rfl
theorem lk_J0_495 : Cond.methodLink RJ0 495 yJ1_charAt_3b067 ∈ GW := gw_of (List.mem_append_right _ (List.mem_of_getElem? (i := 670) (by decide +kernel))) rfl
theorem st_J1_charAt_3b067 : Cond.static yJ1_charAt_3b067 ∈ GW := gw_of (List.mem_append_right _ (List.mem_of_getElem? (i := 671) (by decide +kernel))) rfl
theorem lk_J1_9 : Cond.methodLink RJ1 9 yJ0_checkIndex_df160 ∈ GW := gw_of (List.mem_append_right _ (List.mem_of_getElem? (i := 673) (by decide +kernel))) rfl
theorem st_J0_checkIndex_df160 : Cond.static yJ0_checkIndex_df160 ∈ GW := gw_of (List.mem_append_right _ (List.mem_of_getElem? (i := 674) (by decide +kernel))) rfl
theorem lk_J0_1059 : Cond.methodLink RJ0 1059 yJ3_checkIndex_8e157 ∈ GW := gw_of (List.mem_append_right _ (List.mem_of_getElem? (i := 678) (by decide +kernel))) rfl
theorem st_J3_checkIndex_8e157 : Cond.static yJ3_checkIndex_8e157 ∈ GW := gw_of (List.mem_append_right _ (List.mem_of_getElem? (i := 679) (by decide +kernel))) rfl
theorem lk_J0_498 : Cond.methodLink RJ0 498 yJ2_charAt_3b067 ∈ GW := gw_of (List.mem_append_right _ (List.mem_of_getElem? (i := 681) (by decide +kernel))) rfl
theorem st_J2_charAt_3b067 : Cond.static yJ2_charAt_3b067 ∈ GW := gw_of (List.mem_append_right _ (List.mem_of_getElem? (i := 682) (by decide +kernel))) rfl
theorem lk_J2_67 : Cond.methodLink RJ2 67 yJ2_checkIndex_2214a ∈ GW := gw_of (List.mem_append_right _ (List.mem_of_getElem? (i := 684) (by decide +kernel))) rfl
theorem st_J2_checkIndex_2214a : Cond.static yJ2_checkIndex_2214a ∈ GW := gw_of (List.mem_append_right _ (List.mem_of_getElem? (i := 685) (by decide +kernel))) rfl
theorem lk_J2_48 : Cond.methodLink RJ2 48 yJ2_length_9d52b ∈ GW := gw_of (List.mem_append_right _ (List.mem_of_getElem? (i := 687) (by decide +kernel))) rfl
theorem st_J2_length_9d52b : Cond.static yJ2_length_9d52b ∈ GW := gw_of (List.mem_append_right _ (List.mem_of_getElem? (i := 688) (by decide +kernel))) rfl
theorem lk_J2_414 : Cond.methodLink RJ2 414 yJ0_checkIndex_df160 ∈ GW := gw_of (List.mem_append_right _ (List.mem_of_getElem? (i := 690) (by decide +kernel))) rfl
theorem lk_J2_71 : Cond.methodLink RJ2 71 yJ2_getChar_3b067 ∈ GW := gw_of (List.mem_append_right _ (List.mem_of_getElem? (i := 691) (by decide +kernel))) rfl
theorem st_J2_getChar_3b067 : Cond.static yJ2_getChar_3b067 ∈ GW := gw_of (List.mem_append_right _ (List.mem_of_getElem? (i := 692) (by decide +kernel))) rfl
theorem lk_X2_47 : Cond.methodLink RX2 47 yX2_readTold ∈ GW := gw_of (List.mem_append_right _ (List.mem_of_getElem? (i := 700) (by decide +kernel))) rfl
theorem in_X2_readTold : Cond.instanceMethod yX2_readTold ∈ GW := gw_of (List.mem_append_right _ (List.mem_of_getElem? (i := 702) (by decide +kernel))) rfl
theorem lk_X2_63 : Cond.methodLink RX2 63 yX2_readNumber ∈ GW := gw_of (List.mem_append_right _ (List.mem_of_getElem? (i := 704) (by decide +kernel))) rfl
theorem in_X2_readNumber : Cond.instanceMethod yX2_readNumber ∈ GW := gw_of (List.mem_append_right _ (List.mem_of_getElem? (i := 706) (by decide +kernel))) rfl
theorem ln_X2_73 : Cond.methodLinkNest RX2 73 yX6_within RX6 ∈ NL := nl_of (List.mem_append_right _ (List.mem_of_getElem? (i := 708) (by decide +kernel))) rfl
theorem ln_X2_81 : Cond.methodLinkNest RX2 81 yX6_confessionOf RX6 ∈ NL := nl_of (List.mem_append_right _ (List.mem_of_getElem? (i := 709) (by decide +kernel))) rfl
theorem lk_X2_52 : Cond.methodLink RX2 52 yX2_readWater ∈ GW := gw_of (List.mem_append_right _ (List.mem_of_getElem? (i := 711) (by decide +kernel))) rfl
theorem in_X2_readWater : Cond.instanceMethod yX2_readWater ∈ GW := gw_of (List.mem_append_right _ (List.mem_of_getElem? (i := 713) (by decide +kernel))) rfl
theorem lk_X2_57 : Cond.methodLink RX2 57 yX2_readOut ∈ GW := gw_of (List.mem_append_right _ (List.mem_of_getElem? (i := 716) (by decide +kernel))) rfl
theorem in_X2_readOut : Cond.instanceMethod yX2_readOut ∈ GW := gw_of (List.mem_append_right _ (List.mem_of_getElem? (i := 718) (by decide +kernel))) rfl
theorem lk_X2_60 : Cond.methodLink RX2 60 yX2_readPriest ∈ GW := gw_of (List.mem_append_right _ (List.mem_of_getElem? (i := 720) (by decide +kernel))) rfl
theorem in_X2_readPriest : Cond.instanceMethod yX2_readPriest ∈ GW := gw_of (List.mem_append_right _ (List.mem_of_getElem? (i := 722) (by decide +kernel))) rfl
theorem lk_X2_85 : Cond.methodLink RX2 85 yX2_kindAtHand ∈ GW := gw_of (List.mem_append_right _ (List.mem_of_getElem? (i := 724) (by decide +kernel))) rfl
theorem in_X2_kindAtHand : Cond.instanceMethod yX2_kindAtHand ∈ GW := gw_of (List.mem_append_right _ (List.mem_of_getElem? (i := 726) (by decide +kernel))) rfl
theorem lk_X2_112 : Cond.methodLink RX2 112 yX2_wordOf ∈ GW := gw_of (List.mem_append_right _ (List.mem_of_getElem? (i := 728) (by decide +kernel))) rfl
theorem st_X2_wordOf : Cond.static yX2_wordOf ∈ GW := gw_of (List.mem_append_right _ (List.mem_of_getElem? (i := 729) (by decide +kernel))) rfl
theorem lk_X2_89 : Cond.methodLink RX2 89 yX0_welcome ∈ GW := gw_of (List.mem_append_right _ (List.mem_of_getElem? (i := 738) (by decide +kernel))) rfl
theorem lk_X2_92 : Cond.methodLink RX2 92 yX0_at ∈ GW := gw_of (List.mem_append_right _ (List.mem_of_getElem? (i := 739) (by decide +kernel))) rfl
theorem lk_X2_100 : Cond.methodLink RX2 100 yX2_readPerhaps ∈ GW := gw_of (List.mem_append_right _ (List.mem_of_getElem? (i := 741) (by decide +kernel))) rfl
theorem in_X2_readPerhaps : Cond.instanceMethod yX2_readPerhaps ∈ GW := gw_of (List.mem_append_right _ (List.mem_of_getElem? (i := 743) (by decide +kernel))) rfl
theorem lk_X2_108 : Cond.methodLink RX2 108 yX1_put ∈ GW := gw_of (List.mem_append_right _ (List.mem_of_getElem? (i := 745) (by decide +kernel))) rfl
theorem lk_X6_255 : Cond.methodLink RX6 255 yX0_becomeLike ∈ GW := gw_of (List.mem_append_right _ (List.mem_of_getElem? (i := 748) (by decide +kernel))) rfl
theorem lk_L_142 : Cond.methodLink RL 142 yX6_hold ∈ GW := gw_of (List.mem_append_right _ (List.mem_of_getElem? (i := 749) (by decide +kernel))) rfl
theorem in_X6_hold : Cond.instanceMethod yX6_hold ∈ GW := gw_of (List.mem_append_right _ (List.mem_of_getElem? (i := 750) (by decide +kernel))) rfl
theorem se_X6_hold : Cond.selects yX6_hold.cls yX6_hold yX6_hold ∈ GW := gw_of (List.mem_append_right _ (List.mem_of_getElem? (i := 751) (by decide +kernel))) rfl
theorem lk_L_146 : Cond.methodLink RL 146 yX6_as ∈ GW := gw_of (List.mem_append_right _ (List.mem_of_getElem? (i := 753) (by decide +kernel))) rfl
theorem in_X6_as : Cond.instanceMethod yX6_as ∈ GW := gw_of (List.mem_append_right _ (List.mem_of_getElem? (i := 754) (by decide +kernel))) rfl
theorem se_X6_as : Cond.selects yX6_as.cls yX6_as yX6_as ∈ GW := gw_of (List.mem_append_right _ (List.mem_of_getElem? (i := 755) (by decide +kernel))) rfl
theorem lk_X6_266 : Cond.methodLink RX6 266 yX1_isOneOf ∈ GW := gw_of (List.mem_append_right _ (List.mem_of_getElem? (i := 757) (by decide +kernel))) rfl
theorem in_X1_isOneOf : Cond.instanceMethod yX1_isOneOf ∈ GW := gw_of (List.mem_append_right _ (List.mem_of_getElem? (i := 758) (by decide +kernel))) rfl
theorem se_X1_isOneOf : Cond.selects yX1_isOneOf.cls yX1_isOneOf yX1_isOneOf ∈ GW := gw_of (List.mem_append_right _ (List.mem_of_getElem? (i := 759) (by decide +kernel))) rfl
theorem kc_X6_269 : Cond.constant RX6 269 (-1000003) ∈ GW := gw_of (List.mem_append_right _ (List.mem_of_getElem? (i := 763) (by decide +kernel))) rfl
theorem lk_L_150 : Cond.methodLink RL 150 yX6_sheet ∈ GW := gw_of (List.mem_append_right _ (List.mem_of_getElem? (i := 764) (by decide +kernel))) rfl
theorem in_X6_sheet : Cond.instanceMethod yX6_sheet ∈ GW := gw_of (List.mem_append_right _ (List.mem_of_getElem? (i := 765) (by decide +kernel))) rfl
theorem se_X6_sheet : Cond.selects yX6_sheet.cls yX6_sheet yX6_sheet ∈ GW := gw_of (List.mem_append_right _ (List.mem_of_getElem? (i := 766) (by decide +kernel))) rfl
theorem lk_X6_270 : Cond.methodLink RX6 270 yX4_mayHaveBits ∈ GW := gw_of (List.mem_append_right _ (List.mem_of_getElem? (i := 768) (by decide +kernel))) rfl
theorem st_X4_mayHaveBits : Cond.static yX4_mayHaveBits ∈ GW := gw_of (List.mem_append_right _ (List.mem_of_getElem? (i := 769) (by decide +kernel))) rfl
theorem kc_X6_273 : Cond.constant RX6 273 (-1000007) ∈ GW := gw_of (List.mem_append_right _ (List.mem_of_getElem? (i := 771) (by decide +kernel))) rfl
theorem lk_X6_274 : Cond.methodLink RX6 274 yX4_begin ∈ GW := gw_of (List.mem_append_right _ (List.mem_of_getElem? (i := 772) (by decide +kernel))) rfl
theorem in_X4_begin : Cond.instanceMethod yX4_begin ∈ GW := gw_of (List.mem_append_right _ (List.mem_of_getElem? (i := 773) (by decide +kernel))) rfl
theorem se_X4_begin : Cond.selects yX4_begin.cls yX4_begin yX4_begin ∈ GW := gw_of (List.mem_append_right _ (List.mem_of_getElem? (i := 774) (by decide +kernel))) rfl
theorem lk_X4_22 : Cond.methodLink RX4 22 yJ9_max_7cf53 ∈ GW := gw_of (List.mem_append_right _ (List.mem_of_getElem? (i := 776) (by decide +kernel))) rfl
theorem lk_X4_28 : Cond.methodLink RX4 28 yJ9_min_7cf53 ∈ GW := gw_of (List.mem_append_right _ (List.mem_of_getElem? (i := 777) (by decide +kernel))) rfl
theorem lk_L_154 : Cond.methodLink RL 154 yX6_write ∈ GW := gw_of (List.mem_append_right _ (List.mem_of_getElem? (i := 778) (by decide +kernel))) rfl
theorem in_X6_write : Cond.instanceMethod yX6_write ∈ GW := gw_of (List.mem_append_right _ (List.mem_of_getElem? (i := 779) (by decide +kernel))) rfl
theorem se_X6_write : Cond.selects yX6_write.cls yX6_write yX6_write ∈ GW := gw_of (List.mem_append_right _ (List.mem_of_getElem? (i := 780) (by decide +kernel))) rfl
theorem lk_X6_284 : Cond.methodLink RX6 284 yX4_put ∈ GW := gw_of (List.mem_append_right _ (List.mem_of_getElem? (i := 782) (by decide +kernel))) rfl
theorem in_X4_put : Cond.instanceMethod yX4_put ∈ GW := gw_of (List.mem_append_right _ (List.mem_of_getElem? (i := 783) (by decide +kernel))) rfl
theorem se_X4_put : Cond.selects yX4_put.cls yX4_put yX4_put ∈ GW := gw_of (List.mem_append_right _ (List.mem_of_getElem? (i := 784) (by decide +kernel))) rfl
theorem lk_X4_31 : Cond.methodLink RX4 31 yX4_cut ∈ GW := gw_of (List.mem_append_right _ (List.mem_of_getElem? (i := 786) (by decide +kernel))) rfl
theorem in_X4_cut : Cond.instanceMethod yX4_cut ∈ GW := gw_of (List.mem_append_right _ (List.mem_of_getElem? (i := 788) (by decide +kernel))) rfl
theorem lk_L_158 : Cond.methodLink RL 158 yX6_copy ∈ GW := gw_of (List.mem_append_right _ (List.mem_of_getElem? (i := 790) (by decide +kernel))) rfl
theorem in_X6_copy : Cond.instanceMethod yX6_copy ∈ GW := gw_of (List.mem_append_right _ (List.mem_of_getElem? (i := 791) (by decide +kernel))) rfl
theorem se_X6_copy : Cond.selects yX6_copy.cls yX6_copy yX6_copy ∈ GW := gw_of (List.mem_append_right _ (List.mem_of_getElem? (i := 792) (by decide +kernel))) rfl
theorem lk_X6_293 : Cond.methodLink RX6 293 yX4_has ∈ GW := gw_of (List.mem_append_right _ (List.mem_of_getElem? (i := 794) (by decide +kernel))) rfl
theorem in_X4_has : Cond.instanceMethod yX4_has ∈ GW := gw_of (List.mem_append_right _ (List.mem_of_getElem? (i := 795) (by decide +kernel))) rfl
theorem se_X4_has : Cond.selects yX4_has.cls yX4_has yX4_has ∈ GW := gw_of (List.mem_append_right _ (List.mem_of_getElem? (i := 796) (by decide +kernel))) rfl
theorem lk_X6_299 : Cond.methodLink RX6 299 arraycopyName ∈ GW := gw_of (List.mem_append_right _ (List.mem_of_getElem? (i := 798) (by decide +kernel))) rfl
theorem lk_L_163 : Cond.methodLink RL 163 yX6_load ∈ GW := gw_of (List.mem_append_right _ (List.mem_of_getElem? (i := 799) (by decide +kernel))) rfl
theorem in_X6_load : Cond.instanceMethod yX6_load ∈ GW := gw_of (List.mem_append_right _ (List.mem_of_getElem? (i := 800) (by decide +kernel))) rfl
theorem se_X6_load : Cond.selects yX6_load.cls yX6_load yX6_load ∈ GW := gw_of (List.mem_append_right _ (List.mem_of_getElem? (i := 801) (by decide +kernel))) rfl
theorem lk_L_167 : Cond.methodLink RL 167 yX6_judge ∈ GW := gw_of (List.mem_append_right _ (List.mem_of_getElem? (i := 803) (by decide +kernel))) rfl
theorem in_X6_judge : Cond.instanceMethod yX6_judge ∈ GW := gw_of (List.mem_append_right _ (List.mem_of_getElem? (i := 804) (by decide +kernel))) rfl
theorem se_X6_judge : Cond.selects yX6_judge.cls yX6_judge yX6_judge ∈ GW := gw_of (List.mem_append_right _ (List.mem_of_getElem? (i := 805) (by decide +kernel))) rfl
theorem lk_L_171 : Cond.methodLink RL 171 yX6_image ∈ GW := gw_of (List.mem_append_right _ (List.mem_of_getElem? (i := 807) (by decide +kernel))) rfl
theorem in_X6_image : Cond.instanceMethod yX6_image ∈ GW := gw_of (List.mem_append_right _ (List.mem_of_getElem? (i := 808) (by decide +kernel))) rfl
theorem se_X6_image : Cond.selects yX6_image.cls yX6_image yX6_image ∈ GW := gw_of (List.mem_append_right _ (List.mem_of_getElem? (i := 809) (by decide +kernel))) rfl
theorem lk_L_175 : Cond.methodLink RL 175 yX6_undo ∈ GW := gw_of (List.mem_append_right _ (List.mem_of_getElem? (i := 811) (by decide +kernel))) rfl
theorem in_X6_undo : Cond.instanceMethod yX6_undo ∈ GW := gw_of (List.mem_append_right _ (List.mem_of_getElem? (i := 812) (by decide +kernel))) rfl
theorem se_X6_undo : Cond.selects yX6_undo.cls yX6_undo yX6_undo ∈ GW := gw_of (List.mem_append_right _ (List.mem_of_getElem? (i := 813) (by decide +kernel))) rfl
theorem lk_L_179 : Cond.methodLink RL 179 yX6_tear ∈ GW := gw_of (List.mem_append_right _ (List.mem_of_getElem? (i := 815) (by decide +kernel))) rfl
theorem in_X6_tear : Cond.instanceMethod yX6_tear ∈ GW := gw_of (List.mem_append_right _ (List.mem_of_getElem? (i := 816) (by decide +kernel))) rfl
theorem se_X6_tear : Cond.selects yX6_tear.cls yX6_tear yX6_tear ∈ GW := gw_of (List.mem_append_right _ (List.mem_of_getElem? (i := 817) (by decide +kernel))) rfl
theorem lk_L_183 : Cond.methodLink RL 183 yX6_count ∈ GW := gw_of (List.mem_append_right _ (List.mem_of_getElem? (i := 819) (by decide +kernel))) rfl
theorem in_X6_count : Cond.instanceMethod yX6_count ∈ GW := gw_of (List.mem_append_right _ (List.mem_of_getElem? (i := 820) (by decide +kernel))) rfl
theorem se_X6_count : Cond.selects yX6_count.cls yX6_count yX6_count ∈ GW := gw_of (List.mem_append_right _ (List.mem_of_getElem? (i := 821) (by decide +kernel))) rfl
theorem lk_X6_308 : Cond.methodLink RX6 308 yX0_spotsInUse ∈ GW := gw_of (List.mem_append_right _ (List.mem_of_getElem? (i := 823) (by decide +kernel))) rfl
theorem in_X0_spotsInUse : Cond.instanceMethod yX0_spotsInUse ∈ GW := gw_of (List.mem_append_right _ (List.mem_of_getElem? (i := 824) (by decide +kernel))) rfl
theorem se_X0_spotsInUse : Cond.selects yX0_spotsInUse.cls yX0_spotsInUse yX0_spotsInUse ∈ GW := gw_of (List.mem_append_right _ (List.mem_of_getElem? (i := 825) (by decide +kernel))) rfl
theorem lk_L_187 : Cond.methodLink RL 187 yX6_status ∈ GW := gw_of (List.mem_append_right _ (List.mem_of_getElem? (i := 827) (by decide +kernel))) rfl
theorem in_X6_status : Cond.instanceMethod yX6_status ∈ GW := gw_of (List.mem_append_right _ (List.mem_of_getElem? (i := 828) (by decide +kernel))) rfl
theorem se_X6_status : Cond.selects yX6_status.cls yX6_status yX6_status ∈ GW := gw_of (List.mem_append_right _ (List.mem_of_getElem? (i := 829) (by decide +kernel))) rfl
theorem lk_L_12 : Cond.methodLink RL 12 yX7_init ∈ GW := gw_of (List.mem_append_right _ (List.mem_of_getElem? (i := 833) (by decide +kernel))) rfl
theorem in_X7_init : Cond.instanceMethod yX7_init ∈ GW := gw_of (List.mem_append_right _ (List.mem_of_getElem? (i := 834) (by decide +kernel))) rfl
theorem lo_X7_1 : Cond.methodLink RX7 1 objectInit ∈ GW := gw_of (List.mem_append_right _ (List.mem_of_getElem? (i := 836) (by decide +kernel))) rfl
theorem lk_L_17 : Cond.methodLink RL 17 yX7_set ∈ GW := gw_of (List.mem_append_right _ (List.mem_of_getElem? (i := 889) (by decide +kernel))) rfl
theorem in_X7_set : Cond.instanceMethod yX7_set ∈ GW := gw_of (List.mem_append_right _ (List.mem_of_getElem? (i := 890) (by decide +kernel))) rfl
theorem se_X7_set : Cond.selects yX7_set.cls yX7_set yX7_set ∈ GW := gw_of (List.mem_append_right _ (List.mem_of_getElem? (i := 891) (by decide +kernel))) rfl
theorem kl_X7_101 : Cond.constantLong RX7 101 (9) ∈ GW := gw_of (List.mem_append_right _ (List.mem_of_getElem? (i := 893) (by decide +kernel))) rfl
theorem lk_X7_42 : Cond.methodLink RX7 42 yX7_in ∈ GW := gw_of (List.mem_append_right _ (List.mem_of_getElem? (i := 894) (by decide +kernel))) rfl
theorem st_X7_in : Cond.static yX7_in ∈ GW := gw_of (List.mem_append_right _ (List.mem_of_getElem? (i := 895) (by decide +kernel))) rfl
theorem lk_X7_103 : Cond.methodLink RX7 103 yX7_areSins ∈ GW := gw_of (List.mem_append_right _ (List.mem_of_getElem? (i := 897) (by decide +kernel))) rfl
theorem st_X7_areSins : Cond.static yX7_areSins ∈ GW := gw_of (List.mem_append_right _ (List.mem_of_getElem? (i := 898) (by decide +kernel))) rfl
theorem kl_X7_50 : Cond.constantLong RX7 50 (255) ∈ GW := gw_of (List.mem_append_right _ (List.mem_of_getElem? (i := 900) (by decide +kernel))) rfl
theorem lk_X7_106 : Cond.methodLink RX7 106 yX7_becomes ∈ GW := gw_of (List.mem_append_right _ (List.mem_of_getElem? (i := 901) (by decide +kernel))) rfl
theorem in_X7_becomes : Cond.instanceMethod yX7_becomes ∈ GW := gw_of (List.mem_append_right _ (List.mem_of_getElem? (i := 903) (by decide +kernel))) rfl
theorem lk_X7_109 : Cond.methodLink RX7 109 yX7_finds ∈ GW := gw_of (List.mem_append_right _ (List.mem_of_getElem? (i := 905) (by decide +kernel))) rfl
theorem in_X7_finds : Cond.instanceMethod yX7_finds ∈ GW := gw_of (List.mem_append_right _ (List.mem_of_getElem? (i := 907) (by decide +kernel))) rfl
theorem kc_X7_41 : Cond.constant RX7 41 (-1000001) ∈ GW := gw_of (List.mem_append_right _ (List.mem_of_getElem? (i := 909) (by decide +kernel))) rfl
theorem lk_L_21 : Cond.methodLink RL 21 yX7_list ∈ GW := gw_of (List.mem_append_right _ (List.mem_of_getElem? (i := 910) (by decide +kernel))) rfl
theorem in_X7_list : Cond.instanceMethod yX7_list ∈ GW := gw_of (List.mem_append_right _ (List.mem_of_getElem? (i := 911) (by decide +kernel))) rfl
theorem se_X7_list : Cond.selects yX7_list.cls yX7_list yX7_list ∈ GW := gw_of (List.mem_append_right _ (List.mem_of_getElem? (i := 912) (by decide +kernel))) rfl
theorem lk_X7_112 : Cond.methodLink RX7 112 yX7_isPlace ∈ GW := gw_of (List.mem_append_right _ (List.mem_of_getElem? (i := 914) (by decide +kernel))) rfl
theorem st_X7_isPlace : Cond.static yX7_isPlace ∈ GW := gw_of (List.mem_append_right _ (List.mem_of_getElem? (i := 915) (by decide +kernel))) rfl
theorem kl_X7_48 : Cond.constantLong RX7 48 (5) ∈ GW := gw_of (List.mem_append_right _ (List.mem_of_getElem? (i := 917) (by decide +kernel))) rfl
theorem lk_X7_115 : Cond.methodLink RX7 115 yX7_isConfession ∈ GW := gw_of (List.mem_append_right _ (List.mem_of_getElem? (i := 918) (by decide +kernel))) rfl
theorem st_X7_isConfession : Cond.static yX7_isConfession ∈ GW := gw_of (List.mem_append_right _ (List.mem_of_getElem? (i := 919) (by decide +kernel))) rfl
theorem kl_X7_52 : Cond.constantLong RX7 52 (740) ∈ GW := gw_of (List.mem_append_right _ (List.mem_of_getElem? (i := 921) (by decide +kernel))) rfl
theorem lk_L_26 : Cond.methodLink RL 26 yX7_listed ∈ GW := gw_of (List.mem_append_right _ (List.mem_of_getElem? (i := 922) (by decide +kernel))) rfl
theorem in_X7_listed : Cond.instanceMethod yX7_listed ∈ GW := gw_of (List.mem_append_right _ (List.mem_of_getElem? (i := 923) (by decide +kernel))) rfl
theorem se_X7_listed : Cond.selects yX7_listed.cls yX7_listed yX7_listed ∈ GW := gw_of (List.mem_append_right _ (List.mem_of_getElem? (i := 924) (by decide +kernel))) rfl
theorem lk_L_30 : Cond.methodLink RL 30 yX7_priest ∈ GW := gw_of (List.mem_append_right _ (List.mem_of_getElem? (i := 926) (by decide +kernel))) rfl
theorem in_X7_priest : Cond.instanceMethod yX7_priest ∈ GW := gw_of (List.mem_append_right _ (List.mem_of_getElem? (i := 927) (by decide +kernel))) rfl
theorem se_X7_priest : Cond.selects yX7_priest.cls yX7_priest yX7_priest ∈ GW := gw_of (List.mem_append_right _ (List.mem_of_getElem? (i := 928) (by decide +kernel))) rfl
theorem kl_X7_118 : Cond.constantLong RX7 118 (6) ∈ GW := gw_of (List.mem_append_right _ (List.mem_of_getElem? (i := 930) (by decide +kernel))) rfl
theorem lk_X7_120 : Cond.methodLink RX7 120 yX7_comes ∈ GW := gw_of (List.mem_append_right _ (List.mem_of_getElem? (i := 931) (by decide +kernel))) rfl
theorem in_X7_comes : Cond.instanceMethod yX7_comes ∈ GW := gw_of (List.mem_append_right _ (List.mem_of_getElem? (i := 933) (by decide +kernel))) rfl
theorem lk_X7_79 : Cond.methodLink RX7 79 yX7_sets ∈ GW := gw_of (List.mem_append_right _ (List.mem_of_getElem? (i := 935) (by decide +kernel))) rfl
theorem in_X7_sets : Cond.instanceMethod yX7_sets ∈ GW := gw_of (List.mem_append_right _ (List.mem_of_getElem? (i := 937) (by decide +kernel))) rfl
theorem lk_L_34 : Cond.methodLink RL 34 yX7_of ∈ GW := gw_of (List.mem_append_right _ (List.mem_of_getElem? (i := 939) (by decide +kernel))) rfl
theorem in_X7_of : Cond.instanceMethod yX7_of ∈ GW := gw_of (List.mem_append_right _ (List.mem_of_getElem? (i := 940) (by decide +kernel))) rfl
theorem se_X7_of : Cond.selects yX7_of.cls yX7_of yX7_of ∈ GW := gw_of (List.mem_append_right _ (List.mem_of_getElem? (i := 941) (by decide +kernel))) rfl
theorem lk_X7_123 : Cond.methodLink RX7 123 yX7_isPriest ∈ GW := gw_of (List.mem_append_right _ (List.mem_of_getElem? (i := 943) (by decide +kernel))) rfl
theorem in_X7_isPriest : Cond.instanceMethod yX7_isPriest ∈ GW := gw_of (List.mem_append_right _ (List.mem_of_getElem? (i := 945) (by decide +kernel))) rfl
theorem lk_X7_66 : Cond.methodLink RX7 66 yX7_holds ∈ GW := gw_of (List.mem_append_right _ (List.mem_of_getElem? (i := 947) (by decide +kernel))) rfl
theorem in_X7_holds : Cond.instanceMethod yX7_holds ∈ GW := gw_of (List.mem_append_right _ (List.mem_of_getElem? (i := 949) (by decide +kernel))) rfl
theorem lk_X7_54 : Cond.methodLink RX7 54 yX7_its ∈ GW := gw_of (List.mem_append_right _ (List.mem_of_getElem? (i := 951) (by decide +kernel))) rfl
theorem in_X7_its : Cond.instanceMethod yX7_its ∈ GW := gw_of (List.mem_append_right _ (List.mem_of_getElem? (i := 953) (by decide +kernel))) rfl
theorem lk_X7_58 : Cond.methodLink RX7 58 yX7_ones ∈ GW := gw_of (List.mem_append_right _ (List.mem_of_getElem? (i := 955) (by decide +kernel))) rfl
theorem st_X7_ones : Cond.static yX7_ones ∈ GW := gw_of (List.mem_append_right _ (List.mem_of_getElem? (i := 956) (by decide +kernel))) rfl
theorem lk_X7_62 : Cond.methodLink RX7 62 yX7_held ∈ GW := gw_of (List.mem_append_right _ (List.mem_of_getElem? (i := 958) (by decide +kernel))) rfl
theorem st_X7_held : Cond.static yX7_held ∈ GW := gw_of (List.mem_append_right _ (List.mem_of_getElem? (i := 959) (by decide +kernel))) rfl
theorem lk_X7_69 : Cond.methodLink RX7 69 yX7_room ∈ GW := gw_of (List.mem_append_right _ (List.mem_of_getElem? (i := 961) (by decide +kernel))) rfl
theorem in_X7_room : Cond.instanceMethod yX7_room ∈ GW := gw_of (List.mem_append_right _ (List.mem_of_getElem? (i := 963) (by decide +kernel))) rfl
theorem lk_X7_95 : Cond.methodLink RX7 95 yX7_digests ∈ GW := gw_of (List.mem_append_right _ (List.mem_of_getElem? (i := 965) (by decide +kernel))) rfl
theorem in_X7_digests : Cond.instanceMethod yX7_digests ∈ GW := gw_of (List.mem_append_right _ (List.mem_of_getElem? (i := 967) (by decide +kernel))) rfl
theorem lk_X7_91 : Cond.methodLink RX7 91 yX7_keeps ∈ GW := gw_of (List.mem_append_right _ (List.mem_of_getElem? (i := 969) (by decide +kernel))) rfl
theorem in_X7_keeps : Cond.instanceMethod yX7_keeps ∈ GW := gw_of (List.mem_append_right _ (List.mem_of_getElem? (i := 971) (by decide +kernel))) rfl
theorem lk_L_39 : Cond.methodLink RL 39 yX7_change ∈ GW := gw_of (List.mem_append_right _ (List.mem_of_getElem? (i := 973) (by decide +kernel))) rfl
theorem in_X7_change : Cond.instanceMethod yX7_change ∈ GW := gw_of (List.mem_append_right _ (List.mem_of_getElem? (i := 974) (by decide +kernel))) rfl
theorem se_X7_change : Cond.selects yX7_change.cls yX7_change yX7_change ∈ GW := gw_of (List.mem_append_right _ (List.mem_of_getElem? (i := 975) (by decide +kernel))) rfl
theorem lk_X7_126 : Cond.methodLink RX7 126 yX7_mostOf ∈ GW := gw_of (List.mem_append_right _ (List.mem_of_getElem? (i := 977) (by decide +kernel))) rfl
theorem st_X7_mostOf : Cond.static yX7_mostOf ∈ GW := gw_of (List.mem_append_right _ (List.mem_of_getElem? (i := 978) (by decide +kernel))) rfl
theorem lk_L_43 : Cond.methodLink RL 43 yX7_swells ∈ GW := gw_of (List.mem_append_right _ (List.mem_of_getElem? (i := 980) (by decide +kernel))) rfl
theorem in_X7_swells : Cond.instanceMethod yX7_swells ∈ GW := gw_of (List.mem_append_right _ (List.mem_of_getElem? (i := 981) (by decide +kernel))) rfl
theorem se_X7_swells : Cond.selects yX7_swells.cls yX7_swells yX7_swells ∈ GW := gw_of (List.mem_append_right _ (List.mem_of_getElem? (i := 982) (by decide +kernel))) rfl
theorem lk_X7_76 : Cond.methodLink RX7 76 yX7_swellsBy ∈ GW := gw_of (List.mem_append_right _ (List.mem_of_getElem? (i := 984) (by decide +kernel))) rfl
theorem in_X7_swellsBy : Cond.instanceMethod yX7_swellsBy ∈ GW := gw_of (List.mem_append_right _ (List.mem_of_getElem? (i := 986) (by decide +kernel))) rfl
theorem lk_L_47 : Cond.methodLink RL 47 yX7_goes ∈ GW := gw_of (List.mem_append_right _ (List.mem_of_getElem? (i := 988) (by decide +kernel))) rfl
theorem in_X7_goes : Cond.instanceMethod yX7_goes ∈ GW := gw_of (List.mem_append_right _ (List.mem_of_getElem? (i := 989) (by decide +kernel))) rfl
theorem se_X7_goes : Cond.selects yX7_goes.cls yX7_goes yX7_goes ∈ GW := gw_of (List.mem_append_right _ (List.mem_of_getElem? (i := 990) (by decide +kernel))) rfl
theorem lk_X7_129 : Cond.methodLink RX7 129 yX7_isSin ∈ GW := gw_of (List.mem_append_right _ (List.mem_of_getElem? (i := 992) (by decide +kernel))) rfl
theorem st_X7_isSin : Cond.static yX7_isSin ∈ GW := gw_of (List.mem_append_right _ (List.mem_of_getElem? (i := 993) (by decide +kernel))) rfl
theorem kl_X7_46 : Cond.constantLong RX7 46 (7) ∈ GW := gw_of (List.mem_append_right _ (List.mem_of_getElem? (i := 995) (by decide +kernel))) rfl
theorem lk_X7_72 : Cond.methodLink RX7 72 yX7_roomiest ∈ GW := gw_of (List.mem_append_right _ (List.mem_of_getElem? (i := 996) (by decide +kernel))) rfl
theorem in_X7_roomiest : Cond.instanceMethod yX7_roomiest ∈ GW := gw_of (List.mem_append_right _ (List.mem_of_getElem? (i := 998) (by decide +kernel))) rfl
theorem lk_L_51 : Cond.methodLink RL 51 yX7_dies ∈ GW := gw_of (List.mem_append_right _ (List.mem_of_getElem? (i := 1000) (by decide +kernel))) rfl
theorem in_X7_dies : Cond.instanceMethod yX7_dies ∈ GW := gw_of (List.mem_append_right _ (List.mem_of_getElem? (i := 1001) (by decide +kernel))) rfl
theorem se_X7_dies : Cond.selects yX7_dies.cls yX7_dies yX7_dies ∈ GW := gw_of (List.mem_append_right _ (List.mem_of_getElem? (i := 1002) (by decide +kernel))) rfl
theorem lk_L_55 : Cond.methodLink RL 55 yX7_go ∈ GW := gw_of (List.mem_append_right _ (List.mem_of_getElem? (i := 1004) (by decide +kernel))) rfl
theorem in_X7_go : Cond.instanceMethod yX7_go ∈ GW := gw_of (List.mem_append_right _ (List.mem_of_getElem? (i := 1005) (by decide +kernel))) rfl
theorem se_X7_go : Cond.selects yX7_go.cls yX7_go yX7_go ∈ GW := gw_of (List.mem_append_right _ (List.mem_of_getElem? (i := 1006) (by decide +kernel))) rfl
theorem kl_X7_132 : Cond.constantLong RX7 132 (60) ∈ GW := gw_of (List.mem_append_right _ (List.mem_of_getElem? (i := 1008) (by decide +kernel))) rfl
theorem kc_X7_75 : Cond.constant RX7 75 (99999) ∈ GW := gw_of (List.mem_append_right _ (List.mem_of_getElem? (i := 1009) (by decide +kernel))) rfl
theorem lk_X7_134 : Cond.methodLink RX7 134 yX7_daysGo ∈ GW := gw_of (List.mem_append_right _ (List.mem_of_getElem? (i := 1010) (by decide +kernel))) rfl
theorem in_X7_daysGo : Cond.instanceMethod yX7_daysGo ∈ GW := gw_of (List.mem_append_right _ (List.mem_of_getElem? (i := 1012) (by decide +kernel))) rfl
theorem lk_X7_98 : Cond.methodLink RX7 98 yX7_dayGoes ∈ GW := gw_of (List.mem_append_right _ (List.mem_of_getElem? (i := 1014) (by decide +kernel))) rfl
theorem in_X7_dayGoes : Cond.instanceMethod yX7_dayGoes ∈ GW := gw_of (List.mem_append_right _ (List.mem_of_getElem? (i := 1016) (by decide +kernel))) rfl
theorem lk_X7_83 : Cond.methodLink RX7 83 yX7_todays ∈ GW := gw_of (List.mem_append_right _ (List.mem_of_getElem? (i := 1018) (by decide +kernel))) rfl
theorem in_X7_todays : Cond.instanceMethod yX7_todays ∈ GW := gw_of (List.mem_append_right _ (List.mem_of_getElem? (i := 1020) (by decide +kernel))) rfl
theorem lk_X7_87 : Cond.methodLink RX7 87 yX7_confesses ∈ GW := gw_of (List.mem_append_right _ (List.mem_of_getElem? (i := 1022) (by decide +kernel))) rfl
theorem in_X7_confesses : Cond.instanceMethod yX7_confesses ∈ GW := gw_of (List.mem_append_right _ (List.mem_of_getElem? (i := 1024) (by decide +kernel))) rfl
theorem lk_L_59 : Cond.methodLink RL 59 yX7_now ∈ GW := gw_of (List.mem_append_right _ (List.mem_of_getElem? (i := 1026) (by decide +kernel))) rfl
theorem in_X7_now : Cond.instanceMethod yX7_now ∈ GW := gw_of (List.mem_append_right _ (List.mem_of_getElem? (i := 1027) (by decide +kernel))) rfl
theorem se_X7_now : Cond.selects yX7_now.cls yX7_now yX7_now ∈ GW := gw_of (List.mem_append_right _ (List.mem_of_getElem? (i := 1028) (by decide +kernel))) rfl
theorem lk_X7_137 : Cond.methodLink RX7 137 yX7_together ∈ GW := gw_of (List.mem_append_right _ (List.mem_of_getElem? (i := 1030) (by decide +kernel))) rfl
theorem in_X7_together : Cond.instanceMethod yX7_together ∈ GW := gw_of (List.mem_append_right _ (List.mem_of_getElem? (i := 1032) (by decide +kernel))) rfl
theorem lk_X7_140 : Cond.methodLink RX7 140 yX7_sumOf ∈ GW := gw_of (List.mem_append_right _ (List.mem_of_getElem? (i := 1034) (by decide +kernel))) rfl
theorem in_X7_sumOf : Cond.instanceMethod yX7_sumOf ∈ GW := gw_of (List.mem_append_right _ (List.mem_of_getElem? (i := 1036) (by decide +kernel))) rfl
theorem lk_X7_143 : Cond.methodLink RX7 143 yX7_fullest ∈ GW := gw_of (List.mem_append_right _ (List.mem_of_getElem? (i := 1038) (by decide +kernel))) rfl
theorem in_X7_fullest : Cond.instanceMethod yX7_fullest ∈ GW := gw_of (List.mem_append_right _ (List.mem_of_getElem? (i := 1040) (by decide +kernel))) rfl
theorem lk_L_63 : Cond.methodLink RL 63 yX7_ahead ∈ GW := gw_of (List.mem_append_right _ (List.mem_of_getElem? (i := 1042) (by decide +kernel))) rfl
theorem in_X7_ahead : Cond.instanceMethod yX7_ahead ∈ GW := gw_of (List.mem_append_right _ (List.mem_of_getElem? (i := 1043) (by decide +kernel))) rfl
theorem se_X7_ahead : Cond.selects yX7_ahead.cls yX7_ahead yX7_ahead ∈ GW := gw_of (List.mem_append_right _ (List.mem_of_getElem? (i := 1044) (by decide +kernel))) rfl
theorem kl_X7_150 : Cond.constantLong RX7 150 (100) ∈ GW := gw_of (List.mem_append_right _ (List.mem_of_getElem? (i := 1046) (by decide +kernel))) rfl
theorem lk_X7_146 : Cond.methodLink RX7 146 yX7_copies ∈ GW := gw_of (List.mem_append_right _ (List.mem_of_getElem? (i := 1047) (by decide +kernel))) rfl
theorem st_X7_copies : Cond.static yX7_copies ∈ GW := gw_of (List.mem_append_right _ (List.mem_of_getElem? (i := 1048) (by decide +kernel))) rfl
theorem lk_L_67 : Cond.methodLink RL 67 yX7_ill ∈ GW := gw_of (List.mem_append_right _ (List.mem_of_getElem? (i := 1050) (by decide +kernel))) rfl
theorem in_X7_ill : Cond.instanceMethod yX7_ill ∈ GW := gw_of (List.mem_append_right _ (List.mem_of_getElem? (i := 1051) (by decide +kernel))) rfl
theorem se_X7_ill : Cond.selects yX7_ill.cls yX7_ill yX7_ill ∈ GW := gw_of (List.mem_append_right _ (List.mem_of_getElem? (i := 1052) (by decide +kernel))) rfl
theorem lk_X7_152 : Cond.methodLink RX7 152 yX7_firstOf ∈ GW := gw_of (List.mem_append_right _ (List.mem_of_getElem? (i := 1054) (by decide +kernel))) rfl
theorem in_X7_firstOf : Cond.instanceMethod yX7_firstOf ∈ GW := gw_of (List.mem_append_right _ (List.mem_of_getElem? (i := 1056) (by decide +kernel))) rfl
theorem lk_L_71 : Cond.methodLink RL 71 yX7_out ∈ GW := gw_of (List.mem_append_right _ (List.mem_of_getElem? (i := 1058) (by decide +kernel))) rfl
theorem in_X7_out : Cond.instanceMethod yX7_out ∈ GW := gw_of (List.mem_append_right _ (List.mem_of_getElem? (i := 1059) (by decide +kernel))) rfl
theorem se_X7_out : Cond.selects yX7_out.cls yX7_out yX7_out ∈ GW := gw_of (List.mem_append_right _ (List.mem_of_getElem? (i := 1060) (by decide +kernel))) rfl
theorem lk_L_75 : Cond.methodLink RL 75 yX7_wise ∈ GW := gw_of (List.mem_append_right _ (List.mem_of_getElem? (i := 1062) (by decide +kernel))) rfl
theorem in_X7_wise : Cond.instanceMethod yX7_wise ∈ GW := gw_of (List.mem_append_right _ (List.mem_of_getElem? (i := 1063) (by decide +kernel))) rfl
theorem se_X7_wise : Cond.selects yX7_wise.cls yX7_wise yX7_wise ∈ GW := gw_of (List.mem_append_right _ (List.mem_of_getElem? (i := 1064) (by decide +kernel))) rfl
theorem kl_X7_155 : Cond.constantLong RX7 155 (8) ∈ GW := gw_of (List.mem_append_right _ (List.mem_of_getElem? (i := 1066) (by decide +kernel))) rfl
theorem lk_L_79 : Cond.methodLink RL 79 yX7_when ∈ GW := gw_of (List.mem_append_right _ (List.mem_of_getElem? (i := 1067) (by decide +kernel))) rfl
theorem in_X7_when : Cond.instanceMethod yX7_when ∈ GW := gw_of (List.mem_append_right _ (List.mem_of_getElem? (i := 1068) (by decide +kernel))) rfl
theorem se_X7_when : Cond.selects yX7_when.cls yX7_when yX7_when ∈ GW := gw_of (List.mem_append_right _ (List.mem_of_getElem? (i := 1069) (by decide +kernel))) rfl
theorem kl_X7_157 : Cond.constantLong RX7 157 (999) ∈ GW := gw_of (List.mem_append_right _ (List.mem_of_getElem? (i := 1071) (by decide +kernel))) rfl
theorem lk_L_83 : Cond.methodLink RL 83 yX7_wordsFor ∈ GW := gw_of (List.mem_append_right _ (List.mem_of_getElem? (i := 1072) (by decide +kernel))) rfl
theorem in_X7_wordsFor : Cond.instanceMethod yX7_wordsFor ∈ GW := gw_of (List.mem_append_right _ (List.mem_of_getElem? (i := 1073) (by decide +kernel))) rfl
theorem se_X7_wordsFor : Cond.selects yX7_wordsFor.cls yX7_wordsFor yX7_wordsFor ∈ GW := gw_of (List.mem_append_right _ (List.mem_of_getElem? (i := 1074) (by decide +kernel))) rfl
theorem lk_X7_159 : Cond.methodLink RX7 159 yX7_isShort ∈ GW := gw_of (List.mem_append_right _ (List.mem_of_getElem? (i := 1076) (by decide +kernel))) rfl
theorem st_X7_isShort : Cond.static yX7_isShort ∈ GW := gw_of (List.mem_append_right _ (List.mem_of_getElem? (i := 1077) (by decide +kernel))) rfl
theorem lk_X7_162 : Cond.methodLink RX7 162 yX7_illBehind ∈ GW := gw_of (List.mem_append_right _ (List.mem_of_getElem? (i := 1079) (by decide +kernel))) rfl
theorem in_X7_illBehind : Cond.instanceMethod yX7_illBehind ∈ GW := gw_of (List.mem_append_right _ (List.mem_of_getElem? (i := 1081) (by decide +kernel))) rfl
theorem lk_L_87 : Cond.methodLink RL 87 yX7_waterFor ∈ GW := gw_of (List.mem_append_right _ (List.mem_of_getElem? (i := 1083) (by decide +kernel))) rfl
theorem in_X7_waterFor : Cond.instanceMethod yX7_waterFor ∈ GW := gw_of (List.mem_append_right _ (List.mem_of_getElem? (i := 1084) (by decide +kernel))) rfl
theorem se_X7_waterFor : Cond.selects yX7_waterFor.cls yX7_waterFor yX7_waterFor ∈ GW := gw_of (List.mem_append_right _ (List.mem_of_getElem? (i := 1085) (by decide +kernel))) rfl
theorem lk_X7_165 : Cond.methodLink RX7 165 yX7_behind ∈ GW := gw_of (List.mem_append_right _ (List.mem_of_getElem? (i := 1087) (by decide +kernel))) rfl
theorem in_X7_behind : Cond.instanceMethod yX7_behind ∈ GW := gw_of (List.mem_append_right _ (List.mem_of_getElem? (i := 1089) (by decide +kernel))) rfl
theorem lk_L_91 : Cond.methodLink RL 91 yX7_spare ∈ GW := gw_of (List.mem_append_right _ (List.mem_of_getElem? (i := 1091) (by decide +kernel))) rfl
theorem in_X7_spare : Cond.instanceMethod yX7_spare ∈ GW := gw_of (List.mem_append_right _ (List.mem_of_getElem? (i := 1092) (by decide +kernel))) rfl
theorem se_X7_spare : Cond.selects yX7_spare.cls yX7_spare yX7_spare ∈ GW := gw_of (List.mem_append_right _ (List.mem_of_getElem? (i := 1093) (by decide +kernel))) rfl
theorem lk_L_95 : Cond.methodLink RL 95 yX7_kindFor ∈ GW := gw_of (List.mem_append_right _ (List.mem_of_getElem? (i := 1095) (by decide +kernel))) rfl
theorem in_X7_kindFor : Cond.instanceMethod yX7_kindFor ∈ GW := gw_of (List.mem_append_right _ (List.mem_of_getElem? (i := 1096) (by decide +kernel))) rfl
theorem se_X7_kindFor : Cond.selects yX7_kindFor.cls yX7_kindFor yX7_kindFor ∈ GW := gw_of (List.mem_append_right _ (List.mem_of_getElem? (i := 1097) (by decide +kernel))) rfl
theorem kc_X7_168 : Cond.constant RX7 168 (99999999) ∈ GW := gw_of (List.mem_append_right _ (List.mem_of_getElem? (i := 1099) (by decide +kernel))) rfl
theorem lk_L_99 : Cond.methodLink RL 99 yX7_fast ∈ GW := gw_of (List.mem_append_right _ (List.mem_of_getElem? (i := 1100) (by decide +kernel))) rfl
theorem in_X7_fast : Cond.instanceMethod yX7_fast ∈ GW := gw_of (List.mem_append_right _ (List.mem_of_getElem? (i := 1101) (by decide +kernel))) rfl
theorem se_X7_fast : Cond.selects yX7_fast.cls yX7_fast yX7_fast ∈ GW := gw_of (List.mem_append_right _ (List.mem_of_getElem? (i := 1102) (by decide +kernel))) rfl
theorem kl_X7_169 : Cond.constantLong RX7 169 (20) ∈ GW := gw_of (List.mem_append_right _ (List.mem_of_getElem? (i := 1104) (by decide +kernel))) rfl
theorem lk_L_103 : Cond.methodLink RL 103 yX7_cover ∈ GW := gw_of (List.mem_append_right _ (List.mem_of_getElem? (i := 1105) (by decide +kernel))) rfl
theorem in_X7_cover : Cond.instanceMethod yX7_cover ∈ GW := gw_of (List.mem_append_right _ (List.mem_of_getElem? (i := 1106) (by decide +kernel))) rfl
theorem se_X7_cover : Cond.selects yX7_cover.cls yX7_cover yX7_cover ∈ GW := gw_of (List.mem_append_right _ (List.mem_of_getElem? (i := 1107) (by decide +kernel))) rfl
theorem lk_L_107 : Cond.methodLink RL 107 yX7_fits ∈ GW := gw_of (List.mem_append_right _ (List.mem_of_getElem? (i := 1109) (by decide +kernel))) rfl
theorem in_X7_fits : Cond.instanceMethod yX7_fits ∈ GW := gw_of (List.mem_append_right _ (List.mem_of_getElem? (i := 1110) (by decide +kernel))) rfl
theorem se_X7_fits : Cond.selects yX7_fits.cls yX7_fits yX7_fits ∈ GW := gw_of (List.mem_append_right _ (List.mem_of_getElem? (i := 1111) (by decide +kernel))) rfl
theorem lk_X7_178 : Cond.methodLink RX7 178 yX7_whyNot ∈ GW := gw_of (List.mem_append_right _ (List.mem_of_getElem? (i := 1113) (by decide +kernel))) rfl
theorem in_X7_whyNot : Cond.instanceMethod yX7_whyNot ∈ GW := gw_of (List.mem_append_right _ (List.mem_of_getElem? (i := 1115) (by decide +kernel))) rfl
theorem lk_X7_171 : Cond.methodLink RX7 171 yX7_whyNone ∈ GW := gw_of (List.mem_append_right _ (List.mem_of_getElem? (i := 1117) (by decide +kernel))) rfl
theorem in_X7_whyNone : Cond.instanceMethod yX7_whyNone ∈ GW := gw_of (List.mem_append_right _ (List.mem_of_getElem? (i := 1119) (by decide +kernel))) rfl
theorem lk_X7_295 : Cond.methodLink RX7 295 yX7_isSheet ∈ GW := gw_of (List.mem_append_right _ (List.mem_of_getElem? (i := 1121) (by decide +kernel))) rfl
theorem st_X7_isSheet : Cond.static yX7_isSheet ∈ GW := gw_of (List.mem_append_right _ (List.mem_of_getElem? (i := 1122) (by decide +kernel))) rfl
theorem kl_X7_293 : Cond.constantLong RX7 293 (3) ∈ GW := gw_of (List.mem_append_right _ (List.mem_of_getElem? (i := 1124) (by decide +kernel))) rfl
theorem lk_X7_181 : Cond.methodLink RX7 181 yX7_isOf ∈ GW := gw_of (List.mem_append_right _ (List.mem_of_getElem? (i := 1125) (by decide +kernel))) rfl
theorem in_X7_isOf : Cond.instanceMethod yX7_isOf ∈ GW := gw_of (List.mem_append_right _ (List.mem_of_getElem? (i := 1127) (by decide +kernel))) rfl
theorem lk_X7_174 : Cond.methodLink RX7 174 yX7_isTold ∈ GW := gw_of (List.mem_append_right _ (List.mem_of_getElem? (i := 1129) (by decide +kernel))) rfl
theorem in_X7_isTold : Cond.instanceMethod yX7_isTold ∈ GW := gw_of (List.mem_append_right _ (List.mem_of_getElem? (i := 1131) (by decide +kernel))) rfl
theorem lk_L_111 : Cond.methodLink RL 111 yX7_words ∈ GW := gw_of (List.mem_append_right _ (List.mem_of_getElem? (i := 1133) (by decide +kernel))) rfl
theorem in_X7_words : Cond.instanceMethod yX7_words ∈ GW := gw_of (List.mem_append_right _ (List.mem_of_getElem? (i := 1134) (by decide +kernel))) rfl
theorem se_X7_words : Cond.selects yX7_words.cls yX7_words yX7_words ∈ GW := gw_of (List.mem_append_right _ (List.mem_of_getElem? (i := 1135) (by decide +kernel))) rfl
theorem lk_L_115 : Cond.methodLink RL 115 yX7_kinds ∈ GW := gw_of (List.mem_append_right _ (List.mem_of_getElem? (i := 1137) (by decide +kernel))) rfl
theorem in_X7_kinds : Cond.instanceMethod yX7_kinds ∈ GW := gw_of (List.mem_append_right _ (List.mem_of_getElem? (i := 1138) (by decide +kernel))) rfl
theorem se_X7_kinds : Cond.selects yX7_kinds.cls yX7_kinds yX7_kinds ∈ GW := gw_of (List.mem_append_right _ (List.mem_of_getElem? (i := 1139) (by decide +kernel))) rfl
theorem lk_L_119 : Cond.methodLink RL 119 yX7_come ∈ GW := gw_of (List.mem_append_right _ (List.mem_of_getElem? (i := 1141) (by decide +kernel))) rfl
theorem in_X7_come : Cond.instanceMethod yX7_come ∈ GW := gw_of (List.mem_append_right _ (List.mem_of_getElem? (i := 1142) (by decide +kernel))) rfl
theorem se_X7_come : Cond.selects yX7_come.cls yX7_come yX7_come ∈ GW := gw_of (List.mem_append_right _ (List.mem_of_getElem? (i := 1143) (by decide +kernel))) rfl
theorem lk_X7_186 : Cond.methodLink RX7 186 yX7_draw ∈ GW := gw_of (List.mem_append_right _ (List.mem_of_getElem? (i := 1145) (by decide +kernel))) rfl
theorem in_X7_draw : Cond.instanceMethod yX7_draw ∈ GW := gw_of (List.mem_append_right _ (List.mem_of_getElem? (i := 1147) (by decide +kernel))) rfl
theorem kc_X7_185 : Cond.constant RX7 185 (1103515245) ∈ GW := gw_of (List.mem_append_right _ (List.mem_of_getElem? (i := 1149) (by decide +kernel))) rfl
theorem lk_L_124 : Cond.methodLink RL 124 yX7_odds ∈ GW := gw_of (List.mem_append_right _ (List.mem_of_getElem? (i := 1150) (by decide +kernel))) rfl
theorem in_X7_odds : Cond.instanceMethod yX7_odds ∈ GW := gw_of (List.mem_append_right _ (List.mem_of_getElem? (i := 1151) (by decide +kernel))) rfl
theorem se_X7_odds : Cond.selects yX7_odds.cls yX7_odds yX7_odds ∈ GW := gw_of (List.mem_append_right _ (List.mem_of_getElem? (i := 1152) (by decide +kernel))) rfl
theorem lk_L_128 : Cond.methodLink RL 128 yX7_seed ∈ GW := gw_of (List.mem_append_right _ (List.mem_of_getElem? (i := 1154) (by decide +kernel))) rfl
theorem in_X7_seed : Cond.instanceMethod yX7_seed ∈ GW := gw_of (List.mem_append_right _ (List.mem_of_getElem? (i := 1155) (by decide +kernel))) rfl
theorem se_X7_seed : Cond.selects yX7_seed.cls yX7_seed yX7_seed ∈ GW := gw_of (List.mem_append_right _ (List.mem_of_getElem? (i := 1156) (by decide +kernel))) rfl
theorem lk_L_132 : Cond.methodLink RL 132 yX7_feed ∈ GW := gw_of (List.mem_append_right _ (List.mem_of_getElem? (i := 1158) (by decide +kernel))) rfl
theorem in_X7_feed : Cond.instanceMethod yX7_feed ∈ GW := gw_of (List.mem_append_right _ (List.mem_of_getElem? (i := 1159) (by decide +kernel))) rfl
theorem se_X7_feed : Cond.selects yX7_feed.cls yX7_feed yX7_feed ∈ GW := gw_of (List.mem_append_right _ (List.mem_of_getElem? (i := 1160) (by decide +kernel))) rfl
theorem kl_X7_189 : Cond.constantLong RX7 189 (4) ∈ GW := gw_of (List.mem_append_right _ (List.mem_of_getElem? (i := 1162) (by decide +kernel))) rfl
theorem lk_L_137 : Cond.methodLink RL 137 yX7_wipe ∈ GW := gw_of (List.mem_append_right _ (List.mem_of_getElem? (i := 1163) (by decide +kernel))) rfl
theorem in_X7_wipe : Cond.instanceMethod yX7_wipe ∈ GW := gw_of (List.mem_append_right _ (List.mem_of_getElem? (i := 1164) (by decide +kernel))) rfl
theorem se_X7_wipe : Cond.selects yX7_wipe.cls yX7_wipe yX7_wipe ∈ GW := gw_of (List.mem_append_right _ (List.mem_of_getElem? (i := 1165) (by decide +kernel))) rfl
theorem lk_L_141 : Cond.methodLink RL 141 yX7_text ∈ GW := gw_of (List.mem_append_right _ (List.mem_of_getElem? (i := 1167) (by decide +kernel))) rfl
theorem in_X7_text : Cond.instanceMethod yX7_text ∈ GW := gw_of (List.mem_append_right _ (List.mem_of_getElem? (i := 1168) (by decide +kernel))) rfl
theorem se_X7_text : Cond.selects yX7_text.cls yX7_text yX7_text ∈ GW := gw_of (List.mem_append_right _ (List.mem_of_getElem? (i := 1169) (by decide +kernel))) rfl
theorem lk_X7_285 : Cond.methodLink RX7 285 yX7_items ∈ GW := gw_of (List.mem_append_right _ (List.mem_of_getElem? (i := 1171) (by decide +kernel))) rfl
theorem in_X7_items : Cond.instanceMethod yX7_items ∈ GW := gw_of (List.mem_append_right _ (List.mem_of_getElem? (i := 1173) (by decide +kernel))) rfl
theorem lk_X7_251 : Cond.methodLink RX7 251 yX7_next ∈ GW := gw_of (List.mem_append_right _ (List.mem_of_getElem? (i := 1175) (by decide +kernel))) rfl
theorem in_X7_next : Cond.instanceMethod yX7_next ∈ GW := gw_of (List.mem_append_right _ (List.mem_of_getElem? (i := 1177) (by decide +kernel))) rfl
theorem lk_X7_198 : Cond.methodLink RX7 198 yX7_byteAt ∈ GW := gw_of (List.mem_append_right _ (List.mem_of_getElem? (i := 1179) (by decide +kernel))) rfl
theorem in_X7_byteAt : Cond.instanceMethod yX7_byteAt ∈ GW := gw_of (List.mem_append_right _ (List.mem_of_getElem? (i := 1181) (by decide +kernel))) rfl
theorem lk_X7_211 : Cond.methodLink RX7 211 yX7_letter ∈ GW := gw_of (List.mem_append_right _ (List.mem_of_getElem? (i := 1183) (by decide +kernel))) rfl
theorem st_X7_letter : Cond.static yX7_letter ∈ GW := gw_of (List.mem_append_right _ (List.mem_of_getElem? (i := 1184) (by decide +kernel))) rfl
theorem kl_X7_214 : Cond.constantLong RX7 214 (100000000000000000) ∈ GW := gw_of (List.mem_append_right _ (List.mem_of_getElem? (i := 1186) (by decide +kernel))) rfl
theorem kl_X7_216 : Cond.constantLong RX7 216 (27) ∈ GW := gw_of (List.mem_append_right _ (List.mem_of_getElem? (i := 1187) (by decide +kernel))) rfl
theorem lk_X7_218 : Cond.methodLink RX7 218 yX7_isDigit ∈ GW := gw_of (List.mem_append_right _ (List.mem_of_getElem? (i := 1188) (by decide +kernel))) rfl
theorem st_X7_isDigit : Cond.static yX7_isDigit ∈ GW := gw_of (List.mem_append_right _ (List.mem_of_getElem? (i := 1189) (by decide +kernel))) rfl
theorem kl_X7_221 : Cond.constantLong RX7 221 (9999) ∈ GW := gw_of (List.mem_append_right _ (List.mem_of_getElem? (i := 1191) (by decide +kernel))) rfl
theorem kl_X7_223 : Cond.constantLong RX7 223 (10) ∈ GW := gw_of (List.mem_append_right _ (List.mem_of_getElem? (i := 1192) (by decide +kernel))) rfl
theorem kl_X7_225 : Cond.constantLong RX7 225 (48) ∈ GW := gw_of (List.mem_append_right _ (List.mem_of_getElem? (i := 1193) (by decide +kernel))) rfl
theorem lk_X7_282 : Cond.methodLink RX7 282 yX7_item ∈ GW := gw_of (List.mem_append_right _ (List.mem_of_getElem? (i := 1194) (by decide +kernel))) rfl
theorem in_X7_item : Cond.instanceMethod yX7_item ∈ GW := gw_of (List.mem_append_right _ (List.mem_of_getElem? (i := 1196) (by decide +kernel))) rfl
theorem lk_X7_267 : Cond.methodLink RX7 267 yX7_kindHere ∈ GW := gw_of (List.mem_append_right _ (List.mem_of_getElem? (i := 1198) (by decide +kernel))) rfl
theorem in_X7_kindHere : Cond.instanceMethod yX7_kindHere ∈ GW := gw_of (List.mem_append_right _ (List.mem_of_getElem? (i := 1200) (by decide +kernel))) rfl
theorem kl_X7_230 : Cond.constantLong RX7 230 (239329775) ∈ GW := gw_of (List.mem_append_right _ (List.mem_of_getElem? (i := 1202) (by decide +kernel))) rfl
theorem lk_X7_232 : Cond.methodLink RX7 232 yX7_isWord ∈ GW := gw_of (List.mem_append_right _ (List.mem_of_getElem? (i := 1203) (by decide +kernel))) rfl
theorem in_X7_isWord : Cond.instanceMethod yX7_isWord ∈ GW := gw_of (List.mem_append_right _ (List.mem_of_getElem? (i := 1205) (by decide +kernel))) rfl
theorem kl_X7_236 : Cond.constantLong RX7 236 (54562550) ∈ GW := gw_of (List.mem_append_right _ (List.mem_of_getElem? (i := 1207) (by decide +kernel))) rfl
theorem kl_X7_238 : Cond.constantLong RX7 238 (2149867513) ∈ GW := gw_of (List.mem_append_right _ (List.mem_of_getElem? (i := 1208) (by decide +kernel))) rfl
theorem kl_X7_240 : Cond.constantLong RX7 240 (10553888) ∈ GW := gw_of (List.mem_append_right _ (List.mem_of_getElem? (i := 1209) (by decide +kernel))) rfl
theorem kl_X7_242 : Cond.constantLong RX7 242 (10124021) ∈ GW := gw_of (List.mem_append_right _ (List.mem_of_getElem? (i := 1210) (by decide +kernel))) rfl
theorem kl_X7_244 : Cond.constantLong RX7 244 (33861013) ∈ GW := gw_of (List.mem_append_right _ (List.mem_of_getElem? (i := 1211) (by decide +kernel))) rfl
theorem kl_X7_246 : Cond.constantLong RX7 246 (126232693) ∈ GW := gw_of (List.mem_append_right _ (List.mem_of_getElem? (i := 1212) (by decide +kernel))) rfl
theorem lk_X7_270 : Cond.methodLink RX7 270 yX7_priestHere ∈ GW := gw_of (List.mem_append_right _ (List.mem_of_getElem? (i := 1213) (by decide +kernel))) rfl
theorem in_X7_priestHere : Cond.instanceMethod yX7_priestHere ∈ GW := gw_of (List.mem_append_right _ (List.mem_of_getElem? (i := 1215) (by decide +kernel))) rfl
theorem lk_X7_248 : Cond.methodLink RX7 248 yX7_wrongHere ∈ GW := gw_of (List.mem_append_right _ (List.mem_of_getElem? (i := 1217) (by decide +kernel))) rfl
theorem in_X7_wrongHere : Cond.instanceMethod yX7_wrongHere ∈ GW := gw_of (List.mem_append_right _ (List.mem_of_getElem? (i := 1219) (by decide +kernel))) rfl
theorem kl_X7_257 : Cond.constantLong RX7 257 (10656676) ∈ GW := gw_of (List.mem_append_right _ (List.mem_of_getElem? (i := 1221) (by decide +kernel))) rfl
theorem lk_X7_259 : Cond.methodLink RX7 259 yX7_perhaps ∈ GW := gw_of (List.mem_append_right _ (List.mem_of_getElem? (i := 1222) (by decide +kernel))) rfl
theorem in_X7_perhaps : Cond.instanceMethod yX7_perhaps ∈ GW := gw_of (List.mem_append_right _ (List.mem_of_getElem? (i := 1224) (by decide +kernel))) rfl
theorem lk_X7_254 : Cond.methodLink RX7 254 yX7_numberHere ∈ GW := gw_of (List.mem_append_right _ (List.mem_of_getElem? (i := 1226) (by decide +kernel))) rfl
theorem in_X7_numberHere : Cond.instanceMethod yX7_numberHere ∈ GW := gw_of (List.mem_append_right _ (List.mem_of_getElem? (i := 1228) (by decide +kernel))) rfl
theorem kl_X7_263 : Cond.constantLong RX7 263 (6132988) ∈ GW := gw_of (List.mem_append_right _ (List.mem_of_getElem? (i := 1230) (by decide +kernel))) rfl
theorem kl_X7_265 : Cond.constantLong RX7 265 (7659250303) ∈ GW := gw_of (List.mem_append_right _ (List.mem_of_getElem? (i := 1231) (by decide +kernel))) rfl
theorem kl_X7_273 : Cond.constantLong RX7 273 (404923) ∈ GW := gw_of (List.mem_append_right _ (List.mem_of_getElem? (i := 1232) (by decide +kernel))) rfl
theorem lk_X7_275 : Cond.methodLink RX7 275 yX7_toldHere ∈ GW := gw_of (List.mem_append_right _ (List.mem_of_getElem? (i := 1233) (by decide +kernel))) rfl
theorem in_X7_toldHere : Cond.instanceMethod yX7_toldHere ∈ GW := gw_of (List.mem_append_right _ (List.mem_of_getElem? (i := 1235) (by decide +kernel))) rfl
theorem kl_X7_278 : Cond.constantLong RX7 278 (12257559) ∈ GW := gw_of (List.mem_append_right _ (List.mem_of_getElem? (i := 1237) (by decide +kernel))) rfl
theorem kl_X7_280 : Cond.constantLong RX7 280 (11522) ∈ GW := gw_of (List.mem_append_right _ (List.mem_of_getElem? (i := 1238) (by decide +kernel))) rfl
theorem lk_L_145 : Cond.methodLink RL 145 yX7_hold ∈ GW := gw_of (List.mem_append_right _ (List.mem_of_getElem? (i := 1239) (by decide +kernel))) rfl
theorem in_X7_hold : Cond.instanceMethod yX7_hold ∈ GW := gw_of (List.mem_append_right _ (List.mem_of_getElem? (i := 1240) (by decide +kernel))) rfl
theorem se_X7_hold : Cond.selects yX7_hold.cls yX7_hold yX7_hold ∈ GW := gw_of (List.mem_append_right _ (List.mem_of_getElem? (i := 1241) (by decide +kernel))) rfl
theorem kl_X7_288 : Cond.constantLong RX7 288 (-1) ∈ GW := gw_of (List.mem_append_right _ (List.mem_of_getElem? (i := 1243) (by decide +kernel))) rfl
theorem lk_L_149 : Cond.methodLink RL 149 yX7_as ∈ GW := gw_of (List.mem_append_right _ (List.mem_of_getElem? (i := 1244) (by decide +kernel))) rfl
theorem in_X7_as : Cond.instanceMethod yX7_as ∈ GW := gw_of (List.mem_append_right _ (List.mem_of_getElem? (i := 1245) (by decide +kernel))) rfl
theorem se_X7_as : Cond.selects yX7_as.cls yX7_as yX7_as ∈ GW := gw_of (List.mem_append_right _ (List.mem_of_getElem? (i := 1246) (by decide +kernel))) rfl
theorem lk_X7_290 : Cond.methodLink RX7 290 yX7_above ∈ GW := gw_of (List.mem_append_right _ (List.mem_of_getElem? (i := 1248) (by decide +kernel))) rfl
theorem st_X7_above : Cond.static yX7_above ∈ GW := gw_of (List.mem_append_right _ (List.mem_of_getElem? (i := 1249) (by decide +kernel))) rfl
theorem lk_L_153 : Cond.methodLink RL 153 yX7_sheet ∈ GW := gw_of (List.mem_append_right _ (List.mem_of_getElem? (i := 1251) (by decide +kernel))) rfl
theorem in_X7_sheet : Cond.instanceMethod yX7_sheet ∈ GW := gw_of (List.mem_append_right _ (List.mem_of_getElem? (i := 1252) (by decide +kernel))) rfl
theorem se_X7_sheet : Cond.selects yX7_sheet.cls yX7_sheet yX7_sheet ∈ GW := gw_of (List.mem_append_right _ (List.mem_of_getElem? (i := 1253) (by decide +kernel))) rfl
theorem lk_L_157 : Cond.methodLink RL 157 yX7_write ∈ GW := gw_of (List.mem_append_right _ (List.mem_of_getElem? (i := 1255) (by decide +kernel))) rfl
theorem in_X7_write : Cond.instanceMethod yX7_write ∈ GW := gw_of (List.mem_append_right _ (List.mem_of_getElem? (i := 1256) (by decide +kernel))) rfl
theorem se_X7_write : Cond.selects yX7_write.cls yX7_write yX7_write ∈ GW := gw_of (List.mem_append_right _ (List.mem_of_getElem? (i := 1257) (by decide +kernel))) rfl
theorem lk_L_162 : Cond.methodLink RL 162 yX7_copy ∈ GW := gw_of (List.mem_append_right _ (List.mem_of_getElem? (i := 1259) (by decide +kernel))) rfl
theorem in_X7_copy : Cond.instanceMethod yX7_copy ∈ GW := gw_of (List.mem_append_right _ (List.mem_of_getElem? (i := 1260) (by decide +kernel))) rfl
theorem se_X7_copy : Cond.selects yX7_copy.cls yX7_copy yX7_copy ∈ GW := gw_of (List.mem_append_right _ (List.mem_of_getElem? (i := 1261) (by decide +kernel))) rfl
theorem lk_L_166 : Cond.methodLink RL 166 yX7_load ∈ GW := gw_of (List.mem_append_right _ (List.mem_of_getElem? (i := 1263) (by decide +kernel))) rfl
theorem in_X7_load : Cond.instanceMethod yX7_load ∈ GW := gw_of (List.mem_append_right _ (List.mem_of_getElem? (i := 1264) (by decide +kernel))) rfl
theorem se_X7_load : Cond.selects yX7_load.cls yX7_load yX7_load ∈ GW := gw_of (List.mem_append_right _ (List.mem_of_getElem? (i := 1265) (by decide +kernel))) rfl
theorem lk_L_170 : Cond.methodLink RL 170 yX7_judge ∈ GW := gw_of (List.mem_append_right _ (List.mem_of_getElem? (i := 1267) (by decide +kernel))) rfl
theorem in_X7_judge : Cond.instanceMethod yX7_judge ∈ GW := gw_of (List.mem_append_right _ (List.mem_of_getElem? (i := 1268) (by decide +kernel))) rfl
theorem se_X7_judge : Cond.selects yX7_judge.cls yX7_judge yX7_judge ∈ GW := gw_of (List.mem_append_right _ (List.mem_of_getElem? (i := 1269) (by decide +kernel))) rfl
theorem lk_L_174 : Cond.methodLink RL 174 yX7_image ∈ GW := gw_of (List.mem_append_right _ (List.mem_of_getElem? (i := 1271) (by decide +kernel))) rfl
theorem in_X7_image : Cond.instanceMethod yX7_image ∈ GW := gw_of (List.mem_append_right _ (List.mem_of_getElem? (i := 1272) (by decide +kernel))) rfl
theorem se_X7_image : Cond.selects yX7_image.cls yX7_image yX7_image ∈ GW := gw_of (List.mem_append_right _ (List.mem_of_getElem? (i := 1273) (by decide +kernel))) rfl
theorem lk_L_178 : Cond.methodLink RL 178 yX7_undo ∈ GW := gw_of (List.mem_append_right _ (List.mem_of_getElem? (i := 1275) (by decide +kernel))) rfl
theorem in_X7_undo : Cond.instanceMethod yX7_undo ∈ GW := gw_of (List.mem_append_right _ (List.mem_of_getElem? (i := 1276) (by decide +kernel))) rfl
theorem se_X7_undo : Cond.selects yX7_undo.cls yX7_undo yX7_undo ∈ GW := gw_of (List.mem_append_right _ (List.mem_of_getElem? (i := 1277) (by decide +kernel))) rfl
theorem lk_L_182 : Cond.methodLink RL 182 yX7_tear ∈ GW := gw_of (List.mem_append_right _ (List.mem_of_getElem? (i := 1279) (by decide +kernel))) rfl
theorem in_X7_tear : Cond.instanceMethod yX7_tear ∈ GW := gw_of (List.mem_append_right _ (List.mem_of_getElem? (i := 1280) (by decide +kernel))) rfl
theorem se_X7_tear : Cond.selects yX7_tear.cls yX7_tear yX7_tear ∈ GW := gw_of (List.mem_append_right _ (List.mem_of_getElem? (i := 1281) (by decide +kernel))) rfl
theorem lk_L_186 : Cond.methodLink RL 186 yX7_count ∈ GW := gw_of (List.mem_append_right _ (List.mem_of_getElem? (i := 1283) (by decide +kernel))) rfl
theorem in_X7_count : Cond.instanceMethod yX7_count ∈ GW := gw_of (List.mem_append_right _ (List.mem_of_getElem? (i := 1284) (by decide +kernel))) rfl
theorem se_X7_count : Cond.selects yX7_count.cls yX7_count yX7_count ∈ GW := gw_of (List.mem_append_right _ (List.mem_of_getElem? (i := 1285) (by decide +kernel))) rfl
theorem lk_X7_302 : Cond.methodLink RX7 302 yX7_holding ∈ GW := gw_of (List.mem_append_right _ (List.mem_of_getElem? (i := 1287) (by decide +kernel))) rfl
theorem in_X7_holding : Cond.instanceMethod yX7_holding ∈ GW := gw_of (List.mem_append_right _ (List.mem_of_getElem? (i := 1289) (by decide +kernel))) rfl
theorem lk_L_190 : Cond.methodLink RL 190 yX7_status ∈ GW := gw_of (List.mem_append_right _ (List.mem_of_getElem? (i := 1291) (by decide +kernel))) rfl
theorem in_X7_status : Cond.instanceMethod yX7_status ∈ GW := gw_of (List.mem_append_right _ (List.mem_of_getElem? (i := 1292) (by decide +kernel))) rfl
theorem se_X7_status : Cond.selects yX7_status.cls yX7_status yX7_status ∈ GW := gw_of (List.mem_append_right _ (List.mem_of_getElem? (i := 1293) (by decide +kernel))) rfl
theorem se_X6_tell : Cond.selects yX6_tell.cls yX6_tell yX6_tell ∈ GW := gw_of (List.mem_append_left _ (List.mem_of_getElem? (i := 0) (by decide +kernel))) rfl
theorem se_X6_orNone : Cond.selects yX6_orNone.cls yX6_orNone yX6_orNone ∈ GW := gw_of (List.mem_append_left _ (List.mem_of_getElem? (i := 1) (by decide +kernel))) rfl
theorem se_X0_letTheOverfullFallIll : Cond.selects yX0_letTheOverfullFallIll.cls yX0_letTheOverfullFallIll yX0_letTheOverfullFallIll ∈ GW := gw_of (List.mem_append_left _ (List.mem_of_getElem? (i := 2) (by decide +kernel))) rfl
theorem se_X0_letAllDigest : Cond.selects yX0_letAllDigest.cls yX0_letAllDigest yX0_letAllDigest ∈ GW := gw_of (List.mem_append_left _ (List.mem_of_getElem? (i := 3) (by decide +kernel))) rfl
theorem se_X3_staysQuiet : Cond.selects yX3_staysQuiet.cls yX3_staysQuiet yX3_staysQuiet ∈ GW := gw_of (List.mem_append_left _ (List.mem_of_getElem? (i := 4) (by decide +kernel))) rfl
theorem se_X3_makeFast : Cond.selects yX3_makeFast.cls yX3_makeFast yX3_makeFast ∈ GW := gw_of (List.mem_append_left _ (List.mem_of_getElem? (i := 5) (by decide +kernel))) rfl
theorem se_X0_takeTogether : Cond.selects yX0_takeTogether.cls yX0_takeTogether yX0_takeTogether ∈ GW := gw_of (List.mem_append_left _ (List.mem_of_getElem? (i := 6) (by decide +kernel))) rfl
theorem se_X6_sheetAt : Cond.selects yX6_sheetAt.cls yX6_sheetAt yX6_sheetAt ∈ GW := gw_of (List.mem_append_left _ (List.mem_of_getElem? (i := 7) (by decide +kernel))) rfl
theorem se_X6_wrongFulness : Cond.selects yX6_wrongFulness.cls yX6_wrongFulness yX6_wrongFulness ∈ GW := gw_of (List.mem_append_left _ (List.mem_of_getElem? (i := 8) (by decide +kernel))) rfl
theorem se_X3_dreamsAsTold : Cond.selects yX3_dreamsAsTold.cls yX3_dreamsAsTold yX3_dreamsAsTold ∈ GW := gw_of (List.mem_append_left _ (List.mem_of_getElem? (i := 9) (by decide +kernel))) rfl
theorem se_X2_advance : Cond.selects yX2_advance.cls yX2_advance yX2_advance ∈ GW := gw_of (List.mem_append_left _ (List.mem_of_getElem? (i := 10) (by decide +kernel))) rfl
theorem se_X2_readItem : Cond.selects yX2_readItem.cls yX2_readItem yX2_readItem ∈ GW := gw_of (List.mem_append_left _ (List.mem_of_getElem? (i := 11) (by decide +kernel))) rfl
theorem se_X2_isWord : Cond.selects yX2_isWord.cls yX2_isWord yX2_isWord ∈ GW := gw_of (List.mem_append_left _ (List.mem_of_getElem? (i := 12) (by decide +kernel))) rfl
theorem se_X2_readTold : Cond.selects yX2_readTold.cls yX2_readTold yX2_readTold ∈ GW := gw_of (List.mem_append_left _ (List.mem_of_getElem? (i := 13) (by decide +kernel))) rfl
theorem se_X2_readNumber : Cond.selects yX2_readNumber.cls yX2_readNumber yX2_readNumber ∈ GW := gw_of (List.mem_append_left _ (List.mem_of_getElem? (i := 14) (by decide +kernel))) rfl
theorem se_X2_readWater : Cond.selects yX2_readWater.cls yX2_readWater yX2_readWater ∈ GW := gw_of (List.mem_append_left _ (List.mem_of_getElem? (i := 15) (by decide +kernel))) rfl
theorem se_X2_readOut : Cond.selects yX2_readOut.cls yX2_readOut yX2_readOut ∈ GW := gw_of (List.mem_append_left _ (List.mem_of_getElem? (i := 16) (by decide +kernel))) rfl
theorem se_X2_readPriest : Cond.selects yX2_readPriest.cls yX2_readPriest yX2_readPriest ∈ GW := gw_of (List.mem_append_left _ (List.mem_of_getElem? (i := 17) (by decide +kernel))) rfl
theorem se_X2_kindAtHand : Cond.selects yX2_kindAtHand.cls yX2_kindAtHand yX2_kindAtHand ∈ GW := gw_of (List.mem_append_left _ (List.mem_of_getElem? (i := 18) (by decide +kernel))) rfl
theorem se_X2_readPerhaps : Cond.selects yX2_readPerhaps.cls yX2_readPerhaps yX2_readPerhaps ∈ GW := gw_of (List.mem_append_left _ (List.mem_of_getElem? (i := 19) (by decide +kernel))) rfl
theorem se_X4_cut : Cond.selects yX4_cut.cls yX4_cut yX4_cut ∈ GW := gw_of (List.mem_append_left _ (List.mem_of_getElem? (i := 20) (by decide +kernel))) rfl
theorem se_X7_becomes : Cond.selects yX7_becomes.cls yX7_becomes yX7_becomes ∈ GW := gw_of (List.mem_append_left _ (List.mem_of_getElem? (i := 21) (by decide +kernel))) rfl
theorem se_X7_finds : Cond.selects yX7_finds.cls yX7_finds yX7_finds ∈ GW := gw_of (List.mem_append_left _ (List.mem_of_getElem? (i := 22) (by decide +kernel))) rfl
theorem se_X7_comes : Cond.selects yX7_comes.cls yX7_comes yX7_comes ∈ GW := gw_of (List.mem_append_left _ (List.mem_of_getElem? (i := 23) (by decide +kernel))) rfl
theorem se_X7_sets : Cond.selects yX7_sets.cls yX7_sets yX7_sets ∈ GW := gw_of (List.mem_append_left _ (List.mem_of_getElem? (i := 24) (by decide +kernel))) rfl
theorem se_X7_isPriest : Cond.selects yX7_isPriest.cls yX7_isPriest yX7_isPriest ∈ GW := gw_of (List.mem_append_left _ (List.mem_of_getElem? (i := 25) (by decide +kernel))) rfl
theorem se_X7_holds : Cond.selects yX7_holds.cls yX7_holds yX7_holds ∈ GW := gw_of (List.mem_append_left _ (List.mem_of_getElem? (i := 26) (by decide +kernel))) rfl
theorem se_X7_its : Cond.selects yX7_its.cls yX7_its yX7_its ∈ GW := gw_of (List.mem_append_left _ (List.mem_of_getElem? (i := 27) (by decide +kernel))) rfl
theorem se_X7_room : Cond.selects yX7_room.cls yX7_room yX7_room ∈ GW := gw_of (List.mem_append_left _ (List.mem_of_getElem? (i := 28) (by decide +kernel))) rfl
theorem se_X7_digests : Cond.selects yX7_digests.cls yX7_digests yX7_digests ∈ GW := gw_of (List.mem_append_left _ (List.mem_of_getElem? (i := 29) (by decide +kernel))) rfl
theorem se_X7_keeps : Cond.selects yX7_keeps.cls yX7_keeps yX7_keeps ∈ GW := gw_of (List.mem_append_left _ (List.mem_of_getElem? (i := 30) (by decide +kernel))) rfl
theorem se_X7_swellsBy : Cond.selects yX7_swellsBy.cls yX7_swellsBy yX7_swellsBy ∈ GW := gw_of (List.mem_append_left _ (List.mem_of_getElem? (i := 31) (by decide +kernel))) rfl
theorem se_X7_roomiest : Cond.selects yX7_roomiest.cls yX7_roomiest yX7_roomiest ∈ GW := gw_of (List.mem_append_left _ (List.mem_of_getElem? (i := 32) (by decide +kernel))) rfl
theorem se_X7_daysGo : Cond.selects yX7_daysGo.cls yX7_daysGo yX7_daysGo ∈ GW := gw_of (List.mem_append_left _ (List.mem_of_getElem? (i := 33) (by decide +kernel))) rfl
theorem se_X7_dayGoes : Cond.selects yX7_dayGoes.cls yX7_dayGoes yX7_dayGoes ∈ GW := gw_of (List.mem_append_left _ (List.mem_of_getElem? (i := 34) (by decide +kernel))) rfl
theorem se_X7_todays : Cond.selects yX7_todays.cls yX7_todays yX7_todays ∈ GW := gw_of (List.mem_append_left _ (List.mem_of_getElem? (i := 35) (by decide +kernel))) rfl
theorem se_X7_confesses : Cond.selects yX7_confesses.cls yX7_confesses yX7_confesses ∈ GW := gw_of (List.mem_append_left _ (List.mem_of_getElem? (i := 36) (by decide +kernel))) rfl
theorem se_X7_together : Cond.selects yX7_together.cls yX7_together yX7_together ∈ GW := gw_of (List.mem_append_left _ (List.mem_of_getElem? (i := 37) (by decide +kernel))) rfl
theorem se_X7_sumOf : Cond.selects yX7_sumOf.cls yX7_sumOf yX7_sumOf ∈ GW := gw_of (List.mem_append_left _ (List.mem_of_getElem? (i := 38) (by decide +kernel))) rfl
theorem se_X7_fullest : Cond.selects yX7_fullest.cls yX7_fullest yX7_fullest ∈ GW := gw_of (List.mem_append_left _ (List.mem_of_getElem? (i := 39) (by decide +kernel))) rfl
theorem se_X7_firstOf : Cond.selects yX7_firstOf.cls yX7_firstOf yX7_firstOf ∈ GW := gw_of (List.mem_append_left _ (List.mem_of_getElem? (i := 40) (by decide +kernel))) rfl
theorem se_X7_illBehind : Cond.selects yX7_illBehind.cls yX7_illBehind yX7_illBehind ∈ GW := gw_of (List.mem_append_left _ (List.mem_of_getElem? (i := 41) (by decide +kernel))) rfl
theorem se_X7_behind : Cond.selects yX7_behind.cls yX7_behind yX7_behind ∈ GW := gw_of (List.mem_append_left _ (List.mem_of_getElem? (i := 42) (by decide +kernel))) rfl
theorem se_X7_whyNot : Cond.selects yX7_whyNot.cls yX7_whyNot yX7_whyNot ∈ GW := gw_of (List.mem_append_left _ (List.mem_of_getElem? (i := 43) (by decide +kernel))) rfl
theorem se_X7_whyNone : Cond.selects yX7_whyNone.cls yX7_whyNone yX7_whyNone ∈ GW := gw_of (List.mem_append_left _ (List.mem_of_getElem? (i := 44) (by decide +kernel))) rfl
theorem se_X7_isOf : Cond.selects yX7_isOf.cls yX7_isOf yX7_isOf ∈ GW := gw_of (List.mem_append_left _ (List.mem_of_getElem? (i := 45) (by decide +kernel))) rfl
theorem se_X7_isTold : Cond.selects yX7_isTold.cls yX7_isTold yX7_isTold ∈ GW := gw_of (List.mem_append_left _ (List.mem_of_getElem? (i := 46) (by decide +kernel))) rfl
theorem se_X7_draw : Cond.selects yX7_draw.cls yX7_draw yX7_draw ∈ GW := gw_of (List.mem_append_left _ (List.mem_of_getElem? (i := 47) (by decide +kernel))) rfl
theorem se_X7_items : Cond.selects yX7_items.cls yX7_items yX7_items ∈ GW := gw_of (List.mem_append_left _ (List.mem_of_getElem? (i := 48) (by decide +kernel))) rfl
theorem se_X7_next : Cond.selects yX7_next.cls yX7_next yX7_next ∈ GW := gw_of (List.mem_append_left _ (List.mem_of_getElem? (i := 49) (by decide +kernel))) rfl
theorem se_X7_byteAt : Cond.selects yX7_byteAt.cls yX7_byteAt yX7_byteAt ∈ GW := gw_of (List.mem_append_left _ (List.mem_of_getElem? (i := 50) (by decide +kernel))) rfl
theorem se_X7_item : Cond.selects yX7_item.cls yX7_item yX7_item ∈ GW := gw_of (List.mem_append_left _ (List.mem_of_getElem? (i := 51) (by decide +kernel))) rfl
theorem se_X7_kindHere : Cond.selects yX7_kindHere.cls yX7_kindHere yX7_kindHere ∈ GW := gw_of (List.mem_append_left _ (List.mem_of_getElem? (i := 52) (by decide +kernel))) rfl
theorem se_X7_isWord : Cond.selects yX7_isWord.cls yX7_isWord yX7_isWord ∈ GW := gw_of (List.mem_append_left _ (List.mem_of_getElem? (i := 53) (by decide +kernel))) rfl
theorem se_X7_priestHere : Cond.selects yX7_priestHere.cls yX7_priestHere yX7_priestHere ∈ GW := gw_of (List.mem_append_left _ (List.mem_of_getElem? (i := 54) (by decide +kernel))) rfl
theorem se_X7_wrongHere : Cond.selects yX7_wrongHere.cls yX7_wrongHere yX7_wrongHere ∈ GW := gw_of (List.mem_append_left _ (List.mem_of_getElem? (i := 55) (by decide +kernel))) rfl
theorem se_X7_perhaps : Cond.selects yX7_perhaps.cls yX7_perhaps yX7_perhaps ∈ GW := gw_of (List.mem_append_left _ (List.mem_of_getElem? (i := 56) (by decide +kernel))) rfl
theorem se_X7_numberHere : Cond.selects yX7_numberHere.cls yX7_numberHere yX7_numberHere ∈ GW := gw_of (List.mem_append_left _ (List.mem_of_getElem? (i := 57) (by decide +kernel))) rfl
theorem se_X7_toldHere : Cond.selects yX7_toldHere.cls yX7_toldHere yX7_toldHere ∈ GW := gw_of (List.mem_append_left _ (List.mem_of_getElem? (i := 58) (by decide +kernel))) rfl
theorem se_X7_holding : Cond.selects yX7_holding.cls yX7_holding yX7_holding ∈ GW := gw_of (List.mem_append_left _ (List.mem_of_getElem? (i := 59) (by decide +kernel))) rfl
theorem ac_nat : Cond.native arraycopyName ∈ GW := gw_of (List.mem_append_right _ (List.mem_of_getElem? (i := 419) (by decide +kernel))) rfl
theorem ac_st : Cond.static arraycopyName ∈ GW := gw_of (List.mem_append_right _ (List.mem_of_getElem? (i := 418) (by decide +kernel))) rfl
theorem gi_X0 : ∀ w ∈ u_ws RX0 TX0 9, w ∈ GW := fun w h => gw_of ((by decide +kernel : ∀ w ∈ u_ws RX0 TX0 9, w ∈ lw_tbl) w h) ((by decide +kernel : ∀ w ∈ u_ws RX0 TX0 9, goodWord w = true) w h)
theorem gi_X1 : ∀ w ∈ u_ws RX1 TX1 6, w ∈ GW := fun w h => gw_of ((by decide +kernel : ∀ w ∈ u_ws RX1 TX1 6, w ∈ lw_tbl) w h) ((by decide +kernel : ∀ w ∈ u_ws RX1 TX1 6, goodWord w = true) w h)
theorem gi_X2 : ∀ w ∈ u_ws RX2 TX2 6, w ∈ GW := fun w h => gw_of ((by decide +kernel : ∀ w ∈ u_ws RX2 TX2 6, w ∈ lw_tbl) w h) ((by decide +kernel : ∀ w ∈ u_ws RX2 TX2 6, goodWord w = true) w h)
theorem gi_X3 : ∀ w ∈ u_ws RX3 TX3 1, w ∈ GW := fun w h => gw_of ((by decide +kernel : ∀ w ∈ u_ws RX3 TX3 1, w ∈ lw_tbl) w h) ((by decide +kernel : ∀ w ∈ u_ws RX3 TX3 1, goodWord w = true) w h)
theorem gi_X4 : ∀ w ∈ u_ws RX4 TX4 3, w ∈ GW := fun w h => gw_of ((by decide +kernel : ∀ w ∈ u_ws RX4 TX4 3, w ∈ lw_tbl) w h) ((by decide +kernel : ∀ w ∈ u_ws RX4 TX4 3, goodWord w = true) w h)
theorem gi_X5 : ∀ w ∈ u_ws RX5 TX5 2, w ∈ GW := fun w h => gw_of ((by decide +kernel : ∀ w ∈ u_ws RX5 TX5 2, w ∈ lw_tbl) w h) ((by decide +kernel : ∀ w ∈ u_ws RX5 TX5 2, goodWord w = true) w h)
theorem gi_X6 : ∀ w ∈ u_ws RX6 TX6 7, w ∈ GW := fun w h => gw_of ((by decide +kernel : ∀ w ∈ u_ws RX6 TX6 7, w ∈ lw_tbl) w h) ((by decide +kernel : ∀ w ∈ u_ws RX6 TX6 7, goodWord w = true) w h)
theorem gi_X7 : ∀ w ∈ u_ws RX7 TX7 17, w ∈ GW := fun w h => gw_of ((by decide +kernel : ∀ w ∈ u_ws RX7 TX7 17, w ∈ lw_tbl) w h) ((by decide +kernel : ∀ w ∈ u_ws RX7 TX7 17, goodWord w = true) w h)
theorem fl_X1_19 : FLK RX1 19 1 0 := ⟨RX1, TX1, 6, tyX1, rfl, by decide, gi_X1, rfl, nmX1, tyX1_ok, Or.inl (gw_of (List.mem_append_right _ (List.mem_of_getElem? (i := 38) (by decide +kernel))) rfl)⟩
theorem fl_X0_62 : FLK RX0 62 1 0 := ⟨RX1, TX1, 6, tyX1, rfl, by decide, gi_X1, rfl, nmX1, tyX1_ok, Or.inr ⟨RX6, nl_of (List.mem_append_right _ (List.mem_of_getElem? (i := 39) (by decide +kernel))) rfl⟩⟩
theorem fl_X3_87 : FLK RX3 87 1 0 := ⟨RX1, TX1, 6, tyX1, rfl, by decide, gi_X1, rfl, nmX1, tyX1_ok, Or.inr ⟨RX6, nl_of (List.mem_append_right _ (List.mem_of_getElem? (i := 40) (by decide +kernel))) rfl⟩⟩
theorem fl_X1_23 : FLK RX1 23 1 1 := ⟨RX1, TX1, 6, tyX1, rfl, by decide, gi_X1, rfl, nmX1, tyX1_ok, Or.inl (gw_of (List.mem_append_right _ (List.mem_of_getElem? (i := 41) (by decide +kernel))) rfl)⟩
theorem fl_X0_65 : FLK RX0 65 1 1 := ⟨RX1, TX1, 6, tyX1, rfl, by decide, gi_X1, rfl, nmX1, tyX1_ok, Or.inr ⟨RX6, nl_of (List.mem_append_right _ (List.mem_of_getElem? (i := 42) (by decide +kernel))) rfl⟩⟩
theorem fl_X3_55 : FLK RX3 55 1 1 := ⟨RX1, TX1, 6, tyX1, rfl, by decide, gi_X1, rfl, nmX1, tyX1_ok, Or.inr ⟨RX6, nl_of (List.mem_append_right _ (List.mem_of_getElem? (i := 43) (by decide +kernel))) rfl⟩⟩
theorem fl_X1_26 : FLK RX1 26 1 2 := ⟨RX1, TX1, 6, tyX1, rfl, by decide, gi_X1, rfl, nmX1, tyX1_ok, Or.inl (gw_of (List.mem_append_right _ (List.mem_of_getElem? (i := 44) (by decide +kernel))) rfl)⟩
theorem fl_X0_68 : FLK RX0 68 1 2 := ⟨RX1, TX1, 6, tyX1, rfl, by decide, gi_X1, rfl, nmX1, tyX1_ok, Or.inr ⟨RX6, nl_of (List.mem_append_right _ (List.mem_of_getElem? (i := 45) (by decide +kernel))) rfl⟩⟩
theorem fl_X3_83 : FLK RX3 83 1 2 := ⟨RX1, TX1, 6, tyX1, rfl, by decide, gi_X1, rfl, nmX1, tyX1_ok, Or.inr ⟨RX6, nl_of (List.mem_append_right _ (List.mem_of_getElem? (i := 46) (by decide +kernel))) rfl⟩⟩
theorem fl_X6_215 : FLK RX6 215 1 2 := ⟨RX1, TX1, 6, tyX1, rfl, by decide, gi_X1, rfl, nmX1, tyX1_ok, Or.inr ⟨RX6, nl_of (List.mem_append_right _ (List.mem_of_getElem? (i := 47) (by decide +kernel))) rfl⟩⟩
theorem fl_X1_29 : FLK RX1 29 1 3 := ⟨RX1, TX1, 6, tyX1, rfl, by decide, gi_X1, rfl, nmX1, tyX1_ok, Or.inl (gw_of (List.mem_append_right _ (List.mem_of_getElem? (i := 48) (by decide +kernel))) rfl)⟩
theorem fl_X0_71 : FLK RX0 71 1 3 := ⟨RX1, TX1, 6, tyX1, rfl, by decide, gi_X1, rfl, nmX1, tyX1_ok, Or.inr ⟨RX6, nl_of (List.mem_append_right _ (List.mem_of_getElem? (i := 49) (by decide +kernel))) rfl⟩⟩
theorem fl_X3_46 : FLK RX3 46 1 3 := ⟨RX1, TX1, 6, tyX1, rfl, by decide, gi_X1, rfl, nmX1, tyX1_ok, Or.inr ⟨RX6, nl_of (List.mem_append_right _ (List.mem_of_getElem? (i := 50) (by decide +kernel))) rfl⟩⟩
theorem fl_X6_305 : FLK RX6 305 1 3 := ⟨RX1, TX1, 6, tyX1, rfl, by decide, gi_X1, rfl, nmX1, tyX1_ok, Or.inr ⟨RX6, nl_of (List.mem_append_right _ (List.mem_of_getElem? (i := 51) (by decide +kernel))) rfl⟩⟩
theorem fl_X1_32 : FLK RX1 32 1 4 := ⟨RX1, TX1, 6, tyX1, rfl, by decide, gi_X1, rfl, nmX1, tyX1_ok, Or.inl (gw_of (List.mem_append_right _ (List.mem_of_getElem? (i := 52) (by decide +kernel))) rfl)⟩
theorem fl_X0_74 : FLK RX0 74 1 4 := ⟨RX1, TX1, 6, tyX1, rfl, by decide, gi_X1, rfl, nmX1, tyX1_ok, Or.inr ⟨RX6, nl_of (List.mem_append_right _ (List.mem_of_getElem? (i := 53) (by decide +kernel))) rfl⟩⟩
theorem fl_X3_34 : FLK RX3 34 1 5 := ⟨RX1, TX1, 6, tyX1, rfl, by decide, gi_X1, rfl, nmX1, tyX1_ok, Or.inr ⟨RX6, nl_of (List.mem_append_right _ (List.mem_of_getElem? (i := 54) (by decide +kernel))) rfl⟩⟩
theorem fl_X1_35 : FLK RX1 35 1 5 := ⟨RX1, TX1, 6, tyX1, rfl, by decide, gi_X1, rfl, nmX1, tyX1_ok, Or.inl (gw_of (List.mem_append_right _ (List.mem_of_getElem? (i := 55) (by decide +kernel))) rfl)⟩
theorem fl_X0_77 : FLK RX0 77 1 5 := ⟨RX1, TX1, 6, tyX1, rfl, by decide, gi_X1, rfl, nmX1, tyX1_ok, Or.inr ⟨RX6, nl_of (List.mem_append_right _ (List.mem_of_getElem? (i := 56) (by decide +kernel))) rfl⟩⟩
theorem fl_X0_9 : FLK RX0 9 0 0 := ⟨RX0, TX0, 9, tyX0, rfl, by decide, gi_X0, rfl, nmX0, tyX0_ok, Or.inl (gw_of (List.mem_append_right _ (List.mem_of_getElem? (i := 71) (by decide +kernel))) rfl)⟩
theorem fl_X6_119 : FLK RX6 119 0 0 := ⟨RX0, TX0, 9, tyX0, rfl, by decide, gi_X0, rfl, nmX0, tyX0_ok, Or.inr ⟨RX6, nl_of (List.mem_append_right _ (List.mem_of_getElem? (i := 72) (by decide +kernel))) rfl⟩⟩
theorem fl_X0_15 : FLK RX0 15 0 1 := ⟨RX0, TX0, 9, tyX0, rfl, by decide, gi_X0, rfl, nmX0, tyX0_ok, Or.inl (gw_of (List.mem_append_right _ (List.mem_of_getElem? (i := 73) (by decide +kernel))) rfl)⟩
theorem fl_X6_52 : FLK RX6 52 0 1 := ⟨RX0, TX0, 9, tyX0, rfl, by decide, gi_X0, rfl, nmX0, tyX0_ok, Or.inr ⟨RX6, nl_of (List.mem_append_right _ (List.mem_of_getElem? (i := 74) (by decide +kernel))) rfl⟩⟩
theorem fl_X2_67 : FLK RX2 67 0 1 := ⟨RX0, TX0, 9, tyX0, rfl, by decide, gi_X0, rfl, nmX0, tyX0_ok, Or.inr ⟨RX6, nl_of (List.mem_append_right _ (List.mem_of_getElem? (i := 75) (by decide +kernel))) rfl⟩⟩
theorem fl_X3_76 : FLK RX3 76 0 1 := ⟨RX0, TX0, 9, tyX0, rfl, by decide, gi_X0, rfl, nmX0, tyX0_ok, Or.inr ⟨RX6, nl_of (List.mem_append_right _ (List.mem_of_getElem? (i := 76) (by decide +kernel))) rfl⟩⟩
theorem fl_X0_18 : FLK RX0 18 0 2 := ⟨RX0, TX0, 9, tyX0, rfl, by decide, gi_X0, rfl, nmX0, tyX0_ok, Or.inl (gw_of (List.mem_append_right _ (List.mem_of_getElem? (i := 77) (by decide +kernel))) rfl)⟩
theorem fl_X6_56 : FLK RX6 56 0 2 := ⟨RX0, TX0, 9, tyX0, rfl, by decide, gi_X0, rfl, nmX0, tyX0_ok, Or.inr ⟨RX6, nl_of (List.mem_append_right _ (List.mem_of_getElem? (i := 78) (by decide +kernel))) rfl⟩⟩
theorem fl_X3_43 : FLK RX3 43 0 2 := ⟨RX0, TX0, 9, tyX0, rfl, by decide, gi_X0, rfl, nmX0, tyX0_ok, Or.inr ⟨RX6, nl_of (List.mem_append_right _ (List.mem_of_getElem? (i := 79) (by decide +kernel))) rfl⟩⟩
theorem fl_X2_71 : FLK RX2 71 0 2 := ⟨RX0, TX0, 9, tyX0, rfl, by decide, gi_X0, rfl, nmX0, tyX0_ok, Or.inr ⟨RX6, nl_of (List.mem_append_right _ (List.mem_of_getElem? (i := 80) (by decide +kernel))) rfl⟩⟩
theorem fl_X0_21 : FLK RX0 21 0 3 := ⟨RX0, TX0, 9, tyX0, rfl, by decide, gi_X0, rfl, nmX0, tyX0_ok, Or.inl (gw_of (List.mem_append_right _ (List.mem_of_getElem? (i := 81) (by decide +kernel))) rfl)⟩
theorem fl_X6_128 : FLK RX6 128 0 3 := ⟨RX0, TX0, 9, tyX0, rfl, by decide, gi_X0, rfl, nmX0, tyX0_ok, Or.inr ⟨RX6, nl_of (List.mem_append_right _ (List.mem_of_getElem? (i := 82) (by decide +kernel))) rfl⟩⟩
theorem fl_X0_24 : FLK RX0 24 0 4 := ⟨RX0, TX0, 9, tyX0, rfl, by decide, gi_X0, rfl, nmX0, tyX0_ok, Or.inl (gw_of (List.mem_append_right _ (List.mem_of_getElem? (i := 83) (by decide +kernel))) rfl)⟩
theorem fl_X6_226 : FLK RX6 226 0 4 := ⟨RX0, TX0, 9, tyX0, rfl, by decide, gi_X0, rfl, nmX0, tyX0_ok, Or.inr ⟨RX6, nl_of (List.mem_append_right _ (List.mem_of_getElem? (i := 84) (by decide +kernel))) rfl⟩⟩
theorem fl_X0_27 : FLK RX0 27 0 5 := ⟨RX0, TX0, 9, tyX0, rfl, by decide, gi_X0, rfl, nmX0, tyX0_ok, Or.inl (gw_of (List.mem_append_right _ (List.mem_of_getElem? (i := 85) (by decide +kernel))) rfl)⟩
theorem fl_X3_90 : FLK RX3 90 0 5 := ⟨RX0, TX0, 9, tyX0, rfl, by decide, gi_X0, rfl, nmX0, tyX0_ok, Or.inr ⟨RX6, nl_of (List.mem_append_right _ (List.mem_of_getElem? (i := 86) (by decide +kernel))) rfl⟩⟩
theorem fl_X6_259 : FLK RX6 259 0 5 := ⟨RX0, TX0, 9, tyX0, rfl, by decide, gi_X0, rfl, nmX0, tyX0_ok, Or.inr ⟨RX6, nl_of (List.mem_append_right _ (List.mem_of_getElem? (i := 87) (by decide +kernel))) rfl⟩⟩
theorem fl_X0_30 : FLK RX0 30 0 6 := ⟨RX0, TX0, 9, tyX0, rfl, by decide, gi_X0, rfl, nmX0, tyX0_ok, Or.inl (gw_of (List.mem_append_right _ (List.mem_of_getElem? (i := 88) (by decide +kernel))) rfl)⟩
theorem fl_X6_68 : FLK RX6 68 0 6 := ⟨RX0, TX0, 9, tyX0, rfl, by decide, gi_X0, rfl, nmX0, tyX0_ok, Or.inr ⟨RX6, nl_of (List.mem_append_right _ (List.mem_of_getElem? (i := 89) (by decide +kernel))) rfl⟩⟩
theorem fl_X2_77 : FLK RX2 77 0 6 := ⟨RX0, TX0, 9, tyX0, rfl, by decide, gi_X0, rfl, nmX0, tyX0_ok, Or.inr ⟨RX6, nl_of (List.mem_append_right _ (List.mem_of_getElem? (i := 90) (by decide +kernel))) rfl⟩⟩
theorem fl_X3_62 : FLK RX3 62 0 6 := ⟨RX0, TX0, 9, tyX0, rfl, by decide, gi_X0, rfl, nmX0, tyX0_ok, Or.inr ⟨RX6, nl_of (List.mem_append_right _ (List.mem_of_getElem? (i := 91) (by decide +kernel))) rfl⟩⟩
theorem fl_X0_34 : FLK RX0 34 0 7 := ⟨RX0, TX0, 9, tyX0, rfl, by decide, gi_X0, rfl, nmX0, tyX0_ok, Or.inl (gw_of (List.mem_append_right _ (List.mem_of_getElem? (i := 92) (by decide +kernel))) rfl)⟩
theorem fl_X6_262 : FLK RX6 262 0 7 := ⟨RX0, TX0, 9, tyX0, rfl, by decide, gi_X0, rfl, nmX0, tyX0_ok, Or.inr ⟨RX6, nl_of (List.mem_append_right _ (List.mem_of_getElem? (i := 93) (by decide +kernel))) rfl⟩⟩
theorem fl_X0_39 : FLK RX0 39 0 8 := ⟨RX0, TX0, 9, tyX0, rfl, by decide, gi_X0, rfl, nmX0, tyX0_ok, Or.inl (gw_of (List.mem_append_right _ (List.mem_of_getElem? (i := 94) (by decide +kernel))) rfl)⟩
theorem fl_X3_12 : FLK RX3 12 3 0 := ⟨RX3, TX3, 1, tyX3, rfl, by decide, gi_X3, rfl, nmX3, tyX3_ok, Or.inl (gw_of (List.mem_append_right _ (List.mem_of_getElem? (i := 122) (by decide +kernel))) rfl)⟩
theorem fl_X6_252 : FLK RX6 252 3 0 := ⟨RX3, TX3, 1, tyX3, rfl, by decide, gi_X3, rfl, nmX3, tyX3_ok, Or.inr ⟨RX6, nl_of (List.mem_append_right _ (List.mem_of_getElem? (i := 123) (by decide +kernel))) rfl⟩⟩
theorem fl_X5_9 : FLK RX5 9 5 0 := ⟨RX5, TX5, 2, tyX5, rfl, by decide, gi_X5, rfl, nmX5, tyX5_ok, Or.inl (gw_of (List.mem_append_right _ (List.mem_of_getElem? (i := 139) (by decide +kernel))) rfl)⟩
theorem fl_X5_15 : FLK RX5 15 5 1 := ⟨RX5, TX5, 2, tyX5, rfl, by decide, gi_X5, rfl, nmX5, tyX5_ok, Or.inl (gw_of (List.mem_append_right _ (List.mem_of_getElem? (i := 140) (by decide +kernel))) rfl)⟩
theorem fl_X6_238 : FLK RX6 238 5 1 := ⟨RX5, TX5, 2, tyX5, rfl, by decide, gi_X5, rfl, nmX5, tyX5_ok, Or.inr ⟨RX6, nl_of (List.mem_append_right _ (List.mem_of_getElem? (i := 141) (by decide +kernel))) rfl⟩⟩
theorem fl_X2_12 : FLK RX2 12 2 0 := ⟨RX2, TX2, 6, tyX2, rfl, by decide, gi_X2, rfl, nmX2, tyX2_ok, Or.inl (gw_of (List.mem_append_right _ (List.mem_of_getElem? (i := 148) (by decide +kernel))) rfl)⟩
theorem fl_X6_229 : FLK RX6 229 2 0 := ⟨RX2, TX2, 6, tyX2, rfl, by decide, gi_X2, rfl, nmX2, tyX2_ok, Or.inr ⟨RX6, nl_of (List.mem_append_right _ (List.mem_of_getElem? (i := 149) (by decide +kernel))) rfl⟩⟩
theorem fl_X2_18 : FLK RX2 18 2 1 := ⟨RX2, TX2, 6, tyX2, rfl, by decide, gi_X2, rfl, nmX2, tyX2_ok, Or.inl (gw_of (List.mem_append_right _ (List.mem_of_getElem? (i := 150) (by decide +kernel))) rfl)⟩
theorem fl_X2_22 : FLK RX2 22 2 2 := ⟨RX2, TX2, 6, tyX2, rfl, by decide, gi_X2, rfl, nmX2, tyX2_ok, Or.inl (gw_of (List.mem_append_right _ (List.mem_of_getElem? (i := 151) (by decide +kernel))) rfl)⟩
theorem fl_X2_25 : FLK RX2 25 2 3 := ⟨RX2, TX2, 6, tyX2, rfl, by decide, gi_X2, rfl, nmX2, tyX2_ok, Or.inl (gw_of (List.mem_append_right _ (List.mem_of_getElem? (i := 152) (by decide +kernel))) rfl)⟩
theorem fl_X2_28 : FLK RX2 28 2 4 := ⟨RX2, TX2, 6, tyX2, rfl, by decide, gi_X2, rfl, nmX2, tyX2_ok, Or.inl (gw_of (List.mem_append_right _ (List.mem_of_getElem? (i := 153) (by decide +kernel))) rfl)⟩
theorem fl_X2_31 : FLK RX2 31 2 5 := ⟨RX2, TX2, 6, tyX2, rfl, by decide, gi_X2, rfl, nmX2, tyX2_ok, Or.inl (gw_of (List.mem_append_right _ (List.mem_of_getElem? (i := 154) (by decide +kernel))) rfl)⟩
theorem fl_X4_9 : FLK RX4 9 4 0 := ⟨RX4, TX4, 3, tyX4, rfl, by decide, gi_X4, rfl, nmX4, tyX4_ok, Or.inl (gw_of (List.mem_append_right _ (List.mem_of_getElem? (i := 175) (by decide +kernel))) rfl)⟩
theorem fl_X6_290 : FLK RX6 290 4 0 := ⟨RX4, TX4, 3, tyX4, rfl, by decide, gi_X4, rfl, nmX4, tyX4_ok, Or.inr ⟨RX6, nl_of (List.mem_append_right _ (List.mem_of_getElem? (i := 176) (by decide +kernel))) rfl⟩⟩
theorem fl_X4_15 : FLK RX4 15 4 1 := ⟨RX4, TX4, 3, tyX4, rfl, by decide, gi_X4, rfl, nmX4, tyX4_ok, Or.inl (gw_of (List.mem_append_right _ (List.mem_of_getElem? (i := 177) (by decide +kernel))) rfl)⟩
theorem fl_X3_96 : FLK RX3 96 4 1 := ⟨RX4, TX4, 3, tyX4, rfl, by decide, gi_X4, rfl, nmX4, tyX4_ok, Or.inr ⟨RX6, nl_of (List.mem_append_right _ (List.mem_of_getElem? (i := 178) (by decide +kernel))) rfl⟩⟩
theorem fl_X6_277 : FLK RX6 277 4 1 := ⟨RX4, TX4, 3, tyX4, rfl, by decide, gi_X4, rfl, nmX4, tyX4_ok, Or.inr ⟨RX6, nl_of (List.mem_append_right _ (List.mem_of_getElem? (i := 179) (by decide +kernel))) rfl⟩⟩
theorem fl_X4_18 : FLK RX4 18 4 2 := ⟨RX4, TX4, 3, tyX4, rfl, by decide, gi_X4, rfl, nmX4, tyX4_ok, Or.inl (gw_of (List.mem_append_right _ (List.mem_of_getElem? (i := 180) (by decide +kernel))) rfl)⟩
theorem fl_X3_101 : FLK RX3 101 4 2 := ⟨RX4, TX4, 3, tyX4, rfl, by decide, gi_X4, rfl, nmX4, tyX4_ok, Or.inr ⟨RX6, nl_of (List.mem_append_right _ (List.mem_of_getElem? (i := 181) (by decide +kernel))) rfl⟩⟩
theorem fl_X6_296 : FLK RX6 296 4 2 := ⟨RX4, TX4, 3, tyX4, rfl, by decide, gi_X4, rfl, nmX4, tyX4_ok, Or.inr ⟨RX6, nl_of (List.mem_append_right _ (List.mem_of_getElem? (i := 182) (by decide +kernel))) rfl⟩⟩
theorem fl_X6_12 : FLK RX6 12 6 0 := ⟨RX6, TX6, 7, tyX6, rfl, by decide, gi_X6, rfl, nmX6, tyX6_ok, Or.inl (gw_of (List.mem_append_right _ (List.mem_of_getElem? (i := 190) (by decide +kernel))) rfl)⟩
theorem fl_X6_16 : FLK RX6 16 6 1 := ⟨RX6, TX6, 7, tyX6, rfl, by decide, gi_X6, rfl, nmX6, tyX6_ok, Or.inl (gw_of (List.mem_append_right _ (List.mem_of_getElem? (i := 191) (by decide +kernel))) rfl)⟩
theorem fl_X6_19 : FLK RX6 19 6 2 := ⟨RX6, TX6, 7, tyX6, rfl, by decide, gi_X6, rfl, nmX6, tyX6_ok, Or.inl (gw_of (List.mem_append_right _ (List.mem_of_getElem? (i := 192) (by decide +kernel))) rfl)⟩
theorem fl_X6_26 : FLK RX6 26 6 3 := ⟨RX6, TX6, 7, tyX6, rfl, by decide, gi_X6, rfl, nmX6, tyX6_ok, Or.inl (gw_of (List.mem_append_right _ (List.mem_of_getElem? (i := 193) (by decide +kernel))) rfl)⟩
theorem fl_X6_33 : FLK RX6 33 6 4 := ⟨RX6, TX6, 7, tyX6, rfl, by decide, gi_X6, rfl, nmX6, tyX6_ok, Or.inl (gw_of (List.mem_append_right _ (List.mem_of_getElem? (i := 194) (by decide +kernel))) rfl)⟩
theorem fl_X6_39 : FLK RX6 39 6 5 := ⟨RX6, TX6, 7, tyX6, rfl, by decide, gi_X6, rfl, nmX6, tyX6_ok, Or.inl (gw_of (List.mem_append_right _ (List.mem_of_getElem? (i := 195) (by decide +kernel))) rfl)⟩
theorem fl_X6_43 : FLK RX6 43 6 6 := ⟨RX6, TX6, 7, tyX6, rfl, by decide, gi_X6, rfl, nmX6, tyX6_ok, Or.inl (gw_of (List.mem_append_right _ (List.mem_of_getElem? (i := 196) (by decide +kernel))) rfl)⟩
theorem fs_X1_38 : Cond.fieldLink RX1 38 "RicePriests$Priest" "ABOVE" "[I" ∈ GW := gw_of (List.mem_append_right _ (List.mem_of_getElem? (i := 761) (by decide +kernel))) rfl
theorem fl_X7_7 : FLK RX7 7 7 0 := ⟨RX7, TX7, 17, tyX7, rfl, by decide, gi_X7, rfl, nmX7, tyX7_ok, Or.inl (gw_of (List.mem_append_right _ (List.mem_of_getElem? (i := 837) (by decide +kernel))) rfl)⟩
theorem fl_X7_13 : FLK RX7 13 7 1 := ⟨RX7, TX7, 17, tyX7, rfl, by decide, gi_X7, rfl, nmX7, tyX7_ok, Or.inl (gw_of (List.mem_append_right _ (List.mem_of_getElem? (i := 838) (by decide +kernel))) rfl)⟩
theorem fl_X7_16 : FLK RX7 16 7 2 := ⟨RX7, TX7, 17, tyX7, rfl, by decide, gi_X7, rfl, nmX7, tyX7_ok, Or.inl (gw_of (List.mem_append_right _ (List.mem_of_getElem? (i := 839) (by decide +kernel))) rfl)⟩
theorem fl_X7_19 : FLK RX7 19 7 3 := ⟨RX7, TX7, 17, tyX7, rfl, by decide, gi_X7, rfl, nmX7, tyX7_ok, Or.inl (gw_of (List.mem_append_right _ (List.mem_of_getElem? (i := 840) (by decide +kernel))) rfl)⟩
theorem fl_X7_298 : FLK RX7 298 7 4 := ⟨RX7, TX7, 17, tyX7, rfl, by decide, gi_X7, rfl, nmX7, tyX7_ok, Or.inl (gw_of (List.mem_append_right _ (List.mem_of_getElem? (i := 841) (by decide +kernel))) rfl)⟩
theorem fl_X7_22 : FLK RX7 22 7 5 := ⟨RX7, TX7, 17, tyX7, rfl, by decide, gi_X7, rfl, nmX7, tyX7_ok, Or.inl (gw_of (List.mem_append_right _ (List.mem_of_getElem? (i := 842) (by decide +kernel))) rfl)⟩
theorem fl_X7_25 : FLK RX7 25 7 6 := ⟨RX7, TX7, 17, tyX7, rfl, by decide, gi_X7, rfl, nmX7, tyX7_ok, Or.inl (gw_of (List.mem_append_right _ (List.mem_of_getElem? (i := 843) (by decide +kernel))) rfl)⟩
theorem fl_X7_191 : FLK RX7 191 7 7 := ⟨RX7, TX7, 17, tyX7, rfl, by decide, gi_X7, rfl, nmX7, tyX7_ok, Or.inl (gw_of (List.mem_append_right _ (List.mem_of_getElem? (i := 844) (by decide +kernel))) rfl)⟩
theorem fl_X7_195 : FLK RX7 195 7 8 := ⟨RX7, TX7, 17, tyX7, rfl, by decide, gi_X7, rfl, nmX7, tyX7_ok, Or.inl (gw_of (List.mem_append_right _ (List.mem_of_getElem? (i := 845) (by decide +kernel))) rfl)⟩
theorem fl_X7_208 : FLK RX7 208 7 9 := ⟨RX7, TX7, 17, tyX7, rfl, by decide, gi_X7, rfl, nmX7, tyX7_ok, Or.inl (gw_of (List.mem_append_right _ (List.mem_of_getElem? (i := 846) (by decide +kernel))) rfl)⟩
theorem fl_X7_201 : FLK RX7 201 7 10 := ⟨RX7, TX7, 17, tyX7, rfl, by decide, gi_X7, rfl, nmX7, tyX7_ok, Or.inl (gw_of (List.mem_append_right _ (List.mem_of_getElem? (i := 847) (by decide +kernel))) rfl)⟩
theorem fl_X7_204 : FLK RX7 204 7 11 := ⟨RX7, TX7, 17, tyX7, rfl, by decide, gi_X7, rfl, nmX7, tyX7_ok, Or.inl (gw_of (List.mem_append_right _ (List.mem_of_getElem? (i := 848) (by decide +kernel))) rfl)⟩
theorem fl_X7_227 : FLK RX7 227 7 12 := ⟨RX7, TX7, 17, tyX7, rfl, by decide, gi_X7, rfl, nmX7, tyX7_ok, Or.inl (gw_of (List.mem_append_right _ (List.mem_of_getElem? (i := 849) (by decide +kernel))) rfl)⟩
theorem fl_X7_29 : FLK RX7 29 7 13 := ⟨RX7, TX7, 17, tyX7, rfl, by decide, gi_X7, rfl, nmX7, tyX7_ok, Or.inl (gw_of (List.mem_append_right _ (List.mem_of_getElem? (i := 850) (by decide +kernel))) rfl)⟩
theorem fl_X7_32 : FLK RX7 32 7 14 := ⟨RX7, TX7, 17, tyX7, rfl, by decide, gi_X7, rfl, nmX7, tyX7_ok, Or.inl (gw_of (List.mem_append_right _ (List.mem_of_getElem? (i := 851) (by decide +kernel))) rfl)⟩
theorem fl_X7_35 : FLK RX7 35 7 15 := ⟨RX7, TX7, 17, tyX7, rfl, by decide, gi_X7, rfl, nmX7, tyX7_ok, Or.inl (gw_of (List.mem_append_right _ (List.mem_of_getElem? (i := 852) (by decide +kernel))) rfl)⟩
theorem fl_X7_38 : FLK RX7 38 7 16 := ⟨RX7, TX7, 17, tyX7, rfl, by decide, gi_X7, rfl, nmX7, tyX7_ok, Or.inl (gw_of (List.mem_append_right _ (List.mem_of_getElem? (i := 853) (by decide +kernel))) rfl)⟩
theorem fp_0_0 : FPK 0 0 .int := fun q h => by cases h; exact ⟨rfl, by decide +kernel⟩
theorem fp_0_1 : FPK 0 1 .int := fun q h => by cases h; exact ⟨rfl, by decide +kernel⟩
theorem fp_0_2 : FPK 0 2 .int := fun q h => by cases h; exact ⟨rfl, by decide +kernel⟩
theorem fp_0_3 : FPK 0 3 .int := fun q h => by cases h; exact ⟨rfl, by decide +kernel⟩
theorem fp_0_4 : FPK 0 4 .int := fun q h => by cases h; exact ⟨rfl, by decide +kernel⟩
theorem fp_0_5 : FPK 0 5 .int := fun q h => by cases h; exact ⟨rfl, by decide +kernel⟩
theorem fp_1_0 : FPK 1 0 .int := fun q h => by cases h; exact ⟨rfl, by decide +kernel⟩
theorem fp_1_1 : FPK 1 1 .int := fun q h => by cases h; exact ⟨rfl, by decide +kernel⟩
theorem fp_1_2 : FPK 1 2 .int := fun q h => by cases h; exact ⟨rfl, by decide +kernel⟩
theorem fp_1_3 : FPK 1 3 .int := fun q h => by cases h; exact ⟨rfl, by decide +kernel⟩
theorem fp_1_4 : FPK 1 4 .int := fun q h => by cases h; exact ⟨rfl, by decide +kernel⟩
theorem fp_1_5 : FPK 1 5 .int := fun q h => by cases h; exact ⟨rfl, by decide +kernel⟩
theorem fp_2_1 : FPK 2 1 .int := fun q h => by cases h; exact ⟨rfl, by decide +kernel⟩
theorem fp_2_2 : FPK 2 2 .int := fun q h => by cases h; exact ⟨rfl, by decide +kernel⟩
theorem fp_2_3 : FPK 2 3 .int := fun q h => by cases h; exact ⟨rfl, by decide +kernel⟩
theorem fp_2_4 : FPK 2 4 .int := fun q h => by cases h; exact ⟨rfl, by decide +kernel⟩
theorem fp_2_5 : FPK 2 5 .int := fun q h => by cases h; exact ⟨rfl, by decide +kernel⟩
theorem fp_4_0 : FPK 4 0 .int := fun q h => by cases h; exact ⟨rfl, by decide +kernel⟩
theorem fp_4_1 : FPK 4 1 .int := fun q h => by cases h; exact ⟨rfl, by decide +kernel⟩
theorem fp_5_1 : FPK 5 1 .int := fun q h => by cases h; exact ⟨rfl, by decide +kernel⟩
theorem fp_6_2 : FPK 6 2 .boolean := fun q h => by cases h; exact ⟨rfl, by decide +kernel⟩
theorem fp_7_4 : FPK 7 4 .boolean := fun q h => by cases h; exact ⟨rfl, by decide +kernel⟩
theorem fp_7_7 : FPK 7 7 .int := fun q h => by cases h; exact ⟨rfl, by decide +kernel⟩
theorem fp_7_8 : FPK 7 8 .int := fun q h => by cases h; exact ⟨rfl, by decide +kernel⟩
theorem fp_7_9 : FPK 7 9 .int := fun q h => by cases h; exact ⟨rfl, by decide +kernel⟩
theorem fp_7_10 : FPK 7 10 .int := fun q h => by cases h; exact ⟨rfl, by decide +kernel⟩
theorem fp_7_11 : FPK 7 11 .long := fun q h => by cases h; exact ⟨rfl, by decide +kernel⟩
theorem fp_7_12 : FPK 7 12 .int := fun q h => by cases h; exact ⟨rfl, by decide +kernel⟩
def TCL : List CS := [.inl (6, [.inr (.inl 1), .inr (.inl 13), .inl (3, 0), .inr (.inl 37), .inr (.inl 38), .inr (.inl 41), .inr (.inl 42)]),
  .inl (0, [.inl (0, 1), .inl (0, 3), .inl (0, 4), .inl (0, 5), .inl (0, 2), .inl (0, 0), .inr (.inl 2), .inr (.inl 3), .inr (.inl 4)]),
  .inr (.inl (0, 0, 6, 6)),
  .inr (.inl (0, 0, 60, 10)),
  .inr (.inr (2, [5, 6, 7, 8, 9, 10, 11, 12])),
  .inl (1, [.inl (0, 12), .inl (0, 20), .inl (0, 28), .inl (0, 36), .inl (0, 44), .inl (0, 52)]),
  .inl (1, [.inl (0, 13), .inl (0, 21), .inl (0, 29), .inl (0, 37), .inl (0, 45), .inl (0, 53)]),
  .inl (1, [.inl (0, 14), .inl (0, 22), .inl (0, 30), .inl (0, 38), .inl (0, 46), .inl (0, 54)]),
  .inl (1, [.inl (0, 15), .inl (0, 23), .inl (0, 31), .inl (0, 39), .inl (0, 47), .inl (0, 55)]),
  .inl (1, [.inl (0, 16), .inl (0, 24), .inl (0, 32), .inl (0, 40), .inl (0, 48), .inl (0, 56)]),
  .inl (1, [.inl (0, 17), .inl (0, 25), .inl (0, 33), .inl (0, 41), .inl (0, 49), .inl (0, 57)]),
  .inl (1, [.inl (0, 18), .inl (0, 26), .inl (0, 34), .inl (0, 42), .inl (0, 50), .inl (0, 58)]),
  .inl (1, [.inl (0, 19), .inl (0, 27), .inl (0, 35), .inl (0, 43), .inl (0, 51), .inl (0, 59)]),
  .inl (0, [.inl (1, 1), .inl (1, 3), .inl (1, 4), .inl (1, 5), .inl (1, 2), .inl (1, 0), .inr (.inl 14), .inr (.inl 15), .inr (.inl 16)]),
  .inr (.inl (0, 1, 6, 6)),
  .inr (.inl (0, 1, 60, 10)),
  .inr (.inr (2, [17, 18, 19, 20, 21, 22, 23, 24])),
  .inl (1, [.inl (1, 12), .inl (1, 20), .inl (1, 28), .inl (1, 36), .inl (1, 44), .inl (1, 52)]),
  .inl (1, [.inl (1, 13), .inl (1, 21), .inl (1, 29), .inl (1, 37), .inl (1, 45), .inl (1, 53)]),
  .inl (1, [.inl (1, 14), .inl (1, 22), .inl (1, 30), .inl (1, 38), .inl (1, 46), .inl (1, 54)]),
  .inl (1, [.inl (1, 15), .inl (1, 23), .inl (1, 31), .inl (1, 39), .inl (1, 47), .inl (1, 55)]),
  .inl (1, [.inl (1, 16), .inl (1, 24), .inl (1, 32), .inl (1, 40), .inl (1, 48), .inl (1, 56)]),
  .inl (1, [.inl (1, 17), .inl (1, 25), .inl (1, 33), .inl (1, 41), .inl (1, 49), .inl (1, 57)]),
  .inl (1, [.inl (1, 18), .inl (1, 26), .inl (1, 34), .inl (1, 42), .inl (1, 50), .inl (1, 58)]),
  .inl (1, [.inl (1, 19), .inl (1, 27), .inl (1, 35), .inl (1, 43), .inl (1, 51), .inl (1, 59)]),
  .inl (0, [.inl (2, 1), .inl (2, 3), .inl (2, 4), .inl (2, 5), .inl (2, 2), .inl (2, 0), .inr (.inl 26), .inr (.inl 27), .inr (.inl 28)]),
  .inr (.inl (0, 2, 6, 6)),
  .inr (.inl (0, 2, 60, 10)),
  .inr (.inr (2, [29, 30, 31, 32, 33, 34, 35, 36])),
  .inl (1, [.inl (2, 12), .inl (2, 20), .inl (2, 28), .inl (2, 36), .inl (2, 44), .inl (2, 52)]),
  .inl (1, [.inl (2, 13), .inl (2, 21), .inl (2, 29), .inl (2, 37), .inl (2, 45), .inl (2, 53)]),
  .inl (1, [.inl (2, 14), .inl (2, 22), .inl (2, 30), .inl (2, 38), .inl (2, 46), .inl (2, 54)]),
  .inl (1, [.inl (2, 15), .inl (2, 23), .inl (2, 31), .inl (2, 39), .inl (2, 47), .inl (2, 55)]),
  .inl (1, [.inl (2, 16), .inl (2, 24), .inl (2, 32), .inl (2, 40), .inl (2, 48), .inl (2, 56)]),
  .inl (1, [.inl (2, 17), .inl (2, 25), .inl (2, 33), .inl (2, 41), .inl (2, 49), .inl (2, 57)]),
  .inl (1, [.inl (2, 18), .inl (2, 26), .inl (2, 34), .inl (2, 42), .inl (2, 50), .inl (2, 58)]),
  .inl (1, [.inl (2, 19), .inl (2, 27), .inl (2, 35), .inl (2, 43), .inl (2, 51), .inl (2, 59)]),
  .inl (3, [.inr (.inl 25)]),
  .inl (2, [.inr (.inl 39), .inl (4, 0), .inl (4, 1), .inl (4, 2), .inl (4, 3), .inl (4, 4)]),
  .inl (5, [.inr (.inl 40), .inl (4, 5)]),
  .inr (.inl (1, 5, 0, 120)),
  .inr (.inr (3, [43, 45, 47, 49])),
  .inr (.inl (0, 6, 0, 7)),
  .inl (4, [.inl (7, 0), .inl (7, 1), .inr (.inl 44)]),
  .inr (.inl (0, 7, 2, 40)),
  .inl (4, [.inl (8, 0), .inl (8, 1), .inr (.inl 46)]),
  .inr (.inl (0, 8, 2, 40)),
  .inl (4, [.inl (9, 0), .inl (9, 1), .inr (.inl 48)]),
  .inr (.inl (0, 9, 2, 40)),
  .inl (4, [.inl (10, 0), .inl (10, 1), .inr (.inl 50)]),
  .inr (.inl (0, 10, 2, 40))]
def TML : List CS := [.inl (7, [.inr (.inl 1), .inr (.inl 2), .inr (.inl 3), .inr (.inl 4), .inl (10, 0), .inr (.inl 5), .inr (.inl 6), .inl (10, 1), .inl (10, 2), .inl (10, 3), .inl (10, 4), .inr (.inr (10, 5)), .inl (10, 7), .inr (.inl 7), .inr (.inl 8), .inr (.inl 9), .inr (.inl 10)]),
  .inr (.inl (0, 0, 0, 70)),
  .inr (.inl (0, 1, 0, 70)),
  .inr (.inl (0, 2, 0, 70)),
  .inr (.inl (0, 3, 0, 70)),
  .inr (.inl (0, 4, 0, 7)),
  .inr (.inl (1, 5, 0, 120)),
  .inr (.inl (0, 6, 0, 4)),
  .inr (.inl (0, 7, 0, 4)),
  .inr (.inl (0, 8, 0, 160)),
  .inr (.inl (0, 9, 0, 40))]
def TC (p : Nat) : CS := TCL.getD p (.inl (0, []))
def TM (p : Nat) : CS := TML.getD p (.inl (0, []))
