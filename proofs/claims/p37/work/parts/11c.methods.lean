/-! methods, and the words that their calls and fields ask for -/
abbrev mX6_copyFrom : gM := (yX6_copyFrom, cX6_copyFrom, 2, none)
abbrev mX1_heatAt : gM := (yX1_heatAt, cX1_heatAt, 2, (some .int))
abbrev mX1_sunAt : gM := (yX1_sunAt, cX1_sunAt, 2, (some .int))
abbrev mX1_shadeAt : gM := (yX1_shadeAt, cX1_shadeAt, 2, (some .int))
abbrev mX2_melts : gM := (yX2_melts, cX2_melts, 4, (some .int))
abbrev mX3_melts : gM := (yX3_melts, cX3_melts, 4, (some .int))
abbrev mX7_melts : gM := (yX7_melts, cX7_melts, 4, (some .int))
abbrev mX8_melts : gM := (yX8_melts, cX8_melts, 4, (some .int))
abbrev mX9_melts : gM := (yX9_melts, cX9_melts, 4, (some .int))
abbrev mX10_melts : gM := (yX10_melts, cX10_melts, 4, (some .int))
abbrev mX1_others : gM := (yX1_others, cX1_others, 4, (some .int))
abbrev mX1_isTurned : gM := (yX1_isTurned, cX1_isTurned, 2, (some .boolean))
abbrev mX2_shape : gM := (yX2_shape, cX2_shape, 4, (some .int))
abbrev mX3_shape : gM := (yX3_shape, cX3_shape, 4, (some .int))
abbrev mX7_shape : gM := (yX7_shape, cX7_shape, 4, (some .int))
abbrev mX8_shape : gM := (yX8_shape, cX8_shape, 4, (some .int))
abbrev mX9_shape : gM := (yX9_shape, cX9_shape, 4, (some .int))
abbrev mX10_shape : gM := (yX10_shape, cX10_shape, 4, (some .int))
abbrev mX1_fitsWard : gM := (yX1_fitsWard, cX1_fitsWard, 4, (some .boolean))
abbrev mX6_tells : gM := (yX6_tells, cX6_tells, 5, (some .int))
abbrev mX11_isOf : gM := (yX11_isOf, cX11_isOf, 2, (some .boolean))
abbrev mX6_holds : gM := (yX6_holds, cX6_holds, 8, (some .boolean))
abbrev mX6_valueOf : gM := (yX6_valueOf, cX6_valueOf, 3, (some .int))
abbrev mX6_isSo : gM := (yX6_isSo, cX6_isSo, 2, (some .boolean))
abbrev mX1_pays : gM := (yX1_pays, cX1_pays, 2, (some .int))
abbrev mX1_will : gM := (yX1_will, cX1_will, 2, (some .int))
abbrev mX1_isKey : gM := (yX1_isKey, cX1_isKey, 2, (some .boolean))
abbrev mX1_setTurned : gM := (yX1_setTurned, cX1_setTurned, 3, none)
abbrev mX1_melts : gM := (yX1_melts, cX1_melts, 3, (some .int))
abbrev mX1_tell : gM := (yX1_tell, cX1_tell, 5, (some .int))
abbrev mX1_melt : gM := (yX1_melt, cX1_melt, 3, (some .int))
abbrev mX1_isOver : gM := (yX1_isOver, cX1_isOver, 1, (some .boolean))
abbrev mX1_restAct : gM := (yX1_restAct, cX1_restAct, 2, (some .int))
abbrev mX1_drawAct : gM := (yX1_drawAct, cX1_drawAct, 1, (some .int))
abbrev mX1_shape : gM := (yX1_shape, cX1_shape, 2, (some .int))
abbrev mX1_isCloseToSome : gM := (yX1_isCloseToSome, cX1_isCloseToSome, 4, (some .boolean))
abbrev mX1_misfitsAt : gM := (yX1_misfitsAt, cX1_misfitsAt, 8, (some .int))
abbrev mX11_isIn : gM := (yX11_isIn, cX11_isIn, 3, (some .boolean))
abbrev mX0_ran : gM := (yX0_ran, cX0_ran, 2, none)
abbrev mX2_drips : gM := (yX2_drips, cX2_drips, 3, (some .int))
abbrev mX3_drips : gM := (yX3_drips, cX3_drips, 3, (some .int))
abbrev mX10_drips : gM := (yX10_drips, cX10_drips, 3, (some .int))
abbrev mX3_turns : gM := (yX3_turns, cX3_turns, 3, (some .int))
abbrev mX7_halves : gM := (yX7_halves, cX7_halves, 3, (some .int))
abbrev mX3_halves : gM := (yX3_halves, cX3_halves, 3, (some .int))
abbrev mX0_leave : gM := (yX0_leave, cX0_leave, 3, (some .int))
abbrev mX8_turns : gM := (yX8_turns, cX8_turns, 3, (some .int))
abbrev mX9_turns : gM := (yX9_turns, cX9_turns, 3, (some .int))
abbrev mX9_halves : gM := (yX9_halves, cX9_halves, 4, (some .int))
abbrev mX4_isLast : gM := (yX4_isLast, cX4_isLast, 3, (some .boolean))
abbrev mX1_save : gM := (yX1_save, cX1_save, 3, none)
abbrev mX1_restore : gM := (yX1_restore, cX1_restore, 3, none)
abbrev mX4_weigh : gM := (yX4_weigh, cX4_weigh, 5, none)
abbrev mX5_isLetter : gM := (yX5_isLetter, cX5_isLetter, 1, (some .boolean))
abbrev mX5_isNamed : gM := (yX5_isNamed, cX5_isNamed, 4, (some .boolean))
abbrev mX5_nextName : gM := (yX5_nextName, cX5_nextName, 4, none)
abbrev mX5_isDigit : gM := (yX5_isDigit, cX5_isDigit, 1, (some .boolean))
abbrev mX5_nextNumber : gM := (yX5_nextNumber, cX5_nextNumber, 1, none)
abbrev mX5_isMark : gM := (yX5_isMark, cX5_isMark, 1, (some .boolean))
abbrev mX5_endCondition : gM := (yX5_endCondition, cX5_endCondition, 1, none)
abbrev mX6_addCode : gM := (yX6_addCode, cX6_addCode, 2, none)
abbrev mX6_addRule : gM := (yX6_addRule, cX6_addRule, 3, none)
abbrev mX5_isValue : gM := (yX5_isValue, cX5_isValue, 1, (some .boolean))
abbrev mX5_value : gM := (yX5_value, cX5_value, 1, (some .int))
abbrev mX5_endOne : gM := (yX5_endOne, cX5_endOne, 1, none)
abbrev mX5_takesDo : gM := (yX5_takesDo, cX5_takesDo, 1, (some .boolean))
abbrev mX5_takesKind : gM := (yX5_takesKind, cX5_takesKind, 1, (some .boolean))
abbrev mX5_takesIf : gM := (yX5_takesIf, cX5_takesIf, 1, (some .boolean))
abbrev mX5_takesOne : gM := (yX5_takesOne, cX5_takesOne, 1, (some .boolean))
abbrev mX5_takesSign : gM := (yX5_takesSign, cX5_takesSign, 1, (some .boolean))
abbrev mX5_takesRight : gM := (yX5_takesRight, cX5_takesRight, 1, (some .boolean))
abbrev mX5_takesJoin : gM := (yX5_takesJoin, cX5_takesJoin, 1, (some .boolean))
abbrev mX5_takesRuleEnd : gM := (yX5_takesRuleEnd, cX5_takesRuleEnd, 1, (some .boolean))
abbrev mX5_begin : gM := (yX5_begin, cX5_begin, 2, none)
abbrev mX6_clear : gM := (yX6_clear, cX6_clear, 1, none)
abbrev mX5_next : gM := (yX5_next, cX5_next, 1, none)
abbrev mX5_takes : gM := (yX5_takes, cX5_takes, 1, (some .boolean))
abbrev mX1_mayTurn : gM := (yX1_mayTurn, cX1_mayTurn, 2, (some .boolean))
abbrev mX11_put : gM := (yX11_put, cX11_put, 5, (some .int))
abbrev mX11_changeTurned : gM := (yX11_changeTurned, cX11_changeTurned, 4, (some .int))
abbrev mX5_read : gM := (yX5_read, cX5_read, 5, (some .int))
abbrev mX1_goBy : gM := (yX1_goBy, cX1_goBy, 2, (some .int))
abbrev mX11_scored : gM := (yX11_scored, cX11_scored, 2, (some .int))
abbrev mX1_goRest : gM := (yX1_goRest, cX1_goRest, 4, (some .int))
abbrev mX11_bestValue : gM := (yX11_bestValue, cX11_bestValue, 9, (some .int))
abbrev mX1_allTeeth : gM := (yX1_allTeeth, cX1_allTeeth, 3, (some .int))
abbrev mX1_bunchOf : gM := (yX1_bunchOf, cX1_bunchOf, 5, (some .int))
abbrev mX11_leastOf : gM := (yX11_leastOf, cX11_leastOf, 1, (some .int))
abbrev mX11_countBunches : gM := (yX11_countBunches, cX11_countBunches, 4, (some .int))
abbrev mX11_isPlan : gM := (yX11_isPlan, cX11_isPlan, 1, (some .boolean))
abbrev mX4_seek : gM := (yX4_seek, cX4_seek, 8, none)
abbrev mX1_haltsOf : gM := (yX1_haltsOf, cX1_haltsOf, 2, (some .int))
abbrev mX11_isKeySet : gM := (yX11_isKeySet, cX11_isKeySet, 2, (some .boolean))
abbrev mX4_fewest : gM := (yX4_fewest, cX4_fewest, 8, (some .int))
abbrev mX4_reach : gM := (yX4_reach, cX4_reach, 6, (some .int))
abbrev mX4_duel : gM := (yX4_duel, cX4_duel, 8, (some .int))
abbrev mX11_loneKind : gM := (yX11_loneKind, cX11_loneKind, 1, (some .int))
abbrev mX11_loneStraw : gM := (yX11_loneStraw, cX11_loneStraw, 1, (some .int))
abbrev mX11_loneTeeth : gM := (yX11_loneTeeth, cX11_loneTeeth, 1, (some .int))
abbrev mX1_misfits : gM := (yX1_misfits, cX1_misfits, 9, (some .int))
abbrev mX1_goLots : gM := (yX1_goLots, cX1_goLots, 3, (some .int))
abbrev mX1_isAct : gM := (yX1_isAct, cX1_isAct, 2, (some .boolean))
abbrev mX11_isRowRight : gM := (yX11_isRowRight, cX11_isRowRight, 3, (some .boolean))
abbrev mX11_isPlace : gM := (yX11_isPlace, cX11_isPlace, 1, (some .boolean))
abbrev mX11_refusalOf : gM := (yX11_refusalOf, cX11_refusalOf, 3, (some .int))
abbrev mX11_isItem : gM := (yX11_isItem, cX11_isItem, 3, (some .boolean))
abbrev mX11_goItems : gM := (yX11_goItems, cX11_goItems, 7, (some .int))
abbrev mX11_holdsKey : gM := (yX11_holdsKey, cX11_holdsKey, 2, (some .boolean))
abbrev mX0_begin : gM := (yX0_begin, cX0_begin, 3, none)
abbrev mX3_fits : gM := (yX3_fits, cX3_fits, 4, (some .int))
abbrev mX10_fits : gM := (yX10_fits, cX10_fits, 4, (some .int))
abbrev mX1_copyFrom : gM := (yX1_copyFrom, cX1_copyFrom, 2, none)
abbrev mX12_get : gM := (yX12_get, cX12_get, 3, (some .int))
abbrev mX12_ruleOf : gM := (yX12_ruleOf, cX12_ruleOf, 3, (some .int))
abbrev mX12_isUnder : gM := (yX12_isUnder, cX12_isUnder, 3, (some .boolean))
abbrev mX12_above : gM := (yX12_above, cX12_above, 1, (some .int))
abbrev mX12_holdsFor : gM := (yX12_holdsFor, cX12_holdsFor, 6, (some .boolean))
abbrev mX12_knownOf : gM := (yX12_knownOf, cX12_knownOf, 3, (some .int))
abbrev mX12_sunNow : gM := (yX12_sunNow, cX12_sunNow, 1, (some .int))
abbrev mX12_joined : gM := (yX12_joined, cX12_joined, 3, (some .int))
abbrev mX12_willOf : gM := (yX12_willOf, cX12_willOf, 3, (some .int))
abbrev mX12_paysOf : gM := (yX12_paysOf, cX12_paysOf, 2, (some .int))
abbrev mX12_doesFit : gM := (yX12_doesFit, cX12_doesFit, 3, (some .boolean))
abbrev mX12_shapeOf : gM := (yX12_shapeOf, cX12_shapeOf, 2, (some .int))
abbrev mX12_shapeBy : gM := (yX12_shapeBy, cX12_shapeBy, 6, (some .int))
abbrev mX12_apart : gM := (yX12_apart, cX12_apart, 2, (some .int))
abbrev mX12_byteAt : gM := (yX12_byteAt, cX12_byteAt, 2, (some .int))
abbrev mX12_in1 : gM := (yX12_in1, cX12_in1, 3, (some .boolean))
abbrev mX12_readsName : gM := (yX12_readsName, cX12_readsName, 2, none)
abbrev mX12_isNameOf : gM := (yX12_isNameOf, cX12_isNameOf, 4, (some .boolean))
abbrev mX12_readsNumber : gM := (yX12_readsNumber, cX12_readsNumber, 1, none)
abbrev mX12_next : gM := (yX12_next, cX12_next, 2, none)
abbrev mX12_lays : gM := (yX12_lays, cX12_lays, 2, none)
abbrev mX12_readsValue : gM := (yX12_readsValue, cX12_readsValue, 2, (some .boolean))
abbrev mX12_takes : gM := (yX12_takes, cX12_takes, 3, (some .boolean))
abbrev mX12_readsCondition : gM := (yX12_readsCondition, cX12_readsCondition, 2, (some .boolean))
abbrev mX12_readsOne : gM := (yX12_readsOne, cX12_readsOne, 4, (some .boolean))
abbrev mX12_readsLike : gM := (yX12_readsLike, cX12_readsLike, 2, (some .boolean))
abbrev mX12_readsWithin : gM := (yX12_readsWithin, cX12_readsWithin, 1, (some .boolean))
abbrev mX12_readsAll : gM := (yX12_readsAll, cX12_readsAll, 2, (some .boolean))
abbrev mX12_readsRule : gM := (yX12_readsRule, cX12_readsRule, 2, (some .boolean))
abbrev mX12_puts : gM := (yX12_puts, cX12_puts, 4, none)
abbrev mX12_turnsNow : gM := (yX12_turnsNow, cX12_turnsNow, 3, (some .int))
abbrev mX12_held : gM := (yX12_held, cX12_held, 2, (some .int))
abbrev mX12_mayTurn : gM := (yX12_mayTurn, cX12_mayTurn, 2, (some .boolean))
abbrev mX12_restOne : gM := (yX12_restOne, cX12_restOne, 2, (some .int))
abbrev mX12_meets : gM := (yX12_meets, cX12_meets, 3, (some .int))
abbrev mX12_meltsOf : gM := (yX12_meltsOf, cX12_meltsOf, 4, (some .int))
abbrev mX12_meltsBy : gM := (yX12_meltsBy, cX12_meltsBy, 6, (some .int))
abbrev mX12_isKey : gM := (yX12_isKey, cX12_isKey, 2, (some .boolean))
abbrev mX12_isOver : gM := (yX12_isOver, cX12_isOver, 1, (some .boolean))
abbrev mX12_goesBy : gM := (yX12_goesBy, cX12_goesBy, 5, (some .int))
abbrev mX12_layDown : gM := (yX12_layDown, cX12_layDown, 2, none)
abbrev mX12_restOf : gM := (yX12_restOf, cX12_restOf, 4, (some .int))
abbrev mX12_layBack : gM := (yX12_layBack, cX12_layBack, 2, none)
abbrev mX12_bestFor : gM := (yX12_bestFor, cX12_bestFor, 8, (some .int))
abbrev mX12_teethAll : gM := (yX12_teethAll, cX12_teethAll, 3, (some .int))
abbrev mX12_those : gM := (yX12_those, cX12_those, 4, (some .int))
abbrev mX12_bunchOf : gM := (yX12_bunchOf, cX12_bunchOf, 6, (some .int))
abbrev mX12_areClose : gM := (yX12_areClose, cX12_areClose, 4, (some .boolean))
abbrev mX12_endsPlan : gM := (yX12_endsPlan, cX12_endsPlan, 6, none)
abbrev mX12_saves : gM := (yX12_saves, cX12_saves, 3, none)
abbrev mX12_restores : gM := (yX12_restores, cX12_restores, 3, none)
abbrev mX12_daysOf : gM := (yX12_daysOf, cX12_daysOf, 3, (some .int))
abbrev mX12_goesPlans : gM := (yX12_goesPlans, cX12_goesPlans, 8, none)
abbrev mX12_isPlan : gM := (yX12_isPlan, cX12_isPlan, 1, (some .boolean))
abbrev mX12_triesAll : gM := (yX12_triesAll, cX12_triesAll, 3, none)
abbrev mX12_isSet : gM := (yX12_isSet, cX12_isSet, 2, (some .boolean))
abbrev mX12_playedFrom : gM := (yX12_playedFrom, cX12_playedFrom, 9, (some .int))
abbrev mX12_tellsLone : gM := (yX12_tellsLone, cX12_tellsLone, 8, none)
abbrev mX12_isSo : gM := (yX12_isSo, cX12_isSo, 3, (some .boolean))
abbrev mX12_fitting : gM := (yX12_fitting, cX12_fitting, 6, (some .int))
abbrev mX12_byLot : gM := (yX12_byLot, cX12_byLot, 1, (some .int))
abbrev mX12_isAct : gM := (yX12_isAct, cX12_isAct, 2, (some .boolean))
abbrev mX12_isSheet : gM := (yX12_isSheet, cX12_isSheet, 1, (some .boolean))
abbrev mX12_lacks : gM := (yX12_lacks, cX12_lacks, 3, (some .int))
abbrev mX12_isItem : gM := (yX12_isItem, cX12_isItem, 4, (some .boolean))
abbrev mX12_heldOn : gM := (yX12_heldOn, cX12_heldOn, 2, (some .int))
abbrev mX12_starts : gM := (yX12_starts, cX12_starts, 2, none)
abbrev mX12_turnsAs : gM := (yX12_turnsAs, cX12_turnsAs, 3, (some .int))
abbrev mX12_dripsAs : gM := (yX12_dripsAs, cX12_dripsAs, 3, (some .int))
abbrev mX12_halvesAs : gM := (yX12_halvesAs, cX12_halvesAs, 4, (some .int))
abbrev mX12_fitsAs : gM := (yX12_fitsAs, cX12_fitsAs, 4, (some .int))
abbrev mX11_key : gM := (yX11_key, cX11_key, 6, (some .int))
abbrev mX11_isKeyKind : gM := (yX11_isKeyKind, cX11_isKeyKind, 1, (some .boolean))
abbrev mX11_isGate : gM := (yX11_isGate, cX11_isGate, 1, (some .boolean))
abbrev mX12_key : gM := (yX12_key, cX12_key, 6, (some .int))
abbrev mX12_isDigit : gM := (yX12_isDigit, cX12_isDigit, 1, (some .boolean))
abbrev mX12_isGate : gM := (yX12_isGate, cX12_isGate, 1, (some .boolean))
abbrev mX11_keyOf : gM := (yX11_keyOf, cX11_keyOf, 3, (some .int))
abbrev mX12_keyOf : gM := (yX12_keyOf, cX12_keyOf, 3, (some .int))
abbrev mX11_change : gM := (yX11_change, cX11_change, 4, (some .int))
abbrev mX12_change : gM := (yX12_change, cX12_change, 5, (some .int))
abbrev mX12_becomes : gM := (yX12_becomes, cX12_becomes, 4, (some .int))
abbrev mX11_remake : gM := (yX11_remake, cX11_remake, 4, (some .int))
abbrev mX12_remake : gM := (yX12_remake, cX12_remake, 3, (some .int))
abbrev mX11_sun : gM := (yX11_sun, cX11_sun, 3, (some .int))
abbrev mX12_sun : gM := (yX12_sun, cX12_sun, 3, (some .int))
abbrev mX11_gate : gM := (yX11_gate, cX11_gate, 4, (some .int))
abbrev mX12_gate : gM := (yX12_gate, cX12_gate, 4, (some .int))
abbrev mX11_gateOf : gM := (yX11_gateOf, cX11_gateOf, 3, (some .int))
abbrev mX12_gateOf : gM := (yX12_gateOf, cX12_gateOf, 3, (some .int))
abbrev mX11_ends : gM := (yX11_ends, cX11_ends, 3, (some .int))
abbrev mX12_ends : gM := (yX12_ends, cX12_ends, 2, (some .int))
abbrev mX11_anew : gM := (yX11_anew, cX11_anew, 2, (some .int))
abbrev mX12_anew : gM := (yX12_anew, cX12_anew, 2, (some .int))
abbrev mX11_state : gM := (yX11_state, cX11_state, 2, (some .int))
abbrev mX12_state : gM := (yX12_state, cX12_state, 2, (some .int))
abbrev mX11_feed : gM := (yX11_feed, cX11_feed, 5, (some .int))
abbrev mX5_add : gM := (yX5_add, cX5_add, 2, none)
abbrev mX12_feed : gM := (yX12_feed, cX12_feed, 5, (some .int))
abbrev mX11_rules : gM := (yX11_rules, cX11_rules, 2, (some .int))
abbrev mX12_rules : gM := (yX12_rules, cX12_rules, 4, (some .int))
abbrev mX11_halt : gM := (yX11_halt, cX11_halt, 1, (some .int))
abbrev mX12_halt : gM := (yX12_halt, cX12_halt, 1, (some .int))
abbrev mX11_on : gM := (yX11_on, cX11_on, 3, (some .int))
abbrev mX12_on : gM := (yX12_on, cX12_on, 3, (some .int))
abbrev mX11_when : gM := (yX11_when, cX11_when, 5, (some .int))
abbrev mX12_when : gM := (yX12_when, cX12_when, 5, (some .int))
abbrev mX11_strawFor : gM := (yX11_strawFor, cX11_strawFor, 2, (some .int))
abbrev mX12_strawFor : gM := (yX12_strawFor, cX12_strawFor, 2, (some .int))
abbrev mX11_gateFor : gM := (yX11_gateFor, cX11_gateFor, 2, (some .int))
abbrev mX12_gateFor : gM := (yX12_gateFor, cX12_gateFor, 2, (some .int))
abbrev mX11_gone : gM := (yX11_gone, cX11_gone, 3, (some .int))
abbrev mX12_gone : gM := (yX12_gone, cX12_gone, 4, (some .int))
abbrev mX11_opens : gM := (yX11_opens, cX11_opens, 4, (some .int))
abbrev mX12_opens : gM := (yX12_opens, cX12_opens, 4, (some .int))
abbrev mX11_left : gM := (yX11_left, cX11_left, 4, (some .int))
abbrev mX12_left : gM := (yX12_left, cX12_left, 5, (some .int))
abbrev mX11_bunches : gM := (yX11_bunches, cX11_bunches, 2, (some .int))
abbrev mX12_bunches : gM := (yX12_bunches, cX12_bunches, 5, (some .int))
abbrev mX11_best : gM := (yX11_best, cX11_best, 2, (some .int))
abbrev mX12_best : gM := (yX12_best, cX12_best, 2, (some .int))
abbrev mX11_ith : gM := (yX11_ith, cX11_ith, 3, (some .int))
abbrev mX12_ith : gM := (yX12_ith, cX12_ith, 3, (some .int))
abbrev mX11_ways : gM := (yX11_ways, cX11_ways, 2, (some .int))
abbrev mX12_ways : gM := (yX12_ways, cX12_ways, 2, (some .int))
abbrev mX11_order : gM := (yX11_order, cX11_order, 4, (some .int))
abbrev mX12_order : gM := (yX12_order, cX12_order, 3, (some .int))
abbrev mX11_bars : gM := (yX11_bars, cX11_bars, 4, (some .int))
abbrev mX12_bars : gM := (yX12_bars, cX12_bars, 5, (some .int))
abbrev mX11_game : gM := (yX11_game, cX11_game, 2, (some .int))
abbrev mX12_game : gM := (yX12_game, cX12_game, 2, (some .int))
abbrev mX11_play : gM := (yX11_play, cX11_play, 2, (some .int))
abbrev mX12_play : gM := (yX12_play, cX12_play, 3, (some .int))
abbrev mX11_report : gM := (yX11_report, cX11_report, 8, (some .int))
abbrev mX12_report : gM := (yX12_report, cX12_report, 7, (some .int))
abbrev mX11_forget : gM := (yX11_forget, cX11_forget, 2, (some .int))
abbrev mX12_forget : gM := (yX12_forget, cX12_forget, 1, (some .int))
abbrev mX11_lone : gM := (yX11_lone, cX11_lone, 4, (some .int))
abbrev mX12_lone : gM := (yX12_lone, cX12_lone, 3, (some .int))
abbrev mX11_liar : gM := (yX11_liar, cX11_liar, 4, (some .int))
abbrev mX12_liar : gM := (yX12_liar, cX12_liar, 2, (some .int))
abbrev mX11_seed : gM := (yX11_seed, cX11_seed, 3, (some .int))
abbrev mX12_seed : gM := (yX12_seed, cX12_seed, 2, (some .int))
abbrev mX11_lot : gM := (yX11_lot, cX11_lot, 1, (some .int))
abbrev mX12_lot : gM := (yX12_lot, cX12_lot, 1, (some .int))
abbrev mX11_times : gM := (yX11_times, cX11_times, 6, (some .int))
abbrev mX12_times : gM := (yX12_times, cX12_times, 7, (some .int))
abbrev mX11_prove : gM := (yX11_prove, cX11_prove, 5, (some .int))
abbrev mX12_prove : gM := (yX12_prove, cX12_prove, 3, (some .int))
abbrev mX11_row : gM := (yX11_row, cX11_row, 3, (some .int))
abbrev mX11_isRowField : gM := (yX11_isRowField, cX11_isRowField, 3, (some .boolean))
abbrev mX12_row : gM := (yX12_row, cX12_row, 3, (some .int))
abbrev mX12_isRow : gM := (yX12_isRow, cX12_isRow, 3, (some .boolean))
abbrev mX11_alterRow : gM := (yX11_alterRow, cX11_alterRow, 5, (some .int))
abbrev mX12_alterRow : gM := (yX12_alterRow, cX12_alterRow, 5, (some .int))
abbrev mX11_judge : gM := (yX11_judge, cX11_judge, 3, (some .int))
abbrev mX12_judge : gM := (yX12_judge, cX12_judge, 6, (some .int))
abbrev mX11_sheet : gM := (yX11_sheet, cX11_sheet, 5, (some .int))
abbrev mX12_sheet : gM := (yX12_sheet, cX12_sheet, 5, (some .int))
abbrev mX11_write : gM := (yX11_write, cX11_write, 4, (some .int))
abbrev mX11_narrowed : gM := (yX11_narrowed, cX11_narrowed, 2, (some .int))
abbrev mX12_write : gM := (yX12_write, cX12_write, 4, (some .int))
abbrev mX12_narrowed : gM := (yX12_narrowed, cX12_narrowed, 2, (some .int))
abbrev mX11_item : gM := (yX11_item, cX11_item, 5, (some .int))
abbrev mX12_item : gM := (yX12_item, cX12_item, 5, (some .int))
abbrev mX11_goAll : gM := (yX11_goAll, cX11_goAll, 8, (some .int))
abbrev mX12_goAll : gM := (yX12_goAll, cX12_goAll, 8, (some .int))
abbrev mX11_wouldBe : gM := (yX11_wouldBe, cX11_wouldBe, 6, (some .int))
abbrev mX12_wouldBe : gM := (yX12_wouldBe, cX12_wouldBe, 8, (some .int))
abbrev mX11_shelf : gM := (yX11_shelf, cX11_shelf, 4, (some .int))
abbrev mX12_shelf : gM := (yX12_shelf, cX12_shelf, 4, (some .int))
abbrev mX11_taken : gM := (yX11_taken, cX11_taken, 5, (some .int))
abbrev mX12_taken : gM := (yX12_taken, cX12_taken, 5, (some .int))
abbrev mX11_act : gM := (yX11_act, cX11_act, 7, (some .int))
abbrev mX12_act : gM := (yX12_act, cX12_act, 6, (some .int))
abbrev mX11_trace : gM := (yX11_trace, cX11_trace, 2, (some .int))
abbrev mX12_trace : gM := (yX12_trace, cX12_trace, 2, (some .int))
abbrev mX11_many : gM := (yX11_many, cX11_many, 2, (some .int))
abbrev mX12_many : gM := (yX12_many, cX12_many, 2, (some .int))
abbrev mX12_ones : gM := (yX12_ones, cX12_ones, 3, (some .int))
abbrev mX11_keep : gM := (yX11_keep, cX11_keep, 1, (some .int))
abbrev mX12_keep : gM := (yX12_keep, cX12_keep, 2, (some .int))
abbrev mX11_again : gM := (yX11_again, cX11_again, 1, (some .int))
abbrev mX12_again : gM := (yX12_again, cX12_again, 2, (some .int))
abbrev mJ6_bitCount_0f7a4 : gM := (yJ6_bitCount_0f7a4, cJ6_bitCount_0f7a4, 1, (some .int))
def MTt_297 : List gM := []
def MTt_296 : List gM := mJ6_bitCount_0f7a4 :: MTt_297
def MTt_295 : List gM := mX12_again :: MTt_296
def MTt_294 : List gM := mX11_again :: MTt_295
def MTt_293 : List gM := mX12_keep :: MTt_294
def MTt_292 : List gM := mX11_keep :: MTt_293
def MTt_291 : List gM := mX12_ones :: MTt_292
def MTt_290 : List gM := mX12_many :: MTt_291
def MTt_289 : List gM := mX11_many :: MTt_290
def MTt_288 : List gM := mX12_trace :: MTt_289
def MTt_287 : List gM := mX11_trace :: MTt_288
def MTt_286 : List gM := mX12_act :: MTt_287
def MTt_285 : List gM := mX11_act :: MTt_286
def MTt_284 : List gM := mX12_taken :: MTt_285
def MTt_283 : List gM := mX11_taken :: MTt_284
def MTt_282 : List gM := mX12_shelf :: MTt_283
def MTt_281 : List gM := mX11_shelf :: MTt_282
def MTt_280 : List gM := mX12_wouldBe :: MTt_281
def MTt_279 : List gM := mX11_wouldBe :: MTt_280
def MTt_278 : List gM := mX12_goAll :: MTt_279
def MTt_277 : List gM := mX11_goAll :: MTt_278
def MTt_276 : List gM := mX12_item :: MTt_277
def MTt_275 : List gM := mX11_item :: MTt_276
def MTt_274 : List gM := mX12_narrowed :: MTt_275
def MTt_273 : List gM := mX12_write :: MTt_274
def MTt_272 : List gM := mX11_narrowed :: MTt_273
def MTt_271 : List gM := mX11_write :: MTt_272
def MTt_270 : List gM := mX12_sheet :: MTt_271
def MTt_269 : List gM := mX11_sheet :: MTt_270
def MTt_268 : List gM := mX12_judge :: MTt_269
def MTt_267 : List gM := mX11_judge :: MTt_268
def MTt_266 : List gM := mX12_alterRow :: MTt_267
def MTt_265 : List gM := mX11_alterRow :: MTt_266
def MTt_264 : List gM := mX12_isRow :: MTt_265
def MTt_263 : List gM := mX12_row :: MTt_264
def MTt_262 : List gM := mX11_isRowField :: MTt_263
def MTt_261 : List gM := mX11_row :: MTt_262
def MTt_260 : List gM := mX12_prove :: MTt_261
def MTt_259 : List gM := mX11_prove :: MTt_260
def MTt_258 : List gM := mX12_times :: MTt_259
def MTt_257 : List gM := mX11_times :: MTt_258
def MTt_256 : List gM := mX12_lot :: MTt_257
def MTt_255 : List gM := mX11_lot :: MTt_256
def MTt_254 : List gM := mX12_seed :: MTt_255
def MTt_253 : List gM := mX11_seed :: MTt_254
def MTt_252 : List gM := mX12_liar :: MTt_253
def MTt_251 : List gM := mX11_liar :: MTt_252
def MTt_250 : List gM := mX12_lone :: MTt_251
def MTt_249 : List gM := mX11_lone :: MTt_250
def MTt_248 : List gM := mX12_forget :: MTt_249
def MTt_247 : List gM := mX11_forget :: MTt_248
def MTt_246 : List gM := mX12_report :: MTt_247
def MTt_245 : List gM := mX11_report :: MTt_246
def MTt_244 : List gM := mX12_play :: MTt_245
def MTt_243 : List gM := mX11_play :: MTt_244
def MTt_242 : List gM := mX12_game :: MTt_243
def MTt_241 : List gM := mX11_game :: MTt_242
def MTt_240 : List gM := mX12_bars :: MTt_241
def MTt_239 : List gM := mX11_bars :: MTt_240
def MTt_238 : List gM := mX12_order :: MTt_239
def MTt_237 : List gM := mX11_order :: MTt_238
def MTt_236 : List gM := mX12_ways :: MTt_237
def MTt_235 : List gM := mX11_ways :: MTt_236
def MTt_234 : List gM := mX12_ith :: MTt_235
def MTt_233 : List gM := mX11_ith :: MTt_234
def MTt_232 : List gM := mX12_best :: MTt_233
def MTt_231 : List gM := mX11_best :: MTt_232
def MTt_230 : List gM := mX12_bunches :: MTt_231
def MTt_229 : List gM := mX11_bunches :: MTt_230
def MTt_228 : List gM := mX12_left :: MTt_229
def MTt_227 : List gM := mX11_left :: MTt_228
def MTt_226 : List gM := mX12_opens :: MTt_227
def MTt_225 : List gM := mX11_opens :: MTt_226
def MTt_224 : List gM := mX12_gone :: MTt_225
def MTt_223 : List gM := mX11_gone :: MTt_224
def MTt_222 : List gM := mX12_gateFor :: MTt_223
def MTt_221 : List gM := mX11_gateFor :: MTt_222
def MTt_220 : List gM := mX12_strawFor :: MTt_221
def MTt_219 : List gM := mX11_strawFor :: MTt_220
def MTt_218 : List gM := mX12_when :: MTt_219
def MTt_217 : List gM := mX11_when :: MTt_218
def MTt_216 : List gM := mX12_on :: MTt_217
def MTt_215 : List gM := mX11_on :: MTt_216
def MTt_214 : List gM := mX12_halt :: MTt_215
def MTt_213 : List gM := mX11_halt :: MTt_214
def MTt_212 : List gM := mX12_rules :: MTt_213
def MTt_211 : List gM := mX11_rules :: MTt_212
def MTt_210 : List gM := mX12_feed :: MTt_211
def MTt_209 : List gM := mX5_add :: MTt_210
def MTt_208 : List gM := mX11_feed :: MTt_209
def MTt_207 : List gM := mX12_state :: MTt_208
def MTt_206 : List gM := mX11_state :: MTt_207
def MTt_205 : List gM := mX12_anew :: MTt_206
def MTt_204 : List gM := mX11_anew :: MTt_205
def MTt_203 : List gM := mX12_ends :: MTt_204
def MTt_202 : List gM := mX11_ends :: MTt_203
def MTt_201 : List gM := mX12_gateOf :: MTt_202
def MTt_200 : List gM := mX11_gateOf :: MTt_201
def MTt_199 : List gM := mX12_gate :: MTt_200
def MTt_198 : List gM := mX11_gate :: MTt_199
def MTt_197 : List gM := mX12_sun :: MTt_198
def MTt_196 : List gM := mX11_sun :: MTt_197
def MTt_195 : List gM := mX12_remake :: MTt_196
def MTt_194 : List gM := mX11_remake :: MTt_195
def MTt_193 : List gM := mX12_becomes :: MTt_194
def MTt_192 : List gM := mX12_change :: MTt_193
def MTt_191 : List gM := mX11_change :: MTt_192
def MTt_190 : List gM := mX12_keyOf :: MTt_191
def MTt_189 : List gM := mX11_keyOf :: MTt_190
def MTt_188 : List gM := mX12_isGate :: MTt_189
def MTt_187 : List gM := mX12_isDigit :: MTt_188
def MTt_186 : List gM := mX12_key :: MTt_187
def MTt_185 : List gM := mX11_isGate :: MTt_186
def MTt_184 : List gM := mX11_isKeyKind :: MTt_185
def MTt_183 : List gM := mX11_key :: MTt_184
def MTt_182 : List gM := mX12_fitsAs :: MTt_183
def MTt_181 : List gM := mX12_halvesAs :: MTt_182
def MTt_180 : List gM := mX12_dripsAs :: MTt_181
def MTt_179 : List gM := mX12_turnsAs :: MTt_180
def MTt_178 : List gM := mX12_starts :: MTt_179
def MTt_177 : List gM := mX12_heldOn :: MTt_178
def MTt_176 : List gM := mX12_isItem :: MTt_177
def MTt_175 : List gM := mX12_lacks :: MTt_176
def MTt_174 : List gM := mX12_isSheet :: MTt_175
def MTt_173 : List gM := mX12_isAct :: MTt_174
def MTt_172 : List gM := mX12_byLot :: MTt_173
def MTt_171 : List gM := mX12_fitting :: MTt_172
def MTt_170 : List gM := mX12_isSo :: MTt_171
def MTt_169 : List gM := mX12_tellsLone :: MTt_170
def MTt_168 : List gM := mX12_playedFrom :: MTt_169
def MTt_167 : List gM := mX12_isSet :: MTt_168
def MTt_166 : List gM := mX12_triesAll :: MTt_167
def MTt_165 : List gM := mX12_isPlan :: MTt_166
def MTt_164 : List gM := mX12_goesPlans :: MTt_165
def MTt_163 : List gM := mX12_daysOf :: MTt_164
def MTt_162 : List gM := mX12_restores :: MTt_163
def MTt_161 : List gM := mX12_saves :: MTt_162
def MTt_160 : List gM := mX12_endsPlan :: MTt_161
def MTt_159 : List gM := mX12_areClose :: MTt_160
def MTt_158 : List gM := mX12_bunchOf :: MTt_159
def MTt_157 : List gM := mX12_those :: MTt_158
def MTt_156 : List gM := mX12_teethAll :: MTt_157
def MTt_155 : List gM := mX12_bestFor :: MTt_156
def MTt_154 : List gM := mX12_layBack :: MTt_155
def MTt_153 : List gM := mX12_restOf :: MTt_154
def MTt_152 : List gM := mX12_layDown :: MTt_153
def MTt_151 : List gM := mX12_goesBy :: MTt_152
def MTt_150 : List gM := mX12_isOver :: MTt_151
def MTt_149 : List gM := mX12_isKey :: MTt_150
def MTt_148 : List gM := mX12_meltsBy :: MTt_149
def MTt_147 : List gM := mX12_meltsOf :: MTt_148
def MTt_146 : List gM := mX12_meets :: MTt_147
def MTt_145 : List gM := mX12_restOne :: MTt_146
def MTt_144 : List gM := mX12_mayTurn :: MTt_145
def MTt_143 : List gM := mX12_held :: MTt_144
def MTt_142 : List gM := mX12_turnsNow :: MTt_143
def MTt_141 : List gM := mX12_puts :: MTt_142
def MTt_140 : List gM := mX12_readsRule :: MTt_141
def MTt_139 : List gM := mX12_readsAll :: MTt_140
def MTt_138 : List gM := mX12_readsWithin :: MTt_139
def MTt_137 : List gM := mX12_readsLike :: MTt_138
def MTt_136 : List gM := mX12_readsOne :: MTt_137
def MTt_135 : List gM := mX12_readsCondition :: MTt_136
def MTt_134 : List gM := mX12_takes :: MTt_135
def MTt_133 : List gM := mX12_readsValue :: MTt_134
def MTt_132 : List gM := mX12_lays :: MTt_133
def MTt_131 : List gM := mX12_next :: MTt_132
def MTt_130 : List gM := mX12_readsNumber :: MTt_131
def MTt_129 : List gM := mX12_isNameOf :: MTt_130
def MTt_128 : List gM := mX12_readsName :: MTt_129
def MTt_127 : List gM := mX12_in1 :: MTt_128
def MTt_126 : List gM := mX12_byteAt :: MTt_127
def MTt_125 : List gM := mX12_apart :: MTt_126
def MTt_124 : List gM := mX12_shapeBy :: MTt_125
def MTt_123 : List gM := mX12_shapeOf :: MTt_124
def MTt_122 : List gM := mX12_doesFit :: MTt_123
def MTt_121 : List gM := mX12_paysOf :: MTt_122
def MTt_120 : List gM := mX12_willOf :: MTt_121
def MTt_119 : List gM := mX12_joined :: MTt_120
def MTt_118 : List gM := mX12_sunNow :: MTt_119
def MTt_117 : List gM := mX12_knownOf :: MTt_118
def MTt_116 : List gM := mX12_holdsFor :: MTt_117
def MTt_115 : List gM := mX12_above :: MTt_116
def MTt_114 : List gM := mX12_isUnder :: MTt_115
def MTt_113 : List gM := mX12_ruleOf :: MTt_114
def MTt_112 : List gM := mX12_get :: MTt_113
def MTt_111 : List gM := mX1_copyFrom :: MTt_112
def MTt_110 : List gM := mX10_fits :: MTt_111
def MTt_109 : List gM := mX3_fits :: MTt_110
def MTt_108 : List gM := mX0_begin :: MTt_109
def MTt_107 : List gM := mX11_holdsKey :: MTt_108
def MTt_106 : List gM := mX11_goItems :: MTt_107
def MTt_105 : List gM := mX11_isItem :: MTt_106
def MTt_104 : List gM := mX11_refusalOf :: MTt_105
def MTt_103 : List gM := mX11_isPlace :: MTt_104
def MTt_102 : List gM := mX11_isRowRight :: MTt_103
def MTt_101 : List gM := mX1_isAct :: MTt_102
def MTt_100 : List gM := mX1_goLots :: MTt_101
def MTt_99 : List gM := mX1_misfits :: MTt_100
def MTt_98 : List gM := mX11_loneTeeth :: MTt_99
def MTt_97 : List gM := mX11_loneStraw :: MTt_98
def MTt_96 : List gM := mX11_loneKind :: MTt_97
def MTt_95 : List gM := mX4_duel :: MTt_96
def MTt_94 : List gM := mX4_reach :: MTt_95
def MTt_93 : List gM := mX4_fewest :: MTt_94
def MTt_92 : List gM := mX11_isKeySet :: MTt_93
def MTt_91 : List gM := mX1_haltsOf :: MTt_92
def MTt_90 : List gM := mX4_seek :: MTt_91
def MTt_89 : List gM := mX11_isPlan :: MTt_90
def MTt_88 : List gM := mX11_countBunches :: MTt_89
def MTt_87 : List gM := mX11_leastOf :: MTt_88
def MTt_86 : List gM := mX1_bunchOf :: MTt_87
def MTt_85 : List gM := mX1_allTeeth :: MTt_86
def MTt_84 : List gM := mX11_bestValue :: MTt_85
def MTt_83 : List gM := mX1_goRest :: MTt_84
def MTt_82 : List gM := mX11_scored :: MTt_83
def MTt_81 : List gM := mX1_goBy :: MTt_82
def MTt_80 : List gM := mX5_read :: MTt_81
def MTt_79 : List gM := mX11_changeTurned :: MTt_80
def MTt_78 : List gM := mX11_put :: MTt_79
def MTt_77 : List gM := mX1_mayTurn :: MTt_78
def MTt_76 : List gM := mX5_takes :: MTt_77
def MTt_75 : List gM := mX5_next :: MTt_76
def MTt_74 : List gM := mX6_clear :: MTt_75
def MTt_73 : List gM := mX5_begin :: MTt_74
def MTt_72 : List gM := mX5_takesRuleEnd :: MTt_73
def MTt_71 : List gM := mX5_takesJoin :: MTt_72
def MTt_70 : List gM := mX5_takesRight :: MTt_71
def MTt_69 : List gM := mX5_takesSign :: MTt_70
def MTt_68 : List gM := mX5_takesOne :: MTt_69
def MTt_67 : List gM := mX5_takesIf :: MTt_68
def MTt_66 : List gM := mX5_takesKind :: MTt_67
def MTt_65 : List gM := mX5_takesDo :: MTt_66
def MTt_64 : List gM := mX5_endOne :: MTt_65
def MTt_63 : List gM := mX5_value :: MTt_64
def MTt_62 : List gM := mX5_isValue :: MTt_63
def MTt_61 : List gM := mX6_addRule :: MTt_62
def MTt_60 : List gM := mX6_addCode :: MTt_61
def MTt_59 : List gM := mX5_endCondition :: MTt_60
def MTt_58 : List gM := mX5_isMark :: MTt_59
def MTt_57 : List gM := mX5_nextNumber :: MTt_58
def MTt_56 : List gM := mX5_isDigit :: MTt_57
def MTt_55 : List gM := mX5_nextName :: MTt_56
def MTt_54 : List gM := mX5_isNamed :: MTt_55
def MTt_53 : List gM := mX5_isLetter :: MTt_54
def MTt_52 : List gM := mX4_weigh :: MTt_53
def MTt_51 : List gM := mX1_restore :: MTt_52
def MTt_50 : List gM := mX1_save :: MTt_51
def MTt_49 : List gM := mX4_isLast :: MTt_50
def MTt_48 : List gM := mX9_halves :: MTt_49
def MTt_47 : List gM := mX9_turns :: MTt_48
def MTt_46 : List gM := mX8_turns :: MTt_47
def MTt_45 : List gM := mX0_leave :: MTt_46
def MTt_44 : List gM := mX3_halves :: MTt_45
def MTt_43 : List gM := mX7_halves :: MTt_44
def MTt_42 : List gM := mX3_turns :: MTt_43
def MTt_41 : List gM := mX10_drips :: MTt_42
def MTt_40 : List gM := mX3_drips :: MTt_41
def MTt_39 : List gM := mX2_drips :: MTt_40
def MTt_38 : List gM := mX0_ran :: MTt_39
def MTt_37 : List gM := mX11_isIn :: MTt_38
def MTt_36 : List gM := mX1_misfitsAt :: MTt_37
def MTt_35 : List gM := mX1_isCloseToSome :: MTt_36
def MTt_34 : List gM := mX1_shape :: MTt_35
def MTt_33 : List gM := mX1_drawAct :: MTt_34
def MTt_32 : List gM := mX1_restAct :: MTt_33
def MTt_31 : List gM := mX1_isOver :: MTt_32
def MTt_30 : List gM := mX1_melt :: MTt_31
def MTt_29 : List gM := mX1_tell :: MTt_30
def MTt_28 : List gM := mX1_melts :: MTt_29
def MTt_27 : List gM := mX1_setTurned :: MTt_28
def MTt_26 : List gM := mX1_isKey :: MTt_27
def MTt_25 : List gM := mX1_will :: MTt_26
def MTt_24 : List gM := mX1_pays :: MTt_25
def MTt_23 : List gM := mX6_isSo :: MTt_24
def MTt_22 : List gM := mX6_valueOf :: MTt_23
def MTt_21 : List gM := mX6_holds :: MTt_22
def MTt_20 : List gM := mX11_isOf :: MTt_21
def MTt_19 : List gM := mX6_tells :: MTt_20
def MTt_18 : List gM := mX1_fitsWard :: MTt_19
def MTt_17 : List gM := mX10_shape :: MTt_18
def MTt_16 : List gM := mX9_shape :: MTt_17
def MTt_15 : List gM := mX8_shape :: MTt_16
def MTt_14 : List gM := mX7_shape :: MTt_15
def MTt_13 : List gM := mX3_shape :: MTt_14
def MTt_12 : List gM := mX2_shape :: MTt_13
def MTt_11 : List gM := mX1_isTurned :: MTt_12
def MTt_10 : List gM := mX1_others :: MTt_11
def MTt_9 : List gM := mX10_melts :: MTt_10
def MTt_8 : List gM := mX9_melts :: MTt_9
def MTt_7 : List gM := mX8_melts :: MTt_8
def MTt_6 : List gM := mX7_melts :: MTt_7
def MTt_5 : List gM := mX3_melts :: MTt_6
def MTt_4 : List gM := mX2_melts :: MTt_5
def MTt_3 : List gM := mX1_shadeAt :: MTt_4
def MTt_2 : List gM := mX1_sunAt :: MTt_3
def MTt_1 : List gM := mX1_heatAt :: MTt_2
def MTt_0 : List gM := mX6_copyFrom :: MTt_1
def MT : List gM := MTt_0
theorem mtl_297 : MTt_297.length = 0 := rfl
theorem mtl_296 : MTt_296.length = 1 := by
  show MTt_297.length + 1 = 1
  rw [mtl_297]
theorem mtl_295 : MTt_295.length = 2 := by
  show MTt_296.length + 1 = 2
  rw [mtl_296]
theorem mtl_294 : MTt_294.length = 3 := by
  show MTt_295.length + 1 = 3
  rw [mtl_295]
theorem mtl_293 : MTt_293.length = 4 := by
  show MTt_294.length + 1 = 4
  rw [mtl_294]
theorem mtl_292 : MTt_292.length = 5 := by
  show MTt_293.length + 1 = 5
  rw [mtl_293]
theorem mtl_291 : MTt_291.length = 6 := by
  show MTt_292.length + 1 = 6
  rw [mtl_292]
theorem mtl_290 : MTt_290.length = 7 := by
  show MTt_291.length + 1 = 7
  rw [mtl_291]
theorem mtl_289 : MTt_289.length = 8 := by
  show MTt_290.length + 1 = 8
  rw [mtl_290]
theorem mtl_288 : MTt_288.length = 9 := by
  show MTt_289.length + 1 = 9
  rw [mtl_289]
theorem mtl_287 : MTt_287.length = 10 := by
  show MTt_288.length + 1 = 10
  rw [mtl_288]
theorem mtl_286 : MTt_286.length = 11 := by
  show MTt_287.length + 1 = 11
  rw [mtl_287]
theorem mtl_285 : MTt_285.length = 12 := by
  show MTt_286.length + 1 = 12
  rw [mtl_286]
theorem mtl_284 : MTt_284.length = 13 := by
  show MTt_285.length + 1 = 13
  rw [mtl_285]
theorem mtl_283 : MTt_283.length = 14 := by
  show MTt_284.length + 1 = 14
  rw [mtl_284]
theorem mtl_282 : MTt_282.length = 15 := by
  show MTt_283.length + 1 = 15
  rw [mtl_283]
theorem mtl_281 : MTt_281.length = 16 := by
  show MTt_282.length + 1 = 16
  rw [mtl_282]
theorem mtl_280 : MTt_280.length = 17 := by
  show MTt_281.length + 1 = 17
  rw [mtl_281]
theorem mtl_279 : MTt_279.length = 18 := by
  show MTt_280.length + 1 = 18
  rw [mtl_280]
theorem mtl_278 : MTt_278.length = 19 := by
  show MTt_279.length + 1 = 19
  rw [mtl_279]
theorem mtl_277 : MTt_277.length = 20 := by
  show MTt_278.length + 1 = 20
  rw [mtl_278]
theorem mtl_276 : MTt_276.length = 21 := by
  show MTt_277.length + 1 = 21
  rw [mtl_277]
theorem mtl_275 : MTt_275.length = 22 := by
  show MTt_276.length + 1 = 22
  rw [mtl_276]
theorem mtl_274 : MTt_274.length = 23 := by
  show MTt_275.length + 1 = 23
  rw [mtl_275]
theorem mtl_273 : MTt_273.length = 24 := by
  show MTt_274.length + 1 = 24
  rw [mtl_274]
theorem mtl_272 : MTt_272.length = 25 := by
  show MTt_273.length + 1 = 25
  rw [mtl_273]
theorem mtl_271 : MTt_271.length = 26 := by
  show MTt_272.length + 1 = 26
  rw [mtl_272]
theorem mtl_270 : MTt_270.length = 27 := by
  show MTt_271.length + 1 = 27
  rw [mtl_271]
theorem mtl_269 : MTt_269.length = 28 := by
  show MTt_270.length + 1 = 28
  rw [mtl_270]
theorem mtl_268 : MTt_268.length = 29 := by
  show MTt_269.length + 1 = 29
  rw [mtl_269]
theorem mtl_267 : MTt_267.length = 30 := by
  show MTt_268.length + 1 = 30
  rw [mtl_268]
theorem mtl_266 : MTt_266.length = 31 := by
  show MTt_267.length + 1 = 31
  rw [mtl_267]
theorem mtl_265 : MTt_265.length = 32 := by
  show MTt_266.length + 1 = 32
  rw [mtl_266]
theorem mtl_264 : MTt_264.length = 33 := by
  show MTt_265.length + 1 = 33
  rw [mtl_265]
theorem mtl_263 : MTt_263.length = 34 := by
  show MTt_264.length + 1 = 34
  rw [mtl_264]
theorem mtl_262 : MTt_262.length = 35 := by
  show MTt_263.length + 1 = 35
  rw [mtl_263]
theorem mtl_261 : MTt_261.length = 36 := by
  show MTt_262.length + 1 = 36
  rw [mtl_262]
theorem mtl_260 : MTt_260.length = 37 := by
  show MTt_261.length + 1 = 37
  rw [mtl_261]
theorem mtl_259 : MTt_259.length = 38 := by
  show MTt_260.length + 1 = 38
  rw [mtl_260]
theorem mtl_258 : MTt_258.length = 39 := by
  show MTt_259.length + 1 = 39
  rw [mtl_259]
theorem mtl_257 : MTt_257.length = 40 := by
  show MTt_258.length + 1 = 40
  rw [mtl_258]
theorem mtl_256 : MTt_256.length = 41 := by
  show MTt_257.length + 1 = 41
  rw [mtl_257]
theorem mtl_255 : MTt_255.length = 42 := by
  show MTt_256.length + 1 = 42
  rw [mtl_256]
theorem mtl_254 : MTt_254.length = 43 := by
  show MTt_255.length + 1 = 43
  rw [mtl_255]
theorem mtl_253 : MTt_253.length = 44 := by
  show MTt_254.length + 1 = 44
  rw [mtl_254]
theorem mtl_252 : MTt_252.length = 45 := by
  show MTt_253.length + 1 = 45
  rw [mtl_253]
theorem mtl_251 : MTt_251.length = 46 := by
  show MTt_252.length + 1 = 46
  rw [mtl_252]
theorem mtl_250 : MTt_250.length = 47 := by
  show MTt_251.length + 1 = 47
  rw [mtl_251]
theorem mtl_249 : MTt_249.length = 48 := by
  show MTt_250.length + 1 = 48
  rw [mtl_250]
theorem mtl_248 : MTt_248.length = 49 := by
  show MTt_249.length + 1 = 49
  rw [mtl_249]
theorem mtl_247 : MTt_247.length = 50 := by
  show MTt_248.length + 1 = 50
  rw [mtl_248]
theorem mtl_246 : MTt_246.length = 51 := by
  show MTt_247.length + 1 = 51
  rw [mtl_247]
theorem mtl_245 : MTt_245.length = 52 := by
  show MTt_246.length + 1 = 52
  rw [mtl_246]
theorem mtl_244 : MTt_244.length = 53 := by
  show MTt_245.length + 1 = 53
  rw [mtl_245]
theorem mtl_243 : MTt_243.length = 54 := by
  show MTt_244.length + 1 = 54
  rw [mtl_244]
theorem mtl_242 : MTt_242.length = 55 := by
  show MTt_243.length + 1 = 55
  rw [mtl_243]
theorem mtl_241 : MTt_241.length = 56 := by
  show MTt_242.length + 1 = 56
  rw [mtl_242]
theorem mtl_240 : MTt_240.length = 57 := by
  show MTt_241.length + 1 = 57
  rw [mtl_241]
theorem mtl_239 : MTt_239.length = 58 := by
  show MTt_240.length + 1 = 58
  rw [mtl_240]
theorem mtl_238 : MTt_238.length = 59 := by
  show MTt_239.length + 1 = 59
  rw [mtl_239]
theorem mtl_237 : MTt_237.length = 60 := by
  show MTt_238.length + 1 = 60
  rw [mtl_238]
theorem mtl_236 : MTt_236.length = 61 := by
  show MTt_237.length + 1 = 61
  rw [mtl_237]
theorem mtl_235 : MTt_235.length = 62 := by
  show MTt_236.length + 1 = 62
  rw [mtl_236]
theorem mtl_234 : MTt_234.length = 63 := by
  show MTt_235.length + 1 = 63
  rw [mtl_235]
theorem mtl_233 : MTt_233.length = 64 := by
  show MTt_234.length + 1 = 64
  rw [mtl_234]
theorem mtl_232 : MTt_232.length = 65 := by
  show MTt_233.length + 1 = 65
  rw [mtl_233]
theorem mtl_231 : MTt_231.length = 66 := by
  show MTt_232.length + 1 = 66
  rw [mtl_232]
theorem mtl_230 : MTt_230.length = 67 := by
  show MTt_231.length + 1 = 67
  rw [mtl_231]
theorem mtl_229 : MTt_229.length = 68 := by
  show MTt_230.length + 1 = 68
  rw [mtl_230]
theorem mtl_228 : MTt_228.length = 69 := by
  show MTt_229.length + 1 = 69
  rw [mtl_229]
theorem mtl_227 : MTt_227.length = 70 := by
  show MTt_228.length + 1 = 70
  rw [mtl_228]
theorem mtl_226 : MTt_226.length = 71 := by
  show MTt_227.length + 1 = 71
  rw [mtl_227]
theorem mtl_225 : MTt_225.length = 72 := by
  show MTt_226.length + 1 = 72
  rw [mtl_226]
theorem mtl_224 : MTt_224.length = 73 := by
  show MTt_225.length + 1 = 73
  rw [mtl_225]
theorem mtl_223 : MTt_223.length = 74 := by
  show MTt_224.length + 1 = 74
  rw [mtl_224]
theorem mtl_222 : MTt_222.length = 75 := by
  show MTt_223.length + 1 = 75
  rw [mtl_223]
theorem mtl_221 : MTt_221.length = 76 := by
  show MTt_222.length + 1 = 76
  rw [mtl_222]
theorem mtl_220 : MTt_220.length = 77 := by
  show MTt_221.length + 1 = 77
  rw [mtl_221]
theorem mtl_219 : MTt_219.length = 78 := by
  show MTt_220.length + 1 = 78
  rw [mtl_220]
theorem mtl_218 : MTt_218.length = 79 := by
  show MTt_219.length + 1 = 79
  rw [mtl_219]
theorem mtl_217 : MTt_217.length = 80 := by
  show MTt_218.length + 1 = 80
  rw [mtl_218]
theorem mtl_216 : MTt_216.length = 81 := by
  show MTt_217.length + 1 = 81
  rw [mtl_217]
theorem mtl_215 : MTt_215.length = 82 := by
  show MTt_216.length + 1 = 82
  rw [mtl_216]
theorem mtl_214 : MTt_214.length = 83 := by
  show MTt_215.length + 1 = 83
  rw [mtl_215]
theorem mtl_213 : MTt_213.length = 84 := by
  show MTt_214.length + 1 = 84
  rw [mtl_214]
theorem mtl_212 : MTt_212.length = 85 := by
  show MTt_213.length + 1 = 85
  rw [mtl_213]
theorem mtl_211 : MTt_211.length = 86 := by
  show MTt_212.length + 1 = 86
  rw [mtl_212]
theorem mtl_210 : MTt_210.length = 87 := by
  show MTt_211.length + 1 = 87
  rw [mtl_211]
theorem mtl_209 : MTt_209.length = 88 := by
  show MTt_210.length + 1 = 88
  rw [mtl_210]
theorem mtl_208 : MTt_208.length = 89 := by
  show MTt_209.length + 1 = 89
  rw [mtl_209]
theorem mtl_207 : MTt_207.length = 90 := by
  show MTt_208.length + 1 = 90
  rw [mtl_208]
theorem mtl_206 : MTt_206.length = 91 := by
  show MTt_207.length + 1 = 91
  rw [mtl_207]
theorem mtl_205 : MTt_205.length = 92 := by
  show MTt_206.length + 1 = 92
  rw [mtl_206]
theorem mtl_204 : MTt_204.length = 93 := by
  show MTt_205.length + 1 = 93
  rw [mtl_205]
theorem mtl_203 : MTt_203.length = 94 := by
  show MTt_204.length + 1 = 94
  rw [mtl_204]
theorem mtl_202 : MTt_202.length = 95 := by
  show MTt_203.length + 1 = 95
  rw [mtl_203]
theorem mtl_201 : MTt_201.length = 96 := by
  show MTt_202.length + 1 = 96
  rw [mtl_202]
theorem mtl_200 : MTt_200.length = 97 := by
  show MTt_201.length + 1 = 97
  rw [mtl_201]
theorem mtl_199 : MTt_199.length = 98 := by
  show MTt_200.length + 1 = 98
  rw [mtl_200]
theorem mtl_198 : MTt_198.length = 99 := by
  show MTt_199.length + 1 = 99
  rw [mtl_199]
theorem mtl_197 : MTt_197.length = 100 := by
  show MTt_198.length + 1 = 100
  rw [mtl_198]
theorem mtl_196 : MTt_196.length = 101 := by
  show MTt_197.length + 1 = 101
  rw [mtl_197]
theorem mtl_195 : MTt_195.length = 102 := by
  show MTt_196.length + 1 = 102
  rw [mtl_196]
theorem mtl_194 : MTt_194.length = 103 := by
  show MTt_195.length + 1 = 103
  rw [mtl_195]
theorem mtl_193 : MTt_193.length = 104 := by
  show MTt_194.length + 1 = 104
  rw [mtl_194]
theorem mtl_192 : MTt_192.length = 105 := by
  show MTt_193.length + 1 = 105
  rw [mtl_193]
theorem mtl_191 : MTt_191.length = 106 := by
  show MTt_192.length + 1 = 106
  rw [mtl_192]
theorem mtl_190 : MTt_190.length = 107 := by
  show MTt_191.length + 1 = 107
  rw [mtl_191]
theorem mtl_189 : MTt_189.length = 108 := by
  show MTt_190.length + 1 = 108
  rw [mtl_190]
theorem mtl_188 : MTt_188.length = 109 := by
  show MTt_189.length + 1 = 109
  rw [mtl_189]
theorem mtl_187 : MTt_187.length = 110 := by
  show MTt_188.length + 1 = 110
  rw [mtl_188]
theorem mtl_186 : MTt_186.length = 111 := by
  show MTt_187.length + 1 = 111
  rw [mtl_187]
theorem mtl_185 : MTt_185.length = 112 := by
  show MTt_186.length + 1 = 112
  rw [mtl_186]
theorem mtl_184 : MTt_184.length = 113 := by
  show MTt_185.length + 1 = 113
  rw [mtl_185]
theorem mtl_183 : MTt_183.length = 114 := by
  show MTt_184.length + 1 = 114
  rw [mtl_184]
theorem mtl_182 : MTt_182.length = 115 := by
  show MTt_183.length + 1 = 115
  rw [mtl_183]
theorem mtl_181 : MTt_181.length = 116 := by
  show MTt_182.length + 1 = 116
  rw [mtl_182]
theorem mtl_180 : MTt_180.length = 117 := by
  show MTt_181.length + 1 = 117
  rw [mtl_181]
theorem mtl_179 : MTt_179.length = 118 := by
  show MTt_180.length + 1 = 118
  rw [mtl_180]
theorem mtl_178 : MTt_178.length = 119 := by
  show MTt_179.length + 1 = 119
  rw [mtl_179]
theorem mtl_177 : MTt_177.length = 120 := by
  show MTt_178.length + 1 = 120
  rw [mtl_178]
theorem mtl_176 : MTt_176.length = 121 := by
  show MTt_177.length + 1 = 121
  rw [mtl_177]
theorem mtl_175 : MTt_175.length = 122 := by
  show MTt_176.length + 1 = 122
  rw [mtl_176]
theorem mtl_174 : MTt_174.length = 123 := by
  show MTt_175.length + 1 = 123
  rw [mtl_175]
theorem mtl_173 : MTt_173.length = 124 := by
  show MTt_174.length + 1 = 124
  rw [mtl_174]
theorem mtl_172 : MTt_172.length = 125 := by
  show MTt_173.length + 1 = 125
  rw [mtl_173]
theorem mtl_171 : MTt_171.length = 126 := by
  show MTt_172.length + 1 = 126
  rw [mtl_172]
theorem mtl_170 : MTt_170.length = 127 := by
  show MTt_171.length + 1 = 127
  rw [mtl_171]
theorem mtl_169 : MTt_169.length = 128 := by
  show MTt_170.length + 1 = 128
  rw [mtl_170]
theorem mtl_168 : MTt_168.length = 129 := by
  show MTt_169.length + 1 = 129
  rw [mtl_169]
theorem mtl_167 : MTt_167.length = 130 := by
  show MTt_168.length + 1 = 130
  rw [mtl_168]
theorem mtl_166 : MTt_166.length = 131 := by
  show MTt_167.length + 1 = 131
  rw [mtl_167]
theorem mtl_165 : MTt_165.length = 132 := by
  show MTt_166.length + 1 = 132
  rw [mtl_166]
theorem mtl_164 : MTt_164.length = 133 := by
  show MTt_165.length + 1 = 133
  rw [mtl_165]
theorem mtl_163 : MTt_163.length = 134 := by
  show MTt_164.length + 1 = 134
  rw [mtl_164]
theorem mtl_162 : MTt_162.length = 135 := by
  show MTt_163.length + 1 = 135
  rw [mtl_163]
theorem mtl_161 : MTt_161.length = 136 := by
  show MTt_162.length + 1 = 136
  rw [mtl_162]
theorem mtl_160 : MTt_160.length = 137 := by
  show MTt_161.length + 1 = 137
  rw [mtl_161]
theorem mtl_159 : MTt_159.length = 138 := by
  show MTt_160.length + 1 = 138
  rw [mtl_160]
theorem mtl_158 : MTt_158.length = 139 := by
  show MTt_159.length + 1 = 139
  rw [mtl_159]
theorem mtl_157 : MTt_157.length = 140 := by
  show MTt_158.length + 1 = 140
  rw [mtl_158]
theorem mtl_156 : MTt_156.length = 141 := by
  show MTt_157.length + 1 = 141
  rw [mtl_157]
theorem mtl_155 : MTt_155.length = 142 := by
  show MTt_156.length + 1 = 142
  rw [mtl_156]
theorem mtl_154 : MTt_154.length = 143 := by
  show MTt_155.length + 1 = 143
  rw [mtl_155]
theorem mtl_153 : MTt_153.length = 144 := by
  show MTt_154.length + 1 = 144
  rw [mtl_154]
theorem mtl_152 : MTt_152.length = 145 := by
  show MTt_153.length + 1 = 145
  rw [mtl_153]
theorem mtl_151 : MTt_151.length = 146 := by
  show MTt_152.length + 1 = 146
  rw [mtl_152]
theorem mtl_150 : MTt_150.length = 147 := by
  show MTt_151.length + 1 = 147
  rw [mtl_151]
theorem mtl_149 : MTt_149.length = 148 := by
  show MTt_150.length + 1 = 148
  rw [mtl_150]
theorem mtl_148 : MTt_148.length = 149 := by
  show MTt_149.length + 1 = 149
  rw [mtl_149]
theorem mtl_147 : MTt_147.length = 150 := by
  show MTt_148.length + 1 = 150
  rw [mtl_148]
theorem mtl_146 : MTt_146.length = 151 := by
  show MTt_147.length + 1 = 151
  rw [mtl_147]
theorem mtl_145 : MTt_145.length = 152 := by
  show MTt_146.length + 1 = 152
  rw [mtl_146]
theorem mtl_144 : MTt_144.length = 153 := by
  show MTt_145.length + 1 = 153
  rw [mtl_145]
theorem mtl_143 : MTt_143.length = 154 := by
  show MTt_144.length + 1 = 154
  rw [mtl_144]
theorem mtl_142 : MTt_142.length = 155 := by
  show MTt_143.length + 1 = 155
  rw [mtl_143]
theorem mtl_141 : MTt_141.length = 156 := by
  show MTt_142.length + 1 = 156
  rw [mtl_142]
theorem mtl_140 : MTt_140.length = 157 := by
  show MTt_141.length + 1 = 157
  rw [mtl_141]
theorem mtl_139 : MTt_139.length = 158 := by
  show MTt_140.length + 1 = 158
  rw [mtl_140]
theorem mtl_138 : MTt_138.length = 159 := by
  show MTt_139.length + 1 = 159
  rw [mtl_139]
theorem mtl_137 : MTt_137.length = 160 := by
  show MTt_138.length + 1 = 160
  rw [mtl_138]
theorem mtl_136 : MTt_136.length = 161 := by
  show MTt_137.length + 1 = 161
  rw [mtl_137]
theorem mtl_135 : MTt_135.length = 162 := by
  show MTt_136.length + 1 = 162
  rw [mtl_136]
theorem mtl_134 : MTt_134.length = 163 := by
  show MTt_135.length + 1 = 163
  rw [mtl_135]
theorem mtl_133 : MTt_133.length = 164 := by
  show MTt_134.length + 1 = 164
  rw [mtl_134]
theorem mtl_132 : MTt_132.length = 165 := by
  show MTt_133.length + 1 = 165
  rw [mtl_133]
theorem mtl_131 : MTt_131.length = 166 := by
  show MTt_132.length + 1 = 166
  rw [mtl_132]
theorem mtl_130 : MTt_130.length = 167 := by
  show MTt_131.length + 1 = 167
  rw [mtl_131]
theorem mtl_129 : MTt_129.length = 168 := by
  show MTt_130.length + 1 = 168
  rw [mtl_130]
theorem mtl_128 : MTt_128.length = 169 := by
  show MTt_129.length + 1 = 169
  rw [mtl_129]
theorem mtl_127 : MTt_127.length = 170 := by
  show MTt_128.length + 1 = 170
  rw [mtl_128]
theorem mtl_126 : MTt_126.length = 171 := by
  show MTt_127.length + 1 = 171
  rw [mtl_127]
theorem mtl_125 : MTt_125.length = 172 := by
  show MTt_126.length + 1 = 172
  rw [mtl_126]
theorem mtl_124 : MTt_124.length = 173 := by
  show MTt_125.length + 1 = 173
  rw [mtl_125]
theorem mtl_123 : MTt_123.length = 174 := by
  show MTt_124.length + 1 = 174
  rw [mtl_124]
theorem mtl_122 : MTt_122.length = 175 := by
  show MTt_123.length + 1 = 175
  rw [mtl_123]
theorem mtl_121 : MTt_121.length = 176 := by
  show MTt_122.length + 1 = 176
  rw [mtl_122]
theorem mtl_120 : MTt_120.length = 177 := by
  show MTt_121.length + 1 = 177
  rw [mtl_121]
theorem mtl_119 : MTt_119.length = 178 := by
  show MTt_120.length + 1 = 178
  rw [mtl_120]
theorem mtl_118 : MTt_118.length = 179 := by
  show MTt_119.length + 1 = 179
  rw [mtl_119]
theorem mtl_117 : MTt_117.length = 180 := by
  show MTt_118.length + 1 = 180
  rw [mtl_118]
theorem mtl_116 : MTt_116.length = 181 := by
  show MTt_117.length + 1 = 181
  rw [mtl_117]
theorem mtl_115 : MTt_115.length = 182 := by
  show MTt_116.length + 1 = 182
  rw [mtl_116]
theorem mtl_114 : MTt_114.length = 183 := by
  show MTt_115.length + 1 = 183
  rw [mtl_115]
theorem mtl_113 : MTt_113.length = 184 := by
  show MTt_114.length + 1 = 184
  rw [mtl_114]
theorem mtl_112 : MTt_112.length = 185 := by
  show MTt_113.length + 1 = 185
  rw [mtl_113]
theorem mtl_111 : MTt_111.length = 186 := by
  show MTt_112.length + 1 = 186
  rw [mtl_112]
theorem mtl_110 : MTt_110.length = 187 := by
  show MTt_111.length + 1 = 187
  rw [mtl_111]
theorem mtl_109 : MTt_109.length = 188 := by
  show MTt_110.length + 1 = 188
  rw [mtl_110]
theorem mtl_108 : MTt_108.length = 189 := by
  show MTt_109.length + 1 = 189
  rw [mtl_109]
theorem mtl_107 : MTt_107.length = 190 := by
  show MTt_108.length + 1 = 190
  rw [mtl_108]
theorem mtl_106 : MTt_106.length = 191 := by
  show MTt_107.length + 1 = 191
  rw [mtl_107]
theorem mtl_105 : MTt_105.length = 192 := by
  show MTt_106.length + 1 = 192
  rw [mtl_106]
theorem mtl_104 : MTt_104.length = 193 := by
  show MTt_105.length + 1 = 193
  rw [mtl_105]
theorem mtl_103 : MTt_103.length = 194 := by
  show MTt_104.length + 1 = 194
  rw [mtl_104]
theorem mtl_102 : MTt_102.length = 195 := by
  show MTt_103.length + 1 = 195
  rw [mtl_103]
theorem mtl_101 : MTt_101.length = 196 := by
  show MTt_102.length + 1 = 196
  rw [mtl_102]
theorem mtl_100 : MTt_100.length = 197 := by
  show MTt_101.length + 1 = 197
  rw [mtl_101]
theorem mtl_99 : MTt_99.length = 198 := by
  show MTt_100.length + 1 = 198
  rw [mtl_100]
theorem mtl_98 : MTt_98.length = 199 := by
  show MTt_99.length + 1 = 199
  rw [mtl_99]
theorem mtl_97 : MTt_97.length = 200 := by
  show MTt_98.length + 1 = 200
  rw [mtl_98]
theorem mtl_96 : MTt_96.length = 201 := by
  show MTt_97.length + 1 = 201
  rw [mtl_97]
theorem mtl_95 : MTt_95.length = 202 := by
  show MTt_96.length + 1 = 202
  rw [mtl_96]
theorem mtl_94 : MTt_94.length = 203 := by
  show MTt_95.length + 1 = 203
  rw [mtl_95]
theorem mtl_93 : MTt_93.length = 204 := by
  show MTt_94.length + 1 = 204
  rw [mtl_94]
theorem mtl_92 : MTt_92.length = 205 := by
  show MTt_93.length + 1 = 205
  rw [mtl_93]
theorem mtl_91 : MTt_91.length = 206 := by
  show MTt_92.length + 1 = 206
  rw [mtl_92]
theorem mtl_90 : MTt_90.length = 207 := by
  show MTt_91.length + 1 = 207
  rw [mtl_91]
theorem mtl_89 : MTt_89.length = 208 := by
  show MTt_90.length + 1 = 208
  rw [mtl_90]
theorem mtl_88 : MTt_88.length = 209 := by
  show MTt_89.length + 1 = 209
  rw [mtl_89]
theorem mtl_87 : MTt_87.length = 210 := by
  show MTt_88.length + 1 = 210
  rw [mtl_88]
theorem mtl_86 : MTt_86.length = 211 := by
  show MTt_87.length + 1 = 211
  rw [mtl_87]
theorem mtl_85 : MTt_85.length = 212 := by
  show MTt_86.length + 1 = 212
  rw [mtl_86]
theorem mtl_84 : MTt_84.length = 213 := by
  show MTt_85.length + 1 = 213
  rw [mtl_85]
theorem mtl_83 : MTt_83.length = 214 := by
  show MTt_84.length + 1 = 214
  rw [mtl_84]
theorem mtl_82 : MTt_82.length = 215 := by
  show MTt_83.length + 1 = 215
  rw [mtl_83]
theorem mtl_81 : MTt_81.length = 216 := by
  show MTt_82.length + 1 = 216
  rw [mtl_82]
theorem mtl_80 : MTt_80.length = 217 := by
  show MTt_81.length + 1 = 217
  rw [mtl_81]
theorem mtl_79 : MTt_79.length = 218 := by
  show MTt_80.length + 1 = 218
  rw [mtl_80]
theorem mtl_78 : MTt_78.length = 219 := by
  show MTt_79.length + 1 = 219
  rw [mtl_79]
theorem mtl_77 : MTt_77.length = 220 := by
  show MTt_78.length + 1 = 220
  rw [mtl_78]
theorem mtl_76 : MTt_76.length = 221 := by
  show MTt_77.length + 1 = 221
  rw [mtl_77]
theorem mtl_75 : MTt_75.length = 222 := by
  show MTt_76.length + 1 = 222
  rw [mtl_76]
theorem mtl_74 : MTt_74.length = 223 := by
  show MTt_75.length + 1 = 223
  rw [mtl_75]
theorem mtl_73 : MTt_73.length = 224 := by
  show MTt_74.length + 1 = 224
  rw [mtl_74]
theorem mtl_72 : MTt_72.length = 225 := by
  show MTt_73.length + 1 = 225
  rw [mtl_73]
theorem mtl_71 : MTt_71.length = 226 := by
  show MTt_72.length + 1 = 226
  rw [mtl_72]
theorem mtl_70 : MTt_70.length = 227 := by
  show MTt_71.length + 1 = 227
  rw [mtl_71]
theorem mtl_69 : MTt_69.length = 228 := by
  show MTt_70.length + 1 = 228
  rw [mtl_70]
theorem mtl_68 : MTt_68.length = 229 := by
  show MTt_69.length + 1 = 229
  rw [mtl_69]
theorem mtl_67 : MTt_67.length = 230 := by
  show MTt_68.length + 1 = 230
  rw [mtl_68]
theorem mtl_66 : MTt_66.length = 231 := by
  show MTt_67.length + 1 = 231
  rw [mtl_67]
theorem mtl_65 : MTt_65.length = 232 := by
  show MTt_66.length + 1 = 232
  rw [mtl_66]
theorem mtl_64 : MTt_64.length = 233 := by
  show MTt_65.length + 1 = 233
  rw [mtl_65]
theorem mtl_63 : MTt_63.length = 234 := by
  show MTt_64.length + 1 = 234
  rw [mtl_64]
theorem mtl_62 : MTt_62.length = 235 := by
  show MTt_63.length + 1 = 235
  rw [mtl_63]
theorem mtl_61 : MTt_61.length = 236 := by
  show MTt_62.length + 1 = 236
  rw [mtl_62]
theorem mtl_60 : MTt_60.length = 237 := by
  show MTt_61.length + 1 = 237
  rw [mtl_61]
theorem mtl_59 : MTt_59.length = 238 := by
  show MTt_60.length + 1 = 238
  rw [mtl_60]
theorem mtl_58 : MTt_58.length = 239 := by
  show MTt_59.length + 1 = 239
  rw [mtl_59]
theorem mtl_57 : MTt_57.length = 240 := by
  show MTt_58.length + 1 = 240
  rw [mtl_58]
theorem mtl_56 : MTt_56.length = 241 := by
  show MTt_57.length + 1 = 241
  rw [mtl_57]
theorem mtl_55 : MTt_55.length = 242 := by
  show MTt_56.length + 1 = 242
  rw [mtl_56]
theorem mtl_54 : MTt_54.length = 243 := by
  show MTt_55.length + 1 = 243
  rw [mtl_55]
theorem mtl_53 : MTt_53.length = 244 := by
  show MTt_54.length + 1 = 244
  rw [mtl_54]
theorem mtl_52 : MTt_52.length = 245 := by
  show MTt_53.length + 1 = 245
  rw [mtl_53]
theorem mtl_51 : MTt_51.length = 246 := by
  show MTt_52.length + 1 = 246
  rw [mtl_52]
theorem mtl_50 : MTt_50.length = 247 := by
  show MTt_51.length + 1 = 247
  rw [mtl_51]
theorem mtl_49 : MTt_49.length = 248 := by
  show MTt_50.length + 1 = 248
  rw [mtl_50]
theorem mtl_48 : MTt_48.length = 249 := by
  show MTt_49.length + 1 = 249
  rw [mtl_49]
theorem mtl_47 : MTt_47.length = 250 := by
  show MTt_48.length + 1 = 250
  rw [mtl_48]
theorem mtl_46 : MTt_46.length = 251 := by
  show MTt_47.length + 1 = 251
  rw [mtl_47]
theorem mtl_45 : MTt_45.length = 252 := by
  show MTt_46.length + 1 = 252
  rw [mtl_46]
theorem mtl_44 : MTt_44.length = 253 := by
  show MTt_45.length + 1 = 253
  rw [mtl_45]
theorem mtl_43 : MTt_43.length = 254 := by
  show MTt_44.length + 1 = 254
  rw [mtl_44]
theorem mtl_42 : MTt_42.length = 255 := by
  show MTt_43.length + 1 = 255
  rw [mtl_43]
theorem mtl_41 : MTt_41.length = 256 := by
  show MTt_42.length + 1 = 256
  rw [mtl_42]
theorem mtl_40 : MTt_40.length = 257 := by
  show MTt_41.length + 1 = 257
  rw [mtl_41]
theorem mtl_39 : MTt_39.length = 258 := by
  show MTt_40.length + 1 = 258
  rw [mtl_40]
theorem mtl_38 : MTt_38.length = 259 := by
  show MTt_39.length + 1 = 259
  rw [mtl_39]
theorem mtl_37 : MTt_37.length = 260 := by
  show MTt_38.length + 1 = 260
  rw [mtl_38]
theorem mtl_36 : MTt_36.length = 261 := by
  show MTt_37.length + 1 = 261
  rw [mtl_37]
theorem mtl_35 : MTt_35.length = 262 := by
  show MTt_36.length + 1 = 262
  rw [mtl_36]
theorem mtl_34 : MTt_34.length = 263 := by
  show MTt_35.length + 1 = 263
  rw [mtl_35]
theorem mtl_33 : MTt_33.length = 264 := by
  show MTt_34.length + 1 = 264
  rw [mtl_34]
theorem mtl_32 : MTt_32.length = 265 := by
  show MTt_33.length + 1 = 265
  rw [mtl_33]
theorem mtl_31 : MTt_31.length = 266 := by
  show MTt_32.length + 1 = 266
  rw [mtl_32]
theorem mtl_30 : MTt_30.length = 267 := by
  show MTt_31.length + 1 = 267
  rw [mtl_31]
theorem mtl_29 : MTt_29.length = 268 := by
  show MTt_30.length + 1 = 268
  rw [mtl_30]
theorem mtl_28 : MTt_28.length = 269 := by
  show MTt_29.length + 1 = 269
  rw [mtl_29]
theorem mtl_27 : MTt_27.length = 270 := by
  show MTt_28.length + 1 = 270
  rw [mtl_28]
theorem mtl_26 : MTt_26.length = 271 := by
  show MTt_27.length + 1 = 271
  rw [mtl_27]
theorem mtl_25 : MTt_25.length = 272 := by
  show MTt_26.length + 1 = 272
  rw [mtl_26]
theorem mtl_24 : MTt_24.length = 273 := by
  show MTt_25.length + 1 = 273
  rw [mtl_25]
theorem mtl_23 : MTt_23.length = 274 := by
  show MTt_24.length + 1 = 274
  rw [mtl_24]
theorem mtl_22 : MTt_22.length = 275 := by
  show MTt_23.length + 1 = 275
  rw [mtl_23]
theorem mtl_21 : MTt_21.length = 276 := by
  show MTt_22.length + 1 = 276
  rw [mtl_22]
theorem mtl_20 : MTt_20.length = 277 := by
  show MTt_21.length + 1 = 277
  rw [mtl_21]
theorem mtl_19 : MTt_19.length = 278 := by
  show MTt_20.length + 1 = 278
  rw [mtl_20]
theorem mtl_18 : MTt_18.length = 279 := by
  show MTt_19.length + 1 = 279
  rw [mtl_19]
theorem mtl_17 : MTt_17.length = 280 := by
  show MTt_18.length + 1 = 280
  rw [mtl_18]
theorem mtl_16 : MTt_16.length = 281 := by
  show MTt_17.length + 1 = 281
  rw [mtl_17]
theorem mtl_15 : MTt_15.length = 282 := by
  show MTt_16.length + 1 = 282
  rw [mtl_16]
theorem mtl_14 : MTt_14.length = 283 := by
  show MTt_15.length + 1 = 283
  rw [mtl_15]
theorem mtl_13 : MTt_13.length = 284 := by
  show MTt_14.length + 1 = 284
  rw [mtl_14]
theorem mtl_12 : MTt_12.length = 285 := by
  show MTt_13.length + 1 = 285
  rw [mtl_13]
theorem mtl_11 : MTt_11.length = 286 := by
  show MTt_12.length + 1 = 286
  rw [mtl_12]
theorem mtl_10 : MTt_10.length = 287 := by
  show MTt_11.length + 1 = 287
  rw [mtl_11]
theorem mtl_9 : MTt_9.length = 288 := by
  show MTt_10.length + 1 = 288
  rw [mtl_10]
theorem mtl_8 : MTt_8.length = 289 := by
  show MTt_9.length + 1 = 289
  rw [mtl_9]
theorem mtl_7 : MTt_7.length = 290 := by
  show MTt_8.length + 1 = 290
  rw [mtl_8]
theorem mtl_6 : MTt_6.length = 291 := by
  show MTt_7.length + 1 = 291
  rw [mtl_7]
theorem mtl_5 : MTt_5.length = 292 := by
  show MTt_6.length + 1 = 292
  rw [mtl_6]
theorem mtl_4 : MTt_4.length = 293 := by
  show MTt_5.length + 1 = 293
  rw [mtl_5]
theorem mtl_3 : MTt_3.length = 294 := by
  show MTt_4.length + 1 = 294
  rw [mtl_4]
theorem mtl_2 : MTt_2.length = 295 := by
  show MTt_3.length + 1 = 295
  rw [mtl_3]
theorem mtl_1 : MTt_1.length = 296 := by
  show MTt_2.length + 1 = 296
  rw [mtl_2]
theorem mtl_0 : MTt_0.length = 297 := by
  show MTt_1.length + 1 = 297
  rw [mtl_1]
theorem MT_len : 297 = MT.length := mtl_0.symm
theorem mtd_0 (i : Nat) : MT[0 + i]? = MTt_0[i]? := by rw [Nat.zero_add]; rfl
theorem mtd_1 (i : Nat) : MT[1 + i]? = MTt_1[i]? := by
  have h := mtd_0 (i + 1)
  rw [show 0 + (i + 1) = 1 + i by omega] at h
  exact h
theorem mtd_2 (i : Nat) : MT[2 + i]? = MTt_2[i]? := by
  have h := mtd_1 (i + 1)
  rw [show 1 + (i + 1) = 2 + i by omega] at h
  exact h
theorem mtd_3 (i : Nat) : MT[3 + i]? = MTt_3[i]? := by
  have h := mtd_2 (i + 1)
  rw [show 2 + (i + 1) = 3 + i by omega] at h
  exact h
theorem mtd_4 (i : Nat) : MT[4 + i]? = MTt_4[i]? := by
  have h := mtd_3 (i + 1)
  rw [show 3 + (i + 1) = 4 + i by omega] at h
  exact h
theorem mtd_5 (i : Nat) : MT[5 + i]? = MTt_5[i]? := by
  have h := mtd_4 (i + 1)
  rw [show 4 + (i + 1) = 5 + i by omega] at h
  exact h
theorem mtd_6 (i : Nat) : MT[6 + i]? = MTt_6[i]? := by
  have h := mtd_5 (i + 1)
  rw [show 5 + (i + 1) = 6 + i by omega] at h
  exact h
theorem mtd_7 (i : Nat) : MT[7 + i]? = MTt_7[i]? := by
  have h := mtd_6 (i + 1)
  rw [show 6 + (i + 1) = 7 + i by omega] at h
  exact h
theorem mtd_8 (i : Nat) : MT[8 + i]? = MTt_8[i]? := by
  have h := mtd_7 (i + 1)
  rw [show 7 + (i + 1) = 8 + i by omega] at h
  exact h
theorem mtd_9 (i : Nat) : MT[9 + i]? = MTt_9[i]? := by
  have h := mtd_8 (i + 1)
  rw [show 8 + (i + 1) = 9 + i by omega] at h
  exact h
theorem mtd_10 (i : Nat) : MT[10 + i]? = MTt_10[i]? := by
  have h := mtd_9 (i + 1)
  rw [show 9 + (i + 1) = 10 + i by omega] at h
  exact h
theorem mtd_11 (i : Nat) : MT[11 + i]? = MTt_11[i]? := by
  have h := mtd_10 (i + 1)
  rw [show 10 + (i + 1) = 11 + i by omega] at h
  exact h
theorem mtd_12 (i : Nat) : MT[12 + i]? = MTt_12[i]? := by
  have h := mtd_11 (i + 1)
  rw [show 11 + (i + 1) = 12 + i by omega] at h
  exact h
theorem mtd_13 (i : Nat) : MT[13 + i]? = MTt_13[i]? := by
  have h := mtd_12 (i + 1)
  rw [show 12 + (i + 1) = 13 + i by omega] at h
  exact h
theorem mtd_14 (i : Nat) : MT[14 + i]? = MTt_14[i]? := by
  have h := mtd_13 (i + 1)
  rw [show 13 + (i + 1) = 14 + i by omega] at h
  exact h
theorem mtd_15 (i : Nat) : MT[15 + i]? = MTt_15[i]? := by
  have h := mtd_14 (i + 1)
  rw [show 14 + (i + 1) = 15 + i by omega] at h
  exact h
theorem mtd_16 (i : Nat) : MT[16 + i]? = MTt_16[i]? := by
  have h := mtd_15 (i + 1)
  rw [show 15 + (i + 1) = 16 + i by omega] at h
  exact h
theorem mtd_17 (i : Nat) : MT[17 + i]? = MTt_17[i]? := by
  have h := mtd_16 (i + 1)
  rw [show 16 + (i + 1) = 17 + i by omega] at h
  exact h
theorem mtd_18 (i : Nat) : MT[18 + i]? = MTt_18[i]? := by
  have h := mtd_17 (i + 1)
  rw [show 17 + (i + 1) = 18 + i by omega] at h
  exact h
theorem mtd_19 (i : Nat) : MT[19 + i]? = MTt_19[i]? := by
  have h := mtd_18 (i + 1)
  rw [show 18 + (i + 1) = 19 + i by omega] at h
  exact h
theorem mtd_20 (i : Nat) : MT[20 + i]? = MTt_20[i]? := by
  have h := mtd_19 (i + 1)
  rw [show 19 + (i + 1) = 20 + i by omega] at h
  exact h
theorem mtd_21 (i : Nat) : MT[21 + i]? = MTt_21[i]? := by
  have h := mtd_20 (i + 1)
  rw [show 20 + (i + 1) = 21 + i by omega] at h
  exact h
theorem mtd_22 (i : Nat) : MT[22 + i]? = MTt_22[i]? := by
  have h := mtd_21 (i + 1)
  rw [show 21 + (i + 1) = 22 + i by omega] at h
  exact h
theorem mtd_23 (i : Nat) : MT[23 + i]? = MTt_23[i]? := by
  have h := mtd_22 (i + 1)
  rw [show 22 + (i + 1) = 23 + i by omega] at h
  exact h
theorem mtd_24 (i : Nat) : MT[24 + i]? = MTt_24[i]? := by
  have h := mtd_23 (i + 1)
  rw [show 23 + (i + 1) = 24 + i by omega] at h
  exact h
theorem mtd_25 (i : Nat) : MT[25 + i]? = MTt_25[i]? := by
  have h := mtd_24 (i + 1)
  rw [show 24 + (i + 1) = 25 + i by omega] at h
  exact h
theorem mtd_26 (i : Nat) : MT[26 + i]? = MTt_26[i]? := by
  have h := mtd_25 (i + 1)
  rw [show 25 + (i + 1) = 26 + i by omega] at h
  exact h
theorem mtd_27 (i : Nat) : MT[27 + i]? = MTt_27[i]? := by
  have h := mtd_26 (i + 1)
  rw [show 26 + (i + 1) = 27 + i by omega] at h
  exact h
theorem mtd_28 (i : Nat) : MT[28 + i]? = MTt_28[i]? := by
  have h := mtd_27 (i + 1)
  rw [show 27 + (i + 1) = 28 + i by omega] at h
  exact h
theorem mtd_29 (i : Nat) : MT[29 + i]? = MTt_29[i]? := by
  have h := mtd_28 (i + 1)
  rw [show 28 + (i + 1) = 29 + i by omega] at h
  exact h
theorem mtd_30 (i : Nat) : MT[30 + i]? = MTt_30[i]? := by
  have h := mtd_29 (i + 1)
  rw [show 29 + (i + 1) = 30 + i by omega] at h
  exact h
theorem mtd_31 (i : Nat) : MT[31 + i]? = MTt_31[i]? := by
  have h := mtd_30 (i + 1)
  rw [show 30 + (i + 1) = 31 + i by omega] at h
  exact h
theorem mtd_32 (i : Nat) : MT[32 + i]? = MTt_32[i]? := by
  have h := mtd_31 (i + 1)
  rw [show 31 + (i + 1) = 32 + i by omega] at h
  exact h
theorem mtd_33 (i : Nat) : MT[33 + i]? = MTt_33[i]? := by
  have h := mtd_32 (i + 1)
  rw [show 32 + (i + 1) = 33 + i by omega] at h
  exact h
theorem mtd_34 (i : Nat) : MT[34 + i]? = MTt_34[i]? := by
  have h := mtd_33 (i + 1)
  rw [show 33 + (i + 1) = 34 + i by omega] at h
  exact h
theorem mtd_35 (i : Nat) : MT[35 + i]? = MTt_35[i]? := by
  have h := mtd_34 (i + 1)
  rw [show 34 + (i + 1) = 35 + i by omega] at h
  exact h
theorem mtd_36 (i : Nat) : MT[36 + i]? = MTt_36[i]? := by
  have h := mtd_35 (i + 1)
  rw [show 35 + (i + 1) = 36 + i by omega] at h
  exact h
theorem mtd_37 (i : Nat) : MT[37 + i]? = MTt_37[i]? := by
  have h := mtd_36 (i + 1)
  rw [show 36 + (i + 1) = 37 + i by omega] at h
  exact h
theorem mtd_38 (i : Nat) : MT[38 + i]? = MTt_38[i]? := by
  have h := mtd_37 (i + 1)
  rw [show 37 + (i + 1) = 38 + i by omega] at h
  exact h
theorem mtd_39 (i : Nat) : MT[39 + i]? = MTt_39[i]? := by
  have h := mtd_38 (i + 1)
  rw [show 38 + (i + 1) = 39 + i by omega] at h
  exact h
theorem mtd_40 (i : Nat) : MT[40 + i]? = MTt_40[i]? := by
  have h := mtd_39 (i + 1)
  rw [show 39 + (i + 1) = 40 + i by omega] at h
  exact h
theorem mtd_41 (i : Nat) : MT[41 + i]? = MTt_41[i]? := by
  have h := mtd_40 (i + 1)
  rw [show 40 + (i + 1) = 41 + i by omega] at h
  exact h
theorem mtd_42 (i : Nat) : MT[42 + i]? = MTt_42[i]? := by
  have h := mtd_41 (i + 1)
  rw [show 41 + (i + 1) = 42 + i by omega] at h
  exact h
theorem mtd_43 (i : Nat) : MT[43 + i]? = MTt_43[i]? := by
  have h := mtd_42 (i + 1)
  rw [show 42 + (i + 1) = 43 + i by omega] at h
  exact h
theorem mtd_44 (i : Nat) : MT[44 + i]? = MTt_44[i]? := by
  have h := mtd_43 (i + 1)
  rw [show 43 + (i + 1) = 44 + i by omega] at h
  exact h
theorem mtd_45 (i : Nat) : MT[45 + i]? = MTt_45[i]? := by
  have h := mtd_44 (i + 1)
  rw [show 44 + (i + 1) = 45 + i by omega] at h
  exact h
theorem mtd_46 (i : Nat) : MT[46 + i]? = MTt_46[i]? := by
  have h := mtd_45 (i + 1)
  rw [show 45 + (i + 1) = 46 + i by omega] at h
  exact h
theorem mtd_47 (i : Nat) : MT[47 + i]? = MTt_47[i]? := by
  have h := mtd_46 (i + 1)
  rw [show 46 + (i + 1) = 47 + i by omega] at h
  exact h
theorem mtd_48 (i : Nat) : MT[48 + i]? = MTt_48[i]? := by
  have h := mtd_47 (i + 1)
  rw [show 47 + (i + 1) = 48 + i by omega] at h
  exact h
theorem mtd_49 (i : Nat) : MT[49 + i]? = MTt_49[i]? := by
  have h := mtd_48 (i + 1)
  rw [show 48 + (i + 1) = 49 + i by omega] at h
  exact h
theorem mtd_50 (i : Nat) : MT[50 + i]? = MTt_50[i]? := by
  have h := mtd_49 (i + 1)
  rw [show 49 + (i + 1) = 50 + i by omega] at h
  exact h
theorem mtd_51 (i : Nat) : MT[51 + i]? = MTt_51[i]? := by
  have h := mtd_50 (i + 1)
  rw [show 50 + (i + 1) = 51 + i by omega] at h
  exact h
theorem mtd_52 (i : Nat) : MT[52 + i]? = MTt_52[i]? := by
  have h := mtd_51 (i + 1)
  rw [show 51 + (i + 1) = 52 + i by omega] at h
  exact h
theorem mtd_53 (i : Nat) : MT[53 + i]? = MTt_53[i]? := by
  have h := mtd_52 (i + 1)
  rw [show 52 + (i + 1) = 53 + i by omega] at h
  exact h
theorem mtd_54 (i : Nat) : MT[54 + i]? = MTt_54[i]? := by
  have h := mtd_53 (i + 1)
  rw [show 53 + (i + 1) = 54 + i by omega] at h
  exact h
theorem mtd_55 (i : Nat) : MT[55 + i]? = MTt_55[i]? := by
  have h := mtd_54 (i + 1)
  rw [show 54 + (i + 1) = 55 + i by omega] at h
  exact h
theorem mtd_56 (i : Nat) : MT[56 + i]? = MTt_56[i]? := by
  have h := mtd_55 (i + 1)
  rw [show 55 + (i + 1) = 56 + i by omega] at h
  exact h
theorem mtd_57 (i : Nat) : MT[57 + i]? = MTt_57[i]? := by
  have h := mtd_56 (i + 1)
  rw [show 56 + (i + 1) = 57 + i by omega] at h
  exact h
theorem mtd_58 (i : Nat) : MT[58 + i]? = MTt_58[i]? := by
  have h := mtd_57 (i + 1)
  rw [show 57 + (i + 1) = 58 + i by omega] at h
  exact h
theorem mtd_59 (i : Nat) : MT[59 + i]? = MTt_59[i]? := by
  have h := mtd_58 (i + 1)
  rw [show 58 + (i + 1) = 59 + i by omega] at h
  exact h
theorem mtd_60 (i : Nat) : MT[60 + i]? = MTt_60[i]? := by
  have h := mtd_59 (i + 1)
  rw [show 59 + (i + 1) = 60 + i by omega] at h
  exact h
theorem mtd_61 (i : Nat) : MT[61 + i]? = MTt_61[i]? := by
  have h := mtd_60 (i + 1)
  rw [show 60 + (i + 1) = 61 + i by omega] at h
  exact h
theorem mtd_62 (i : Nat) : MT[62 + i]? = MTt_62[i]? := by
  have h := mtd_61 (i + 1)
  rw [show 61 + (i + 1) = 62 + i by omega] at h
  exact h
theorem mtd_63 (i : Nat) : MT[63 + i]? = MTt_63[i]? := by
  have h := mtd_62 (i + 1)
  rw [show 62 + (i + 1) = 63 + i by omega] at h
  exact h
theorem mtd_64 (i : Nat) : MT[64 + i]? = MTt_64[i]? := by
  have h := mtd_63 (i + 1)
  rw [show 63 + (i + 1) = 64 + i by omega] at h
  exact h
theorem mtd_65 (i : Nat) : MT[65 + i]? = MTt_65[i]? := by
  have h := mtd_64 (i + 1)
  rw [show 64 + (i + 1) = 65 + i by omega] at h
  exact h
theorem mtd_66 (i : Nat) : MT[66 + i]? = MTt_66[i]? := by
  have h := mtd_65 (i + 1)
  rw [show 65 + (i + 1) = 66 + i by omega] at h
  exact h
theorem mtd_67 (i : Nat) : MT[67 + i]? = MTt_67[i]? := by
  have h := mtd_66 (i + 1)
  rw [show 66 + (i + 1) = 67 + i by omega] at h
  exact h
theorem mtd_68 (i : Nat) : MT[68 + i]? = MTt_68[i]? := by
  have h := mtd_67 (i + 1)
  rw [show 67 + (i + 1) = 68 + i by omega] at h
  exact h
theorem mtd_69 (i : Nat) : MT[69 + i]? = MTt_69[i]? := by
  have h := mtd_68 (i + 1)
  rw [show 68 + (i + 1) = 69 + i by omega] at h
  exact h
theorem mtd_70 (i : Nat) : MT[70 + i]? = MTt_70[i]? := by
  have h := mtd_69 (i + 1)
  rw [show 69 + (i + 1) = 70 + i by omega] at h
  exact h
theorem mtd_71 (i : Nat) : MT[71 + i]? = MTt_71[i]? := by
  have h := mtd_70 (i + 1)
  rw [show 70 + (i + 1) = 71 + i by omega] at h
  exact h
theorem mtd_72 (i : Nat) : MT[72 + i]? = MTt_72[i]? := by
  have h := mtd_71 (i + 1)
  rw [show 71 + (i + 1) = 72 + i by omega] at h
  exact h
theorem mtd_73 (i : Nat) : MT[73 + i]? = MTt_73[i]? := by
  have h := mtd_72 (i + 1)
  rw [show 72 + (i + 1) = 73 + i by omega] at h
  exact h
theorem mtd_74 (i : Nat) : MT[74 + i]? = MTt_74[i]? := by
  have h := mtd_73 (i + 1)
  rw [show 73 + (i + 1) = 74 + i by omega] at h
  exact h
theorem mtd_75 (i : Nat) : MT[75 + i]? = MTt_75[i]? := by
  have h := mtd_74 (i + 1)
  rw [show 74 + (i + 1) = 75 + i by omega] at h
  exact h
theorem mtd_76 (i : Nat) : MT[76 + i]? = MTt_76[i]? := by
  have h := mtd_75 (i + 1)
  rw [show 75 + (i + 1) = 76 + i by omega] at h
  exact h
theorem mtd_77 (i : Nat) : MT[77 + i]? = MTt_77[i]? := by
  have h := mtd_76 (i + 1)
  rw [show 76 + (i + 1) = 77 + i by omega] at h
  exact h
theorem mtd_78 (i : Nat) : MT[78 + i]? = MTt_78[i]? := by
  have h := mtd_77 (i + 1)
  rw [show 77 + (i + 1) = 78 + i by omega] at h
  exact h
theorem mtd_79 (i : Nat) : MT[79 + i]? = MTt_79[i]? := by
  have h := mtd_78 (i + 1)
  rw [show 78 + (i + 1) = 79 + i by omega] at h
  exact h
theorem mtd_80 (i : Nat) : MT[80 + i]? = MTt_80[i]? := by
  have h := mtd_79 (i + 1)
  rw [show 79 + (i + 1) = 80 + i by omega] at h
  exact h
theorem mtd_81 (i : Nat) : MT[81 + i]? = MTt_81[i]? := by
  have h := mtd_80 (i + 1)
  rw [show 80 + (i + 1) = 81 + i by omega] at h
  exact h
theorem mtd_82 (i : Nat) : MT[82 + i]? = MTt_82[i]? := by
  have h := mtd_81 (i + 1)
  rw [show 81 + (i + 1) = 82 + i by omega] at h
  exact h
theorem mtd_83 (i : Nat) : MT[83 + i]? = MTt_83[i]? := by
  have h := mtd_82 (i + 1)
  rw [show 82 + (i + 1) = 83 + i by omega] at h
  exact h
theorem mtd_84 (i : Nat) : MT[84 + i]? = MTt_84[i]? := by
  have h := mtd_83 (i + 1)
  rw [show 83 + (i + 1) = 84 + i by omega] at h
  exact h
theorem mtd_85 (i : Nat) : MT[85 + i]? = MTt_85[i]? := by
  have h := mtd_84 (i + 1)
  rw [show 84 + (i + 1) = 85 + i by omega] at h
  exact h
theorem mtd_86 (i : Nat) : MT[86 + i]? = MTt_86[i]? := by
  have h := mtd_85 (i + 1)
  rw [show 85 + (i + 1) = 86 + i by omega] at h
  exact h
theorem mtd_87 (i : Nat) : MT[87 + i]? = MTt_87[i]? := by
  have h := mtd_86 (i + 1)
  rw [show 86 + (i + 1) = 87 + i by omega] at h
  exact h
theorem mtd_88 (i : Nat) : MT[88 + i]? = MTt_88[i]? := by
  have h := mtd_87 (i + 1)
  rw [show 87 + (i + 1) = 88 + i by omega] at h
  exact h
theorem mtd_89 (i : Nat) : MT[89 + i]? = MTt_89[i]? := by
  have h := mtd_88 (i + 1)
  rw [show 88 + (i + 1) = 89 + i by omega] at h
  exact h
theorem mtd_90 (i : Nat) : MT[90 + i]? = MTt_90[i]? := by
  have h := mtd_89 (i + 1)
  rw [show 89 + (i + 1) = 90 + i by omega] at h
  exact h
theorem mtd_91 (i : Nat) : MT[91 + i]? = MTt_91[i]? := by
  have h := mtd_90 (i + 1)
  rw [show 90 + (i + 1) = 91 + i by omega] at h
  exact h
theorem mtd_92 (i : Nat) : MT[92 + i]? = MTt_92[i]? := by
  have h := mtd_91 (i + 1)
  rw [show 91 + (i + 1) = 92 + i by omega] at h
  exact h
theorem mtd_93 (i : Nat) : MT[93 + i]? = MTt_93[i]? := by
  have h := mtd_92 (i + 1)
  rw [show 92 + (i + 1) = 93 + i by omega] at h
  exact h
theorem mtd_94 (i : Nat) : MT[94 + i]? = MTt_94[i]? := by
  have h := mtd_93 (i + 1)
  rw [show 93 + (i + 1) = 94 + i by omega] at h
  exact h
theorem mtd_95 (i : Nat) : MT[95 + i]? = MTt_95[i]? := by
  have h := mtd_94 (i + 1)
  rw [show 94 + (i + 1) = 95 + i by omega] at h
  exact h
theorem mtd_96 (i : Nat) : MT[96 + i]? = MTt_96[i]? := by
  have h := mtd_95 (i + 1)
  rw [show 95 + (i + 1) = 96 + i by omega] at h
  exact h
theorem mtd_97 (i : Nat) : MT[97 + i]? = MTt_97[i]? := by
  have h := mtd_96 (i + 1)
  rw [show 96 + (i + 1) = 97 + i by omega] at h
  exact h
theorem mtd_98 (i : Nat) : MT[98 + i]? = MTt_98[i]? := by
  have h := mtd_97 (i + 1)
  rw [show 97 + (i + 1) = 98 + i by omega] at h
  exact h
theorem mtd_99 (i : Nat) : MT[99 + i]? = MTt_99[i]? := by
  have h := mtd_98 (i + 1)
  rw [show 98 + (i + 1) = 99 + i by omega] at h
  exact h
theorem mtd_100 (i : Nat) : MT[100 + i]? = MTt_100[i]? := by
  have h := mtd_99 (i + 1)
  rw [show 99 + (i + 1) = 100 + i by omega] at h
  exact h
theorem mtd_101 (i : Nat) : MT[101 + i]? = MTt_101[i]? := by
  have h := mtd_100 (i + 1)
  rw [show 100 + (i + 1) = 101 + i by omega] at h
  exact h
theorem mtd_102 (i : Nat) : MT[102 + i]? = MTt_102[i]? := by
  have h := mtd_101 (i + 1)
  rw [show 101 + (i + 1) = 102 + i by omega] at h
  exact h
theorem mtd_103 (i : Nat) : MT[103 + i]? = MTt_103[i]? := by
  have h := mtd_102 (i + 1)
  rw [show 102 + (i + 1) = 103 + i by omega] at h
  exact h
theorem mtd_104 (i : Nat) : MT[104 + i]? = MTt_104[i]? := by
  have h := mtd_103 (i + 1)
  rw [show 103 + (i + 1) = 104 + i by omega] at h
  exact h
theorem mtd_105 (i : Nat) : MT[105 + i]? = MTt_105[i]? := by
  have h := mtd_104 (i + 1)
  rw [show 104 + (i + 1) = 105 + i by omega] at h
  exact h
theorem mtd_106 (i : Nat) : MT[106 + i]? = MTt_106[i]? := by
  have h := mtd_105 (i + 1)
  rw [show 105 + (i + 1) = 106 + i by omega] at h
  exact h
theorem mtd_107 (i : Nat) : MT[107 + i]? = MTt_107[i]? := by
  have h := mtd_106 (i + 1)
  rw [show 106 + (i + 1) = 107 + i by omega] at h
  exact h
theorem mtd_108 (i : Nat) : MT[108 + i]? = MTt_108[i]? := by
  have h := mtd_107 (i + 1)
  rw [show 107 + (i + 1) = 108 + i by omega] at h
  exact h
theorem mtd_109 (i : Nat) : MT[109 + i]? = MTt_109[i]? := by
  have h := mtd_108 (i + 1)
  rw [show 108 + (i + 1) = 109 + i by omega] at h
  exact h
theorem mtd_110 (i : Nat) : MT[110 + i]? = MTt_110[i]? := by
  have h := mtd_109 (i + 1)
  rw [show 109 + (i + 1) = 110 + i by omega] at h
  exact h
theorem mtd_111 (i : Nat) : MT[111 + i]? = MTt_111[i]? := by
  have h := mtd_110 (i + 1)
  rw [show 110 + (i + 1) = 111 + i by omega] at h
  exact h
theorem mtd_112 (i : Nat) : MT[112 + i]? = MTt_112[i]? := by
  have h := mtd_111 (i + 1)
  rw [show 111 + (i + 1) = 112 + i by omega] at h
  exact h
theorem mtd_113 (i : Nat) : MT[113 + i]? = MTt_113[i]? := by
  have h := mtd_112 (i + 1)
  rw [show 112 + (i + 1) = 113 + i by omega] at h
  exact h
theorem mtd_114 (i : Nat) : MT[114 + i]? = MTt_114[i]? := by
  have h := mtd_113 (i + 1)
  rw [show 113 + (i + 1) = 114 + i by omega] at h
  exact h
theorem mtd_115 (i : Nat) : MT[115 + i]? = MTt_115[i]? := by
  have h := mtd_114 (i + 1)
  rw [show 114 + (i + 1) = 115 + i by omega] at h
  exact h
theorem mtd_116 (i : Nat) : MT[116 + i]? = MTt_116[i]? := by
  have h := mtd_115 (i + 1)
  rw [show 115 + (i + 1) = 116 + i by omega] at h
  exact h
theorem mtd_117 (i : Nat) : MT[117 + i]? = MTt_117[i]? := by
  have h := mtd_116 (i + 1)
  rw [show 116 + (i + 1) = 117 + i by omega] at h
  exact h
theorem mtd_118 (i : Nat) : MT[118 + i]? = MTt_118[i]? := by
  have h := mtd_117 (i + 1)
  rw [show 117 + (i + 1) = 118 + i by omega] at h
  exact h
theorem mtd_119 (i : Nat) : MT[119 + i]? = MTt_119[i]? := by
  have h := mtd_118 (i + 1)
  rw [show 118 + (i + 1) = 119 + i by omega] at h
  exact h
theorem mtd_120 (i : Nat) : MT[120 + i]? = MTt_120[i]? := by
  have h := mtd_119 (i + 1)
  rw [show 119 + (i + 1) = 120 + i by omega] at h
  exact h
theorem mtd_121 (i : Nat) : MT[121 + i]? = MTt_121[i]? := by
  have h := mtd_120 (i + 1)
  rw [show 120 + (i + 1) = 121 + i by omega] at h
  exact h
theorem mtd_122 (i : Nat) : MT[122 + i]? = MTt_122[i]? := by
  have h := mtd_121 (i + 1)
  rw [show 121 + (i + 1) = 122 + i by omega] at h
  exact h
theorem mtd_123 (i : Nat) : MT[123 + i]? = MTt_123[i]? := by
  have h := mtd_122 (i + 1)
  rw [show 122 + (i + 1) = 123 + i by omega] at h
  exact h
theorem mtd_124 (i : Nat) : MT[124 + i]? = MTt_124[i]? := by
  have h := mtd_123 (i + 1)
  rw [show 123 + (i + 1) = 124 + i by omega] at h
  exact h
theorem mtd_125 (i : Nat) : MT[125 + i]? = MTt_125[i]? := by
  have h := mtd_124 (i + 1)
  rw [show 124 + (i + 1) = 125 + i by omega] at h
  exact h
theorem mtd_126 (i : Nat) : MT[126 + i]? = MTt_126[i]? := by
  have h := mtd_125 (i + 1)
  rw [show 125 + (i + 1) = 126 + i by omega] at h
  exact h
theorem mtd_127 (i : Nat) : MT[127 + i]? = MTt_127[i]? := by
  have h := mtd_126 (i + 1)
  rw [show 126 + (i + 1) = 127 + i by omega] at h
  exact h
theorem mtd_128 (i : Nat) : MT[128 + i]? = MTt_128[i]? := by
  have h := mtd_127 (i + 1)
  rw [show 127 + (i + 1) = 128 + i by omega] at h
  exact h
theorem mtd_129 (i : Nat) : MT[129 + i]? = MTt_129[i]? := by
  have h := mtd_128 (i + 1)
  rw [show 128 + (i + 1) = 129 + i by omega] at h
  exact h
theorem mtd_130 (i : Nat) : MT[130 + i]? = MTt_130[i]? := by
  have h := mtd_129 (i + 1)
  rw [show 129 + (i + 1) = 130 + i by omega] at h
  exact h
theorem mtd_131 (i : Nat) : MT[131 + i]? = MTt_131[i]? := by
  have h := mtd_130 (i + 1)
  rw [show 130 + (i + 1) = 131 + i by omega] at h
  exact h
theorem mtd_132 (i : Nat) : MT[132 + i]? = MTt_132[i]? := by
  have h := mtd_131 (i + 1)
  rw [show 131 + (i + 1) = 132 + i by omega] at h
  exact h
theorem mtd_133 (i : Nat) : MT[133 + i]? = MTt_133[i]? := by
  have h := mtd_132 (i + 1)
  rw [show 132 + (i + 1) = 133 + i by omega] at h
  exact h
theorem mtd_134 (i : Nat) : MT[134 + i]? = MTt_134[i]? := by
  have h := mtd_133 (i + 1)
  rw [show 133 + (i + 1) = 134 + i by omega] at h
  exact h
theorem mtd_135 (i : Nat) : MT[135 + i]? = MTt_135[i]? := by
  have h := mtd_134 (i + 1)
  rw [show 134 + (i + 1) = 135 + i by omega] at h
  exact h
theorem mtd_136 (i : Nat) : MT[136 + i]? = MTt_136[i]? := by
  have h := mtd_135 (i + 1)
  rw [show 135 + (i + 1) = 136 + i by omega] at h
  exact h
theorem mtd_137 (i : Nat) : MT[137 + i]? = MTt_137[i]? := by
  have h := mtd_136 (i + 1)
  rw [show 136 + (i + 1) = 137 + i by omega] at h
  exact h
theorem mtd_138 (i : Nat) : MT[138 + i]? = MTt_138[i]? := by
  have h := mtd_137 (i + 1)
  rw [show 137 + (i + 1) = 138 + i by omega] at h
  exact h
theorem mtd_139 (i : Nat) : MT[139 + i]? = MTt_139[i]? := by
  have h := mtd_138 (i + 1)
  rw [show 138 + (i + 1) = 139 + i by omega] at h
  exact h
theorem mtd_140 (i : Nat) : MT[140 + i]? = MTt_140[i]? := by
  have h := mtd_139 (i + 1)
  rw [show 139 + (i + 1) = 140 + i by omega] at h
  exact h
theorem mtd_141 (i : Nat) : MT[141 + i]? = MTt_141[i]? := by
  have h := mtd_140 (i + 1)
  rw [show 140 + (i + 1) = 141 + i by omega] at h
  exact h
theorem mtd_142 (i : Nat) : MT[142 + i]? = MTt_142[i]? := by
  have h := mtd_141 (i + 1)
  rw [show 141 + (i + 1) = 142 + i by omega] at h
  exact h
theorem mtd_143 (i : Nat) : MT[143 + i]? = MTt_143[i]? := by
  have h := mtd_142 (i + 1)
  rw [show 142 + (i + 1) = 143 + i by omega] at h
  exact h
theorem mtd_144 (i : Nat) : MT[144 + i]? = MTt_144[i]? := by
  have h := mtd_143 (i + 1)
  rw [show 143 + (i + 1) = 144 + i by omega] at h
  exact h
theorem mtd_145 (i : Nat) : MT[145 + i]? = MTt_145[i]? := by
  have h := mtd_144 (i + 1)
  rw [show 144 + (i + 1) = 145 + i by omega] at h
  exact h
theorem mtd_146 (i : Nat) : MT[146 + i]? = MTt_146[i]? := by
  have h := mtd_145 (i + 1)
  rw [show 145 + (i + 1) = 146 + i by omega] at h
  exact h
theorem mtd_147 (i : Nat) : MT[147 + i]? = MTt_147[i]? := by
  have h := mtd_146 (i + 1)
  rw [show 146 + (i + 1) = 147 + i by omega] at h
  exact h
theorem mtd_148 (i : Nat) : MT[148 + i]? = MTt_148[i]? := by
  have h := mtd_147 (i + 1)
  rw [show 147 + (i + 1) = 148 + i by omega] at h
  exact h
theorem mtd_149 (i : Nat) : MT[149 + i]? = MTt_149[i]? := by
  have h := mtd_148 (i + 1)
  rw [show 148 + (i + 1) = 149 + i by omega] at h
  exact h
theorem mtd_150 (i : Nat) : MT[150 + i]? = MTt_150[i]? := by
  have h := mtd_149 (i + 1)
  rw [show 149 + (i + 1) = 150 + i by omega] at h
  exact h
theorem mtd_151 (i : Nat) : MT[151 + i]? = MTt_151[i]? := by
  have h := mtd_150 (i + 1)
  rw [show 150 + (i + 1) = 151 + i by omega] at h
  exact h
theorem mtd_152 (i : Nat) : MT[152 + i]? = MTt_152[i]? := by
  have h := mtd_151 (i + 1)
  rw [show 151 + (i + 1) = 152 + i by omega] at h
  exact h
theorem mtd_153 (i : Nat) : MT[153 + i]? = MTt_153[i]? := by
  have h := mtd_152 (i + 1)
  rw [show 152 + (i + 1) = 153 + i by omega] at h
  exact h
theorem mtd_154 (i : Nat) : MT[154 + i]? = MTt_154[i]? := by
  have h := mtd_153 (i + 1)
  rw [show 153 + (i + 1) = 154 + i by omega] at h
  exact h
theorem mtd_155 (i : Nat) : MT[155 + i]? = MTt_155[i]? := by
  have h := mtd_154 (i + 1)
  rw [show 154 + (i + 1) = 155 + i by omega] at h
  exact h
theorem mtd_156 (i : Nat) : MT[156 + i]? = MTt_156[i]? := by
  have h := mtd_155 (i + 1)
  rw [show 155 + (i + 1) = 156 + i by omega] at h
  exact h
theorem mtd_157 (i : Nat) : MT[157 + i]? = MTt_157[i]? := by
  have h := mtd_156 (i + 1)
  rw [show 156 + (i + 1) = 157 + i by omega] at h
  exact h
theorem mtd_158 (i : Nat) : MT[158 + i]? = MTt_158[i]? := by
  have h := mtd_157 (i + 1)
  rw [show 157 + (i + 1) = 158 + i by omega] at h
  exact h
theorem mtd_159 (i : Nat) : MT[159 + i]? = MTt_159[i]? := by
  have h := mtd_158 (i + 1)
  rw [show 158 + (i + 1) = 159 + i by omega] at h
  exact h
theorem mtd_160 (i : Nat) : MT[160 + i]? = MTt_160[i]? := by
  have h := mtd_159 (i + 1)
  rw [show 159 + (i + 1) = 160 + i by omega] at h
  exact h
theorem mtd_161 (i : Nat) : MT[161 + i]? = MTt_161[i]? := by
  have h := mtd_160 (i + 1)
  rw [show 160 + (i + 1) = 161 + i by omega] at h
  exact h
theorem mtd_162 (i : Nat) : MT[162 + i]? = MTt_162[i]? := by
  have h := mtd_161 (i + 1)
  rw [show 161 + (i + 1) = 162 + i by omega] at h
  exact h
theorem mtd_163 (i : Nat) : MT[163 + i]? = MTt_163[i]? := by
  have h := mtd_162 (i + 1)
  rw [show 162 + (i + 1) = 163 + i by omega] at h
  exact h
theorem mtd_164 (i : Nat) : MT[164 + i]? = MTt_164[i]? := by
  have h := mtd_163 (i + 1)
  rw [show 163 + (i + 1) = 164 + i by omega] at h
  exact h
theorem mtd_165 (i : Nat) : MT[165 + i]? = MTt_165[i]? := by
  have h := mtd_164 (i + 1)
  rw [show 164 + (i + 1) = 165 + i by omega] at h
  exact h
theorem mtd_166 (i : Nat) : MT[166 + i]? = MTt_166[i]? := by
  have h := mtd_165 (i + 1)
  rw [show 165 + (i + 1) = 166 + i by omega] at h
  exact h
theorem mtd_167 (i : Nat) : MT[167 + i]? = MTt_167[i]? := by
  have h := mtd_166 (i + 1)
  rw [show 166 + (i + 1) = 167 + i by omega] at h
  exact h
theorem mtd_168 (i : Nat) : MT[168 + i]? = MTt_168[i]? := by
  have h := mtd_167 (i + 1)
  rw [show 167 + (i + 1) = 168 + i by omega] at h
  exact h
theorem mtd_169 (i : Nat) : MT[169 + i]? = MTt_169[i]? := by
  have h := mtd_168 (i + 1)
  rw [show 168 + (i + 1) = 169 + i by omega] at h
  exact h
theorem mtd_170 (i : Nat) : MT[170 + i]? = MTt_170[i]? := by
  have h := mtd_169 (i + 1)
  rw [show 169 + (i + 1) = 170 + i by omega] at h
  exact h
theorem mtd_171 (i : Nat) : MT[171 + i]? = MTt_171[i]? := by
  have h := mtd_170 (i + 1)
  rw [show 170 + (i + 1) = 171 + i by omega] at h
  exact h
theorem mtd_172 (i : Nat) : MT[172 + i]? = MTt_172[i]? := by
  have h := mtd_171 (i + 1)
  rw [show 171 + (i + 1) = 172 + i by omega] at h
  exact h
theorem mtd_173 (i : Nat) : MT[173 + i]? = MTt_173[i]? := by
  have h := mtd_172 (i + 1)
  rw [show 172 + (i + 1) = 173 + i by omega] at h
  exact h
theorem mtd_174 (i : Nat) : MT[174 + i]? = MTt_174[i]? := by
  have h := mtd_173 (i + 1)
  rw [show 173 + (i + 1) = 174 + i by omega] at h
  exact h
theorem mtd_175 (i : Nat) : MT[175 + i]? = MTt_175[i]? := by
  have h := mtd_174 (i + 1)
  rw [show 174 + (i + 1) = 175 + i by omega] at h
  exact h
theorem mtd_176 (i : Nat) : MT[176 + i]? = MTt_176[i]? := by
  have h := mtd_175 (i + 1)
  rw [show 175 + (i + 1) = 176 + i by omega] at h
  exact h
theorem mtd_177 (i : Nat) : MT[177 + i]? = MTt_177[i]? := by
  have h := mtd_176 (i + 1)
  rw [show 176 + (i + 1) = 177 + i by omega] at h
  exact h
theorem mtd_178 (i : Nat) : MT[178 + i]? = MTt_178[i]? := by
  have h := mtd_177 (i + 1)
  rw [show 177 + (i + 1) = 178 + i by omega] at h
  exact h
theorem mtd_179 (i : Nat) : MT[179 + i]? = MTt_179[i]? := by
  have h := mtd_178 (i + 1)
  rw [show 178 + (i + 1) = 179 + i by omega] at h
  exact h
theorem mtd_180 (i : Nat) : MT[180 + i]? = MTt_180[i]? := by
  have h := mtd_179 (i + 1)
  rw [show 179 + (i + 1) = 180 + i by omega] at h
  exact h
theorem mtd_181 (i : Nat) : MT[181 + i]? = MTt_181[i]? := by
  have h := mtd_180 (i + 1)
  rw [show 180 + (i + 1) = 181 + i by omega] at h
  exact h
theorem mtd_182 (i : Nat) : MT[182 + i]? = MTt_182[i]? := by
  have h := mtd_181 (i + 1)
  rw [show 181 + (i + 1) = 182 + i by omega] at h
  exact h
theorem mtd_183 (i : Nat) : MT[183 + i]? = MTt_183[i]? := by
  have h := mtd_182 (i + 1)
  rw [show 182 + (i + 1) = 183 + i by omega] at h
  exact h
theorem mtd_184 (i : Nat) : MT[184 + i]? = MTt_184[i]? := by
  have h := mtd_183 (i + 1)
  rw [show 183 + (i + 1) = 184 + i by omega] at h
  exact h
theorem mtd_185 (i : Nat) : MT[185 + i]? = MTt_185[i]? := by
  have h := mtd_184 (i + 1)
  rw [show 184 + (i + 1) = 185 + i by omega] at h
  exact h
theorem mtd_186 (i : Nat) : MT[186 + i]? = MTt_186[i]? := by
  have h := mtd_185 (i + 1)
  rw [show 185 + (i + 1) = 186 + i by omega] at h
  exact h
theorem mtd_187 (i : Nat) : MT[187 + i]? = MTt_187[i]? := by
  have h := mtd_186 (i + 1)
  rw [show 186 + (i + 1) = 187 + i by omega] at h
  exact h
theorem mtd_188 (i : Nat) : MT[188 + i]? = MTt_188[i]? := by
  have h := mtd_187 (i + 1)
  rw [show 187 + (i + 1) = 188 + i by omega] at h
  exact h
theorem mtd_189 (i : Nat) : MT[189 + i]? = MTt_189[i]? := by
  have h := mtd_188 (i + 1)
  rw [show 188 + (i + 1) = 189 + i by omega] at h
  exact h
theorem mtd_190 (i : Nat) : MT[190 + i]? = MTt_190[i]? := by
  have h := mtd_189 (i + 1)
  rw [show 189 + (i + 1) = 190 + i by omega] at h
  exact h
theorem mtd_191 (i : Nat) : MT[191 + i]? = MTt_191[i]? := by
  have h := mtd_190 (i + 1)
  rw [show 190 + (i + 1) = 191 + i by omega] at h
  exact h
theorem mtd_192 (i : Nat) : MT[192 + i]? = MTt_192[i]? := by
  have h := mtd_191 (i + 1)
  rw [show 191 + (i + 1) = 192 + i by omega] at h
  exact h
theorem mtd_193 (i : Nat) : MT[193 + i]? = MTt_193[i]? := by
  have h := mtd_192 (i + 1)
  rw [show 192 + (i + 1) = 193 + i by omega] at h
  exact h
theorem mtd_194 (i : Nat) : MT[194 + i]? = MTt_194[i]? := by
  have h := mtd_193 (i + 1)
  rw [show 193 + (i + 1) = 194 + i by omega] at h
  exact h
theorem mtd_195 (i : Nat) : MT[195 + i]? = MTt_195[i]? := by
  have h := mtd_194 (i + 1)
  rw [show 194 + (i + 1) = 195 + i by omega] at h
  exact h
theorem mtd_196 (i : Nat) : MT[196 + i]? = MTt_196[i]? := by
  have h := mtd_195 (i + 1)
  rw [show 195 + (i + 1) = 196 + i by omega] at h
  exact h
theorem mtd_197 (i : Nat) : MT[197 + i]? = MTt_197[i]? := by
  have h := mtd_196 (i + 1)
  rw [show 196 + (i + 1) = 197 + i by omega] at h
  exact h
theorem mtd_198 (i : Nat) : MT[198 + i]? = MTt_198[i]? := by
  have h := mtd_197 (i + 1)
  rw [show 197 + (i + 1) = 198 + i by omega] at h
  exact h
theorem mtd_199 (i : Nat) : MT[199 + i]? = MTt_199[i]? := by
  have h := mtd_198 (i + 1)
  rw [show 198 + (i + 1) = 199 + i by omega] at h
  exact h
theorem mtd_200 (i : Nat) : MT[200 + i]? = MTt_200[i]? := by
  have h := mtd_199 (i + 1)
  rw [show 199 + (i + 1) = 200 + i by omega] at h
  exact h
theorem mtd_201 (i : Nat) : MT[201 + i]? = MTt_201[i]? := by
  have h := mtd_200 (i + 1)
  rw [show 200 + (i + 1) = 201 + i by omega] at h
  exact h
theorem mtd_202 (i : Nat) : MT[202 + i]? = MTt_202[i]? := by
  have h := mtd_201 (i + 1)
  rw [show 201 + (i + 1) = 202 + i by omega] at h
  exact h
theorem mtd_203 (i : Nat) : MT[203 + i]? = MTt_203[i]? := by
  have h := mtd_202 (i + 1)
  rw [show 202 + (i + 1) = 203 + i by omega] at h
  exact h
theorem mtd_204 (i : Nat) : MT[204 + i]? = MTt_204[i]? := by
  have h := mtd_203 (i + 1)
  rw [show 203 + (i + 1) = 204 + i by omega] at h
  exact h
theorem mtd_205 (i : Nat) : MT[205 + i]? = MTt_205[i]? := by
  have h := mtd_204 (i + 1)
  rw [show 204 + (i + 1) = 205 + i by omega] at h
  exact h
theorem mtd_206 (i : Nat) : MT[206 + i]? = MTt_206[i]? := by
  have h := mtd_205 (i + 1)
  rw [show 205 + (i + 1) = 206 + i by omega] at h
  exact h
theorem mtd_207 (i : Nat) : MT[207 + i]? = MTt_207[i]? := by
  have h := mtd_206 (i + 1)
  rw [show 206 + (i + 1) = 207 + i by omega] at h
  exact h
theorem mtd_208 (i : Nat) : MT[208 + i]? = MTt_208[i]? := by
  have h := mtd_207 (i + 1)
  rw [show 207 + (i + 1) = 208 + i by omega] at h
  exact h
theorem mtd_209 (i : Nat) : MT[209 + i]? = MTt_209[i]? := by
  have h := mtd_208 (i + 1)
  rw [show 208 + (i + 1) = 209 + i by omega] at h
  exact h
theorem mtd_210 (i : Nat) : MT[210 + i]? = MTt_210[i]? := by
  have h := mtd_209 (i + 1)
  rw [show 209 + (i + 1) = 210 + i by omega] at h
  exact h
theorem mtd_211 (i : Nat) : MT[211 + i]? = MTt_211[i]? := by
  have h := mtd_210 (i + 1)
  rw [show 210 + (i + 1) = 211 + i by omega] at h
  exact h
theorem mtd_212 (i : Nat) : MT[212 + i]? = MTt_212[i]? := by
  have h := mtd_211 (i + 1)
  rw [show 211 + (i + 1) = 212 + i by omega] at h
  exact h
theorem mtd_213 (i : Nat) : MT[213 + i]? = MTt_213[i]? := by
  have h := mtd_212 (i + 1)
  rw [show 212 + (i + 1) = 213 + i by omega] at h
  exact h
theorem mtd_214 (i : Nat) : MT[214 + i]? = MTt_214[i]? := by
  have h := mtd_213 (i + 1)
  rw [show 213 + (i + 1) = 214 + i by omega] at h
  exact h
theorem mtd_215 (i : Nat) : MT[215 + i]? = MTt_215[i]? := by
  have h := mtd_214 (i + 1)
  rw [show 214 + (i + 1) = 215 + i by omega] at h
  exact h
theorem mtd_216 (i : Nat) : MT[216 + i]? = MTt_216[i]? := by
  have h := mtd_215 (i + 1)
  rw [show 215 + (i + 1) = 216 + i by omega] at h
  exact h
theorem mtd_217 (i : Nat) : MT[217 + i]? = MTt_217[i]? := by
  have h := mtd_216 (i + 1)
  rw [show 216 + (i + 1) = 217 + i by omega] at h
  exact h
theorem mtd_218 (i : Nat) : MT[218 + i]? = MTt_218[i]? := by
  have h := mtd_217 (i + 1)
  rw [show 217 + (i + 1) = 218 + i by omega] at h
  exact h
theorem mtd_219 (i : Nat) : MT[219 + i]? = MTt_219[i]? := by
  have h := mtd_218 (i + 1)
  rw [show 218 + (i + 1) = 219 + i by omega] at h
  exact h
theorem mtd_220 (i : Nat) : MT[220 + i]? = MTt_220[i]? := by
  have h := mtd_219 (i + 1)
  rw [show 219 + (i + 1) = 220 + i by omega] at h
  exact h
theorem mtd_221 (i : Nat) : MT[221 + i]? = MTt_221[i]? := by
  have h := mtd_220 (i + 1)
  rw [show 220 + (i + 1) = 221 + i by omega] at h
  exact h
theorem mtd_222 (i : Nat) : MT[222 + i]? = MTt_222[i]? := by
  have h := mtd_221 (i + 1)
  rw [show 221 + (i + 1) = 222 + i by omega] at h
  exact h
theorem mtd_223 (i : Nat) : MT[223 + i]? = MTt_223[i]? := by
  have h := mtd_222 (i + 1)
  rw [show 222 + (i + 1) = 223 + i by omega] at h
  exact h
theorem mtd_224 (i : Nat) : MT[224 + i]? = MTt_224[i]? := by
  have h := mtd_223 (i + 1)
  rw [show 223 + (i + 1) = 224 + i by omega] at h
  exact h
theorem mtd_225 (i : Nat) : MT[225 + i]? = MTt_225[i]? := by
  have h := mtd_224 (i + 1)
  rw [show 224 + (i + 1) = 225 + i by omega] at h
  exact h
theorem mtd_226 (i : Nat) : MT[226 + i]? = MTt_226[i]? := by
  have h := mtd_225 (i + 1)
  rw [show 225 + (i + 1) = 226 + i by omega] at h
  exact h
theorem mtd_227 (i : Nat) : MT[227 + i]? = MTt_227[i]? := by
  have h := mtd_226 (i + 1)
  rw [show 226 + (i + 1) = 227 + i by omega] at h
  exact h
theorem mtd_228 (i : Nat) : MT[228 + i]? = MTt_228[i]? := by
  have h := mtd_227 (i + 1)
  rw [show 227 + (i + 1) = 228 + i by omega] at h
  exact h
theorem mtd_229 (i : Nat) : MT[229 + i]? = MTt_229[i]? := by
  have h := mtd_228 (i + 1)
  rw [show 228 + (i + 1) = 229 + i by omega] at h
  exact h
theorem mtd_230 (i : Nat) : MT[230 + i]? = MTt_230[i]? := by
  have h := mtd_229 (i + 1)
  rw [show 229 + (i + 1) = 230 + i by omega] at h
  exact h
theorem mtd_231 (i : Nat) : MT[231 + i]? = MTt_231[i]? := by
  have h := mtd_230 (i + 1)
  rw [show 230 + (i + 1) = 231 + i by omega] at h
  exact h
theorem mtd_232 (i : Nat) : MT[232 + i]? = MTt_232[i]? := by
  have h := mtd_231 (i + 1)
  rw [show 231 + (i + 1) = 232 + i by omega] at h
  exact h
theorem mtd_233 (i : Nat) : MT[233 + i]? = MTt_233[i]? := by
  have h := mtd_232 (i + 1)
  rw [show 232 + (i + 1) = 233 + i by omega] at h
  exact h
theorem mtd_234 (i : Nat) : MT[234 + i]? = MTt_234[i]? := by
  have h := mtd_233 (i + 1)
  rw [show 233 + (i + 1) = 234 + i by omega] at h
  exact h
theorem mtd_235 (i : Nat) : MT[235 + i]? = MTt_235[i]? := by
  have h := mtd_234 (i + 1)
  rw [show 234 + (i + 1) = 235 + i by omega] at h
  exact h
theorem mtd_236 (i : Nat) : MT[236 + i]? = MTt_236[i]? := by
  have h := mtd_235 (i + 1)
  rw [show 235 + (i + 1) = 236 + i by omega] at h
  exact h
theorem mtd_237 (i : Nat) : MT[237 + i]? = MTt_237[i]? := by
  have h := mtd_236 (i + 1)
  rw [show 236 + (i + 1) = 237 + i by omega] at h
  exact h
theorem mtd_238 (i : Nat) : MT[238 + i]? = MTt_238[i]? := by
  have h := mtd_237 (i + 1)
  rw [show 237 + (i + 1) = 238 + i by omega] at h
  exact h
theorem mtd_239 (i : Nat) : MT[239 + i]? = MTt_239[i]? := by
  have h := mtd_238 (i + 1)
  rw [show 238 + (i + 1) = 239 + i by omega] at h
  exact h
theorem mtd_240 (i : Nat) : MT[240 + i]? = MTt_240[i]? := by
  have h := mtd_239 (i + 1)
  rw [show 239 + (i + 1) = 240 + i by omega] at h
  exact h
theorem mtd_241 (i : Nat) : MT[241 + i]? = MTt_241[i]? := by
  have h := mtd_240 (i + 1)
  rw [show 240 + (i + 1) = 241 + i by omega] at h
  exact h
theorem mtd_242 (i : Nat) : MT[242 + i]? = MTt_242[i]? := by
  have h := mtd_241 (i + 1)
  rw [show 241 + (i + 1) = 242 + i by omega] at h
  exact h
theorem mtd_243 (i : Nat) : MT[243 + i]? = MTt_243[i]? := by
  have h := mtd_242 (i + 1)
  rw [show 242 + (i + 1) = 243 + i by omega] at h
  exact h
theorem mtd_244 (i : Nat) : MT[244 + i]? = MTt_244[i]? := by
  have h := mtd_243 (i + 1)
  rw [show 243 + (i + 1) = 244 + i by omega] at h
  exact h
theorem mtd_245 (i : Nat) : MT[245 + i]? = MTt_245[i]? := by
  have h := mtd_244 (i + 1)
  rw [show 244 + (i + 1) = 245 + i by omega] at h
  exact h
theorem mtd_246 (i : Nat) : MT[246 + i]? = MTt_246[i]? := by
  have h := mtd_245 (i + 1)
  rw [show 245 + (i + 1) = 246 + i by omega] at h
  exact h
theorem mtd_247 (i : Nat) : MT[247 + i]? = MTt_247[i]? := by
  have h := mtd_246 (i + 1)
  rw [show 246 + (i + 1) = 247 + i by omega] at h
  exact h
theorem mtd_248 (i : Nat) : MT[248 + i]? = MTt_248[i]? := by
  have h := mtd_247 (i + 1)
  rw [show 247 + (i + 1) = 248 + i by omega] at h
  exact h
theorem mtd_249 (i : Nat) : MT[249 + i]? = MTt_249[i]? := by
  have h := mtd_248 (i + 1)
  rw [show 248 + (i + 1) = 249 + i by omega] at h
  exact h
theorem mtd_250 (i : Nat) : MT[250 + i]? = MTt_250[i]? := by
  have h := mtd_249 (i + 1)
  rw [show 249 + (i + 1) = 250 + i by omega] at h
  exact h
theorem mtd_251 (i : Nat) : MT[251 + i]? = MTt_251[i]? := by
  have h := mtd_250 (i + 1)
  rw [show 250 + (i + 1) = 251 + i by omega] at h
  exact h
theorem mtd_252 (i : Nat) : MT[252 + i]? = MTt_252[i]? := by
  have h := mtd_251 (i + 1)
  rw [show 251 + (i + 1) = 252 + i by omega] at h
  exact h
theorem mtd_253 (i : Nat) : MT[253 + i]? = MTt_253[i]? := by
  have h := mtd_252 (i + 1)
  rw [show 252 + (i + 1) = 253 + i by omega] at h
  exact h
theorem mtd_254 (i : Nat) : MT[254 + i]? = MTt_254[i]? := by
  have h := mtd_253 (i + 1)
  rw [show 253 + (i + 1) = 254 + i by omega] at h
  exact h
theorem mtd_255 (i : Nat) : MT[255 + i]? = MTt_255[i]? := by
  have h := mtd_254 (i + 1)
  rw [show 254 + (i + 1) = 255 + i by omega] at h
  exact h
theorem mtd_256 (i : Nat) : MT[256 + i]? = MTt_256[i]? := by
  have h := mtd_255 (i + 1)
  rw [show 255 + (i + 1) = 256 + i by omega] at h
  exact h
theorem mtd_257 (i : Nat) : MT[257 + i]? = MTt_257[i]? := by
  have h := mtd_256 (i + 1)
  rw [show 256 + (i + 1) = 257 + i by omega] at h
  exact h
theorem mtd_258 (i : Nat) : MT[258 + i]? = MTt_258[i]? := by
  have h := mtd_257 (i + 1)
  rw [show 257 + (i + 1) = 258 + i by omega] at h
  exact h
theorem mtd_259 (i : Nat) : MT[259 + i]? = MTt_259[i]? := by
  have h := mtd_258 (i + 1)
  rw [show 258 + (i + 1) = 259 + i by omega] at h
  exact h
theorem mtd_260 (i : Nat) : MT[260 + i]? = MTt_260[i]? := by
  have h := mtd_259 (i + 1)
  rw [show 259 + (i + 1) = 260 + i by omega] at h
  exact h
theorem mtd_261 (i : Nat) : MT[261 + i]? = MTt_261[i]? := by
  have h := mtd_260 (i + 1)
  rw [show 260 + (i + 1) = 261 + i by omega] at h
  exact h
theorem mtd_262 (i : Nat) : MT[262 + i]? = MTt_262[i]? := by
  have h := mtd_261 (i + 1)
  rw [show 261 + (i + 1) = 262 + i by omega] at h
  exact h
theorem mtd_263 (i : Nat) : MT[263 + i]? = MTt_263[i]? := by
  have h := mtd_262 (i + 1)
  rw [show 262 + (i + 1) = 263 + i by omega] at h
  exact h
theorem mtd_264 (i : Nat) : MT[264 + i]? = MTt_264[i]? := by
  have h := mtd_263 (i + 1)
  rw [show 263 + (i + 1) = 264 + i by omega] at h
  exact h
theorem mtd_265 (i : Nat) : MT[265 + i]? = MTt_265[i]? := by
  have h := mtd_264 (i + 1)
  rw [show 264 + (i + 1) = 265 + i by omega] at h
  exact h
theorem mtd_266 (i : Nat) : MT[266 + i]? = MTt_266[i]? := by
  have h := mtd_265 (i + 1)
  rw [show 265 + (i + 1) = 266 + i by omega] at h
  exact h
theorem mtd_267 (i : Nat) : MT[267 + i]? = MTt_267[i]? := by
  have h := mtd_266 (i + 1)
  rw [show 266 + (i + 1) = 267 + i by omega] at h
  exact h
theorem mtd_268 (i : Nat) : MT[268 + i]? = MTt_268[i]? := by
  have h := mtd_267 (i + 1)
  rw [show 267 + (i + 1) = 268 + i by omega] at h
  exact h
theorem mtd_269 (i : Nat) : MT[269 + i]? = MTt_269[i]? := by
  have h := mtd_268 (i + 1)
  rw [show 268 + (i + 1) = 269 + i by omega] at h
  exact h
theorem mtd_270 (i : Nat) : MT[270 + i]? = MTt_270[i]? := by
  have h := mtd_269 (i + 1)
  rw [show 269 + (i + 1) = 270 + i by omega] at h
  exact h
theorem mtd_271 (i : Nat) : MT[271 + i]? = MTt_271[i]? := by
  have h := mtd_270 (i + 1)
  rw [show 270 + (i + 1) = 271 + i by omega] at h
  exact h
theorem mtd_272 (i : Nat) : MT[272 + i]? = MTt_272[i]? := by
  have h := mtd_271 (i + 1)
  rw [show 271 + (i + 1) = 272 + i by omega] at h
  exact h
theorem mtd_273 (i : Nat) : MT[273 + i]? = MTt_273[i]? := by
  have h := mtd_272 (i + 1)
  rw [show 272 + (i + 1) = 273 + i by omega] at h
  exact h
theorem mtd_274 (i : Nat) : MT[274 + i]? = MTt_274[i]? := by
  have h := mtd_273 (i + 1)
  rw [show 273 + (i + 1) = 274 + i by omega] at h
  exact h
theorem mtd_275 (i : Nat) : MT[275 + i]? = MTt_275[i]? := by
  have h := mtd_274 (i + 1)
  rw [show 274 + (i + 1) = 275 + i by omega] at h
  exact h
theorem mtd_276 (i : Nat) : MT[276 + i]? = MTt_276[i]? := by
  have h := mtd_275 (i + 1)
  rw [show 275 + (i + 1) = 276 + i by omega] at h
  exact h
theorem mtd_277 (i : Nat) : MT[277 + i]? = MTt_277[i]? := by
  have h := mtd_276 (i + 1)
  rw [show 276 + (i + 1) = 277 + i by omega] at h
  exact h
theorem mtd_278 (i : Nat) : MT[278 + i]? = MTt_278[i]? := by
  have h := mtd_277 (i + 1)
  rw [show 277 + (i + 1) = 278 + i by omega] at h
  exact h
theorem mtd_279 (i : Nat) : MT[279 + i]? = MTt_279[i]? := by
  have h := mtd_278 (i + 1)
  rw [show 278 + (i + 1) = 279 + i by omega] at h
  exact h
theorem mtd_280 (i : Nat) : MT[280 + i]? = MTt_280[i]? := by
  have h := mtd_279 (i + 1)
  rw [show 279 + (i + 1) = 280 + i by omega] at h
  exact h
theorem mtd_281 (i : Nat) : MT[281 + i]? = MTt_281[i]? := by
  have h := mtd_280 (i + 1)
  rw [show 280 + (i + 1) = 281 + i by omega] at h
  exact h
theorem mtd_282 (i : Nat) : MT[282 + i]? = MTt_282[i]? := by
  have h := mtd_281 (i + 1)
  rw [show 281 + (i + 1) = 282 + i by omega] at h
  exact h
theorem mtd_283 (i : Nat) : MT[283 + i]? = MTt_283[i]? := by
  have h := mtd_282 (i + 1)
  rw [show 282 + (i + 1) = 283 + i by omega] at h
  exact h
theorem mtd_284 (i : Nat) : MT[284 + i]? = MTt_284[i]? := by
  have h := mtd_283 (i + 1)
  rw [show 283 + (i + 1) = 284 + i by omega] at h
  exact h
theorem mtd_285 (i : Nat) : MT[285 + i]? = MTt_285[i]? := by
  have h := mtd_284 (i + 1)
  rw [show 284 + (i + 1) = 285 + i by omega] at h
  exact h
theorem mtd_286 (i : Nat) : MT[286 + i]? = MTt_286[i]? := by
  have h := mtd_285 (i + 1)
  rw [show 285 + (i + 1) = 286 + i by omega] at h
  exact h
theorem mtd_287 (i : Nat) : MT[287 + i]? = MTt_287[i]? := by
  have h := mtd_286 (i + 1)
  rw [show 286 + (i + 1) = 287 + i by omega] at h
  exact h
theorem mtd_288 (i : Nat) : MT[288 + i]? = MTt_288[i]? := by
  have h := mtd_287 (i + 1)
  rw [show 287 + (i + 1) = 288 + i by omega] at h
  exact h
theorem mtd_289 (i : Nat) : MT[289 + i]? = MTt_289[i]? := by
  have h := mtd_288 (i + 1)
  rw [show 288 + (i + 1) = 289 + i by omega] at h
  exact h
theorem mtd_290 (i : Nat) : MT[290 + i]? = MTt_290[i]? := by
  have h := mtd_289 (i + 1)
  rw [show 289 + (i + 1) = 290 + i by omega] at h
  exact h
theorem mtd_291 (i : Nat) : MT[291 + i]? = MTt_291[i]? := by
  have h := mtd_290 (i + 1)
  rw [show 290 + (i + 1) = 291 + i by omega] at h
  exact h
theorem mtd_292 (i : Nat) : MT[292 + i]? = MTt_292[i]? := by
  have h := mtd_291 (i + 1)
  rw [show 291 + (i + 1) = 292 + i by omega] at h
  exact h
theorem mtd_293 (i : Nat) : MT[293 + i]? = MTt_293[i]? := by
  have h := mtd_292 (i + 1)
  rw [show 292 + (i + 1) = 293 + i by omega] at h
  exact h
theorem mtd_294 (i : Nat) : MT[294 + i]? = MTt_294[i]? := by
  have h := mtd_293 (i + 1)
  rw [show 293 + (i + 1) = 294 + i by omega] at h
  exact h
theorem mtd_295 (i : Nat) : MT[295 + i]? = MTt_295[i]? := by
  have h := mtd_294 (i + 1)
  rw [show 294 + (i + 1) = 295 + i by omega] at h
  exact h
theorem mtd_296 (i : Nat) : MT[296 + i]? = MTt_296[i]? := by
  have h := mtd_295 (i + 1)
  rw [show 295 + (i + 1) = 296 + i by omega] at h
  exact h
theorem mt_X6_copyFrom : MT[0]? = some mX6_copyFrom := mtd_0 0
theorem mt_X1_heatAt : MT[1]? = some mX1_heatAt := mtd_1 0
theorem mt_X1_sunAt : MT[2]? = some mX1_sunAt := mtd_2 0
theorem mt_X1_shadeAt : MT[3]? = some mX1_shadeAt := mtd_3 0
theorem mt_X2_melts : MT[4]? = some mX2_melts := mtd_4 0
theorem mt_X3_melts : MT[5]? = some mX3_melts := mtd_5 0
theorem mt_X7_melts : MT[6]? = some mX7_melts := mtd_6 0
theorem mt_X8_melts : MT[7]? = some mX8_melts := mtd_7 0
theorem mt_X9_melts : MT[8]? = some mX9_melts := mtd_8 0
theorem mt_X10_melts : MT[9]? = some mX10_melts := mtd_9 0
theorem mt_X1_others : MT[10]? = some mX1_others := mtd_10 0
theorem mt_X1_isTurned : MT[11]? = some mX1_isTurned := mtd_11 0
theorem mt_X2_shape : MT[12]? = some mX2_shape := mtd_12 0
theorem mt_X3_shape : MT[13]? = some mX3_shape := mtd_13 0
theorem mt_X7_shape : MT[14]? = some mX7_shape := mtd_14 0
theorem mt_X8_shape : MT[15]? = some mX8_shape := mtd_15 0
theorem mt_X9_shape : MT[16]? = some mX9_shape := mtd_16 0
theorem mt_X10_shape : MT[17]? = some mX10_shape := mtd_17 0
theorem mt_X1_fitsWard : MT[18]? = some mX1_fitsWard := mtd_18 0
theorem mt_X6_tells : MT[19]? = some mX6_tells := mtd_19 0
theorem mt_X11_isOf : MT[20]? = some mX11_isOf := mtd_20 0
theorem mt_X6_holds : MT[21]? = some mX6_holds := mtd_21 0
theorem mt_X6_valueOf : MT[22]? = some mX6_valueOf := mtd_22 0
theorem mt_X6_isSo : MT[23]? = some mX6_isSo := mtd_23 0
theorem mt_X1_pays : MT[24]? = some mX1_pays := mtd_24 0
theorem mt_X1_will : MT[25]? = some mX1_will := mtd_25 0
theorem mt_X1_isKey : MT[26]? = some mX1_isKey := mtd_26 0
theorem mt_X1_setTurned : MT[27]? = some mX1_setTurned := mtd_27 0
theorem mt_X1_melts : MT[28]? = some mX1_melts := mtd_28 0
theorem mt_X1_tell : MT[29]? = some mX1_tell := mtd_29 0
theorem mt_X1_melt : MT[30]? = some mX1_melt := mtd_30 0
theorem mt_X1_isOver : MT[31]? = some mX1_isOver := mtd_31 0
theorem mt_X1_restAct : MT[32]? = some mX1_restAct := mtd_32 0
theorem mt_X1_drawAct : MT[33]? = some mX1_drawAct := mtd_33 0
theorem mt_X1_shape : MT[34]? = some mX1_shape := mtd_34 0
theorem mt_X1_isCloseToSome : MT[35]? = some mX1_isCloseToSome := mtd_35 0
theorem mt_X1_misfitsAt : MT[36]? = some mX1_misfitsAt := mtd_36 0
theorem mt_X11_isIn : MT[37]? = some mX11_isIn := mtd_37 0
theorem mt_X0_ran : MT[38]? = some mX0_ran := mtd_38 0
theorem mt_X2_drips : MT[39]? = some mX2_drips := mtd_39 0
theorem mt_X3_drips : MT[40]? = some mX3_drips := mtd_40 0
theorem mt_X10_drips : MT[41]? = some mX10_drips := mtd_41 0
theorem mt_X3_turns : MT[42]? = some mX3_turns := mtd_42 0
theorem mt_X7_halves : MT[43]? = some mX7_halves := mtd_43 0
theorem mt_X3_halves : MT[44]? = some mX3_halves := mtd_44 0
theorem mt_X0_leave : MT[45]? = some mX0_leave := mtd_45 0
theorem mt_X8_turns : MT[46]? = some mX8_turns := mtd_46 0
theorem mt_X9_turns : MT[47]? = some mX9_turns := mtd_47 0
theorem mt_X9_halves : MT[48]? = some mX9_halves := mtd_48 0
theorem mt_X4_isLast : MT[49]? = some mX4_isLast := mtd_49 0
theorem mt_X1_save : MT[50]? = some mX1_save := mtd_50 0
theorem mt_X1_restore : MT[51]? = some mX1_restore := mtd_51 0
theorem mt_X4_weigh : MT[52]? = some mX4_weigh := mtd_52 0
theorem mt_X5_isLetter : MT[53]? = some mX5_isLetter := mtd_53 0
theorem mt_X5_isNamed : MT[54]? = some mX5_isNamed := mtd_54 0
theorem mt_X5_nextName : MT[55]? = some mX5_nextName := mtd_55 0
theorem mt_X5_isDigit : MT[56]? = some mX5_isDigit := mtd_56 0
theorem mt_X5_nextNumber : MT[57]? = some mX5_nextNumber := mtd_57 0
theorem mt_X5_isMark : MT[58]? = some mX5_isMark := mtd_58 0
theorem mt_X5_endCondition : MT[59]? = some mX5_endCondition := mtd_59 0
theorem mt_X6_addCode : MT[60]? = some mX6_addCode := mtd_60 0
theorem mt_X6_addRule : MT[61]? = some mX6_addRule := mtd_61 0
theorem mt_X5_isValue : MT[62]? = some mX5_isValue := mtd_62 0
theorem mt_X5_value : MT[63]? = some mX5_value := mtd_63 0
theorem mt_X5_endOne : MT[64]? = some mX5_endOne := mtd_64 0
theorem mt_X5_takesDo : MT[65]? = some mX5_takesDo := mtd_65 0
theorem mt_X5_takesKind : MT[66]? = some mX5_takesKind := mtd_66 0
theorem mt_X5_takesIf : MT[67]? = some mX5_takesIf := mtd_67 0
theorem mt_X5_takesOne : MT[68]? = some mX5_takesOne := mtd_68 0
theorem mt_X5_takesSign : MT[69]? = some mX5_takesSign := mtd_69 0
theorem mt_X5_takesRight : MT[70]? = some mX5_takesRight := mtd_70 0
theorem mt_X5_takesJoin : MT[71]? = some mX5_takesJoin := mtd_71 0
theorem mt_X5_takesRuleEnd : MT[72]? = some mX5_takesRuleEnd := mtd_72 0
theorem mt_X5_begin : MT[73]? = some mX5_begin := mtd_73 0
theorem mt_X6_clear : MT[74]? = some mX6_clear := mtd_74 0
theorem mt_X5_next : MT[75]? = some mX5_next := mtd_75 0
theorem mt_X5_takes : MT[76]? = some mX5_takes := mtd_76 0
theorem mt_X1_mayTurn : MT[77]? = some mX1_mayTurn := mtd_77 0
theorem mt_X11_put : MT[78]? = some mX11_put := mtd_78 0
theorem mt_X11_changeTurned : MT[79]? = some mX11_changeTurned := mtd_79 0
theorem mt_X5_read : MT[80]? = some mX5_read := mtd_80 0
theorem mt_X1_goBy : MT[81]? = some mX1_goBy := mtd_81 0
theorem mt_X11_scored : MT[82]? = some mX11_scored := mtd_82 0
theorem mt_X1_goRest : MT[83]? = some mX1_goRest := mtd_83 0
theorem mt_X11_bestValue : MT[84]? = some mX11_bestValue := mtd_84 0
theorem mt_X1_allTeeth : MT[85]? = some mX1_allTeeth := mtd_85 0
theorem mt_X1_bunchOf : MT[86]? = some mX1_bunchOf := mtd_86 0
theorem mt_X11_leastOf : MT[87]? = some mX11_leastOf := mtd_87 0
theorem mt_X11_countBunches : MT[88]? = some mX11_countBunches := mtd_88 0
theorem mt_X11_isPlan : MT[89]? = some mX11_isPlan := mtd_89 0
theorem mt_X4_seek : MT[90]? = some mX4_seek := mtd_90 0
theorem mt_X1_haltsOf : MT[91]? = some mX1_haltsOf := mtd_91 0
theorem mt_X11_isKeySet : MT[92]? = some mX11_isKeySet := mtd_92 0
theorem mt_X4_fewest : MT[93]? = some mX4_fewest := mtd_93 0
theorem mt_X4_reach : MT[94]? = some mX4_reach := mtd_94 0
theorem mt_X4_duel : MT[95]? = some mX4_duel := mtd_95 0
theorem mt_X11_loneKind : MT[96]? = some mX11_loneKind := mtd_96 0
theorem mt_X11_loneStraw : MT[97]? = some mX11_loneStraw := mtd_97 0
theorem mt_X11_loneTeeth : MT[98]? = some mX11_loneTeeth := mtd_98 0
theorem mt_X1_misfits : MT[99]? = some mX1_misfits := mtd_99 0
theorem mt_X1_goLots : MT[100]? = some mX1_goLots := mtd_100 0
theorem mt_X1_isAct : MT[101]? = some mX1_isAct := mtd_101 0
theorem mt_X11_isRowRight : MT[102]? = some mX11_isRowRight := mtd_102 0
theorem mt_X11_isPlace : MT[103]? = some mX11_isPlace := mtd_103 0
theorem mt_X11_refusalOf : MT[104]? = some mX11_refusalOf := mtd_104 0
theorem mt_X11_isItem : MT[105]? = some mX11_isItem := mtd_105 0
theorem mt_X11_goItems : MT[106]? = some mX11_goItems := mtd_106 0
theorem mt_X11_holdsKey : MT[107]? = some mX11_holdsKey := mtd_107 0
theorem mt_X0_begin : MT[108]? = some mX0_begin := mtd_108 0
theorem mt_X3_fits : MT[109]? = some mX3_fits := mtd_109 0
theorem mt_X10_fits : MT[110]? = some mX10_fits := mtd_110 0
theorem mt_X1_copyFrom : MT[111]? = some mX1_copyFrom := mtd_111 0
theorem mt_X12_get : MT[112]? = some mX12_get := mtd_112 0
theorem mt_X12_ruleOf : MT[113]? = some mX12_ruleOf := mtd_113 0
theorem mt_X12_isUnder : MT[114]? = some mX12_isUnder := mtd_114 0
theorem mt_X12_above : MT[115]? = some mX12_above := mtd_115 0
theorem mt_X12_holdsFor : MT[116]? = some mX12_holdsFor := mtd_116 0
theorem mt_X12_knownOf : MT[117]? = some mX12_knownOf := mtd_117 0
theorem mt_X12_sunNow : MT[118]? = some mX12_sunNow := mtd_118 0
theorem mt_X12_joined : MT[119]? = some mX12_joined := mtd_119 0
theorem mt_X12_willOf : MT[120]? = some mX12_willOf := mtd_120 0
theorem mt_X12_paysOf : MT[121]? = some mX12_paysOf := mtd_121 0
theorem mt_X12_doesFit : MT[122]? = some mX12_doesFit := mtd_122 0
theorem mt_X12_shapeOf : MT[123]? = some mX12_shapeOf := mtd_123 0
theorem mt_X12_shapeBy : MT[124]? = some mX12_shapeBy := mtd_124 0
theorem mt_X12_apart : MT[125]? = some mX12_apart := mtd_125 0
theorem mt_X12_byteAt : MT[126]? = some mX12_byteAt := mtd_126 0
theorem mt_X12_in1 : MT[127]? = some mX12_in1 := mtd_127 0
theorem mt_X12_readsName : MT[128]? = some mX12_readsName := mtd_128 0
theorem mt_X12_isNameOf : MT[129]? = some mX12_isNameOf := mtd_129 0
theorem mt_X12_readsNumber : MT[130]? = some mX12_readsNumber := mtd_130 0
theorem mt_X12_next : MT[131]? = some mX12_next := mtd_131 0
theorem mt_X12_lays : MT[132]? = some mX12_lays := mtd_132 0
theorem mt_X12_readsValue : MT[133]? = some mX12_readsValue := mtd_133 0
theorem mt_X12_takes : MT[134]? = some mX12_takes := mtd_134 0
theorem mt_X12_readsCondition : MT[135]? = some mX12_readsCondition := mtd_135 0
theorem mt_X12_readsOne : MT[136]? = some mX12_readsOne := mtd_136 0
theorem mt_X12_readsLike : MT[137]? = some mX12_readsLike := mtd_137 0
theorem mt_X12_readsWithin : MT[138]? = some mX12_readsWithin := mtd_138 0
theorem mt_X12_readsAll : MT[139]? = some mX12_readsAll := mtd_139 0
theorem mt_X12_readsRule : MT[140]? = some mX12_readsRule := mtd_140 0
theorem mt_X12_puts : MT[141]? = some mX12_puts := mtd_141 0
theorem mt_X12_turnsNow : MT[142]? = some mX12_turnsNow := mtd_142 0
theorem mt_X12_held : MT[143]? = some mX12_held := mtd_143 0
theorem mt_X12_mayTurn : MT[144]? = some mX12_mayTurn := mtd_144 0
theorem mt_X12_restOne : MT[145]? = some mX12_restOne := mtd_145 0
theorem mt_X12_meets : MT[146]? = some mX12_meets := mtd_146 0
theorem mt_X12_meltsOf : MT[147]? = some mX12_meltsOf := mtd_147 0
theorem mt_X12_meltsBy : MT[148]? = some mX12_meltsBy := mtd_148 0
theorem mt_X12_isKey : MT[149]? = some mX12_isKey := mtd_149 0
theorem mt_X12_isOver : MT[150]? = some mX12_isOver := mtd_150 0
theorem mt_X12_goesBy : MT[151]? = some mX12_goesBy := mtd_151 0
theorem mt_X12_layDown : MT[152]? = some mX12_layDown := mtd_152 0
theorem mt_X12_restOf : MT[153]? = some mX12_restOf := mtd_153 0
theorem mt_X12_layBack : MT[154]? = some mX12_layBack := mtd_154 0
theorem mt_X12_bestFor : MT[155]? = some mX12_bestFor := mtd_155 0
theorem mt_X12_teethAll : MT[156]? = some mX12_teethAll := mtd_156 0
theorem mt_X12_those : MT[157]? = some mX12_those := mtd_157 0
theorem mt_X12_bunchOf : MT[158]? = some mX12_bunchOf := mtd_158 0
theorem mt_X12_areClose : MT[159]? = some mX12_areClose := mtd_159 0
theorem mt_X12_endsPlan : MT[160]? = some mX12_endsPlan := mtd_160 0
theorem mt_X12_saves : MT[161]? = some mX12_saves := mtd_161 0
theorem mt_X12_restores : MT[162]? = some mX12_restores := mtd_162 0
theorem mt_X12_daysOf : MT[163]? = some mX12_daysOf := mtd_163 0
theorem mt_X12_goesPlans : MT[164]? = some mX12_goesPlans := mtd_164 0
theorem mt_X12_isPlan : MT[165]? = some mX12_isPlan := mtd_165 0
theorem mt_X12_triesAll : MT[166]? = some mX12_triesAll := mtd_166 0
theorem mt_X12_isSet : MT[167]? = some mX12_isSet := mtd_167 0
theorem mt_X12_playedFrom : MT[168]? = some mX12_playedFrom := mtd_168 0
theorem mt_X12_tellsLone : MT[169]? = some mX12_tellsLone := mtd_169 0
theorem mt_X12_isSo : MT[170]? = some mX12_isSo := mtd_170 0
theorem mt_X12_fitting : MT[171]? = some mX12_fitting := mtd_171 0
theorem mt_X12_byLot : MT[172]? = some mX12_byLot := mtd_172 0
theorem mt_X12_isAct : MT[173]? = some mX12_isAct := mtd_173 0
theorem mt_X12_isSheet : MT[174]? = some mX12_isSheet := mtd_174 0
theorem mt_X12_lacks : MT[175]? = some mX12_lacks := mtd_175 0
theorem mt_X12_isItem : MT[176]? = some mX12_isItem := mtd_176 0
theorem mt_X12_heldOn : MT[177]? = some mX12_heldOn := mtd_177 0
theorem mt_X12_starts : MT[178]? = some mX12_starts := mtd_178 0
theorem mt_X12_turnsAs : MT[179]? = some mX12_turnsAs := mtd_179 0
theorem mt_X12_dripsAs : MT[180]? = some mX12_dripsAs := mtd_180 0
theorem mt_X12_halvesAs : MT[181]? = some mX12_halvesAs := mtd_181 0
theorem mt_X12_fitsAs : MT[182]? = some mX12_fitsAs := mtd_182 0
theorem mt_X11_key : MT[183]? = some mX11_key := mtd_183 0
theorem mt_X11_isKeyKind : MT[184]? = some mX11_isKeyKind := mtd_184 0
theorem mt_X11_isGate : MT[185]? = some mX11_isGate := mtd_185 0
theorem mt_X12_key : MT[186]? = some mX12_key := mtd_186 0
theorem mt_X12_isDigit : MT[187]? = some mX12_isDigit := mtd_187 0
theorem mt_X12_isGate : MT[188]? = some mX12_isGate := mtd_188 0
theorem mt_X11_keyOf : MT[189]? = some mX11_keyOf := mtd_189 0
theorem mt_X12_keyOf : MT[190]? = some mX12_keyOf := mtd_190 0
theorem mt_X11_change : MT[191]? = some mX11_change := mtd_191 0
theorem mt_X12_change : MT[192]? = some mX12_change := mtd_192 0
theorem mt_X12_becomes : MT[193]? = some mX12_becomes := mtd_193 0
theorem mt_X11_remake : MT[194]? = some mX11_remake := mtd_194 0
theorem mt_X12_remake : MT[195]? = some mX12_remake := mtd_195 0
theorem mt_X11_sun : MT[196]? = some mX11_sun := mtd_196 0
theorem mt_X12_sun : MT[197]? = some mX12_sun := mtd_197 0
theorem mt_X11_gate : MT[198]? = some mX11_gate := mtd_198 0
theorem mt_X12_gate : MT[199]? = some mX12_gate := mtd_199 0
theorem mt_X11_gateOf : MT[200]? = some mX11_gateOf := mtd_200 0
theorem mt_X12_gateOf : MT[201]? = some mX12_gateOf := mtd_201 0
theorem mt_X11_ends : MT[202]? = some mX11_ends := mtd_202 0
theorem mt_X12_ends : MT[203]? = some mX12_ends := mtd_203 0
theorem mt_X11_anew : MT[204]? = some mX11_anew := mtd_204 0
theorem mt_X12_anew : MT[205]? = some mX12_anew := mtd_205 0
theorem mt_X11_state : MT[206]? = some mX11_state := mtd_206 0
theorem mt_X12_state : MT[207]? = some mX12_state := mtd_207 0
theorem mt_X11_feed : MT[208]? = some mX11_feed := mtd_208 0
theorem mt_X5_add : MT[209]? = some mX5_add := mtd_209 0
theorem mt_X12_feed : MT[210]? = some mX12_feed := mtd_210 0
theorem mt_X11_rules : MT[211]? = some mX11_rules := mtd_211 0
theorem mt_X12_rules : MT[212]? = some mX12_rules := mtd_212 0
theorem mt_X11_halt : MT[213]? = some mX11_halt := mtd_213 0
theorem mt_X12_halt : MT[214]? = some mX12_halt := mtd_214 0
theorem mt_X11_on : MT[215]? = some mX11_on := mtd_215 0
theorem mt_X12_on : MT[216]? = some mX12_on := mtd_216 0
theorem mt_X11_when : MT[217]? = some mX11_when := mtd_217 0
theorem mt_X12_when : MT[218]? = some mX12_when := mtd_218 0
theorem mt_X11_strawFor : MT[219]? = some mX11_strawFor := mtd_219 0
theorem mt_X12_strawFor : MT[220]? = some mX12_strawFor := mtd_220 0
theorem mt_X11_gateFor : MT[221]? = some mX11_gateFor := mtd_221 0
theorem mt_X12_gateFor : MT[222]? = some mX12_gateFor := mtd_222 0
theorem mt_X11_gone : MT[223]? = some mX11_gone := mtd_223 0
theorem mt_X12_gone : MT[224]? = some mX12_gone := mtd_224 0
theorem mt_X11_opens : MT[225]? = some mX11_opens := mtd_225 0
theorem mt_X12_opens : MT[226]? = some mX12_opens := mtd_226 0
theorem mt_X11_left : MT[227]? = some mX11_left := mtd_227 0
theorem mt_X12_left : MT[228]? = some mX12_left := mtd_228 0
theorem mt_X11_bunches : MT[229]? = some mX11_bunches := mtd_229 0
theorem mt_X12_bunches : MT[230]? = some mX12_bunches := mtd_230 0
theorem mt_X11_best : MT[231]? = some mX11_best := mtd_231 0
theorem mt_X12_best : MT[232]? = some mX12_best := mtd_232 0
theorem mt_X11_ith : MT[233]? = some mX11_ith := mtd_233 0
theorem mt_X12_ith : MT[234]? = some mX12_ith := mtd_234 0
theorem mt_X11_ways : MT[235]? = some mX11_ways := mtd_235 0
theorem mt_X12_ways : MT[236]? = some mX12_ways := mtd_236 0
theorem mt_X11_order : MT[237]? = some mX11_order := mtd_237 0
theorem mt_X12_order : MT[238]? = some mX12_order := mtd_238 0
theorem mt_X11_bars : MT[239]? = some mX11_bars := mtd_239 0
theorem mt_X12_bars : MT[240]? = some mX12_bars := mtd_240 0
theorem mt_X11_game : MT[241]? = some mX11_game := mtd_241 0
theorem mt_X12_game : MT[242]? = some mX12_game := mtd_242 0
theorem mt_X11_play : MT[243]? = some mX11_play := mtd_243 0
theorem mt_X12_play : MT[244]? = some mX12_play := mtd_244 0
theorem mt_X11_report : MT[245]? = some mX11_report := mtd_245 0
theorem mt_X12_report : MT[246]? = some mX12_report := mtd_246 0
theorem mt_X11_forget : MT[247]? = some mX11_forget := mtd_247 0
theorem mt_X12_forget : MT[248]? = some mX12_forget := mtd_248 0
theorem mt_X11_lone : MT[249]? = some mX11_lone := mtd_249 0
theorem mt_X12_lone : MT[250]? = some mX12_lone := mtd_250 0
theorem mt_X11_liar : MT[251]? = some mX11_liar := mtd_251 0
theorem mt_X12_liar : MT[252]? = some mX12_liar := mtd_252 0
theorem mt_X11_seed : MT[253]? = some mX11_seed := mtd_253 0
theorem mt_X12_seed : MT[254]? = some mX12_seed := mtd_254 0
theorem mt_X11_lot : MT[255]? = some mX11_lot := mtd_255 0
theorem mt_X12_lot : MT[256]? = some mX12_lot := mtd_256 0
theorem mt_X11_times : MT[257]? = some mX11_times := mtd_257 0
theorem mt_X12_times : MT[258]? = some mX12_times := mtd_258 0
theorem mt_X11_prove : MT[259]? = some mX11_prove := mtd_259 0
theorem mt_X12_prove : MT[260]? = some mX12_prove := mtd_260 0
theorem mt_X11_row : MT[261]? = some mX11_row := mtd_261 0
theorem mt_X11_isRowField : MT[262]? = some mX11_isRowField := mtd_262 0
theorem mt_X12_row : MT[263]? = some mX12_row := mtd_263 0
theorem mt_X12_isRow : MT[264]? = some mX12_isRow := mtd_264 0
theorem mt_X11_alterRow : MT[265]? = some mX11_alterRow := mtd_265 0
theorem mt_X12_alterRow : MT[266]? = some mX12_alterRow := mtd_266 0
theorem mt_X11_judge : MT[267]? = some mX11_judge := mtd_267 0
theorem mt_X12_judge : MT[268]? = some mX12_judge := mtd_268 0
theorem mt_X11_sheet : MT[269]? = some mX11_sheet := mtd_269 0
theorem mt_X12_sheet : MT[270]? = some mX12_sheet := mtd_270 0
theorem mt_X11_write : MT[271]? = some mX11_write := mtd_271 0
theorem mt_X11_narrowed : MT[272]? = some mX11_narrowed := mtd_272 0
theorem mt_X12_write : MT[273]? = some mX12_write := mtd_273 0
theorem mt_X12_narrowed : MT[274]? = some mX12_narrowed := mtd_274 0
theorem mt_X11_item : MT[275]? = some mX11_item := mtd_275 0
theorem mt_X12_item : MT[276]? = some mX12_item := mtd_276 0
theorem mt_X11_goAll : MT[277]? = some mX11_goAll := mtd_277 0
theorem mt_X12_goAll : MT[278]? = some mX12_goAll := mtd_278 0
theorem mt_X11_wouldBe : MT[279]? = some mX11_wouldBe := mtd_279 0
theorem mt_X12_wouldBe : MT[280]? = some mX12_wouldBe := mtd_280 0
theorem mt_X11_shelf : MT[281]? = some mX11_shelf := mtd_281 0
theorem mt_X12_shelf : MT[282]? = some mX12_shelf := mtd_282 0
theorem mt_X11_taken : MT[283]? = some mX11_taken := mtd_283 0
theorem mt_X12_taken : MT[284]? = some mX12_taken := mtd_284 0
theorem mt_X11_act : MT[285]? = some mX11_act := mtd_285 0
theorem mt_X12_act : MT[286]? = some mX12_act := mtd_286 0
theorem mt_X11_trace : MT[287]? = some mX11_trace := mtd_287 0
theorem mt_X12_trace : MT[288]? = some mX12_trace := mtd_288 0
theorem mt_X11_many : MT[289]? = some mX11_many := mtd_289 0
theorem mt_X12_many : MT[290]? = some mX12_many := mtd_290 0
theorem mt_X12_ones : MT[291]? = some mX12_ones := mtd_291 0
theorem mt_X11_keep : MT[292]? = some mX11_keep := mtd_292 0
theorem mt_X12_keep : MT[293]? = some mX12_keep := mtd_293 0
theorem mt_X11_again : MT[294]? = some mX11_again := mtd_294 0
theorem mt_X12_again : MT[295]? = some mX12_again := mtd_295 0
theorem mt_J6_bitCount_0f7a4 : MT[296]? = some mJ6_bitCount_0f7a4 := mtd_296 0
theorem lq_RX0_9 : Cond.fieldLink RX0 9 (TX0 4).1 (TX0 4).2.1 (TX0 4).2.2.1 ∈ gBIG := gm_of (gs2 _ (List.mem_of_getElem? (l := tables_1_2) (i := 40) rfl)) rfl
theorem lq_RX0_15 : Cond.fieldLink RX0 15 (TX0 0).1 (TX0 0).2.1 (TX0 0).2.2.1 ∈ gBIG := gm_of (gs2 _ (List.mem_of_getElem? (l := tables_1_2) (i := 30) rfl)) rfl
theorem lq_RX0_19 : Cond.fieldLink RX0 19 (TX0 1).1 (TX0 1).2.1 (TX0 1).2.2.1 ∈ gBIG := gm_of (gs2 _ (List.mem_of_getElem? (l := tables_1_2) (i := 33) rfl)) rfl
theorem lq_RX0_22 : Cond.fieldLink RX0 22 (TX0 2).1 (TX0 2).2.1 (TX0 2).2.2.1 ∈ gBIG := gm_of (gs2 _ (List.mem_of_getElem? (l := tables_1_2) (i := 36) rfl)) rfl
theorem lq_RX0_26 : Cond.fieldLink RX0 26 (TX0 3).1 (TX0 3).2.1 (TX0 3).2.2.1 ∈ gBIG := gm_of (gs2 _ (List.mem_of_getElem? (l := tables_1_2) (i := 38) rfl)) rfl
theorem lq_RX1_9 : Cond.fieldLink RX1 9 (TX1 2).1 (TX1 2).2.1 (TX1 2).2.2.1 ∈ gBIG := gm_of (gs1 _ (List.mem_of_getElem? (l := tables_1_1) (i := 112) rfl)) rfl
theorem lq_RX1_15 : Cond.fieldLink RX1 15 (TX1 4).1 (TX1 4).2.1 (TX1 4).2.2.1 ∈ gBIG := gm_of (gs1 _ (List.mem_of_getElem? (l := tables_1_1) (i := 116) rfl)) rfl
theorem lq_RX1_18 : Cond.fieldLink RX1 18 (TX1 5).1 (TX1 5).2.1 (TX1 5).2.2.1 ∈ gBIG := gm_of (gs1 _ (List.mem_of_getElem? (l := tables_1_1) (i := 118) rfl)) rfl
theorem lq_RX1_22 : Cond.fieldLink RX1 22 (TX1 6).1 (TX1 6).2.1 (TX1 6).2.2.1 ∈ gBIG := gm_of (gs1 _ (List.mem_of_getElem? (l := tables_1_1) (i := 120) rfl)) rfl
theorem lq_RX1_25 : Cond.fieldLink RX1 25 (TX1 7).1 (TX1 7).2.1 (TX1 7).2.2.1 ∈ gBIG := gm_of (gs1 _ (List.mem_of_getElem? (l := tables_1_1) (i := 122) rfl)) rfl
theorem lq_RX1_28 : Cond.fieldLink RX1 28 (TX1 10).1 (TX1 10).2.1 (TX1 10).2.2.1 ∈ gBIG := gm_of (gs1 _ (List.mem_of_getElem? (l := tables_1_1) (i := 130) rfl)) rfl
theorem lq_RX1_31 : Cond.fieldLink RX1 31 (TX1 11).1 (TX1 11).2.1 (TX1 11).2.2.1 ∈ gBIG := gm_of (gs1 _ (List.mem_of_getElem? (l := tables_1_1) (i := 132) rfl)) rfl
theorem lq_RX1_34 : Cond.fieldLink RX1 34 (TX1 12).1 (TX1 12).2.1 (TX1 12).2.2.1 ∈ gBIG := gm_of (gs1 _ (List.mem_of_getElem? (l := tables_1_1) (i := 134) rfl)) rfl
theorem lq_RX1_37 : Cond.fieldLink RX1 37 (TX1 13).1 (TX1 13).2.1 (TX1 13).2.2.1 ∈ gBIG := gm_of (gs1 _ (List.mem_of_getElem? (l := tables_1_1) (i := 136) rfl)) rfl
theorem lq_RX1_43 : Cond.fieldLink RX1 43 (TX1 14).1 (TX1 14).2.1 (TX1 14).2.2.1 ∈ gBIG := gm_of (gs1 _ (List.mem_of_getElem? (l := tables_1_1) (i := 138) rfl)) rfl
theorem lq_RX1_47 : Cond.fieldLink RX1 47 (TX1 15).1 (TX1 15).2.1 (TX1 15).2.2.1 ∈ gBIG := gm_of (gs1 _ (List.mem_of_getElem? (l := tables_1_1) (i := 140) rfl)) rfl
theorem lq_RX1_50 : Cond.fieldLink RX1 50 (TX1 17).1 (TX1 17).2.1 (TX1 17).2.2.1 ∈ gBIG := gm_of (gs1 _ (List.mem_of_getElem? (l := tables_1_1) (i := 144) rfl)) rfl
theorem lq_RX1_53 : Cond.fieldLink RX1 53 (TX1 18).1 (TX1 18).2.1 (TX1 18).2.2.1 ∈ gBIG := gm_of (gs1 _ (List.mem_of_getElem? (l := tables_1_1) (i := 145) rfl)) rfl
theorem lq_RX1_56 : Cond.fieldLink RX1 56 (TX1 0).1 (TX1 0).2.1 (TX1 0).2.2.1 ∈ gBIG := gm_of (gs1 _ (List.mem_of_getElem? (l := tables_1_1) (i := 108) rfl)) rfl
theorem lq_RX1_60 : Cond.fieldLink RX1 60 (TX1 1).1 (TX1 1).2.1 (TX1 1).2.2.1 ∈ gBIG := gm_of (gs1 _ (List.mem_of_getElem? (l := tables_1_1) (i := 110) rfl)) rfl
theorem lq_RX1_63 : Cond.fieldLink RX1 63 (TX1 3).1 (TX1 3).2.1 (TX1 3).2.2.1 ∈ gBIG := gm_of (gs1 _ (List.mem_of_getElem? (l := tables_1_1) (i := 114) rfl)) rfl
theorem lq_RX1_72 : Cond.fieldLink RX1 72 (TX1 8).1 (TX1 8).2.1 (TX1 8).2.2.1 ∈ gBIG := gm_of (gs1 _ (List.mem_of_getElem? (l := tables_1_1) (i := 125) rfl)) rfl
theorem lq_RX1_75 : Cond.fieldLink RX1 75 (TX1 9).1 (TX1 9).2.1 (TX1 9).2.2.1 ∈ gBIG := gm_of (gs1 _ (List.mem_of_getElem? (l := tables_1_1) (i := 127) rfl)) rfl
theorem lq_RX1_82 : Cond.fieldLink RX1 82 (TX1 16).1 (TX1 16).2.1 (TX1 16).2.2.1 ∈ gBIG := gm_of (gs1 _ (List.mem_of_getElem? (l := tables_1_1) (i := 142) rfl)) rfl
theorem lq_RX10_33 : Cond.fieldLink RX10 33 (TX0 1).1 (TX0 1).2.1 (TX0 1).2.2.1 ∈ gBIG := gm_of (gs2 _ (List.mem_of_getElem? (l := tables_1_2) (i := 35) rfl)) rfl
theorem lq_RX11_9 : Cond.fieldLink RX11 9 (TX11 6).1 (TX11 6).2.1 (TX11 6).2.2.1 ∈ gBIG := gm_of (gs2 _ (List.mem_of_getElem? (l := tables_1_2) (i := 59) rfl)) rfl
theorem lq_RX11_13 : Cond.fieldLink RX11 13 (TX11 8).1 (TX11 8).2.1 (TX11 8).2.2.1 ∈ gBIG := gm_of (gs2 _ (List.mem_of_getElem? (l := tables_1_2) (i := 61) rfl)) rfl
theorem lq_RX11_16 : Cond.fieldLink RX11 16 (TX11 9).1 (TX11 9).2.1 (TX11 9).2.2.1 ∈ gBIG := gm_of (gs2 _ (List.mem_of_getElem? (l := tables_1_2) (i := 62) rfl)) rfl
theorem lq_RX11_21 : Cond.fieldLink RX11 21 (TX11 10).1 (TX11 10).2.1 (TX11 10).2.2.1 ∈ gBIG := gm_of (gs2 _ (List.mem_of_getElem? (l := tables_1_2) (i := 63) rfl)) rfl
theorem lq_RX11_24 : Cond.fieldLink RX11 24 (TX11 11).1 (TX11 11).2.1 (TX11 11).2.2.1 ∈ gBIG := gm_of (gs2 _ (List.mem_of_getElem? (l := tables_1_2) (i := 64) rfl)) rfl
theorem lq_RX11_27 : Cond.fieldLink RX11 27 (TX11 12).1 (TX11 12).2.1 (TX11 12).2.2.1 ∈ gBIG := gm_of (gs2 _ (List.mem_of_getElem? (l := tables_1_2) (i := 65) rfl)) rfl
theorem lq_RX11_30 : Cond.fieldLink RX11 30 (TX11 13).1 (TX11 13).2.1 (TX11 13).2.2.1 ∈ gBIG := gm_of (gs2 _ (List.mem_of_getElem? (l := tables_1_2) (i := 66) rfl)) rfl
theorem lq_RX11_56 : Cond.fieldLink RX11 56 (TX11 0).1 (TX11 0).2.1 (TX11 0).2.2.1 ∈ gBIG := gm_of (gs2 _ (List.mem_of_getElem? (l := tables_1_2) (i := 53) rfl)) rfl
theorem lq_RX11_60 : Cond.fieldLink RX11 60 (TX11 1).1 (TX11 1).2.1 (TX11 1).2.2.1 ∈ gBIG := gm_of (gs2 _ (List.mem_of_getElem? (l := tables_1_2) (i := 54) rfl)) rfl
theorem lq_RX11_68 : Cond.fieldLink RX11 68 (TX11 3).1 (TX11 3).2.1 (TX11 3).2.2.1 ∈ gBIG := gm_of (gs2 _ (List.mem_of_getElem? (l := tables_1_2) (i := 56) rfl)) rfl
theorem lq_RX11_75 : Cond.fieldLink RX11 75 (TX11 4).1 (TX11 4).2.1 (TX11 4).2.2.1 ∈ gBIG := gm_of (gs2 _ (List.mem_of_getElem? (l := tables_1_2) (i := 57) rfl)) rfl
theorem lq_RX11_82 : Cond.fieldLink RX11 82 (TX11 5).1 (TX11 5).2.1 (TX11 5).2.2.1 ∈ gBIG := gm_of (gs2 _ (List.mem_of_getElem? (l := tables_1_2) (i := 58) rfl)) rfl
theorem lq_RX11_97 : Cond.fieldLink RX11 97 (TX1 8).1 (TX1 8).2.1 (TX1 8).2.2.1 ∈ gBIG := gm_of (gs1 _ (List.mem_of_getElem? (l := tables_1_1) (i := 124) rfl)) rfl
theorem lq_RX11_101 : Cond.fieldLink RX11 101 (TX1 10).1 (TX1 10).2.1 (TX1 10).2.2.1 ∈ gBIG := gm_of (gs1 _ (List.mem_of_getElem? (l := tables_1_1) (i := 131) rfl)) rfl
theorem lq_RX11_104 : Cond.fieldLink RX11 104 (TX1 11).1 (TX1 11).2.1 (TX1 11).2.2.1 ∈ gBIG := gm_of (gs1 _ (List.mem_of_getElem? (l := tables_1_1) (i := 133) rfl)) rfl
theorem lq_RX11_107 : Cond.fieldLink RX11 107 (TX1 12).1 (TX1 12).2.1 (TX1 12).2.2.1 ∈ gBIG := gm_of (gs1 _ (List.mem_of_getElem? (l := tables_1_1) (i := 135) rfl)) rfl
theorem lq_RX11_110 : Cond.fieldLink RX11 110 (TX1 13).1 (TX1 13).2.1 (TX1 13).2.2.1 ∈ gBIG := gm_of (gs1 _ (List.mem_of_getElem? (l := tables_1_1) (i := 137) rfl)) rfl
theorem lq_RX11_147 : Cond.fieldLink RX11 147 (TX1 5).1 (TX1 5).2.1 (TX1 5).2.2.1 ∈ gBIG := gm_of (gs1 _ (List.mem_of_getElem? (l := tables_1_1) (i := 119) rfl)) rfl
theorem lq_RX11_150 : Cond.fieldLink RX11 150 (TX1 6).1 (TX1 6).2.1 (TX1 6).2.2.1 ∈ gBIG := gm_of (gs1 _ (List.mem_of_getElem? (l := tables_1_1) (i := 121) rfl)) rfl
theorem lq_RX11_153 : Cond.fieldLink RX11 153 (TX1 7).1 (TX1 7).2.1 (TX1 7).2.2.1 ∈ gBIG := gm_of (gs1 _ (List.mem_of_getElem? (l := tables_1_1) (i := 123) rfl)) rfl
theorem lq_RX11_156 : Cond.fieldLink RX11 156 (TX1 1).1 (TX1 1).2.1 (TX1 1).2.2.1 ∈ gBIG := gm_of (gs1 _ (List.mem_of_getElem? (l := tables_1_1) (i := 111) rfl)) rfl
theorem lq_RX11_159 : Cond.fieldLink RX11 159 (TX1 2).1 (TX1 2).2.1 (TX1 2).2.2.1 ∈ gBIG := gm_of (gs1 _ (List.mem_of_getElem? (l := tables_1_1) (i := 113) rfl)) rfl
theorem lq_RX11_162 : Cond.fieldLink RX11 162 (TX1 3).1 (TX1 3).2.1 (TX1 3).2.2.1 ∈ gBIG := gm_of (gs1 _ (List.mem_of_getElem? (l := tables_1_1) (i := 115) rfl)) rfl
theorem lq_RX11_165 : Cond.fieldLink RX11 165 (TX1 9).1 (TX1 9).2.1 (TX1 9).2.2.1 ∈ gBIG := gm_of (gs1 _ (List.mem_of_getElem? (l := tables_1_1) (i := 129) rfl)) rfl
theorem lq_RX11_179 : Cond.fieldLink RX11 179 (TX5 1).1 (TX5 1).2.1 (TX5 1).2.2.1 ∈ gBIG := gm_of (gs1 _ (List.mem_of_getElem? (l := tables_1_1) (i := 217) rfl)) rfl
theorem lq_RX11_189 : Cond.fieldLink RX11 189 (TX1 14).1 (TX1 14).2.1 (TX1 14).2.2.1 ∈ gBIG := gm_of (gs1 _ (List.mem_of_getElem? (l := tables_1_1) (i := 139) rfl)) rfl
theorem lq_RX11_193 : Cond.fieldLink RX11 193 (TX5 2).1 (TX5 2).2.1 (TX5 2).2.2.1 ∈ gBIG := gm_of (gs1 _ (List.mem_of_getElem? (l := tables_1_1) (i := 219) rfl)) rfl
theorem lq_RX11_202 : Cond.fieldLink RX11 202 (TX6 0).1 (TX6 0).2.1 (TX6 0).2.2.1 ∈ gBIG := gm_of (gs1 _ (List.mem_of_getElem? (l := tables_1_1) (i := 89) rfl)) rfl
theorem lq_RX11_245 : Cond.fieldLink RX11 245 (TX4 1).1 (TX4 1).2.1 (TX4 1).2.2.1 ∈ gBIG := gm_of (gs1 _ (List.mem_of_getElem? (l := tables_1_1) (i := 193) rfl)) rfl
theorem lq_RX11_251 : Cond.fieldLink RX11 251 (TX4 3).1 (TX4 3).2.1 (TX4 3).2.2.1 ∈ gBIG := gm_of (gs1 _ (List.mem_of_getElem? (l := tables_1_1) (i := 197) rfl)) rfl
theorem lq_RX11_254 : Cond.fieldLink RX11 254 (TX4 2).1 (TX4 2).2.1 (TX4 2).2.2.1 ∈ gBIG := gm_of (gs1 _ (List.mem_of_getElem? (l := tables_1_1) (i := 195) rfl)) rfl
theorem lq_RX11_270 : Cond.fieldLink RX11 270 (TX1 16).1 (TX1 16).2.1 (TX1 16).2.2.1 ∈ gBIG := gm_of (gs1 _ (List.mem_of_getElem? (l := tables_1_1) (i := 143) rfl)) rfl
theorem lq_RX11_273 : Cond.fieldLink RX11 273 (TX1 15).1 (TX1 15).2.1 (TX1 15).2.2.1 ∈ gBIG := gm_of (gs1 _ (List.mem_of_getElem? (l := tables_1_1) (i := 141) rfl)) rfl
theorem lq_RX11_298 : Cond.fieldLink RX11 298 (TX1 4).1 (TX1 4).2.1 (TX1 4).2.2.1 ∈ gBIG := gm_of (gs1 _ (List.mem_of_getElem? (l := tables_1_1) (i := 117) rfl)) rfl
theorem lq_RX11_307 : Cond.fieldLink RX11 307 (TX11 7).1 (TX11 7).2.1 (TX11 7).2.2.1 ∈ gBIG := gm_of (gs2 _ (List.mem_of_getElem? (l := tables_1_2) (i := 60) rfl)) rfl
theorem lq_RX11_340 : Cond.fieldLink RX11 340 (TX0 3).1 (TX0 3).2.1 (TX0 3).2.2.1 ∈ gBIG := gm_of (gs2 _ (List.mem_of_getElem? (l := tables_1_2) (i := 39) rfl)) rfl
theorem lq_RX11_341 : Cond.fieldLink RX11 341 (TX1 0).1 (TX1 0).2.1 (TX1 0).2.2.1 ∈ gBIG := gm_of (gs1 _ (List.mem_of_getElem? (l := tables_1_1) (i := 109) rfl)) rfl
theorem lq_RX11_361 : Cond.fieldLink RX11 361 (TX0 2).1 (TX0 2).2.1 (TX0 2).2.2.1 ∈ gBIG := gm_of (gs2 _ (List.mem_of_getElem? (l := tables_1_2) (i := 37) rfl)) rfl
theorem lq_RX11_365 : Cond.fieldLink RX11 365 (TX0 4).1 (TX0 4).2.1 (TX0 4).2.2.1 ∈ gBIG := gm_of (gs2 _ (List.mem_of_getElem? (l := tables_1_2) (i := 41) rfl)) rfl
theorem lq_RX11_370 : Cond.fieldLink RX11 370 (TX11 2).1 (TX11 2).2.1 (TX11 2).2.2.1 ∈ gBIG := gm_of (gs2 _ (List.mem_of_getElem? (l := tables_1_2) (i := 55) rfl)) rfl
theorem lq_RX12_9 : Cond.fieldLink RX12 9 (TX12 0).1 (TX12 0).2.1 (TX12 0).2.2.1 ∈ gBIG := gm_of (gs5 _ (List.mem_of_getElem? (l := tables_1_5) (i := 174) rfl)) rfl
theorem lq_RX12_13 : Cond.fieldLink RX12 13 (TX12 1).1 (TX12 1).2.1 (TX12 1).2.2.1 ∈ gBIG := gm_of (gs5 _ (List.mem_of_getElem? (l := tables_1_5) (i := 175) rfl)) rfl
theorem lq_RX12_16 : Cond.fieldLink RX12 16 (TX12 2).1 (TX12 2).2.1 (TX12 2).2.2.1 ∈ gBIG := gm_of (gs5 _ (List.mem_of_getElem? (l := tables_1_5) (i := 176) rfl)) rfl
theorem lq_RX12_19 : Cond.fieldLink RX12 19 (TX12 4).1 (TX12 4).2.1 (TX12 4).2.2.1 ∈ gBIG := gm_of (gs5 _ (List.mem_of_getElem? (l := tables_1_5) (i := 178) rfl)) rfl
theorem lq_RX12_22 : Cond.fieldLink RX12 22 (TX12 5).1 (TX12 5).2.1 (TX12 5).2.2.1 ∈ gBIG := gm_of (gs5 _ (List.mem_of_getElem? (l := tables_1_5) (i := 179) rfl)) rfl
theorem lq_RX12_25 : Cond.fieldLink RX12 25 (TX12 7).1 (TX12 7).2.1 (TX12 7).2.2.1 ∈ gBIG := gm_of (gs5 _ (List.mem_of_getElem? (l := tables_1_5) (i := 181) rfl)) rfl
theorem lq_RX12_29 : Cond.fieldLink RX12 29 (TX12 14).1 (TX12 14).2.1 (TX12 14).2.2.1 ∈ gBIG := gm_of (gs5 _ (List.mem_of_getElem? (l := tables_1_5) (i := 188) rfl)) rfl
theorem lq_RX12_32 : Cond.fieldLink RX12 32 (TX12 15).1 (TX12 15).2.1 (TX12 15).2.2.1 ∈ gBIG := gm_of (gs5 _ (List.mem_of_getElem? (l := tables_1_5) (i := 189) rfl)) rfl
theorem lq_RX12_35 : Cond.fieldLink RX12 35 (TX12 16).1 (TX12 16).2.1 (TX12 16).2.2.1 ∈ gBIG := gm_of (gs5 _ (List.mem_of_getElem? (l := tables_1_5) (i := 190) rfl)) rfl
theorem lq_RX12_38 : Cond.fieldLink RX12 38 (TX12 17).1 (TX12 17).2.1 (TX12 17).2.2.1 ∈ gBIG := gm_of (gs5 _ (List.mem_of_getElem? (l := tables_1_5) (i := 191) rfl)) rfl
theorem lq_RX12_41 : Cond.fieldLink RX12 41 (TX12 18).1 (TX12 18).2.1 (TX12 18).2.2.1 ∈ gBIG := gm_of (gs5 _ (List.mem_of_getElem? (l := tables_1_5) (i := 192) rfl)) rfl
theorem lq_RX12_44 : Cond.fieldLink RX12 44 (TX12 23).1 (TX12 23).2.1 (TX12 23).2.2.1 ∈ gBIG := gm_of (gs5 _ (List.mem_of_getElem? (l := tables_1_5) (i := 197) rfl)) rfl
theorem lq_RX12_47 : Cond.fieldLink RX12 47 (TX12 24).1 (TX12 24).2.1 (TX12 24).2.2.1 ∈ gBIG := gm_of (gs5 _ (List.mem_of_getElem? (l := tables_1_5) (i := 198) rfl)) rfl
theorem lq_RX12_50 : Cond.fieldLink RX12 50 (TX12 26).1 (TX12 26).2.1 (TX12 26).2.2.1 ∈ gBIG := gm_of (gs5 _ (List.mem_of_getElem? (l := tables_1_5) (i := 200) rfl)) rfl
theorem lq_RX12_53 : Cond.fieldLink RX12 53 (TX12 28).1 (TX12 28).2.1 (TX12 28).2.2.1 ∈ gBIG := gm_of (gs5 _ (List.mem_of_getElem? (l := tables_1_5) (i := 202) rfl)) rfl
theorem lq_RX12_56 : Cond.fieldLink RX12 56 (TX12 29).1 (TX12 29).2.1 (TX12 29).2.2.1 ∈ gBIG := gm_of (gs5 _ (List.mem_of_getElem? (l := tables_1_5) (i := 203) rfl)) rfl
theorem lq_RX12_59 : Cond.fieldLink RX12 59 (TX12 30).1 (TX12 30).2.1 (TX12 30).2.2.1 ∈ gBIG := gm_of (gs5 _ (List.mem_of_getElem? (l := tables_1_5) (i := 204) rfl)) rfl
theorem lq_RX12_62 : Cond.fieldLink RX12 62 (TX12 31).1 (TX12 31).2.1 (TX12 31).2.2.1 ∈ gBIG := gm_of (gs5 _ (List.mem_of_getElem? (l := tables_1_5) (i := 205) rfl)) rfl
theorem lq_RX12_65 : Cond.fieldLink RX12 65 (TX12 32).1 (TX12 32).2.1 (TX12 32).2.2.1 ∈ gBIG := gm_of (gs5 _ (List.mem_of_getElem? (l := tables_1_5) (i := 206) rfl)) rfl
theorem lq_RX12_68 : Cond.fieldLink RX12 68 (TX12 33).1 (TX12 33).2.1 (TX12 33).2.2.1 ∈ gBIG := gm_of (gs5 _ (List.mem_of_getElem? (l := tables_1_5) (i := 207) rfl)) rfl
theorem lq_RX12_126 : Cond.fieldLink RX12 126 (TX12 6).1 (TX12 6).2.1 (TX12 6).2.2.1 ∈ gBIG := gm_of (gs5 _ (List.mem_of_getElem? (l := tables_1_5) (i := 180) rfl)) rfl
theorem lq_RX12_130 : Cond.fieldLink RX12 130 (TX12 8).1 (TX12 8).2.1 (TX12 8).2.2.1 ∈ gBIG := gm_of (gs5 _ (List.mem_of_getElem? (l := tables_1_5) (i := 182) rfl)) rfl
theorem lq_RX12_133 : Cond.fieldLink RX12 133 (TX12 9).1 (TX12 9).2.1 (TX12 9).2.2.1 ∈ gBIG := gm_of (gs5 _ (List.mem_of_getElem? (l := tables_1_5) (i := 183) rfl)) rfl
theorem lq_RX12_139 : Cond.fieldLink RX12 139 (TX12 10).1 (TX12 10).2.1 (TX12 10).2.2.1 ∈ gBIG := gm_of (gs5 _ (List.mem_of_getElem? (l := tables_1_5) (i := 184) rfl)) rfl
theorem lq_RX12_146 : Cond.fieldLink RX12 146 (TX12 11).1 (TX12 11).2.1 (TX12 11).2.2.1 ∈ gBIG := gm_of (gs5 _ (List.mem_of_getElem? (l := tables_1_5) (i := 185) rfl)) rfl
theorem lq_RX12_158 : Cond.fieldLink RX12 158 (TX12 13).1 (TX12 13).2.1 (TX12 13).2.2.1 ∈ gBIG := gm_of (gs5 _ (List.mem_of_getElem? (l := tables_1_5) (i := 187) rfl)) rfl
theorem lq_RX12_169 : Cond.fieldLink RX12 169 (TX12 12).1 (TX12 12).2.1 (TX12 12).2.2.1 ∈ gBIG := gm_of (gs5 _ (List.mem_of_getElem? (l := tables_1_5) (i := 186) rfl)) rfl
theorem lq_RX12_259 : Cond.fieldLink RX12 259 (TX12 19).1 (TX12 19).2.1 (TX12 19).2.2.1 ∈ gBIG := gm_of (gs5 _ (List.mem_of_getElem? (l := tables_1_5) (i := 193) rfl)) rfl
theorem lq_RX12_262 : Cond.fieldLink RX12 262 (TX12 20).1 (TX12 20).2.1 (TX12 20).2.2.1 ∈ gBIG := gm_of (gs5 _ (List.mem_of_getElem? (l := tables_1_5) (i := 194) rfl)) rfl
theorem lq_RX12_265 : Cond.fieldLink RX12 265 (TX12 21).1 (TX12 21).2.1 (TX12 21).2.2.1 ∈ gBIG := gm_of (gs5 _ (List.mem_of_getElem? (l := tables_1_5) (i := 195) rfl)) rfl
theorem lq_RX12_268 : Cond.fieldLink RX12 268 (TX12 22).1 (TX12 22).2.1 (TX12 22).2.2.1 ∈ gBIG := gm_of (gs5 _ (List.mem_of_getElem? (l := tables_1_5) (i := 196) rfl)) rfl
theorem lq_RX12_301 : Cond.fieldLink RX12 301 (TX12 25).1 (TX12 25).2.1 (TX12 25).2.2.1 ∈ gBIG := gm_of (gs5 _ (List.mem_of_getElem? (l := tables_1_5) (i := 199) rfl)) rfl
theorem lq_RX12_317 : Cond.fieldLink RX12 317 (TX12 27).1 (TX12 27).2.1 (TX12 27).2.2.1 ∈ gBIG := gm_of (gs5 _ (List.mem_of_getElem? (l := tables_1_5) (i := 201) rfl)) rfl
theorem lq_RX12_341 : Cond.fieldLink RX12 341 (TX12 34).1 (TX12 34).2.1 (TX12 34).2.2.1 ∈ gBIG := gm_of (gs5 _ (List.mem_of_getElem? (l := tables_1_5) (i := 208) rfl)) rfl
theorem lq_RX12_350 : Cond.fieldLink RX12 350 (TX12 35).1 (TX12 35).2.1 (TX12 35).2.2.1 ∈ gBIG := gm_of (gs5 _ (List.mem_of_getElem? (l := tables_1_5) (i := 209) rfl)) rfl
theorem lq_RX12_359 : Cond.fieldLink RX12 359 (TX12 36).1 (TX12 36).2.1 (TX12 36).2.2.1 ∈ gBIG := gm_of (gs5 _ (List.mem_of_getElem? (l := tables_1_5) (i := 210) rfl)) rfl
theorem lq_RX12_369 : Cond.fieldLink RX12 369 (TX12 3).1 (TX12 3).2.1 (TX12 3).2.2.1 ∈ gBIG := gm_of (gs5 _ (List.mem_of_getElem? (l := tables_1_5) (i := 177) rfl)) rfl
theorem lq_RX3_13 : Cond.fieldLink RX3 13 (TX0 0).1 (TX0 0).2.1 (TX0 0).2.2.1 ∈ gBIG := gm_of (gs2 _ (List.mem_of_getElem? (l := tables_1_2) (i := 31) rfl)) rfl
theorem lq_RX3_23 : Cond.fieldLink RX3 23 (TX0 1).1 (TX0 1).2.1 (TX0 1).2.2.1 ∈ gBIG := gm_of (gs2 _ (List.mem_of_getElem? (l := tables_1_2) (i := 34) rfl)) rfl
theorem lq_RX4_9 : Cond.fieldLink RX4 9 (TX4 1).1 (TX4 1).2.1 (TX4 1).2.2.1 ∈ gBIG := gm_of (gs1 _ (List.mem_of_getElem? (l := tables_1_1) (i := 192) rfl)) rfl
theorem lq_RX4_15 : Cond.fieldLink RX4 15 (TX4 2).1 (TX4 2).2.1 (TX4 2).2.2.1 ∈ gBIG := gm_of (gs1 _ (List.mem_of_getElem? (l := tables_1_1) (i := 194) rfl)) rfl
theorem lq_RX4_18 : Cond.fieldLink RX4 18 (TX4 3).1 (TX4 3).2.1 (TX4 3).2.2.1 ∈ gBIG := gm_of (gs1 _ (List.mem_of_getElem? (l := tables_1_1) (i := 196) rfl)) rfl
theorem lq_RX4_21 : Cond.fieldLink RX4 21 (TX4 0).1 (TX4 0).2.1 (TX4 0).2.2.1 ∈ gBIG := gm_of (gs1 _ (List.mem_of_getElem? (l := tables_1_1) (i := 191) rfl)) rfl
theorem lq_RX4_39 : Cond.fieldLink RX4 39 (TX1 8).1 (TX1 8).2.1 (TX1 8).2.2.1 ∈ gBIG := gm_of (gs1 _ (List.mem_of_getElem? (l := tables_1_1) (i := 126) rfl)) rfl
theorem lq_RX4_62 : Cond.fieldLink RX4 62 (TX1 9).1 (TX1 9).2.1 (TX1 9).2.2.1 ∈ gBIG := gm_of (gs1 _ (List.mem_of_getElem? (l := tables_1_1) (i := 128) rfl)) rfl
theorem lq_RX5_9 : Cond.fieldLink RX5 9 (TX5 0).1 (TX5 0).2.1 (TX5 0).2.2.1 ∈ gBIG := gm_of (gs1 _ (List.mem_of_getElem? (l := tables_1_1) (i := 215) rfl)) rfl
theorem lq_RX5_18 : Cond.fieldLink RX5 18 (TX5 2).1 (TX5 2).2.1 (TX5 2).2.2.1 ∈ gBIG := gm_of (gs1 _ (List.mem_of_getElem? (l := tables_1_1) (i := 218) rfl)) rfl
theorem lq_RX5_22 : Cond.fieldLink RX5 22 (TX5 12).1 (TX5 12).2.1 (TX5 12).2.2.1 ∈ gBIG := gm_of (gs1 _ (List.mem_of_getElem? (l := tables_1_1) (i := 229) rfl)) rfl
theorem lq_RX5_26 : Cond.fieldLink RX5 26 (TX5 13).1 (TX5 13).2.1 (TX5 13).2.2.1 ∈ gBIG := gm_of (gs1 _ (List.mem_of_getElem? (l := tables_1_1) (i := 230) rfl)) rfl
theorem lq_RX5_29 : Cond.fieldLink RX5 29 (TX5 14).1 (TX5 14).2.1 (TX5 14).2.2.1 ∈ gBIG := gm_of (gs1 _ (List.mem_of_getElem? (l := tables_1_1) (i := 231) rfl)) rfl
theorem lq_RX5_32 : Cond.fieldLink RX5 32 (TX5 1).1 (TX5 1).2.1 (TX5 1).2.2.1 ∈ gBIG := gm_of (gs1 _ (List.mem_of_getElem? (l := tables_1_1) (i := 216) rfl)) rfl
theorem lq_RX5_42 : Cond.fieldLink RX5 42 (TX5 5).1 (TX5 5).2.1 (TX5 5).2.2.1 ∈ gBIG := gm_of (gs1 _ (List.mem_of_getElem? (l := tables_1_1) (i := 222) rfl)) rfl
theorem lq_RX5_45 : Cond.fieldLink RX5 45 (TX5 7).1 (TX5 7).2.1 (TX5 7).2.2.1 ∈ gBIG := gm_of (gs1 _ (List.mem_of_getElem? (l := tables_1_1) (i := 224) rfl)) rfl
theorem lq_RX5_52 : Cond.fieldLink RX5 52 (TX5 4).1 (TX5 4).2.1 (TX5 4).2.2.1 ∈ gBIG := gm_of (gs1 _ (List.mem_of_getElem? (l := tables_1_1) (i := 221) rfl)) rfl
theorem lq_RX5_58 : Cond.fieldLink RX5 58 (TX5 3).1 (TX5 3).2.1 (TX5 3).2.2.1 ∈ gBIG := gm_of (gs1 _ (List.mem_of_getElem? (l := tables_1_1) (i := 220) rfl)) rfl
theorem lq_RX5_93 : Cond.fieldLink RX5 93 (TX5 6).1 (TX5 6).2.1 (TX5 6).2.2.1 ∈ gBIG := gm_of (gs1 _ (List.mem_of_getElem? (l := tables_1_1) (i := 223) rfl)) rfl
theorem lq_RX5_120 : Cond.fieldLink RX5 120 (TX6 0).1 (TX6 0).2.1 (TX6 0).2.2.1 ∈ gBIG := gm_of (gs1 _ (List.mem_of_getElem? (l := tables_1_1) (i := 88) rfl)) rfl
theorem lq_RX5_127 : Cond.fieldLink RX5 127 (TX5 8).1 (TX5 8).2.1 (TX5 8).2.2.1 ∈ gBIG := gm_of (gs1 _ (List.mem_of_getElem? (l := tables_1_1) (i := 225) rfl)) rfl
theorem lq_RX5_130 : Cond.fieldLink RX5 130 (TX5 11).1 (TX5 11).2.1 (TX5 11).2.2.1 ∈ gBIG := gm_of (gs1 _ (List.mem_of_getElem? (l := tables_1_1) (i := 228) rfl)) rfl
theorem lq_RX5_146 : Cond.fieldLink RX5 146 (TX5 9).1 (TX5 9).2.1 (TX5 9).2.2.1 ∈ gBIG := gm_of (gs1 _ (List.mem_of_getElem? (l := tables_1_1) (i := 226) rfl)) rfl
theorem lq_RX5_149 : Cond.fieldLink RX5 149 (TX5 10).1 (TX5 10).2.1 (TX5 10).2.2.1 ∈ gBIG := gm_of (gs1 _ (List.mem_of_getElem? (l := tables_1_1) (i := 227) rfl)) rfl
theorem lq_RX6_9 : Cond.fieldLink RX6 9 (TX6 2).1 (TX6 2).2.1 (TX6 2).2.2.1 ∈ gBIG := gm_of (gs1 _ (List.mem_of_getElem? (l := tables_1_1) (i := 91) rfl)) rfl
theorem lq_RX6_15 : Cond.fieldLink RX6 15 (TX6 3).1 (TX6 3).2.1 (TX6 3).2.2.1 ∈ gBIG := gm_of (gs1 _ (List.mem_of_getElem? (l := tables_1_1) (i := 92) rfl)) rfl
theorem lq_RX6_18 : Cond.fieldLink RX6 18 (TX6 4).1 (TX6 4).2.1 (TX6 4).2.2.1 ∈ gBIG := gm_of (gs1 _ (List.mem_of_getElem? (l := tables_1_1) (i := 93) rfl)) rfl
theorem lq_RX6_21 : Cond.fieldLink RX6 21 (TX6 5).1 (TX6 5).2.1 (TX6 5).2.2.1 ∈ gBIG := gm_of (gs1 _ (List.mem_of_getElem? (l := tables_1_1) (i := 94) rfl)) rfl
theorem lq_RX6_24 : Cond.fieldLink RX6 24 (TX6 0).1 (TX6 0).2.1 (TX6 0).2.2.1 ∈ gBIG := gm_of (gs1 _ (List.mem_of_getElem? (l := tables_1_1) (i := 87) rfl)) rfl
theorem lq_RX6_28 : Cond.fieldLink RX6 28 (TX6 1).1 (TX6 1).2.1 (TX6 1).2.2.1 ∈ gBIG := gm_of (gs1 _ (List.mem_of_getElem? (l := tables_1_1) (i := 90) rfl)) rfl
theorem lq_RX9_33 : Cond.fieldLink RX9 33 (TX0 0).1 (TX0 0).2.1 (TX0 0).2.2.1 ∈ gBIG := gm_of (gs2 _ (List.mem_of_getElem? (l := tables_1_2) (i := 32) rfl)) rfl
theorem cq_RJ6_265 : Cond.constant RJ6 265 (1431655765) ∈ gBIG := gm_of (gs4 _ (List.mem_of_getElem? (l := tables_1_4) (i := 77) rfl)) rfl
theorem cq_RJ6_266 : Cond.constant RJ6 266 (858993459) ∈ gBIG := gm_of (gs4 _ (List.mem_of_getElem? (l := tables_1_4) (i := 78) rfl)) rfl
theorem cq_RJ6_267 : Cond.constant RJ6 267 (252645135) ∈ gBIG := gm_of (gs4 _ (List.mem_of_getElem? (l := tables_1_4) (i := 79) rfl)) rfl
theorem cq_RX1_160 : Cond.constant RX1 160 (1103515245) ∈ gBIG := gm_of (gs4 _ (List.mem_of_getElem? (l := tables_1_4) (i := 200) rfl)) rfl
theorem cq_RX12_313 : Cond.constant RX12 313 (1103515245) ∈ gBIG := gm_of (gs7 _ (List.mem_of_getElem? (l := tables_1_7) (i := 189) rfl)) rfl
theorem wq_0 : Cond.methodLink RX6 31 arraycopyName ∈ gBIG := gm_of (gs3 _ (List.mem_of_getElem? (l := tables_1_3) (i := 214) rfl)) rfl
theorem wq_1 : Cond.native arraycopyName ∈ gBIG := gm_of (gs3 _ (List.mem_of_getElem? (l := tables_1_3) (i := 216) rfl)) rfl
theorem wq_2 : Cond.static arraycopyName ∈ gBIG := gm_of (gs3 _ (List.mem_of_getElem? (l := tables_1_3) (i := 215) rfl)) rfl
theorem wq_3 : Cond.initialized "java/lang/System" ∈ gBIG := gm_of (gs1 _ (List.mem_of_getElem? (l := tables_1_1) (i := 19) rfl)) rfl
theorem wq_4 : Cond.methodLink RX1 94 yX1_sunAt ∈ gBIG := gm_of (gs2 _ (List.mem_of_getElem? (l := tables_1_2) (i := 129) rfl)) rfl
theorem wq_5 : Cond.code yX1_sunAt cX1_sunAt 2 (some .int) ∈ gBIG := gm_of (gs2 _ (List.mem_of_getElem? (l := tables_1_2) (i := 132) rfl)) rfl
theorem wq_6 : Cond.initialized RX1 ∈ gBIG := gm_of (gs1 _ (List.mem_of_getElem? (l := tables_1_1) (i := 8) rfl)) rfl
theorem wq_7 : Cond.instanceMethod yX1_sunAt ∈ gBIG := gm_of (gs2 _ (List.mem_of_getElem? (l := tables_1_2) (i := 130) rfl)) rfl
theorem wq_8 : Cond.selects RX1 yX1_sunAt yX1_sunAt ∈ gBIG := gm_of (gs2 _ (List.mem_of_getElem? (l := tables_1_2) (i := 131) rfl)) rfl
theorem wq_9 : Cond.code yX3_melts cX3_melts 4 (some .int) ∈ gBIG := gm_of (gs2 _ (List.mem_of_getElem? (l := tables_1_2) (i := 162) rfl)) rfl
theorem wq_10 : Cond.initialized RX3 ∈ gBIG := gm_of (gs1 _ (List.mem_of_getElem? (l := tables_1_1) (i := 2) rfl)) rfl
theorem wq_11 : Cond.methodLink RX8 7 yX3_melts ∈ gBIG := gm_of (gs2 _ (List.mem_of_getElem? (l := tables_1_2) (i := 150) rfl)) rfl
theorem wq_12 : Cond.sameMethod RX3 RX3 "melts" "(III)I" ∈ gBIG := gm_of (gs2 _ (List.mem_of_getElem? (l := tables_1_2) (i := 140) rfl)) rfl
theorem wq_13 : Cond.superclass RX8 RX3 ∈ gBIG := gm_of (gs1 _ (List.mem_of_getElem? (l := tables_1_1) (i := 53) rfl)) rfl
theorem wq_14 : Cond.instanceMethod yX3_melts ∈ gBIG := gm_of (gs2 _ (List.mem_of_getElem? (l := tables_1_2) (i := 138) rfl)) rfl
theorem wq_15 : Cond.methodLink RX8 11 Lib.Math.max.name ∈ gBIG := gm_of (gs2 _ (List.mem_of_getElem? (l := tables_1_2) (i := 151) rfl)) rfl
theorem wq_16 : Cond.static Lib.Math.max.name ∈ gBIG := gm_of (gs2 _ (List.mem_of_getElem? (l := tables_1_2) (i := 152) rfl)) rfl
theorem wq_17 : Cond.initialized "java/lang/Math" ∈ gBIG := gm_of (gs1 _ (List.mem_of_getElem? (l := tables_1_1) (i := 14) rfl)) rfl
theorem wq_18 : Cond.code Lib.Math.max.name Lib.Math.max.code 2 (some .int) ∈ gBIG := gm_of (gs2 _ (List.mem_of_getElem? (l := tables_1_2) (i := 153) rfl)) rfl
theorem wq_19 : Cond.code yX7_melts cX7_melts 4 (some .int) ∈ gBIG := gm_of (gs2 _ (List.mem_of_getElem? (l := tables_1_2) (i := 146) rfl)) rfl
theorem wq_20 : Cond.initialized RX7 ∈ gBIG := gm_of (gs1 _ (List.mem_of_getElem? (l := tables_1_1) (i := 6) rfl)) rfl
theorem wq_21 : Cond.methodLink RX9 7 yX7_melts ∈ gBIG := gm_of (gs2 _ (List.mem_of_getElem? (l := tables_1_2) (i := 157) rfl)) rfl
theorem wq_22 : Cond.sameMethod RX7 RX7 "melts" "(III)I" ∈ gBIG := gm_of (gs8 _ (List.mem_of_getElem? (l := tables_1_8) (i := 68) rfl)) rfl
theorem wq_23 : Cond.superclass RX9 RX7 ∈ gBIG := gm_of (gs1 _ (List.mem_of_getElem? (l := tables_1_1) (i := 74) rfl)) rfl
theorem wq_24 : Cond.instanceMethod yX7_melts ∈ gBIG := gm_of (gs2 _ (List.mem_of_getElem? (l := tables_1_2) (i := 145) rfl)) rfl
theorem wq_25 : Cond.code yX8_melts cX8_melts 4 (some .int) ∈ gBIG := gm_of (gs2 _ (List.mem_of_getElem? (l := tables_1_2) (i := 149) rfl)) rfl
theorem wq_26 : Cond.initialized RX8 ∈ gBIG := gm_of (gs1 _ (List.mem_of_getElem? (l := tables_1_1) (i := 4) rfl)) rfl
theorem wq_27 : Cond.methodLink RX10 7 yX8_melts ∈ gBIG := gm_of (gs2 _ (List.mem_of_getElem? (l := tables_1_2) (i := 161) rfl)) rfl
theorem wq_28 : Cond.sameMethod RX8 RX8 "melts" "(III)I" ∈ gBIG := gm_of (gs8 _ (List.mem_of_getElem? (l := tables_1_8) (i := 69) rfl)) rfl
theorem wq_29 : Cond.superclass RX10 RX8 ∈ gBIG := gm_of (gs1 _ (List.mem_of_getElem? (l := tables_1_1) (i := 60) rfl)) rfl
theorem wq_30 : Cond.instanceMethod yX8_melts ∈ gBIG := gm_of (gs2 _ (List.mem_of_getElem? (l := tables_1_2) (i := 148) rfl)) rfl
theorem wq_31 : Cond.methodLink RX1 113 yX1_isTurned ∈ gBIG := gm_of (gs2 _ (List.mem_of_getElem? (l := tables_1_2) (i := 167) rfl)) rfl
theorem wq_32 : Cond.code yX1_isTurned cX1_isTurned 2 (some .boolean) ∈ gBIG := gm_of (gs2 _ (List.mem_of_getElem? (l := tables_1_2) (i := 120) rfl)) rfl
theorem wq_33 : Cond.instanceMethod yX1_isTurned ∈ gBIG := gm_of (gs2 _ (List.mem_of_getElem? (l := tables_1_2) (i := 118) rfl)) rfl
theorem wq_34 : Cond.selects RX1 yX1_isTurned yX1_isTurned ∈ gBIG := gm_of (gs2 _ (List.mem_of_getElem? (l := tables_1_2) (i := 119) rfl)) rfl
theorem wq_35 : Cond.code yX7_shape cX7_shape 4 (some .int) ∈ gBIG := gm_of (gs2 _ (List.mem_of_getElem? (l := tables_1_2) (i := 182) rfl)) rfl
theorem wq_36 : Cond.methodLink RX9 11 yX7_shape ∈ gBIG := gm_of (gs2 _ (List.mem_of_getElem? (l := tables_1_2) (i := 189) rfl)) rfl
theorem wq_37 : Cond.sameMethod RX7 RX7 "shape" "(III)I" ∈ gBIG := gm_of (gs8 _ (List.mem_of_getElem? (l := tables_1_8) (i := 70) rfl)) rfl
theorem wq_38 : Cond.instanceMethod yX7_shape ∈ gBIG := gm_of (gs2 _ (List.mem_of_getElem? (l := tables_1_2) (i := 181) rfl)) rfl
theorem wq_39 : Cond.methodLink RX9 14 Lib.Math.min.name ∈ gBIG := gm_of (gs2 _ (List.mem_of_getElem? (l := tables_1_2) (i := 190) rfl)) rfl
theorem wq_40 : Cond.static Lib.Math.min.name ∈ gBIG := gm_of (gs2 _ (List.mem_of_getElem? (l := tables_1_2) (i := 191) rfl)) rfl
theorem wq_41 : Cond.code Lib.Math.min.name Lib.Math.min.code 2 (some .int) ∈ gBIG := gm_of (gs2 _ (List.mem_of_getElem? (l := tables_1_2) (i := 192) rfl)) rfl
theorem wq_42 : Cond.code yX8_shape cX8_shape 4 (some .int) ∈ gBIG := gm_of (gs2 _ (List.mem_of_getElem? (l := tables_1_2) (i := 185) rfl)) rfl
theorem wq_43 : Cond.methodLink RX10 11 yX8_shape ∈ gBIG := gm_of (gs2 _ (List.mem_of_getElem? (l := tables_1_2) (i := 196) rfl)) rfl
theorem wq_44 : Cond.sameMethod RX8 RX8 "shape" "(III)I" ∈ gBIG := gm_of (gs8 _ (List.mem_of_getElem? (l := tables_1_8) (i := 71) rfl)) rfl
theorem wq_45 : Cond.instanceMethod yX8_shape ∈ gBIG := gm_of (gs2 _ (List.mem_of_getElem? (l := tables_1_2) (i := 184) rfl)) rfl
theorem wq_46 : Cond.methodLink RX10 14 Lib.Math.max.name ∈ gBIG := gm_of (gs2 _ (List.mem_of_getElem? (l := tables_1_2) (i := 197) rfl)) rfl
theorem wq_47 : Cond.code yX2_shape cX2_shape 4 (some .int) ∈ gBIG := gm_of (gs2 _ (List.mem_of_getElem? (l := tables_1_2) (i := 179) rfl)) rfl
theorem wq_48 : Cond.initialized RX2 ∈ gBIG := gm_of (gs1 _ (List.mem_of_getElem? (l := tables_1_1) (i := 3) rfl)) rfl
theorem wq_49 : Cond.methodLink RX1 117 yX3_shape ∈ gBIG := gm_of (gs2 _ (List.mem_of_getElem? (l := tables_1_2) (i := 173) rfl)) rfl
theorem wq_50 : Cond.sameMethod RX3 RX3 "shape" "(III)I" ∈ gBIG := gm_of (gs2 _ (List.mem_of_getElem? (l := tables_1_2) (i := 176) rfl)) rfl
theorem wq_51 : Cond.instanceMethod yX3_shape ∈ gBIG := gm_of (gs2 _ (List.mem_of_getElem? (l := tables_1_2) (i := 174) rfl)) rfl
theorem wq_52 : Cond.code yX3_shape cX3_shape 4 (some .int) ∈ gBIG := gm_of (gs2 _ (List.mem_of_getElem? (l := tables_1_2) (i := 198) rfl)) rfl
theorem wq_53 : Cond.selects RX2 yX3_shape yX2_shape ∈ gBIG := gm_of (gs2 _ (List.mem_of_getElem? (l := tables_1_2) (i := 177) rfl)) rfl
theorem wq_54 : Cond.instanceMethod yX2_shape ∈ gBIG := gm_of (gs2 _ (List.mem_of_getElem? (l := tables_1_2) (i := 178) rfl)) rfl
theorem wq_55 : Cond.selects RX3 yX3_shape yX3_shape ∈ gBIG := gm_of (gs2 _ (List.mem_of_getElem? (l := tables_1_2) (i := 175) rfl)) rfl
theorem wq_56 : Cond.selects RX7 yX3_shape yX7_shape ∈ gBIG := gm_of (gs2 _ (List.mem_of_getElem? (l := tables_1_2) (i := 180) rfl)) rfl
theorem wq_57 : Cond.selects RX8 yX3_shape yX8_shape ∈ gBIG := gm_of (gs2 _ (List.mem_of_getElem? (l := tables_1_2) (i := 183) rfl)) rfl
theorem wq_58 : Cond.code yX9_shape cX9_shape 4 (some .int) ∈ gBIG := gm_of (gs2 _ (List.mem_of_getElem? (l := tables_1_2) (i := 188) rfl)) rfl
theorem wq_59 : Cond.initialized RX9 ∈ gBIG := gm_of (gs1 _ (List.mem_of_getElem? (l := tables_1_1) (i := 7) rfl)) rfl
theorem wq_60 : Cond.selects RX9 yX3_shape yX9_shape ∈ gBIG := gm_of (gs2 _ (List.mem_of_getElem? (l := tables_1_2) (i := 186) rfl)) rfl
theorem wq_61 : Cond.instanceMethod yX9_shape ∈ gBIG := gm_of (gs2 _ (List.mem_of_getElem? (l := tables_1_2) (i := 187) rfl)) rfl
theorem wq_62 : Cond.code yX10_shape cX10_shape 4 (some .int) ∈ gBIG := gm_of (gs2 _ (List.mem_of_getElem? (l := tables_1_2) (i := 195) rfl)) rfl
theorem wq_63 : Cond.initialized RX10 ∈ gBIG := gm_of (gs1 _ (List.mem_of_getElem? (l := tables_1_1) (i := 5) rfl)) rfl
theorem wq_64 : Cond.selects RX10 yX3_shape yX10_shape ∈ gBIG := gm_of (gs2 _ (List.mem_of_getElem? (l := tables_1_2) (i := 193) rfl)) rfl
theorem wq_65 : Cond.instanceMethod yX10_shape ∈ gBIG := gm_of (gs2 _ (List.mem_of_getElem? (l := tables_1_2) (i := 194) rfl)) rfl
theorem wq_66 : Cond.methodLink RX1 120 Lib.Math.abs.name ∈ gBIG := gm_of (gs2 _ (List.mem_of_getElem? (l := tables_1_2) (i := 207) rfl)) rfl
theorem wq_67 : Cond.static Lib.Math.abs.name ∈ gBIG := gm_of (gs2 _ (List.mem_of_getElem? (l := tables_1_2) (i := 208) rfl)) rfl
theorem wq_68 : Cond.code Lib.Math.abs.name Lib.Math.abs.code 1 (some .int) ∈ gBIG := gm_of (gs2 _ (List.mem_of_getElem? (l := tables_1_2) (i := 209) rfl)) rfl
theorem wq_69 : Cond.code yX11_isOf cX11_isOf 2 (some .boolean) ∈ gBIG := gm_of (gs2 _ (List.mem_of_getElem? (l := tables_1_2) (i := 225) rfl)) rfl
theorem wq_70 : Cond.initialized RX11 ∈ gBIG := gm_of (gs1 _ (List.mem_of_getElem? (l := tables_1_1) (i := 1) rfl)) rfl
theorem wq_71 : Cond.static yX11_isOf ∈ gBIG := gm_of (gs2 _ (List.mem_of_getElem? (l := tables_1_2) (i := 224) rfl)) rfl
theorem wq_72 : Cond.methodLink RX6 41 yX6_holds ∈ gBIG := gm_of (gs2 _ (List.mem_of_getElem? (l := tables_1_2) (i := 228) rfl)) rfl
theorem wq_73 : Cond.code yX6_holds cX6_holds 8 (some .boolean) ∈ gBIG := gm_of (gs2 _ (List.mem_of_getElem? (l := tables_1_2) (i := 231) rfl)) rfl
theorem wq_74 : Cond.initialized RX6 ∈ gBIG := gm_of (gs1 _ (List.mem_of_getElem? (l := tables_1_1) (i := 9) rfl)) rfl
theorem wq_75 : Cond.instanceMethod yX6_holds ∈ gBIG := gm_of (gs2 _ (List.mem_of_getElem? (l := tables_1_2) (i := 230) rfl)) rfl
theorem wq_76 : Cond.selects RX6 yX6_holds yX6_holds ∈ gBIG := gm_of (gs0 _ (List.mem_of_getElem? (l := (k2_sels lw_privs)) (i := 3) rfl)) rfl
theorem wq_77 : Cond.fieldLink RX11 373 "IceKeys" "ABOVE" "[I" ∈ gBIG := gm_of (gs2 _ (List.mem_of_getElem? (l := tables_1_2) (i := 226) rfl)) rfl
theorem wq_78 : Cond.methodLink RX6 45 yX6_valueOf ∈ gBIG := gm_of (gs2 _ (List.mem_of_getElem? (l := tables_1_2) (i := 232) rfl)) rfl
theorem wq_79 : Cond.code yX6_valueOf cX6_valueOf 3 (some .int) ∈ gBIG := gm_of (gs2 _ (List.mem_of_getElem? (l := tables_1_2) (i := 234) rfl)) rfl
theorem wq_80 : Cond.static yX6_valueOf ∈ gBIG := gm_of (gs2 _ (List.mem_of_getElem? (l := tables_1_2) (i := 233) rfl)) rfl
theorem wq_81 : Cond.methodLink RX6 49 yX6_isSo ∈ gBIG := gm_of (gs2 _ (List.mem_of_getElem? (l := tables_1_2) (i := 235) rfl)) rfl
theorem wq_82 : Cond.code yX6_isSo cX6_isSo 2 (some .boolean) ∈ gBIG := gm_of (gs2 _ (List.mem_of_getElem? (l := tables_1_2) (i := 237) rfl)) rfl
theorem wq_83 : Cond.static yX6_isSo ∈ gBIG := gm_of (gs2 _ (List.mem_of_getElem? (l := tables_1_2) (i := 236) rfl)) rfl
theorem wq_84 : Cond.methodLink RX1 123 yX1_fitsWard ∈ gBIG := gm_of (gs2 _ (List.mem_of_getElem? (l := tables_1_2) (i := 203) rfl)) rfl
theorem wq_85 : Cond.code yX1_fitsWard cX1_fitsWard 4 (some .boolean) ∈ gBIG := gm_of (gs2 _ (List.mem_of_getElem? (l := tables_1_2) (i := 206) rfl)) rfl
theorem wq_86 : Cond.instanceMethod yX1_fitsWard ∈ gBIG := gm_of (gs2 _ (List.mem_of_getElem? (l := tables_1_2) (i := 204) rfl)) rfl
theorem wq_87 : Cond.selects RX1 yX1_fitsWard yX1_fitsWard ∈ gBIG := gm_of (gs2 _ (List.mem_of_getElem? (l := tables_1_2) (i := 205) rfl)) rfl
theorem wq_88 : Cond.methodLink RX1 98 yX1_heatAt ∈ gBIG := gm_of (gs2 _ (List.mem_of_getElem? (l := tables_1_2) (i := 125) rfl)) rfl
theorem wq_89 : Cond.code yX1_heatAt cX1_heatAt 2 (some .int) ∈ gBIG := gm_of (gs2 _ (List.mem_of_getElem? (l := tables_1_2) (i := 128) rfl)) rfl
theorem wq_90 : Cond.instanceMethod yX1_heatAt ∈ gBIG := gm_of (gs2 _ (List.mem_of_getElem? (l := tables_1_2) (i := 127) rfl)) rfl
theorem wq_91 : Cond.selects RX1 yX1_heatAt yX1_heatAt ∈ gBIG := gm_of (gs0 _ (List.mem_of_getElem? (l := (k2_sels lw_privs)) (i := 0) rfl)) rfl
theorem wq_92 : Cond.methodLink RX1 127 yX6_tells ∈ gBIG := gm_of (gs2 _ (List.mem_of_getElem? (l := tables_1_2) (i := 219) rfl)) rfl
theorem wq_93 : Cond.code yX6_tells cX6_tells 5 (some .int) ∈ gBIG := gm_of (gs2 _ (List.mem_of_getElem? (l := tables_1_2) (i := 222) rfl)) rfl
theorem wq_94 : Cond.instanceMethod yX6_tells ∈ gBIG := gm_of (gs2 _ (List.mem_of_getElem? (l := tables_1_2) (i := 220) rfl)) rfl
theorem wq_95 : Cond.selects RX6 yX6_tells yX6_tells ∈ gBIG := gm_of (gs2 _ (List.mem_of_getElem? (l := tables_1_2) (i := 221) rfl)) rfl
theorem wq_96 : Cond.methodLink RX1 101 yX1_shadeAt ∈ gBIG := gm_of (gs2 _ (List.mem_of_getElem? (l := tables_1_2) (i := 133) rfl)) rfl
theorem wq_97 : Cond.code yX1_shadeAt cX1_shadeAt 2 (some .int) ∈ gBIG := gm_of (gs2 _ (List.mem_of_getElem? (l := tables_1_2) (i := 136) rfl)) rfl
theorem wq_98 : Cond.instanceMethod yX1_shadeAt ∈ gBIG := gm_of (gs2 _ (List.mem_of_getElem? (l := tables_1_2) (i := 135) rfl)) rfl
theorem wq_99 : Cond.selects RX1 yX1_shadeAt yX1_shadeAt ∈ gBIG := gm_of (gs0 _ (List.mem_of_getElem? (l := (k2_sels lw_privs)) (i := 1) rfl)) rfl
theorem wq_100 : Cond.code yX2_melts cX2_melts 4 (some .int) ∈ gBIG := gm_of (gs2 _ (List.mem_of_getElem? (l := tables_1_2) (i := 143) rfl)) rfl
theorem wq_101 : Cond.methodLink RX1 104 yX3_melts ∈ gBIG := gm_of (gs2 _ (List.mem_of_getElem? (l := tables_1_2) (i := 137) rfl)) rfl
theorem wq_102 : Cond.selects RX2 yX3_melts yX2_melts ∈ gBIG := gm_of (gs2 _ (List.mem_of_getElem? (l := tables_1_2) (i := 141) rfl)) rfl
theorem wq_103 : Cond.instanceMethod yX2_melts ∈ gBIG := gm_of (gs2 _ (List.mem_of_getElem? (l := tables_1_2) (i := 142) rfl)) rfl
theorem wq_104 : Cond.selects RX3 yX3_melts yX3_melts ∈ gBIG := gm_of (gs2 _ (List.mem_of_getElem? (l := tables_1_2) (i := 139) rfl)) rfl
theorem wq_105 : Cond.selects RX7 yX3_melts yX7_melts ∈ gBIG := gm_of (gs2 _ (List.mem_of_getElem? (l := tables_1_2) (i := 144) rfl)) rfl
theorem wq_106 : Cond.selects RX8 yX3_melts yX8_melts ∈ gBIG := gm_of (gs2 _ (List.mem_of_getElem? (l := tables_1_2) (i := 147) rfl)) rfl
theorem wq_107 : Cond.code yX9_melts cX9_melts 4 (some .int) ∈ gBIG := gm_of (gs2 _ (List.mem_of_getElem? (l := tables_1_2) (i := 156) rfl)) rfl
theorem wq_108 : Cond.selects RX9 yX3_melts yX9_melts ∈ gBIG := gm_of (gs2 _ (List.mem_of_getElem? (l := tables_1_2) (i := 154) rfl)) rfl
theorem wq_109 : Cond.instanceMethod yX9_melts ∈ gBIG := gm_of (gs2 _ (List.mem_of_getElem? (l := tables_1_2) (i := 155) rfl)) rfl
theorem wq_110 : Cond.code yX10_melts cX10_melts 4 (some .int) ∈ gBIG := gm_of (gs2 _ (List.mem_of_getElem? (l := tables_1_2) (i := 160) rfl)) rfl
theorem wq_111 : Cond.selects RX10 yX3_melts yX10_melts ∈ gBIG := gm_of (gs2 _ (List.mem_of_getElem? (l := tables_1_2) (i := 158) rfl)) rfl
theorem wq_112 : Cond.instanceMethod yX10_melts ∈ gBIG := gm_of (gs2 _ (List.mem_of_getElem? (l := tables_1_2) (i := 159) rfl)) rfl
theorem wq_113 : Cond.methodLink RX1 110 yX1_others ∈ gBIG := gm_of (gs2 _ (List.mem_of_getElem? (l := tables_1_2) (i := 163) rfl)) rfl
theorem wq_114 : Cond.code yX1_others cX1_others 4 (some .int) ∈ gBIG := gm_of (gs2 _ (List.mem_of_getElem? (l := tables_1_2) (i := 166) rfl)) rfl
theorem wq_115 : Cond.instanceMethod yX1_others ∈ gBIG := gm_of (gs2 _ (List.mem_of_getElem? (l := tables_1_2) (i := 165) rfl)) rfl
theorem wq_116 : Cond.selects RX1 yX1_others yX1_others ∈ gBIG := gm_of (gs0 _ (List.mem_of_getElem? (l := (k2_sels lw_privs)) (i := 2) rfl)) rfl
theorem wq_117 : Cond.methodLink RX1 91 Lib.Math.max.name ∈ gBIG := gm_of (gs2 _ (List.mem_of_getElem? (l := tables_1_2) (i := 168) rfl)) rfl
theorem wq_118 : Cond.methodLink RX1 144 yX1_isKey ∈ gBIG := gm_of (gs3 _ (List.mem_of_getElem? (l := tables_1_3) (i := 234) rfl)) rfl
theorem wq_119 : Cond.code yX1_isKey cX1_isKey 2 (some .boolean) ∈ gBIG := gm_of (gs2 _ (List.mem_of_getElem? (l := tables_1_2) (i := 116) rfl)) rfl
theorem wq_120 : Cond.instanceMethod yX1_isKey ∈ gBIG := gm_of (gs2 _ (List.mem_of_getElem? (l := tables_1_2) (i := 114) rfl)) rfl
theorem wq_121 : Cond.selects RX1 yX1_isKey yX1_isKey ∈ gBIG := gm_of (gs2 _ (List.mem_of_getElem? (l := tables_1_2) (i := 115) rfl)) rfl
theorem wq_122 : Cond.methodLink RX1 134 yX1_will ∈ gBIG := gm_of (gs2 _ (List.mem_of_getElem? (l := tables_1_2) (i := 215) rfl)) rfl
theorem wq_123 : Cond.code yX1_will cX1_will 2 (some .int) ∈ gBIG := gm_of (gs2 _ (List.mem_of_getElem? (l := tables_1_2) (i := 218) rfl)) rfl
theorem wq_124 : Cond.instanceMethod yX1_will ∈ gBIG := gm_of (gs2 _ (List.mem_of_getElem? (l := tables_1_2) (i := 216) rfl)) rfl
theorem wq_125 : Cond.selects RX1 yX1_will yX1_will ∈ gBIG := gm_of (gs2 _ (List.mem_of_getElem? (l := tables_1_2) (i := 217) rfl)) rfl
theorem wq_126 : Cond.methodLink RX1 131 yX1_pays ∈ gBIG := gm_of (gs2 _ (List.mem_of_getElem? (l := tables_1_2) (i := 214) rfl)) rfl
theorem wq_127 : Cond.code yX1_pays cX1_pays 2 (some .int) ∈ gBIG := gm_of (gs2 _ (List.mem_of_getElem? (l := tables_1_2) (i := 202) rfl)) rfl
theorem wq_128 : Cond.instanceMethod yX1_pays ∈ gBIG := gm_of (gs2 _ (List.mem_of_getElem? (l := tables_1_2) (i := 200) rfl)) rfl
theorem wq_129 : Cond.selects RX1 yX1_pays yX1_pays ∈ gBIG := gm_of (gs2 _ (List.mem_of_getElem? (l := tables_1_2) (i := 201) rfl)) rfl
theorem wq_130 : Cond.methodLink RX1 147 yX1_setTurned ∈ gBIG := gm_of (gs3 _ (List.mem_of_getElem? (l := tables_1_3) (i := 235) rfl)) rfl
theorem wq_131 : Cond.code yX1_setTurned cX1_setTurned 3 none ∈ gBIG := gm_of (gs3 _ (List.mem_of_getElem? (l := tables_1_3) (i := 13) rfl)) rfl
theorem wq_132 : Cond.instanceMethod yX1_setTurned ∈ gBIG := gm_of (gs3 _ (List.mem_of_getElem? (l := tables_1_3) (i := 11) rfl)) rfl
theorem wq_133 : Cond.selects RX1 yX1_setTurned yX1_setTurned ∈ gBIG := gm_of (gs3 _ (List.mem_of_getElem? (l := tables_1_3) (i := 12) rfl)) rfl
theorem wq_134 : Cond.methodLink RX1 85 Lib.Math.min.name ∈ gBIG := gm_of (gs3 _ (List.mem_of_getElem? (l := tables_1_3) (i := 236) rfl)) rfl
theorem wq_135 : Cond.methodLink RX1 151 yX1_melts ∈ gBIG := gm_of (gs4 _ (List.mem_of_getElem? (l := tables_1_4) (i := 1) rfl)) rfl
theorem wq_136 : Cond.code yX1_melts cX1_melts 3 (some .int) ∈ gBIG := gm_of (gs2 _ (List.mem_of_getElem? (l := tables_1_2) (i := 124) rfl)) rfl
theorem wq_137 : Cond.instanceMethod yX1_melts ∈ gBIG := gm_of (gs2 _ (List.mem_of_getElem? (l := tables_1_2) (i := 122) rfl)) rfl
theorem wq_138 : Cond.selects RX1 yX1_melts yX1_melts ∈ gBIG := gm_of (gs2 _ (List.mem_of_getElem? (l := tables_1_2) (i := 123) rfl)) rfl
theorem wq_139 : Cond.methodLink RX1 167 yX1_shape ∈ gBIG := gm_of (gs4 _ (List.mem_of_getElem? (l := tables_1_4) (i := 70) rfl)) rfl
theorem wq_140 : Cond.code yX1_shape cX1_shape 2 (some .int) ∈ gBIG := gm_of (gs2 _ (List.mem_of_getElem? (l := tables_1_2) (i := 172) rfl)) rfl
theorem wq_141 : Cond.instanceMethod yX1_shape ∈ gBIG := gm_of (gs2 _ (List.mem_of_getElem? (l := tables_1_2) (i := 170) rfl)) rfl
theorem wq_142 : Cond.selects RX1 yX1_shape yX1_shape ∈ gBIG := gm_of (gs2 _ (List.mem_of_getElem? (l := tables_1_2) (i := 171) rfl)) rfl
theorem wq_143 : Cond.code yX11_isIn cX11_isIn 3 (some .boolean) ∈ gBIG := gm_of (gs2 _ (List.mem_of_getElem? (l := tables_1_2) (i := 105) rfl)) rfl
theorem wq_144 : Cond.static yX11_isIn ∈ gBIG := gm_of (gs2 _ (List.mem_of_getElem? (l := tables_1_2) (i := 104) rfl)) rfl
theorem wq_145 : Cond.methodLink RX2 7 yX0_ran ∈ gBIG := gm_of (gs5 _ (List.mem_of_getElem? (l := tables_1_5) (i := 64) rfl)) rfl
theorem wq_146 : Cond.code yX0_ran cX0_ran 2 none ∈ gBIG := gm_of (gs5 _ (List.mem_of_getElem? (l := tables_1_5) (i := 67) rfl)) rfl
theorem wq_147 : Cond.initialized RX0 ∈ gBIG := gm_of (gs1 _ (List.mem_of_getElem? (l := tables_1_1) (i := 12) rfl)) rfl
theorem wq_148 : Cond.instanceMethod yX0_ran ∈ gBIG := gm_of (gs5 _ (List.mem_of_getElem? (l := tables_1_5) (i := 65) rfl)) rfl
theorem wq_149 : Cond.selects RX0 yX0_ran yX0_ran ∈ gBIG := gm_of (gs5 _ (List.mem_of_getElem? (l := tables_1_5) (i := 66) rfl)) rfl
theorem wq_150 : Cond.code yX3_drips cX3_drips 3 (some .int) ∈ gBIG := gm_of (gs5 _ (List.mem_of_getElem? (l := tables_1_5) (i := 79) rfl)) rfl
theorem wq_151 : Cond.methodLink RX2 13 yX3_drips ∈ gBIG := gm_of (gs5 _ (List.mem_of_getElem? (l := tables_1_5) (i := 68) rfl)) rfl
theorem wq_152 : Cond.sameMethod RX3 RX3 "drips" "(ILIceKeys$Deed;)I" ∈ gBIG := gm_of (gs5 _ (List.mem_of_getElem? (l := tables_1_5) (i := 60) rfl)) rfl
theorem wq_153 : Cond.superclass RX2 RX3 ∈ gBIG := gm_of (gs1 _ (List.mem_of_getElem? (l := tables_1_1) (i := 46) rfl)) rfl
theorem wq_154 : Cond.instanceMethod yX3_drips ∈ gBIG := gm_of (gs5 _ (List.mem_of_getElem? (l := tables_1_5) (i := 58) rfl)) rfl
theorem wq_155 : Cond.methodLink RX3 7 yX0_ran ∈ gBIG := gm_of (gs5 _ (List.mem_of_getElem? (l := tables_1_5) (i := 80) rfl)) rfl
theorem wq_156 : Cond.methodLink RX10 20 yX0_ran ∈ gBIG := gm_of (gs5 _ (List.mem_of_getElem? (l := tables_1_5) (i := 75) rfl)) rfl
theorem wq_157 : Cond.methodLink RX10 26 ⟨"IceKeys$Sleeve", "drips", "(ILIceKeys$Deed;)I"⟩ ∈ gBIG := gm_of (gs5 _ (List.mem_of_getElem? (l := tables_1_5) (i := 76) rfl)) rfl
theorem wq_158 : Cond.sameMethod "IceKeys$Sleeve" "IceKeys$Key" "drips" "(ILIceKeys$Deed;)I" ∈ gBIG := gm_of (gs5 _ (List.mem_of_getElem? (l := tables_1_5) (i := 77) rfl)) rfl
theorem wq_159 : Cond.superclass RX10 "IceKeys$Sleeve" ∈ gBIG := gm_of (gs1 _ (List.mem_of_getElem? (l := tables_1_1) (i := 60) rfl)) rfl
theorem wq_160 : Cond.superclass "IceKeys$Sleeve" "IceKeys$Key" ∈ gBIG := gm_of (gs1 _ (List.mem_of_getElem? (l := tables_1_1) (i := 53) rfl)) rfl
theorem wq_161 : Cond.code yX2_drips cX2_drips 3 (some .int) ∈ gBIG := gm_of (gs5 _ (List.mem_of_getElem? (l := tables_1_5) (i := 63) rfl)) rfl
theorem wq_162 : Cond.methodLink RX3 17 yX3_drips ∈ gBIG := gm_of (gs5 _ (List.mem_of_getElem? (l := tables_1_5) (i := 101) rfl)) rfl
theorem wq_163 : Cond.selects RX2 yX3_drips yX2_drips ∈ gBIG := gm_of (gs5 _ (List.mem_of_getElem? (l := tables_1_5) (i := 61) rfl)) rfl
theorem wq_164 : Cond.instanceMethod yX2_drips ∈ gBIG := gm_of (gs5 _ (List.mem_of_getElem? (l := tables_1_5) (i := 62) rfl)) rfl
theorem wq_165 : Cond.selects RX3 yX3_drips yX3_drips ∈ gBIG := gm_of (gs5 _ (List.mem_of_getElem? (l := tables_1_5) (i := 59) rfl)) rfl
theorem wq_166 : Cond.selects RX7 yX3_drips yX3_drips ∈ gBIG := gm_of (gs5 _ (List.mem_of_getElem? (l := tables_1_5) (i := 69) rfl)) rfl
theorem wq_167 : Cond.selects RX8 yX3_drips yX3_drips ∈ gBIG := gm_of (gs5 _ (List.mem_of_getElem? (l := tables_1_5) (i := 70) rfl)) rfl
theorem wq_168 : Cond.selects RX9 yX3_drips yX3_drips ∈ gBIG := gm_of (gs5 _ (List.mem_of_getElem? (l := tables_1_5) (i := 71) rfl)) rfl
theorem wq_169 : Cond.code yX10_drips cX10_drips 3 (some .int) ∈ gBIG := gm_of (gs5 _ (List.mem_of_getElem? (l := tables_1_5) (i := 74) rfl)) rfl
theorem wq_170 : Cond.selects RX10 yX3_drips yX10_drips ∈ gBIG := gm_of (gs5 _ (List.mem_of_getElem? (l := tables_1_5) (i := 72) rfl)) rfl
theorem wq_171 : Cond.instanceMethod yX10_drips ∈ gBIG := gm_of (gs5 _ (List.mem_of_getElem? (l := tables_1_5) (i := 73) rfl)) rfl
theorem wq_172 : Cond.methodLink RX7 7 yX0_ran ∈ gBIG := gm_of (gs5 _ (List.mem_of_getElem? (l := tables_1_5) (i := 110) rfl)) rfl
theorem wq_173 : Cond.code yX3_halves cX3_halves 3 (some .int) ∈ gBIG := gm_of (gs5 _ (List.mem_of_getElem? (l := tables_1_5) (i := 121) rfl)) rfl
theorem wq_174 : Cond.methodLink RX7 13 yX3_halves ∈ gBIG := gm_of (gs5 _ (List.mem_of_getElem? (l := tables_1_5) (i := 111) rfl)) rfl
theorem wq_175 : Cond.sameMethod RX3 RX3 "halves" "(ILIceKeys$Deed;)I" ∈ gBIG := gm_of (gs5 _ (List.mem_of_getElem? (l := tables_1_5) (i := 105) rfl)) rfl
theorem wq_176 : Cond.superclass RX7 RX3 ∈ gBIG := gm_of (gs1 _ (List.mem_of_getElem? (l := tables_1_1) (i := 67) rfl)) rfl
theorem wq_177 : Cond.instanceMethod yX3_halves ∈ gBIG := gm_of (gs5 _ (List.mem_of_getElem? (l := tables_1_5) (i := 103) rfl)) rfl
theorem wq_178 : Cond.methodLink RX3 26 yX0_leave ∈ gBIG := gm_of (gs5 _ (List.mem_of_getElem? (l := tables_1_5) (i := 122) rfl)) rfl
theorem wq_179 : Cond.code yX0_leave cX0_leave 3 (some .int) ∈ gBIG := gm_of (gs5 _ (List.mem_of_getElem? (l := tables_1_5) (i := 125) rfl)) rfl
theorem wq_180 : Cond.instanceMethod yX0_leave ∈ gBIG := gm_of (gs5 _ (List.mem_of_getElem? (l := tables_1_5) (i := 123) rfl)) rfl
theorem wq_181 : Cond.selects RX0 yX0_leave yX0_leave ∈ gBIG := gm_of (gs5 _ (List.mem_of_getElem? (l := tables_1_5) (i := 124) rfl)) rfl
theorem wq_182 : Cond.methodLink RX8 17 yX0_ran ∈ gBIG := gm_of (gs5 _ (List.mem_of_getElem? (l := tables_1_5) (i := 90) rfl)) rfl
theorem wq_183 : Cond.code yX3_turns cX3_turns 3 (some .int) ∈ gBIG := gm_of (gs5 _ (List.mem_of_getElem? (l := tables_1_5) (i := 100) rfl)) rfl
theorem wq_184 : Cond.methodLink RX8 23 yX3_turns ∈ gBIG := gm_of (gs5 _ (List.mem_of_getElem? (l := tables_1_5) (i := 91) rfl)) rfl
theorem wq_185 : Cond.sameMethod RX3 RX3 "turns" "(ILIceKeys$Deed;)I" ∈ gBIG := gm_of (gs5 _ (List.mem_of_getElem? (l := tables_1_5) (i := 84) rfl)) rfl
theorem wq_186 : Cond.instanceMethod yX3_turns ∈ gBIG := gm_of (gs5 _ (List.mem_of_getElem? (l := tables_1_5) (i := 82) rfl)) rfl
theorem wq_187 : Cond.methodLink RX9 20 yX0_ran ∈ gBIG := gm_of (gs5 _ (List.mem_of_getElem? (l := tables_1_5) (i := 95) rfl)) rfl
theorem wq_188 : Cond.methodLink RX9 26 ⟨"IceKeys$Salt", "turns", "(ILIceKeys$Deed;)I"⟩ ∈ gBIG := gm_of (gs5 _ (List.mem_of_getElem? (l := tables_1_5) (i := 96) rfl)) rfl
theorem wq_189 : Cond.sameMethod "IceKeys$Salt" "IceKeys$Key" "turns" "(ILIceKeys$Deed;)I" ∈ gBIG := gm_of (gs5 _ (List.mem_of_getElem? (l := tables_1_5) (i := 97) rfl)) rfl
theorem wq_190 : Cond.superclass RX9 "IceKeys$Salt" ∈ gBIG := gm_of (gs1 _ (List.mem_of_getElem? (l := tables_1_1) (i := 74) rfl)) rfl
theorem wq_191 : Cond.superclass "IceKeys$Salt" "IceKeys$Key" ∈ gBIG := gm_of (gs1 _ (List.mem_of_getElem? (l := tables_1_1) (i := 67) rfl)) rfl
theorem wq_192 : Cond.code yX7_halves cX7_halves 3 (some .int) ∈ gBIG := gm_of (gs5 _ (List.mem_of_getElem? (l := tables_1_5) (i := 109) rfl)) rfl
theorem wq_193 : Cond.methodLink RX9 30 yX7_halves ∈ gBIG := gm_of (gs5 _ (List.mem_of_getElem? (l := tables_1_5) (i := 116) rfl)) rfl
theorem wq_194 : Cond.sameMethod RX7 RX7 "halves" "(ILIceKeys$Deed;)I" ∈ gBIG := gm_of (gs8 _ (List.mem_of_getElem? (l := tables_1_8) (i := 72) rfl)) rfl
theorem wq_195 : Cond.instanceMethod yX7_halves ∈ gBIG := gm_of (gs5 _ (List.mem_of_getElem? (l := tables_1_5) (i := 108) rfl)) rfl
theorem wq_196 : Cond.methodLink RX9 37 ⟨"IceKeys$Spare", "drips", "(ILIceKeys$Deed;)I"⟩ ∈ gBIG := gm_of (gs5 _ (List.mem_of_getElem? (l := tables_1_5) (i := 117) rfl)) rfl
theorem wq_197 : Cond.sameMethod "IceKeys$Spare" "IceKeys$Key" "drips" "(ILIceKeys$Deed;)I" ∈ gBIG := gm_of (gs5 _ (List.mem_of_getElem? (l := tables_1_5) (i := 118) rfl)) rfl
theorem wq_198 : Cond.selects RX9 ⟨"IceKeys$Spare", "drips", "(ILIceKeys$Deed;)I"⟩ yX3_drips ∈ gBIG := gm_of (gs5 _ (List.mem_of_getElem? (l := tables_1_5) (i := 119) rfl)) rfl
theorem wq_199 : Cond.methodLink RX4 25 yX1_isOver ∈ gBIG := gm_of (gs4 _ (List.mem_of_getElem? (l := tables_1_4) (i := 95) rfl)) rfl
theorem wq_200 : Cond.code yX1_isOver cX1_isOver 1 (some .boolean) ∈ gBIG := gm_of (gs3 _ (List.mem_of_getElem? (l := tables_1_3) (i := 45) rfl)) rfl
theorem wq_201 : Cond.instanceMethod yX1_isOver ∈ gBIG := gm_of (gs3 _ (List.mem_of_getElem? (l := tables_1_3) (i := 43) rfl)) rfl
theorem wq_202 : Cond.selects RX1 yX1_isOver yX1_isOver ∈ gBIG := gm_of (gs3 _ (List.mem_of_getElem? (l := tables_1_3) (i := 44) rfl)) rfl
theorem wq_203 : Cond.methodLink RX1 66 arraycopyName ∈ gBIG := gm_of (gs4 _ (List.mem_of_getElem? (l := tables_1_4) (i := 14) rfl)) rfl
theorem wq_204 : Cond.methodLink RX5 68 yX5_isDigit ∈ gBIG := gm_of (gs3 _ (List.mem_of_getElem? (l := tables_1_3) (i := 139) rfl)) rfl
theorem wq_205 : Cond.code yX5_isDigit cX5_isDigit 1 (some .boolean) ∈ gBIG := gm_of (gs3 _ (List.mem_of_getElem? (l := tables_1_3) (i := 141) rfl)) rfl
theorem wq_206 : Cond.initialized RX5 ∈ gBIG := gm_of (gs1 _ (List.mem_of_getElem? (l := tables_1_1) (i := 11) rfl)) rfl
theorem wq_207 : Cond.static yX5_isDigit ∈ gBIG := gm_of (gs3 _ (List.mem_of_getElem? (l := tables_1_3) (i := 140) rfl)) rfl
theorem wq_208 : Cond.methodLink RX5 152 yX6_addCode ∈ gBIG := gm_of (gs3 _ (List.mem_of_getElem? (l := tables_1_3) (i := 170) rfl)) rfl
theorem wq_209 : Cond.code yX6_addCode cX6_addCode 2 none ∈ gBIG := gm_of (gs3 _ (List.mem_of_getElem? (l := tables_1_3) (i := 173) rfl)) rfl
theorem wq_210 : Cond.instanceMethod yX6_addCode ∈ gBIG := gm_of (gs3 _ (List.mem_of_getElem? (l := tables_1_3) (i := 171) rfl)) rfl
theorem wq_211 : Cond.selects RX6 yX6_addCode yX6_addCode ∈ gBIG := gm_of (gs3 _ (List.mem_of_getElem? (l := tables_1_3) (i := 172) rfl)) rfl
theorem wq_212 : Cond.methodLink RX5 133 yX5_endCondition ∈ gBIG := gm_of (gs3 _ (List.mem_of_getElem? (l := tables_1_3) (i := 166) rfl)) rfl
theorem wq_213 : Cond.code yX5_endCondition cX5_endCondition 1 none ∈ gBIG := gm_of (gs3 _ (List.mem_of_getElem? (l := tables_1_3) (i := 169) rfl)) rfl
theorem wq_214 : Cond.instanceMethod yX5_endCondition ∈ gBIG := gm_of (gs3 _ (List.mem_of_getElem? (l := tables_1_3) (i := 168) rfl)) rfl
theorem wq_215 : Cond.selects RX5 yX5_endCondition yX5_endCondition ∈ gBIG := gm_of (gs0 _ (List.mem_of_getElem? (l := (k2_sels lw_privs)) (i := 14) rfl)) rfl
theorem wq_216 : Cond.methodLink RX5 136 yX6_addRule ∈ gBIG := gm_of (gs3 _ (List.mem_of_getElem? (l := tables_1_3) (i := 174) rfl)) rfl
theorem wq_217 : Cond.code yX6_addRule cX6_addRule 3 none ∈ gBIG := gm_of (gs3 _ (List.mem_of_getElem? (l := tables_1_3) (i := 177) rfl)) rfl
theorem wq_218 : Cond.instanceMethod yX6_addRule ∈ gBIG := gm_of (gs3 _ (List.mem_of_getElem? (l := tables_1_3) (i := 175) rfl)) rfl
theorem wq_219 : Cond.selects RX6 yX6_addRule yX6_addRule ∈ gBIG := gm_of (gs3 _ (List.mem_of_getElem? (l := tables_1_3) (i := 176) rfl)) rfl
theorem wq_220 : Cond.methodLink RX5 140 yX5_isValue ∈ gBIG := gm_of (gs3 _ (List.mem_of_getElem? (l := tables_1_3) (i := 182) rfl)) rfl
theorem wq_221 : Cond.code yX5_isValue cX5_isValue 1 (some .boolean) ∈ gBIG := gm_of (gs3 _ (List.mem_of_getElem? (l := tables_1_3) (i := 185) rfl)) rfl
theorem wq_222 : Cond.instanceMethod yX5_isValue ∈ gBIG := gm_of (gs3 _ (List.mem_of_getElem? (l := tables_1_3) (i := 184) rfl)) rfl
theorem wq_223 : Cond.selects RX5 yX5_isValue yX5_isValue ∈ gBIG := gm_of (gs0 _ (List.mem_of_getElem? (l := (k2_sels lw_privs)) (i := 16) rfl)) rfl
theorem wq_224 : Cond.methodLink RX5 143 yX5_value ∈ gBIG := gm_of (gs3 _ (List.mem_of_getElem? (l := tables_1_3) (i := 186) rfl)) rfl
theorem wq_225 : Cond.code yX5_value cX5_value 1 (some .int) ∈ gBIG := gm_of (gs3 _ (List.mem_of_getElem? (l := tables_1_3) (i := 189) rfl)) rfl
theorem wq_226 : Cond.instanceMethod yX5_value ∈ gBIG := gm_of (gs3 _ (List.mem_of_getElem? (l := tables_1_3) (i := 188) rfl)) rfl
theorem wq_227 : Cond.selects RX5 yX5_value yX5_value ∈ gBIG := gm_of (gs0 _ (List.mem_of_getElem? (l := (k2_sels lw_privs)) (i := 17) rfl)) rfl
theorem wq_228 : Cond.methodLink RX5 156 yX5_endOne ∈ gBIG := gm_of (gs3 _ (List.mem_of_getElem? (l := tables_1_3) (i := 198) rfl)) rfl
theorem wq_229 : Cond.code yX5_endOne cX5_endOne 1 none ∈ gBIG := gm_of (gs3 _ (List.mem_of_getElem? (l := tables_1_3) (i := 201) rfl)) rfl
theorem wq_230 : Cond.instanceMethod yX5_endOne ∈ gBIG := gm_of (gs3 _ (List.mem_of_getElem? (l := tables_1_3) (i := 200) rfl)) rfl
theorem wq_231 : Cond.selects RX5 yX5_endOne yX5_endOne ∈ gBIG := gm_of (gs0 _ (List.mem_of_getElem? (l := (k2_sels lw_privs)) (i := 20) rfl)) rfl
theorem wq_232 : Cond.methodLink RX5 102 yX5_takesDo ∈ gBIG := gm_of (gs3 _ (List.mem_of_getElem? (l := tables_1_3) (i := 162) rfl)) rfl
theorem wq_233 : Cond.code yX5_takesDo cX5_takesDo 1 (some .boolean) ∈ gBIG := gm_of (gs3 _ (List.mem_of_getElem? (l := tables_1_3) (i := 165) rfl)) rfl
theorem wq_234 : Cond.instanceMethod yX5_takesDo ∈ gBIG := gm_of (gs3 _ (List.mem_of_getElem? (l := tables_1_3) (i := 164) rfl)) rfl
theorem wq_235 : Cond.selects RX5 yX5_takesDo yX5_takesDo ∈ gBIG := gm_of (gs0 _ (List.mem_of_getElem? (l := (k2_sels lw_privs)) (i := 13) rfl)) rfl
theorem wq_236 : Cond.methodLink RX5 55 yX6_clear ∈ gBIG := gm_of (gs3 _ (List.mem_of_getElem? (l := tables_1_3) (i := 71) rfl)) rfl
theorem wq_237 : Cond.code yX6_clear cX6_clear 1 none ∈ gBIG := gm_of (gs3 _ (List.mem_of_getElem? (l := tables_1_3) (i := 74) rfl)) rfl
theorem wq_238 : Cond.instanceMethod yX6_clear ∈ gBIG := gm_of (gs3 _ (List.mem_of_getElem? (l := tables_1_3) (i := 72) rfl)) rfl
theorem wq_239 : Cond.selects RX6 yX6_clear yX6_clear ∈ gBIG := gm_of (gs3 _ (List.mem_of_getElem? (l := tables_1_3) (i := 73) rfl)) rfl
theorem wq_240 : Cond.methodLink RX5 61 yX5_isLetter ∈ gBIG := gm_of (gs3 _ (List.mem_of_getElem? (l := tables_1_3) (i := 79) rfl)) rfl
theorem wq_241 : Cond.code yX5_isLetter cX5_isLetter 1 (some .boolean) ∈ gBIG := gm_of (gs3 _ (List.mem_of_getElem? (l := tables_1_3) (i := 81) rfl)) rfl
theorem wq_242 : Cond.static yX5_isLetter ∈ gBIG := gm_of (gs3 _ (List.mem_of_getElem? (l := tables_1_3) (i := 80) rfl)) rfl
theorem wq_243 : Cond.methodLink RX5 65 yX5_nextName ∈ gBIG := gm_of (gs3 _ (List.mem_of_getElem? (l := tables_1_3) (i := 82) rfl)) rfl
theorem wq_244 : Cond.code yX5_nextName cX5_nextName 4 none ∈ gBIG := gm_of (gs3 _ (List.mem_of_getElem? (l := tables_1_3) (i := 85) rfl)) rfl
theorem wq_245 : Cond.instanceMethod yX5_nextName ∈ gBIG := gm_of (gs3 _ (List.mem_of_getElem? (l := tables_1_3) (i := 84) rfl)) rfl
theorem wq_246 : Cond.selects RX5 yX5_nextName yX5_nextName ∈ gBIG := gm_of (gs0 _ (List.mem_of_getElem? (l := (k2_sels lw_privs)) (i := 7) rfl)) rfl
theorem wq_247 : Cond.methodLink RX5 71 yX5_nextNumber ∈ gBIG := gm_of (gs3 _ (List.mem_of_getElem? (l := tables_1_3) (i := 142) rfl)) rfl
theorem wq_248 : Cond.code yX5_nextNumber cX5_nextNumber 1 none ∈ gBIG := gm_of (gs3 _ (List.mem_of_getElem? (l := tables_1_3) (i := 145) rfl)) rfl
theorem wq_249 : Cond.instanceMethod yX5_nextNumber ∈ gBIG := gm_of (gs3 _ (List.mem_of_getElem? (l := tables_1_3) (i := 144) rfl)) rfl
theorem wq_250 : Cond.selects RX5 yX5_nextNumber yX5_nextNumber ∈ gBIG := gm_of (gs0 _ (List.mem_of_getElem? (l := (k2_sels lw_privs)) (i := 9) rfl)) rfl
theorem wq_251 : Cond.methodLink RX5 74 yX5_isMark ∈ gBIG := gm_of (gs3 _ (List.mem_of_getElem? (l := tables_1_3) (i := 146) rfl)) rfl
theorem wq_252 : Cond.code yX5_isMark cX5_isMark 1 (some .boolean) ∈ gBIG := gm_of (gs3 _ (List.mem_of_getElem? (l := tables_1_3) (i := 148) rfl)) rfl
theorem wq_253 : Cond.static yX5_isMark ∈ gBIG := gm_of (gs3 _ (List.mem_of_getElem? (l := tables_1_3) (i := 147) rfl)) rfl
theorem wq_254 : Cond.methodLink RX5 96 yX5_takesKind ∈ gBIG := gm_of (gs3 _ (List.mem_of_getElem? (l := tables_1_3) (i := 153) rfl)) rfl
theorem wq_255 : Cond.code yX5_takesKind cX5_takesKind 1 (some .boolean) ∈ gBIG := gm_of (gs3 _ (List.mem_of_getElem? (l := tables_1_3) (i := 156) rfl)) rfl
theorem wq_256 : Cond.instanceMethod yX5_takesKind ∈ gBIG := gm_of (gs3 _ (List.mem_of_getElem? (l := tables_1_3) (i := 155) rfl)) rfl
theorem wq_257 : Cond.selects RX5 yX5_takesKind yX5_takesKind ∈ gBIG := gm_of (gs0 _ (List.mem_of_getElem? (l := (k2_sels lw_privs)) (i := 11) rfl)) rfl
theorem wq_258 : Cond.methodLink RX5 99 yX5_takesIf ∈ gBIG := gm_of (gs3 _ (List.mem_of_getElem? (l := tables_1_3) (i := 158) rfl)) rfl
theorem wq_259 : Cond.code yX5_takesIf cX5_takesIf 1 (some .boolean) ∈ gBIG := gm_of (gs3 _ (List.mem_of_getElem? (l := tables_1_3) (i := 161) rfl)) rfl
theorem wq_260 : Cond.instanceMethod yX5_takesIf ∈ gBIG := gm_of (gs3 _ (List.mem_of_getElem? (l := tables_1_3) (i := 160) rfl)) rfl
theorem wq_261 : Cond.selects RX5 yX5_takesIf yX5_takesIf ∈ gBIG := gm_of (gs0 _ (List.mem_of_getElem? (l := (k2_sels lw_privs)) (i := 12) rfl)) rfl
theorem wq_262 : Cond.methodLink RX5 105 yX5_takesOne ∈ gBIG := gm_of (gs3 _ (List.mem_of_getElem? (l := tables_1_3) (i := 178) rfl)) rfl
theorem wq_263 : Cond.code yX5_takesOne cX5_takesOne 1 (some .boolean) ∈ gBIG := gm_of (gs3 _ (List.mem_of_getElem? (l := tables_1_3) (i := 181) rfl)) rfl
theorem wq_264 : Cond.instanceMethod yX5_takesOne ∈ gBIG := gm_of (gs3 _ (List.mem_of_getElem? (l := tables_1_3) (i := 180) rfl)) rfl
theorem wq_265 : Cond.selects RX5 yX5_takesOne yX5_takesOne ∈ gBIG := gm_of (gs0 _ (List.mem_of_getElem? (l := (k2_sels lw_privs)) (i := 15) rfl)) rfl
theorem wq_266 : Cond.methodLink RX5 108 yX5_takesSign ∈ gBIG := gm_of (gs3 _ (List.mem_of_getElem? (l := tables_1_3) (i := 190) rfl)) rfl
theorem wq_267 : Cond.code yX5_takesSign cX5_takesSign 1 (some .boolean) ∈ gBIG := gm_of (gs3 _ (List.mem_of_getElem? (l := tables_1_3) (i := 193) rfl)) rfl
theorem wq_268 : Cond.instanceMethod yX5_takesSign ∈ gBIG := gm_of (gs3 _ (List.mem_of_getElem? (l := tables_1_3) (i := 192) rfl)) rfl
theorem wq_269 : Cond.selects RX5 yX5_takesSign yX5_takesSign ∈ gBIG := gm_of (gs0 _ (List.mem_of_getElem? (l := (k2_sels lw_privs)) (i := 18) rfl)) rfl
theorem wq_270 : Cond.methodLink RX5 111 yX5_takesRight ∈ gBIG := gm_of (gs3 _ (List.mem_of_getElem? (l := tables_1_3) (i := 194) rfl)) rfl
theorem wq_271 : Cond.code yX5_takesRight cX5_takesRight 1 (some .boolean) ∈ gBIG := gm_of (gs3 _ (List.mem_of_getElem? (l := tables_1_3) (i := 197) rfl)) rfl
theorem wq_272 : Cond.instanceMethod yX5_takesRight ∈ gBIG := gm_of (gs3 _ (List.mem_of_getElem? (l := tables_1_3) (i := 196) rfl)) rfl
theorem wq_273 : Cond.selects RX5 yX5_takesRight yX5_takesRight ∈ gBIG := gm_of (gs0 _ (List.mem_of_getElem? (l := (k2_sels lw_privs)) (i := 19) rfl)) rfl
theorem wq_274 : Cond.methodLink RX5 114 yX5_takesJoin ∈ gBIG := gm_of (gs3 _ (List.mem_of_getElem? (l := tables_1_3) (i := 202) rfl)) rfl
theorem wq_275 : Cond.code yX5_takesJoin cX5_takesJoin 1 (some .boolean) ∈ gBIG := gm_of (gs3 _ (List.mem_of_getElem? (l := tables_1_3) (i := 205) rfl)) rfl
theorem wq_276 : Cond.instanceMethod yX5_takesJoin ∈ gBIG := gm_of (gs3 _ (List.mem_of_getElem? (l := tables_1_3) (i := 204) rfl)) rfl
theorem wq_277 : Cond.selects RX5 yX5_takesJoin yX5_takesJoin ∈ gBIG := gm_of (gs0 _ (List.mem_of_getElem? (l := (k2_sels lw_privs)) (i := 21) rfl)) rfl
theorem wq_278 : Cond.methodLink RX5 117 yX5_takesRuleEnd ∈ gBIG := gm_of (gs3 _ (List.mem_of_getElem? (l := tables_1_3) (i := 206) rfl)) rfl
theorem wq_279 : Cond.code yX5_takesRuleEnd cX5_takesRuleEnd 1 (some .boolean) ∈ gBIG := gm_of (gs3 _ (List.mem_of_getElem? (l := tables_1_3) (i := 209) rfl)) rfl
theorem wq_280 : Cond.instanceMethod yX5_takesRuleEnd ∈ gBIG := gm_of (gs3 _ (List.mem_of_getElem? (l := tables_1_3) (i := 208) rfl)) rfl
theorem wq_281 : Cond.selects RX5 yX5_takesRuleEnd yX5_takesRuleEnd ∈ gBIG := gm_of (gs0 _ (List.mem_of_getElem? (l := (k2_sels lw_privs)) (i := 22) rfl)) rfl
theorem wq_282 : Cond.methodLink RX11 90 yX11_isIn ∈ gBIG := gm_of (gs2 _ (List.mem_of_getElem? (l := tables_1_2) (i := 103) rfl)) rfl
theorem wq_283 : Cond.methodLink RX11 116 yX1_isTurned ∈ gBIG := gm_of (gs2 _ (List.mem_of_getElem? (l := tables_1_2) (i := 117) rfl)) rfl
theorem wq_284 : Cond.methodLink RX11 143 yX1_setTurned ∈ gBIG := gm_of (gs3 _ (List.mem_of_getElem? (l := tables_1_3) (i := 10) rfl)) rfl
theorem wq_285 : Cond.methodLink RX5 36 yX5_begin ∈ gBIG := gm_of (gs3 _ (List.mem_of_getElem? (l := tables_1_3) (i := 67) rfl)) rfl
theorem wq_286 : Cond.code yX5_begin cX5_begin 2 none ∈ gBIG := gm_of (gs3 _ (List.mem_of_getElem? (l := tables_1_3) (i := 70) rfl)) rfl
theorem wq_287 : Cond.instanceMethod yX5_begin ∈ gBIG := gm_of (gs3 _ (List.mem_of_getElem? (l := tables_1_3) (i := 69) rfl)) rfl
theorem wq_288 : Cond.selects RX5 yX5_begin yX5_begin ∈ gBIG := gm_of (gs0 _ (List.mem_of_getElem? (l := (k2_sels lw_privs)) (i := 5) rfl)) rfl
theorem wq_289 : Cond.methodLink RX5 39 yX5_next ∈ gBIG := gm_of (gs3 _ (List.mem_of_getElem? (l := tables_1_3) (i := 75) rfl)) rfl
theorem wq_290 : Cond.code yX5_next cX5_next 1 none ∈ gBIG := gm_of (gs3 _ (List.mem_of_getElem? (l := tables_1_3) (i := 78) rfl)) rfl
theorem wq_291 : Cond.instanceMethod yX5_next ∈ gBIG := gm_of (gs3 _ (List.mem_of_getElem? (l := tables_1_3) (i := 77) rfl)) rfl
theorem wq_292 : Cond.selects RX5 yX5_next yX5_next ∈ gBIG := gm_of (gs0 _ (List.mem_of_getElem? (l := (k2_sels lw_privs)) (i := 6) rfl)) rfl
theorem wq_293 : Cond.methodLink RX5 48 yX5_takes ∈ gBIG := gm_of (gs3 _ (List.mem_of_getElem? (l := tables_1_3) (i := 149) rfl)) rfl
theorem wq_294 : Cond.code yX5_takes cX5_takes 1 (some .boolean) ∈ gBIG := gm_of (gs3 _ (List.mem_of_getElem? (l := tables_1_3) (i := 152) rfl)) rfl
theorem wq_295 : Cond.instanceMethod yX5_takes ∈ gBIG := gm_of (gs3 _ (List.mem_of_getElem? (l := tables_1_3) (i := 151) rfl)) rfl
theorem wq_296 : Cond.selects RX5 yX5_takes yX5_takes ∈ gBIG := gm_of (gs0 _ (List.mem_of_getElem? (l := (k2_sels lw_privs)) (i := 10) rfl)) rfl
theorem wq_297 : Cond.methodLink RX1 137 yX1_tell ∈ gBIG := gm_of (gs3 _ (List.mem_of_getElem? (l := tables_1_3) (i := 230) rfl)) rfl
theorem wq_298 : Cond.code yX1_tell cX1_tell 5 (some .int) ∈ gBIG := gm_of (gs3 _ (List.mem_of_getElem? (l := tables_1_3) (i := 233) rfl)) rfl
theorem wq_299 : Cond.instanceMethod yX1_tell ∈ gBIG := gm_of (gs3 _ (List.mem_of_getElem? (l := tables_1_3) (i := 231) rfl)) rfl
theorem wq_300 : Cond.selects RX1 yX1_tell yX1_tell ∈ gBIG := gm_of (gs3 _ (List.mem_of_getElem? (l := tables_1_3) (i := 232) rfl)) rfl
theorem wq_301 : Cond.methodLink RX1 140 yX1_melt ∈ gBIG := gm_of (gs3 _ (List.mem_of_getElem? (l := tables_1_3) (i := 237) rfl)) rfl
theorem wq_302 : Cond.code yX1_melt cX1_melt 3 (some .int) ∈ gBIG := gm_of (gs4 _ (List.mem_of_getElem? (l := tables_1_4) (i := 0) rfl)) rfl
theorem wq_303 : Cond.instanceMethod yX1_melt ∈ gBIG := gm_of (gs3 _ (List.mem_of_getElem? (l := tables_1_3) (i := 238) rfl)) rfl
theorem wq_304 : Cond.selects RX1 yX1_melt yX1_melt ∈ gBIG := gm_of (gs3 _ (List.mem_of_getElem? (l := tables_1_3) (i := 239) rfl)) rfl
theorem wq_305 : Cond.methodLink RX1 153 yX1_isOver ∈ gBIG := gm_of (gs4 _ (List.mem_of_getElem? (l := tables_1_4) (i := 19) rfl)) rfl
theorem wq_306 : Cond.methodLink RX1 157 yX1_restAct ∈ gBIG := gm_of (gs4 _ (List.mem_of_getElem? (l := tables_1_4) (i := 20) rfl)) rfl
theorem wq_307 : Cond.code yX1_restAct cX1_restAct 2 (some .int) ∈ gBIG := gm_of (gs3 _ (List.mem_of_getElem? (l := tables_1_3) (i := 225) rfl)) rfl
theorem wq_308 : Cond.instanceMethod yX1_restAct ∈ gBIG := gm_of (gs3 _ (List.mem_of_getElem? (l := tables_1_3) (i := 223) rfl)) rfl
theorem wq_309 : Cond.selects RX1 yX1_restAct yX1_restAct ∈ gBIG := gm_of (gs3 _ (List.mem_of_getElem? (l := tables_1_3) (i := 224) rfl)) rfl
theorem wq_310 : Cond.methodLink RX11 212 yX1_save ∈ gBIG := gm_of (gs4 _ (List.mem_of_getElem? (l := tables_1_4) (i := 10) rfl)) rfl
theorem wq_311 : Cond.code yX1_save cX1_save 3 none ∈ gBIG := gm_of (gs4 _ (List.mem_of_getElem? (l := tables_1_4) (i := 13) rfl)) rfl
theorem wq_312 : Cond.instanceMethod yX1_save ∈ gBIG := gm_of (gs4 _ (List.mem_of_getElem? (l := tables_1_4) (i := 11) rfl)) rfl
theorem wq_313 : Cond.selects RX1 yX1_save yX1_save ∈ gBIG := gm_of (gs4 _ (List.mem_of_getElem? (l := tables_1_4) (i := 12) rfl)) rfl
theorem wq_314 : Cond.methodLink RX11 215 yX1_goRest ∈ gBIG := gm_of (gs4 _ (List.mem_of_getElem? (l := tables_1_4) (i := 15) rfl)) rfl
theorem wq_315 : Cond.code yX1_goRest cX1_goRest 4 (some .int) ∈ gBIG := gm_of (gs4 _ (List.mem_of_getElem? (l := tables_1_4) (i := 18) rfl)) rfl
theorem wq_316 : Cond.instanceMethod yX1_goRest ∈ gBIG := gm_of (gs4 _ (List.mem_of_getElem? (l := tables_1_4) (i := 16) rfl)) rfl
theorem wq_317 : Cond.selects RX1 yX1_goRest yX1_goRest ∈ gBIG := gm_of (gs4 _ (List.mem_of_getElem? (l := tables_1_4) (i := 17) rfl)) rfl
theorem wq_318 : Cond.methodLink RX11 218 yX1_restore ∈ gBIG := gm_of (gs4 _ (List.mem_of_getElem? (l := tables_1_4) (i := 21) rfl)) rfl
theorem wq_319 : Cond.code yX1_restore cX1_restore 3 none ∈ gBIG := gm_of (gs4 _ (List.mem_of_getElem? (l := tables_1_4) (i := 24) rfl)) rfl
theorem wq_320 : Cond.instanceMethod yX1_restore ∈ gBIG := gm_of (gs4 _ (List.mem_of_getElem? (l := tables_1_4) (i := 22) rfl)) rfl
theorem wq_321 : Cond.selects RX1 yX1_restore yX1_restore ∈ gBIG := gm_of (gs4 _ (List.mem_of_getElem? (l := tables_1_4) (i := 23) rfl)) rfl
theorem wq_322 : Cond.methodLink RX1 164 yX1_isCloseToSome ∈ gBIG := gm_of (gs4 _ (List.mem_of_getElem? (l := tables_1_4) (i := 66) rfl)) rfl
theorem wq_323 : Cond.code yX1_isCloseToSome cX1_isCloseToSome 4 (some .boolean) ∈ gBIG := gm_of (gs4 _ (List.mem_of_getElem? (l := tables_1_4) (i := 69) rfl)) rfl
theorem wq_324 : Cond.instanceMethod yX1_isCloseToSome ∈ gBIG := gm_of (gs4 _ (List.mem_of_getElem? (l := tables_1_4) (i := 68) rfl)) rfl
theorem wq_325 : Cond.selects RX1 yX1_isCloseToSome yX1_isCloseToSome ∈ gBIG := gm_of (gs0 _ (List.mem_of_getElem? (l := (k2_sels lw_privs)) (i := 26) rfl)) rfl
theorem wq_326 : Cond.methodLink RX11 288 yJ6_bitCount_0f7a4 ∈ gBIG := gm_of (gs4 _ (List.mem_of_getElem? (l := tables_1_4) (i := 74) rfl)) rfl
theorem wq_327 : Cond.code yJ6_bitCount_0f7a4 cJ6_bitCount_0f7a4 1 (some .int) ∈ gBIG := gm_of (gs4 _ (List.mem_of_getElem? (l := tables_1_4) (i := 76) rfl)) rfl
theorem wq_328 : Cond.initialized RJ6 ∈ gBIG := gm_of (gs1 _ (List.mem_of_getElem? (l := tables_1_1) (i := 20) rfl)) rfl
theorem wq_329 : Cond.static yJ6_bitCount_0f7a4 ∈ gBIG := gm_of (gs4 _ (List.mem_of_getElem? (l := tables_1_4) (i := 75) rfl)) rfl
theorem wq_330 : Cond.methodLink RX11 232 yX1_bunchOf ∈ gBIG := gm_of (gs4 _ (List.mem_of_getElem? (l := tables_1_4) (i := 62) rfl)) rfl
theorem wq_331 : Cond.code yX1_bunchOf cX1_bunchOf 5 (some .int) ∈ gBIG := gm_of (gs4 _ (List.mem_of_getElem? (l := tables_1_4) (i := 65) rfl)) rfl
theorem wq_332 : Cond.instanceMethod yX1_bunchOf ∈ gBIG := gm_of (gs4 _ (List.mem_of_getElem? (l := tables_1_4) (i := 63) rfl)) rfl
theorem wq_333 : Cond.selects RX1 yX1_bunchOf yX1_bunchOf ∈ gBIG := gm_of (gs4 _ (List.mem_of_getElem? (l := tables_1_4) (i := 64) rfl)) rfl
theorem wq_334 : Cond.methodLink RX11 235 yX11_leastOf ∈ gBIG := gm_of (gs4 _ (List.mem_of_getElem? (l := tables_1_4) (i := 71) rfl)) rfl
theorem wq_335 : Cond.code yX11_leastOf cX11_leastOf 1 (some .int) ∈ gBIG := gm_of (gs4 _ (List.mem_of_getElem? (l := tables_1_4) (i := 73) rfl)) rfl
theorem wq_336 : Cond.static yX11_leastOf ∈ gBIG := gm_of (gs4 _ (List.mem_of_getElem? (l := tables_1_4) (i := 72) rfl)) rfl
theorem wq_337 : Cond.methodLink RX4 31 yX4_isLast ∈ gBIG := gm_of (gs4 _ (List.mem_of_getElem? (l := tables_1_4) (i := 91) rfl)) rfl
theorem wq_338 : Cond.code yX4_isLast cX4_isLast 3 (some .boolean) ∈ gBIG := gm_of (gs4 _ (List.mem_of_getElem? (l := tables_1_4) (i := 94) rfl)) rfl
theorem wq_339 : Cond.initialized RX4 ∈ gBIG := gm_of (gs1 _ (List.mem_of_getElem? (l := tables_1_1) (i := 10) rfl)) rfl
theorem wq_340 : Cond.instanceMethod yX4_isLast ∈ gBIG := gm_of (gs4 _ (List.mem_of_getElem? (l := tables_1_4) (i := 93) rfl)) rfl
theorem wq_341 : Cond.selects RX4 yX4_isLast yX4_isLast ∈ gBIG := gm_of (gs0 _ (List.mem_of_getElem? (l := (k2_sels lw_privs)) (i := 28) rfl)) rfl
theorem wq_342 : Cond.methodLink RX4 35 yX1_save ∈ gBIG := gm_of (gs4 _ (List.mem_of_getElem? (l := tables_1_4) (i := 96) rfl)) rfl
theorem wq_343 : Cond.methodLink RX4 43 yX1_tell ∈ gBIG := gm_of (gs4 _ (List.mem_of_getElem? (l := tables_1_4) (i := 97) rfl)) rfl
theorem wq_344 : Cond.methodLink RX4 47 yX1_melt ∈ gBIG := gm_of (gs4 _ (List.mem_of_getElem? (l := tables_1_4) (i := 98) rfl)) rfl
theorem wq_345 : Cond.methodLink RX4 51 yX4_seek ∈ gBIG := gm_of (gs4 _ (List.mem_of_getElem? (l := tables_1_4) (i := 99) rfl)) rfl
theorem wq_346 : Cond.code yX4_seek cX4_seek 8 none ∈ gBIG := gm_of (gs4 _ (List.mem_of_getElem? (l := tables_1_4) (i := 90) rfl)) rfl
theorem wq_347 : Cond.instanceMethod yX4_seek ∈ gBIG := gm_of (gs4 _ (List.mem_of_getElem? (l := tables_1_4) (i := 89) rfl)) rfl
theorem wq_348 : Cond.selects RX4 yX4_seek yX4_seek ∈ gBIG := gm_of (gs0 _ (List.mem_of_getElem? (l := (k2_sels lw_privs)) (i := 27) rfl)) rfl
theorem wq_349 : Cond.methodLink RX4 55 yX1_restore ∈ gBIG := gm_of (gs4 _ (List.mem_of_getElem? (l := tables_1_4) (i := 100) rfl)) rfl
theorem wq_350 : Cond.methodLink RX4 58 yX4_weigh ∈ gBIG := gm_of (gs4 _ (List.mem_of_getElem? (l := tables_1_4) (i := 101) rfl)) rfl
theorem wq_351 : Cond.code yX4_weigh cX4_weigh 5 none ∈ gBIG := gm_of (gs4 _ (List.mem_of_getElem? (l := tables_1_4) (i := 104) rfl)) rfl
theorem wq_352 : Cond.instanceMethod yX4_weigh ∈ gBIG := gm_of (gs4 _ (List.mem_of_getElem? (l := tables_1_4) (i := 103) rfl)) rfl
theorem wq_353 : Cond.selects RX4 yX4_weigh yX4_weigh ∈ gBIG := gm_of (gs0 _ (List.mem_of_getElem? (l := (k2_sels lw_privs)) (i := 29) rfl)) rfl
theorem wq_354 : Cond.methodLink RX4 65 yX4_fewest ∈ gBIG := gm_of (gs4 _ (List.mem_of_getElem? (l := tables_1_4) (i := 129) rfl)) rfl
theorem wq_355 : Cond.code yX4_fewest cX4_fewest 8 (some .int) ∈ gBIG := gm_of (gs4 _ (List.mem_of_getElem? (l := tables_1_4) (i := 128) rfl)) rfl
theorem wq_356 : Cond.instanceMethod yX4_fewest ∈ gBIG := gm_of (gs4 _ (List.mem_of_getElem? (l := tables_1_4) (i := 127) rfl)) rfl
theorem wq_357 : Cond.selects RX4 yX4_fewest yX4_fewest ∈ gBIG := gm_of (gs0 _ (List.mem_of_getElem? (l := (k2_sels lw_privs)) (i := 31) rfl)) rfl
theorem wq_358 : Cond.methodLink RX4 69 Lib.Math.min.name ∈ gBIG := gm_of (gs4 _ (List.mem_of_getElem? (l := tables_1_4) (i := 130) rfl)) rfl
theorem wq_359 : Cond.methodLink RX4 75 yX4_reach ∈ gBIG := gm_of (gs4 _ (List.mem_of_getElem? (l := tables_1_4) (i := 139) rfl)) rfl
theorem wq_360 : Cond.code yX4_reach cX4_reach 6 (some .int) ∈ gBIG := gm_of (gs4 _ (List.mem_of_getElem? (l := tables_1_4) (i := 138) rfl)) rfl
theorem wq_361 : Cond.instanceMethod yX4_reach ∈ gBIG := gm_of (gs4 _ (List.mem_of_getElem? (l := tables_1_4) (i := 137) rfl)) rfl
theorem wq_362 : Cond.selects RX4 yX4_reach yX4_reach ∈ gBIG := gm_of (gs0 _ (List.mem_of_getElem? (l := (k2_sels lw_privs)) (i := 32) rfl)) rfl
theorem wq_363 : Cond.methodLink RX4 78 yX4_duel ∈ gBIG := gm_of (gs4 _ (List.mem_of_getElem? (l := tables_1_4) (i := 148) rfl)) rfl
theorem wq_364 : Cond.code yX4_duel cX4_duel 8 (some .int) ∈ gBIG := gm_of (gs4 _ (List.mem_of_getElem? (l := tables_1_4) (i := 147) rfl)) rfl
theorem wq_365 : Cond.instanceMethod yX4_duel ∈ gBIG := gm_of (gs4 _ (List.mem_of_getElem? (l := tables_1_4) (i := 146) rfl)) rfl
theorem wq_366 : Cond.selects RX4 yX4_duel yX4_duel ∈ gBIG := gm_of (gs0 _ (List.mem_of_getElem? (l := (k2_sels lw_privs)) (i := 33) rfl)) rfl
theorem wq_367 : Cond.methodLink RX1 169 yX1_misfitsAt ∈ gBIG := gm_of (gs4 _ (List.mem_of_getElem? (l := tables_1_4) (i := 178) rfl)) rfl
theorem wq_368 : Cond.code yX1_misfitsAt cX1_misfitsAt 8 (some .int) ∈ gBIG := gm_of (gs4 _ (List.mem_of_getElem? (l := tables_1_4) (i := 181) rfl)) rfl
theorem wq_369 : Cond.instanceMethod yX1_misfitsAt ∈ gBIG := gm_of (gs4 _ (List.mem_of_getElem? (l := tables_1_4) (i := 180) rfl)) rfl
theorem wq_370 : Cond.selects RX1 yX1_misfitsAt yX1_misfitsAt ∈ gBIG := gm_of (gs0 _ (List.mem_of_getElem? (l := (k2_sels lw_privs)) (i := 34) rfl)) rfl
theorem wq_371 : Cond.methodLink RX1 161 yX1_drawAct ∈ gBIG := gm_of (gs4 _ (List.mem_of_getElem? (l := tables_1_4) (i := 209) rfl)) rfl
theorem wq_372 : Cond.code yX1_drawAct cX1_drawAct 1 (some .int) ∈ gBIG := gm_of (gs4 _ (List.mem_of_getElem? (l := tables_1_4) (i := 199) rfl)) rfl
theorem wq_373 : Cond.instanceMethod yX1_drawAct ∈ gBIG := gm_of (gs4 _ (List.mem_of_getElem? (l := tables_1_4) (i := 197) rfl)) rfl
theorem wq_374 : Cond.selects RX1 yX1_drawAct yX1_drawAct ∈ gBIG := gm_of (gs4 _ (List.mem_of_getElem? (l := tables_1_4) (i := 198) rfl)) rfl
theorem wq_375 : Cond.methodLink RX11 168 yX1_isOver ∈ gBIG := gm_of (gs3 _ (List.mem_of_getElem? (l := tables_1_3) (i := 42) rfl)) rfl
theorem wq_376 : Cond.methodLink RX11 316 yX1_isAct ∈ gBIG := gm_of (gs4 _ (List.mem_of_getElem? (l := tables_1_4) (i := 234) rfl)) rfl
theorem wq_377 : Cond.code yX1_isAct cX1_isAct 2 (some .boolean) ∈ gBIG := gm_of (gs4 _ (List.mem_of_getElem? (l := tables_1_4) (i := 237) rfl)) rfl
theorem wq_378 : Cond.instanceMethod yX1_isAct ∈ gBIG := gm_of (gs4 _ (List.mem_of_getElem? (l := tables_1_4) (i := 235) rfl)) rfl
theorem wq_379 : Cond.selects RX1 yX1_isAct yX1_isAct ∈ gBIG := gm_of (gs4 _ (List.mem_of_getElem? (l := tables_1_4) (i := 236) rfl)) rfl
theorem wq_380 : Cond.methodLink RX11 206 yX1_goBy ∈ gBIG := gm_of (gs3 _ (List.mem_of_getElem? (l := tables_1_3) (i := 226) rfl)) rfl
theorem wq_381 : Cond.code yX1_goBy cX1_goBy 2 (some .int) ∈ gBIG := gm_of (gs3 _ (List.mem_of_getElem? (l := tables_1_3) (i := 229) rfl)) rfl
theorem wq_382 : Cond.instanceMethod yX1_goBy ∈ gBIG := gm_of (gs3 _ (List.mem_of_getElem? (l := tables_1_3) (i := 227) rfl)) rfl
theorem wq_383 : Cond.selects RX1 yX1_goBy yX1_goBy ∈ gBIG := gm_of (gs3 _ (List.mem_of_getElem? (l := tables_1_3) (i := 228) rfl)) rfl
theorem wq_384 : Cond.methodLink RX11 322 yX11_isItem ∈ gBIG := gm_of (gs5 _ (List.mem_of_getElem? (l := tables_1_5) (i := 9) rfl)) rfl
theorem wq_385 : Cond.code yX11_isItem cX11_isItem 3 (some .boolean) ∈ gBIG := gm_of (gs5 _ (List.mem_of_getElem? (l := tables_1_5) (i := 12) rfl)) rfl
theorem wq_386 : Cond.instanceMethod yX11_isItem ∈ gBIG := gm_of (gs5 _ (List.mem_of_getElem? (l := tables_1_5) (i := 11) rfl)) rfl
theorem wq_387 : Cond.selects RX11 yX11_isItem yX11_isItem ∈ gBIG := gm_of (gs0 _ (List.mem_of_getElem? (l := (k2_sels lw_privs)) (i := 37) rfl)) rfl
theorem wq_388 : Cond.methodLink RX11 113 yX1_isKey ∈ gBIG := gm_of (gs2 _ (List.mem_of_getElem? (l := tables_1_2) (i := 113) rfl)) rfl
theorem wq_389 : Cond.methodLink RX3 30 yX3_turns ∈ gBIG := gm_of (gs5 _ (List.mem_of_getElem? (l := tables_1_5) (i := 145) rfl)) rfl
theorem wq_390 : Cond.selects RX2 yX3_turns yX3_turns ∈ gBIG := gm_of (gs5 _ (List.mem_of_getElem? (l := tables_1_5) (i := 85) rfl)) rfl
theorem wq_391 : Cond.selects RX3 yX3_turns yX3_turns ∈ gBIG := gm_of (gs5 _ (List.mem_of_getElem? (l := tables_1_5) (i := 83) rfl)) rfl
theorem wq_392 : Cond.selects RX7 yX3_turns yX3_turns ∈ gBIG := gm_of (gs5 _ (List.mem_of_getElem? (l := tables_1_5) (i := 86) rfl)) rfl
theorem wq_393 : Cond.code yX8_turns cX8_turns 3 (some .int) ∈ gBIG := gm_of (gs5 _ (List.mem_of_getElem? (l := tables_1_5) (i := 89) rfl)) rfl
theorem wq_394 : Cond.selects RX8 yX3_turns yX8_turns ∈ gBIG := gm_of (gs5 _ (List.mem_of_getElem? (l := tables_1_5) (i := 87) rfl)) rfl
theorem wq_395 : Cond.instanceMethod yX8_turns ∈ gBIG := gm_of (gs5 _ (List.mem_of_getElem? (l := tables_1_5) (i := 88) rfl)) rfl
theorem wq_396 : Cond.code yX9_turns cX9_turns 3 (some .int) ∈ gBIG := gm_of (gs5 _ (List.mem_of_getElem? (l := tables_1_5) (i := 94) rfl)) rfl
theorem wq_397 : Cond.selects RX9 yX3_turns yX9_turns ∈ gBIG := gm_of (gs5 _ (List.mem_of_getElem? (l := tables_1_5) (i := 92) rfl)) rfl
theorem wq_398 : Cond.instanceMethod yX9_turns ∈ gBIG := gm_of (gs5 _ (List.mem_of_getElem? (l := tables_1_5) (i := 93) rfl)) rfl
theorem wq_399 : Cond.selects RX10 yX3_turns yX8_turns ∈ gBIG := gm_of (gs5 _ (List.mem_of_getElem? (l := tables_1_5) (i := 99) rfl)) rfl
theorem wq_400 : Cond.methodLink RX3 33 yX3_halves ∈ gBIG := gm_of (gs5 _ (List.mem_of_getElem? (l := tables_1_5) (i := 146) rfl)) rfl
theorem wq_401 : Cond.selects RX2 yX3_halves yX3_halves ∈ gBIG := gm_of (gs5 _ (List.mem_of_getElem? (l := tables_1_5) (i := 106) rfl)) rfl
theorem wq_402 : Cond.selects RX3 yX3_halves yX3_halves ∈ gBIG := gm_of (gs5 _ (List.mem_of_getElem? (l := tables_1_5) (i := 104) rfl)) rfl
theorem wq_403 : Cond.selects RX7 yX3_halves yX7_halves ∈ gBIG := gm_of (gs5 _ (List.mem_of_getElem? (l := tables_1_5) (i := 107) rfl)) rfl
theorem wq_404 : Cond.selects RX8 yX3_halves yX3_halves ∈ gBIG := gm_of (gs5 _ (List.mem_of_getElem? (l := tables_1_5) (i := 112) rfl)) rfl
theorem wq_405 : Cond.code yX9_halves cX9_halves 4 (some .int) ∈ gBIG := gm_of (gs5 _ (List.mem_of_getElem? (l := tables_1_5) (i := 115) rfl)) rfl
theorem wq_406 : Cond.selects RX9 yX3_halves yX9_halves ∈ gBIG := gm_of (gs5 _ (List.mem_of_getElem? (l := tables_1_5) (i := 113) rfl)) rfl
theorem wq_407 : Cond.instanceMethod yX9_halves ∈ gBIG := gm_of (gs5 _ (List.mem_of_getElem? (l := tables_1_5) (i := 114) rfl)) rfl
theorem wq_408 : Cond.selects RX10 yX3_halves yX3_halves ∈ gBIG := gm_of (gs5 _ (List.mem_of_getElem? (l := tables_1_5) (i := 120) rfl)) rfl
theorem wq_409 : Cond.code yX3_fits cX3_fits 4 (some .int) ∈ gBIG := gm_of (gs5 _ (List.mem_of_getElem? (l := tables_1_5) (i := 144) rfl)) rfl
theorem wq_410 : Cond.methodLink RX10 30 ⟨"IceKeys$Sleeve", "fits", "(ILIceKeys$Deed;)I"⟩ ∈ gBIG := gm_of (gs5 _ (List.mem_of_getElem? (l := tables_1_5) (i := 137) rfl)) rfl
theorem wq_411 : Cond.sameMethod "IceKeys$Sleeve" "IceKeys$Key" "fits" "(ILIceKeys$Deed;)I" ∈ gBIG := gm_of (gs5 _ (List.mem_of_getElem? (l := tables_1_5) (i := 138) rfl)) rfl
theorem wq_412 : Cond.instanceMethod yX3_fits ∈ gBIG := gm_of (gs5 _ (List.mem_of_getElem? (l := tables_1_5) (i := 127) rfl)) rfl
theorem wq_413 : Cond.methodLink RX10 37 ⟨"IceKeys$Third", "turns", "(ILIceKeys$Deed;)I"⟩ ∈ gBIG := gm_of (gs5 _ (List.mem_of_getElem? (l := tables_1_5) (i := 140) rfl)) rfl
theorem wq_414 : Cond.sameMethod "IceKeys$Third" "IceKeys$Sleeve" "turns" "(ILIceKeys$Deed;)I" ∈ gBIG := gm_of (gs5 _ (List.mem_of_getElem? (l := tables_1_5) (i := 141) rfl)) rfl
theorem wq_415 : Cond.selects RX10 ⟨"IceKeys$Third", "turns", "(ILIceKeys$Deed;)I"⟩ yX8_turns ∈ gBIG := gm_of (gs5 _ (List.mem_of_getElem? (l := tables_1_5) (i := 143) rfl)) rfl
theorem wq_416 : Cond.methodLink RX1 78 yX6_copyFrom ∈ gBIG := gm_of (gs5 _ (List.mem_of_getElem? (l := tables_1_5) (i := 163) rfl)) rfl
theorem wq_417 : Cond.code yX6_copyFrom cX6_copyFrom 2 none ∈ gBIG := gm_of (gs3 _ (List.mem_of_getElem? (l := tables_1_3) (i := 213) rfl)) rfl
theorem wq_418 : Cond.instanceMethod yX6_copyFrom ∈ gBIG := gm_of (gs3 _ (List.mem_of_getElem? (l := tables_1_3) (i := 211) rfl)) rfl
theorem wq_419 : Cond.selects RX6 yX6_copyFrom yX6_copyFrom ∈ gBIG := gm_of (gs3 _ (List.mem_of_getElem? (l := tables_1_3) (i := 212) rfl)) rfl
theorem wq_420 : Cond.methodLink RX12 75 yX12_above ∈ gBIG := gm_of (gs6 _ (List.mem_of_getElem? (l := tables_1_6) (i := 185) rfl)) rfl
theorem wq_421 : Cond.code yX12_above cX12_above 1 (some .int) ∈ gBIG := gm_of (gs6 _ (List.mem_of_getElem? (l := tables_1_6) (i := 187) rfl)) rfl
theorem wq_422 : Cond.initialized RX12 ∈ gBIG := gm_of (gs1 _ (List.mem_of_getElem? (l := tables_1_1) (i := 13) rfl)) rfl
theorem wq_423 : Cond.static yX12_above ∈ gBIG := gm_of (gs6 _ (List.mem_of_getElem? (l := tables_1_6) (i := 186) rfl)) rfl
theorem wq_424 : Cond.methodLink RX12 110 yX12_ruleOf ∈ gBIG := gm_of (gs6 _ (List.mem_of_getElem? (l := tables_1_6) (i := 178) rfl)) rfl
theorem wq_425 : Cond.code yX12_ruleOf cX12_ruleOf 3 (some .int) ∈ gBIG := gm_of (gs6 _ (List.mem_of_getElem? (l := tables_1_6) (i := 181) rfl)) rfl
theorem wq_426 : Cond.instanceMethod yX12_ruleOf ∈ gBIG := gm_of (gs6 _ (List.mem_of_getElem? (l := tables_1_6) (i := 180) rfl)) rfl
theorem wq_427 : Cond.selects RX12 yX12_ruleOf yX12_ruleOf ∈ gBIG := gm_of (gs0 _ (List.mem_of_getElem? (l := (k2_sels lw_privs)) (i := 65) rfl)) rfl
theorem wq_428 : Cond.methodLink RX12 113 yX12_knownOf ∈ gBIG := gm_of (gs6 _ (List.mem_of_getElem? (l := tables_1_6) (i := 192) rfl)) rfl
theorem wq_429 : Cond.code yX12_knownOf cX12_knownOf 3 (some .int) ∈ gBIG := gm_of (gs6 _ (List.mem_of_getElem? (l := tables_1_6) (i := 195) rfl)) rfl
theorem wq_430 : Cond.instanceMethod yX12_knownOf ∈ gBIG := gm_of (gs6 _ (List.mem_of_getElem? (l := tables_1_6) (i := 194) rfl)) rfl
theorem wq_431 : Cond.selects RX12 yX12_knownOf yX12_knownOf ∈ gBIG := gm_of (gs0 _ (List.mem_of_getElem? (l := (k2_sels lw_privs)) (i := 67) rfl)) rfl
theorem wq_432 : Cond.methodLink RX12 116 yX12_joined ∈ gBIG := gm_of (gs6 _ (List.mem_of_getElem? (l := tables_1_6) (i := 196) rfl)) rfl
theorem wq_433 : Cond.code yX12_joined cX12_joined 3 (some .int) ∈ gBIG := gm_of (gs6 _ (List.mem_of_getElem? (l := tables_1_6) (i := 198) rfl)) rfl
theorem wq_434 : Cond.static yX12_joined ∈ gBIG := gm_of (gs6 _ (List.mem_of_getElem? (l := tables_1_6) (i := 197) rfl)) rfl
theorem wq_435 : Cond.methodLink RX12 79 yX12_get ∈ gBIG := gm_of (gs6 _ (List.mem_of_getElem? (l := tables_1_6) (i := 141) rfl)) rfl
theorem wq_436 : Cond.code yX12_get cX12_get 3 (some .int) ∈ gBIG := gm_of (gs6 _ (List.mem_of_getElem? (l := tables_1_6) (i := 144) rfl)) rfl
theorem wq_437 : Cond.instanceMethod yX12_get ∈ gBIG := gm_of (gs6 _ (List.mem_of_getElem? (l := tables_1_6) (i := 143) rfl)) rfl
theorem wq_438 : Cond.selects RX12 yX12_get yX12_get ∈ gBIG := gm_of (gs0 _ (List.mem_of_getElem? (l := (k2_sels lw_privs)) (i := 58) rfl)) rfl
theorem wq_439 : Cond.methodLink RX12 83 yX12_sunNow ∈ gBIG := gm_of (gs6 _ (List.mem_of_getElem? (l := tables_1_6) (i := 145) rfl)) rfl
theorem wq_440 : Cond.code yX12_sunNow cX12_sunNow 1 (some .int) ∈ gBIG := gm_of (gs6 _ (List.mem_of_getElem? (l := tables_1_6) (i := 148) rfl)) rfl
theorem wq_441 : Cond.instanceMethod yX12_sunNow ∈ gBIG := gm_of (gs6 _ (List.mem_of_getElem? (l := tables_1_6) (i := 147) rfl)) rfl
theorem wq_442 : Cond.selects RX12 yX12_sunNow yX12_sunNow ∈ gBIG := gm_of (gs0 _ (List.mem_of_getElem? (l := (k2_sels lw_privs)) (i := 59) rfl)) rfl
theorem wq_443 : Cond.methodLink RX12 120 yX12_isUnder ∈ gBIG := gm_of (gs6 _ (List.mem_of_getElem? (l := tables_1_6) (i := 182) rfl)) rfl
theorem wq_444 : Cond.code yX12_isUnder cX12_isUnder 3 (some .boolean) ∈ gBIG := gm_of (gs6 _ (List.mem_of_getElem? (l := tables_1_6) (i := 184) rfl)) rfl
theorem wq_445 : Cond.static yX12_isUnder ∈ gBIG := gm_of (gs6 _ (List.mem_of_getElem? (l := tables_1_6) (i := 183) rfl)) rfl
theorem wq_446 : Cond.methodLink RX12 123 yX12_holdsFor ∈ gBIG := gm_of (gs6 _ (List.mem_of_getElem? (l := tables_1_6) (i := 188) rfl)) rfl
theorem wq_447 : Cond.code yX12_holdsFor cX12_holdsFor 6 (some .boolean) ∈ gBIG := gm_of (gs6 _ (List.mem_of_getElem? (l := tables_1_6) (i := 191) rfl)) rfl
theorem wq_448 : Cond.instanceMethod yX12_holdsFor ∈ gBIG := gm_of (gs6 _ (List.mem_of_getElem? (l := tables_1_6) (i := 190) rfl)) rfl
theorem wq_449 : Cond.selects RX12 yX12_holdsFor yX12_holdsFor ∈ gBIG := gm_of (gs0 _ (List.mem_of_getElem? (l := (k2_sels lw_privs)) (i := 66) rfl)) rfl
theorem wq_450 : Cond.methodLink RX12 100 yX12_doesFit ∈ gBIG := gm_of (gs6 _ (List.mem_of_getElem? (l := tables_1_6) (i := 163) rfl)) rfl
theorem wq_451 : Cond.code yX12_doesFit cX12_doesFit 3 (some .boolean) ∈ gBIG := gm_of (gs6 _ (List.mem_of_getElem? (l := tables_1_6) (i := 166) rfl)) rfl
theorem wq_452 : Cond.instanceMethod yX12_doesFit ∈ gBIG := gm_of (gs6 _ (List.mem_of_getElem? (l := tables_1_6) (i := 165) rfl)) rfl
theorem wq_453 : Cond.selects RX12 yX12_doesFit yX12_doesFit ∈ gBIG := gm_of (gs0 _ (List.mem_of_getElem? (l := (k2_sels lw_privs)) (i := 62) rfl)) rfl
theorem wq_454 : Cond.methodLink RX12 94 yX12_shapeOf ∈ gBIG := gm_of (gs6 _ (List.mem_of_getElem? (l := tables_1_6) (i := 152) rfl)) rfl
theorem wq_455 : Cond.code yX12_shapeOf cX12_shapeOf 2 (some .int) ∈ gBIG := gm_of (gs6 _ (List.mem_of_getElem? (l := tables_1_6) (i := 155) rfl)) rfl
theorem wq_456 : Cond.instanceMethod yX12_shapeOf ∈ gBIG := gm_of (gs6 _ (List.mem_of_getElem? (l := tables_1_6) (i := 154) rfl)) rfl
theorem wq_457 : Cond.selects RX12 yX12_shapeOf yX12_shapeOf ∈ gBIG := gm_of (gs0 _ (List.mem_of_getElem? (l := (k2_sels lw_privs)) (i := 60) rfl)) rfl
theorem wq_458 : Cond.methodLink RX12 97 yX12_apart ∈ gBIG := gm_of (gs6 _ (List.mem_of_getElem? (l := tables_1_6) (i := 167) rfl)) rfl
theorem wq_459 : Cond.code yX12_apart cX12_apart 2 (some .int) ∈ gBIG := gm_of (gs6 _ (List.mem_of_getElem? (l := tables_1_6) (i := 169) rfl)) rfl
theorem wq_460 : Cond.static yX12_apart ∈ gBIG := gm_of (gs6 _ (List.mem_of_getElem? (l := tables_1_6) (i := 168) rfl)) rfl
theorem wq_461 : Cond.methodLink RX12 91 yX12_shapeBy ∈ gBIG := gm_of (gs6 _ (List.mem_of_getElem? (l := tables_1_6) (i := 156) rfl)) rfl
theorem wq_462 : Cond.code yX12_shapeBy cX12_shapeBy 6 (some .int) ∈ gBIG := gm_of (gs6 _ (List.mem_of_getElem? (l := tables_1_6) (i := 158) rfl)) rfl
theorem wq_463 : Cond.static yX12_shapeBy ∈ gBIG := gm_of (gs6 _ (List.mem_of_getElem? (l := tables_1_6) (i := 157) rfl)) rfl
theorem wq_464 : Cond.methodLink RX12 136 yX12_byteAt ∈ gBIG := gm_of (gs6 _ (List.mem_of_getElem? (l := tables_1_6) (i := 63) rfl)) rfl
theorem wq_465 : Cond.code yX12_byteAt cX12_byteAt 2 (some .int) ∈ gBIG := gm_of (gs6 _ (List.mem_of_getElem? (l := tables_1_6) (i := 66) rfl)) rfl
theorem wq_466 : Cond.instanceMethod yX12_byteAt ∈ gBIG := gm_of (gs6 _ (List.mem_of_getElem? (l := tables_1_6) (i := 65) rfl)) rfl
theorem wq_467 : Cond.selects RX12 yX12_byteAt yX12_byteAt ∈ gBIG := gm_of (gs0 _ (List.mem_of_getElem? (l := (k2_sels lw_privs)) (i := 42) rfl)) rfl
theorem wq_468 : Cond.methodLink RX12 71 yX12_in1 ∈ gBIG := gm_of (gs6 _ (List.mem_of_getElem? (l := tables_1_6) (i := 51) rfl)) rfl
theorem wq_469 : Cond.code yX12_in1 cX12_in1 3 (some .boolean) ∈ gBIG := gm_of (gs6 _ (List.mem_of_getElem? (l := tables_1_6) (i := 53) rfl)) rfl
theorem wq_470 : Cond.static yX12_in1 ∈ gBIG := gm_of (gs6 _ (List.mem_of_getElem? (l := tables_1_6) (i := 52) rfl)) rfl
theorem wq_471 : Cond.methodLink RX12 142 yX12_isNameOf ∈ gBIG := gm_of (gs6 _ (List.mem_of_getElem? (l := tables_1_6) (i := 71) rfl)) rfl
theorem wq_472 : Cond.code yX12_isNameOf cX12_isNameOf 4 (some .boolean) ∈ gBIG := gm_of (gs6 _ (List.mem_of_getElem? (l := tables_1_6) (i := 74) rfl)) rfl
theorem wq_473 : Cond.instanceMethod yX12_isNameOf ∈ gBIG := gm_of (gs6 _ (List.mem_of_getElem? (l := tables_1_6) (i := 73) rfl)) rfl
theorem wq_474 : Cond.selects RX12 yX12_isNameOf yX12_isNameOf ∈ gBIG := gm_of (gs0 _ (List.mem_of_getElem? (l := (k2_sels lw_privs)) (i := 44) rfl)) rfl
theorem wq_475 : Cond.methodLink RX12 149 yX12_readsName ∈ gBIG := gm_of (gs6 _ (List.mem_of_getElem? (l := tables_1_6) (i := 67) rfl)) rfl
theorem wq_476 : Cond.code yX12_readsName cX12_readsName 2 none ∈ gBIG := gm_of (gs6 _ (List.mem_of_getElem? (l := tables_1_6) (i := 70) rfl)) rfl
theorem wq_477 : Cond.instanceMethod yX12_readsName ∈ gBIG := gm_of (gs6 _ (List.mem_of_getElem? (l := tables_1_6) (i := 69) rfl)) rfl
theorem wq_478 : Cond.selects RX12 yX12_readsName yX12_readsName ∈ gBIG := gm_of (gs0 _ (List.mem_of_getElem? (l := (k2_sels lw_privs)) (i := 43) rfl)) rfl
theorem wq_479 : Cond.methodLink RX12 152 yX12_readsNumber ∈ gBIG := gm_of (gs6 _ (List.mem_of_getElem? (l := tables_1_6) (i := 75) rfl)) rfl
theorem wq_480 : Cond.code yX12_readsNumber cX12_readsNumber 1 none ∈ gBIG := gm_of (gs6 _ (List.mem_of_getElem? (l := tables_1_6) (i := 78) rfl)) rfl
theorem wq_481 : Cond.instanceMethod yX12_readsNumber ∈ gBIG := gm_of (gs6 _ (List.mem_of_getElem? (l := tables_1_6) (i := 77) rfl)) rfl
theorem wq_482 : Cond.selects RX12 yX12_readsNumber yX12_readsNumber ∈ gBIG := gm_of (gs0 _ (List.mem_of_getElem? (l := (k2_sels lw_privs)) (i := 45) rfl)) rfl
theorem wq_483 : Cond.methodLink RX12 161 yX12_lays ∈ gBIG := gm_of (gs6 _ (List.mem_of_getElem? (l := tables_1_6) (i := 111) rfl)) rfl
theorem wq_484 : Cond.code yX12_lays cX12_lays 2 none ∈ gBIG := gm_of (gs6 _ (List.mem_of_getElem? (l := tables_1_6) (i := 114) rfl)) rfl
theorem wq_485 : Cond.instanceMethod yX12_lays ∈ gBIG := gm_of (gs6 _ (List.mem_of_getElem? (l := tables_1_6) (i := 113) rfl)) rfl
theorem wq_486 : Cond.selects RX12 yX12_lays yX12_lays ∈ gBIG := gm_of (gs0 _ (List.mem_of_getElem? (l := (k2_sels lw_privs)) (i := 54) rfl)) rfl
theorem wq_487 : Cond.methodLink RX12 155 yX12_next ∈ gBIG := gm_of (gs6 _ (List.mem_of_getElem? (l := tables_1_6) (i := 59) rfl)) rfl
theorem wq_488 : Cond.code yX12_next cX12_next 2 none ∈ gBIG := gm_of (gs6 _ (List.mem_of_getElem? (l := tables_1_6) (i := 62) rfl)) rfl
theorem wq_489 : Cond.instanceMethod yX12_next ∈ gBIG := gm_of (gs6 _ (List.mem_of_getElem? (l := tables_1_6) (i := 61) rfl)) rfl
theorem wq_490 : Cond.selects RX12 yX12_next yX12_next ∈ gBIG := gm_of (gs0 _ (List.mem_of_getElem? (l := (k2_sels lw_privs)) (i := 41) rfl)) rfl
theorem wq_491 : Cond.methodLink RX12 187 yX12_readsAll ∈ gBIG := gm_of (gs6 _ (List.mem_of_getElem? (l := tables_1_6) (i := 91) rfl)) rfl
theorem wq_492 : Cond.code yX12_readsAll cX12_readsAll 2 (some .boolean) ∈ gBIG := gm_of (gs6 _ (List.mem_of_getElem? (l := tables_1_6) (i := 94) rfl)) rfl
theorem wq_493 : Cond.instanceMethod yX12_readsAll ∈ gBIG := gm_of (gs6 _ (List.mem_of_getElem? (l := tables_1_6) (i := 93) rfl)) rfl
theorem wq_494 : Cond.selects RX12 yX12_readsAll yX12_readsAll ∈ gBIG := gm_of (gs0 _ (List.mem_of_getElem? (l := (k2_sels lw_privs)) (i := 49) rfl)) rfl
theorem wq_495 : Cond.methodLink RX12 175 yX12_takes ∈ gBIG := gm_of (gs6 _ (List.mem_of_getElem? (l := tables_1_6) (i := 83) rfl)) rfl
theorem wq_496 : Cond.code yX12_takes cX12_takes 3 (some .boolean) ∈ gBIG := gm_of (gs6 _ (List.mem_of_getElem? (l := tables_1_6) (i := 86) rfl)) rfl
theorem wq_497 : Cond.instanceMethod yX12_takes ∈ gBIG := gm_of (gs6 _ (List.mem_of_getElem? (l := tables_1_6) (i := 85) rfl)) rfl
theorem wq_498 : Cond.selects RX12 yX12_takes yX12_takes ∈ gBIG := gm_of (gs0 _ (List.mem_of_getElem? (l := (k2_sels lw_privs)) (i := 47) rfl)) rfl
theorem wq_499 : Cond.methodLink RX12 178 yX12_readsWithin ∈ gBIG := gm_of (gs6 _ (List.mem_of_getElem? (l := tables_1_6) (i := 99) rfl)) rfl
theorem wq_500 : Cond.code yX12_readsWithin cX12_readsWithin 1 (some .boolean) ∈ gBIG := gm_of (gs6 _ (List.mem_of_getElem? (l := tables_1_6) (i := 102) rfl)) rfl
theorem wq_501 : Cond.instanceMethod yX12_readsWithin ∈ gBIG := gm_of (gs6 _ (List.mem_of_getElem? (l := tables_1_6) (i := 101) rfl)) rfl
theorem wq_502 : Cond.selects RX12 yX12_readsWithin yX12_readsWithin ∈ gBIG := gm_of (gs0 _ (List.mem_of_getElem? (l := (k2_sels lw_privs)) (i := 51) rfl)) rfl
theorem wq_503 : Cond.methodLink RX12 181 yX12_readsLike ∈ gBIG := gm_of (gs6 _ (List.mem_of_getElem? (l := tables_1_6) (i := 103) rfl)) rfl
theorem wq_504 : Cond.code yX12_readsLike cX12_readsLike 2 (some .boolean) ∈ gBIG := gm_of (gs6 _ (List.mem_of_getElem? (l := tables_1_6) (i := 106) rfl)) rfl
theorem wq_505 : Cond.instanceMethod yX12_readsLike ∈ gBIG := gm_of (gs6 _ (List.mem_of_getElem? (l := tables_1_6) (i := 105) rfl)) rfl
theorem wq_506 : Cond.selects RX12 yX12_readsLike yX12_readsLike ∈ gBIG := gm_of (gs0 _ (List.mem_of_getElem? (l := (k2_sels lw_privs)) (i := 52) rfl)) rfl
theorem wq_507 : Cond.methodLink RX12 165 yX12_readsValue ∈ gBIG := gm_of (gs6 _ (List.mem_of_getElem? (l := tables_1_6) (i := 107) rfl)) rfl
theorem wq_508 : Cond.code yX12_readsValue cX12_readsValue 2 (some .boolean) ∈ gBIG := gm_of (gs6 _ (List.mem_of_getElem? (l := tables_1_6) (i := 110) rfl)) rfl
theorem wq_509 : Cond.instanceMethod yX12_readsValue ∈ gBIG := gm_of (gs6 _ (List.mem_of_getElem? (l := tables_1_6) (i := 109) rfl)) rfl
theorem wq_510 : Cond.selects RX12 yX12_readsValue yX12_readsValue ∈ gBIG := gm_of (gs0 _ (List.mem_of_getElem? (l := (k2_sels lw_privs)) (i := 53) rfl)) rfl
theorem wq_511 : Cond.methodLink RX12 172 yX12_readsCondition ∈ gBIG := gm_of (gs6 _ (List.mem_of_getElem? (l := tables_1_6) (i := 87) rfl)) rfl
theorem wq_512 : Cond.code yX12_readsCondition cX12_readsCondition 2 (some .boolean) ∈ gBIG := gm_of (gs6 _ (List.mem_of_getElem? (l := tables_1_6) (i := 90) rfl)) rfl
theorem wq_513 : Cond.instanceMethod yX12_readsCondition ∈ gBIG := gm_of (gs6 _ (List.mem_of_getElem? (l := tables_1_6) (i := 89) rfl)) rfl
theorem wq_514 : Cond.selects RX12 yX12_readsCondition yX12_readsCondition ∈ gBIG := gm_of (gs0 _ (List.mem_of_getElem? (l := (k2_sels lw_privs)) (i := 48) rfl)) rfl
theorem wq_515 : Cond.methodLink RX12 184 yX12_readsOne ∈ gBIG := gm_of (gs6 _ (List.mem_of_getElem? (l := tables_1_6) (i := 95) rfl)) rfl
theorem wq_516 : Cond.code yX12_readsOne cX12_readsOne 4 (some .boolean) ∈ gBIG := gm_of (gs6 _ (List.mem_of_getElem? (l := tables_1_6) (i := 98) rfl)) rfl
theorem wq_517 : Cond.instanceMethod yX12_readsOne ∈ gBIG := gm_of (gs6 _ (List.mem_of_getElem? (l := tables_1_6) (i := 97) rfl)) rfl
theorem wq_518 : Cond.selects RX12 yX12_readsOne yX12_readsOne ∈ gBIG := gm_of (gs0 _ (List.mem_of_getElem? (l := (k2_sels lw_privs)) (i := 50) rfl)) rfl
theorem wq_519 : Cond.methodLink RX12 107 yX12_paysOf ∈ gBIG := gm_of (gs6 _ (List.mem_of_getElem? (l := tables_1_6) (i := 159) rfl)) rfl
theorem wq_520 : Cond.code yX12_paysOf cX12_paysOf 2 (some .int) ∈ gBIG := gm_of (gs6 _ (List.mem_of_getElem? (l := tables_1_6) (i := 162) rfl)) rfl
theorem wq_521 : Cond.instanceMethod yX12_paysOf ∈ gBIG := gm_of (gs6 _ (List.mem_of_getElem? (l := tables_1_6) (i := 161) rfl)) rfl
theorem wq_522 : Cond.selects RX12 yX12_paysOf yX12_paysOf ∈ gBIG := gm_of (gs0 _ (List.mem_of_getElem? (l := (k2_sels lw_privs)) (i := 61) rfl)) rfl
theorem wq_523 : Cond.methodLink RX12 195 yX12_puts ∈ gBIG := gm_of (gs6 _ (List.mem_of_getElem? (l := tables_1_6) (i := 125) rfl)) rfl
theorem wq_524 : Cond.code yX12_puts cX12_puts 4 none ∈ gBIG := gm_of (gs6 _ (List.mem_of_getElem? (l := tables_1_6) (i := 128) rfl)) rfl
theorem wq_525 : Cond.instanceMethod yX12_puts ∈ gBIG := gm_of (gs6 _ (List.mem_of_getElem? (l := tables_1_6) (i := 127) rfl)) rfl
theorem wq_526 : Cond.selects RX12 yX12_puts yX12_puts ∈ gBIG := gm_of (gs0 _ (List.mem_of_getElem? (l := (k2_sels lw_privs)) (i := 55) rfl)) rfl
theorem wq_527 : Cond.methodLink RX12 104 yX12_willOf ∈ gBIG := gm_of (gs6 _ (List.mem_of_getElem? (l := tables_1_6) (i := 174) rfl)) rfl
theorem wq_528 : Cond.code yX12_willOf cX12_willOf 3 (some .int) ∈ gBIG := gm_of (gs6 _ (List.mem_of_getElem? (l := tables_1_6) (i := 177) rfl)) rfl
theorem wq_529 : Cond.instanceMethod yX12_willOf ∈ gBIG := gm_of (gs6 _ (List.mem_of_getElem? (l := tables_1_6) (i := 176) rfl)) rfl
theorem wq_530 : Cond.selects RX12 yX12_willOf yX12_willOf ∈ gBIG := gm_of (gs0 _ (List.mem_of_getElem? (l := (k2_sels lw_privs)) (i := 64) rfl)) rfl
theorem wq_531 : Cond.methodLink RX12 205 yX12_mayTurn ∈ gBIG := gm_of (gs6 _ (List.mem_of_getElem? (l := tables_1_6) (i := 170) rfl)) rfl
theorem wq_532 : Cond.code yX12_mayTurn cX12_mayTurn 2 (some .boolean) ∈ gBIG := gm_of (gs6 _ (List.mem_of_getElem? (l := tables_1_6) (i := 173) rfl)) rfl
theorem wq_533 : Cond.instanceMethod yX12_mayTurn ∈ gBIG := gm_of (gs6 _ (List.mem_of_getElem? (l := tables_1_6) (i := 172) rfl)) rfl
theorem wq_534 : Cond.selects RX12 yX12_mayTurn yX12_mayTurn ∈ gBIG := gm_of (gs0 _ (List.mem_of_getElem? (l := (k2_sels lw_privs)) (i := 63) rfl)) rfl
theorem wq_535 : Cond.methodLink RX12 199 yX12_turnsNow ∈ gBIG := gm_of (gs7 _ (List.mem_of_getElem? (l := tables_1_7) (i := 23) rfl)) rfl
theorem wq_536 : Cond.code yX12_turnsNow cX12_turnsNow 3 (some .int) ∈ gBIG := gm_of (gs7 _ (List.mem_of_getElem? (l := tables_1_7) (i := 26) rfl)) rfl
theorem wq_537 : Cond.instanceMethod yX12_turnsNow ∈ gBIG := gm_of (gs7 _ (List.mem_of_getElem? (l := tables_1_7) (i := 25) rfl)) rfl
theorem wq_538 : Cond.selects RX12 yX12_turnsNow yX12_turnsNow ∈ gBIG := gm_of (gs0 _ (List.mem_of_getElem? (l := (k2_sels lw_privs)) (i := 75) rfl)) rfl
theorem wq_539 : Cond.methodLink RX12 202 yX12_held ∈ gBIG := gm_of (gs7 _ (List.mem_of_getElem? (l := tables_1_7) (i := 27) rfl)) rfl
theorem wq_540 : Cond.code yX12_held cX12_held 2 (some .int) ∈ gBIG := gm_of (gs7 _ (List.mem_of_getElem? (l := tables_1_7) (i := 29) rfl)) rfl
theorem wq_541 : Cond.static yX12_held ∈ gBIG := gm_of (gs7 _ (List.mem_of_getElem? (l := tables_1_7) (i := 28) rfl)) rfl
theorem wq_542 : Cond.methodLink RX12 87 yX12_meltsBy ∈ gBIG := gm_of (gs6 _ (List.mem_of_getElem? (l := tables_1_6) (i := 149) rfl)) rfl
theorem wq_543 : Cond.code yX12_meltsBy cX12_meltsBy 6 (some .int) ∈ gBIG := gm_of (gs6 _ (List.mem_of_getElem? (l := tables_1_6) (i := 151) rfl)) rfl
theorem wq_544 : Cond.static yX12_meltsBy ∈ gBIG := gm_of (gs6 _ (List.mem_of_getElem? (l := tables_1_6) (i := 150) rfl)) rfl
theorem wq_545 : Cond.methodLink RX12 208 yX12_restOne ∈ gBIG := gm_of (gs7 _ (List.mem_of_getElem? (l := tables_1_7) (i := 15) rfl)) rfl
theorem wq_546 : Cond.code yX12_restOne cX12_restOne 2 (some .int) ∈ gBIG := gm_of (gs7 _ (List.mem_of_getElem? (l := tables_1_7) (i := 18) rfl)) rfl
theorem wq_547 : Cond.instanceMethod yX12_restOne ∈ gBIG := gm_of (gs7 _ (List.mem_of_getElem? (l := tables_1_7) (i := 17) rfl)) rfl
theorem wq_548 : Cond.selects RX12 yX12_restOne yX12_restOne ∈ gBIG := gm_of (gs0 _ (List.mem_of_getElem? (l := (k2_sels lw_privs)) (i := 73) rfl)) rfl
theorem wq_549 : Cond.methodLink RX12 211 yX12_meets ∈ gBIG := gm_of (gs7 _ (List.mem_of_getElem? (l := tables_1_7) (i := 19) rfl)) rfl
theorem wq_550 : Cond.code yX12_meets cX12_meets 3 (some .int) ∈ gBIG := gm_of (gs7 _ (List.mem_of_getElem? (l := tables_1_7) (i := 22) rfl)) rfl
theorem wq_551 : Cond.instanceMethod yX12_meets ∈ gBIG := gm_of (gs7 _ (List.mem_of_getElem? (l := tables_1_7) (i := 21) rfl)) rfl
theorem wq_552 : Cond.selects RX12 yX12_meets yX12_meets ∈ gBIG := gm_of (gs0 _ (List.mem_of_getElem? (l := (k2_sels lw_privs)) (i := 74) rfl)) rfl
theorem wq_553 : Cond.methodLink RX12 214 yX12_meltsOf ∈ gBIG := gm_of (gs6 _ (List.mem_of_getElem? (l := tables_1_6) (i := 137) rfl)) rfl
theorem wq_554 : Cond.code yX12_meltsOf cX12_meltsOf 4 (some .int) ∈ gBIG := gm_of (gs6 _ (List.mem_of_getElem? (l := tables_1_6) (i := 140) rfl)) rfl
theorem wq_555 : Cond.instanceMethod yX12_meltsOf ∈ gBIG := gm_of (gs6 _ (List.mem_of_getElem? (l := tables_1_6) (i := 139) rfl)) rfl
theorem wq_556 : Cond.selects RX12 yX12_meltsOf yX12_meltsOf ∈ gBIG := gm_of (gs0 _ (List.mem_of_getElem? (l := (k2_sels lw_privs)) (i := 57) rfl)) rfl
theorem wq_557 : Cond.methodLink RX12 229 yX12_isOver ∈ gBIG := gm_of (gs6 _ (List.mem_of_getElem? (l := tables_1_6) (i := 235) rfl)) rfl
theorem wq_558 : Cond.code yX12_isOver cX12_isOver 1 (some .boolean) ∈ gBIG := gm_of (gs6 _ (List.mem_of_getElem? (l := tables_1_6) (i := 238) rfl)) rfl
theorem wq_559 : Cond.instanceMethod yX12_isOver ∈ gBIG := gm_of (gs6 _ (List.mem_of_getElem? (l := tables_1_6) (i := 237) rfl)) rfl
theorem wq_560 : Cond.selects RX12 yX12_isOver yX12_isOver ∈ gBIG := gm_of (gs0 _ (List.mem_of_getElem? (l := (k2_sels lw_privs)) (i := 69) rfl)) rfl
theorem wq_561 : Cond.methodLink RX12 238 yX12_goesBy ∈ gBIG := gm_of (gs7 _ (List.mem_of_getElem? (l := tables_1_7) (i := 11) rfl)) rfl
theorem wq_562 : Cond.code yX12_goesBy cX12_goesBy 5 (some .int) ∈ gBIG := gm_of (gs7 _ (List.mem_of_getElem? (l := tables_1_7) (i := 14) rfl)) rfl
theorem wq_563 : Cond.instanceMethod yX12_goesBy ∈ gBIG := gm_of (gs7 _ (List.mem_of_getElem? (l := tables_1_7) (i := 13) rfl)) rfl
theorem wq_564 : Cond.selects RX12 yX12_goesBy yX12_goesBy ∈ gBIG := gm_of (gs0 _ (List.mem_of_getElem? (l := (k2_sels lw_privs)) (i := 72) rfl)) rfl
theorem wq_565 : Cond.methodLink RX12 223 yX12_isKey ∈ gBIG := gm_of (gs6 _ (List.mem_of_getElem? (l := tables_1_6) (i := 133) rfl)) rfl
theorem wq_566 : Cond.code yX12_isKey cX12_isKey 2 (some .boolean) ∈ gBIG := gm_of (gs6 _ (List.mem_of_getElem? (l := tables_1_6) (i := 136) rfl)) rfl
theorem wq_567 : Cond.instanceMethod yX12_isKey ∈ gBIG := gm_of (gs6 _ (List.mem_of_getElem? (l := tables_1_6) (i := 135) rfl)) rfl
theorem wq_568 : Cond.selects RX12 yX12_isKey yX12_isKey ∈ gBIG := gm_of (gs0 _ (List.mem_of_getElem? (l := (k2_sels lw_privs)) (i := 56) rfl)) rfl
theorem wq_569 : Cond.methodLink RX12 241 yX12_layDown ∈ gBIG := gm_of (gs7 _ (List.mem_of_getElem? (l := tables_1_7) (i := 34) rfl)) rfl
theorem wq_570 : Cond.code yX12_layDown cX12_layDown 2 none ∈ gBIG := gm_of (gs7 _ (List.mem_of_getElem? (l := tables_1_7) (i := 37) rfl)) rfl
theorem wq_571 : Cond.instanceMethod yX12_layDown ∈ gBIG := gm_of (gs7 _ (List.mem_of_getElem? (l := tables_1_7) (i := 36) rfl)) rfl
theorem wq_572 : Cond.selects RX12 yX12_layDown yX12_layDown ∈ gBIG := gm_of (gs0 _ (List.mem_of_getElem? (l := (k2_sels lw_privs)) (i := 76) rfl)) rfl
theorem wq_573 : Cond.methodLink RX12 244 yX12_restOf ∈ gBIG := gm_of (gs7 _ (List.mem_of_getElem? (l := tables_1_7) (i := 38) rfl)) rfl
theorem wq_574 : Cond.code yX12_restOf cX12_restOf 4 (some .int) ∈ gBIG := gm_of (gs7 _ (List.mem_of_getElem? (l := tables_1_7) (i := 41) rfl)) rfl
theorem wq_575 : Cond.instanceMethod yX12_restOf ∈ gBIG := gm_of (gs7 _ (List.mem_of_getElem? (l := tables_1_7) (i := 40) rfl)) rfl
theorem wq_576 : Cond.selects RX12 yX12_restOf yX12_restOf ∈ gBIG := gm_of (gs0 _ (List.mem_of_getElem? (l := (k2_sels lw_privs)) (i := 77) rfl)) rfl
theorem wq_577 : Cond.methodLink RX12 247 yX12_layBack ∈ gBIG := gm_of (gs7 _ (List.mem_of_getElem? (l := tables_1_7) (i := 42) rfl)) rfl
theorem wq_578 : Cond.code yX12_layBack cX12_layBack 2 none ∈ gBIG := gm_of (gs7 _ (List.mem_of_getElem? (l := tables_1_7) (i := 45) rfl)) rfl
theorem wq_579 : Cond.instanceMethod yX12_layBack ∈ gBIG := gm_of (gs7 _ (List.mem_of_getElem? (l := tables_1_7) (i := 44) rfl)) rfl
theorem wq_580 : Cond.selects RX12 yX12_layBack yX12_layBack ∈ gBIG := gm_of (gs0 _ (List.mem_of_getElem? (l := (k2_sels lw_privs)) (i := 78) rfl)) rfl
theorem wq_581 : Cond.methodLink RX12 253 yX12_areClose ∈ gBIG := gm_of (gs7 _ (List.mem_of_getElem? (l := tables_1_7) (i := 82) rfl)) rfl
theorem wq_582 : Cond.code yX12_areClose cX12_areClose 4 (some .boolean) ∈ gBIG := gm_of (gs7 _ (List.mem_of_getElem? (l := tables_1_7) (i := 85) rfl)) rfl
theorem wq_583 : Cond.instanceMethod yX12_areClose ∈ gBIG := gm_of (gs7 _ (List.mem_of_getElem? (l := tables_1_7) (i := 84) rfl)) rfl
theorem wq_584 : Cond.selects RX12 yX12_areClose yX12_areClose ∈ gBIG := gm_of (gs0 _ (List.mem_of_getElem? (l := (k2_sels lw_privs)) (i := 81) rfl)) rfl
theorem wq_585 : Cond.methodLink RX12 232 yX12_those ∈ gBIG := gm_of (gs6 _ (List.mem_of_getElem? (l := tables_1_6) (i := 239) rfl)) rfl
theorem wq_586 : Cond.code yX12_those cX12_those 4 (some .int) ∈ gBIG := gm_of (gs7 _ (List.mem_of_getElem? (l := tables_1_7) (i := 2) rfl)) rfl
theorem wq_587 : Cond.instanceMethod yX12_those ∈ gBIG := gm_of (gs7 _ (List.mem_of_getElem? (l := tables_1_7) (i := 1) rfl)) rfl
theorem wq_588 : Cond.selects RX12 yX12_those yX12_those ∈ gBIG := gm_of (gs0 _ (List.mem_of_getElem? (l := (k2_sels lw_privs)) (i := 70) rfl)) rfl
theorem wq_589 : Cond.methodLink RX12 271 yX12_endsPlan ∈ gBIG := gm_of (gs7 _ (List.mem_of_getElem? (l := tables_1_7) (i := 105) rfl)) rfl
theorem wq_590 : Cond.code yX12_endsPlan cX12_endsPlan 6 none ∈ gBIG := gm_of (gs7 _ (List.mem_of_getElem? (l := tables_1_7) (i := 108) rfl)) rfl
theorem wq_591 : Cond.instanceMethod yX12_endsPlan ∈ gBIG := gm_of (gs7 _ (List.mem_of_getElem? (l := tables_1_7) (i := 107) rfl)) rfl
theorem wq_592 : Cond.selects RX12 yX12_endsPlan yX12_endsPlan ∈ gBIG := gm_of (gs0 _ (List.mem_of_getElem? (l := (k2_sels lw_privs)) (i := 85) rfl)) rfl
theorem wq_593 : Cond.methodLink RX12 275 yX12_saves ∈ gBIG := gm_of (gs7 _ (List.mem_of_getElem? (l := tables_1_7) (i := 109) rfl)) rfl
theorem wq_594 : Cond.code yX12_saves cX12_saves 3 none ∈ gBIG := gm_of (gs7 _ (List.mem_of_getElem? (l := tables_1_7) (i := 112) rfl)) rfl
theorem wq_595 : Cond.instanceMethod yX12_saves ∈ gBIG := gm_of (gs7 _ (List.mem_of_getElem? (l := tables_1_7) (i := 111) rfl)) rfl
theorem wq_596 : Cond.selects RX12 yX12_saves yX12_saves ∈ gBIG := gm_of (gs0 _ (List.mem_of_getElem? (l := (k2_sels lw_privs)) (i := 86) rfl)) rfl
theorem wq_597 : Cond.methodLink RX12 278 yX12_goesPlans ∈ gBIG := gm_of (gs7 _ (List.mem_of_getElem? (l := tables_1_7) (i := 101) rfl)) rfl
theorem wq_598 : Cond.code yX12_goesPlans cX12_goesPlans 8 none ∈ gBIG := gm_of (gs7 _ (List.mem_of_getElem? (l := tables_1_7) (i := 104) rfl)) rfl
theorem wq_599 : Cond.instanceMethod yX12_goesPlans ∈ gBIG := gm_of (gs7 _ (List.mem_of_getElem? (l := tables_1_7) (i := 103) rfl)) rfl
theorem wq_600 : Cond.selects RX12 yX12_goesPlans yX12_goesPlans ∈ gBIG := gm_of (gs0 _ (List.mem_of_getElem? (l := (k2_sels lw_privs)) (i := 84) rfl)) rfl
theorem wq_601 : Cond.methodLink RX12 282 yX12_restores ∈ gBIG := gm_of (gs7 _ (List.mem_of_getElem? (l := tables_1_7) (i := 113) rfl)) rfl
theorem wq_602 : Cond.code yX12_restores cX12_restores 3 none ∈ gBIG := gm_of (gs7 _ (List.mem_of_getElem? (l := tables_1_7) (i := 116) rfl)) rfl
theorem wq_603 : Cond.instanceMethod yX12_restores ∈ gBIG := gm_of (gs7 _ (List.mem_of_getElem? (l := tables_1_7) (i := 115) rfl)) rfl
theorem wq_604 : Cond.selects RX12 yX12_restores yX12_restores ∈ gBIG := gm_of (gs0 _ (List.mem_of_getElem? (l := (k2_sels lw_privs)) (i := 87) rfl)) rfl
theorem wq_605 : Cond.methodLink RX12 285 yX12_daysOf ∈ gBIG := gm_of (gs7 _ (List.mem_of_getElem? (l := tables_1_7) (i := 97) rfl)) rfl
theorem wq_606 : Cond.code yX12_daysOf cX12_daysOf 3 (some .int) ∈ gBIG := gm_of (gs7 _ (List.mem_of_getElem? (l := tables_1_7) (i := 100) rfl)) rfl
theorem wq_607 : Cond.instanceMethod yX12_daysOf ∈ gBIG := gm_of (gs7 _ (List.mem_of_getElem? (l := tables_1_7) (i := 99) rfl)) rfl
theorem wq_608 : Cond.selects RX12 yX12_daysOf yX12_daysOf ∈ gBIG := gm_of (gs0 _ (List.mem_of_getElem? (l := (k2_sels lw_privs)) (i := 83) rfl)) rfl
theorem wq_609 : Cond.methodLink RX12 298 yX12_playedFrom ∈ gBIG := gm_of (gs7 _ (List.mem_of_getElem? (l := tables_1_7) (i := 141) rfl)) rfl
theorem wq_610 : Cond.code yX12_playedFrom cX12_playedFrom 9 (some .int) ∈ gBIG := gm_of (gs7 _ (List.mem_of_getElem? (l := tables_1_7) (i := 144) rfl)) rfl
theorem wq_611 : Cond.instanceMethod yX12_playedFrom ∈ gBIG := gm_of (gs7 _ (List.mem_of_getElem? (l := tables_1_7) (i := 143) rfl)) rfl
theorem wq_612 : Cond.selects RX12 yX12_playedFrom yX12_playedFrom ∈ gBIG := gm_of (gs0 _ (List.mem_of_getElem? (l := (k2_sels lw_privs)) (i := 89) rfl)) rfl
theorem wq_613 : Cond.methodLink RX12 304 yX12_tellsLone ∈ gBIG := gm_of (gs7 _ (List.mem_of_getElem? (l := tables_1_7) (i := 165) rfl)) rfl
theorem wq_614 : Cond.code yX12_tellsLone cX12_tellsLone 8 none ∈ gBIG := gm_of (gs7 _ (List.mem_of_getElem? (l := tables_1_7) (i := 168) rfl)) rfl
theorem wq_615 : Cond.instanceMethod yX12_tellsLone ∈ gBIG := gm_of (gs7 _ (List.mem_of_getElem? (l := tables_1_7) (i := 167) rfl)) rfl
theorem wq_616 : Cond.selects RX12 yX12_tellsLone yX12_tellsLone ∈ gBIG := gm_of (gs0 _ (List.mem_of_getElem? (l := (k2_sels lw_privs)) (i := 91) rfl)) rfl
theorem wq_617 : Cond.methodLink RX12 307 yX12_isSo ∈ gBIG := gm_of (gs7 _ (List.mem_of_getElem? (l := tables_1_7) (i := 169) rfl)) rfl
theorem wq_618 : Cond.code yX12_isSo cX12_isSo 3 (some .boolean) ∈ gBIG := gm_of (gs7 _ (List.mem_of_getElem? (l := tables_1_7) (i := 172) rfl)) rfl
theorem wq_619 : Cond.instanceMethod yX12_isSo ∈ gBIG := gm_of (gs7 _ (List.mem_of_getElem? (l := tables_1_7) (i := 171) rfl)) rfl
theorem wq_620 : Cond.selects RX12 yX12_isSo yX12_isSo ∈ gBIG := gm_of (gs0 _ (List.mem_of_getElem? (l := (k2_sels lw_privs)) (i := 92) rfl)) rfl
theorem wq_621 : Cond.methodLink RX12 344 yX12_starts ∈ gBIG := gm_of (gs8 _ (List.mem_of_getElem? (l := tables_1_8) (i := 32) rfl)) rfl
theorem wq_622 : Cond.code yX12_starts cX12_starts 2 none ∈ gBIG := gm_of (gs8 _ (List.mem_of_getElem? (l := tables_1_8) (i := 35) rfl)) rfl
theorem wq_623 : Cond.instanceMethod yX12_starts ∈ gBIG := gm_of (gs8 _ (List.mem_of_getElem? (l := tables_1_8) (i := 34) rfl)) rfl
theorem wq_624 : Cond.selects RX12 yX12_starts yX12_starts ∈ gBIG := gm_of (gs0 _ (List.mem_of_getElem? (l := (k2_sels lw_privs)) (i := 100) rfl)) rfl
theorem wq_625 : Cond.methodLink RX12 353 yX12_turnsAs ∈ gBIG := gm_of (gs8 _ (List.mem_of_getElem? (l := tables_1_8) (i := 36) rfl)) rfl
theorem wq_626 : Cond.code yX12_turnsAs cX12_turnsAs 3 (some .int) ∈ gBIG := gm_of (gs8 _ (List.mem_of_getElem? (l := tables_1_8) (i := 39) rfl)) rfl
theorem wq_627 : Cond.instanceMethod yX12_turnsAs ∈ gBIG := gm_of (gs8 _ (List.mem_of_getElem? (l := tables_1_8) (i := 38) rfl)) rfl
theorem wq_628 : Cond.selects RX12 yX12_turnsAs yX12_turnsAs ∈ gBIG := gm_of (gs0 _ (List.mem_of_getElem? (l := (k2_sels lw_privs)) (i := 101) rfl)) rfl
theorem wq_629 : Cond.methodLink RX12 347 yX12_dripsAs ∈ gBIG := gm_of (gs8 _ (List.mem_of_getElem? (l := tables_1_8) (i := 28) rfl)) rfl
theorem wq_630 : Cond.code yX12_dripsAs cX12_dripsAs 3 (some .int) ∈ gBIG := gm_of (gs8 _ (List.mem_of_getElem? (l := tables_1_8) (i := 31) rfl)) rfl
theorem wq_631 : Cond.instanceMethod yX12_dripsAs ∈ gBIG := gm_of (gs8 _ (List.mem_of_getElem? (l := tables_1_8) (i := 30) rfl)) rfl
theorem wq_632 : Cond.selects RX12 yX12_dripsAs yX12_dripsAs ∈ gBIG := gm_of (gs0 _ (List.mem_of_getElem? (l := (k2_sels lw_privs)) (i := 99) rfl)) rfl
theorem wq_633 : Cond.methodLink RX12 356 yX12_halvesAs ∈ gBIG := gm_of (gs8 _ (List.mem_of_getElem? (l := tables_1_8) (i := 40) rfl)) rfl
theorem wq_634 : Cond.code yX12_halvesAs cX12_halvesAs 4 (some .int) ∈ gBIG := gm_of (gs8 _ (List.mem_of_getElem? (l := tables_1_8) (i := 43) rfl)) rfl
theorem wq_635 : Cond.instanceMethod yX12_halvesAs ∈ gBIG := gm_of (gs8 _ (List.mem_of_getElem? (l := tables_1_8) (i := 42) rfl)) rfl
theorem wq_636 : Cond.selects RX12 yX12_halvesAs yX12_halvesAs ∈ gBIG := gm_of (gs0 _ (List.mem_of_getElem? (l := (k2_sels lw_privs)) (i := 102) rfl)) rfl
theorem wq_637 : Cond.methodLink RX12 363 yX12_fitsAs ∈ gBIG := gm_of (gs8 _ (List.mem_of_getElem? (l := tables_1_8) (i := 44) rfl)) rfl
theorem wq_638 : Cond.code yX12_fitsAs cX12_fitsAs 4 (some .int) ∈ gBIG := gm_of (gs8 _ (List.mem_of_getElem? (l := tables_1_8) (i := 47) rfl)) rfl
theorem wq_639 : Cond.instanceMethod yX12_fitsAs ∈ gBIG := gm_of (gs8 _ (List.mem_of_getElem? (l := tables_1_8) (i := 46) rfl)) rfl
theorem wq_640 : Cond.selects RX12 yX12_fitsAs yX12_fitsAs ∈ gBIG := gm_of (gs0 _ (List.mem_of_getElem? (l := (k2_sels lw_privs)) (i := 103) rfl)) rfl
theorem wq_641 : Cond.methodLink RX11 86 yX11_isKeyKind ∈ gBIG := gm_of (gs2 _ (List.mem_of_getElem? (l := tables_1_2) (i := 100) rfl)) rfl
theorem wq_642 : Cond.code yX11_isKeyKind cX11_isKeyKind 1 (some .boolean) ∈ gBIG := gm_of (gs2 _ (List.mem_of_getElem? (l := tables_1_2) (i := 102) rfl)) rfl
theorem wq_643 : Cond.static yX11_isKeyKind ∈ gBIG := gm_of (gs2 _ (List.mem_of_getElem? (l := tables_1_2) (i := 101) rfl)) rfl
theorem wq_644 : Cond.methodLink RX11 94 yX11_isGate ∈ gBIG := gm_of (gs2 _ (List.mem_of_getElem? (l := tables_1_2) (i := 106) rfl)) rfl
theorem wq_645 : Cond.code yX11_isGate cX11_isGate 1 (some .boolean) ∈ gBIG := gm_of (gs2 _ (List.mem_of_getElem? (l := tables_1_2) (i := 108) rfl)) rfl
theorem wq_646 : Cond.static yX11_isGate ∈ gBIG := gm_of (gs2 _ (List.mem_of_getElem? (l := tables_1_2) (i := 107) rfl)) rfl
theorem wq_647 : Cond.methodLink RX12 217 yX12_isDigit ∈ gBIG := gm_of (gs6 _ (List.mem_of_getElem? (l := tables_1_6) (i := 119) rfl)) rfl
theorem wq_648 : Cond.code yX12_isDigit cX12_isDigit 1 (some .boolean) ∈ gBIG := gm_of (gs6 _ (List.mem_of_getElem? (l := tables_1_6) (i := 121) rfl)) rfl
theorem wq_649 : Cond.static yX12_isDigit ∈ gBIG := gm_of (gs6 _ (List.mem_of_getElem? (l := tables_1_6) (i := 120) rfl)) rfl
theorem wq_650 : Cond.methodLink RX12 220 yX12_isGate ∈ gBIG := gm_of (gs6 _ (List.mem_of_getElem? (l := tables_1_6) (i := 122) rfl)) rfl
theorem wq_651 : Cond.code yX12_isGate cX12_isGate 1 (some .boolean) ∈ gBIG := gm_of (gs6 _ (List.mem_of_getElem? (l := tables_1_6) (i := 124) rfl)) rfl
theorem wq_652 : Cond.static yX12_isGate ∈ gBIG := gm_of (gs6 _ (List.mem_of_getElem? (l := tables_1_6) (i := 123) rfl)) rfl
theorem wq_653 : Cond.methodLink RX11 119 yX1_melts ∈ gBIG := gm_of (gs2 _ (List.mem_of_getElem? (l := tables_1_2) (i := 121) rfl)) rfl
theorem wq_654 : Cond.methodLink RX11 123 yX1_shape ∈ gBIG := gm_of (gs2 _ (List.mem_of_getElem? (l := tables_1_2) (i := 169) rfl)) rfl
theorem wq_655 : Cond.methodLink RX11 126 yX1_pays ∈ gBIG := gm_of (gs2 _ (List.mem_of_getElem? (l := tables_1_2) (i := 199) rfl)) rfl
theorem wq_656 : Cond.methodLink RX11 129 yX1_mayTurn ∈ gBIG := gm_of (gs2 _ (List.mem_of_getElem? (l := tables_1_2) (i := 210) rfl)) rfl
theorem wq_657 : Cond.code yX1_mayTurn cX1_mayTurn 2 (some .boolean) ∈ gBIG := gm_of (gs2 _ (List.mem_of_getElem? (l := tables_1_2) (i := 213) rfl)) rfl
theorem wq_658 : Cond.instanceMethod yX1_mayTurn ∈ gBIG := gm_of (gs2 _ (List.mem_of_getElem? (l := tables_1_2) (i := 211) rfl)) rfl
theorem wq_659 : Cond.selects RX1 yX1_mayTurn yX1_mayTurn ∈ gBIG := gm_of (gs2 _ (List.mem_of_getElem? (l := tables_1_2) (i := 212) rfl)) rfl
theorem wq_660 : Cond.methodLink RX11 132 yX1_will ∈ gBIG := gm_of (gs2 _ (List.mem_of_getElem? (l := tables_1_2) (i := 238) rfl)) rfl
theorem wq_661 : Cond.methodLink RX11 135 yX11_put ∈ gBIG := gm_of (gs3 _ (List.mem_of_getElem? (l := tables_1_3) (i := 3) rfl)) rfl
theorem wq_662 : Cond.code yX11_put cX11_put 5 (some .int) ∈ gBIG := gm_of (gs3 _ (List.mem_of_getElem? (l := tables_1_3) (i := 5) rfl)) rfl
theorem wq_663 : Cond.static yX11_put ∈ gBIG := gm_of (gs3 _ (List.mem_of_getElem? (l := tables_1_3) (i := 4) rfl)) rfl
theorem wq_664 : Cond.methodLink RX11 139 yX11_changeTurned ∈ gBIG := gm_of (gs3 _ (List.mem_of_getElem? (l := tables_1_3) (i := 6) rfl)) rfl
theorem wq_665 : Cond.code yX11_changeTurned cX11_changeTurned 4 (some .int) ∈ gBIG := gm_of (gs3 _ (List.mem_of_getElem? (l := tables_1_3) (i := 9) rfl)) rfl
theorem wq_666 : Cond.instanceMethod yX11_changeTurned ∈ gBIG := gm_of (gs3 _ (List.mem_of_getElem? (l := tables_1_3) (i := 8) rfl)) rfl
theorem wq_667 : Cond.selects RX11 yX11_changeTurned yX11_changeTurned ∈ gBIG := gm_of (gs0 _ (List.mem_of_getElem? (l := (k2_sels lw_privs)) (i := 4) rfl)) rfl
theorem wq_668 : Cond.methodLink RX12 226 yX12_becomes ∈ gBIG := gm_of (gs6 _ (List.mem_of_getElem? (l := tables_1_6) (i := 203) rfl)) rfl
theorem wq_669 : Cond.code yX12_becomes cX12_becomes 4 (some .int) ∈ gBIG := gm_of (gs6 _ (List.mem_of_getElem? (l := tables_1_6) (i := 206) rfl)) rfl
theorem wq_670 : Cond.instanceMethod yX12_becomes ∈ gBIG := gm_of (gs6 _ (List.mem_of_getElem? (l := tables_1_6) (i := 205) rfl)) rfl
theorem wq_671 : Cond.selects RX12 yX12_becomes yX12_becomes ∈ gBIG := gm_of (gs0 _ (List.mem_of_getElem? (l := (k2_sels lw_privs)) (i := 68) rfl)) rfl
theorem wq_672 : Cond.methodLink RX11 172 yX1_sunAt ∈ gBIG := gm_of (gs3 _ (List.mem_of_getElem? (l := tables_1_3) (i := 46) rfl)) rfl
theorem wq_673 : Cond.methodLink RX11 175 yX1_allTeeth ∈ gBIG := gm_of (gs3 _ (List.mem_of_getElem? (l := tables_1_3) (i := 47) rfl)) rfl
theorem wq_674 : Cond.code yX1_allTeeth cX1_allTeeth 3 (some .int) ∈ gBIG := gm_of (gs3 _ (List.mem_of_getElem? (l := tables_1_3) (i := 50) rfl)) rfl
theorem wq_675 : Cond.instanceMethod yX1_allTeeth ∈ gBIG := gm_of (gs3 _ (List.mem_of_getElem? (l := tables_1_3) (i := 48) rfl)) rfl
theorem wq_676 : Cond.selects RX1 yX1_allTeeth yX1_allTeeth ∈ gBIG := gm_of (gs3 _ (List.mem_of_getElem? (l := tables_1_3) (i := 49) rfl)) rfl
theorem wq_677 : Cond.methodLink RX12 235 yX12_teethAll ∈ gBIG := gm_of (gs7 _ (List.mem_of_getElem? (l := tables_1_7) (i := 3) rfl)) rfl
theorem wq_678 : Cond.code yX12_teethAll cX12_teethAll 3 (some .int) ∈ gBIG := gm_of (gs7 _ (List.mem_of_getElem? (l := tables_1_7) (i := 6) rfl)) rfl
theorem wq_679 : Cond.instanceMethod yX12_teethAll ∈ gBIG := gm_of (gs7 _ (List.mem_of_getElem? (l := tables_1_7) (i := 5) rfl)) rfl
theorem wq_680 : Cond.selects RX12 yX12_teethAll yX12_teethAll ∈ gBIG := gm_of (gs0 _ (List.mem_of_getElem? (l := (k2_sels lw_privs)) (i := 71) rfl)) rfl
theorem wq_681 : Cond.methodLink RX11 182 yX5_add ∈ gBIG := gm_of (gs3 _ (List.mem_of_getElem? (l := tables_1_3) (i := 55) rfl)) rfl
theorem wq_682 : Cond.code yX5_add cX5_add 2 none ∈ gBIG := gm_of (gs3 _ (List.mem_of_getElem? (l := tables_1_3) (i := 58) rfl)) rfl
theorem wq_683 : Cond.instanceMethod yX5_add ∈ gBIG := gm_of (gs3 _ (List.mem_of_getElem? (l := tables_1_3) (i := 56) rfl)) rfl
theorem wq_684 : Cond.selects RX5 yX5_add yX5_add ∈ gBIG := gm_of (gs3 _ (List.mem_of_getElem? (l := tables_1_3) (i := 57) rfl)) rfl
theorem wq_685 : Cond.methodLink RX11 186 yX5_read ∈ gBIG := gm_of (gs3 _ (List.mem_of_getElem? (l := tables_1_3) (i := 63) rfl)) rfl
theorem wq_686 : Cond.code yX5_read cX5_read 5 (some .int) ∈ gBIG := gm_of (gs3 _ (List.mem_of_getElem? (l := tables_1_3) (i := 66) rfl)) rfl
theorem wq_687 : Cond.instanceMethod yX5_read ∈ gBIG := gm_of (gs3 _ (List.mem_of_getElem? (l := tables_1_3) (i := 64) rfl)) rfl
theorem wq_688 : Cond.selects RX5 yX5_read yX5_read ∈ gBIG := gm_of (gs3 _ (List.mem_of_getElem? (l := tables_1_3) (i := 65) rfl)) rfl
theorem wq_689 : Cond.methodLink RX11 196 yX6_copyFrom ∈ gBIG := gm_of (gs3 _ (List.mem_of_getElem? (l := tables_1_3) (i := 210) rfl)) rfl
theorem wq_690 : Cond.methodLink RX12 192 yX12_readsRule ∈ gBIG := gm_of (gs6 _ (List.mem_of_getElem? (l := tables_1_6) (i := 79) rfl)) rfl
theorem wq_691 : Cond.code yX12_readsRule cX12_readsRule 2 (some .boolean) ∈ gBIG := gm_of (gs6 _ (List.mem_of_getElem? (l := tables_1_6) (i := 82) rfl)) rfl
theorem wq_692 : Cond.instanceMethod yX12_readsRule ∈ gBIG := gm_of (gs6 _ (List.mem_of_getElem? (l := tables_1_6) (i := 81) rfl)) rfl
theorem wq_693 : Cond.selects RX12 yX12_readsRule yX12_readsRule ∈ gBIG := gm_of (gs0 _ (List.mem_of_getElem? (l := (k2_sels lw_privs)) (i := 46) rfl)) rfl
theorem wq_694 : Cond.methodLink RX11 203 yX1_restAct ∈ gBIG := gm_of (gs3 _ (List.mem_of_getElem? (l := tables_1_3) (i := 222) rfl)) rfl
theorem wq_695 : Cond.methodLink RX11 209 yX11_scored ∈ gBIG := gm_of (gs4 _ (List.mem_of_getElem? (l := tables_1_4) (i := 2) rfl)) rfl
theorem wq_696 : Cond.code yX11_scored cX11_scored 2 (some .int) ∈ gBIG := gm_of (gs4 _ (List.mem_of_getElem? (l := tables_1_4) (i := 5) rfl)) rfl
theorem wq_697 : Cond.instanceMethod yX11_scored ∈ gBIG := gm_of (gs4 _ (List.mem_of_getElem? (l := tables_1_4) (i := 4) rfl)) rfl
theorem wq_698 : Cond.selects RX11 yX11_scored yX11_scored ∈ gBIG := gm_of (gs0 _ (List.mem_of_getElem? (l := (k2_sels lw_privs)) (i := 23) rfl)) rfl
theorem wq_699 : Cond.methodLink RX11 221 yX11_bestValue ∈ gBIG := gm_of (gs4 _ (List.mem_of_getElem? (l := tables_1_4) (i := 33) rfl)) rfl
theorem wq_700 : Cond.code yX11_bestValue cX11_bestValue 9 (some .int) ∈ gBIG := gm_of (gs4 _ (List.mem_of_getElem? (l := tables_1_4) (i := 36) rfl)) rfl
theorem wq_701 : Cond.instanceMethod yX11_bestValue ∈ gBIG := gm_of (gs4 _ (List.mem_of_getElem? (l := tables_1_4) (i := 35) rfl)) rfl
theorem wq_702 : Cond.selects RX11 yX11_bestValue yX11_bestValue ∈ gBIG := gm_of (gs0 _ (List.mem_of_getElem? (l := (k2_sels lw_privs)) (i := 24) rfl)) rfl
theorem wq_703 : Cond.methodLink RX12 250 yX12_bestFor ∈ gBIG := gm_of (gs7 _ (List.mem_of_getElem? (l := tables_1_7) (i := 54) rfl)) rfl
theorem wq_704 : Cond.code yX12_bestFor cX12_bestFor 8 (some .int) ∈ gBIG := gm_of (gs7 _ (List.mem_of_getElem? (l := tables_1_7) (i := 57) rfl)) rfl
theorem wq_705 : Cond.instanceMethod yX12_bestFor ∈ gBIG := gm_of (gs7 _ (List.mem_of_getElem? (l := tables_1_7) (i := 56) rfl)) rfl
theorem wq_706 : Cond.selects RX12 yX12_bestFor yX12_bestFor ∈ gBIG := gm_of (gs0 _ (List.mem_of_getElem? (l := (k2_sels lw_privs)) (i := 79) rfl)) rfl
theorem wq_707 : Cond.methodLink RX11 225 yX1_fitsWard ∈ gBIG := gm_of (gs4 _ (List.mem_of_getElem? (l := tables_1_4) (i := 49) rfl)) rfl
theorem wq_708 : Cond.methodLink RX11 229 yX11_countBunches ∈ gBIG := gm_of (gs4 _ (List.mem_of_getElem? (l := tables_1_4) (i := 58) rfl)) rfl
theorem wq_709 : Cond.code yX11_countBunches cX11_countBunches 4 (some .int) ∈ gBIG := gm_of (gs4 _ (List.mem_of_getElem? (l := tables_1_4) (i := 61) rfl)) rfl
theorem wq_710 : Cond.instanceMethod yX11_countBunches ∈ gBIG := gm_of (gs4 _ (List.mem_of_getElem? (l := tables_1_4) (i := 60) rfl)) rfl
theorem wq_711 : Cond.selects RX11 yX11_countBunches yX11_countBunches ∈ gBIG := gm_of (gs0 _ (List.mem_of_getElem? (l := (k2_sels lw_privs)) (i := 25) rfl)) rfl
theorem wq_712 : Cond.methodLink RX12 256 yX12_bunchOf ∈ gBIG := gm_of (gs7 _ (List.mem_of_getElem? (l := tables_1_7) (i := 78) rfl)) rfl
theorem wq_713 : Cond.code yX12_bunchOf cX12_bunchOf 6 (some .int) ∈ gBIG := gm_of (gs7 _ (List.mem_of_getElem? (l := tables_1_7) (i := 81) rfl)) rfl
theorem wq_714 : Cond.instanceMethod yX12_bunchOf ∈ gBIG := gm_of (gs7 _ (List.mem_of_getElem? (l := tables_1_7) (i := 80) rfl)) rfl
theorem wq_715 : Cond.selects RX12 yX12_bunchOf yX12_bunchOf ∈ gBIG := gm_of (gs0 _ (List.mem_of_getElem? (l := (k2_sels lw_privs)) (i := 80) rfl)) rfl
theorem wq_716 : Cond.methodLink RX11 238 yX11_isPlan ∈ gBIG := gm_of (gs4 _ (List.mem_of_getElem? (l := tables_1_4) (i := 84) rfl)) rfl
theorem wq_717 : Cond.code yX11_isPlan cX11_isPlan 1 (some .boolean) ∈ gBIG := gm_of (gs4 _ (List.mem_of_getElem? (l := tables_1_4) (i := 86) rfl)) rfl
theorem wq_718 : Cond.static yX11_isPlan ∈ gBIG := gm_of (gs4 _ (List.mem_of_getElem? (l := tables_1_4) (i := 85) rfl)) rfl
theorem wq_719 : Cond.methodLink RX12 288 yX12_isPlan ∈ gBIG := gm_of (gs7 _ (List.mem_of_getElem? (l := tables_1_7) (i := 90) rfl)) rfl
theorem wq_720 : Cond.code yX12_isPlan cX12_isPlan 1 (some .boolean) ∈ gBIG := gm_of (gs7 _ (List.mem_of_getElem? (l := tables_1_7) (i := 92) rfl)) rfl
theorem wq_721 : Cond.static yX12_isPlan ∈ gBIG := gm_of (gs7 _ (List.mem_of_getElem? (l := tables_1_7) (i := 91) rfl)) rfl
theorem wq_722 : Cond.methodLink RX12 291 yX12_triesAll ∈ gBIG := gm_of (gs7 _ (List.mem_of_getElem? (l := tables_1_7) (i := 93) rfl)) rfl
theorem wq_723 : Cond.code yX12_triesAll cX12_triesAll 3 none ∈ gBIG := gm_of (gs7 _ (List.mem_of_getElem? (l := tables_1_7) (i := 96) rfl)) rfl
theorem wq_724 : Cond.instanceMethod yX12_triesAll ∈ gBIG := gm_of (gs7 _ (List.mem_of_getElem? (l := tables_1_7) (i := 95) rfl)) rfl
theorem wq_725 : Cond.selects RX12 yX12_triesAll yX12_triesAll ∈ gBIG := gm_of (gs0 _ (List.mem_of_getElem? (l := (k2_sels lw_privs)) (i := 82) rfl)) rfl
theorem wq_726 : Cond.methodLink RX11 248 yX1_haltsOf ∈ gBIG := gm_of (gs4 _ (List.mem_of_getElem? (l := tables_1_4) (i := 109) rfl)) rfl
theorem wq_727 : Cond.code yX1_haltsOf cX1_haltsOf 2 (some .int) ∈ gBIG := gm_of (gs4 _ (List.mem_of_getElem? (l := tables_1_4) (i := 112) rfl)) rfl
theorem wq_728 : Cond.instanceMethod yX1_haltsOf ∈ gBIG := gm_of (gs4 _ (List.mem_of_getElem? (l := tables_1_4) (i := 110) rfl)) rfl
theorem wq_729 : Cond.selects RX1 yX1_haltsOf yX1_haltsOf ∈ gBIG := gm_of (gs4 _ (List.mem_of_getElem? (l := tables_1_4) (i := 111) rfl)) rfl
theorem wq_730 : Cond.methodLink RX11 257 yX11_isKeySet ∈ gBIG := gm_of (gs4 _ (List.mem_of_getElem? (l := tables_1_4) (i := 121) rfl)) rfl
theorem wq_731 : Cond.code yX11_isKeySet cX11_isKeySet 2 (some .boolean) ∈ gBIG := gm_of (gs4 _ (List.mem_of_getElem? (l := tables_1_4) (i := 124) rfl)) rfl
theorem wq_732 : Cond.instanceMethod yX11_isKeySet ∈ gBIG := gm_of (gs4 _ (List.mem_of_getElem? (l := tables_1_4) (i := 123) rfl)) rfl
theorem wq_733 : Cond.selects RX11 yX11_isKeySet yX11_isKeySet ∈ gBIG := gm_of (gs0 _ (List.mem_of_getElem? (l := (k2_sels lw_privs)) (i := 30) rfl)) rfl
theorem wq_734 : Cond.methodLink RX12 295 yX12_isSet ∈ gBIG := gm_of (gs7 _ (List.mem_of_getElem? (l := tables_1_7) (i := 129) rfl)) rfl
theorem wq_735 : Cond.code yX12_isSet cX12_isSet 2 (some .boolean) ∈ gBIG := gm_of (gs7 _ (List.mem_of_getElem? (l := tables_1_7) (i := 132) rfl)) rfl
theorem wq_736 : Cond.instanceMethod yX12_isSet ∈ gBIG := gm_of (gs7 _ (List.mem_of_getElem? (l := tables_1_7) (i := 131) rfl)) rfl
theorem wq_737 : Cond.selects RX12 yX12_isSet yX12_isSet ∈ gBIG := gm_of (gs0 _ (List.mem_of_getElem? (l := (k2_sels lw_privs)) (i := 88) rfl)) rfl
theorem wq_738 : Cond.methodLink RX11 276 yX11_loneKind ∈ gBIG := gm_of (gs4 _ (List.mem_of_getElem? (l := tables_1_4) (i := 165) rfl)) rfl
theorem wq_739 : Cond.code yX11_loneKind cX11_loneKind 1 (some .int) ∈ gBIG := gm_of (gs4 _ (List.mem_of_getElem? (l := tables_1_4) (i := 167) rfl)) rfl
theorem wq_740 : Cond.static yX11_loneKind ∈ gBIG := gm_of (gs4 _ (List.mem_of_getElem? (l := tables_1_4) (i := 166) rfl)) rfl
theorem wq_741 : Cond.methodLink RX11 279 yX11_loneStraw ∈ gBIG := gm_of (gs4 _ (List.mem_of_getElem? (l := tables_1_4) (i := 168) rfl)) rfl
theorem wq_742 : Cond.code yX11_loneStraw cX11_loneStraw 1 (some .int) ∈ gBIG := gm_of (gs4 _ (List.mem_of_getElem? (l := tables_1_4) (i := 170) rfl)) rfl
theorem wq_743 : Cond.static yX11_loneStraw ∈ gBIG := gm_of (gs4 _ (List.mem_of_getElem? (l := tables_1_4) (i := 169) rfl)) rfl
theorem wq_744 : Cond.methodLink RX11 282 yX11_loneTeeth ∈ gBIG := gm_of (gs4 _ (List.mem_of_getElem? (l := tables_1_4) (i := 171) rfl)) rfl
theorem wq_745 : Cond.code yX11_loneTeeth cX11_loneTeeth 1 (some .int) ∈ gBIG := gm_of (gs4 _ (List.mem_of_getElem? (l := tables_1_4) (i := 173) rfl)) rfl
theorem wq_746 : Cond.static yX11_loneTeeth ∈ gBIG := gm_of (gs4 _ (List.mem_of_getElem? (l := tables_1_4) (i := 172) rfl)) rfl
theorem wq_747 : Cond.methodLink RX11 285 yX1_misfits ∈ gBIG := gm_of (gs4 _ (List.mem_of_getElem? (l := tables_1_4) (i := 174) rfl)) rfl
theorem wq_748 : Cond.code yX1_misfits cX1_misfits 9 (some .int) ∈ gBIG := gm_of (gs4 _ (List.mem_of_getElem? (l := tables_1_4) (i := 177) rfl)) rfl
theorem wq_749 : Cond.instanceMethod yX1_misfits ∈ gBIG := gm_of (gs4 _ (List.mem_of_getElem? (l := tables_1_4) (i := 175) rfl)) rfl
theorem wq_750 : Cond.selects RX1 yX1_misfits yX1_misfits ∈ gBIG := gm_of (gs4 _ (List.mem_of_getElem? (l := tables_1_4) (i := 176) rfl)) rfl
theorem wq_751 : Cond.methodLink RX12 310 yX12_fitting ∈ gBIG := gm_of (gs7 _ (List.mem_of_getElem? (l := tables_1_7) (i := 161) rfl)) rfl
theorem wq_752 : Cond.code yX12_fitting cX12_fitting 6 (some .int) ∈ gBIG := gm_of (gs7 _ (List.mem_of_getElem? (l := tables_1_7) (i := 164) rfl)) rfl
theorem wq_753 : Cond.instanceMethod yX12_fitting ∈ gBIG := gm_of (gs7 _ (List.mem_of_getElem? (l := tables_1_7) (i := 163) rfl)) rfl
theorem wq_754 : Cond.selects RX12 yX12_fitting yX12_fitting ∈ gBIG := gm_of (gs0 _ (List.mem_of_getElem? (l := (k2_sels lw_privs)) (i := 90) rfl)) rfl
theorem wq_755 : Cond.methodLink RX11 293 Lib.Math.min.name ∈ gBIG := gm_of (gs4 _ (List.mem_of_getElem? (l := tables_1_4) (i := 187) rfl)) rfl
theorem wq_756 : Cond.methodLink RX11 301 yX1_drawAct ∈ gBIG := gm_of (gs4 _ (List.mem_of_getElem? (l := tables_1_4) (i := 196) rfl)) rfl
theorem wq_757 : Cond.methodLink RX12 314 yX12_byLot ∈ gBIG := gm_of (gs7 _ (List.mem_of_getElem? (l := tables_1_7) (i := 185) rfl)) rfl
theorem wq_758 : Cond.code yX12_byLot cX12_byLot 1 (some .int) ∈ gBIG := gm_of (gs7 _ (List.mem_of_getElem? (l := tables_1_7) (i := 188) rfl)) rfl
theorem wq_759 : Cond.instanceMethod yX12_byLot ∈ gBIG := gm_of (gs7 _ (List.mem_of_getElem? (l := tables_1_7) (i := 187) rfl)) rfl
theorem wq_760 : Cond.selects RX12 yX12_byLot yX12_byLot ∈ gBIG := gm_of (gs0 _ (List.mem_of_getElem? (l := (k2_sels lw_privs)) (i := 93) rfl)) rfl
theorem wq_761 : Cond.methodLink RX11 304 yX1_goLots ∈ gBIG := gm_of (gs4 _ (List.mem_of_getElem? (l := tables_1_4) (i := 205) rfl)) rfl
theorem wq_762 : Cond.code yX1_goLots cX1_goLots 3 (some .int) ∈ gBIG := gm_of (gs4 _ (List.mem_of_getElem? (l := tables_1_4) (i := 208) rfl)) rfl
theorem wq_763 : Cond.instanceMethod yX1_goLots ∈ gBIG := gm_of (gs4 _ (List.mem_of_getElem? (l := tables_1_4) (i := 206) rfl)) rfl
theorem wq_764 : Cond.selects RX1 yX1_goLots yX1_goLots ∈ gBIG := gm_of (gs4 _ (List.mem_of_getElem? (l := tables_1_4) (i := 207) rfl)) rfl
theorem wq_765 : Cond.methodLink RX11 310 yX11_isRowField ∈ gBIG := gm_of (gs4 _ (List.mem_of_getElem? (l := tables_1_4) (i := 218) rfl)) rfl
theorem wq_766 : Cond.code yX11_isRowField cX11_isRowField 3 (some .boolean) ∈ gBIG := gm_of (gs4 _ (List.mem_of_getElem? (l := tables_1_4) (i := 221) rfl)) rfl
theorem wq_767 : Cond.instanceMethod yX11_isRowField ∈ gBIG := gm_of (gs4 _ (List.mem_of_getElem? (l := tables_1_4) (i := 220) rfl)) rfl
theorem wq_768 : Cond.selects RX11 yX11_isRowField yX11_isRowField ∈ gBIG := gm_of (gs0 _ (List.mem_of_getElem? (l := (k2_sels lw_privs)) (i := 35) rfl)) rfl
theorem wq_769 : Cond.methodLink RX12 320 yX12_isRow ∈ gBIG := gm_of (gs7 _ (List.mem_of_getElem? (l := tables_1_7) (i := 202) rfl)) rfl
theorem wq_770 : Cond.code yX12_isRow cX12_isRow 3 (some .boolean) ∈ gBIG := gm_of (gs7 _ (List.mem_of_getElem? (l := tables_1_7) (i := 205) rfl)) rfl
theorem wq_771 : Cond.instanceMethod yX12_isRow ∈ gBIG := gm_of (gs7 _ (List.mem_of_getElem? (l := tables_1_7) (i := 204) rfl)) rfl
theorem wq_772 : Cond.selects RX12 yX12_isRow yX12_isRow ∈ gBIG := gm_of (gs0 _ (List.mem_of_getElem? (l := (k2_sels lw_privs)) (i := 94) rfl)) rfl
theorem wq_773 : Cond.methodLink RX11 313 yX11_isRowRight ∈ gBIG := gm_of (gs4 _ (List.mem_of_getElem? (l := tables_1_4) (i := 230) rfl)) rfl
theorem wq_774 : Cond.code yX11_isRowRight cX11_isRowRight 3 (some .boolean) ∈ gBIG := gm_of (gs4 _ (List.mem_of_getElem? (l := tables_1_4) (i := 233) rfl)) rfl
theorem wq_775 : Cond.instanceMethod yX11_isRowRight ∈ gBIG := gm_of (gs4 _ (List.mem_of_getElem? (l := tables_1_4) (i := 232) rfl)) rfl
theorem wq_776 : Cond.selects RX11 yX11_isRowRight yX11_isRowRight ∈ gBIG := gm_of (gs0 _ (List.mem_of_getElem? (l := (k2_sels lw_privs)) (i := 36) rfl)) rfl
theorem wq_777 : Cond.methodLink RX12 323 yX12_isAct ∈ gBIG := gm_of (gs7 _ (List.mem_of_getElem? (l := tables_1_7) (i := 214) rfl)) rfl
theorem wq_778 : Cond.code yX12_isAct cX12_isAct 2 (some .boolean) ∈ gBIG := gm_of (gs7 _ (List.mem_of_getElem? (l := tables_1_7) (i := 217) rfl)) rfl
theorem wq_779 : Cond.instanceMethod yX12_isAct ∈ gBIG := gm_of (gs7 _ (List.mem_of_getElem? (l := tables_1_7) (i := 216) rfl)) rfl
theorem wq_780 : Cond.selects RX12 yX12_isAct yX12_isAct ∈ gBIG := gm_of (gs0 _ (List.mem_of_getElem? (l := (k2_sels lw_privs)) (i := 95) rfl)) rfl
theorem wq_781 : Cond.methodLink RX11 319 yX11_isPlace ∈ gBIG := gm_of (gs5 _ (List.mem_of_getElem? (l := tables_1_5) (i := 2) rfl)) rfl
theorem wq_782 : Cond.code yX11_isPlace cX11_isPlace 1 (some .boolean) ∈ gBIG := gm_of (gs5 _ (List.mem_of_getElem? (l := tables_1_5) (i := 4) rfl)) rfl
theorem wq_783 : Cond.static yX11_isPlace ∈ gBIG := gm_of (gs5 _ (List.mem_of_getElem? (l := tables_1_5) (i := 3) rfl)) rfl
theorem wq_784 : Cond.methodLink RX12 326 yX12_isSheet ∈ gBIG := gm_of (gs7 _ (List.mem_of_getElem? (l := tables_1_7) (i := 222) rfl)) rfl
theorem wq_785 : Cond.code yX12_isSheet cX12_isSheet 1 (some .boolean) ∈ gBIG := gm_of (gs7 _ (List.mem_of_getElem? (l := tables_1_7) (i := 224) rfl)) rfl
theorem wq_786 : Cond.static yX12_isSheet ∈ gBIG := gm_of (gs7 _ (List.mem_of_getElem? (l := tables_1_7) (i := 223) rfl)) rfl
theorem wq_787 : Cond.methodLink RX11 325 yX11_narrowed ∈ gBIG := gm_of (gs5 _ (List.mem_of_getElem? (l := tables_1_5) (i := 13) rfl)) rfl
theorem wq_788 : Cond.code yX11_narrowed cX11_narrowed 2 (some .int) ∈ gBIG := gm_of (gs5 _ (List.mem_of_getElem? (l := tables_1_5) (i := 15) rfl)) rfl
theorem wq_789 : Cond.static yX11_narrowed ∈ gBIG := gm_of (gs5 _ (List.mem_of_getElem? (l := tables_1_5) (i := 14) rfl)) rfl
theorem wq_790 : Cond.methodLink RX12 329 yX12_narrowed ∈ gBIG := gm_of (gs7 _ (List.mem_of_getElem? (l := tables_1_7) (i := 229) rfl)) rfl
theorem wq_791 : Cond.code yX12_narrowed cX12_narrowed 2 (some .int) ∈ gBIG := gm_of (gs7 _ (List.mem_of_getElem? (l := tables_1_7) (i := 231) rfl)) rfl
theorem wq_792 : Cond.static yX12_narrowed ∈ gBIG := gm_of (gs7 _ (List.mem_of_getElem? (l := tables_1_7) (i := 230) rfl)) rfl
theorem wq_793 : Cond.methodLink RX11 328 yX11_refusalOf ∈ gBIG := gm_of (gs5 _ (List.mem_of_getElem? (l := tables_1_5) (i := 20) rfl)) rfl
theorem wq_794 : Cond.code yX11_refusalOf cX11_refusalOf 3 (some .int) ∈ gBIG := gm_of (gs5 _ (List.mem_of_getElem? (l := tables_1_5) (i := 23) rfl)) rfl
theorem wq_795 : Cond.instanceMethod yX11_refusalOf ∈ gBIG := gm_of (gs5 _ (List.mem_of_getElem? (l := tables_1_5) (i := 22) rfl)) rfl
theorem wq_796 : Cond.selects RX11 yX11_refusalOf yX11_refusalOf ∈ gBIG := gm_of (gs0 _ (List.mem_of_getElem? (l := (k2_sels lw_privs)) (i := 38) rfl)) rfl
theorem wq_797 : Cond.methodLink RX12 332 yX12_lacks ∈ gBIG := gm_of (gs7 _ (List.mem_of_getElem? (l := tables_1_7) (i := 236) rfl)) rfl
theorem wq_798 : Cond.code yX12_lacks cX12_lacks 3 (some .int) ∈ gBIG := gm_of (gs7 _ (List.mem_of_getElem? (l := tables_1_7) (i := 239) rfl)) rfl
theorem wq_799 : Cond.instanceMethod yX12_lacks ∈ gBIG := gm_of (gs7 _ (List.mem_of_getElem? (l := tables_1_7) (i := 238) rfl)) rfl
theorem wq_800 : Cond.selects RX12 yX12_lacks yX12_lacks ∈ gBIG := gm_of (gs0 _ (List.mem_of_getElem? (l := (k2_sels lw_privs)) (i := 96) rfl)) rfl
theorem wq_801 : Cond.methodLink RX12 335 yX12_isItem ∈ gBIG := gm_of (gs8 _ (List.mem_of_getElem? (l := tables_1_8) (i := 4) rfl)) rfl
theorem wq_802 : Cond.code yX12_isItem cX12_isItem 4 (some .boolean) ∈ gBIG := gm_of (gs8 _ (List.mem_of_getElem? (l := tables_1_8) (i := 7) rfl)) rfl
theorem wq_803 : Cond.instanceMethod yX12_isItem ∈ gBIG := gm_of (gs8 _ (List.mem_of_getElem? (l := tables_1_8) (i := 6) rfl)) rfl
theorem wq_804 : Cond.selects RX12 yX12_isItem yX12_isItem ∈ gBIG := gm_of (gs0 _ (List.mem_of_getElem? (l := (k2_sels lw_privs)) (i := 97) rfl)) rfl
theorem wq_805 : Cond.methodLink RX11 331 yX11_goItems ∈ gBIG := gm_of (gs5 _ (List.mem_of_getElem? (l := tables_1_5) (i := 32) rfl)) rfl
theorem wq_806 : Cond.code yX11_goItems cX11_goItems 7 (some .int) ∈ gBIG := gm_of (gs5 _ (List.mem_of_getElem? (l := tables_1_5) (i := 35) rfl)) rfl
theorem wq_807 : Cond.instanceMethod yX11_goItems ∈ gBIG := gm_of (gs5 _ (List.mem_of_getElem? (l := tables_1_5) (i := 34) rfl)) rfl
theorem wq_808 : Cond.selects RX11 yX11_goItems yX11_goItems ∈ gBIG := gm_of (gs0 _ (List.mem_of_getElem? (l := (k2_sels lw_privs)) (i := 39) rfl)) rfl
theorem wq_809 : Cond.methodLink RX11 334 yX11_holdsKey ∈ gBIG := gm_of (gs5 _ (List.mem_of_getElem? (l := tables_1_5) (i := 44) rfl)) rfl
theorem wq_810 : Cond.code yX11_holdsKey cX11_holdsKey 2 (some .boolean) ∈ gBIG := gm_of (gs5 _ (List.mem_of_getElem? (l := tables_1_5) (i := 47) rfl)) rfl
theorem wq_811 : Cond.instanceMethod yX11_holdsKey ∈ gBIG := gm_of (gs5 _ (List.mem_of_getElem? (l := tables_1_5) (i := 46) rfl)) rfl
theorem wq_812 : Cond.selects RX11 yX11_holdsKey yX11_holdsKey ∈ gBIG := gm_of (gs0 _ (List.mem_of_getElem? (l := (k2_sels lw_privs)) (i := 40) rfl)) rfl
theorem wq_813 : Cond.methodLink RX11 337 yX11_isOf ∈ gBIG := gm_of (gs5 _ (List.mem_of_getElem? (l := tables_1_5) (i := 48) rfl)) rfl
theorem wq_814 : Cond.methodLink RX12 338 yX12_heldOn ∈ gBIG := gm_of (gs8 _ (List.mem_of_getElem? (l := tables_1_8) (i := 20) rfl)) rfl
theorem wq_815 : Cond.code yX12_heldOn cX12_heldOn 2 (some .int) ∈ gBIG := gm_of (gs8 _ (List.mem_of_getElem? (l := tables_1_8) (i := 23) rfl)) rfl
theorem wq_816 : Cond.instanceMethod yX12_heldOn ∈ gBIG := gm_of (gs8 _ (List.mem_of_getElem? (l := tables_1_8) (i := 22) rfl)) rfl
theorem wq_817 : Cond.selects RX12 yX12_heldOn yX12_heldOn ∈ gBIG := gm_of (gs0 _ (List.mem_of_getElem? (l := (k2_sels lw_privs)) (i := 98) rfl)) rfl
theorem wq_818 : Cond.methodLink RX11 345 yX0_begin ∈ gBIG := gm_of (gs5 _ (List.mem_of_getElem? (l := tables_1_5) (i := 53) rfl)) rfl
theorem wq_819 : Cond.code yX0_begin cX0_begin 3 none ∈ gBIG := gm_of (gs5 _ (List.mem_of_getElem? (l := tables_1_5) (i := 56) rfl)) rfl
theorem wq_820 : Cond.instanceMethod yX0_begin ∈ gBIG := gm_of (gs5 _ (List.mem_of_getElem? (l := tables_1_5) (i := 54) rfl)) rfl
theorem wq_821 : Cond.selects RX0 yX0_begin yX0_begin ∈ gBIG := gm_of (gs5 _ (List.mem_of_getElem? (l := tables_1_5) (i := 55) rfl)) rfl
theorem wq_822 : Cond.methodLink RX11 348 yX3_drips ∈ gBIG := gm_of (gs5 _ (List.mem_of_getElem? (l := tables_1_5) (i := 57) rfl)) rfl
theorem wq_823 : Cond.methodLink RX11 352 yX3_turns ∈ gBIG := gm_of (gs5 _ (List.mem_of_getElem? (l := tables_1_5) (i := 81) rfl)) rfl
theorem wq_824 : Cond.methodLink RX11 355 yX3_halves ∈ gBIG := gm_of (gs5 _ (List.mem_of_getElem? (l := tables_1_5) (i := 102) rfl)) rfl
theorem wq_825 : Cond.methodLink RX11 358 yX3_fits ∈ gBIG := gm_of (gs5 _ (List.mem_of_getElem? (l := tables_1_5) (i := 126) rfl)) rfl
theorem wq_826 : Cond.sameMethod RX3 RX3 "fits" "(ILIceKeys$Deed;)I" ∈ gBIG := gm_of (gs5 _ (List.mem_of_getElem? (l := tables_1_5) (i := 129) rfl)) rfl
theorem wq_827 : Cond.selects RX2 yX3_fits yX3_fits ∈ gBIG := gm_of (gs5 _ (List.mem_of_getElem? (l := tables_1_5) (i := 130) rfl)) rfl
theorem wq_828 : Cond.selects RX3 yX3_fits yX3_fits ∈ gBIG := gm_of (gs5 _ (List.mem_of_getElem? (l := tables_1_5) (i := 128) rfl)) rfl
theorem wq_829 : Cond.selects RX7 yX3_fits yX3_fits ∈ gBIG := gm_of (gs5 _ (List.mem_of_getElem? (l := tables_1_5) (i := 131) rfl)) rfl
theorem wq_830 : Cond.selects RX8 yX3_fits yX3_fits ∈ gBIG := gm_of (gs5 _ (List.mem_of_getElem? (l := tables_1_5) (i := 132) rfl)) rfl
theorem wq_831 : Cond.selects RX9 yX3_fits yX3_fits ∈ gBIG := gm_of (gs5 _ (List.mem_of_getElem? (l := tables_1_5) (i := 133) rfl)) rfl
theorem wq_832 : Cond.code yX10_fits cX10_fits 4 (some .int) ∈ gBIG := gm_of (gs5 _ (List.mem_of_getElem? (l := tables_1_5) (i := 136) rfl)) rfl
theorem wq_833 : Cond.selects RX10 yX3_fits yX10_fits ∈ gBIG := gm_of (gs5 _ (List.mem_of_getElem? (l := tables_1_5) (i := 134) rfl)) rfl
theorem wq_834 : Cond.instanceMethod yX10_fits ∈ gBIG := gm_of (gs5 _ (List.mem_of_getElem? (l := tables_1_5) (i := 135) rfl)) rfl
theorem wq_835 : Cond.methodLink RX12 366 yX12_ones ∈ gBIG := gm_of (gs8 _ (List.mem_of_getElem? (l := tables_1_8) (i := 56) rfl)) rfl
theorem wq_836 : Cond.code yX12_ones cX12_ones 3 (some .int) ∈ gBIG := gm_of (gs8 _ (List.mem_of_getElem? (l := tables_1_8) (i := 58) rfl)) rfl
theorem wq_837 : Cond.static yX12_ones ∈ gBIG := gm_of (gs8 _ (List.mem_of_getElem? (l := tables_1_8) (i := 57) rfl)) rfl
theorem wq_838 : Cond.methodLink RX11 368 yX1_copyFrom ∈ gBIG := gm_of (gs5 _ (List.mem_of_getElem? (l := tables_1_5) (i := 159) rfl)) rfl
theorem wq_839 : Cond.code yX1_copyFrom cX1_copyFrom 2 none ∈ gBIG := gm_of (gs5 _ (List.mem_of_getElem? (l := tables_1_5) (i := 162) rfl)) rfl
theorem wq_840 : Cond.instanceMethod yX1_copyFrom ∈ gBIG := gm_of (gs5 _ (List.mem_of_getElem? (l := tables_1_5) (i := 160) rfl)) rfl
theorem wq_841 : Cond.selects RX1 yX1_copyFrom yX1_copyFrom ∈ gBIG := gm_of (gs5 _ (List.mem_of_getElem? (l := tables_1_5) (i := 161) rfl)) rfl
theorem cmq_X1_sunAt : gcm mX1_sunAt 1 := ⟨wq_5, wq_6, by decide, by decide, by decide, by decide +kernel, by decide⟩
theorem cmq_X3_melts : gcm mX3_melts 3 := ⟨wq_9, wq_10, by decide, by decide, by decide, by decide +kernel, by decide⟩
theorem cmq_X7_melts : gcm mX7_melts 3 := ⟨wq_19, wq_20, by decide, by decide, by decide, by decide +kernel, by decide⟩
theorem cmq_X8_melts : gcm mX8_melts 3 := ⟨wq_25, wq_26, by decide, by decide, by decide, by decide +kernel, by decide⟩
theorem cmq_X1_isTurned : gcm mX1_isTurned 1 := ⟨wq_32, wq_6, by decide, by decide, by decide, by decide +kernel, by decide⟩
theorem cmq_X7_shape : gcm mX7_shape 3 := ⟨wq_35, wq_20, by decide, by decide, by decide, by decide +kernel, by decide⟩
theorem cmq_X8_shape : gcm mX8_shape 3 := ⟨wq_42, wq_26, by decide, by decide, by decide, by decide +kernel, by decide⟩
theorem cmq_X2_shape : gcm mX2_shape 3 := ⟨wq_47, wq_48, by decide, by decide, by decide, by decide +kernel, by decide⟩
theorem cmq_X3_shape : gcm mX3_shape 3 := ⟨wq_52, wq_10, by decide, by decide, by decide, by decide +kernel, by decide⟩
theorem cmq_X9_shape : gcm mX9_shape 3 := ⟨wq_58, wq_59, by decide, by decide, by decide, by decide +kernel, by decide⟩
theorem cmq_X10_shape : gcm mX10_shape 3 := ⟨wq_62, wq_63, by decide, by decide, by decide, by decide +kernel, by decide⟩
theorem cmq_X11_isOf : gcm mX11_isOf 2 := ⟨wq_69, wq_70, by decide, by decide, by decide, by decide +kernel, by decide⟩
theorem cmq_X6_holds : gcm mX6_holds 3 := ⟨wq_73, wq_74, by decide, by decide, by decide, by decide +kernel, by decide⟩
theorem cmq_X6_valueOf : gcm mX6_valueOf 2 := ⟨wq_79, wq_74, by decide, by decide, by decide, by decide +kernel, by decide⟩
theorem cmq_X6_isSo : gcm mX6_isSo 2 := ⟨wq_82, wq_74, by decide, by decide, by decide, by decide +kernel, by decide⟩
theorem cmq_X1_fitsWard : gcm mX1_fitsWard 2 := ⟨wq_85, wq_6, by decide, by decide, by decide, by decide +kernel, by decide⟩
theorem cmq_X1_heatAt : gcm mX1_heatAt 1 := ⟨wq_89, wq_6, by decide, by decide, by decide, by decide +kernel, by decide⟩
theorem cmq_X6_tells : gcm mX6_tells 2 := ⟨wq_93, wq_74, by decide, by decide, by decide, by decide +kernel, by decide⟩
theorem cmq_X1_shadeAt : gcm mX1_shadeAt 1 := ⟨wq_97, wq_6, by decide, by decide, by decide, by decide +kernel, by decide⟩
theorem cmq_X2_melts : gcm mX2_melts 3 := ⟨wq_100, wq_48, by decide, by decide, by decide, by decide +kernel, by decide⟩
theorem cmq_X9_melts : gcm mX9_melts 3 := ⟨wq_107, wq_59, by decide, by decide, by decide, by decide +kernel, by decide⟩
theorem cmq_X10_melts : gcm mX10_melts 3 := ⟨wq_110, wq_63, by decide, by decide, by decide, by decide +kernel, by decide⟩
theorem cmq_X1_others : gcm mX1_others 1 := ⟨wq_114, wq_6, by decide, by decide, by decide, by decide +kernel, by decide⟩
theorem cmq_X1_isKey : gcm mX1_isKey 1 := ⟨wq_119, wq_6, by decide, by decide, by decide, by decide +kernel, by decide⟩
theorem cmq_X1_will : gcm mX1_will 1 := ⟨wq_123, wq_6, by decide, by decide, by decide, by decide +kernel, by decide⟩
theorem cmq_X1_pays : gcm mX1_pays 1 := ⟨wq_127, wq_6, by decide, by decide, by decide, by decide +kernel, by decide⟩
theorem cmq_X1_setTurned : gcm mX1_setTurned 2 := ⟨wq_131, wq_6, by decide, by decide, by decide, by decide +kernel, by decide⟩
theorem cmq_X1_melts : gcm mX1_melts 1 := ⟨wq_136, wq_6, by decide, by decide, by decide, by decide +kernel, by decide⟩
theorem cmq_X1_shape : gcm mX1_shape 1 := ⟨wq_140, wq_6, by decide, by decide, by decide, by decide +kernel, by decide⟩
theorem cmq_X11_isIn : gcm mX11_isIn 3 := ⟨wq_143, wq_70, by decide, by decide, by decide, by decide +kernel, by decide⟩
theorem cmq_X0_ran : gcm mX0_ran 1 := ⟨wq_146, wq_147, by decide, by decide, by decide, by decide +kernel, by decide⟩
theorem cmq_X3_drips : gcm mX3_drips 2 := ⟨wq_150, wq_10, by decide, by decide, by decide, by decide +kernel, by decide⟩
theorem cmq_X2_drips : gcm mX2_drips 2 := ⟨wq_161, wq_48, by decide, by decide, by decide, by decide +kernel, by decide⟩
theorem cmq_X10_drips : gcm mX10_drips 2 := ⟨wq_169, wq_63, by decide, by decide, by decide, by decide +kernel, by decide⟩
theorem cmq_X3_halves : gcm mX3_halves 2 := ⟨wq_173, wq_10, by decide, by decide, by decide, by decide +kernel, by decide⟩
theorem cmq_X0_leave : gcm mX0_leave 2 := ⟨wq_179, wq_147, by decide, by decide, by decide, by decide +kernel, by decide⟩
theorem cmq_X3_turns : gcm mX3_turns 2 := ⟨wq_183, wq_10, by decide, by decide, by decide, by decide +kernel, by decide⟩
theorem cmq_X7_halves : gcm mX7_halves 2 := ⟨wq_192, wq_20, by decide, by decide, by decide, by decide +kernel, by decide⟩
theorem cmq_X1_isOver : gcm mX1_isOver 0 := ⟨wq_200, wq_6, by decide, by decide, by decide, by decide +kernel, by decide⟩
theorem cmq_X5_isDigit : gcm mX5_isDigit 1 := ⟨wq_205, wq_206, by decide, by decide, by decide, by decide +kernel, by decide⟩
theorem cmq_X6_addCode : gcm mX6_addCode 1 := ⟨wq_209, wq_74, by decide, by decide, by decide, by decide +kernel, by decide⟩
theorem cmq_X5_endCondition : gcm mX5_endCondition 0 := ⟨wq_213, wq_206, by decide, by decide, by decide, by decide +kernel, by decide⟩
theorem cmq_X6_addRule : gcm mX6_addRule 2 := ⟨wq_217, wq_74, by decide, by decide, by decide, by decide +kernel, by decide⟩
theorem cmq_X5_isValue : gcm mX5_isValue 0 := ⟨wq_221, wq_206, by decide, by decide, by decide, by decide +kernel, by decide⟩
theorem cmq_X5_value : gcm mX5_value 0 := ⟨wq_225, wq_206, by decide, by decide, by decide, by decide +kernel, by decide⟩
theorem cmq_X5_endOne : gcm mX5_endOne 0 := ⟨wq_229, wq_206, by decide, by decide, by decide, by decide +kernel, by decide⟩
theorem cmq_X5_takesDo : gcm mX5_takesDo 0 := ⟨wq_233, wq_206, by decide, by decide, by decide, by decide +kernel, by decide⟩
theorem cmq_X6_clear : gcm mX6_clear 0 := ⟨wq_237, wq_74, by decide, by decide, by decide, by decide +kernel, by decide⟩
theorem cmq_X5_isLetter : gcm mX5_isLetter 1 := ⟨wq_241, wq_206, by decide, by decide, by decide, by decide +kernel, by decide⟩
theorem cmq_X5_nextName : gcm mX5_nextName 0 := ⟨wq_244, wq_206, by decide, by decide, by decide, by decide +kernel, by decide⟩
theorem cmq_X5_nextNumber : gcm mX5_nextNumber 0 := ⟨wq_248, wq_206, by decide, by decide, by decide, by decide +kernel, by decide⟩
theorem cmq_X5_isMark : gcm mX5_isMark 1 := ⟨wq_252, wq_206, by decide, by decide, by decide, by decide +kernel, by decide⟩
theorem cmq_X5_takesKind : gcm mX5_takesKind 0 := ⟨wq_255, wq_206, by decide, by decide, by decide, by decide +kernel, by decide⟩
theorem cmq_X5_takesIf : gcm mX5_takesIf 0 := ⟨wq_259, wq_206, by decide, by decide, by decide, by decide +kernel, by decide⟩
theorem cmq_X5_takesOne : gcm mX5_takesOne 0 := ⟨wq_263, wq_206, by decide, by decide, by decide, by decide +kernel, by decide⟩
theorem cmq_X5_takesSign : gcm mX5_takesSign 0 := ⟨wq_267, wq_206, by decide, by decide, by decide, by decide +kernel, by decide⟩
theorem cmq_X5_takesRight : gcm mX5_takesRight 0 := ⟨wq_271, wq_206, by decide, by decide, by decide, by decide +kernel, by decide⟩
theorem cmq_X5_takesJoin : gcm mX5_takesJoin 0 := ⟨wq_275, wq_206, by decide, by decide, by decide, by decide +kernel, by decide⟩
theorem cmq_X5_takesRuleEnd : gcm mX5_takesRuleEnd 0 := ⟨wq_279, wq_206, by decide, by decide, by decide, by decide +kernel, by decide⟩
theorem cmq_X5_begin : gcm mX5_begin 0 := ⟨wq_286, wq_206, by decide, by decide, by decide, by decide +kernel, by decide⟩
theorem cmq_X5_next : gcm mX5_next 0 := ⟨wq_290, wq_206, by decide, by decide, by decide, by decide +kernel, by decide⟩
theorem cmq_X5_takes : gcm mX5_takes 0 := ⟨wq_294, wq_206, by decide, by decide, by decide, by decide +kernel, by decide⟩
theorem cmq_X1_tell : gcm mX1_tell 1 := ⟨wq_298, wq_6, by decide, by decide, by decide, by decide +kernel, by decide⟩
theorem cmq_X1_melt : gcm mX1_melt 0 := ⟨wq_302, wq_6, by decide, by decide, by decide, by decide +kernel, by decide⟩
theorem cmq_X1_restAct : gcm mX1_restAct 0 := ⟨wq_307, wq_6, by decide, by decide, by decide, by decide +kernel, by decide⟩
theorem cmq_X1_save : gcm mX1_save 1 := ⟨wq_311, wq_6, by decide, by decide, by decide, by decide +kernel, by decide⟩
theorem cmq_X1_goRest : gcm mX1_goRest 1 := ⟨wq_315, wq_6, by decide, by decide, by decide, by decide +kernel, by decide⟩
theorem cmq_X1_restore : gcm mX1_restore 1 := ⟨wq_319, wq_6, by decide, by decide, by decide, by decide +kernel, by decide⟩
theorem cmq_X1_isCloseToSome : gcm mX1_isCloseToSome 2 := ⟨wq_323, wq_6, by decide, by decide, by decide, by decide +kernel, by decide⟩
theorem cmq_J6_bitCount_0f7a4 : gcm mJ6_bitCount_0f7a4 1 := ⟨wq_327, wq_328, by decide, by decide, by decide, by decide +kernel, by decide⟩
theorem cmq_X1_bunchOf : gcm mX1_bunchOf 1 := ⟨wq_331, wq_6, by decide, by decide, by decide, by decide +kernel, by decide⟩
theorem cmq_X11_leastOf : gcm mX11_leastOf 1 := ⟨wq_335, wq_70, by decide, by decide, by decide, by decide +kernel, by decide⟩
theorem cmq_X4_isLast : gcm mX4_isLast 2 := ⟨wq_338, wq_339, by decide, by decide, by decide, by decide +kernel, by decide⟩
theorem cmq_X4_seek : gcm mX4_seek 2 := ⟨wq_346, wq_339, by decide, by decide, by decide, by decide +kernel, by decide⟩
theorem cmq_X4_weigh : gcm mX4_weigh 4 := ⟨wq_351, wq_339, by decide, by decide, by decide, by decide +kernel, by decide⟩
theorem cmq_X4_fewest : gcm mX4_fewest 3 := ⟨wq_355, wq_339, by decide, by decide, by decide, by decide +kernel, by decide⟩
theorem cmq_X4_reach : gcm mX4_reach 2 := ⟨wq_360, wq_339, by decide, by decide, by decide, by decide +kernel, by decide⟩
theorem cmq_X4_duel : gcm mX4_duel 2 := ⟨wq_364, wq_339, by decide, by decide, by decide, by decide +kernel, by decide⟩
theorem cmq_X1_misfitsAt : gcm mX1_misfitsAt 3 := ⟨wq_368, wq_6, by decide, by decide, by decide, by decide +kernel, by decide⟩
theorem cmq_X1_drawAct : gcm mX1_drawAct 0 := ⟨wq_372, wq_6, by decide, by decide, by decide, by decide +kernel, by decide⟩
theorem cmq_X1_isAct : gcm mX1_isAct 1 := ⟨wq_377, wq_6, by decide, by decide, by decide, by decide +kernel, by decide⟩
theorem cmq_X1_goBy : gcm mX1_goBy 1 := ⟨wq_381, wq_6, by decide, by decide, by decide, by decide +kernel, by decide⟩
theorem cmq_X11_isItem : gcm mX11_isItem 2 := ⟨wq_385, wq_70, by decide, by decide, by decide, by decide +kernel, by decide⟩
theorem cmq_X8_turns : gcm mX8_turns 2 := ⟨wq_393, wq_26, by decide, by decide, by decide, by decide +kernel, by decide⟩
theorem cmq_X9_turns : gcm mX9_turns 2 := ⟨wq_396, wq_59, by decide, by decide, by decide, by decide +kernel, by decide⟩
theorem cmq_X9_halves : gcm mX9_halves 2 := ⟨wq_405, wq_59, by decide, by decide, by decide, by decide +kernel, by decide⟩
theorem cmq_X3_fits : gcm mX3_fits 2 := ⟨wq_409, wq_10, by decide, by decide, by decide, by decide +kernel, by decide⟩
theorem cmq_X6_copyFrom : gcm mX6_copyFrom 1 := ⟨wq_417, wq_74, by decide, by decide, by decide, by decide +kernel, by decide⟩
theorem cmq_X12_above : gcm mX12_above 1 := ⟨wq_421, wq_422, by decide, by decide, by decide, by decide +kernel, by decide⟩
theorem cmq_X12_ruleOf : gcm mX12_ruleOf 2 := ⟨wq_425, wq_422, by decide, by decide, by decide, by decide +kernel, by decide⟩
theorem cmq_X12_knownOf : gcm mX12_knownOf 2 := ⟨wq_429, wq_422, by decide, by decide, by decide, by decide +kernel, by decide⟩
theorem cmq_X12_joined : gcm mX12_joined 3 := ⟨wq_433, wq_422, by decide, by decide, by decide, by decide +kernel, by decide⟩
theorem cmq_X12_get : gcm mX12_get 2 := ⟨wq_436, wq_422, by decide, by decide, by decide, by decide +kernel, by decide⟩
theorem cmq_X12_sunNow : gcm mX12_sunNow 0 := ⟨wq_440, wq_422, by decide, by decide, by decide, by decide +kernel, by decide⟩
theorem cmq_X12_isUnder : gcm mX12_isUnder 2 := ⟨wq_444, wq_422, by decide, by decide, by decide, by decide +kernel, by decide⟩
theorem cmq_X12_holdsFor : gcm mX12_holdsFor 2 := ⟨wq_447, wq_422, by decide, by decide, by decide, by decide +kernel, by decide⟩
theorem cmq_X12_doesFit : gcm mX12_doesFit 2 := ⟨wq_451, wq_422, by decide, by decide, by decide, by decide +kernel, by decide⟩
theorem cmq_X12_shapeOf : gcm mX12_shapeOf 1 := ⟨wq_455, wq_422, by decide, by decide, by decide, by decide +kernel, by decide⟩
theorem cmq_X12_apart : gcm mX12_apart 2 := ⟨wq_459, wq_422, by decide, by decide, by decide, by decide +kernel, by decide⟩
theorem cmq_X12_shapeBy : gcm mX12_shapeBy 4 := ⟨wq_462, wq_422, by decide, by decide, by decide, by decide +kernel, by decide⟩
theorem cmq_X12_byteAt : gcm mX12_byteAt 1 := ⟨wq_465, wq_422, by decide, by decide, by decide, by decide +kernel, by decide⟩
theorem cmq_X12_in1 : gcm mX12_in1 3 := ⟨wq_469, wq_422, by decide, by decide, by decide, by decide +kernel, by decide⟩
theorem cmq_X12_isNameOf : gcm mX12_isNameOf 1 := ⟨wq_472, wq_422, by decide, by decide, by decide, by decide +kernel, by decide⟩
theorem cmq_X12_readsName : gcm mX12_readsName 0 := ⟨wq_476, wq_422, by decide, by decide, by decide, by decide +kernel, by decide⟩
theorem cmq_X12_readsNumber : gcm mX12_readsNumber 0 := ⟨wq_480, wq_422, by decide, by decide, by decide, by decide +kernel, by decide⟩
theorem cmq_X12_lays : gcm mX12_lays 1 := ⟨wq_484, wq_422, by decide, by decide, by decide, by decide +kernel, by decide⟩
theorem cmq_X12_next : gcm mX12_next 0 := ⟨wq_488, wq_422, by decide, by decide, by decide, by decide +kernel, by decide⟩
theorem cmq_X12_readsAll : gcm mX12_readsAll 0 := ⟨wq_492, wq_422, by decide, by decide, by decide, by decide +kernel, by decide⟩
theorem cmq_X12_takes : gcm mX12_takes 1 := ⟨wq_496, wq_422, by decide, by decide, by decide, by decide +kernel, by decide⟩
theorem cmq_X12_readsWithin : gcm mX12_readsWithin 0 := ⟨wq_500, wq_422, by decide, by decide, by decide, by decide +kernel, by decide⟩
theorem cmq_X12_readsLike : gcm mX12_readsLike 0 := ⟨wq_504, wq_422, by decide, by decide, by decide, by decide +kernel, by decide⟩
theorem cmq_X12_readsValue : gcm mX12_readsValue 0 := ⟨wq_508, wq_422, by decide, by decide, by decide, by decide +kernel, by decide⟩
theorem cmq_X12_readsCondition : gcm mX12_readsCondition 0 := ⟨wq_512, wq_422, by decide, by decide, by decide, by decide +kernel, by decide⟩
theorem cmq_X12_readsOne : gcm mX12_readsOne 0 := ⟨wq_516, wq_422, by decide, by decide, by decide, by decide +kernel, by decide⟩
theorem cmq_X12_paysOf : gcm mX12_paysOf 1 := ⟨wq_520, wq_422, by decide, by decide, by decide, by decide +kernel, by decide⟩
theorem cmq_X12_puts : gcm mX12_puts 3 := ⟨wq_524, wq_422, by decide, by decide, by decide, by decide +kernel, by decide⟩
theorem cmq_X12_willOf : gcm mX12_willOf 1 := ⟨wq_528, wq_422, by decide, by decide, by decide, by decide +kernel, by decide⟩
theorem cmq_X12_mayTurn : gcm mX12_mayTurn 1 := ⟨wq_532, wq_422, by decide, by decide, by decide, by decide +kernel, by decide⟩
theorem cmq_X12_turnsNow : gcm mX12_turnsNow 1 := ⟨wq_536, wq_422, by decide, by decide, by decide, by decide +kernel, by decide⟩
theorem cmq_X12_held : gcm mX12_held 2 := ⟨wq_540, wq_422, by decide, by decide, by decide, by decide +kernel, by decide⟩
theorem cmq_X12_meltsBy : gcm mX12_meltsBy 4 := ⟨wq_543, wq_422, by decide, by decide, by decide, by decide +kernel, by decide⟩
theorem cmq_X12_restOne : gcm mX12_restOne 0 := ⟨wq_546, wq_422, by decide, by decide, by decide, by decide +kernel, by decide⟩
theorem cmq_X12_meets : gcm mX12_meets 1 := ⟨wq_550, wq_422, by decide, by decide, by decide, by decide +kernel, by decide⟩
theorem cmq_X12_meltsOf : gcm mX12_meltsOf 1 := ⟨wq_554, wq_422, by decide, by decide, by decide, by decide +kernel, by decide⟩
theorem cmq_X12_isOver : gcm mX12_isOver 0 := ⟨wq_558, wq_422, by decide, by decide, by decide, by decide +kernel, by decide⟩
theorem cmq_X12_goesBy : gcm mX12_goesBy 1 := ⟨wq_562, wq_422, by decide, by decide, by decide, by decide +kernel, by decide⟩
theorem cmq_X12_isKey : gcm mX12_isKey 1 := ⟨wq_566, wq_422, by decide, by decide, by decide, by decide +kernel, by decide⟩
theorem cmq_X12_layDown : gcm mX12_layDown 0 := ⟨wq_570, wq_422, by decide, by decide, by decide, by decide +kernel, by decide⟩
theorem cmq_X12_restOf : gcm mX12_restOf 1 := ⟨wq_574, wq_422, by decide, by decide, by decide, by decide +kernel, by decide⟩
theorem cmq_X12_layBack : gcm mX12_layBack 0 := ⟨wq_578, wq_422, by decide, by decide, by decide, by decide +kernel, by decide⟩
theorem cmq_X12_areClose : gcm mX12_areClose 2 := ⟨wq_582, wq_422, by decide, by decide, by decide, by decide +kernel, by decide⟩
theorem cmq_X12_those : gcm mX12_those 1 := ⟨wq_586, wq_422, by decide, by decide, by decide, by decide +kernel, by decide⟩
theorem cmq_X12_endsPlan : gcm mX12_endsPlan 4 := ⟨wq_590, wq_422, by decide, by decide, by decide, by decide +kernel, by decide⟩
theorem cmq_X12_saves : gcm mX12_saves 1 := ⟨wq_594, wq_422, by decide, by decide, by decide, by decide +kernel, by decide⟩
theorem cmq_X12_goesPlans : gcm mX12_goesPlans 5 := ⟨wq_598, wq_422, by decide, by decide, by decide, by decide +kernel, by decide⟩
theorem cmq_X12_restores : gcm mX12_restores 1 := ⟨wq_602, wq_422, by decide, by decide, by decide, by decide +kernel, by decide⟩
theorem cmq_X12_daysOf : gcm mX12_daysOf 1 := ⟨wq_606, wq_422, by decide, by decide, by decide, by decide +kernel, by decide⟩
theorem cmq_X12_playedFrom : gcm mX12_playedFrom 2 := ⟨wq_610, wq_422, by decide, by decide, by decide, by decide +kernel, by decide⟩
theorem cmq_X12_tellsLone : gcm mX12_tellsLone 3 := ⟨wq_614, wq_422, by decide, by decide, by decide, by decide +kernel, by decide⟩
theorem cmq_X12_isSo : gcm mX12_isSo 1 := ⟨wq_618, wq_422, by decide, by decide, by decide, by decide +kernel, by decide⟩
theorem cmq_X12_starts : gcm mX12_starts 1 := ⟨wq_622, wq_422, by decide, by decide, by decide, by decide +kernel, by decide⟩
theorem cmq_X12_turnsAs : gcm mX12_turnsAs 2 := ⟨wq_626, wq_422, by decide, by decide, by decide, by decide +kernel, by decide⟩
theorem cmq_X12_dripsAs : gcm mX12_dripsAs 2 := ⟨wq_630, wq_422, by decide, by decide, by decide, by decide +kernel, by decide⟩
theorem cmq_X12_halvesAs : gcm mX12_halvesAs 2 := ⟨wq_634, wq_422, by decide, by decide, by decide, by decide +kernel, by decide⟩
theorem cmq_X12_fitsAs : gcm mX12_fitsAs 2 := ⟨wq_638, wq_422, by decide, by decide, by decide, by decide +kernel, by decide⟩
theorem cmq_X11_isKeyKind : gcm mX11_isKeyKind 1 := ⟨wq_642, wq_70, by decide, by decide, by decide, by decide +kernel, by decide⟩
theorem cmq_X11_isGate : gcm mX11_isGate 1 := ⟨wq_645, wq_70, by decide, by decide, by decide, by decide +kernel, by decide⟩
theorem cmq_X12_isDigit : gcm mX12_isDigit 1 := ⟨wq_648, wq_422, by decide, by decide, by decide, by decide +kernel, by decide⟩
theorem cmq_X12_isGate : gcm mX12_isGate 1 := ⟨wq_651, wq_422, by decide, by decide, by decide, by decide +kernel, by decide⟩
theorem cmq_X1_mayTurn : gcm mX1_mayTurn 1 := ⟨wq_657, wq_6, by decide, by decide, by decide, by decide +kernel, by decide⟩
theorem cmq_X11_put : gcm mX11_put 4 := ⟨wq_662, wq_70, by decide, by decide, by decide, by decide +kernel, by decide⟩
theorem cmq_X11_changeTurned : gcm mX11_changeTurned 2 := ⟨wq_665, wq_70, by decide, by decide, by decide, by decide +kernel, by decide⟩
theorem cmq_X12_becomes : gcm mX12_becomes 2 := ⟨wq_669, wq_422, by decide, by decide, by decide, by decide +kernel, by decide⟩
theorem cmq_X1_allTeeth : gcm mX1_allTeeth 0 := ⟨wq_674, wq_6, by decide, by decide, by decide, by decide +kernel, by decide⟩
theorem cmq_X12_teethAll : gcm mX12_teethAll 0 := ⟨wq_678, wq_422, by decide, by decide, by decide, by decide +kernel, by decide⟩
theorem cmq_X5_add : gcm mX5_add 1 := ⟨wq_682, wq_206, by decide, by decide, by decide, by decide +kernel, by decide⟩
theorem cmq_X5_read : gcm mX5_read 0 := ⟨wq_686, wq_206, by decide, by decide, by decide, by decide +kernel, by decide⟩
theorem cmq_X12_readsRule : gcm mX12_readsRule 1 := ⟨wq_691, wq_422, by decide, by decide, by decide, by decide +kernel, by decide⟩
theorem cmq_X11_scored : gcm mX11_scored 1 := ⟨wq_696, wq_70, by decide, by decide, by decide, by decide +kernel, by decide⟩
theorem cmq_X11_bestValue : gcm mX11_bestValue 3 := ⟨wq_700, wq_70, by decide, by decide, by decide, by decide +kernel, by decide⟩
theorem cmq_X12_bestFor : gcm mX12_bestFor 3 := ⟨wq_704, wq_422, by decide, by decide, by decide, by decide +kernel, by decide⟩
theorem cmq_X11_countBunches : gcm mX11_countBunches 0 := ⟨wq_709, wq_70, by decide, by decide, by decide, by decide +kernel, by decide⟩
theorem cmq_X12_bunchOf : gcm mX12_bunchOf 1 := ⟨wq_713, wq_422, by decide, by decide, by decide, by decide +kernel, by decide⟩
theorem cmq_X11_isPlan : gcm mX11_isPlan 1 := ⟨wq_717, wq_70, by decide, by decide, by decide, by decide +kernel, by decide⟩
theorem cmq_X12_isPlan : gcm mX12_isPlan 1 := ⟨wq_720, wq_422, by decide, by decide, by decide, by decide +kernel, by decide⟩
theorem cmq_X12_triesAll : gcm mX12_triesAll 2 := ⟨wq_723, wq_422, by decide, by decide, by decide, by decide +kernel, by decide⟩
theorem cmq_X1_haltsOf : gcm mX1_haltsOf 1 := ⟨wq_727, wq_6, by decide, by decide, by decide, by decide +kernel, by decide⟩
theorem cmq_X11_isKeySet : gcm mX11_isKeySet 1 := ⟨wq_731, wq_70, by decide, by decide, by decide, by decide +kernel, by decide⟩
theorem cmq_X12_isSet : gcm mX12_isSet 1 := ⟨wq_735, wq_422, by decide, by decide, by decide, by decide +kernel, by decide⟩
theorem cmq_X11_loneKind : gcm mX11_loneKind 1 := ⟨wq_739, wq_70, by decide, by decide, by decide, by decide +kernel, by decide⟩
theorem cmq_X11_loneStraw : gcm mX11_loneStraw 1 := ⟨wq_742, wq_70, by decide, by decide, by decide, by decide +kernel, by decide⟩
theorem cmq_X11_loneTeeth : gcm mX11_loneTeeth 1 := ⟨wq_745, wq_70, by decide, by decide, by decide, by decide +kernel, by decide⟩
theorem cmq_X1_misfits : gcm mX1_misfits 3 := ⟨wq_748, wq_6, by decide, by decide, by decide, by decide +kernel, by decide⟩
theorem cmq_X12_fitting : gcm mX12_fitting 1 := ⟨wq_752, wq_422, by decide, by decide, by decide, by decide +kernel, by decide⟩
theorem cmq_X12_byLot : gcm mX12_byLot 0 := ⟨wq_758, wq_422, by decide, by decide, by decide, by decide +kernel, by decide⟩
theorem cmq_X1_goLots : gcm mX1_goLots 0 := ⟨wq_762, wq_6, by decide, by decide, by decide, by decide +kernel, by decide⟩
theorem cmq_X11_isRowField : gcm mX11_isRowField 2 := ⟨wq_766, wq_70, by decide, by decide, by decide, by decide +kernel, by decide⟩
theorem cmq_X12_isRow : gcm mX12_isRow 2 := ⟨wq_770, wq_422, by decide, by decide, by decide, by decide +kernel, by decide⟩
theorem cmq_X11_isRowRight : gcm mX11_isRowRight 1 := ⟨wq_774, wq_70, by decide, by decide, by decide, by decide +kernel, by decide⟩
theorem cmq_X12_isAct : gcm mX12_isAct 1 := ⟨wq_778, wq_422, by decide, by decide, by decide, by decide +kernel, by decide⟩
theorem cmq_X11_isPlace : gcm mX11_isPlace 1 := ⟨wq_782, wq_70, by decide, by decide, by decide, by decide +kernel, by decide⟩
theorem cmq_X12_isSheet : gcm mX12_isSheet 1 := ⟨wq_785, wq_422, by decide, by decide, by decide, by decide +kernel, by decide⟩
theorem cmq_X11_narrowed : gcm mX11_narrowed 2 := ⟨wq_788, wq_70, by decide, by decide, by decide, by decide +kernel, by decide⟩
theorem cmq_X12_narrowed : gcm mX12_narrowed 2 := ⟨wq_791, wq_422, by decide, by decide, by decide, by decide +kernel, by decide⟩
theorem cmq_X11_refusalOf : gcm mX11_refusalOf 2 := ⟨wq_794, wq_70, by decide, by decide, by decide, by decide +kernel, by decide⟩
theorem cmq_X12_lacks : gcm mX12_lacks 2 := ⟨wq_798, wq_422, by decide, by decide, by decide, by decide +kernel, by decide⟩
theorem cmq_X12_isItem : gcm mX12_isItem 3 := ⟨wq_802, wq_422, by decide, by decide, by decide, by decide +kernel, by decide⟩
theorem cmq_X11_goItems : gcm mX11_goItems 3 := ⟨wq_806, wq_70, by decide, by decide, by decide, by decide +kernel, by decide⟩
theorem cmq_X11_holdsKey : gcm mX11_holdsKey 1 := ⟨wq_810, wq_70, by decide, by decide, by decide, by decide +kernel, by decide⟩
theorem cmq_X12_heldOn : gcm mX12_heldOn 1 := ⟨wq_815, wq_422, by decide, by decide, by decide, by decide +kernel, by decide⟩
theorem cmq_X0_begin : gcm mX0_begin 2 := ⟨wq_819, wq_147, by decide, by decide, by decide, by decide +kernel, by decide⟩
theorem cmq_X10_fits : gcm mX10_fits 2 := ⟨wq_832, wq_63, by decide, by decide, by decide, by decide +kernel, by decide⟩
theorem cmq_X12_ones : gcm mX12_ones 1 := ⟨wq_836, wq_422, by decide, by decide, by decide, by decide +kernel, by decide⟩
theorem cmq_X1_copyFrom : gcm mX1_copyFrom 1 := ⟨wq_839, wq_6, by decide, by decide, by decide, by decide +kernel, by decide⟩
