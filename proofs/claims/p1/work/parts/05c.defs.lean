theorem g_ne {x v : Int32} (h : ¬ x = v) : x.toInt ≠ v.toInt := fun e => h (Int32.toInt_inj.mp e)
theorem gcp_off {I : gI} {x y sp dp nn a j : Nat} (h : a ≠ y) : gcp I x y sp dp nn a j = I a j := by simp [gcp, h]
abbrev mJ6_bitCount_0f7a4 : gM := (yJ6_bitCount_0f7a4, cJ6_bitCount_0f7a4, 1, (some .int))
abbrev mX10_melts : gM := (yX10_melts, cX10_melts, 4, (some .int))
abbrev mX10_shape : gM := (yX10_shape, cX10_shape, 4, (some .int))
abbrev mX11_act : gM := (yX11_act, cX11_act, 7, (some .int))
abbrev mX11_again : gM := (yX11_again, cX11_again, 1, (some .int))
abbrev mX11_alterRow : gM := (yX11_alterRow, cX11_alterRow, 5, (some .int))
abbrev mX11_anew : gM := (yX11_anew, cX11_anew, 2, (some .int))
abbrev mX11_bars : gM := (yX11_bars, cX11_bars, 4, (some .int))
abbrev mX11_best : gM := (yX11_best, cX11_best, 2, (some .int))
abbrev mX11_bunches : gM := (yX11_bunches, cX11_bunches, 2, (some .int))
abbrev mX11_change : gM := (yX11_change, cX11_change, 4, (some .int))
abbrev mX11_countBunches : gM := (yX11_countBunches, cX11_countBunches, 4, (some .int))
abbrev mX11_ends : gM := (yX11_ends, cX11_ends, 3, (some .int))
abbrev mX11_feed : gM := (yX11_feed, cX11_feed, 5, (some .int))
abbrev mX11_forget : gM := (yX11_forget, cX11_forget, 2, (some .int))
abbrev mX11_game : gM := (yX11_game, cX11_game, 2, (some .int))
abbrev mX11_gate : gM := (yX11_gate, cX11_gate, 4, (some .int))
abbrev mX11_gateFor : gM := (yX11_gateFor, cX11_gateFor, 2, (some .int))
abbrev mX11_gateOf : gM := (yX11_gateOf, cX11_gateOf, 3, (some .int))
abbrev mX11_goAll : gM := (yX11_goAll, cX11_goAll, 8, (some .int))
abbrev mX11_gone : gM := (yX11_gone, cX11_gone, 3, (some .int))
abbrev mX11_halt : gM := (yX11_halt, cX11_halt, 1, (some .int))
abbrev mX11_holdsKey : gM := (yX11_holdsKey, cX11_holdsKey, 2, (some .boolean))
abbrev mX11_isKeySet : gM := (yX11_isKeySet, cX11_isKeySet, 2, (some .boolean))
abbrev mX11_isRowField : gM := (yX11_isRowField, cX11_isRowField, 3, (some .boolean))
abbrev mX11_item : gM := (yX11_item, cX11_item, 5, (some .int))
abbrev mX11_ith : gM := (yX11_ith, cX11_ith, 3, (some .int))
abbrev mX11_judge : gM := (yX11_judge, cX11_judge, 3, (some .int))
abbrev mX11_keep : gM := (yX11_keep, cX11_keep, 1, (some .int))
abbrev mX11_key : gM := (yX11_key, cX11_key, 6, (some .int))
abbrev mX11_keyOf : gM := (yX11_keyOf, cX11_keyOf, 3, (some .int))
abbrev mX11_leastOf : gM := (yX11_leastOf, cX11_leastOf, 1, (some .int))
abbrev mX11_left : gM := (yX11_left, cX11_left, 4, (some .int))
abbrev mX11_liar : gM := (yX11_liar, cX11_liar, 4, (some .int))
abbrev mX11_lone : gM := (yX11_lone, cX11_lone, 4, (some .int))
abbrev mX11_loneKind : gM := (yX11_loneKind, cX11_loneKind, 1, (some .int))
abbrev mX11_loneStraw : gM := (yX11_loneStraw, cX11_loneStraw, 1, (some .int))
abbrev mX11_loneTeeth : gM := (yX11_loneTeeth, cX11_loneTeeth, 1, (some .int))
abbrev mX11_lot : gM := (yX11_lot, cX11_lot, 1, (some .int))
abbrev mX11_many : gM := (yX11_many, cX11_many, 2, (some .int))
abbrev mX11_on : gM := (yX11_on, cX11_on, 3, (some .int))
abbrev mX11_opens : gM := (yX11_opens, cX11_opens, 4, (some .int))
abbrev mX11_order : gM := (yX11_order, cX11_order, 4, (some .int))
abbrev mX11_play : gM := (yX11_play, cX11_play, 2, (some .int))
abbrev mX11_prove : gM := (yX11_prove, cX11_prove, 5, (some .int))
abbrev mX11_put : gM := (yX11_put, cX11_put, 5, (some .int))
abbrev mX11_refusalOf : gM := (yX11_refusalOf, cX11_refusalOf, 3, (some .int))
abbrev mX11_remake : gM := (yX11_remake, cX11_remake, 4, (some .int))
abbrev mX11_report : gM := (yX11_report, cX11_report, 8, (some .int))
abbrev mX11_row : gM := (yX11_row, cX11_row, 3, (some .int))
abbrev mX11_rules : gM := (yX11_rules, cX11_rules, 2, (some .int))
abbrev mX11_scored : gM := (yX11_scored, cX11_scored, 2, (some .int))
abbrev mX11_seed : gM := (yX11_seed, cX11_seed, 3, (some .int))
abbrev mX11_sheet : gM := (yX11_sheet, cX11_sheet, 5, (some .int))
abbrev mX11_shelf : gM := (yX11_shelf, cX11_shelf, 4, (some .int))
abbrev mX11_state : gM := (yX11_state, cX11_state, 2, (some .int))
abbrev mX11_strawFor : gM := (yX11_strawFor, cX11_strawFor, 2, (some .int))
abbrev mX11_sun : gM := (yX11_sun, cX11_sun, 3, (some .int))
abbrev mX11_taken : gM := (yX11_taken, cX11_taken, 5, (some .int))
abbrev mX11_times : gM := (yX11_times, cX11_times, 6, (some .int))
abbrev mX11_trace : gM := (yX11_trace, cX11_trace, 2, (some .int))
abbrev mX11_ways : gM := (yX11_ways, cX11_ways, 2, (some .int))
abbrev mX11_when : gM := (yX11_when, cX11_when, 5, (some .int))
abbrev mX11_wouldBe : gM := (yX11_wouldBe, cX11_wouldBe, 6, (some .int))
abbrev mX11_write : gM := (yX11_write, cX11_write, 4, (some .int))
abbrev mX1_allTeeth : gM := (yX1_allTeeth, cX1_allTeeth, 3, (some .int))
abbrev mX1_copyFrom : gM := (yX1_copyFrom, cX1_copyFrom, 2, none)
abbrev mX1_drawAct : gM := (yX1_drawAct, cX1_drawAct, 1, (some .int))
abbrev mX1_goBy : gM := (yX1_goBy, cX1_goBy, 2, (some .int))
abbrev mX1_goLots : gM := (yX1_goLots, cX1_goLots, 3, (some .int))
abbrev mX1_goRest : gM := (yX1_goRest, cX1_goRest, 4, (some .int))
abbrev mX1_haltsOf : gM := (yX1_haltsOf, cX1_haltsOf, 2, (some .int))
abbrev mX1_heatAt : gM := (yX1_heatAt, cX1_heatAt, 2, (some .int))
abbrev mX1_melt : gM := (yX1_melt, cX1_melt, 3, (some .int))
abbrev mX1_misfits : gM := (yX1_misfits, cX1_misfits, 9, (some .int))
abbrev mX1_misfitsAt : gM := (yX1_misfitsAt, cX1_misfitsAt, 8, (some .int))
abbrev mX1_restAct : gM := (yX1_restAct, cX1_restAct, 2, (some .int))
abbrev mX1_restore : gM := (yX1_restore, cX1_restore, 3, none)
abbrev mX1_save : gM := (yX1_save, cX1_save, 3, none)
abbrev mX1_shadeAt : gM := (yX1_shadeAt, cX1_shadeAt, 2, (some .int))
abbrev mX1_sunAt : gM := (yX1_sunAt, cX1_sunAt, 2, (some .int))
abbrev mX1_tell : gM := (yX1_tell, cX1_tell, 5, (some .int))
abbrev mX2_melts : gM := (yX2_melts, cX2_melts, 4, (some .int))
abbrev mX2_shape : gM := (yX2_shape, cX2_shape, 4, (some .int))
abbrev mX3_melts : gM := (yX3_melts, cX3_melts, 4, (some .int))
abbrev mX3_shape : gM := (yX3_shape, cX3_shape, 4, (some .int))
abbrev mX4_duel : gM := (yX4_duel, cX4_duel, 8, (some .int))
abbrev mX4_fewest : gM := (yX4_fewest, cX4_fewest, 8, (some .int))
abbrev mX4_isLast : gM := (yX4_isLast, cX4_isLast, 3, (some .boolean))
abbrev mX4_reach : gM := (yX4_reach, cX4_reach, 6, (some .int))
abbrev mX4_seek : gM := (yX4_seek, cX4_seek, 8, none)
abbrev mX4_weigh : gM := (yX4_weigh, cX4_weigh, 5, none)
abbrev mX5_add : gM := (yX5_add, cX5_add, 2, none)
abbrev mX5_begin : gM := (yX5_begin, cX5_begin, 2, none)
abbrev mX5_next : gM := (yX5_next, cX5_next, 1, none)
abbrev mX5_read : gM := (yX5_read, cX5_read, 5, (some .int))
abbrev mX6_clear : gM := (yX6_clear, cX6_clear, 1, none)
abbrev mX6_copyFrom : gM := (yX6_copyFrom, cX6_copyFrom, 2, none)
abbrev mX7_melts : gM := (yX7_melts, cX7_melts, 4, (some .int))
abbrev mX7_shape : gM := (yX7_shape, cX7_shape, 4, (some .int))
abbrev mX8_melts : gM := (yX8_melts, cX8_melts, 4, (some .int))
abbrev mX8_shape : gM := (yX8_shape, cX8_shape, 4, (some .int))
abbrev mX9_melts : gM := (yX9_melts, cX9_melts, 4, (some .int))
abbrev mX9_shape : gM := (yX9_shape, cX9_shape, 4, (some .int))
theorem dJ6_bitCount_0f7a4_0 : decode cJ6_bitCount_0f7a4 0 = .ok (.iload_n 0, 1) := by decide +kernel
theorem dJ6_bitCount_0f7a4_1 : decode cJ6_bitCount_0f7a4 1 = .ok (.iload_n 0, 1) := by decide +kernel
theorem dJ6_bitCount_0f7a4_2 : decode cJ6_bitCount_0f7a4 2 = .ok (.iconst 1, 1) := by decide +kernel
theorem dJ6_bitCount_0f7a4_3 : decode cJ6_bitCount_0f7a4 3 = .ok (.iushr, 1) := by decide +kernel
theorem dJ6_bitCount_0f7a4_4 : decode cJ6_bitCount_0f7a4 4 = .ok (.ldc_w 265, 3) := by decide +kernel
theorem dJ6_bitCount_0f7a4_7 : decode cJ6_bitCount_0f7a4 7 = .ok (.iand, 1) := by decide +kernel
theorem dJ6_bitCount_0f7a4_8 : decode cJ6_bitCount_0f7a4 8 = .ok (.isub, 1) := by decide +kernel
theorem dJ6_bitCount_0f7a4_9 : decode cJ6_bitCount_0f7a4 9 = .ok (.istore_n 0, 1) := by decide +kernel
theorem dJ6_bitCount_0f7a4_10 : decode cJ6_bitCount_0f7a4 10 = .ok (.iload_n 0, 1) := by decide +kernel
theorem dJ6_bitCount_0f7a4_11 : decode cJ6_bitCount_0f7a4 11 = .ok (.ldc_w 266, 3) := by decide +kernel
theorem dJ6_bitCount_0f7a4_14 : decode cJ6_bitCount_0f7a4 14 = .ok (.iand, 1) := by decide +kernel
theorem dJ6_bitCount_0f7a4_15 : decode cJ6_bitCount_0f7a4 15 = .ok (.iload_n 0, 1) := by decide +kernel
theorem dJ6_bitCount_0f7a4_16 : decode cJ6_bitCount_0f7a4 16 = .ok (.iconst 2, 1) := by decide +kernel
theorem dJ6_bitCount_0f7a4_17 : decode cJ6_bitCount_0f7a4 17 = .ok (.iushr, 1) := by decide +kernel
theorem dJ6_bitCount_0f7a4_18 : decode cJ6_bitCount_0f7a4 18 = .ok (.ldc_w 266, 3) := by decide +kernel
theorem dJ6_bitCount_0f7a4_21 : decode cJ6_bitCount_0f7a4 21 = .ok (.iand, 1) := by decide +kernel
theorem dJ6_bitCount_0f7a4_22 : decode cJ6_bitCount_0f7a4 22 = .ok (.iadd, 1) := by decide +kernel
theorem dJ6_bitCount_0f7a4_23 : decode cJ6_bitCount_0f7a4 23 = .ok (.istore_n 0, 1) := by decide +kernel
theorem dJ6_bitCount_0f7a4_24 : decode cJ6_bitCount_0f7a4 24 = .ok (.iload_n 0, 1) := by decide +kernel
theorem dJ6_bitCount_0f7a4_25 : decode cJ6_bitCount_0f7a4 25 = .ok (.iload_n 0, 1) := by decide +kernel
theorem dJ6_bitCount_0f7a4_26 : decode cJ6_bitCount_0f7a4 26 = .ok (.iconst 4, 1) := by decide +kernel
theorem dJ6_bitCount_0f7a4_27 : decode cJ6_bitCount_0f7a4 27 = .ok (.iushr, 1) := by decide +kernel
theorem dJ6_bitCount_0f7a4_28 : decode cJ6_bitCount_0f7a4 28 = .ok (.iadd, 1) := by decide +kernel
theorem dJ6_bitCount_0f7a4_29 : decode cJ6_bitCount_0f7a4 29 = .ok (.ldc_w 267, 3) := by decide +kernel
theorem dJ6_bitCount_0f7a4_32 : decode cJ6_bitCount_0f7a4 32 = .ok (.iand, 1) := by decide +kernel
theorem dJ6_bitCount_0f7a4_33 : decode cJ6_bitCount_0f7a4 33 = .ok (.istore_n 0, 1) := by decide +kernel
theorem dJ6_bitCount_0f7a4_34 : decode cJ6_bitCount_0f7a4 34 = .ok (.iload_n 0, 1) := by decide +kernel
theorem dJ6_bitCount_0f7a4_35 : decode cJ6_bitCount_0f7a4 35 = .ok (.iload_n 0, 1) := by decide +kernel
theorem dJ6_bitCount_0f7a4_36 : decode cJ6_bitCount_0f7a4 36 = .ok (.bipush 8, 2) := by decide +kernel
theorem dJ6_bitCount_0f7a4_38 : decode cJ6_bitCount_0f7a4 38 = .ok (.iushr, 1) := by decide +kernel
theorem dJ6_bitCount_0f7a4_39 : decode cJ6_bitCount_0f7a4 39 = .ok (.iadd, 1) := by decide +kernel
theorem dJ6_bitCount_0f7a4_40 : decode cJ6_bitCount_0f7a4 40 = .ok (.istore_n 0, 1) := by decide +kernel
theorem dJ6_bitCount_0f7a4_41 : decode cJ6_bitCount_0f7a4 41 = .ok (.iload_n 0, 1) := by decide +kernel
theorem dJ6_bitCount_0f7a4_42 : decode cJ6_bitCount_0f7a4 42 = .ok (.iload_n 0, 1) := by decide +kernel
theorem dJ6_bitCount_0f7a4_43 : decode cJ6_bitCount_0f7a4 43 = .ok (.bipush 16, 2) := by decide +kernel
theorem dJ6_bitCount_0f7a4_45 : decode cJ6_bitCount_0f7a4 45 = .ok (.iushr, 1) := by decide +kernel
theorem dJ6_bitCount_0f7a4_46 : decode cJ6_bitCount_0f7a4 46 = .ok (.iadd, 1) := by decide +kernel
theorem dJ6_bitCount_0f7a4_47 : decode cJ6_bitCount_0f7a4 47 = .ok (.istore_n 0, 1) := by decide +kernel
theorem dJ6_bitCount_0f7a4_48 : decode cJ6_bitCount_0f7a4 48 = .ok (.iload_n 0, 1) := by decide +kernel
theorem dJ6_bitCount_0f7a4_49 : decode cJ6_bitCount_0f7a4 49 = .ok (.bipush 63, 2) := by decide +kernel
theorem dJ6_bitCount_0f7a4_51 : decode cJ6_bitCount_0f7a4 51 = .ok (.iand, 1) := by decide +kernel
theorem dJ6_bitCount_0f7a4_52 : decode cJ6_bitCount_0f7a4 52 = .ok (.ireturn, 1) := by decide +kernel
theorem dX10_melts_0 : decode cX10_melts 0 = .ok (.aload_n 0, 1) := by decide +kernel
theorem dX10_melts_1 : decode cX10_melts 1 = .ok (.iload_n 1, 1) := by decide +kernel
theorem dX10_melts_2 : decode cX10_melts 2 = .ok (.iload_n 2, 1) := by decide +kernel
theorem dX10_melts_3 : decode cX10_melts 3 = .ok (.iload_n 3, 1) := by decide +kernel
theorem dX10_melts_4 : decode cX10_melts 4 = .ok (.invokespecial 7, 3) := by decide +kernel
theorem dX10_melts_7 : decode cX10_melts 7 = .ok (.iconst 2, 1) := by decide +kernel
theorem dX10_melts_8 : decode cX10_melts 8 = .ok (.idiv, 1) := by decide +kernel
theorem dX10_melts_9 : decode cX10_melts 9 = .ok (.ireturn, 1) := by decide +kernel
theorem dX10_shape_0 : decode cX10_shape 0 = .ok (.iconst 0, 1) := by decide +kernel
theorem dX10_shape_1 : decode cX10_shape 1 = .ok (.aload_n 0, 1) := by decide +kernel
theorem dX10_shape_2 : decode cX10_shape 2 = .ok (.iload_n 1, 1) := by decide +kernel
theorem dX10_shape_3 : decode cX10_shape 3 = .ok (.iload_n 2, 1) := by decide +kernel
theorem dX10_shape_4 : decode cX10_shape 4 = .ok (.iload_n 3, 1) := by decide +kernel
theorem dX10_shape_5 : decode cX10_shape 5 = .ok (.invokespecial 11, 3) := by decide +kernel
theorem dX10_shape_8 : decode cX10_shape 8 = .ok (.iload_n 2, 1) := by decide +kernel
theorem dX10_shape_9 : decode cX10_shape 9 = .ok (.iconst 4, 1) := by decide +kernel
theorem dX10_shape_10 : decode cX10_shape 10 = .ok (.idiv, 1) := by decide +kernel
theorem dX10_shape_11 : decode cX10_shape 11 = .ok (.isub, 1) := by decide +kernel
theorem dX10_shape_12 : decode cX10_shape 12 = .ok (.invokestatic 14, 3) := by decide +kernel
theorem dX10_shape_15 : decode cX10_shape 15 = .ok (.ireturn, 1) := by decide +kernel
theorem dX11_act_0 : decode cX11_act 0 = .ok (.iload_n 1, 1) := by decide +kernel
theorem dX11_act_1 : decode cX11_act 1 = .ok (.invokestatic 319, 3) := by decide +kernel
theorem dX11_act_4 : decode cX11_act 4 = .ok (.ifCond .eq 20, 3) := by decide +kernel
theorem dX11_act_7 : decode cX11_act 7 = .ok (.iload_n 2, 1) := by decide +kernel
theorem dX11_act_8 : decode cX11_act 8 = .ok (.iconst 0, 1) := by decide +kernel
theorem dX11_act_9 : decode cX11_act 9 = .ok (.iconst 3, 1) := by decide +kernel
theorem dX11_act_10 : decode cX11_act 10 = .ok (.invokestatic 90, 3) := by decide +kernel
theorem dX11_act_13 : decode cX11_act 13 = .ok (.ifCond .eq 11, 3) := by decide +kernel
theorem dX11_act_16 : decode cX11_act 16 = .ok (.aload_n 0, 1) := by decide +kernel
theorem dX11_act_17 : decode cX11_act 17 = .ok (.iload_n 1, 1) := by decide +kernel
theorem dX11_act_18 : decode cX11_act 18 = .ok (.invokevirtual 334, 3) := by decide +kernel
theorem dX11_act_21 : decode cX11_act 21 = .ok (.ifCond .ne 13, 3) := by decide +kernel
theorem dX11_act_24 : decode cX11_act 24 = .ok (.aload_n 0, 1) := by decide +kernel
theorem dX11_act_25 : decode cX11_act 25 = .ok (.getfield 82, 3) := by decide +kernel
theorem dX11_act_28 : decode cX11_act 28 = .ok (.iconst 0, 1) := by decide +kernel
theorem dX11_act_29 : decode cX11_act 29 = .ok (.putfield 340, 3) := by decide +kernel
theorem dX11_act_32 : decode cX11_act 32 = .ok (.iconst 0, 1) := by decide +kernel
theorem dX11_act_33 : decode cX11_act 33 = .ok (.ireturn, 1) := by decide +kernel
theorem dX11_act_34 : decode cX11_act 34 = .ok (.aload_n 0, 1) := by decide +kernel
theorem dX11_act_35 : decode cX11_act 35 = .ok (.getfield 27, 3) := by decide +kernel
theorem dX11_act_38 : decode cX11_act 38 = .ok (.iload_n 1, 1) := by decide +kernel
theorem dX11_act_39 : decode cX11_act 39 = .ok (.iaload, 1) := by decide +kernel
theorem dX11_act_40 : decode cX11_act 40 = .ok (.istore 4, 2) := by decide +kernel
theorem dX11_act_42 : decode cX11_act 42 = .ok (.aload_n 0, 1) := by decide +kernel
theorem dX11_act_43 : decode cX11_act 43 = .ok (.getfield 56, 3) := by decide +kernel
theorem dX11_act_46 : decode cX11_act 46 = .ok (.getfield 341, 3) := by decide +kernel
theorem dX11_act_49 : decode cX11_act 49 = .ok (.aload_n 0, 1) := by decide +kernel
theorem dX11_act_50 : decode cX11_act 50 = .ok (.getfield 56, 3) := by decide +kernel
theorem dX11_act_53 : decode cX11_act 53 = .ok (.getfield 101, 3) := by decide +kernel
theorem dX11_act_56 : decode cX11_act 56 = .ok (.iload 4, 2) := by decide +kernel
theorem dX11_act_58 : decode cX11_act 58 = .ok (.iaload, 1) := by decide +kernel
theorem dX11_act_59 : decode cX11_act 59 = .ok (.aaload, 1) := by decide +kernel
theorem dX11_act_60 : decode cX11_act 60 = .ok (.astore 5, 2) := by decide +kernel
theorem dX11_act_62 : decode cX11_act 62 = .ok (.aload_n 0, 1) := by decide +kernel
theorem dX11_act_63 : decode cX11_act 63 = .ok (.getfield 82, 3) := by decide +kernel
theorem dX11_act_66 : decode cX11_act 66 = .ok (.iload 4, 2) := by decide +kernel
theorem dX11_act_68 : decode cX11_act 68 = .ok (.aload_n 0, 1) := by decide +kernel
theorem dX11_act_69 : decode cX11_act 69 = .ok (.getfield 56, 3) := by decide +kernel
theorem dX11_act_72 : decode cX11_act 72 = .ok (.getfield 110, 3) := by decide +kernel
theorem dX11_act_75 : decode cX11_act 75 = .ok (.iload 4, 2) := by decide +kernel
theorem dX11_act_77 : decode cX11_act 77 = .ok (.iaload, 1) := by decide +kernel
theorem dX11_act_78 : decode cX11_act 78 = .ok (.invokevirtual 345, 3) := by decide +kernel
theorem dX11_act_81 : decode cX11_act 81 = .ok (.iload_n 2, 1) := by decide +kernel
theorem dX11_act_82 : decode cX11_act 82 = .ok (.tableswitch 71 0 2 #[26, 41, 56], 26) := by decide +kernel
theorem dX11_act_108 : decode cX11_act 108 = .ok (.aload 5, 2) := by decide +kernel
theorem dX11_act_110 : decode cX11_act 110 = .ok (.iload_n 3, 1) := by decide +kernel
theorem dX11_act_111 : decode cX11_act 111 = .ok (.aload_n 0, 1) := by decide +kernel
theorem dX11_act_112 : decode cX11_act 112 = .ok (.getfield 82, 3) := by decide +kernel
theorem dX11_act_115 : decode cX11_act 115 = .ok (.invokevirtual 348, 3) := by decide +kernel
theorem dX11_act_118 : decode cX11_act 118 = .ok (.istore 6, 2) := by decide +kernel
theorem dX11_act_120 : decode cX11_act 120 = .ok (.goto 45, 3) := by decide +kernel
theorem dX11_act_123 : decode cX11_act 123 = .ok (.aload 5, 2) := by decide +kernel
theorem dX11_act_125 : decode cX11_act 125 = .ok (.iload_n 3, 1) := by decide +kernel
theorem dX11_act_126 : decode cX11_act 126 = .ok (.aload_n 0, 1) := by decide +kernel
theorem dX11_act_127 : decode cX11_act 127 = .ok (.getfield 82, 3) := by decide +kernel
theorem dX11_act_130 : decode cX11_act 130 = .ok (.invokevirtual 352, 3) := by decide +kernel
theorem dX11_act_133 : decode cX11_act 133 = .ok (.istore 6, 2) := by decide +kernel
theorem dX11_act_135 : decode cX11_act 135 = .ok (.goto 30, 3) := by decide +kernel
theorem dX11_act_138 : decode cX11_act 138 = .ok (.aload 5, 2) := by decide +kernel
theorem dX11_act_140 : decode cX11_act 140 = .ok (.iload_n 3, 1) := by decide +kernel
theorem dX11_act_141 : decode cX11_act 141 = .ok (.aload_n 0, 1) := by decide +kernel
theorem dX11_act_142 : decode cX11_act 142 = .ok (.getfield 82, 3) := by decide +kernel
theorem dX11_act_145 : decode cX11_act 145 = .ok (.invokevirtual 355, 3) := by decide +kernel
theorem dX11_act_148 : decode cX11_act 148 = .ok (.istore 6, 2) := by decide +kernel
theorem dX11_act_150 : decode cX11_act 150 = .ok (.goto 15, 3) := by decide +kernel
theorem dX11_act_153 : decode cX11_act 153 = .ok (.aload 5, 2) := by decide +kernel
theorem dX11_act_155 : decode cX11_act 155 = .ok (.iload_n 3, 1) := by decide +kernel
theorem dX11_act_156 : decode cX11_act 156 = .ok (.aload_n 0, 1) := by decide +kernel
theorem dX11_act_157 : decode cX11_act 157 = .ok (.getfield 82, 3) := by decide +kernel
theorem dX11_act_160 : decode cX11_act 160 = .ok (.invokevirtual 358, 3) := by decide +kernel
theorem dX11_act_163 : decode cX11_act 163 = .ok (.istore 6, 2) := by decide +kernel
theorem dX11_act_165 : decode cX11_act 165 = .ok (.aload_n 0, 1) := by decide +kernel
theorem dX11_act_166 : decode cX11_act 166 = .ok (.getfield 82, 3) := by decide +kernel
theorem dX11_act_169 : decode cX11_act 169 = .ok (.getfield 361, 3) := by decide +kernel
theorem dX11_act_172 : decode cX11_act 172 = .ok (.ifCond .eq 8, 3) := by decide +kernel
theorem dX11_act_175 : decode cX11_act 175 = .ok (.bipush (-15), 2) := by decide +kernel
theorem dX11_act_177 : decode cX11_act 177 = .ok (.goto 5, 3) := by decide +kernel
theorem dX11_act_180 : decode cX11_act 180 = .ok (.iload 6, 2) := by decide +kernel
theorem dX11_act_182 : decode cX11_act 182 = .ok (.ireturn, 1) := by decide +kernel
theorem dX11_again_0 : decode cX11_again 0 = .ok (.aload_n 0, 1) := by decide +kernel
theorem dX11_again_1 : decode cX11_again 1 = .ok (.getfield 370, 3) := by decide +kernel
theorem dX11_again_4 : decode cX11_again 4 = .ok (.ifCond .ne 6, 3) := by decide +kernel
theorem dX11_again_7 : decode cX11_again 7 = .ok (.bipush (-3), 2) := by decide +kernel
theorem dX11_again_9 : decode cX11_again 9 = .ok (.ireturn, 1) := by decide +kernel
theorem dX11_again_10 : decode cX11_again 10 = .ok (.aload_n 0, 1) := by decide +kernel
theorem dX11_again_11 : decode cX11_again 11 = .ok (.getfield 56, 3) := by decide +kernel
theorem dX11_again_14 : decode cX11_again 14 = .ok (.aload_n 0, 1) := by decide +kernel
theorem dX11_again_15 : decode cX11_again 15 = .ok (.getfield 60, 3) := by decide +kernel
theorem dX11_again_18 : decode cX11_again 18 = .ok (.invokevirtual 368, 3) := by decide +kernel
theorem dX11_again_21 : decode cX11_again 21 = .ok (.aload_n 0, 1) := by decide +kernel
theorem dX11_again_22 : decode cX11_again 22 = .ok (.getfield 56, 3) := by decide +kernel
theorem dX11_again_25 : decode cX11_again 25 = .ok (.getfield 97, 3) := by decide +kernel
theorem dX11_again_28 : decode cX11_again 28 = .ok (.ireturn, 1) := by decide +kernel
theorem dX11_alterRow_0 : decode cX11_alterRow 0 = .ok (.aload_n 0, 1) := by decide +kernel
theorem dX11_alterRow_1 : decode cX11_alterRow 1 = .ok (.iload_n 1, 1) := by decide +kernel
theorem dX11_alterRow_2 : decode cX11_alterRow 2 = .ok (.iload_n 2, 1) := by decide +kernel
theorem dX11_alterRow_3 : decode cX11_alterRow 3 = .ok (.invokevirtual 310, 3) := by decide +kernel
theorem dX11_alterRow_6 : decode cX11_alterRow 6 = .ok (.ifCond .ne 6, 3) := by decide +kernel
theorem dX11_alterRow_9 : decode cX11_alterRow 9 = .ok (.bipush (-9), 2) := by decide +kernel
theorem dX11_alterRow_11 : decode cX11_alterRow 11 = .ok (.ireturn, 1) := by decide +kernel
theorem dX11_alterRow_12 : decode cX11_alterRow 12 = .ok (.aload_n 0, 1) := by decide +kernel
theorem dX11_alterRow_13 : decode cX11_alterRow 13 = .ok (.getfield 9, 3) := by decide +kernel
theorem dX11_alterRow_16 : decode cX11_alterRow 16 = .ok (.iload_n 1, 1) := by decide +kernel
theorem dX11_alterRow_17 : decode cX11_alterRow 17 = .ok (.iconst 3, 1) := by decide +kernel
theorem dX11_alterRow_18 : decode cX11_alterRow 18 = .ok (.imul, 1) := by decide +kernel
theorem dX11_alterRow_19 : decode cX11_alterRow 19 = .ok (.iload_n 2, 1) := by decide +kernel
theorem dX11_alterRow_20 : decode cX11_alterRow 20 = .ok (.iadd, 1) := by decide +kernel
theorem dX11_alterRow_21 : decode cX11_alterRow 21 = .ok (.iaload, 1) := by decide +kernel
theorem dX11_alterRow_22 : decode cX11_alterRow 22 = .ok (.istore 4, 2) := by decide +kernel
theorem dX11_alterRow_24 : decode cX11_alterRow 24 = .ok (.aload_n 0, 1) := by decide +kernel
theorem dX11_alterRow_25 : decode cX11_alterRow 25 = .ok (.getfield 9, 3) := by decide +kernel
theorem dX11_alterRow_28 : decode cX11_alterRow 28 = .ok (.iload_n 1, 1) := by decide +kernel
theorem dX11_alterRow_29 : decode cX11_alterRow 29 = .ok (.iconst 3, 1) := by decide +kernel
theorem dX11_alterRow_30 : decode cX11_alterRow 30 = .ok (.imul, 1) := by decide +kernel
theorem dX11_alterRow_31 : decode cX11_alterRow 31 = .ok (.iload_n 2, 1) := by decide +kernel
theorem dX11_alterRow_32 : decode cX11_alterRow 32 = .ok (.iadd, 1) := by decide +kernel
theorem dX11_alterRow_33 : decode cX11_alterRow 33 = .ok (.iload_n 3, 1) := by decide +kernel
theorem dX11_alterRow_34 : decode cX11_alterRow 34 = .ok (.iastore, 1) := by decide +kernel
theorem dX11_alterRow_35 : decode cX11_alterRow 35 = .ok (.iload 4, 2) := by decide +kernel
theorem dX11_alterRow_37 : decode cX11_alterRow 37 = .ok (.ireturn, 1) := by decide +kernel
theorem dX11_anew_0 : decode cX11_anew 0 = .ok (.aload_n 0, 1) := by decide +kernel
theorem dX11_anew_1 : decode cX11_anew 1 = .ok (.getfield 56, 3) := by decide +kernel
theorem dX11_anew_4 : decode cX11_anew 4 = .ok (.getfield 156, 3) := by decide +kernel
theorem dX11_anew_7 : decode cX11_anew 7 = .ok (.istore_n 1, 1) := by decide +kernel
theorem dX11_anew_8 : decode cX11_anew 8 = .ok (.aload_n 0, 1) := by decide +kernel
theorem dX11_anew_9 : decode cX11_anew 9 = .ok (.getfield 56, 3) := by decide +kernel
theorem dX11_anew_12 : decode cX11_anew 12 = .ok (.iconst 0, 1) := by decide +kernel
theorem dX11_anew_13 : decode cX11_anew 13 = .ok (.putfield 156, 3) := by decide +kernel
theorem dX11_anew_16 : decode cX11_anew 16 = .ok (.aload_n 0, 1) := by decide +kernel
theorem dX11_anew_17 : decode cX11_anew 17 = .ok (.getfield 56, 3) := by decide +kernel
theorem dX11_anew_20 : decode cX11_anew 20 = .ok (.iconst 0, 1) := by decide +kernel
theorem dX11_anew_21 : decode cX11_anew 21 = .ok (.putfield 162, 3) := by decide +kernel
theorem dX11_anew_24 : decode cX11_anew 24 = .ok (.aload_n 0, 1) := by decide +kernel
theorem dX11_anew_25 : decode cX11_anew 25 = .ok (.getfield 56, 3) := by decide +kernel
theorem dX11_anew_28 : decode cX11_anew 28 = .ok (.iconst 0, 1) := by decide +kernel
theorem dX11_anew_29 : decode cX11_anew 29 = .ok (.putfield 165, 3) := by decide +kernel
theorem dX11_anew_32 : decode cX11_anew 32 = .ok (.iload_n 1, 1) := by decide +kernel
theorem dX11_anew_33 : decode cX11_anew 33 = .ok (.ireturn, 1) := by decide +kernel
theorem dX11_bars_0 : decode cX11_bars 0 = .ok (.iload_n 1, 1) := by decide +kernel
theorem dX11_bars_1 : decode cX11_bars 1 = .ok (.invokestatic 238, 3) := by decide +kernel
theorem dX11_bars_4 : decode cX11_bars 4 = .ok (.ifCond .eq 11, 3) := by decide +kernel
theorem dX11_bars_7 : decode cX11_bars 7 = .ok (.aload_n 0, 1) := by decide +kernel
theorem dX11_bars_8 : decode cX11_bars 8 = .ok (.iload_n 2, 1) := by decide +kernel
theorem dX11_bars_9 : decode cX11_bars 9 = .ok (.invokevirtual 257, 3) := by decide +kernel
theorem dX11_bars_12 : decode cX11_bars 12 = .ok (.ifCond .ne 5, 3) := by decide +kernel
theorem dX11_bars_15 : decode cX11_bars 15 = .ok (.iconst (-1), 1) := by decide +kernel
theorem dX11_bars_16 : decode cX11_bars 16 = .ok (.ireturn, 1) := by decide +kernel
theorem dX11_bars_17 : decode cX11_bars 17 = .ok (.iload_n 2, 1) := by decide +kernel
theorem dX11_bars_18 : decode cX11_bars 18 = .ok (.aload_n 0, 1) := by decide +kernel
theorem dX11_bars_19 : decode cX11_bars 19 = .ok (.getfield 68, 3) := by decide +kernel
theorem dX11_bars_22 : decode cX11_bars 22 = .ok (.iconst 0, 1) := by decide +kernel
theorem dX11_bars_23 : decode cX11_bars 23 = .ok (.iload_n 1, 1) := by decide +kernel
theorem dX11_bars_24 : decode cX11_bars 24 = .ok (.invokevirtual 264, 3) := by decide +kernel
theorem dX11_bars_27 : decode cX11_bars 27 = .ok (.iconst (-1), 1) := by decide +kernel
theorem dX11_bars_28 : decode cX11_bars 28 = .ok (.ixor, 1) := by decide +kernel
theorem dX11_bars_29 : decode cX11_bars 29 = .ok (.iand, 1) := by decide +kernel
theorem dX11_bars_30 : decode cX11_bars 30 = .ok (.istore_n 3, 1) := by decide +kernel
theorem dX11_bars_31 : decode cX11_bars 31 = .ok (.iload_n 3, 1) := by decide +kernel
theorem dX11_bars_32 : decode cX11_bars 32 = .ok (.ifCond .ne 8, 3) := by decide +kernel
theorem dX11_bars_35 : decode cX11_bars 35 = .ok (.bipush (-3), 2) := by decide +kernel
theorem dX11_bars_37 : decode cX11_bars 37 = .ok (.goto 7, 3) := by decide +kernel
theorem dX11_bars_40 : decode cX11_bars 40 = .ok (.iload_n 3, 1) := by decide +kernel
theorem dX11_bars_41 : decode cX11_bars 41 = .ok (.invokestatic 235, 3) := by decide +kernel
theorem dX11_bars_44 : decode cX11_bars 44 = .ok (.ireturn, 1) := by decide +kernel
theorem dX11_best_0 : decode cX11_best 0 = .ok (.iload_n 1, 1) := by decide +kernel
theorem dX11_best_1 : decode cX11_best 1 = .ok (.invokestatic 238, 3) := by decide +kernel
theorem dX11_best_4 : decode cX11_best 4 = .ok (.ifCond .ne 5, 3) := by decide +kernel
theorem dX11_best_7 : decode cX11_best 7 = .ok (.iconst (-1), 1) := by decide +kernel
theorem dX11_best_8 : decode cX11_best 8 = .ok (.ireturn, 1) := by decide +kernel
theorem dX11_best_9 : decode cX11_best 9 = .ok (.aload_n 0, 1) := by decide +kernel
theorem dX11_best_10 : decode cX11_best 10 = .ok (.getfield 68, 3) := by decide +kernel
theorem dX11_best_13 : decode cX11_best 13 = .ok (.iconst 0, 1) := by decide +kernel
theorem dX11_best_14 : decode cX11_best 14 = .ok (.iload_n 1, 1) := by decide +kernel
theorem dX11_best_15 : decode cX11_best 15 = .ok (.invokevirtual 241, 3) := by decide +kernel
theorem dX11_best_18 : decode cX11_best 18 = .ok (.aload_n 0, 1) := by decide +kernel
theorem dX11_best_19 : decode cX11_best 19 = .ok (.getfield 68, 3) := by decide +kernel
theorem dX11_best_22 : decode cX11_best 22 = .ok (.getfield 245, 3) := by decide +kernel
theorem dX11_best_25 : decode cX11_best 25 = .ok (.iconst 0, 1) := by decide +kernel
theorem dX11_best_26 : decode cX11_best 26 = .ok (.iaload, 1) := by decide +kernel
theorem dX11_best_27 : decode cX11_best 27 = .ok (.ireturn, 1) := by decide +kernel
theorem dX11_bunches_0 : decode cX11_bunches 0 = .ok (.iload_n 1, 1) := by decide +kernel
theorem dX11_bunches_1 : decode cX11_bunches 1 = .ok (.iconst (-1), 1) := by decide +kernel
theorem dX11_bunches_2 : decode cX11_bunches 2 = .ok (.if_icmp .ne 8, 3) := by decide +kernel
theorem dX11_bunches_5 : decode cX11_bunches 5 = .ok (.aload_n 0, 1) := by decide +kernel
theorem dX11_bunches_6 : decode cX11_bunches 6 = .ok (.invokevirtual 229, 3) := by decide +kernel
theorem dX11_bunches_9 : decode cX11_bunches 9 = .ok (.ireturn, 1) := by decide +kernel
theorem dX11_bunches_10 : decode cX11_bunches 10 = .ok (.aload_n 0, 1) := by decide +kernel
theorem dX11_bunches_11 : decode cX11_bunches 11 = .ok (.getfield 56, 3) := by decide +kernel
theorem dX11_bunches_14 : decode cX11_bunches 14 = .ok (.iload_n 1, 1) := by decide +kernel
theorem dX11_bunches_15 : decode cX11_bunches 15 = .ok (.invokevirtual 113, 3) := by decide +kernel
theorem dX11_bunches_18 : decode cX11_bunches 18 = .ok (.ifCond .eq 14, 3) := by decide +kernel
theorem dX11_bunches_21 : decode cX11_bunches 21 = .ok (.aload_n 0, 1) := by decide +kernel
theorem dX11_bunches_22 : decode cX11_bunches 22 = .ok (.getfield 56, 3) := by decide +kernel
theorem dX11_bunches_25 : decode cX11_bunches 25 = .ok (.iload_n 1, 1) := by decide +kernel
theorem dX11_bunches_26 : decode cX11_bunches 26 = .ok (.invokevirtual 232, 3) := by decide +kernel
theorem dX11_bunches_29 : decode cX11_bunches 29 = .ok (.goto 4, 3) := by decide +kernel
theorem dX11_bunches_32 : decode cX11_bunches 32 = .ok (.iconst (-1), 1) := by decide +kernel
theorem dX11_bunches_33 : decode cX11_bunches 33 = .ok (.ireturn, 1) := by decide +kernel
theorem dX11_change_0 : decode cX11_change 0 = .ok (.aload_n 0, 1) := by decide +kernel
theorem dX11_change_1 : decode cX11_change 1 = .ok (.getfield 56, 3) := by decide +kernel
theorem dX11_change_4 : decode cX11_change 4 = .ok (.iload_n 1, 1) := by decide +kernel
theorem dX11_change_5 : decode cX11_change 5 = .ok (.invokevirtual 113, 3) := by decide +kernel
theorem dX11_change_8 : decode cX11_change 8 = .ok (.ifCond .ne 5, 3) := by decide +kernel
theorem dX11_change_11 : decode cX11_change 11 = .ok (.iconst (-1), 1) := by decide +kernel
theorem dX11_change_12 : decode cX11_change 12 = .ok (.ireturn, 1) := by decide +kernel
theorem dX11_change_13 : decode cX11_change 13 = .ok (.iload_n 2, 1) := by decide +kernel
theorem dX11_change_14 : decode cX11_change 14 = .ok (.tableswitch 81 1 4 #[30, 45, 60, 74], 30) := by decide +kernel
theorem dX11_change_44 : decode cX11_change 44 = .ok (.aload_n 0, 1) := by decide +kernel
theorem dX11_change_45 : decode cX11_change 45 = .ok (.getfield 56, 3) := by decide +kernel
theorem dX11_change_48 : decode cX11_change 48 = .ok (.getfield 104, 3) := by decide +kernel
theorem dX11_change_51 : decode cX11_change 51 = .ok (.iload_n 1, 1) := by decide +kernel
theorem dX11_change_52 : decode cX11_change 52 = .ok (.iload_n 3, 1) := by decide +kernel
theorem dX11_change_53 : decode cX11_change 53 = .ok (.bipush 99, 2) := by decide +kernel
theorem dX11_change_55 : decode cX11_change 55 = .ok (.invokestatic 135, 3) := by decide +kernel
theorem dX11_change_58 : decode cX11_change 58 = .ok (.ireturn, 1) := by decide +kernel
theorem dX11_change_59 : decode cX11_change 59 = .ok (.aload_n 0, 1) := by decide +kernel
theorem dX11_change_60 : decode cX11_change 60 = .ok (.getfield 56, 3) := by decide +kernel
theorem dX11_change_63 : decode cX11_change 63 = .ok (.getfield 107, 3) := by decide +kernel
theorem dX11_change_66 : decode cX11_change 66 = .ok (.iload_n 1, 1) := by decide +kernel
theorem dX11_change_67 : decode cX11_change 67 = .ok (.iload_n 3, 1) := by decide +kernel
theorem dX11_change_68 : decode cX11_change 68 = .ok (.bipush 9, 2) := by decide +kernel
theorem dX11_change_70 : decode cX11_change 70 = .ok (.invokestatic 135, 3) := by decide +kernel
theorem dX11_change_73 : decode cX11_change 73 = .ok (.ireturn, 1) := by decide +kernel
theorem dX11_change_74 : decode cX11_change 74 = .ok (.aload_n 0, 1) := by decide +kernel
theorem dX11_change_75 : decode cX11_change 75 = .ok (.getfield 56, 3) := by decide +kernel
theorem dX11_change_78 : decode cX11_change 78 = .ok (.getfield 110, 3) := by decide +kernel
theorem dX11_change_81 : decode cX11_change 81 = .ok (.iload_n 1, 1) := by decide +kernel
theorem dX11_change_82 : decode cX11_change 82 = .ok (.iload_n 3, 1) := by decide +kernel
theorem dX11_change_83 : decode cX11_change 83 = .ok (.iconst 5, 1) := by decide +kernel
theorem dX11_change_84 : decode cX11_change 84 = .ok (.invokestatic 135, 3) := by decide +kernel
theorem dX11_change_87 : decode cX11_change 87 = .ok (.ireturn, 1) := by decide +kernel
theorem dX11_change_88 : decode cX11_change 88 = .ok (.aload_n 0, 1) := by decide +kernel
theorem dX11_change_89 : decode cX11_change 89 = .ok (.iload_n 1, 1) := by decide +kernel
theorem dX11_change_90 : decode cX11_change 90 = .ok (.iload_n 3, 1) := by decide +kernel
theorem dX11_change_91 : decode cX11_change 91 = .ok (.invokevirtual 139, 3) := by decide +kernel
theorem dX11_change_94 : decode cX11_change 94 = .ok (.ireturn, 1) := by decide +kernel
theorem dX11_change_95 : decode cX11_change 95 = .ok (.iconst (-1), 1) := by decide +kernel
theorem dX11_change_96 : decode cX11_change 96 = .ok (.ireturn, 1) := by decide +kernel
theorem dX11_countBunches_0 : decode cX11_countBunches 0 = .ok (.iconst 0, 1) := by decide +kernel
theorem dX11_countBunches_1 : decode cX11_countBunches 1 = .ok (.istore_n 1, 1) := by decide +kernel
theorem dX11_countBunches_2 : decode cX11_countBunches 2 = .ok (.iconst 0, 1) := by decide +kernel
theorem dX11_countBunches_3 : decode cX11_countBunches 3 = .ok (.istore_n 2, 1) := by decide +kernel
theorem dX11_countBunches_4 : decode cX11_countBunches 4 = .ok (.iload_n 2, 1) := by decide +kernel
theorem dX11_countBunches_5 : decode cX11_countBunches 5 = .ok (.aload_n 0, 1) := by decide +kernel
theorem dX11_countBunches_6 : decode cX11_countBunches 6 = .ok (.getfield 56, 3) := by decide +kernel
theorem dX11_countBunches_9 : decode cX11_countBunches 9 = .ok (.getfield 97, 3) := by decide +kernel
theorem dX11_countBunches_12 : decode cX11_countBunches 12 = .ok (.if_icmp .ge 33, 3) := by decide +kernel
theorem dX11_countBunches_15 : decode cX11_countBunches 15 = .ok (.aload_n 0, 1) := by decide +kernel
theorem dX11_countBunches_16 : decode cX11_countBunches 16 = .ok (.getfield 56, 3) := by decide +kernel
theorem dX11_countBunches_19 : decode cX11_countBunches 19 = .ok (.iload_n 2, 1) := by decide +kernel
theorem dX11_countBunches_20 : decode cX11_countBunches 20 = .ok (.invokevirtual 232, 3) := by decide +kernel
theorem dX11_countBunches_23 : decode cX11_countBunches 23 = .ok (.istore_n 3, 1) := by decide +kernel
theorem dX11_countBunches_24 : decode cX11_countBunches 24 = .ok (.iload_n 3, 1) := by decide +kernel
theorem dX11_countBunches_25 : decode cX11_countBunches 25 = .ok (.ifCond .eq 14, 3) := by decide +kernel
theorem dX11_countBunches_28 : decode cX11_countBunches 28 = .ok (.iload_n 3, 1) := by decide +kernel
theorem dX11_countBunches_29 : decode cX11_countBunches 29 = .ok (.invokestatic 235, 3) := by decide +kernel
theorem dX11_countBunches_32 : decode cX11_countBunches 32 = .ok (.iload_n 2, 1) := by decide +kernel
theorem dX11_countBunches_33 : decode cX11_countBunches 33 = .ok (.if_icmp .ne 6, 3) := by decide +kernel
theorem dX11_countBunches_36 : decode cX11_countBunches 36 = .ok (.iinc 1 1, 3) := by decide +kernel
theorem dX11_countBunches_39 : decode cX11_countBunches 39 = .ok (.iinc 2 1, 3) := by decide +kernel
theorem dX11_countBunches_42 : decode cX11_countBunches 42 = .ok (.goto (-38), 3) := by decide +kernel
theorem dX11_countBunches_45 : decode cX11_countBunches 45 = .ok (.iload_n 1, 1) := by decide +kernel
theorem dX11_countBunches_46 : decode cX11_countBunches 46 = .ok (.ireturn, 1) := by decide +kernel
theorem dX11_ends_0 : decode cX11_ends 0 = .ok (.iload_n 1, 1) := by decide +kernel
theorem dX11_ends_1 : decode cX11_ends 1 = .ok (.iconst 1, 1) := by decide +kernel
theorem dX11_ends_2 : decode cX11_ends 2 = .ok (.bipush 16, 2) := by decide +kernel
theorem dX11_ends_4 : decode cX11_ends 4 = .ok (.invokestatic 90, 3) := by decide +kernel
theorem dX11_ends_7 : decode cX11_ends 7 = .ok (.ifCond .ne 5, 3) := by decide +kernel
theorem dX11_ends_10 : decode cX11_ends 10 = .ok (.iconst (-1), 1) := by decide +kernel
theorem dX11_ends_11 : decode cX11_ends 11 = .ok (.ireturn, 1) := by decide +kernel
theorem dX11_ends_12 : decode cX11_ends 12 = .ok (.iload_n 1, 1) := by decide +kernel
theorem dX11_ends_13 : decode cX11_ends 13 = .ok (.aload_n 0, 1) := by decide +kernel
theorem dX11_ends_14 : decode cX11_ends 14 = .ok (.getfield 56, 3) := by decide +kernel
theorem dX11_ends_17 : decode cX11_ends 17 = .ok (.getfield 156, 3) := by decide +kernel
theorem dX11_ends_20 : decode cX11_ends 20 = .ok (.if_icmp .ge 6, 3) := by decide +kernel
theorem dX11_ends_23 : decode cX11_ends 23 = .ok (.bipush (-4), 2) := by decide +kernel
theorem dX11_ends_25 : decode cX11_ends 25 = .ok (.ireturn, 1) := by decide +kernel
theorem dX11_ends_26 : decode cX11_ends 26 = .ok (.aload_n 0, 1) := by decide +kernel
theorem dX11_ends_27 : decode cX11_ends 27 = .ok (.getfield 56, 3) := by decide +kernel
theorem dX11_ends_30 : decode cX11_ends 30 = .ok (.getfield 159, 3) := by decide +kernel
theorem dX11_ends_33 : decode cX11_ends 33 = .ok (.istore_n 2, 1) := by decide +kernel
theorem dX11_ends_34 : decode cX11_ends 34 = .ok (.aload_n 0, 1) := by decide +kernel
theorem dX11_ends_35 : decode cX11_ends 35 = .ok (.getfield 56, 3) := by decide +kernel
theorem dX11_ends_38 : decode cX11_ends 38 = .ok (.iload_n 1, 1) := by decide +kernel
theorem dX11_ends_39 : decode cX11_ends 39 = .ok (.putfield 159, 3) := by decide +kernel
theorem dX11_ends_42 : decode cX11_ends 42 = .ok (.iload_n 2, 1) := by decide +kernel
theorem dX11_ends_43 : decode cX11_ends 43 = .ok (.ireturn, 1) := by decide +kernel
theorem dX11_feed_0 : decode cX11_feed 0 = .ok (.iload_n 3, 1) := by decide +kernel
theorem dX11_feed_1 : decode cX11_feed 1 = .ok (.iconst 1, 1) := by decide +kernel
theorem dX11_feed_2 : decode cX11_feed 2 = .ok (.bipush 8, 2) := by decide +kernel
theorem dX11_feed_4 : decode cX11_feed 4 = .ok (.invokestatic 90, 3) := by decide +kernel
theorem dX11_feed_7 : decode cX11_feed 7 = .ok (.ifCond .ne 5, 3) := by decide +kernel
theorem dX11_feed_10 : decode cX11_feed 10 = .ok (.iconst (-1), 1) := by decide +kernel
theorem dX11_feed_11 : decode cX11_feed 11 = .ok (.ireturn, 1) := by decide +kernel
theorem dX11_feed_12 : decode cX11_feed 12 = .ok (.aload_n 0, 1) := by decide +kernel
theorem dX11_feed_13 : decode cX11_feed 13 = .ok (.getfield 75, 3) := by decide +kernel
theorem dX11_feed_16 : decode cX11_feed 16 = .ok (.getfield 179, 3) := by decide +kernel
theorem dX11_feed_19 : decode cX11_feed 19 = .ok (.iload_n 3, 1) := by decide +kernel
theorem dX11_feed_20 : decode cX11_feed 20 = .ok (.iadd, 1) := by decide +kernel
theorem dX11_feed_21 : decode cX11_feed 21 = .ok (.sipush 200, 3) := by decide +kernel
theorem dX11_feed_24 : decode cX11_feed 24 = .ok (.if_icmp .le 6, 3) := by decide +kernel
theorem dX11_feed_27 : decode cX11_feed 27 = .ok (.bipush (-2), 2) := by decide +kernel
theorem dX11_feed_29 : decode cX11_feed 29 = .ok (.ireturn, 1) := by decide +kernel
theorem dX11_feed_30 : decode cX11_feed 30 = .ok (.iconst 0, 1) := by decide +kernel
theorem dX11_feed_31 : decode cX11_feed 31 = .ok (.istore 4, 2) := by decide +kernel
theorem dX11_feed_33 : decode cX11_feed 33 = .ok (.iload 4, 2) := by decide +kernel
theorem dX11_feed_35 : decode cX11_feed 35 = .ok (.iload_n 3, 1) := by decide +kernel
theorem dX11_feed_36 : decode cX11_feed 36 = .ok (.if_icmp .ge 28, 3) := by decide +kernel
theorem dX11_feed_39 : decode cX11_feed 39 = .ok (.aload_n 0, 1) := by decide +kernel
theorem dX11_feed_40 : decode cX11_feed 40 = .ok (.getfield 75, 3) := by decide +kernel
theorem dX11_feed_43 : decode cX11_feed 43 = .ok (.lload_n 1, 1) := by decide +kernel
theorem dX11_feed_44 : decode cX11_feed 44 = .ok (.bipush 8, 2) := by decide +kernel
theorem dX11_feed_46 : decode cX11_feed 46 = .ok (.iload 4, 2) := by decide +kernel
theorem dX11_feed_48 : decode cX11_feed 48 = .ok (.imul, 1) := by decide +kernel
theorem dX11_feed_49 : decode cX11_feed 49 = .ok (.lushr, 1) := by decide +kernel
theorem dX11_feed_50 : decode cX11_feed 50 = .ok (.l2i, 1) := by decide +kernel
theorem dX11_feed_51 : decode cX11_feed 51 = .ok (.sipush 255, 3) := by decide +kernel
theorem dX11_feed_54 : decode cX11_feed 54 = .ok (.iand, 1) := by decide +kernel
theorem dX11_feed_55 : decode cX11_feed 55 = .ok (.invokevirtual 182, 3) := by decide +kernel
theorem dX11_feed_58 : decode cX11_feed 58 = .ok (.iinc 4 1, 3) := by decide +kernel
theorem dX11_feed_61 : decode cX11_feed 61 = .ok (.goto (-28), 3) := by decide +kernel
theorem dX11_feed_64 : decode cX11_feed 64 = .ok (.aload_n 0, 1) := by decide +kernel
theorem dX11_feed_65 : decode cX11_feed 65 = .ok (.getfield 75, 3) := by decide +kernel
theorem dX11_feed_68 : decode cX11_feed 68 = .ok (.getfield 179, 3) := by decide +kernel
theorem dX11_feed_71 : decode cX11_feed 71 = .ok (.ireturn, 1) := by decide +kernel
theorem dX11_forget_0 : decode cX11_forget 0 = .ok (.aload_n 0, 1) := by decide +kernel
theorem dX11_forget_1 : decode cX11_forget 1 = .ok (.getfield 56, 3) := by decide +kernel
theorem dX11_forget_4 : decode cX11_forget 4 = .ok (.getfield 270, 3) := by decide +kernel
theorem dX11_forget_7 : decode cX11_forget 7 = .ok (.istore_n 1, 1) := by decide +kernel
theorem dX11_forget_8 : decode cX11_forget 8 = .ok (.aload_n 0, 1) := by decide +kernel
theorem dX11_forget_9 : decode cX11_forget 9 = .ok (.getfield 56, 3) := by decide +kernel
theorem dX11_forget_12 : decode cX11_forget 12 = .ok (.iconst 0, 1) := by decide +kernel
theorem dX11_forget_13 : decode cX11_forget 13 = .ok (.putfield 270, 3) := by decide +kernel
theorem dX11_forget_16 : decode cX11_forget 16 = .ok (.iload_n 1, 1) := by decide +kernel
theorem dX11_forget_17 : decode cX11_forget 17 = .ok (.ireturn, 1) := by decide +kernel
theorem dX11_game_0 : decode cX11_game 0 = .ok (.iload_n 1, 1) := by decide +kernel
theorem dX11_game_1 : decode cX11_game 1 = .ok (.iconst 1, 1) := by decide +kernel
theorem dX11_game_2 : decode cX11_game 2 = .ok (.iconst 4, 1) := by decide +kernel
theorem dX11_game_3 : decode cX11_game 3 = .ok (.invokestatic 90, 3) := by decide +kernel
theorem dX11_game_6 : decode cX11_game 6 = .ok (.ifCond .ne 5, 3) := by decide +kernel
theorem dX11_game_9 : decode cX11_game 9 = .ok (.iconst (-1), 1) := by decide +kernel
theorem dX11_game_10 : decode cX11_game 10 = .ok (.ireturn, 1) := by decide +kernel
theorem dX11_game_11 : decode cX11_game 11 = .ok (.aload_n 0, 1) := by decide +kernel
theorem dX11_game_12 : decode cX11_game 12 = .ok (.getfield 68, 3) := by decide +kernel
theorem dX11_game_15 : decode cX11_game 15 = .ok (.iconst 0, 1) := by decide +kernel
theorem dX11_game_16 : decode cX11_game 16 = .ok (.iload_n 1, 1) := by decide +kernel
theorem dX11_game_17 : decode cX11_game 17 = .ok (.invokevirtual 267, 3) := by decide +kernel
theorem dX11_game_20 : decode cX11_game 20 = .ok (.ireturn, 1) := by decide +kernel
theorem dX11_gate_0 : decode cX11_gate 0 = .ok (.iload_n 2, 1) := by decide +kernel
theorem dX11_gate_1 : decode cX11_gate 1 = .ok (.lookupswitch 57 #[(0, 27), (1, 42)], 27) := by decide +kernel
theorem dX11_gate_28 : decode cX11_gate 28 = .ok (.aload_n 0, 1) := by decide +kernel
theorem dX11_gate_29 : decode cX11_gate 29 = .ok (.getfield 56, 3) := by decide +kernel
theorem dX11_gate_32 : decode cX11_gate 32 = .ok (.getfield 150, 3) := by decide +kernel
theorem dX11_gate_35 : decode cX11_gate 35 = .ok (.iload_n 1, 1) := by decide +kernel
theorem dX11_gate_36 : decode cX11_gate 36 = .ok (.iload_n 3, 1) := by decide +kernel
theorem dX11_gate_37 : decode cX11_gate 37 = .ok (.bipush 9, 2) := by decide +kernel
theorem dX11_gate_39 : decode cX11_gate 39 = .ok (.invokestatic 135, 3) := by decide +kernel
theorem dX11_gate_42 : decode cX11_gate 42 = .ok (.ireturn, 1) := by decide +kernel
theorem dX11_gate_43 : decode cX11_gate 43 = .ok (.aload_n 0, 1) := by decide +kernel
theorem dX11_gate_44 : decode cX11_gate 44 = .ok (.getfield 56, 3) := by decide +kernel
theorem dX11_gate_47 : decode cX11_gate 47 = .ok (.getfield 153, 3) := by decide +kernel
theorem dX11_gate_50 : decode cX11_gate 50 = .ok (.iload_n 1, 1) := by decide +kernel
theorem dX11_gate_51 : decode cX11_gate 51 = .ok (.iload_n 3, 1) := by decide +kernel
theorem dX11_gate_52 : decode cX11_gate 52 = .ok (.bipush 9, 2) := by decide +kernel
theorem dX11_gate_54 : decode cX11_gate 54 = .ok (.invokestatic 135, 3) := by decide +kernel
theorem dX11_gate_57 : decode cX11_gate 57 = .ok (.ireturn, 1) := by decide +kernel
theorem dX11_gate_58 : decode cX11_gate 58 = .ok (.iconst (-1), 1) := by decide +kernel
theorem dX11_gate_59 : decode cX11_gate 59 = .ok (.ireturn, 1) := by decide +kernel
theorem dX11_gateFor_0 : decode cX11_gateFor 0 = .ok (.aload_n 0, 1) := by decide +kernel
theorem dX11_gateFor_1 : decode cX11_gateFor 1 = .ok (.getfield 56, 3) := by decide +kernel
theorem dX11_gateFor_4 : decode cX11_gateFor 4 = .ok (.iload_n 1, 1) := by decide +kernel
theorem dX11_gateFor_5 : decode cX11_gateFor 5 = .ok (.invokevirtual 113, 3) := by decide +kernel
theorem dX11_gateFor_8 : decode cX11_gateFor 8 = .ok (.ifCond .eq 19, 3) := by decide +kernel
theorem dX11_gateFor_11 : decode cX11_gateFor 11 = .ok (.aload_n 0, 1) := by decide +kernel
theorem dX11_gateFor_12 : decode cX11_gateFor 12 = .ok (.aload_n 0, 1) := by decide +kernel
theorem dX11_gateFor_13 : decode cX11_gateFor 13 = .ok (.getfield 56, 3) := by decide +kernel
theorem dX11_gateFor_16 : decode cX11_gateFor 16 = .ok (.getfield 110, 3) := by decide +kernel
theorem dX11_gateFor_19 : decode cX11_gateFor 19 = .ok (.iload_n 1, 1) := by decide +kernel
theorem dX11_gateFor_20 : decode cX11_gateFor 20 = .ok (.iconst 5, 1) := by decide +kernel
theorem dX11_gateFor_21 : decode cX11_gateFor 21 = .ok (.invokevirtual 221, 3) := by decide +kernel
theorem dX11_gateFor_24 : decode cX11_gateFor 24 = .ok (.goto 4, 3) := by decide +kernel
theorem dX11_gateFor_27 : decode cX11_gateFor 27 = .ok (.iconst (-1), 1) := by decide +kernel
theorem dX11_gateFor_28 : decode cX11_gateFor 28 = .ok (.ireturn, 1) := by decide +kernel
theorem dX11_gateOf_0 : decode cX11_gateOf 0 = .ok (.iload_n 1, 1) := by decide +kernel
theorem dX11_gateOf_1 : decode cX11_gateOf 1 = .ok (.invokestatic 94, 3) := by decide +kernel
theorem dX11_gateOf_4 : decode cX11_gateOf 4 = .ok (.ifCond .ne 5, 3) := by decide +kernel
theorem dX11_gateOf_7 : decode cX11_gateOf 7 = .ok (.iconst (-1), 1) := by decide +kernel
theorem dX11_gateOf_8 : decode cX11_gateOf 8 = .ok (.ireturn, 1) := by decide +kernel
theorem dX11_gateOf_9 : decode cX11_gateOf 9 = .ok (.iload_n 2, 1) := by decide +kernel
theorem dX11_gateOf_10 : decode cX11_gateOf 10 = .ok (.lookupswitch 46 #[(0, 26), (1, 36)], 26) := by decide +kernel
theorem dX11_gateOf_36 : decode cX11_gateOf 36 = .ok (.aload_n 0, 1) := by decide +kernel
theorem dX11_gateOf_37 : decode cX11_gateOf 37 = .ok (.getfield 56, 3) := by decide +kernel
theorem dX11_gateOf_40 : decode cX11_gateOf 40 = .ok (.getfield 150, 3) := by decide +kernel
theorem dX11_gateOf_43 : decode cX11_gateOf 43 = .ok (.iload_n 1, 1) := by decide +kernel
theorem dX11_gateOf_44 : decode cX11_gateOf 44 = .ok (.iaload, 1) := by decide +kernel
theorem dX11_gateOf_45 : decode cX11_gateOf 45 = .ok (.ireturn, 1) := by decide +kernel
theorem dX11_gateOf_46 : decode cX11_gateOf 46 = .ok (.aload_n 0, 1) := by decide +kernel
theorem dX11_gateOf_47 : decode cX11_gateOf 47 = .ok (.getfield 56, 3) := by decide +kernel
theorem dX11_gateOf_50 : decode cX11_gateOf 50 = .ok (.getfield 153, 3) := by decide +kernel
theorem dX11_gateOf_53 : decode cX11_gateOf 53 = .ok (.iload_n 1, 1) := by decide +kernel
theorem dX11_gateOf_54 : decode cX11_gateOf 54 = .ok (.iaload, 1) := by decide +kernel
theorem dX11_gateOf_55 : decode cX11_gateOf 55 = .ok (.ireturn, 1) := by decide +kernel
theorem dX11_gateOf_56 : decode cX11_gateOf 56 = .ok (.iconst (-1), 1) := by decide +kernel
theorem dX11_gateOf_57 : decode cX11_gateOf 57 = .ok (.ireturn, 1) := by decide +kernel
theorem dX11_goAll_0 : decode cX11_goAll 0 = .ok (.iload_n 1, 1) := by decide +kernel
theorem dX11_goAll_1 : decode cX11_goAll 1 = .ok (.invokestatic 319, 3) := by decide +kernel
theorem dX11_goAll_4 : decode cX11_goAll 4 = .ok (.ifCond .eq 13, 3) := by decide +kernel
theorem dX11_goAll_7 : decode cX11_goAll 7 = .ok (.iload_n 3, 1) := by decide +kernel
theorem dX11_goAll_8 : decode cX11_goAll 8 = .ok (.iconst 0, 1) := by decide +kernel
theorem dX11_goAll_9 : decode cX11_goAll 9 = .ok (.bipush 20, 2) := by decide +kernel
theorem dX11_goAll_11 : decode cX11_goAll 11 = .ok (.invokestatic 90, 3) := by decide +kernel
theorem dX11_goAll_14 : decode cX11_goAll 14 = .ok (.ifCond .ne 5, 3) := by decide +kernel
theorem dX11_goAll_17 : decode cX11_goAll 17 = .ok (.iconst (-1), 1) := by decide +kernel
theorem dX11_goAll_18 : decode cX11_goAll 18 = .ok (.ireturn, 1) := by decide +kernel
theorem dX11_goAll_19 : decode cX11_goAll 19 = .ok (.aload_n 0, 1) := by decide +kernel
theorem dX11_goAll_20 : decode cX11_goAll 20 = .ok (.iload_n 1, 1) := by decide +kernel
theorem dX11_goAll_21 : decode cX11_goAll 21 = .ok (.iconst 0, 1) := by decide +kernel
theorem dX11_goAll_22 : decode cX11_goAll 22 = .ok (.invokevirtual 328, 3) := by decide +kernel
theorem dX11_goAll_25 : decode cX11_goAll 25 = .ok (.istore 4, 2) := by decide +kernel
theorem dX11_goAll_27 : decode cX11_goAll 27 = .ok (.iload 4, 2) := by decide +kernel
theorem dX11_goAll_29 : decode cX11_goAll 29 = .ok (.ifCond .eq 6, 3) := by decide +kernel
theorem dX11_goAll_32 : decode cX11_goAll 32 = .ok (.iload 4, 2) := by decide +kernel
theorem dX11_goAll_34 : decode cX11_goAll 34 = .ok (.ireturn, 1) := by decide +kernel
theorem dX11_goAll_35 : decode cX11_goAll 35 = .ok (.iconst 0, 1) := by decide +kernel
theorem dX11_goAll_36 : decode cX11_goAll 36 = .ok (.istore 5, 2) := by decide +kernel
theorem dX11_goAll_38 : decode cX11_goAll 38 = .ok (.iconst 0, 1) := by decide +kernel
theorem dX11_goAll_39 : decode cX11_goAll 39 = .ok (.istore 6, 2) := by decide +kernel
theorem dX11_goAll_41 : decode cX11_goAll 41 = .ok (.iload 6, 2) := by decide +kernel
theorem dX11_goAll_43 : decode cX11_goAll 43 = .ok (.iload_n 3, 1) := by decide +kernel
theorem dX11_goAll_44 : decode cX11_goAll 44 = .ok (.if_icmp .ge 77, 3) := by decide +kernel
theorem dX11_goAll_47 : decode cX11_goAll 47 = .ok (.aload_n 0, 1) := by decide +kernel
theorem dX11_goAll_48 : decode cX11_goAll 48 = .ok (.iload_n 1, 1) := by decide +kernel
theorem dX11_goAll_49 : decode cX11_goAll 49 = .ok (.iload_n 2, 1) := by decide +kernel
theorem dX11_goAll_50 : decode cX11_goAll 50 = .ok (.iload 6, 2) := by decide +kernel
theorem dX11_goAll_52 : decode cX11_goAll 52 = .ok (.iadd, 1) := by decide +kernel
theorem dX11_goAll_53 : decode cX11_goAll 53 = .ok (.invokevirtual 322, 3) := by decide +kernel
theorem dX11_goAll_56 : decode cX11_goAll 56 = .ok (.ifCond .ne 6, 3) := by decide +kernel
theorem dX11_goAll_59 : decode cX11_goAll 59 = .ok (.bipush (-12), 2) := by decide +kernel
theorem dX11_goAll_61 : decode cX11_goAll 61 = .ok (.ireturn, 1) := by decide +kernel
theorem dX11_goAll_62 : decode cX11_goAll 62 = .ok (.aload_n 0, 1) := by decide +kernel
theorem dX11_goAll_63 : decode cX11_goAll 63 = .ok (.getfield 21, 3) := by decide +kernel
theorem dX11_goAll_66 : decode cX11_goAll 66 = .ok (.iload_n 1, 1) := by decide +kernel
theorem dX11_goAll_67 : decode cX11_goAll 67 = .ok (.aaload, 1) := by decide +kernel
theorem dX11_goAll_68 : decode cX11_goAll 68 = .ok (.iload_n 2, 1) := by decide +kernel
theorem dX11_goAll_69 : decode cX11_goAll 69 = .ok (.iload 6, 2) := by decide +kernel
theorem dX11_goAll_71 : decode cX11_goAll 71 = .ok (.iadd, 1) := by decide +kernel
theorem dX11_goAll_72 : decode cX11_goAll 72 = .ok (.iaload, 1) := by decide +kernel
theorem dX11_goAll_73 : decode cX11_goAll 73 = .ok (.istore 7, 2) := by decide +kernel
theorem dX11_goAll_75 : decode cX11_goAll 75 = .ok (.aload_n 0, 1) := by decide +kernel
theorem dX11_goAll_76 : decode cX11_goAll 76 = .ok (.getfield 56, 3) := by decide +kernel
theorem dX11_goAll_79 : decode cX11_goAll 79 = .ok (.iload 7, 2) := by decide +kernel
theorem dX11_goAll_81 : decode cX11_goAll 81 = .ok (.invokevirtual 316, 3) := by decide +kernel
theorem dX11_goAll_84 : decode cX11_goAll 84 = .ok (.ifCond .eq 31, 3) := by decide +kernel
theorem dX11_goAll_87 : decode cX11_goAll 87 = .ok (.aload_n 0, 1) := by decide +kernel
theorem dX11_goAll_88 : decode cX11_goAll 88 = .ok (.getfield 56, 3) := by decide +kernel
theorem dX11_goAll_91 : decode cX11_goAll 91 = .ok (.invokevirtual 168, 3) := by decide +kernel
theorem dX11_goAll_94 : decode cX11_goAll 94 = .ok (.ifCond .ne 21, 3) := by decide +kernel
theorem dX11_goAll_97 : decode cX11_goAll 97 = .ok (.iload 5, 2) := by decide +kernel
theorem dX11_goAll_99 : decode cX11_goAll 99 = .ok (.aload_n 0, 1) := by decide +kernel
theorem dX11_goAll_100 : decode cX11_goAll 100 = .ok (.aload_n 0, 1) := by decide +kernel
theorem dX11_goAll_101 : decode cX11_goAll 101 = .ok (.getfield 56, 3) := by decide +kernel
theorem dX11_goAll_104 : decode cX11_goAll 104 = .ok (.iload 7, 2) := by decide +kernel
theorem dX11_goAll_106 : decode cX11_goAll 106 = .ok (.invokevirtual 206, 3) := by decide +kernel
theorem dX11_goAll_109 : decode cX11_goAll 109 = .ok (.invokevirtual 209, 3) := by decide +kernel
theorem dX11_goAll_112 : decode cX11_goAll 112 = .ok (.iadd, 1) := by decide +kernel
theorem dX11_goAll_113 : decode cX11_goAll 113 = .ok (.istore 5, 2) := by decide +kernel
theorem dX11_goAll_115 : decode cX11_goAll 115 = .ok (.iinc 6 1, 3) := by decide +kernel
theorem dX11_goAll_118 : decode cX11_goAll 118 = .ok (.goto (-77), 3) := by decide +kernel
theorem dX11_goAll_121 : decode cX11_goAll 121 = .ok (.iload 5, 2) := by decide +kernel
theorem dX11_goAll_123 : decode cX11_goAll 123 = .ok (.ireturn, 1) := by decide +kernel
theorem dX11_gone_0 : decode cX11_gone 0 = .ok (.aload_n 0, 1) := by decide +kernel
theorem dX11_gone_1 : decode cX11_gone 1 = .ok (.getfield 56, 3) := by decide +kernel
theorem dX11_gone_4 : decode cX11_gone 4 = .ok (.iload_n 1, 1) := by decide +kernel
theorem dX11_gone_5 : decode cX11_gone 5 = .ok (.invokevirtual 113, 3) := by decide +kernel
theorem dX11_gone_8 : decode cX11_gone 8 = .ok (.ifCond .ne 5, 3) := by decide +kernel
theorem dX11_gone_11 : decode cX11_gone 11 = .ok (.iconst (-1), 1) := by decide +kernel
theorem dX11_gone_12 : decode cX11_gone 12 = .ok (.ireturn, 1) := by decide +kernel
theorem dX11_gone_13 : decode cX11_gone 13 = .ok (.aload_n 0, 1) := by decide +kernel
theorem dX11_gone_14 : decode cX11_gone 14 = .ok (.getfield 56, 3) := by decide +kernel
theorem dX11_gone_17 : decode cX11_gone 17 = .ok (.iconst 0, 1) := by decide +kernel
theorem dX11_gone_18 : decode cX11_gone 18 = .ok (.invokevirtual 212, 3) := by decide +kernel
theorem dX11_gone_21 : decode cX11_gone 21 = .ok (.iconst 0, 1) := by decide +kernel
theorem dX11_gone_22 : decode cX11_gone 22 = .ok (.istore_n 2, 1) := by decide +kernel
theorem dX11_gone_23 : decode cX11_gone 23 = .ok (.iload_n 2, 1) := by decide +kernel
theorem dX11_gone_24 : decode cX11_gone 24 = .ok (.bipush 16, 2) := by decide +kernel
theorem dX11_gone_26 : decode cX11_gone 26 = .ok (.if_icmp .ge 46, 3) := by decide +kernel
theorem dX11_gone_29 : decode cX11_gone 29 = .ok (.aload_n 0, 1) := by decide +kernel
theorem dX11_gone_30 : decode cX11_gone 30 = .ok (.getfield 56, 3) := by decide +kernel
theorem dX11_gone_33 : decode cX11_gone 33 = .ok (.getfield 104, 3) := by decide +kernel
theorem dX11_gone_36 : decode cX11_gone 36 = .ok (.iload_n 1, 1) := by decide +kernel
theorem dX11_gone_37 : decode cX11_gone 37 = .ok (.iaload, 1) := by decide +kernel
theorem dX11_gone_38 : decode cX11_gone 38 = .ok (.ifCond .le 34, 3) := by decide +kernel
theorem dX11_gone_41 : decode cX11_gone 41 = .ok (.aload_n 0, 1) := by decide +kernel
theorem dX11_gone_42 : decode cX11_gone 42 = .ok (.getfield 56, 3) := by decide +kernel
theorem dX11_gone_45 : decode cX11_gone 45 = .ok (.invokevirtual 168, 3) := by decide +kernel
theorem dX11_gone_48 : decode cX11_gone 48 = .ok (.ifCond .ne 24, 3) := by decide +kernel
theorem dX11_gone_51 : decode cX11_gone 51 = .ok (.aload_n 0, 1) := by decide +kernel
theorem dX11_gone_52 : decode cX11_gone 52 = .ok (.getfield 56, 3) := by decide +kernel
theorem dX11_gone_55 : decode cX11_gone 55 = .ok (.aload_n 0, 1) := by decide +kernel
theorem dX11_gone_56 : decode cX11_gone 56 = .ok (.getfield 56, 3) := by decide +kernel
theorem dX11_gone_59 : decode cX11_gone 59 = .ok (.invokevirtual 203, 3) := by decide +kernel
theorem dX11_gone_62 : decode cX11_gone 62 = .ok (.invokevirtual 206, 3) := by decide +kernel
theorem dX11_gone_65 : decode cX11_gone 65 = .ok (.pop, 1) := by decide +kernel
theorem dX11_gone_66 : decode cX11_gone 66 = .ok (.iinc 2 1, 3) := by decide +kernel
theorem dX11_gone_69 : decode cX11_gone 69 = .ok (.goto (-46), 3) := by decide +kernel
theorem dX11_gone_72 : decode cX11_gone 72 = .ok (.aload_n 0, 1) := by decide +kernel
theorem dX11_gone_73 : decode cX11_gone 73 = .ok (.getfield 56, 3) := by decide +kernel
theorem dX11_gone_76 : decode cX11_gone 76 = .ok (.getfield 104, 3) := by decide +kernel
theorem dX11_gone_79 : decode cX11_gone 79 = .ok (.iload_n 1, 1) := by decide +kernel
theorem dX11_gone_80 : decode cX11_gone 80 = .ok (.iaload, 1) := by decide +kernel
theorem dX11_gone_81 : decode cX11_gone 81 = .ok (.ifCond .ne 13, 3) := by decide +kernel
theorem dX11_gone_84 : decode cX11_gone 84 = .ok (.aload_n 0, 1) := by decide +kernel
theorem dX11_gone_85 : decode cX11_gone 85 = .ok (.getfield 56, 3) := by decide +kernel
theorem dX11_gone_88 : decode cX11_gone 88 = .ok (.getfield 156, 3) := by decide +kernel
theorem dX11_gone_91 : decode cX11_gone 91 = .ok (.goto 5, 3) := by decide +kernel
theorem dX11_gone_94 : decode cX11_gone 94 = .ok (.bipush (-3), 2) := by decide +kernel
theorem dX11_gone_96 : decode cX11_gone 96 = .ok (.istore_n 2, 1) := by decide +kernel
theorem dX11_gone_97 : decode cX11_gone 97 = .ok (.aload_n 0, 1) := by decide +kernel
theorem dX11_gone_98 : decode cX11_gone 98 = .ok (.getfield 56, 3) := by decide +kernel
theorem dX11_gone_101 : decode cX11_gone 101 = .ok (.iconst 0, 1) := by decide +kernel
theorem dX11_gone_102 : decode cX11_gone 102 = .ok (.invokevirtual 218, 3) := by decide +kernel
theorem dX11_gone_105 : decode cX11_gone 105 = .ok (.iload_n 2, 1) := by decide +kernel
theorem dX11_gone_106 : decode cX11_gone 106 = .ok (.ireturn, 1) := by decide +kernel
theorem dX11_halt_0 : decode cX11_halt 0 = .ok (.aload_n 0, 1) := by decide +kernel
theorem dX11_halt_1 : decode cX11_halt 1 = .ok (.getfield 56, 3) := by decide +kernel
theorem dX11_halt_4 : decode cX11_halt 4 = .ok (.invokevirtual 168, 3) := by decide +kernel
theorem dX11_halt_7 : decode cX11_halt 7 = .ok (.ifCond .eq 6, 3) := by decide +kernel
theorem dX11_halt_10 : decode cX11_halt 10 = .ok (.bipush (-4), 2) := by decide +kernel
theorem dX11_halt_12 : decode cX11_halt 12 = .ok (.ireturn, 1) := by decide +kernel
theorem dX11_halt_13 : decode cX11_halt 13 = .ok (.aload_n 0, 1) := by decide +kernel
theorem dX11_halt_14 : decode cX11_halt 14 = .ok (.aload_n 0, 1) := by decide +kernel
theorem dX11_halt_15 : decode cX11_halt 15 = .ok (.getfield 56, 3) := by decide +kernel
theorem dX11_halt_18 : decode cX11_halt 18 = .ok (.aload_n 0, 1) := by decide +kernel
theorem dX11_halt_19 : decode cX11_halt 19 = .ok (.getfield 56, 3) := by decide +kernel
theorem dX11_halt_22 : decode cX11_halt 22 = .ok (.invokevirtual 203, 3) := by decide +kernel
theorem dX11_halt_25 : decode cX11_halt 25 = .ok (.invokevirtual 206, 3) := by decide +kernel
theorem dX11_halt_28 : decode cX11_halt 28 = .ok (.invokevirtual 209, 3) := by decide +kernel
theorem dX11_halt_31 : decode cX11_halt 31 = .ok (.ireturn, 1) := by decide +kernel
theorem dX11_holdsKey_0 : decode cX11_holdsKey 0 = .ok (.aload_n 0, 1) := by decide +kernel
theorem dX11_holdsKey_1 : decode cX11_holdsKey 1 = .ok (.getfield 24, 3) := by decide +kernel
theorem dX11_holdsKey_4 : decode cX11_holdsKey 4 = .ok (.iload_n 1, 1) := by decide +kernel
theorem dX11_holdsKey_5 : decode cX11_holdsKey 5 = .ok (.iaload, 1) := by decide +kernel
theorem dX11_holdsKey_6 : decode cX11_holdsKey 6 = .ok (.ifCond .ne 23, 3) := by decide +kernel
theorem dX11_holdsKey_9 : decode cX11_holdsKey 9 = .ok (.aload_n 0, 1) := by decide +kernel
theorem dX11_holdsKey_10 : decode cX11_holdsKey 10 = .ok (.getfield 56, 3) := by decide +kernel
theorem dX11_holdsKey_13 : decode cX11_holdsKey 13 = .ok (.aload_n 0, 1) := by decide +kernel
theorem dX11_holdsKey_14 : decode cX11_holdsKey 14 = .ok (.getfield 27, 3) := by decide +kernel
theorem dX11_holdsKey_17 : decode cX11_holdsKey 17 = .ok (.iload_n 1, 1) := by decide +kernel
theorem dX11_holdsKey_18 : decode cX11_holdsKey 18 = .ok (.iaload, 1) := by decide +kernel
theorem dX11_holdsKey_19 : decode cX11_holdsKey 19 = .ok (.invokevirtual 113, 3) := by decide +kernel
theorem dX11_holdsKey_22 : decode cX11_holdsKey 22 = .ok (.ifCond .eq 7, 3) := by decide +kernel
theorem dX11_holdsKey_25 : decode cX11_holdsKey 25 = .ok (.iconst 1, 1) := by decide +kernel
theorem dX11_holdsKey_26 : decode cX11_holdsKey 26 = .ok (.goto 4, 3) := by decide +kernel
theorem dX11_holdsKey_29 : decode cX11_holdsKey 29 = .ok (.iconst 0, 1) := by decide +kernel
theorem dX11_holdsKey_30 : decode cX11_holdsKey 30 = .ok (.ireturn, 1) := by decide +kernel
theorem dX11_isKeySet_0 : decode cX11_isKeySet 0 = .ok (.iload_n 1, 1) := by decide +kernel
theorem dX11_isKeySet_1 : decode cX11_isKeySet 1 = .ok (.iconst 0, 1) := by decide +kernel
theorem dX11_isKeySet_2 : decode cX11_isKeySet 2 = .ok (.iconst 1, 1) := by decide +kernel
theorem dX11_isKeySet_3 : decode cX11_isKeySet 3 = .ok (.aload_n 0, 1) := by decide +kernel
theorem dX11_isKeySet_4 : decode cX11_isKeySet 4 = .ok (.getfield 56, 3) := by decide +kernel
theorem dX11_isKeySet_7 : decode cX11_isKeySet 7 = .ok (.getfield 97, 3) := by decide +kernel
theorem dX11_isKeySet_10 : decode cX11_isKeySet 10 = .ok (.ishl, 1) := by decide +kernel
theorem dX11_isKeySet_11 : decode cX11_isKeySet 11 = .ok (.iconst 1, 1) := by decide +kernel
theorem dX11_isKeySet_12 : decode cX11_isKeySet 12 = .ok (.isub, 1) := by decide +kernel
theorem dX11_isKeySet_13 : decode cX11_isKeySet 13 = .ok (.invokestatic 90, 3) := by decide +kernel
theorem dX11_isKeySet_16 : decode cX11_isKeySet 16 = .ok (.ireturn, 1) := by decide +kernel
theorem dX11_isRowField_0 : decode cX11_isRowField 0 = .ok (.iload_n 1, 1) := by decide +kernel
theorem dX11_isRowField_1 : decode cX11_isRowField 1 = .ok (.iconst 0, 1) := by decide +kernel
theorem dX11_isRowField_2 : decode cX11_isRowField 2 = .ok (.aload_n 0, 1) := by decide +kernel
theorem dX11_isRowField_3 : decode cX11_isRowField 3 = .ok (.getfield 307, 3) := by decide +kernel
theorem dX11_isRowField_6 : decode cX11_isRowField 6 = .ok (.iconst 1, 1) := by decide +kernel
theorem dX11_isRowField_7 : decode cX11_isRowField 7 = .ok (.isub, 1) := by decide +kernel
theorem dX11_isRowField_8 : decode cX11_isRowField 8 = .ok (.invokestatic 90, 3) := by decide +kernel
theorem dX11_isRowField_11 : decode cX11_isRowField 11 = .ok (.ifCond .eq 16, 3) := by decide +kernel
theorem dX11_isRowField_14 : decode cX11_isRowField 14 = .ok (.iload_n 2, 1) := by decide +kernel
theorem dX11_isRowField_15 : decode cX11_isRowField 15 = .ok (.iconst 0, 1) := by decide +kernel
theorem dX11_isRowField_16 : decode cX11_isRowField 16 = .ok (.iconst 2, 1) := by decide +kernel
theorem dX11_isRowField_17 : decode cX11_isRowField 17 = .ok (.invokestatic 90, 3) := by decide +kernel
theorem dX11_isRowField_20 : decode cX11_isRowField 20 = .ok (.ifCond .eq 7, 3) := by decide +kernel
theorem dX11_isRowField_23 : decode cX11_isRowField 23 = .ok (.iconst 1, 1) := by decide +kernel
theorem dX11_isRowField_24 : decode cX11_isRowField 24 = .ok (.goto 4, 3) := by decide +kernel
theorem dX11_isRowField_27 : decode cX11_isRowField 27 = .ok (.iconst 0, 1) := by decide +kernel
theorem dX11_isRowField_28 : decode cX11_isRowField 28 = .ok (.ireturn, 1) := by decide +kernel
theorem dX11_item_0 : decode cX11_item 0 = .ok (.iload_n 1, 1) := by decide +kernel
theorem dX11_item_1 : decode cX11_item 1 = .ok (.invokestatic 319, 3) := by decide +kernel
theorem dX11_item_4 : decode cX11_item 4 = .ok (.ifCond .eq 12, 3) := by decide +kernel
theorem dX11_item_7 : decode cX11_item 7 = .ok (.iload_n 2, 1) := by decide +kernel
theorem dX11_item_8 : decode cX11_item 8 = .ok (.iconst 0, 1) := by decide +kernel
theorem dX11_item_9 : decode cX11_item 9 = .ok (.iconst 4, 1) := by decide +kernel
theorem dX11_item_10 : decode cX11_item 10 = .ok (.invokestatic 90, 3) := by decide +kernel
theorem dX11_item_13 : decode cX11_item 13 = .ok (.ifCond .ne 5, 3) := by decide +kernel
theorem dX11_item_16 : decode cX11_item 16 = .ok (.iconst (-1), 1) := by decide +kernel
theorem dX11_item_17 : decode cX11_item 17 = .ok (.ireturn, 1) := by decide +kernel
theorem dX11_item_18 : decode cX11_item 18 = .ok (.aload_n 0, 1) := by decide +kernel
theorem dX11_item_19 : decode cX11_item 19 = .ok (.iload_n 1, 1) := by decide +kernel
theorem dX11_item_20 : decode cX11_item 20 = .ok (.iload_n 2, 1) := by decide +kernel
theorem dX11_item_21 : decode cX11_item 21 = .ok (.invokevirtual 328, 3) := by decide +kernel
theorem dX11_item_24 : decode cX11_item 24 = .ok (.istore 4, 2) := by decide +kernel
theorem dX11_item_26 : decode cX11_item 26 = .ok (.iload 4, 2) := by decide +kernel
theorem dX11_item_28 : decode cX11_item 28 = .ok (.ifCond .eq 6, 3) := by decide +kernel
theorem dX11_item_31 : decode cX11_item 31 = .ok (.iload 4, 2) := by decide +kernel
theorem dX11_item_33 : decode cX11_item 33 = .ok (.ireturn, 1) := by decide +kernel
theorem dX11_item_34 : decode cX11_item 34 = .ok (.aload_n 0, 1) := by decide +kernel
theorem dX11_item_35 : decode cX11_item 35 = .ok (.iload_n 1, 1) := by decide +kernel
theorem dX11_item_36 : decode cX11_item 36 = .ok (.iload_n 3, 1) := by decide +kernel
theorem dX11_item_37 : decode cX11_item 37 = .ok (.invokevirtual 322, 3) := by decide +kernel
theorem dX11_item_40 : decode cX11_item 40 = .ok (.ifCond .eq 14, 3) := by decide +kernel
theorem dX11_item_43 : decode cX11_item 43 = .ok (.aload_n 0, 1) := by decide +kernel
theorem dX11_item_44 : decode cX11_item 44 = .ok (.getfield 21, 3) := by decide +kernel
theorem dX11_item_47 : decode cX11_item 47 = .ok (.iload_n 1, 1) := by decide +kernel
theorem dX11_item_48 : decode cX11_item 48 = .ok (.aaload, 1) := by decide +kernel
theorem dX11_item_49 : decode cX11_item 49 = .ok (.iload_n 3, 1) := by decide +kernel
theorem dX11_item_50 : decode cX11_item 50 = .ok (.iaload, 1) := by decide +kernel
theorem dX11_item_51 : decode cX11_item 51 = .ok (.goto 5, 3) := by decide +kernel
theorem dX11_item_54 : decode cX11_item 54 = .ok (.bipush (-12), 2) := by decide +kernel
theorem dX11_item_56 : decode cX11_item 56 = .ok (.ireturn, 1) := by decide +kernel
theorem dX11_ith_0 : decode cX11_ith 0 = .ok (.iload_n 1, 1) := by decide +kernel
theorem dX11_ith_1 : decode cX11_ith 1 = .ok (.invokestatic 238, 3) := by decide +kernel
theorem dX11_ith_4 : decode cX11_ith 4 = .ok (.ifCond .eq 12, 3) := by decide +kernel
theorem dX11_ith_7 : decode cX11_ith 7 = .ok (.iload_n 2, 1) := by decide +kernel
theorem dX11_ith_8 : decode cX11_ith 8 = .ok (.iconst 0, 1) := by decide +kernel
theorem dX11_ith_9 : decode cX11_ith 9 = .ok (.iconst 3, 1) := by decide +kernel
theorem dX11_ith_10 : decode cX11_ith 10 = .ok (.invokestatic 90, 3) := by decide +kernel
theorem dX11_ith_13 : decode cX11_ith 13 = .ok (.ifCond .ne 5, 3) := by decide +kernel
theorem dX11_ith_16 : decode cX11_ith 16 = .ok (.iconst (-1), 1) := by decide +kernel
theorem dX11_ith_17 : decode cX11_ith 17 = .ok (.ireturn, 1) := by decide +kernel
theorem dX11_ith_18 : decode cX11_ith 18 = .ok (.iload_n 2, 1) := by decide +kernel
theorem dX11_ith_19 : decode cX11_ith 19 = .ok (.aload_n 0, 1) := by decide +kernel
theorem dX11_ith_20 : decode cX11_ith 20 = .ok (.getfield 56, 3) := by decide +kernel
theorem dX11_ith_23 : decode cX11_ith 23 = .ok (.iload_n 1, 1) := by decide +kernel
theorem dX11_ith_24 : decode cX11_ith 24 = .ok (.invokevirtual 248, 3) := by decide +kernel
theorem dX11_ith_27 : decode cX11_ith 27 = .ok (.if_icmp .lt 6, 3) := by decide +kernel
theorem dX11_ith_30 : decode cX11_ith 30 = .ok (.bipush (-3), 2) := by decide +kernel
theorem dX11_ith_32 : decode cX11_ith 32 = .ok (.ireturn, 1) := by decide +kernel
theorem dX11_ith_33 : decode cX11_ith 33 = .ok (.aload_n 0, 1) := by decide +kernel
theorem dX11_ith_34 : decode cX11_ith 34 = .ok (.getfield 68, 3) := by decide +kernel
theorem dX11_ith_37 : decode cX11_ith 37 = .ok (.iconst 0, 1) := by decide +kernel
theorem dX11_ith_38 : decode cX11_ith 38 = .ok (.iload_n 1, 1) := by decide +kernel
theorem dX11_ith_39 : decode cX11_ith 39 = .ok (.invokevirtual 241, 3) := by decide +kernel
theorem dX11_ith_42 : decode cX11_ith 42 = .ok (.aload_n 0, 1) := by decide +kernel
theorem dX11_ith_43 : decode cX11_ith 43 = .ok (.getfield 68, 3) := by decide +kernel
theorem dX11_ith_46 : decode cX11_ith 46 = .ok (.getfield 251, 3) := by decide +kernel
theorem dX11_ith_49 : decode cX11_ith 49 = .ok (.iconst 0, 1) := by decide +kernel
theorem dX11_ith_50 : decode cX11_ith 50 = .ok (.iaload, 1) := by decide +kernel
theorem dX11_ith_51 : decode cX11_ith 51 = .ok (.iconst 3, 1) := by decide +kernel
theorem dX11_ith_52 : decode cX11_ith 52 = .ok (.iload_n 2, 1) := by decide +kernel
theorem dX11_ith_53 : decode cX11_ith 53 = .ok (.imul, 1) := by decide +kernel
theorem dX11_ith_54 : decode cX11_ith 54 = .ok (.ishr, 1) := by decide +kernel
theorem dX11_ith_55 : decode cX11_ith 55 = .ok (.bipush 7, 2) := by decide +kernel
theorem dX11_ith_57 : decode cX11_ith 57 = .ok (.iand, 1) := by decide +kernel
theorem dX11_ith_58 : decode cX11_ith 58 = .ok (.ireturn, 1) := by decide +kernel
theorem dX11_judge_0 : decode cX11_judge 0 = .ok (.iconst 0, 1) := by decide +kernel
theorem dX11_judge_1 : decode cX11_judge 1 = .ok (.istore_n 1, 1) := by decide +kernel
theorem dX11_judge_2 : decode cX11_judge 2 = .ok (.aload_n 0, 1) := by decide +kernel
theorem dX11_judge_3 : decode cX11_judge 3 = .ok (.getfield 56, 3) := by decide +kernel
theorem dX11_judge_6 : decode cX11_judge 6 = .ok (.iconst 0, 1) := by decide +kernel
theorem dX11_judge_7 : decode cX11_judge 7 = .ok (.invokevirtual 212, 3) := by decide +kernel
theorem dX11_judge_10 : decode cX11_judge 10 = .ok (.iconst 0, 1) := by decide +kernel
theorem dX11_judge_11 : decode cX11_judge 11 = .ok (.istore_n 2, 1) := by decide +kernel
theorem dX11_judge_12 : decode cX11_judge 12 = .ok (.iload_n 2, 1) := by decide +kernel
theorem dX11_judge_13 : decode cX11_judge 13 = .ok (.aload_n 0, 1) := by decide +kernel
theorem dX11_judge_14 : decode cX11_judge 14 = .ok (.getfield 307, 3) := by decide +kernel
theorem dX11_judge_17 : decode cX11_judge 17 = .ok (.if_icmp .ge 27, 3) := by decide +kernel
theorem dX11_judge_20 : decode cX11_judge 20 = .ok (.iload_n 1, 1) := by decide +kernel
theorem dX11_judge_21 : decode cX11_judge 21 = .ok (.ifCond .ne 23, 3) := by decide +kernel
theorem dX11_judge_24 : decode cX11_judge 24 = .ok (.aload_n 0, 1) := by decide +kernel
theorem dX11_judge_25 : decode cX11_judge 25 = .ok (.iload_n 2, 1) := by decide +kernel
theorem dX11_judge_26 : decode cX11_judge 26 = .ok (.iconst 3, 1) := by decide +kernel
theorem dX11_judge_27 : decode cX11_judge 27 = .ok (.imul, 1) := by decide +kernel
theorem dX11_judge_28 : decode cX11_judge 28 = .ok (.invokevirtual 313, 3) := by decide +kernel
theorem dX11_judge_31 : decode cX11_judge 31 = .ok (.ifCond .ne 7, 3) := by decide +kernel
theorem dX11_judge_34 : decode cX11_judge 34 = .ok (.iload_n 2, 1) := by decide +kernel
theorem dX11_judge_35 : decode cX11_judge 35 = .ok (.iconst 1, 1) := by decide +kernel
theorem dX11_judge_36 : decode cX11_judge 36 = .ok (.iadd, 1) := by decide +kernel
theorem dX11_judge_37 : decode cX11_judge 37 = .ok (.istore_n 1, 1) := by decide +kernel
theorem dX11_judge_38 : decode cX11_judge 38 = .ok (.iinc 2 1, 3) := by decide +kernel
theorem dX11_judge_41 : decode cX11_judge 41 = .ok (.goto (-29), 3) := by decide +kernel
theorem dX11_judge_44 : decode cX11_judge 44 = .ok (.aload_n 0, 1) := by decide +kernel
theorem dX11_judge_45 : decode cX11_judge 45 = .ok (.getfield 56, 3) := by decide +kernel
theorem dX11_judge_48 : decode cX11_judge 48 = .ok (.iconst 0, 1) := by decide +kernel
theorem dX11_judge_49 : decode cX11_judge 49 = .ok (.invokevirtual 218, 3) := by decide +kernel
theorem dX11_judge_52 : decode cX11_judge 52 = .ok (.iload_n 1, 1) := by decide +kernel
theorem dX11_judge_53 : decode cX11_judge 53 = .ok (.ireturn, 1) := by decide +kernel
theorem dX11_keep_0 : decode cX11_keep 0 = .ok (.aload_n 0, 1) := by decide +kernel
theorem dX11_keep_1 : decode cX11_keep 1 = .ok (.getfield 60, 3) := by decide +kernel
theorem dX11_keep_4 : decode cX11_keep 4 = .ok (.aload_n 0, 1) := by decide +kernel
theorem dX11_keep_5 : decode cX11_keep 5 = .ok (.getfield 56, 3) := by decide +kernel
theorem dX11_keep_8 : decode cX11_keep 8 = .ok (.invokevirtual 368, 3) := by decide +kernel
theorem dX11_keep_11 : decode cX11_keep 11 = .ok (.aload_n 0, 1) := by decide +kernel
theorem dX11_keep_12 : decode cX11_keep 12 = .ok (.iconst 1, 1) := by decide +kernel
theorem dX11_keep_13 : decode cX11_keep 13 = .ok (.putfield 370, 3) := by decide +kernel
theorem dX11_keep_16 : decode cX11_keep 16 = .ok (.iconst 1, 1) := by decide +kernel
theorem dX11_keep_17 : decode cX11_keep 17 = .ok (.ireturn, 1) := by decide +kernel
theorem dX11_key_0 : decode cX11_key 0 = .ok (.iload_n 1, 1) := by decide +kernel
theorem dX11_key_1 : decode cX11_key 1 = .ok (.invokestatic 86, 3) := by decide +kernel
theorem dX11_key_4 : decode cX11_key 4 = .ok (.ifCond .eq 31, 3) := by decide +kernel
theorem dX11_key_7 : decode cX11_key 7 = .ok (.iload_n 2, 1) := by decide +kernel
theorem dX11_key_8 : decode cX11_key 8 = .ok (.iconst 0, 1) := by decide +kernel
theorem dX11_key_9 : decode cX11_key 9 = .ok (.bipush 99, 2) := by decide +kernel
theorem dX11_key_11 : decode cX11_key 11 = .ok (.invokestatic 90, 3) := by decide +kernel
theorem dX11_key_14 : decode cX11_key 14 = .ok (.ifCond .eq 21, 3) := by decide +kernel
theorem dX11_key_17 : decode cX11_key 17 = .ok (.iload_n 3, 1) := by decide +kernel
theorem dX11_key_18 : decode cX11_key 18 = .ok (.iconst 0, 1) := by decide +kernel
theorem dX11_key_19 : decode cX11_key 19 = .ok (.bipush 9, 2) := by decide +kernel
theorem dX11_key_21 : decode cX11_key 21 = .ok (.invokestatic 90, 3) := by decide +kernel
theorem dX11_key_24 : decode cX11_key 24 = .ok (.ifCond .eq 11, 3) := by decide +kernel
theorem dX11_key_27 : decode cX11_key 27 = .ok (.iload 4, 2) := by decide +kernel
theorem dX11_key_29 : decode cX11_key 29 = .ok (.invokestatic 94, 3) := by decide +kernel
theorem dX11_key_32 : decode cX11_key 32 = .ok (.ifCond .ne 5, 3) := by decide +kernel
theorem dX11_key_35 : decode cX11_key 35 = .ok (.iconst (-1), 1) := by decide +kernel
theorem dX11_key_36 : decode cX11_key 36 = .ok (.ireturn, 1) := by decide +kernel
theorem dX11_key_37 : decode cX11_key 37 = .ok (.aload_n 0, 1) := by decide +kernel
theorem dX11_key_38 : decode cX11_key 38 = .ok (.getfield 56, 3) := by decide +kernel
theorem dX11_key_41 : decode cX11_key 41 = .ok (.getfield 97, 3) := by decide +kernel
theorem dX11_key_44 : decode cX11_key 44 = .ok (.bipush 6, 2) := by decide +kernel
theorem dX11_key_46 : decode cX11_key 46 = .ok (.if_icmp .lt 6, 3) := by decide +kernel
theorem dX11_key_49 : decode cX11_key 49 = .ok (.bipush (-2), 2) := by decide +kernel
theorem dX11_key_51 : decode cX11_key 51 = .ok (.ireturn, 1) := by decide +kernel
theorem dX11_key_52 : decode cX11_key 52 = .ok (.aload_n 0, 1) := by decide +kernel
theorem dX11_key_53 : decode cX11_key 53 = .ok (.getfield 56, 3) := by decide +kernel
theorem dX11_key_56 : decode cX11_key 56 = .ok (.getfield 97, 3) := by decide +kernel
theorem dX11_key_59 : decode cX11_key 59 = .ok (.istore 5, 2) := by decide +kernel
theorem dX11_key_61 : decode cX11_key 61 = .ok (.aload_n 0, 1) := by decide +kernel
theorem dX11_key_62 : decode cX11_key 62 = .ok (.getfield 56, 3) := by decide +kernel
theorem dX11_key_65 : decode cX11_key 65 = .ok (.getfield 101, 3) := by decide +kernel
theorem dX11_key_68 : decode cX11_key 68 = .ok (.iload 5, 2) := by decide +kernel
theorem dX11_key_70 : decode cX11_key 70 = .ok (.iload_n 1, 1) := by decide +kernel
theorem dX11_key_71 : decode cX11_key 71 = .ok (.iastore, 1) := by decide +kernel
theorem dX11_key_72 : decode cX11_key 72 = .ok (.aload_n 0, 1) := by decide +kernel
theorem dX11_key_73 : decode cX11_key 73 = .ok (.getfield 56, 3) := by decide +kernel
theorem dX11_key_76 : decode cX11_key 76 = .ok (.getfield 104, 3) := by decide +kernel
theorem dX11_key_79 : decode cX11_key 79 = .ok (.iload 5, 2) := by decide +kernel
theorem dX11_key_81 : decode cX11_key 81 = .ok (.iload_n 2, 1) := by decide +kernel
theorem dX11_key_82 : decode cX11_key 82 = .ok (.iastore, 1) := by decide +kernel
theorem dX11_key_83 : decode cX11_key 83 = .ok (.aload_n 0, 1) := by decide +kernel
theorem dX11_key_84 : decode cX11_key 84 = .ok (.getfield 56, 3) := by decide +kernel
theorem dX11_key_87 : decode cX11_key 87 = .ok (.getfield 107, 3) := by decide +kernel
theorem dX11_key_90 : decode cX11_key 90 = .ok (.iload 5, 2) := by decide +kernel
theorem dX11_key_92 : decode cX11_key 92 = .ok (.iload_n 3, 1) := by decide +kernel
theorem dX11_key_93 : decode cX11_key 93 = .ok (.iastore, 1) := by decide +kernel
theorem dX11_key_94 : decode cX11_key 94 = .ok (.aload_n 0, 1) := by decide +kernel
theorem dX11_key_95 : decode cX11_key 95 = .ok (.getfield 56, 3) := by decide +kernel
theorem dX11_key_98 : decode cX11_key 98 = .ok (.getfield 110, 3) := by decide +kernel
theorem dX11_key_101 : decode cX11_key 101 = .ok (.iload 5, 2) := by decide +kernel
theorem dX11_key_103 : decode cX11_key 103 = .ok (.iload 4, 2) := by decide +kernel
theorem dX11_key_105 : decode cX11_key 105 = .ok (.iastore, 1) := by decide +kernel
theorem dX11_key_106 : decode cX11_key 106 = .ok (.aload_n 0, 1) := by decide +kernel
theorem dX11_key_107 : decode cX11_key 107 = .ok (.getfield 56, 3) := by decide +kernel
theorem dX11_key_110 : decode cX11_key 110 = .ok (.iload 5, 2) := by decide +kernel
theorem dX11_key_112 : decode cX11_key 112 = .ok (.iconst 1, 1) := by decide +kernel
theorem dX11_key_113 : decode cX11_key 113 = .ok (.iadd, 1) := by decide +kernel
theorem dX11_key_114 : decode cX11_key 114 = .ok (.putfield 97, 3) := by decide +kernel
theorem dX11_key_117 : decode cX11_key 117 = .ok (.iload 5, 2) := by decide +kernel
theorem dX11_key_119 : decode cX11_key 119 = .ok (.ireturn, 1) := by decide +kernel
theorem dX11_keyOf_0 : decode cX11_keyOf 0 = .ok (.aload_n 0, 1) := by decide +kernel
theorem dX11_keyOf_1 : decode cX11_keyOf 1 = .ok (.getfield 56, 3) := by decide +kernel
theorem dX11_keyOf_4 : decode cX11_keyOf 4 = .ok (.iload_n 1, 1) := by decide +kernel
theorem dX11_keyOf_5 : decode cX11_keyOf 5 = .ok (.invokevirtual 113, 3) := by decide +kernel
theorem dX11_keyOf_8 : decode cX11_keyOf 8 = .ok (.ifCond .ne 5, 3) := by decide +kernel
theorem dX11_keyOf_11 : decode cX11_keyOf 11 = .ok (.iconst (-1), 1) := by decide +kernel
theorem dX11_keyOf_12 : decode cX11_keyOf 12 = .ok (.ireturn, 1) := by decide +kernel
theorem dX11_keyOf_13 : decode cX11_keyOf 13 = .ok (.iload_n 2, 1) := by decide +kernel
theorem dX11_keyOf_14 : decode cX11_keyOf 14 = .ok (.tableswitch 164 0 9 #[54, 64, 74, 84, 94, 111, 120, 129, 138, 155], 54) := by decide +kernel
theorem dX11_keyOf_68 : decode cX11_keyOf 68 = .ok (.aload_n 0, 1) := by decide +kernel
theorem dX11_keyOf_69 : decode cX11_keyOf 69 = .ok (.getfield 56, 3) := by decide +kernel
theorem dX11_keyOf_72 : decode cX11_keyOf 72 = .ok (.getfield 101, 3) := by decide +kernel
theorem dX11_keyOf_75 : decode cX11_keyOf 75 = .ok (.iload_n 1, 1) := by decide +kernel
theorem dX11_keyOf_76 : decode cX11_keyOf 76 = .ok (.iaload, 1) := by decide +kernel
theorem dX11_keyOf_77 : decode cX11_keyOf 77 = .ok (.ireturn, 1) := by decide +kernel
theorem dX11_keyOf_78 : decode cX11_keyOf 78 = .ok (.aload_n 0, 1) := by decide +kernel
theorem dX11_keyOf_79 : decode cX11_keyOf 79 = .ok (.getfield 56, 3) := by decide +kernel
theorem dX11_keyOf_82 : decode cX11_keyOf 82 = .ok (.getfield 104, 3) := by decide +kernel
theorem dX11_keyOf_85 : decode cX11_keyOf 85 = .ok (.iload_n 1, 1) := by decide +kernel
theorem dX11_keyOf_86 : decode cX11_keyOf 86 = .ok (.iaload, 1) := by decide +kernel
theorem dX11_keyOf_87 : decode cX11_keyOf 87 = .ok (.ireturn, 1) := by decide +kernel
theorem dX11_keyOf_88 : decode cX11_keyOf 88 = .ok (.aload_n 0, 1) := by decide +kernel
theorem dX11_keyOf_89 : decode cX11_keyOf 89 = .ok (.getfield 56, 3) := by decide +kernel
theorem dX11_keyOf_92 : decode cX11_keyOf 92 = .ok (.getfield 107, 3) := by decide +kernel
theorem dX11_keyOf_95 : decode cX11_keyOf 95 = .ok (.iload_n 1, 1) := by decide +kernel
theorem dX11_keyOf_96 : decode cX11_keyOf 96 = .ok (.iaload, 1) := by decide +kernel
theorem dX11_keyOf_97 : decode cX11_keyOf 97 = .ok (.ireturn, 1) := by decide +kernel
theorem dX11_keyOf_98 : decode cX11_keyOf 98 = .ok (.aload_n 0, 1) := by decide +kernel
theorem dX11_keyOf_99 : decode cX11_keyOf 99 = .ok (.getfield 56, 3) := by decide +kernel
theorem dX11_keyOf_102 : decode cX11_keyOf 102 = .ok (.getfield 110, 3) := by decide +kernel
theorem dX11_keyOf_105 : decode cX11_keyOf 105 = .ok (.iload_n 1, 1) := by decide +kernel
theorem dX11_keyOf_106 : decode cX11_keyOf 106 = .ok (.iaload, 1) := by decide +kernel
theorem dX11_keyOf_107 : decode cX11_keyOf 107 = .ok (.ireturn, 1) := by decide +kernel
theorem dX11_keyOf_108 : decode cX11_keyOf 108 = .ok (.aload_n 0, 1) := by decide +kernel
theorem dX11_keyOf_109 : decode cX11_keyOf 109 = .ok (.getfield 56, 3) := by decide +kernel
theorem dX11_keyOf_112 : decode cX11_keyOf 112 = .ok (.iload_n 1, 1) := by decide +kernel
theorem dX11_keyOf_113 : decode cX11_keyOf 113 = .ok (.invokevirtual 116, 3) := by decide +kernel
theorem dX11_keyOf_116 : decode cX11_keyOf 116 = .ok (.ifCond .eq 7, 3) := by decide +kernel
theorem dX11_keyOf_119 : decode cX11_keyOf 119 = .ok (.iconst 1, 1) := by decide +kernel
theorem dX11_keyOf_120 : decode cX11_keyOf 120 = .ok (.goto 4, 3) := by decide +kernel
theorem dX11_keyOf_123 : decode cX11_keyOf 123 = .ok (.iconst 0, 1) := by decide +kernel
theorem dX11_keyOf_124 : decode cX11_keyOf 124 = .ok (.ireturn, 1) := by decide +kernel
theorem dX11_keyOf_125 : decode cX11_keyOf 125 = .ok (.aload_n 0, 1) := by decide +kernel
theorem dX11_keyOf_126 : decode cX11_keyOf 126 = .ok (.getfield 56, 3) := by decide +kernel
theorem dX11_keyOf_129 : decode cX11_keyOf 129 = .ok (.iload_n 1, 1) := by decide +kernel
theorem dX11_keyOf_130 : decode cX11_keyOf 130 = .ok (.invokevirtual 119, 3) := by decide +kernel
theorem dX11_keyOf_133 : decode cX11_keyOf 133 = .ok (.ireturn, 1) := by decide +kernel
theorem dX11_keyOf_134 : decode cX11_keyOf 134 = .ok (.aload_n 0, 1) := by decide +kernel
theorem dX11_keyOf_135 : decode cX11_keyOf 135 = .ok (.getfield 56, 3) := by decide +kernel
theorem dX11_keyOf_138 : decode cX11_keyOf 138 = .ok (.iload_n 1, 1) := by decide +kernel
theorem dX11_keyOf_139 : decode cX11_keyOf 139 = .ok (.invokevirtual 123, 3) := by decide +kernel
theorem dX11_keyOf_142 : decode cX11_keyOf 142 = .ok (.ireturn, 1) := by decide +kernel
theorem dX11_keyOf_143 : decode cX11_keyOf 143 = .ok (.aload_n 0, 1) := by decide +kernel
theorem dX11_keyOf_144 : decode cX11_keyOf 144 = .ok (.getfield 56, 3) := by decide +kernel
theorem dX11_keyOf_147 : decode cX11_keyOf 147 = .ok (.iload_n 1, 1) := by decide +kernel
theorem dX11_keyOf_148 : decode cX11_keyOf 148 = .ok (.invokevirtual 126, 3) := by decide +kernel
theorem dX11_keyOf_151 : decode cX11_keyOf 151 = .ok (.ireturn, 1) := by decide +kernel
theorem dX11_keyOf_152 : decode cX11_keyOf 152 = .ok (.aload_n 0, 1) := by decide +kernel
theorem dX11_keyOf_153 : decode cX11_keyOf 153 = .ok (.getfield 56, 3) := by decide +kernel
theorem dX11_keyOf_156 : decode cX11_keyOf 156 = .ok (.iload_n 1, 1) := by decide +kernel
theorem dX11_keyOf_157 : decode cX11_keyOf 157 = .ok (.invokevirtual 129, 3) := by decide +kernel
theorem dX11_keyOf_160 : decode cX11_keyOf 160 = .ok (.ifCond .eq 7, 3) := by decide +kernel
theorem dX11_keyOf_163 : decode cX11_keyOf 163 = .ok (.iconst 1, 1) := by decide +kernel
theorem dX11_keyOf_164 : decode cX11_keyOf 164 = .ok (.goto 4, 3) := by decide +kernel
theorem dX11_keyOf_167 : decode cX11_keyOf 167 = .ok (.iconst 0, 1) := by decide +kernel
theorem dX11_keyOf_168 : decode cX11_keyOf 168 = .ok (.ireturn, 1) := by decide +kernel
theorem dX11_keyOf_169 : decode cX11_keyOf 169 = .ok (.aload_n 0, 1) := by decide +kernel
theorem dX11_keyOf_170 : decode cX11_keyOf 170 = .ok (.getfield 56, 3) := by decide +kernel
theorem dX11_keyOf_173 : decode cX11_keyOf 173 = .ok (.iload_n 1, 1) := by decide +kernel
theorem dX11_keyOf_174 : decode cX11_keyOf 174 = .ok (.invokevirtual 132, 3) := by decide +kernel
theorem dX11_keyOf_177 : decode cX11_keyOf 177 = .ok (.ireturn, 1) := by decide +kernel
theorem dX11_keyOf_178 : decode cX11_keyOf 178 = .ok (.iconst (-1), 1) := by decide +kernel
theorem dX11_keyOf_179 : decode cX11_keyOf 179 = .ok (.ireturn, 1) := by decide +kernel
theorem dX11_leastOf_0 : decode cX11_leastOf 0 = .ok (.iload_n 0, 1) := by decide +kernel
theorem dX11_leastOf_1 : decode cX11_leastOf 1 = .ok (.iload_n 0, 1) := by decide +kernel
theorem dX11_leastOf_2 : decode cX11_leastOf 2 = .ok (.ineg, 1) := by decide +kernel
theorem dX11_leastOf_3 : decode cX11_leastOf 3 = .ok (.iand, 1) := by decide +kernel
theorem dX11_leastOf_4 : decode cX11_leastOf 4 = .ok (.iconst 1, 1) := by decide +kernel
theorem dX11_leastOf_5 : decode cX11_leastOf 5 = .ok (.isub, 1) := by decide +kernel
theorem dX11_leastOf_6 : decode cX11_leastOf 6 = .ok (.invokestatic 288, 3) := by decide +kernel
theorem dX11_leastOf_9 : decode cX11_leastOf 9 = .ok (.ireturn, 1) := by decide +kernel
theorem dX11_left_0 : decode cX11_left 0 = .ok (.iload_n 1, 1) := by decide +kernel
theorem dX11_left_1 : decode cX11_left 1 = .ok (.iconst 0, 1) := by decide +kernel
theorem dX11_left_2 : decode cX11_left 2 = .ok (.bipush 16, 2) := by decide +kernel
theorem dX11_left_4 : decode cX11_left 4 = .ok (.invokestatic 90, 3) := by decide +kernel
theorem dX11_left_7 : decode cX11_left 7 = .ok (.ifCond .eq 12, 3) := by decide +kernel
theorem dX11_left_10 : decode cX11_left 10 = .ok (.iload_n 2, 1) := by decide +kernel
theorem dX11_left_11 : decode cX11_left 11 = .ok (.iconst 0, 1) := by decide +kernel
theorem dX11_left_12 : decode cX11_left 12 = .ok (.iconst 1, 1) := by decide +kernel
theorem dX11_left_13 : decode cX11_left 13 = .ok (.invokestatic 90, 3) := by decide +kernel
theorem dX11_left_16 : decode cX11_left 16 = .ok (.ifCond .ne 5, 3) := by decide +kernel
theorem dX11_left_19 : decode cX11_left 19 = .ok (.iconst (-1), 1) := by decide +kernel
theorem dX11_left_20 : decode cX11_left 20 = .ok (.ireturn, 1) := by decide +kernel
theorem dX11_left_21 : decode cX11_left 21 = .ok (.aload_n 0, 1) := by decide +kernel
theorem dX11_left_22 : decode cX11_left 22 = .ok (.getfield 56, 3) := by decide +kernel
theorem dX11_left_25 : decode cX11_left 25 = .ok (.iconst 0, 1) := by decide +kernel
theorem dX11_left_26 : decode cX11_left 26 = .ok (.invokevirtual 212, 3) := by decide +kernel
theorem dX11_left_29 : decode cX11_left 29 = .ok (.aload_n 0, 1) := by decide +kernel
theorem dX11_left_30 : decode cX11_left 30 = .ok (.getfield 56, 3) := by decide +kernel
theorem dX11_left_33 : decode cX11_left 33 = .ok (.iload_n 1, 1) := by decide +kernel
theorem dX11_left_34 : decode cX11_left 34 = .ok (.invokevirtual 215, 3) := by decide +kernel
theorem dX11_left_37 : decode cX11_left 37 = .ok (.pop, 1) := by decide +kernel
theorem dX11_left_38 : decode cX11_left 38 = .ok (.iload_n 2, 1) := by decide +kernel
theorem dX11_left_39 : decode cX11_left 39 = .ok (.ifCond .ne 13, 3) := by decide +kernel
theorem dX11_left_42 : decode cX11_left 42 = .ok (.aload_n 0, 1) := by decide +kernel
theorem dX11_left_43 : decode cX11_left 43 = .ok (.getfield 56, 3) := by decide +kernel
theorem dX11_left_46 : decode cX11_left 46 = .ok (.invokevirtual 175, 3) := by decide +kernel
theorem dX11_left_49 : decode cX11_left 49 = .ok (.goto 10, 3) := by decide +kernel
theorem dX11_left_52 : decode cX11_left 52 = .ok (.aload_n 0, 1) := by decide +kernel
theorem dX11_left_53 : decode cX11_left 53 = .ok (.getfield 56, 3) := by decide +kernel
theorem dX11_left_56 : decode cX11_left 56 = .ok (.getfield 165, 3) := by decide +kernel
theorem dX11_left_59 : decode cX11_left 59 = .ok (.istore_n 3, 1) := by decide +kernel
theorem dX11_left_60 : decode cX11_left 60 = .ok (.aload_n 0, 1) := by decide +kernel
theorem dX11_left_61 : decode cX11_left 61 = .ok (.getfield 56, 3) := by decide +kernel
theorem dX11_left_64 : decode cX11_left 64 = .ok (.iconst 0, 1) := by decide +kernel
theorem dX11_left_65 : decode cX11_left 65 = .ok (.invokevirtual 218, 3) := by decide +kernel
theorem dX11_left_68 : decode cX11_left 68 = .ok (.iload_n 3, 1) := by decide +kernel
theorem dX11_left_69 : decode cX11_left 69 = .ok (.ireturn, 1) := by decide +kernel
theorem dX11_liar_0 : decode cX11_liar 0 = .ok (.bipush 6, 2) := by decide +kernel
theorem dX11_liar_2 : decode cX11_liar 2 = .ok (.istore_n 1, 1) := by decide +kernel
theorem dX11_liar_3 : decode cX11_liar 3 = .ok (.iconst 0, 1) := by decide +kernel
theorem dX11_liar_4 : decode cX11_liar 4 = .ok (.istore_n 2, 1) := by decide +kernel
theorem dX11_liar_5 : decode cX11_liar 5 = .ok (.iload_n 2, 1) := by decide +kernel
theorem dX11_liar_6 : decode cX11_liar 6 = .ok (.sipush 500, 3) := by decide +kernel
theorem dX11_liar_9 : decode cX11_liar 9 = .ok (.if_icmp .ge 53, 3) := by decide +kernel
theorem dX11_liar_12 : decode cX11_liar 12 = .ok (.aload_n 0, 1) := by decide +kernel
theorem dX11_liar_13 : decode cX11_liar 13 = .ok (.getfield 56, 3) := by decide +kernel
theorem dX11_liar_16 : decode cX11_liar 16 = .ok (.iload_n 2, 1) := by decide +kernel
theorem dX11_liar_17 : decode cX11_liar 17 = .ok (.invokestatic 276, 3) := by decide +kernel
theorem dX11_liar_20 : decode cX11_liar 20 = .ok (.iload_n 2, 1) := by decide +kernel
theorem dX11_liar_21 : decode cX11_liar 21 = .ok (.invokestatic 279, 3) := by decide +kernel
theorem dX11_liar_24 : decode cX11_liar 24 = .ok (.iload_n 2, 1) := by decide +kernel
theorem dX11_liar_25 : decode cX11_liar 25 = .ok (.invokestatic 282, 3) := by decide +kernel
theorem dX11_liar_28 : decode cX11_liar 28 = .ok (.invokevirtual 285, 3) := by decide +kernel
theorem dX11_liar_31 : decode cX11_liar 31 = .ok (.istore_n 3, 1) := by decide +kernel
theorem dX11_liar_32 : decode cX11_liar 32 = .ok (.iload_n 3, 1) := by decide +kernel
theorem dX11_liar_33 : decode cX11_liar 33 = .ok (.ifCond .ne 6, 3) := by decide +kernel
theorem dX11_liar_36 : decode cX11_liar 36 = .ok (.bipush (-3), 2) := by decide +kernel
theorem dX11_liar_38 : decode cX11_liar 38 = .ok (.ireturn, 1) := by decide +kernel
theorem dX11_liar_39 : decode cX11_liar 39 = .ok (.iload_n 3, 1) := by decide +kernel
theorem dX11_liar_40 : decode cX11_liar 40 = .ok (.invokestatic 288, 3) := by decide +kernel
theorem dX11_liar_43 : decode cX11_liar 43 = .ok (.iconst 1, 1) := by decide +kernel
theorem dX11_liar_44 : decode cX11_liar 44 = .ok (.if_icmp .ne 12, 3) := by decide +kernel
theorem dX11_liar_47 : decode cX11_liar 47 = .ok (.iload_n 1, 1) := by decide +kernel
theorem dX11_liar_48 : decode cX11_liar 48 = .ok (.iload_n 3, 1) := by decide +kernel
theorem dX11_liar_49 : decode cX11_liar 49 = .ok (.invokestatic 235, 3) := by decide +kernel
theorem dX11_liar_52 : decode cX11_liar 52 = .ok (.invokestatic 293, 3) := by decide +kernel
theorem dX11_liar_55 : decode cX11_liar 55 = .ok (.istore_n 1, 1) := by decide +kernel
theorem dX11_liar_56 : decode cX11_liar 56 = .ok (.iinc 2 1, 3) := by decide +kernel
theorem dX11_liar_59 : decode cX11_liar 59 = .ok (.goto (-54), 3) := by decide +kernel
theorem dX11_liar_62 : decode cX11_liar 62 = .ok (.iload_n 1, 1) := by decide +kernel
theorem dX11_liar_63 : decode cX11_liar 63 = .ok (.bipush 6, 2) := by decide +kernel
theorem dX11_liar_65 : decode cX11_liar 65 = .ok (.if_icmp .ge 7, 3) := by decide +kernel
theorem dX11_liar_68 : decode cX11_liar 68 = .ok (.iload_n 1, 1) := by decide +kernel
theorem dX11_liar_69 : decode cX11_liar 69 = .ok (.goto 5, 3) := by decide +kernel
theorem dX11_liar_72 : decode cX11_liar 72 = .ok (.bipush (-3), 2) := by decide +kernel
theorem dX11_liar_74 : decode cX11_liar 74 = .ok (.ireturn, 1) := by decide +kernel
theorem dX11_lone_0 : decode cX11_lone 0 = .ok (.iload_n 1, 1) := by decide +kernel
theorem dX11_lone_1 : decode cX11_lone 1 = .ok (.iconst 0, 1) := by decide +kernel
theorem dX11_lone_2 : decode cX11_lone 2 = .ok (.iconst 3, 1) := by decide +kernel
theorem dX11_lone_3 : decode cX11_lone 3 = .ok (.invokestatic 90, 3) := by decide +kernel
theorem dX11_lone_6 : decode cX11_lone 6 = .ok (.ifCond .ne 5, 3) := by decide +kernel
theorem dX11_lone_9 : decode cX11_lone 9 = .ok (.iconst (-1), 1) := by decide +kernel
theorem dX11_lone_10 : decode cX11_lone 10 = .ok (.ireturn, 1) := by decide +kernel
theorem dX11_lone_11 : decode cX11_lone 11 = .ok (.iconst 0, 1) := by decide +kernel
theorem dX11_lone_12 : decode cX11_lone 12 = .ok (.istore_n 2, 1) := by decide +kernel
theorem dX11_lone_13 : decode cX11_lone 13 = .ok (.iconst 0, 1) := by decide +kernel
theorem dX11_lone_14 : decode cX11_lone 14 = .ok (.istore_n 3, 1) := by decide +kernel
theorem dX11_lone_15 : decode cX11_lone 15 = .ok (.iload_n 3, 1) := by decide +kernel
theorem dX11_lone_16 : decode cX11_lone 16 = .ok (.sipush 500, 3) := by decide +kernel
theorem dX11_lone_19 : decode cX11_lone 19 = .ok (.if_icmp .ge 67, 3) := by decide +kernel
theorem dX11_lone_22 : decode cX11_lone 22 = .ok (.aload_n 0, 1) := by decide +kernel
theorem dX11_lone_23 : decode cX11_lone 23 = .ok (.getfield 56, 3) := by decide +kernel
theorem dX11_lone_26 : decode cX11_lone 26 = .ok (.iload_n 3, 1) := by decide +kernel
theorem dX11_lone_27 : decode cX11_lone 27 = .ok (.invokestatic 276, 3) := by decide +kernel
theorem dX11_lone_30 : decode cX11_lone 30 = .ok (.iload_n 3, 1) := by decide +kernel
theorem dX11_lone_31 : decode cX11_lone 31 = .ok (.invokestatic 279, 3) := by decide +kernel
theorem dX11_lone_34 : decode cX11_lone 34 = .ok (.iload_n 3, 1) := by decide +kernel
theorem dX11_lone_35 : decode cX11_lone 35 = .ok (.invokestatic 282, 3) := by decide +kernel
theorem dX11_lone_38 : decode cX11_lone 38 = .ok (.invokevirtual 285, 3) := by decide +kernel
theorem dX11_lone_41 : decode cX11_lone 41 = .ok (.ifCond .ne 39, 3) := by decide +kernel
theorem dX11_lone_44 : decode cX11_lone 44 = .ok (.iload_n 1, 1) := by decide +kernel
theorem dX11_lone_45 : decode cX11_lone 45 = .ok (.ifCond .eq 32, 3) := by decide +kernel
theorem dX11_lone_48 : decode cX11_lone 48 = .ok (.iload_n 1, 1) := by decide +kernel
theorem dX11_lone_49 : decode cX11_lone 49 = .ok (.iconst 1, 1) := by decide +kernel
theorem dX11_lone_50 : decode cX11_lone 50 = .ok (.if_icmp .ne 10, 3) := by decide +kernel
theorem dX11_lone_53 : decode cX11_lone 53 = .ok (.iload_n 3, 1) := by decide +kernel
theorem dX11_lone_54 : decode cX11_lone 54 = .ok (.invokestatic 276, 3) := by decide +kernel
theorem dX11_lone_57 : decode cX11_lone 57 = .ok (.goto 19, 3) := by decide +kernel
theorem dX11_lone_60 : decode cX11_lone 60 = .ok (.iload_n 1, 1) := by decide +kernel
theorem dX11_lone_61 : decode cX11_lone 61 = .ok (.iconst 2, 1) := by decide +kernel
theorem dX11_lone_62 : decode cX11_lone 62 = .ok (.if_icmp .ne 10, 3) := by decide +kernel
theorem dX11_lone_65 : decode cX11_lone 65 = .ok (.iload_n 3, 1) := by decide +kernel
theorem dX11_lone_66 : decode cX11_lone 66 = .ok (.invokestatic 279, 3) := by decide +kernel
theorem dX11_lone_69 : decode cX11_lone 69 = .ok (.goto 7, 3) := by decide +kernel
theorem dX11_lone_72 : decode cX11_lone 72 = .ok (.iload_n 3, 1) := by decide +kernel
theorem dX11_lone_73 : decode cX11_lone 73 = .ok (.invokestatic 282, 3) := by decide +kernel
theorem dX11_lone_76 : decode cX11_lone 76 = .ok (.ireturn, 1) := by decide +kernel
theorem dX11_lone_77 : decode cX11_lone 77 = .ok (.iinc 2 1, 3) := by decide +kernel
theorem dX11_lone_80 : decode cX11_lone 80 = .ok (.iinc 3 1, 3) := by decide +kernel
theorem dX11_lone_83 : decode cX11_lone 83 = .ok (.goto (-68), 3) := by decide +kernel
theorem dX11_lone_86 : decode cX11_lone 86 = .ok (.iload_n 1, 1) := by decide +kernel
theorem dX11_lone_87 : decode cX11_lone 87 = .ok (.ifCond .ne 7, 3) := by decide +kernel
theorem dX11_lone_90 : decode cX11_lone 90 = .ok (.iload_n 2, 1) := by decide +kernel
theorem dX11_lone_91 : decode cX11_lone 91 = .ok (.goto 5, 3) := by decide +kernel
theorem dX11_lone_94 : decode cX11_lone 94 = .ok (.bipush (-3), 2) := by decide +kernel
theorem dX11_lone_96 : decode cX11_lone 96 = .ok (.ireturn, 1) := by decide +kernel
theorem dX11_loneKind_0 : decode cX11_loneKind 0 = .ok (.iconst 1, 1) := by decide +kernel
theorem dX11_loneKind_1 : decode cX11_loneKind 1 = .ok (.iload_n 0, 1) := by decide +kernel
theorem dX11_loneKind_2 : decode cX11_loneKind 2 = .ok (.bipush 100, 2) := by decide +kernel
theorem dX11_loneKind_4 : decode cX11_loneKind 4 = .ok (.idiv, 1) := by decide +kernel
theorem dX11_loneKind_5 : decode cX11_loneKind 5 = .ok (.iadd, 1) := by decide +kernel
theorem dX11_loneKind_6 : decode cX11_loneKind 6 = .ok (.ireturn, 1) := by decide +kernel
theorem dX11_loneStraw_0 : decode cX11_loneStraw 0 = .ok (.iload_n 0, 1) := by decide +kernel
theorem dX11_loneStraw_1 : decode cX11_loneStraw 1 = .ok (.bipush 10, 2) := by decide +kernel
theorem dX11_loneStraw_3 : decode cX11_loneStraw 3 = .ok (.idiv, 1) := by decide +kernel
theorem dX11_loneStraw_4 : decode cX11_loneStraw 4 = .ok (.bipush 10, 2) := by decide +kernel
theorem dX11_loneStraw_6 : decode cX11_loneStraw 6 = .ok (.irem, 1) := by decide +kernel
theorem dX11_loneStraw_7 : decode cX11_loneStraw 7 = .ok (.ireturn, 1) := by decide +kernel
theorem dX11_loneTeeth_0 : decode cX11_loneTeeth 0 = .ok (.bipush 9, 2) := by decide +kernel
theorem dX11_loneTeeth_2 : decode cX11_loneTeeth 2 = .ok (.bipush 10, 2) := by decide +kernel
theorem dX11_loneTeeth_4 : decode cX11_loneTeeth 4 = .ok (.iload_n 0, 1) := by decide +kernel
theorem dX11_loneTeeth_5 : decode cX11_loneTeeth 5 = .ok (.bipush 10, 2) := by decide +kernel
theorem dX11_loneTeeth_7 : decode cX11_loneTeeth 7 = .ok (.irem, 1) := by decide +kernel
theorem dX11_loneTeeth_8 : decode cX11_loneTeeth 8 = .ok (.imul, 1) := by decide +kernel
theorem dX11_loneTeeth_9 : decode cX11_loneTeeth 9 = .ok (.iadd, 1) := by decide +kernel
theorem dX11_loneTeeth_10 : decode cX11_loneTeeth 10 = .ok (.ireturn, 1) := by decide +kernel
theorem dX11_lot_0 : decode cX11_lot 0 = .ok (.aload_n 0, 1) := by decide +kernel
theorem dX11_lot_1 : decode cX11_lot 1 = .ok (.getfield 56, 3) := by decide +kernel
theorem dX11_lot_4 : decode cX11_lot 4 = .ok (.invokevirtual 168, 3) := by decide +kernel
theorem dX11_lot_7 : decode cX11_lot 7 = .ok (.ifCond .eq 6, 3) := by decide +kernel
theorem dX11_lot_10 : decode cX11_lot 10 = .ok (.bipush (-4), 2) := by decide +kernel
theorem dX11_lot_12 : decode cX11_lot 12 = .ok (.ireturn, 1) := by decide +kernel
theorem dX11_lot_13 : decode cX11_lot 13 = .ok (.aload_n 0, 1) := by decide +kernel
theorem dX11_lot_14 : decode cX11_lot 14 = .ok (.aload_n 0, 1) := by decide +kernel
theorem dX11_lot_15 : decode cX11_lot 15 = .ok (.getfield 56, 3) := by decide +kernel
theorem dX11_lot_18 : decode cX11_lot 18 = .ok (.aload_n 0, 1) := by decide +kernel
theorem dX11_lot_19 : decode cX11_lot 19 = .ok (.getfield 56, 3) := by decide +kernel
theorem dX11_lot_22 : decode cX11_lot 22 = .ok (.invokevirtual 301, 3) := by decide +kernel
theorem dX11_lot_25 : decode cX11_lot 25 = .ok (.invokevirtual 206, 3) := by decide +kernel
theorem dX11_lot_28 : decode cX11_lot 28 = .ok (.invokevirtual 209, 3) := by decide +kernel
theorem dX11_lot_31 : decode cX11_lot 31 = .ok (.ireturn, 1) := by decide +kernel
theorem dX11_many_0 : decode cX11_many 0 = .ok (.iload_n 1, 1) := by decide +kernel
theorem dX11_many_1 : decode cX11_many 1 = .ok (.tableswitch 102 0 6 #[43, 51, 62, 73, 81, 86, 94], 43) := by decide +kernel
theorem dX11_many_44 : decode cX11_many 44 = .ok (.aload_n 0, 1) := by decide +kernel
theorem dX11_many_45 : decode cX11_many 45 = .ok (.getfield 56, 3) := by decide +kernel
theorem dX11_many_48 : decode cX11_many 48 = .ok (.getfield 97, 3) := by decide +kernel
theorem dX11_many_51 : decode cX11_many 51 = .ok (.ireturn, 1) := by decide +kernel
theorem dX11_many_52 : decode cX11_many 52 = .ok (.aload_n 0, 1) := by decide +kernel
theorem dX11_many_53 : decode cX11_many 53 = .ok (.getfield 56, 3) := by decide +kernel
theorem dX11_many_56 : decode cX11_many 56 = .ok (.getfield 189, 3) := by decide +kernel
theorem dX11_many_59 : decode cX11_many 59 = .ok (.getfield 202, 3) := by decide +kernel
theorem dX11_many_62 : decode cX11_many 62 = .ok (.ireturn, 1) := by decide +kernel
theorem dX11_many_63 : decode cX11_many 63 = .ok (.aload_n 0, 1) := by decide +kernel
theorem dX11_many_64 : decode cX11_many 64 = .ok (.getfield 56, 3) := by decide +kernel
theorem dX11_many_67 : decode cX11_many 67 = .ok (.getfield 165, 3) := by decide +kernel
theorem dX11_many_70 : decode cX11_many 70 = .ok (.invokestatic 288, 3) := by decide +kernel
theorem dX11_many_73 : decode cX11_many 73 = .ok (.ireturn, 1) := by decide +kernel
theorem dX11_many_74 : decode cX11_many 74 = .ok (.aload_n 0, 1) := by decide +kernel
theorem dX11_many_75 : decode cX11_many 75 = .ok (.getfield 56, 3) := by decide +kernel
theorem dX11_many_78 : decode cX11_many 78 = .ok (.getfield 270, 3) := by decide +kernel
theorem dX11_many_81 : decode cX11_many 81 = .ok (.ireturn, 1) := by decide +kernel
theorem dX11_many_82 : decode cX11_many 82 = .ok (.aload_n 0, 1) := by decide +kernel
theorem dX11_many_83 : decode cX11_many 83 = .ok (.getfield 307, 3) := by decide +kernel
theorem dX11_many_86 : decode cX11_many 86 = .ok (.ireturn, 1) := by decide +kernel
theorem dX11_many_87 : decode cX11_many 87 = .ok (.aload_n 0, 1) := by decide +kernel
theorem dX11_many_88 : decode cX11_many 88 = .ok (.getfield 75, 3) := by decide +kernel
theorem dX11_many_91 : decode cX11_many 91 = .ok (.getfield 179, 3) := by decide +kernel
theorem dX11_many_94 : decode cX11_many 94 = .ok (.ireturn, 1) := by decide +kernel
theorem dX11_many_95 : decode cX11_many 95 = .ok (.aload_n 0, 1) := by decide +kernel
theorem dX11_many_96 : decode cX11_many 96 = .ok (.getfield 82, 3) := by decide +kernel
theorem dX11_many_99 : decode cX11_many 99 = .ok (.getfield 340, 3) := by decide +kernel
theorem dX11_many_102 : decode cX11_many 102 = .ok (.ireturn, 1) := by decide +kernel
theorem dX11_many_103 : decode cX11_many 103 = .ok (.iconst (-1), 1) := by decide +kernel
theorem dX11_many_104 : decode cX11_many 104 = .ok (.ireturn, 1) := by decide +kernel
theorem dX11_on_0 : decode cX11_on 0 = .ok (.iload_n 1, 1) := by decide +kernel
theorem dX11_on_1 : decode cX11_on 1 = .ok (.iconst 0, 1) := by decide +kernel
theorem dX11_on_2 : decode cX11_on 2 = .ok (.bipush 16, 2) := by decide +kernel
theorem dX11_on_4 : decode cX11_on 4 = .ok (.invokestatic 90, 3) := by decide +kernel
theorem dX11_on_7 : decode cX11_on 7 = .ok (.ifCond .ne 5, 3) := by decide +kernel
theorem dX11_on_10 : decode cX11_on 10 = .ok (.iconst (-1), 1) := by decide +kernel
theorem dX11_on_11 : decode cX11_on 11 = .ok (.ireturn, 1) := by decide +kernel
theorem dX11_on_12 : decode cX11_on 12 = .ok (.aload_n 0, 1) := by decide +kernel
theorem dX11_on_13 : decode cX11_on 13 = .ok (.getfield 56, 3) := by decide +kernel
theorem dX11_on_16 : decode cX11_on 16 = .ok (.iconst 0, 1) := by decide +kernel
theorem dX11_on_17 : decode cX11_on 17 = .ok (.invokevirtual 212, 3) := by decide +kernel
theorem dX11_on_20 : decode cX11_on 20 = .ok (.aload_n 0, 1) := by decide +kernel
theorem dX11_on_21 : decode cX11_on 21 = .ok (.getfield 56, 3) := by decide +kernel
theorem dX11_on_24 : decode cX11_on 24 = .ok (.iload_n 1, 1) := by decide +kernel
theorem dX11_on_25 : decode cX11_on 25 = .ok (.invokevirtual 215, 3) := by decide +kernel
theorem dX11_on_28 : decode cX11_on 28 = .ok (.istore_n 2, 1) := by decide +kernel
theorem dX11_on_29 : decode cX11_on 29 = .ok (.aload_n 0, 1) := by decide +kernel
theorem dX11_on_30 : decode cX11_on 30 = .ok (.getfield 56, 3) := by decide +kernel
theorem dX11_on_33 : decode cX11_on 33 = .ok (.iconst 0, 1) := by decide +kernel
theorem dX11_on_34 : decode cX11_on 34 = .ok (.invokevirtual 218, 3) := by decide +kernel
theorem dX11_on_37 : decode cX11_on 37 = .ok (.iload_n 2, 1) := by decide +kernel
theorem dX11_on_38 : decode cX11_on 38 = .ok (.ireturn, 1) := by decide +kernel
theorem dX11_opens_0 : decode cX11_opens 0 = .ok (.aload_n 0, 1) := by decide +kernel
theorem dX11_opens_1 : decode cX11_opens 1 = .ok (.getfield 56, 3) := by decide +kernel
theorem dX11_opens_4 : decode cX11_opens 4 = .ok (.iload_n 1, 1) := by decide +kernel
theorem dX11_opens_5 : decode cX11_opens 5 = .ok (.invokevirtual 113, 3) := by decide +kernel
theorem dX11_opens_8 : decode cX11_opens 8 = .ok (.ifCond .ne 5, 3) := by decide +kernel
theorem dX11_opens_11 : decode cX11_opens 11 = .ok (.iconst (-1), 1) := by decide +kernel
theorem dX11_opens_12 : decode cX11_opens 12 = .ok (.ireturn, 1) := by decide +kernel
theorem dX11_opens_13 : decode cX11_opens 13 = .ok (.iconst 0, 1) := by decide +kernel
theorem dX11_opens_14 : decode cX11_opens 14 = .ok (.istore_n 2, 1) := by decide +kernel
theorem dX11_opens_15 : decode cX11_opens 15 = .ok (.iconst 0, 1) := by decide +kernel
theorem dX11_opens_16 : decode cX11_opens 16 = .ok (.istore_n 3, 1) := by decide +kernel
theorem dX11_opens_17 : decode cX11_opens 17 = .ok (.iload_n 3, 1) := by decide +kernel
theorem dX11_opens_18 : decode cX11_opens 18 = .ok (.bipush 9, 2) := by decide +kernel
theorem dX11_opens_20 : decode cX11_opens 20 = .ok (.if_icmp .gt 27, 3) := by decide +kernel
theorem dX11_opens_23 : decode cX11_opens 23 = .ok (.aload_n 0, 1) := by decide +kernel
theorem dX11_opens_24 : decode cX11_opens 24 = .ok (.getfield 56, 3) := by decide +kernel
theorem dX11_opens_27 : decode cX11_opens 27 = .ok (.iload_n 1, 1) := by decide +kernel
theorem dX11_opens_28 : decode cX11_opens 28 = .ok (.iload_n 3, 1) := by decide +kernel
theorem dX11_opens_29 : decode cX11_opens 29 = .ok (.invokevirtual 225, 3) := by decide +kernel
theorem dX11_opens_32 : decode cX11_opens 32 = .ok (.ifCond .eq 9, 3) := by decide +kernel
theorem dX11_opens_35 : decode cX11_opens 35 = .ok (.iload_n 2, 1) := by decide +kernel
theorem dX11_opens_36 : decode cX11_opens 36 = .ok (.iconst 1, 1) := by decide +kernel
theorem dX11_opens_37 : decode cX11_opens 37 = .ok (.iload_n 3, 1) := by decide +kernel
theorem dX11_opens_38 : decode cX11_opens 38 = .ok (.ishl, 1) := by decide +kernel
theorem dX11_opens_39 : decode cX11_opens 39 = .ok (.ior, 1) := by decide +kernel
theorem dX11_opens_40 : decode cX11_opens 40 = .ok (.istore_n 2, 1) := by decide +kernel
theorem dX11_opens_41 : decode cX11_opens 41 = .ok (.iinc 3 1, 3) := by decide +kernel
theorem dX11_opens_44 : decode cX11_opens 44 = .ok (.goto (-27), 3) := by decide +kernel
theorem dX11_opens_47 : decode cX11_opens 47 = .ok (.iload_n 2, 1) := by decide +kernel
theorem dX11_opens_48 : decode cX11_opens 48 = .ok (.ireturn, 1) := by decide +kernel
theorem dX11_order_0 : decode cX11_order 0 = .ok (.iload_n 1, 1) := by decide +kernel
theorem dX11_order_1 : decode cX11_order 1 = .ok (.invokestatic 238, 3) := by decide +kernel
theorem dX11_order_4 : decode cX11_order 4 = .ok (.ifCond .eq 11, 3) := by decide +kernel
theorem dX11_order_7 : decode cX11_order 7 = .ok (.aload_n 0, 1) := by decide +kernel
theorem dX11_order_8 : decode cX11_order 8 = .ok (.iload_n 2, 1) := by decide +kernel
theorem dX11_order_9 : decode cX11_order 9 = .ok (.invokevirtual 257, 3) := by decide +kernel
theorem dX11_order_12 : decode cX11_order 12 = .ok (.ifCond .ne 5, 3) := by decide +kernel
theorem dX11_order_15 : decode cX11_order 15 = .ok (.iconst (-1), 1) := by decide +kernel
theorem dX11_order_16 : decode cX11_order 16 = .ok (.ireturn, 1) := by decide +kernel
theorem dX11_order_17 : decode cX11_order 17 = .ok (.aload_n 0, 1) := by decide +kernel
theorem dX11_order_18 : decode cX11_order 18 = .ok (.getfield 68, 3) := by decide +kernel
theorem dX11_order_21 : decode cX11_order 21 = .ok (.iconst 0, 1) := by decide +kernel
theorem dX11_order_22 : decode cX11_order 22 = .ok (.iload_n 1, 1) := by decide +kernel
theorem dX11_order_23 : decode cX11_order 23 = .ok (.iload_n 2, 1) := by decide +kernel
theorem dX11_order_24 : decode cX11_order 24 = .ok (.invokevirtual 260, 3) := by decide +kernel
theorem dX11_order_27 : decode cX11_order 27 = .ok (.istore_n 3, 1) := by decide +kernel
theorem dX11_order_28 : decode cX11_order 28 = .ok (.iload_n 3, 1) := by decide +kernel
theorem dX11_order_29 : decode cX11_order 29 = .ok (.iload_n 1, 1) := by decide +kernel
theorem dX11_order_30 : decode cX11_order 30 = .ok (.if_icmp .le 8, 3) := by decide +kernel
theorem dX11_order_33 : decode cX11_order 33 = .ok (.bipush (-3), 2) := by decide +kernel
theorem dX11_order_35 : decode cX11_order 35 = .ok (.goto 4, 3) := by decide +kernel
theorem dX11_order_38 : decode cX11_order 38 = .ok (.iload_n 3, 1) := by decide +kernel
theorem dX11_order_39 : decode cX11_order 39 = .ok (.ireturn, 1) := by decide +kernel
theorem dX11_play_0 : decode cX11_play 0 = .ok (.iload_n 1, 1) := by decide +kernel
theorem dX11_play_1 : decode cX11_play 1 = .ok (.iconst 1, 1) := by decide +kernel
theorem dX11_play_2 : decode cX11_play 2 = .ok (.iconst 4, 1) := by decide +kernel
theorem dX11_play_3 : decode cX11_play 3 = .ok (.invokestatic 90, 3) := by decide +kernel
theorem dX11_play_6 : decode cX11_play 6 = .ok (.ifCond .ne 5, 3) := by decide +kernel
theorem dX11_play_9 : decode cX11_play 9 = .ok (.iconst (-1), 1) := by decide +kernel
theorem dX11_play_10 : decode cX11_play 10 = .ok (.ireturn, 1) := by decide +kernel
theorem dX11_play_11 : decode cX11_play 11 = .ok (.aload_n 0, 1) := by decide +kernel
theorem dX11_play_12 : decode cX11_play 12 = .ok (.getfield 56, 3) := by decide +kernel
theorem dX11_play_15 : decode cX11_play 15 = .ok (.invokevirtual 168, 3) := by decide +kernel
theorem dX11_play_18 : decode cX11_play 18 = .ok (.ifCond .eq 6, 3) := by decide +kernel
theorem dX11_play_21 : decode cX11_play 21 = .ok (.bipush (-3), 2) := by decide +kernel
theorem dX11_play_23 : decode cX11_play 23 = .ok (.ireturn, 1) := by decide +kernel
theorem dX11_play_24 : decode cX11_play 24 = .ok (.aload_n 0, 1) := by decide +kernel
theorem dX11_play_25 : decode cX11_play 25 = .ok (.getfield 68, 3) := by decide +kernel
theorem dX11_play_28 : decode cX11_play 28 = .ok (.iconst 0, 1) := by decide +kernel
theorem dX11_play_29 : decode cX11_play 29 = .ok (.iload_n 1, 1) := by decide +kernel
theorem dX11_play_30 : decode cX11_play 30 = .ok (.invokevirtual 267, 3) := by decide +kernel
theorem dX11_play_33 : decode cX11_play 33 = .ok (.pop, 1) := by decide +kernel
theorem dX11_play_34 : decode cX11_play 34 = .ok (.aload_n 0, 1) := by decide +kernel
theorem dX11_play_35 : decode cX11_play 35 = .ok (.getfield 68, 3) := by decide +kernel
theorem dX11_play_38 : decode cX11_play 38 = .ok (.getfield 251, 3) := by decide +kernel
theorem dX11_play_41 : decode cX11_play 41 = .ok (.iconst 0, 1) := by decide +kernel
theorem dX11_play_42 : decode cX11_play 42 = .ok (.iaload, 1) := by decide +kernel
theorem dX11_play_43 : decode cX11_play 43 = .ok (.ireturn, 1) := by decide +kernel
theorem dX11_prove_0 : decode cX11_prove 0 = .ok (.iload_n 1, 1) := by decide +kernel
theorem dX11_prove_1 : decode cX11_prove 1 = .ok (.invokestatic 238, 3) := by decide +kernel
theorem dX11_prove_4 : decode cX11_prove 4 = .ok (.ifCond .ne 5, 3) := by decide +kernel
theorem dX11_prove_7 : decode cX11_prove 7 = .ok (.iconst (-1), 1) := by decide +kernel
theorem dX11_prove_8 : decode cX11_prove 8 = .ok (.ireturn, 1) := by decide +kernel
theorem dX11_prove_9 : decode cX11_prove 9 = .ok (.aload_n 0, 1) := by decide +kernel
theorem dX11_prove_10 : decode cX11_prove 10 = .ok (.getfield 68, 3) := by decide +kernel
theorem dX11_prove_13 : decode cX11_prove 13 = .ok (.iconst 0, 1) := by decide +kernel
theorem dX11_prove_14 : decode cX11_prove 14 = .ok (.iload_n 1, 1) := by decide +kernel
theorem dX11_prove_15 : decode cX11_prove 15 = .ok (.invokevirtual 241, 3) := by decide +kernel
theorem dX11_prove_18 : decode cX11_prove 18 = .ok (.aload_n 0, 1) := by decide +kernel
theorem dX11_prove_19 : decode cX11_prove 19 = .ok (.getfield 68, 3) := by decide +kernel
theorem dX11_prove_22 : decode cX11_prove 22 = .ok (.getfield 251, 3) := by decide +kernel
theorem dX11_prove_25 : decode cX11_prove 25 = .ok (.iconst 0, 1) := by decide +kernel
theorem dX11_prove_26 : decode cX11_prove 26 = .ok (.iaload, 1) := by decide +kernel
theorem dX11_prove_27 : decode cX11_prove 27 = .ok (.istore_n 2, 1) := by decide +kernel
theorem dX11_prove_28 : decode cX11_prove 28 = .ok (.aload_n 0, 1) := by decide +kernel
theorem dX11_prove_29 : decode cX11_prove 29 = .ok (.aload_n 0, 1) := by decide +kernel
theorem dX11_prove_30 : decode cX11_prove 30 = .ok (.getfield 56, 3) := by decide +kernel
theorem dX11_prove_33 : decode cX11_prove 33 = .ok (.iload_n 1, 1) := by decide +kernel
theorem dX11_prove_34 : decode cX11_prove 34 = .ok (.invokevirtual 248, 3) := by decide +kernel
theorem dX11_prove_37 : decode cX11_prove 37 = .ok (.putfield 307, 3) := by decide +kernel
theorem dX11_prove_40 : decode cX11_prove 40 = .ok (.aload_n 0, 1) := by decide +kernel
theorem dX11_prove_41 : decode cX11_prove 41 = .ok (.getfield 56, 3) := by decide +kernel
theorem dX11_prove_44 : decode cX11_prove 44 = .ok (.iconst 0, 1) := by decide +kernel
theorem dX11_prove_45 : decode cX11_prove 45 = .ok (.invokevirtual 212, 3) := by decide +kernel
theorem dX11_prove_48 : decode cX11_prove 48 = .ok (.iconst 0, 1) := by decide +kernel
theorem dX11_prove_49 : decode cX11_prove 49 = .ok (.istore_n 3, 1) := by decide +kernel
theorem dX11_prove_50 : decode cX11_prove 50 = .ok (.iload_n 3, 1) := by decide +kernel
theorem dX11_prove_51 : decode cX11_prove 51 = .ok (.aload_n 0, 1) := by decide +kernel
theorem dX11_prove_52 : decode cX11_prove 52 = .ok (.getfield 307, 3) := by decide +kernel
theorem dX11_prove_55 : decode cX11_prove 55 = .ok (.if_icmp .ge 65, 3) := by decide +kernel
theorem dX11_prove_58 : decode cX11_prove 58 = .ok (.iload_n 2, 1) := by decide +kernel
theorem dX11_prove_59 : decode cX11_prove 59 = .ok (.iconst 3, 1) := by decide +kernel
theorem dX11_prove_60 : decode cX11_prove 60 = .ok (.iload_n 3, 1) := by decide +kernel
theorem dX11_prove_61 : decode cX11_prove 61 = .ok (.imul, 1) := by decide +kernel
theorem dX11_prove_62 : decode cX11_prove 62 = .ok (.ishr, 1) := by decide +kernel
theorem dX11_prove_63 : decode cX11_prove 63 = .ok (.bipush 7, 2) := by decide +kernel
theorem dX11_prove_65 : decode cX11_prove 65 = .ok (.iand, 1) := by decide +kernel
theorem dX11_prove_66 : decode cX11_prove 66 = .ok (.istore 4, 2) := by decide +kernel
theorem dX11_prove_68 : decode cX11_prove 68 = .ok (.aload_n 0, 1) := by decide +kernel
theorem dX11_prove_69 : decode cX11_prove 69 = .ok (.getfield 9, 3) := by decide +kernel
theorem dX11_prove_72 : decode cX11_prove 72 = .ok (.iload_n 3, 1) := by decide +kernel
theorem dX11_prove_73 : decode cX11_prove 73 = .ok (.iconst 3, 1) := by decide +kernel
theorem dX11_prove_74 : decode cX11_prove 74 = .ok (.imul, 1) := by decide +kernel
theorem dX11_prove_75 : decode cX11_prove 75 = .ok (.iload 4, 2) := by decide +kernel
theorem dX11_prove_77 : decode cX11_prove 77 = .ok (.iastore, 1) := by decide +kernel
theorem dX11_prove_78 : decode cX11_prove 78 = .ok (.aload_n 0, 1) := by decide +kernel
theorem dX11_prove_79 : decode cX11_prove 79 = .ok (.getfield 9, 3) := by decide +kernel
theorem dX11_prove_82 : decode cX11_prove 82 = .ok (.iload_n 3, 1) := by decide +kernel
theorem dX11_prove_83 : decode cX11_prove 83 = .ok (.iconst 3, 1) := by decide +kernel
theorem dX11_prove_84 : decode cX11_prove 84 = .ok (.imul, 1) := by decide +kernel
theorem dX11_prove_85 : decode cX11_prove 85 = .ok (.iconst 1, 1) := by decide +kernel
theorem dX11_prove_86 : decode cX11_prove 86 = .ok (.iadd, 1) := by decide +kernel
theorem dX11_prove_87 : decode cX11_prove 87 = .ok (.aload_n 0, 1) := by decide +kernel
theorem dX11_prove_88 : decode cX11_prove 88 = .ok (.getfield 56, 3) := by decide +kernel
theorem dX11_prove_91 : decode cX11_prove 91 = .ok (.iload 4, 2) := by decide +kernel
theorem dX11_prove_93 : decode cX11_prove 93 = .ok (.invokevirtual 206, 3) := by decide +kernel
theorem dX11_prove_96 : decode cX11_prove 96 = .ok (.iastore, 1) := by decide +kernel
theorem dX11_prove_97 : decode cX11_prove 97 = .ok (.aload_n 0, 1) := by decide +kernel
theorem dX11_prove_98 : decode cX11_prove 98 = .ok (.getfield 9, 3) := by decide +kernel
theorem dX11_prove_101 : decode cX11_prove 101 = .ok (.iload_n 3, 1) := by decide +kernel
theorem dX11_prove_102 : decode cX11_prove 102 = .ok (.iconst 3, 1) := by decide +kernel
theorem dX11_prove_103 : decode cX11_prove 103 = .ok (.imul, 1) := by decide +kernel
theorem dX11_prove_104 : decode cX11_prove 104 = .ok (.iconst 2, 1) := by decide +kernel
theorem dX11_prove_105 : decode cX11_prove 105 = .ok (.iadd, 1) := by decide +kernel
theorem dX11_prove_106 : decode cX11_prove 106 = .ok (.aload_n 0, 1) := by decide +kernel
theorem dX11_prove_107 : decode cX11_prove 107 = .ok (.getfield 56, 3) := by decide +kernel
theorem dX11_prove_110 : decode cX11_prove 110 = .ok (.getfield 165, 3) := by decide +kernel
theorem dX11_prove_113 : decode cX11_prove 113 = .ok (.iastore, 1) := by decide +kernel
theorem dX11_prove_114 : decode cX11_prove 114 = .ok (.iinc 3 1, 3) := by decide +kernel
theorem dX11_prove_117 : decode cX11_prove 117 = .ok (.goto (-67), 3) := by decide +kernel
theorem dX11_prove_120 : decode cX11_prove 120 = .ok (.aload_n 0, 1) := by decide +kernel
theorem dX11_prove_121 : decode cX11_prove 121 = .ok (.getfield 56, 3) := by decide +kernel
theorem dX11_prove_124 : decode cX11_prove 124 = .ok (.iconst 0, 1) := by decide +kernel
theorem dX11_prove_125 : decode cX11_prove 125 = .ok (.invokevirtual 218, 3) := by decide +kernel
theorem dX11_prove_128 : decode cX11_prove 128 = .ok (.aload_n 0, 1) := by decide +kernel
theorem dX11_prove_129 : decode cX11_prove 129 = .ok (.getfield 307, 3) := by decide +kernel
theorem dX11_prove_132 : decode cX11_prove 132 = .ok (.ireturn, 1) := by decide +kernel
theorem dX11_put_0 : decode cX11_put 0 = .ok (.iload_n 1, 1) := by decide +kernel
theorem dX11_put_1 : decode cX11_put 1 = .ok (.iconst 0, 1) := by decide +kernel
theorem dX11_put_2 : decode cX11_put 2 = .ok (.aload_n 0, 1) := by decide +kernel
theorem dX11_put_3 : decode cX11_put 3 = .ok (.arraylength, 1) := by decide +kernel
theorem dX11_put_4 : decode cX11_put 4 = .ok (.iconst 1, 1) := by decide +kernel
theorem dX11_put_5 : decode cX11_put 5 = .ok (.isub, 1) := by decide +kernel
theorem dX11_put_6 : decode cX11_put 6 = .ok (.invokestatic 90, 3) := by decide +kernel
theorem dX11_put_9 : decode cX11_put 9 = .ok (.ifCond .eq 12, 3) := by decide +kernel
theorem dX11_put_12 : decode cX11_put 12 = .ok (.iload_n 2, 1) := by decide +kernel
theorem dX11_put_13 : decode cX11_put 13 = .ok (.iconst 0, 1) := by decide +kernel
theorem dX11_put_14 : decode cX11_put 14 = .ok (.iload_n 3, 1) := by decide +kernel
theorem dX11_put_15 : decode cX11_put 15 = .ok (.invokestatic 90, 3) := by decide +kernel
theorem dX11_put_18 : decode cX11_put 18 = .ok (.ifCond .ne 5, 3) := by decide +kernel
theorem dX11_put_21 : decode cX11_put 21 = .ok (.iconst (-1), 1) := by decide +kernel
theorem dX11_put_22 : decode cX11_put 22 = .ok (.ireturn, 1) := by decide +kernel
theorem dX11_put_23 : decode cX11_put 23 = .ok (.aload_n 0, 1) := by decide +kernel
theorem dX11_put_24 : decode cX11_put 24 = .ok (.iload_n 1, 1) := by decide +kernel
theorem dX11_put_25 : decode cX11_put 25 = .ok (.iaload, 1) := by decide +kernel
theorem dX11_put_26 : decode cX11_put 26 = .ok (.istore 4, 2) := by decide +kernel
theorem dX11_put_28 : decode cX11_put 28 = .ok (.aload_n 0, 1) := by decide +kernel
theorem dX11_put_29 : decode cX11_put 29 = .ok (.iload_n 1, 1) := by decide +kernel
theorem dX11_put_30 : decode cX11_put 30 = .ok (.iload_n 2, 1) := by decide +kernel
theorem dX11_put_31 : decode cX11_put 31 = .ok (.iastore, 1) := by decide +kernel
theorem dX11_put_32 : decode cX11_put 32 = .ok (.iload 4, 2) := by decide +kernel
theorem dX11_put_34 : decode cX11_put 34 = .ok (.ireturn, 1) := by decide +kernel
theorem dX11_refusalOf_0 : decode cX11_refusalOf 0 = .ok (.aload_n 0, 1) := by decide +kernel
theorem dX11_refusalOf_1 : decode cX11_refusalOf 1 = .ok (.getfield 13, 3) := by decide +kernel
theorem dX11_refusalOf_4 : decode cX11_refusalOf 4 = .ok (.iload_n 1, 1) := by decide +kernel
theorem dX11_refusalOf_5 : decode cX11_refusalOf 5 = .ok (.iaload, 1) := by decide +kernel
theorem dX11_refusalOf_6 : decode cX11_refusalOf 6 = .ok (.iconst (-1), 1) := by decide +kernel
theorem dX11_refusalOf_7 : decode cX11_refusalOf 7 = .ok (.if_icmp .ne 6, 3) := by decide +kernel
theorem dX11_refusalOf_10 : decode cX11_refusalOf 10 = .ok (.bipush (-11), 2) := by decide +kernel
theorem dX11_refusalOf_12 : decode cX11_refusalOf 12 = .ok (.ireturn, 1) := by decide +kernel
theorem dX11_refusalOf_13 : decode cX11_refusalOf 13 = .ok (.aload_n 0, 1) := by decide +kernel
theorem dX11_refusalOf_14 : decode cX11_refusalOf 14 = .ok (.getfield 13, 3) := by decide +kernel
theorem dX11_refusalOf_17 : decode cX11_refusalOf 17 = .ok (.iload_n 1, 1) := by decide +kernel
theorem dX11_refusalOf_18 : decode cX11_refusalOf 18 = .ok (.iaload, 1) := by decide +kernel
theorem dX11_refusalOf_19 : decode cX11_refusalOf 19 = .ok (.iload_n 2, 1) := by decide +kernel
theorem dX11_refusalOf_20 : decode cX11_refusalOf 20 = .ok (.if_icmp .ne 7, 3) := by decide +kernel
theorem dX11_refusalOf_23 : decode cX11_refusalOf 23 = .ok (.iconst 0, 1) := by decide +kernel
theorem dX11_refusalOf_24 : decode cX11_refusalOf 24 = .ok (.goto 5, 3) := by decide +kernel
theorem dX11_refusalOf_27 : decode cX11_refusalOf 27 = .ok (.bipush (-13), 2) := by decide +kernel
theorem dX11_refusalOf_29 : decode cX11_refusalOf 29 = .ok (.ireturn, 1) := by decide +kernel
theorem dX11_remake_0 : decode cX11_remake 0 = .ok (.aload_n 0, 1) := by decide +kernel
theorem dX11_remake_1 : decode cX11_remake 1 = .ok (.getfield 56, 3) := by decide +kernel
theorem dX11_remake_4 : decode cX11_remake 4 = .ok (.iload_n 1, 1) := by decide +kernel
theorem dX11_remake_5 : decode cX11_remake 5 = .ok (.invokevirtual 113, 3) := by decide +kernel
theorem dX11_remake_8 : decode cX11_remake 8 = .ok (.ifCond .eq 10, 3) := by decide +kernel
theorem dX11_remake_11 : decode cX11_remake 11 = .ok (.iload_n 2, 1) := by decide +kernel
theorem dX11_remake_12 : decode cX11_remake 12 = .ok (.invokestatic 86, 3) := by decide +kernel
theorem dX11_remake_15 : decode cX11_remake 15 = .ok (.ifCond .ne 5, 3) := by decide +kernel
theorem dX11_remake_18 : decode cX11_remake 18 = .ok (.iconst (-1), 1) := by decide +kernel
theorem dX11_remake_19 : decode cX11_remake 19 = .ok (.ireturn, 1) := by decide +kernel
theorem dX11_remake_20 : decode cX11_remake 20 = .ok (.aload_n 0, 1) := by decide +kernel
theorem dX11_remake_21 : decode cX11_remake 21 = .ok (.getfield 56, 3) := by decide +kernel
theorem dX11_remake_24 : decode cX11_remake 24 = .ok (.getfield 101, 3) := by decide +kernel
theorem dX11_remake_27 : decode cX11_remake 27 = .ok (.iload_n 1, 1) := by decide +kernel
theorem dX11_remake_28 : decode cX11_remake 28 = .ok (.iaload, 1) := by decide +kernel
theorem dX11_remake_29 : decode cX11_remake 29 = .ok (.istore_n 3, 1) := by decide +kernel
theorem dX11_remake_30 : decode cX11_remake 30 = .ok (.aload_n 0, 1) := by decide +kernel
theorem dX11_remake_31 : decode cX11_remake 31 = .ok (.getfield 56, 3) := by decide +kernel
theorem dX11_remake_34 : decode cX11_remake 34 = .ok (.getfield 101, 3) := by decide +kernel
theorem dX11_remake_37 : decode cX11_remake 37 = .ok (.iload_n 1, 1) := by decide +kernel
theorem dX11_remake_38 : decode cX11_remake 38 = .ok (.iload_n 2, 1) := by decide +kernel
theorem dX11_remake_39 : decode cX11_remake 39 = .ok (.iastore, 1) := by decide +kernel
theorem dX11_remake_40 : decode cX11_remake 40 = .ok (.iload_n 3, 1) := by decide +kernel
theorem dX11_remake_41 : decode cX11_remake 41 = .ok (.ireturn, 1) := by decide +kernel
theorem dX11_report_0 : decode cX11_report 0 = .ok (.iload_n 2, 1) := by decide +kernel
theorem dX11_report_1 : decode cX11_report 1 = .ok (.ifCond .ne 8, 3) := by decide +kernel
theorem dX11_report_4 : decode cX11_report 4 = .ok (.bipush 99, 2) := by decide +kernel
theorem dX11_report_6 : decode cX11_report 6 = .ok (.goto 5, 3) := by decide +kernel
theorem dX11_report_9 : decode cX11_report 9 = .ok (.bipush 9, 2) := by decide +kernel
theorem dX11_report_11 : decode cX11_report 11 = .ok (.istore 5, 2) := by decide +kernel
theorem dX11_report_13 : decode cX11_report 13 = .ok (.iload_n 1, 1) := by decide +kernel
theorem dX11_report_14 : decode cX11_report 14 = .ok (.iconst 0, 1) := by decide +kernel
theorem dX11_report_15 : decode cX11_report 15 = .ok (.bipush 15, 2) := by decide +kernel
theorem dX11_report_17 : decode cX11_report 17 = .ok (.invokestatic 90, 3) := by decide +kernel
theorem dX11_report_20 : decode cX11_report 20 = .ok (.ifCond .eq 33, 3) := by decide +kernel
theorem dX11_report_23 : decode cX11_report 23 = .ok (.iload_n 2, 1) := by decide +kernel
theorem dX11_report_24 : decode cX11_report 24 = .ok (.iconst 0, 1) := by decide +kernel
theorem dX11_report_25 : decode cX11_report 25 = .ok (.iconst 1, 1) := by decide +kernel
theorem dX11_report_26 : decode cX11_report 26 = .ok (.invokestatic 90, 3) := by decide +kernel
theorem dX11_report_29 : decode cX11_report 29 = .ok (.ifCond .eq 24, 3) := by decide +kernel
theorem dX11_report_32 : decode cX11_report 32 = .ok (.iload_n 3, 1) := by decide +kernel
theorem dX11_report_33 : decode cX11_report 33 = .ok (.iconst 0, 1) := by decide +kernel
theorem dX11_report_34 : decode cX11_report 34 = .ok (.iload 5, 2) := by decide +kernel
theorem dX11_report_36 : decode cX11_report 36 = .ok (.invokestatic 90, 3) := by decide +kernel
theorem dX11_report_39 : decode cX11_report 39 = .ok (.ifCond .eq 14, 3) := by decide +kernel
theorem dX11_report_42 : decode cX11_report 42 = .ok (.iload 4, 2) := by decide +kernel
theorem dX11_report_44 : decode cX11_report 44 = .ok (.iload_n 3, 1) := by decide +kernel
theorem dX11_report_45 : decode cX11_report 45 = .ok (.iload 5, 2) := by decide +kernel
theorem dX11_report_47 : decode cX11_report 47 = .ok (.invokestatic 90, 3) := by decide +kernel
theorem dX11_report_50 : decode cX11_report 50 = .ok (.ifCond .ne 5, 3) := by decide +kernel
theorem dX11_report_53 : decode cX11_report 53 = .ok (.iconst (-1), 1) := by decide +kernel
theorem dX11_report_54 : decode cX11_report 54 = .ok (.ireturn, 1) := by decide +kernel
theorem dX11_report_55 : decode cX11_report 55 = .ok (.aload_n 0, 1) := by decide +kernel
theorem dX11_report_56 : decode cX11_report 56 = .ok (.getfield 56, 3) := by decide +kernel
theorem dX11_report_59 : decode cX11_report 59 = .ok (.getfield 270, 3) := by decide +kernel
theorem dX11_report_62 : decode cX11_report 62 = .ok (.bipush 6, 2) := by decide +kernel
theorem dX11_report_64 : decode cX11_report 64 = .ok (.if_icmp .lt 6, 3) := by decide +kernel
theorem dX11_report_67 : decode cX11_report 67 = .ok (.bipush (-2), 2) := by decide +kernel
theorem dX11_report_69 : decode cX11_report 69 = .ok (.ireturn, 1) := by decide +kernel
theorem dX11_report_70 : decode cX11_report 70 = .ok (.aload_n 0, 1) := by decide +kernel
theorem dX11_report_71 : decode cX11_report 71 = .ok (.getfield 56, 3) := by decide +kernel
theorem dX11_report_74 : decode cX11_report 74 = .ok (.getfield 270, 3) := by decide +kernel
theorem dX11_report_77 : decode cX11_report 77 = .ok (.istore 6, 2) := by decide +kernel
theorem dX11_report_79 : decode cX11_report 79 = .ok (.iload 6, 2) := by decide +kernel
theorem dX11_report_81 : decode cX11_report 81 = .ok (.iconst 4, 1) := by decide +kernel
theorem dX11_report_82 : decode cX11_report 82 = .ok (.imul, 1) := by decide +kernel
theorem dX11_report_83 : decode cX11_report 83 = .ok (.istore 7, 2) := by decide +kernel
theorem dX11_report_85 : decode cX11_report 85 = .ok (.aload_n 0, 1) := by decide +kernel
theorem dX11_report_86 : decode cX11_report 86 = .ok (.getfield 56, 3) := by decide +kernel
theorem dX11_report_89 : decode cX11_report 89 = .ok (.getfield 273, 3) := by decide +kernel
theorem dX11_report_92 : decode cX11_report 92 = .ok (.iload 7, 2) := by decide +kernel
theorem dX11_report_94 : decode cX11_report 94 = .ok (.iload_n 1, 1) := by decide +kernel
theorem dX11_report_95 : decode cX11_report 95 = .ok (.iastore, 1) := by decide +kernel
theorem dX11_report_96 : decode cX11_report 96 = .ok (.aload_n 0, 1) := by decide +kernel
theorem dX11_report_97 : decode cX11_report 97 = .ok (.getfield 56, 3) := by decide +kernel
theorem dX11_report_100 : decode cX11_report 100 = .ok (.getfield 273, 3) := by decide +kernel
theorem dX11_report_103 : decode cX11_report 103 = .ok (.iload 7, 2) := by decide +kernel
theorem dX11_report_105 : decode cX11_report 105 = .ok (.iconst 1, 1) := by decide +kernel
theorem dX11_report_106 : decode cX11_report 106 = .ok (.iadd, 1) := by decide +kernel
theorem dX11_report_107 : decode cX11_report 107 = .ok (.iload_n 2, 1) := by decide +kernel
theorem dX11_report_108 : decode cX11_report 108 = .ok (.iastore, 1) := by decide +kernel
theorem dX11_report_109 : decode cX11_report 109 = .ok (.aload_n 0, 1) := by decide +kernel
theorem dX11_report_110 : decode cX11_report 110 = .ok (.getfield 56, 3) := by decide +kernel
theorem dX11_report_113 : decode cX11_report 113 = .ok (.getfield 273, 3) := by decide +kernel
theorem dX11_report_116 : decode cX11_report 116 = .ok (.iload 7, 2) := by decide +kernel
theorem dX11_report_118 : decode cX11_report 118 = .ok (.iconst 2, 1) := by decide +kernel
theorem dX11_report_119 : decode cX11_report 119 = .ok (.iadd, 1) := by decide +kernel
theorem dX11_report_120 : decode cX11_report 120 = .ok (.iload_n 3, 1) := by decide +kernel
theorem dX11_report_121 : decode cX11_report 121 = .ok (.iastore, 1) := by decide +kernel
theorem dX11_report_122 : decode cX11_report 122 = .ok (.aload_n 0, 1) := by decide +kernel
theorem dX11_report_123 : decode cX11_report 123 = .ok (.getfield 56, 3) := by decide +kernel
theorem dX11_report_126 : decode cX11_report 126 = .ok (.getfield 273, 3) := by decide +kernel
theorem dX11_report_129 : decode cX11_report 129 = .ok (.iload 7, 2) := by decide +kernel
theorem dX11_report_131 : decode cX11_report 131 = .ok (.iconst 3, 1) := by decide +kernel
theorem dX11_report_132 : decode cX11_report 132 = .ok (.iadd, 1) := by decide +kernel
theorem dX11_report_133 : decode cX11_report 133 = .ok (.iload 4, 2) := by decide +kernel
theorem dX11_report_135 : decode cX11_report 135 = .ok (.iastore, 1) := by decide +kernel
theorem dX11_report_136 : decode cX11_report 136 = .ok (.aload_n 0, 1) := by decide +kernel
theorem dX11_report_137 : decode cX11_report 137 = .ok (.getfield 56, 3) := by decide +kernel
theorem dX11_report_140 : decode cX11_report 140 = .ok (.iload 6, 2) := by decide +kernel
theorem dX11_report_142 : decode cX11_report 142 = .ok (.iconst 1, 1) := by decide +kernel
theorem dX11_report_143 : decode cX11_report 143 = .ok (.iadd, 1) := by decide +kernel
theorem dX11_report_144 : decode cX11_report 144 = .ok (.putfield 270, 3) := by decide +kernel
theorem dX11_report_147 : decode cX11_report 147 = .ok (.iload 6, 2) := by decide +kernel
theorem dX11_report_149 : decode cX11_report 149 = .ok (.ireturn, 1) := by decide +kernel
theorem dX11_row_0 : decode cX11_row 0 = .ok (.aload_n 0, 1) := by decide +kernel
theorem dX11_row_1 : decode cX11_row 1 = .ok (.iload_n 1, 1) := by decide +kernel
theorem dX11_row_2 : decode cX11_row 2 = .ok (.iload_n 2, 1) := by decide +kernel
theorem dX11_row_3 : decode cX11_row 3 = .ok (.invokevirtual 310, 3) := by decide +kernel
theorem dX11_row_6 : decode cX11_row 6 = .ok (.ifCond .eq 16, 3) := by decide +kernel
theorem dX11_row_9 : decode cX11_row 9 = .ok (.aload_n 0, 1) := by decide +kernel
theorem dX11_row_10 : decode cX11_row 10 = .ok (.getfield 9, 3) := by decide +kernel
theorem dX11_row_13 : decode cX11_row 13 = .ok (.iload_n 1, 1) := by decide +kernel
theorem dX11_row_14 : decode cX11_row 14 = .ok (.iconst 3, 1) := by decide +kernel
theorem dX11_row_15 : decode cX11_row 15 = .ok (.imul, 1) := by decide +kernel
theorem dX11_row_16 : decode cX11_row 16 = .ok (.iload_n 2, 1) := by decide +kernel
theorem dX11_row_17 : decode cX11_row 17 = .ok (.iadd, 1) := by decide +kernel
theorem dX11_row_18 : decode cX11_row 18 = .ok (.iaload, 1) := by decide +kernel
theorem dX11_row_19 : decode cX11_row 19 = .ok (.goto 5, 3) := by decide +kernel
theorem dX11_row_22 : decode cX11_row 22 = .ok (.bipush (-9), 2) := by decide +kernel
theorem dX11_row_24 : decode cX11_row 24 = .ok (.ireturn, 1) := by decide +kernel
theorem dX11_rules_0 : decode cX11_rules 0 = .ok (.aload_n 0, 1) := by decide +kernel
theorem dX11_rules_1 : decode cX11_rules 1 = .ok (.getfield 75, 3) := by decide +kernel
theorem dX11_rules_4 : decode cX11_rules 4 = .ok (.invokevirtual 186, 3) := by decide +kernel
theorem dX11_rules_7 : decode cX11_rules 7 = .ok (.istore_n 1, 1) := by decide +kernel
theorem dX11_rules_8 : decode cX11_rules 8 = .ok (.iload_n 1, 1) := by decide +kernel
theorem dX11_rules_9 : decode cX11_rules 9 = .ok (.ifCond .lt 8, 3) := by decide +kernel
theorem dX11_rules_12 : decode cX11_rules 12 = .ok (.bipush (-100), 2) := by decide +kernel
theorem dX11_rules_14 : decode cX11_rules 14 = .ok (.iload_n 1, 1) := by decide +kernel
theorem dX11_rules_15 : decode cX11_rules 15 = .ok (.isub, 1) := by decide +kernel
theorem dX11_rules_16 : decode cX11_rules 16 = .ok (.ireturn, 1) := by decide +kernel
theorem dX11_rules_17 : decode cX11_rules 17 = .ok (.aload_n 0, 1) := by decide +kernel
theorem dX11_rules_18 : decode cX11_rules 18 = .ok (.getfield 56, 3) := by decide +kernel
theorem dX11_rules_21 : decode cX11_rules 21 = .ok (.getfield 189, 3) := by decide +kernel
theorem dX11_rules_24 : decode cX11_rules 24 = .ok (.aload_n 0, 1) := by decide +kernel
theorem dX11_rules_25 : decode cX11_rules 25 = .ok (.getfield 75, 3) := by decide +kernel
theorem dX11_rules_28 : decode cX11_rules 28 = .ok (.getfield 193, 3) := by decide +kernel
theorem dX11_rules_31 : decode cX11_rules 31 = .ok (.invokevirtual 196, 3) := by decide +kernel
theorem dX11_rules_34 : decode cX11_rules 34 = .ok (.aload_n 0, 1) := by decide +kernel
theorem dX11_rules_35 : decode cX11_rules 35 = .ok (.getfield 56, 3) := by decide +kernel
theorem dX11_rules_38 : decode cX11_rules 38 = .ok (.getfield 189, 3) := by decide +kernel
theorem dX11_rules_41 : decode cX11_rules 41 = .ok (.getfield 202, 3) := by decide +kernel
theorem dX11_rules_44 : decode cX11_rules 44 = .ok (.ireturn, 1) := by decide +kernel
theorem dX11_scored_0 : decode cX11_scored 0 = .ok (.aload_n 0, 1) := by decide +kernel
theorem dX11_scored_1 : decode cX11_scored 1 = .ok (.getfield 56, 3) := by decide +kernel
theorem dX11_scored_4 : decode cX11_scored 4 = .ok (.dup, 1) := by decide +kernel
theorem dX11_scored_5 : decode cX11_scored 5 = .ok (.getfield 162, 3) := by decide +kernel
theorem dX11_scored_8 : decode cX11_scored 8 = .ok (.iload_n 1, 1) := by decide +kernel
theorem dX11_scored_9 : decode cX11_scored 9 = .ok (.iadd, 1) := by decide +kernel
theorem dX11_scored_10 : decode cX11_scored 10 = .ok (.putfield 162, 3) := by decide +kernel
theorem dX11_scored_13 : decode cX11_scored 13 = .ok (.iload_n 1, 1) := by decide +kernel
theorem dX11_scored_14 : decode cX11_scored 14 = .ok (.ireturn, 1) := by decide +kernel
theorem dX11_seed_0 : decode cX11_seed 0 = .ok (.aload_n 0, 1) := by decide +kernel
theorem dX11_seed_1 : decode cX11_seed 1 = .ok (.getfield 56, 3) := by decide +kernel
theorem dX11_seed_4 : decode cX11_seed 4 = .ok (.getfield 298, 3) := by decide +kernel
theorem dX11_seed_7 : decode cX11_seed 7 = .ok (.istore_n 2, 1) := by decide +kernel
theorem dX11_seed_8 : decode cX11_seed 8 = .ok (.aload_n 0, 1) := by decide +kernel
theorem dX11_seed_9 : decode cX11_seed 9 = .ok (.getfield 56, 3) := by decide +kernel
theorem dX11_seed_12 : decode cX11_seed 12 = .ok (.iload_n 1, 1) := by decide +kernel
theorem dX11_seed_13 : decode cX11_seed 13 = .ok (.putfield 298, 3) := by decide +kernel
theorem dX11_seed_16 : decode cX11_seed 16 = .ok (.iload_n 2, 1) := by decide +kernel
theorem dX11_seed_17 : decode cX11_seed 17 = .ok (.ireturn, 1) := by decide +kernel
theorem dX11_sheet_0 : decode cX11_sheet 0 = .ok (.iload_n 1, 1) := by decide +kernel
theorem dX11_sheet_1 : decode cX11_sheet 1 = .ok (.invokestatic 319, 3) := by decide +kernel
theorem dX11_sheet_4 : decode cX11_sheet 4 = .ok (.ifCond .eq 12, 3) := by decide +kernel
theorem dX11_sheet_7 : decode cX11_sheet 7 = .ok (.iload_n 2, 1) := by decide +kernel
theorem dX11_sheet_8 : decode cX11_sheet 8 = .ok (.iconst (-1), 1) := by decide +kernel
theorem dX11_sheet_9 : decode cX11_sheet 9 = .ok (.iconst 4, 1) := by decide +kernel
theorem dX11_sheet_10 : decode cX11_sheet 10 = .ok (.invokestatic 90, 3) := by decide +kernel
theorem dX11_sheet_13 : decode cX11_sheet 13 = .ok (.ifCond .ne 5, 3) := by decide +kernel
theorem dX11_sheet_16 : decode cX11_sheet 16 = .ok (.iconst (-1), 1) := by decide +kernel
theorem dX11_sheet_17 : decode cX11_sheet 17 = .ok (.ireturn, 1) := by decide +kernel
theorem dX11_sheet_18 : decode cX11_sheet 18 = .ok (.iload_n 2, 1) := by decide +kernel
theorem dX11_sheet_19 : decode cX11_sheet 19 = .ok (.iconst (-1), 1) := by decide +kernel
theorem dX11_sheet_20 : decode cX11_sheet 20 = .ok (.if_icmp .eq 50, 3) := by decide +kernel
theorem dX11_sheet_23 : decode cX11_sheet 23 = .ok (.iload_n 3, 1) := by decide +kernel
theorem dX11_sheet_24 : decode cX11_sheet 24 = .ok (.bipush 40, 2) := by decide +kernel
theorem dX11_sheet_26 : decode cX11_sheet 26 = .ok (.if_icmp .le 5, 3) := by decide +kernel
theorem dX11_sheet_29 : decode cX11_sheet 29 = .ok (.iconst (-1), 1) := by decide +kernel
theorem dX11_sheet_30 : decode cX11_sheet 30 = .ok (.ireturn, 1) := by decide +kernel
theorem dX11_sheet_31 : decode cX11_sheet 31 = .ok (.iload_n 3, 1) := by decide +kernel
theorem dX11_sheet_32 : decode cX11_sheet 32 = .ok (.ifCond .ge 6, 3) := by decide +kernel
theorem dX11_sheet_35 : decode cX11_sheet 35 = .ok (.bipush (-14), 2) := by decide +kernel
theorem dX11_sheet_37 : decode cX11_sheet 37 = .ok (.ireturn, 1) := by decide +kernel
theorem dX11_sheet_38 : decode cX11_sheet 38 = .ok (.aload_n 0, 1) := by decide +kernel
theorem dX11_sheet_39 : decode cX11_sheet 39 = .ok (.getfield 16, 3) := by decide +kernel
theorem dX11_sheet_42 : decode cX11_sheet 42 = .ok (.iload_n 1, 1) := by decide +kernel
theorem dX11_sheet_43 : decode cX11_sheet 43 = .ok (.iload_n 3, 1) := by decide +kernel
theorem dX11_sheet_44 : decode cX11_sheet 44 = .ok (.iastore, 1) := by decide +kernel
theorem dX11_sheet_45 : decode cX11_sheet 45 = .ok (.iconst 0, 1) := by decide +kernel
theorem dX11_sheet_46 : decode cX11_sheet 46 = .ok (.istore 4, 2) := by decide +kernel
theorem dX11_sheet_48 : decode cX11_sheet 48 = .ok (.iload 4, 2) := by decide +kernel
theorem dX11_sheet_50 : decode cX11_sheet 50 = .ok (.iload_n 3, 1) := by decide +kernel
theorem dX11_sheet_51 : decode cX11_sheet 51 = .ok (.if_icmp .ge 19, 3) := by decide +kernel
theorem dX11_sheet_54 : decode cX11_sheet 54 = .ok (.aload_n 0, 1) := by decide +kernel
theorem dX11_sheet_55 : decode cX11_sheet 55 = .ok (.getfield 21, 3) := by decide +kernel
theorem dX11_sheet_58 : decode cX11_sheet 58 = .ok (.iload_n 1, 1) := by decide +kernel
theorem dX11_sheet_59 : decode cX11_sheet 59 = .ok (.aaload, 1) := by decide +kernel
theorem dX11_sheet_60 : decode cX11_sheet 60 = .ok (.iload 4, 2) := by decide +kernel
theorem dX11_sheet_62 : decode cX11_sheet 62 = .ok (.iconst 0, 1) := by decide +kernel
theorem dX11_sheet_63 : decode cX11_sheet 63 = .ok (.iastore, 1) := by decide +kernel
theorem dX11_sheet_64 : decode cX11_sheet 64 = .ok (.iinc 4 1, 3) := by decide +kernel
theorem dX11_sheet_67 : decode cX11_sheet 67 = .ok (.goto (-19), 3) := by decide +kernel
theorem dX11_sheet_70 : decode cX11_sheet 70 = .ok (.aload_n 0, 1) := by decide +kernel
theorem dX11_sheet_71 : decode cX11_sheet 71 = .ok (.getfield 13, 3) := by decide +kernel
theorem dX11_sheet_74 : decode cX11_sheet 74 = .ok (.iload_n 1, 1) := by decide +kernel
theorem dX11_sheet_75 : decode cX11_sheet 75 = .ok (.iload_n 2, 1) := by decide +kernel
theorem dX11_sheet_76 : decode cX11_sheet 76 = .ok (.iastore, 1) := by decide +kernel
theorem dX11_sheet_77 : decode cX11_sheet 77 = .ok (.iconst 1, 1) := by decide +kernel
theorem dX11_sheet_78 : decode cX11_sheet 78 = .ok (.ireturn, 1) := by decide +kernel
theorem dX11_shelf_0 : decode cX11_shelf 0 = .ok (.iload_n 1, 1) := by decide +kernel
theorem dX11_shelf_1 : decode cX11_shelf 1 = .ok (.invokestatic 319, 3) := by decide +kernel
theorem dX11_shelf_4 : decode cX11_shelf 4 = .ok (.ifCond .eq 12, 3) := by decide +kernel
theorem dX11_shelf_7 : decode cX11_shelf 7 = .ok (.iload_n 2, 1) := by decide +kernel
theorem dX11_shelf_8 : decode cX11_shelf 8 = .ok (.iconst 0, 1) := by decide +kernel
theorem dX11_shelf_9 : decode cX11_shelf 9 = .ok (.iconst 2, 1) := by decide +kernel
theorem dX11_shelf_10 : decode cX11_shelf 10 = .ok (.invokestatic 90, 3) := by decide +kernel
theorem dX11_shelf_13 : decode cX11_shelf 13 = .ok (.ifCond .ne 5, 3) := by decide +kernel
theorem dX11_shelf_16 : decode cX11_shelf 16 = .ok (.iconst (-1), 1) := by decide +kernel
theorem dX11_shelf_17 : decode cX11_shelf 17 = .ok (.ireturn, 1) := by decide +kernel
theorem dX11_shelf_18 : decode cX11_shelf 18 = .ok (.iload_n 2, 1) := by decide +kernel
theorem dX11_shelf_19 : decode cX11_shelf 19 = .ok (.ifCond .ne 14, 3) := by decide +kernel
theorem dX11_shelf_22 : decode cX11_shelf 22 = .ok (.aload_n 0, 1) := by decide +kernel
theorem dX11_shelf_23 : decode cX11_shelf 23 = .ok (.getfield 56, 3) := by decide +kernel
theorem dX11_shelf_26 : decode cX11_shelf 26 = .ok (.iload_n 3, 1) := by decide +kernel
theorem dX11_shelf_27 : decode cX11_shelf 27 = .ok (.invokevirtual 113, 3) := by decide +kernel
theorem dX11_shelf_30 : decode cX11_shelf 30 = .ok (.ifCond .eq 15, 3) := by decide +kernel
theorem dX11_shelf_33 : decode cX11_shelf 33 = .ok (.iload_n 2, 1) := by decide +kernel
theorem dX11_shelf_34 : decode cX11_shelf 34 = .ok (.iconst 1, 1) := by decide +kernel
theorem dX11_shelf_35 : decode cX11_shelf 35 = .ok (.if_icmp .ne 12, 3) := by decide +kernel
theorem dX11_shelf_38 : decode cX11_shelf 38 = .ok (.iload_n 3, 1) := by decide +kernel
theorem dX11_shelf_39 : decode cX11_shelf 39 = .ok (.invokestatic 319, 3) := by decide +kernel
theorem dX11_shelf_42 : decode cX11_shelf 42 = .ok (.ifCond .ne 5, 3) := by decide +kernel
theorem dX11_shelf_45 : decode cX11_shelf 45 = .ok (.iconst (-1), 1) := by decide +kernel
theorem dX11_shelf_46 : decode cX11_shelf 46 = .ok (.ireturn, 1) := by decide +kernel
theorem dX11_shelf_47 : decode cX11_shelf 47 = .ok (.aload_n 0, 1) := by decide +kernel
theorem dX11_shelf_48 : decode cX11_shelf 48 = .ok (.getfield 24, 3) := by decide +kernel
theorem dX11_shelf_51 : decode cX11_shelf 51 = .ok (.iload_n 1, 1) := by decide +kernel
theorem dX11_shelf_52 : decode cX11_shelf 52 = .ok (.iload_n 2, 1) := by decide +kernel
theorem dX11_shelf_53 : decode cX11_shelf 53 = .ok (.iastore, 1) := by decide +kernel
theorem dX11_shelf_54 : decode cX11_shelf 54 = .ok (.aload_n 0, 1) := by decide +kernel
theorem dX11_shelf_55 : decode cX11_shelf 55 = .ok (.getfield 27, 3) := by decide +kernel
theorem dX11_shelf_58 : decode cX11_shelf 58 = .ok (.iload_n 1, 1) := by decide +kernel
theorem dX11_shelf_59 : decode cX11_shelf 59 = .ok (.iload_n 3, 1) := by decide +kernel
theorem dX11_shelf_60 : decode cX11_shelf 60 = .ok (.iastore, 1) := by decide +kernel
theorem dX11_shelf_61 : decode cX11_shelf 61 = .ok (.iload_n 2, 1) := by decide +kernel
theorem dX11_shelf_62 : decode cX11_shelf 62 = .ok (.iconst 1, 1) := by decide +kernel
theorem dX11_shelf_63 : decode cX11_shelf 63 = .ok (.if_icmp .ne 48, 3) := by decide +kernel
theorem dX11_shelf_66 : decode cX11_shelf 66 = .ok (.aload_n 0, 1) := by decide +kernel
theorem dX11_shelf_67 : decode cX11_shelf 67 = .ok (.getfield 24, 3) := by decide +kernel
theorem dX11_shelf_70 : decode cX11_shelf 70 = .ok (.iload_n 1, 1) := by decide +kernel
theorem dX11_shelf_71 : decode cX11_shelf 71 = .ok (.aload_n 0, 1) := by decide +kernel
theorem dX11_shelf_72 : decode cX11_shelf 72 = .ok (.getfield 13, 3) := by decide +kernel
theorem dX11_shelf_75 : decode cX11_shelf 75 = .ok (.iload_n 3, 1) := by decide +kernel
theorem dX11_shelf_76 : decode cX11_shelf 76 = .ok (.iaload, 1) := by decide +kernel
theorem dX11_shelf_77 : decode cX11_shelf 77 = .ok (.iconst (-1), 1) := by decide +kernel
theorem dX11_shelf_78 : decode cX11_shelf 78 = .ok (.if_icmp .ne 7, 3) := by decide +kernel
theorem dX11_shelf_81 : decode cX11_shelf 81 = .ok (.iconst 2, 1) := by decide +kernel
theorem dX11_shelf_82 : decode cX11_shelf 82 = .ok (.goto 4, 3) := by decide +kernel
theorem dX11_shelf_85 : decode cX11_shelf 85 = .ok (.iconst 1, 1) := by decide +kernel
theorem dX11_shelf_86 : decode cX11_shelf 86 = .ok (.iastore, 1) := by decide +kernel
theorem dX11_shelf_87 : decode cX11_shelf 87 = .ok (.aload_n 0, 1) := by decide +kernel
theorem dX11_shelf_88 : decode cX11_shelf 88 = .ok (.getfield 27, 3) := by decide +kernel
theorem dX11_shelf_91 : decode cX11_shelf 91 = .ok (.iload_n 1, 1) := by decide +kernel
theorem dX11_shelf_92 : decode cX11_shelf 92 = .ok (.aload_n 0, 1) := by decide +kernel
theorem dX11_shelf_93 : decode cX11_shelf 93 = .ok (.getfield 13, 3) := by decide +kernel
theorem dX11_shelf_96 : decode cX11_shelf 96 = .ok (.iload_n 3, 1) := by decide +kernel
theorem dX11_shelf_97 : decode cX11_shelf 97 = .ok (.iaload, 1) := by decide +kernel
theorem dX11_shelf_98 : decode cX11_shelf 98 = .ok (.iastore, 1) := by decide +kernel
theorem dX11_shelf_99 : decode cX11_shelf 99 = .ok (.aload_n 0, 1) := by decide +kernel
theorem dX11_shelf_100 : decode cX11_shelf 100 = .ok (.getfield 30, 3) := by decide +kernel
theorem dX11_shelf_103 : decode cX11_shelf 103 = .ok (.iload_n 1, 1) := by decide +kernel
theorem dX11_shelf_104 : decode cX11_shelf 104 = .ok (.aload_n 0, 1) := by decide +kernel
theorem dX11_shelf_105 : decode cX11_shelf 105 = .ok (.getfield 16, 3) := by decide +kernel
theorem dX11_shelf_108 : decode cX11_shelf 108 = .ok (.iload_n 3, 1) := by decide +kernel
theorem dX11_shelf_109 : decode cX11_shelf 109 = .ok (.iaload, 1) := by decide +kernel
theorem dX11_shelf_110 : decode cX11_shelf 110 = .ok (.iastore, 1) := by decide +kernel
theorem dX11_shelf_111 : decode cX11_shelf 111 = .ok (.iconst 1, 1) := by decide +kernel
theorem dX11_shelf_112 : decode cX11_shelf 112 = .ok (.ireturn, 1) := by decide +kernel
theorem dX11_state_0 : decode cX11_state 0 = .ok (.iload_n 1, 1) := by decide +kernel
theorem dX11_state_1 : decode cX11_state 1 = .ok (.tableswitch 114 0 6 #[43, 51, 59, 67, 83, 91, 106], 43) := by decide +kernel
theorem dX11_state_44 : decode cX11_state 44 = .ok (.aload_n 0, 1) := by decide +kernel
theorem dX11_state_45 : decode cX11_state 45 = .ok (.getfield 56, 3) := by decide +kernel
theorem dX11_state_48 : decode cX11_state 48 = .ok (.getfield 156, 3) := by decide +kernel
theorem dX11_state_51 : decode cX11_state 51 = .ok (.ireturn, 1) := by decide +kernel
theorem dX11_state_52 : decode cX11_state 52 = .ok (.aload_n 0, 1) := by decide +kernel
theorem dX11_state_53 : decode cX11_state 53 = .ok (.getfield 56, 3) := by decide +kernel
theorem dX11_state_56 : decode cX11_state 56 = .ok (.getfield 159, 3) := by decide +kernel
theorem dX11_state_59 : decode cX11_state 59 = .ok (.ireturn, 1) := by decide +kernel
theorem dX11_state_60 : decode cX11_state 60 = .ok (.aload_n 0, 1) := by decide +kernel
theorem dX11_state_61 : decode cX11_state 61 = .ok (.getfield 56, 3) := by decide +kernel
theorem dX11_state_64 : decode cX11_state 64 = .ok (.getfield 162, 3) := by decide +kernel
theorem dX11_state_67 : decode cX11_state 67 = .ok (.ireturn, 1) := by decide +kernel
theorem dX11_state_68 : decode cX11_state 68 = .ok (.aload_n 0, 1) := by decide +kernel
theorem dX11_state_69 : decode cX11_state 69 = .ok (.getfield 56, 3) := by decide +kernel
theorem dX11_state_72 : decode cX11_state 72 = .ok (.invokevirtual 168, 3) := by decide +kernel
theorem dX11_state_75 : decode cX11_state 75 = .ok (.ifCond .eq 7, 3) := by decide +kernel
theorem dX11_state_78 : decode cX11_state 78 = .ok (.iconst 1, 1) := by decide +kernel
theorem dX11_state_79 : decode cX11_state 79 = .ok (.goto 4, 3) := by decide +kernel
theorem dX11_state_82 : decode cX11_state 82 = .ok (.iconst 0, 1) := by decide +kernel
theorem dX11_state_83 : decode cX11_state 83 = .ok (.ireturn, 1) := by decide +kernel
theorem dX11_state_84 : decode cX11_state 84 = .ok (.aload_n 0, 1) := by decide +kernel
theorem dX11_state_85 : decode cX11_state 85 = .ok (.getfield 56, 3) := by decide +kernel
theorem dX11_state_88 : decode cX11_state 88 = .ok (.getfield 165, 3) := by decide +kernel
theorem dX11_state_91 : decode cX11_state 91 = .ok (.ireturn, 1) := by decide +kernel
theorem dX11_state_92 : decode cX11_state 92 = .ok (.aload_n 0, 1) := by decide +kernel
theorem dX11_state_93 : decode cX11_state 93 = .ok (.getfield 56, 3) := by decide +kernel
theorem dX11_state_96 : decode cX11_state 96 = .ok (.aload_n 0, 1) := by decide +kernel
theorem dX11_state_97 : decode cX11_state 97 = .ok (.getfield 56, 3) := by decide +kernel
theorem dX11_state_100 : decode cX11_state 100 = .ok (.getfield 156, 3) := by decide +kernel
theorem dX11_state_103 : decode cX11_state 103 = .ok (.invokevirtual 172, 3) := by decide +kernel
theorem dX11_state_106 : decode cX11_state 106 = .ok (.ireturn, 1) := by decide +kernel
theorem dX11_state_107 : decode cX11_state 107 = .ok (.aload_n 0, 1) := by decide +kernel
theorem dX11_state_108 : decode cX11_state 108 = .ok (.getfield 56, 3) := by decide +kernel
theorem dX11_state_111 : decode cX11_state 111 = .ok (.invokevirtual 175, 3) := by decide +kernel
theorem dX11_state_114 : decode cX11_state 114 = .ok (.ireturn, 1) := by decide +kernel
theorem dX11_state_115 : decode cX11_state 115 = .ok (.iconst (-1), 1) := by decide +kernel
theorem dX11_state_116 : decode cX11_state 116 = .ok (.ireturn, 1) := by decide +kernel
theorem dX11_strawFor_0 : decode cX11_strawFor 0 = .ok (.aload_n 0, 1) := by decide +kernel
theorem dX11_strawFor_1 : decode cX11_strawFor 1 = .ok (.getfield 56, 3) := by decide +kernel
theorem dX11_strawFor_4 : decode cX11_strawFor 4 = .ok (.iload_n 1, 1) := by decide +kernel
theorem dX11_strawFor_5 : decode cX11_strawFor 5 = .ok (.invokevirtual 113, 3) := by decide +kernel
theorem dX11_strawFor_8 : decode cX11_strawFor 8 = .ok (.ifCond .eq 20, 3) := by decide +kernel
theorem dX11_strawFor_11 : decode cX11_strawFor 11 = .ok (.aload_n 0, 1) := by decide +kernel
theorem dX11_strawFor_12 : decode cX11_strawFor 12 = .ok (.aload_n 0, 1) := by decide +kernel
theorem dX11_strawFor_13 : decode cX11_strawFor 13 = .ok (.getfield 56, 3) := by decide +kernel
theorem dX11_strawFor_16 : decode cX11_strawFor 16 = .ok (.getfield 107, 3) := by decide +kernel
theorem dX11_strawFor_19 : decode cX11_strawFor 19 = .ok (.iload_n 1, 1) := by decide +kernel
theorem dX11_strawFor_20 : decode cX11_strawFor 20 = .ok (.bipush 9, 2) := by decide +kernel
theorem dX11_strawFor_22 : decode cX11_strawFor 22 = .ok (.invokevirtual 221, 3) := by decide +kernel
theorem dX11_strawFor_25 : decode cX11_strawFor 25 = .ok (.goto 4, 3) := by decide +kernel
theorem dX11_strawFor_28 : decode cX11_strawFor 28 = .ok (.iconst (-1), 1) := by decide +kernel
theorem dX11_strawFor_29 : decode cX11_strawFor 29 = .ok (.ireturn, 1) := by decide +kernel
theorem dX11_sun_0 : decode cX11_sun 0 = .ok (.aload_n 0, 1) := by decide +kernel
theorem dX11_sun_1 : decode cX11_sun 1 = .ok (.getfield 56, 3) := by decide +kernel
theorem dX11_sun_4 : decode cX11_sun 4 = .ok (.getfield 147, 3) := by decide +kernel
theorem dX11_sun_7 : decode cX11_sun 7 = .ok (.iload_n 1, 1) := by decide +kernel
theorem dX11_sun_8 : decode cX11_sun 8 = .ok (.iload_n 2, 1) := by decide +kernel
theorem dX11_sun_9 : decode cX11_sun 9 = .ok (.bipush 15, 2) := by decide +kernel
theorem dX11_sun_11 : decode cX11_sun 11 = .ok (.invokestatic 135, 3) := by decide +kernel
theorem dX11_sun_14 : decode cX11_sun 14 = .ok (.ireturn, 1) := by decide +kernel
theorem dX11_taken_0 : decode cX11_taken 0 = .ok (.iload_n 2, 1) := by decide +kernel
theorem dX11_taken_1 : decode cX11_taken 1 = .ok (.iconst 0, 1) := by decide +kernel
theorem dX11_taken_2 : decode cX11_taken 2 = .ok (.iconst 5, 1) := by decide +kernel
theorem dX11_taken_3 : decode cX11_taken 3 = .ok (.invokestatic 90, 3) := by decide +kernel
theorem dX11_taken_6 : decode cX11_taken 6 = .ok (.istore_n 3, 1) := by decide +kernel
theorem dX11_taken_7 : decode cX11_taken 7 = .ok (.iload_n 1, 1) := by decide +kernel
theorem dX11_taken_8 : decode cX11_taken 8 = .ok (.invokestatic 319, 3) := by decide +kernel
theorem dX11_taken_11 : decode cX11_taken 11 = .ok (.ifCond .eq 18, 3) := by decide +kernel
theorem dX11_taken_14 : decode cX11_taken 14 = .ok (.iload_n 3, 1) := by decide +kernel
theorem dX11_taken_15 : decode cX11_taken 15 = .ok (.ifCond .ne 16, 3) := by decide +kernel
theorem dX11_taken_18 : decode cX11_taken 18 = .ok (.iload_n 2, 1) := by decide +kernel
theorem dX11_taken_19 : decode cX11_taken 19 = .ok (.bipush 10, 2) := by decide +kernel
theorem dX11_taken_21 : decode cX11_taken 21 = .ok (.bipush 14, 2) := by decide +kernel
theorem dX11_taken_23 : decode cX11_taken 23 = .ok (.invokestatic 90, 3) := by decide +kernel
theorem dX11_taken_26 : decode cX11_taken 26 = .ok (.ifCond .ne 5, 3) := by decide +kernel
theorem dX11_taken_29 : decode cX11_taken 29 = .ok (.iconst (-1), 1) := by decide +kernel
theorem dX11_taken_30 : decode cX11_taken 30 = .ok (.ireturn, 1) := by decide +kernel
theorem dX11_taken_31 : decode cX11_taken 31 = .ok (.aload_n 0, 1) := by decide +kernel
theorem dX11_taken_32 : decode cX11_taken 32 = .ok (.getfield 27, 3) := by decide +kernel
theorem dX11_taken_35 : decode cX11_taken 35 = .ok (.iload_n 1, 1) := by decide +kernel
theorem dX11_taken_36 : decode cX11_taken 36 = .ok (.iaload, 1) := by decide +kernel
theorem dX11_taken_37 : decode cX11_taken 37 = .ok (.istore 4, 2) := by decide +kernel
theorem dX11_taken_39 : decode cX11_taken 39 = .ok (.aload_n 0, 1) := by decide +kernel
theorem dX11_taken_40 : decode cX11_taken 40 = .ok (.iload_n 1, 1) := by decide +kernel
theorem dX11_taken_41 : decode cX11_taken 41 = .ok (.invokevirtual 334, 3) := by decide +kernel
theorem dX11_taken_44 : decode cX11_taken 44 = .ok (.ifCond .eq 32, 3) := by decide +kernel
theorem dX11_taken_47 : decode cX11_taken 47 = .ok (.iload_n 3, 1) := by decide +kernel
theorem dX11_taken_48 : decode cX11_taken 48 = .ok (.ifCond .eq 25, 3) := by decide +kernel
theorem dX11_taken_51 : decode cX11_taken 51 = .ok (.aload_n 0, 1) := by decide +kernel
theorem dX11_taken_52 : decode cX11_taken 52 = .ok (.getfield 56, 3) := by decide +kernel
theorem dX11_taken_55 : decode cX11_taken 55 = .ok (.getfield 101, 3) := by decide +kernel
theorem dX11_taken_58 : decode cX11_taken 58 = .ok (.iload 4, 2) := by decide +kernel
theorem dX11_taken_60 : decode cX11_taken 60 = .ok (.iaload, 1) := by decide +kernel
theorem dX11_taken_61 : decode cX11_taken 61 = .ok (.iload_n 2, 1) := by decide +kernel
theorem dX11_taken_62 : decode cX11_taken 62 = .ok (.invokestatic 337, 3) := by decide +kernel
theorem dX11_taken_65 : decode cX11_taken 65 = .ok (.ifCond .eq 8, 3) := by decide +kernel
theorem dX11_taken_68 : decode cX11_taken 68 = .ok (.iload 4, 2) := by decide +kernel
theorem dX11_taken_70 : decode cX11_taken 70 = .ok (.goto 5, 3) := by decide +kernel
theorem dX11_taken_73 : decode cX11_taken 73 = .ok (.bipush (-13), 2) := by decide +kernel
theorem dX11_taken_75 : decode cX11_taken 75 = .ok (.ireturn, 1) := by decide +kernel
theorem dX11_taken_76 : decode cX11_taken 76 = .ok (.aload_n 0, 1) := by decide +kernel
theorem dX11_taken_77 : decode cX11_taken 77 = .ok (.getfield 24, 3) := by decide +kernel
theorem dX11_taken_80 : decode cX11_taken 80 = .ok (.iload_n 1, 1) := by decide +kernel
theorem dX11_taken_81 : decode cX11_taken 81 = .ok (.iaload, 1) := by decide +kernel
theorem dX11_taken_82 : decode cX11_taken 82 = .ok (.iconst 1, 1) := by decide +kernel
theorem dX11_taken_83 : decode cX11_taken 83 = .ok (.if_icmp .ne 24, 3) := by decide +kernel
theorem dX11_taken_86 : decode cX11_taken 86 = .ok (.iload_n 2, 1) := by decide +kernel
theorem dX11_taken_87 : decode cX11_taken 87 = .ok (.bipush 10, 2) := by decide +kernel
theorem dX11_taken_89 : decode cX11_taken 89 = .ok (.iload 4, 2) := by decide +kernel
theorem dX11_taken_91 : decode cX11_taken 91 = .ok (.iadd, 1) := by decide +kernel
theorem dX11_taken_92 : decode cX11_taken 92 = .ok (.if_icmp .ne 12, 3) := by decide +kernel
theorem dX11_taken_95 : decode cX11_taken 95 = .ok (.aload_n 0, 1) := by decide +kernel
theorem dX11_taken_96 : decode cX11_taken 96 = .ok (.getfield 30, 3) := by decide +kernel
theorem dX11_taken_99 : decode cX11_taken 99 = .ok (.iload_n 1, 1) := by decide +kernel
theorem dX11_taken_100 : decode cX11_taken 100 = .ok (.iaload, 1) := by decide +kernel
theorem dX11_taken_101 : decode cX11_taken 101 = .ok (.goto 5, 3) := by decide +kernel
theorem dX11_taken_104 : decode cX11_taken 104 = .ok (.bipush (-13), 2) := by decide +kernel
theorem dX11_taken_106 : decode cX11_taken 106 = .ok (.ireturn, 1) := by decide +kernel
theorem dX11_taken_107 : decode cX11_taken 107 = .ok (.bipush (-11), 2) := by decide +kernel
theorem dX11_taken_109 : decode cX11_taken 109 = .ok (.ireturn, 1) := by decide +kernel
theorem dX11_times_0 : decode cX11_times 0 = .ok (.iload_n 1, 1) := by decide +kernel
theorem dX11_times_1 : decode cX11_times 1 = .ok (.iconst 1, 1) := by decide +kernel
theorem dX11_times_2 : decode cX11_times 2 = .ok (.bipush 40, 2) := by decide +kernel
theorem dX11_times_4 : decode cX11_times 4 = .ok (.invokestatic 90, 3) := by decide +kernel
theorem dX11_times_7 : decode cX11_times 7 = .ok (.ifCond .eq 14, 3) := by decide +kernel
theorem dX11_times_10 : decode cX11_times 10 = .ok (.iload_n 2, 1) := by decide +kernel
theorem dX11_times_11 : decode cX11_times 11 = .ok (.iconst 0, 1) := by decide +kernel
theorem dX11_times_12 : decode cX11_times 12 = .ok (.sipush 999, 3) := by decide +kernel
theorem dX11_times_15 : decode cX11_times 15 = .ok (.invokestatic 90, 3) := by decide +kernel
theorem dX11_times_18 : decode cX11_times 18 = .ok (.ifCond .ne 5, 3) := by decide +kernel
theorem dX11_times_21 : decode cX11_times 21 = .ok (.iconst (-1), 1) := by decide +kernel
theorem dX11_times_22 : decode cX11_times 22 = .ok (.ireturn, 1) := by decide +kernel
theorem dX11_times_23 : decode cX11_times 23 = .ok (.aload_n 0, 1) := by decide +kernel
theorem dX11_times_24 : decode cX11_times 24 = .ok (.getfield 56, 3) := by decide +kernel
theorem dX11_times_27 : decode cX11_times 27 = .ok (.getfield 298, 3) := by decide +kernel
theorem dX11_times_30 : decode cX11_times 30 = .ok (.istore_n 3, 1) := by decide +kernel
theorem dX11_times_31 : decode cX11_times 31 = .ok (.iconst 0, 1) := by decide +kernel
theorem dX11_times_32 : decode cX11_times 32 = .ok (.istore 4, 2) := by decide +kernel
theorem dX11_times_34 : decode cX11_times 34 = .ok (.aload_n 0, 1) := by decide +kernel
theorem dX11_times_35 : decode cX11_times 35 = .ok (.getfield 56, 3) := by decide +kernel
theorem dX11_times_38 : decode cX11_times 38 = .ok (.iconst 0, 1) := by decide +kernel
theorem dX11_times_39 : decode cX11_times 39 = .ok (.invokevirtual 212, 3) := by decide +kernel
theorem dX11_times_42 : decode cX11_times 42 = .ok (.iconst 0, 1) := by decide +kernel
theorem dX11_times_43 : decode cX11_times 43 = .ok (.istore 5, 2) := by decide +kernel
theorem dX11_times_45 : decode cX11_times 45 = .ok (.iload 5, 2) := by decide +kernel
theorem dX11_times_47 : decode cX11_times 47 = .ok (.iload_n 1, 1) := by decide +kernel
theorem dX11_times_48 : decode cX11_times 48 = .ok (.if_icmp .ge 31, 3) := by decide +kernel
theorem dX11_times_51 : decode cX11_times 51 = .ok (.aload_n 0, 1) := by decide +kernel
theorem dX11_times_52 : decode cX11_times 52 = .ok (.getfield 56, 3) := by decide +kernel
theorem dX11_times_55 : decode cX11_times 55 = .ok (.invokevirtual 304, 3) := by decide +kernel
theorem dX11_times_58 : decode cX11_times 58 = .ok (.iload_n 2, 1) := by decide +kernel
theorem dX11_times_59 : decode cX11_times 59 = .ok (.if_icmp .lt 6, 3) := by decide +kernel
theorem dX11_times_62 : decode cX11_times 62 = .ok (.iinc 4 1, 3) := by decide +kernel
theorem dX11_times_65 : decode cX11_times 65 = .ok (.aload_n 0, 1) := by decide +kernel
theorem dX11_times_66 : decode cX11_times 66 = .ok (.getfield 56, 3) := by decide +kernel
theorem dX11_times_69 : decode cX11_times 69 = .ok (.iconst 0, 1) := by decide +kernel
theorem dX11_times_70 : decode cX11_times 70 = .ok (.invokevirtual 218, 3) := by decide +kernel
theorem dX11_times_73 : decode cX11_times 73 = .ok (.iinc 5 1, 3) := by decide +kernel
theorem dX11_times_76 : decode cX11_times 76 = .ok (.goto (-31), 3) := by decide +kernel
theorem dX11_times_79 : decode cX11_times 79 = .ok (.aload_n 0, 1) := by decide +kernel
theorem dX11_times_80 : decode cX11_times 80 = .ok (.getfield 56, 3) := by decide +kernel
theorem dX11_times_83 : decode cX11_times 83 = .ok (.iload_n 3, 1) := by decide +kernel
theorem dX11_times_84 : decode cX11_times 84 = .ok (.putfield 298, 3) := by decide +kernel
theorem dX11_times_87 : decode cX11_times 87 = .ok (.iload 4, 2) := by decide +kernel
theorem dX11_times_89 : decode cX11_times 89 = .ok (.ireturn, 1) := by decide +kernel
theorem dX11_trace_0 : decode cX11_trace 0 = .ok (.iload_n 1, 1) := by decide +kernel
theorem dX11_trace_1 : decode cX11_trace 1 = .ok (.iconst 0, 1) := by decide +kernel
theorem dX11_trace_2 : decode cX11_trace 2 = .ok (.aload_n 0, 1) := by decide +kernel
theorem dX11_trace_3 : decode cX11_trace 3 = .ok (.getfield 82, 3) := by decide +kernel
theorem dX11_trace_6 : decode cX11_trace 6 = .ok (.getfield 340, 3) := by decide +kernel
theorem dX11_trace_9 : decode cX11_trace 9 = .ok (.iconst 1, 1) := by decide +kernel
theorem dX11_trace_10 : decode cX11_trace 10 = .ok (.isub, 1) := by decide +kernel
theorem dX11_trace_11 : decode cX11_trace 11 = .ok (.invokestatic 90, 3) := by decide +kernel
theorem dX11_trace_14 : decode cX11_trace 14 = .ok (.ifCond .eq 15, 3) := by decide +kernel
theorem dX11_trace_17 : decode cX11_trace 17 = .ok (.aload_n 0, 1) := by decide +kernel
theorem dX11_trace_18 : decode cX11_trace 18 = .ok (.getfield 82, 3) := by decide +kernel
theorem dX11_trace_21 : decode cX11_trace 21 = .ok (.getfield 365, 3) := by decide +kernel
theorem dX11_trace_24 : decode cX11_trace 24 = .ok (.iload_n 1, 1) := by decide +kernel
theorem dX11_trace_25 : decode cX11_trace 25 = .ok (.iaload, 1) := by decide +kernel
theorem dX11_trace_26 : decode cX11_trace 26 = .ok (.goto 5, 3) := by decide +kernel
theorem dX11_trace_29 : decode cX11_trace 29 = .ok (.bipush (-3), 2) := by decide +kernel
theorem dX11_trace_31 : decode cX11_trace 31 = .ok (.ireturn, 1) := by decide +kernel
theorem dX11_ways_0 : decode cX11_ways 0 = .ok (.iload_n 1, 1) := by decide +kernel
theorem dX11_ways_1 : decode cX11_ways 1 = .ok (.invokestatic 238, 3) := by decide +kernel
theorem dX11_ways_4 : decode cX11_ways 4 = .ok (.ifCond .ne 5, 3) := by decide +kernel
theorem dX11_ways_7 : decode cX11_ways 7 = .ok (.iconst (-1), 1) := by decide +kernel
theorem dX11_ways_8 : decode cX11_ways 8 = .ok (.ireturn, 1) := by decide +kernel
theorem dX11_ways_9 : decode cX11_ways 9 = .ok (.aload_n 0, 1) := by decide +kernel
theorem dX11_ways_10 : decode cX11_ways 10 = .ok (.getfield 68, 3) := by decide +kernel
theorem dX11_ways_13 : decode cX11_ways 13 = .ok (.iconst 0, 1) := by decide +kernel
theorem dX11_ways_14 : decode cX11_ways 14 = .ok (.iload_n 1, 1) := by decide +kernel
theorem dX11_ways_15 : decode cX11_ways 15 = .ok (.invokevirtual 241, 3) := by decide +kernel
theorem dX11_ways_18 : decode cX11_ways 18 = .ok (.aload_n 0, 1) := by decide +kernel
theorem dX11_ways_19 : decode cX11_ways 19 = .ok (.getfield 68, 3) := by decide +kernel
theorem dX11_ways_22 : decode cX11_ways 22 = .ok (.getfield 254, 3) := by decide +kernel
theorem dX11_ways_25 : decode cX11_ways 25 = .ok (.iconst 0, 1) := by decide +kernel
theorem dX11_ways_26 : decode cX11_ways 26 = .ok (.iaload, 1) := by decide +kernel
theorem dX11_ways_27 : decode cX11_ways 27 = .ok (.ireturn, 1) := by decide +kernel
theorem dX11_when_0 : decode cX11_when 0 = .ok (.aload_n 0, 1) := by decide +kernel
theorem dX11_when_1 : decode cX11_when 1 = .ok (.getfield 56, 3) := by decide +kernel
theorem dX11_when_4 : decode cX11_when 4 = .ok (.iload_n 1, 1) := by decide +kernel
theorem dX11_when_5 : decode cX11_when 5 = .ok (.invokevirtual 113, 3) := by decide +kernel
theorem dX11_when_8 : decode cX11_when 8 = .ok (.ifCond .ne 5, 3) := by decide +kernel
theorem dX11_when_11 : decode cX11_when 11 = .ok (.iconst (-1), 1) := by decide +kernel
theorem dX11_when_12 : decode cX11_when 12 = .ok (.ireturn, 1) := by decide +kernel
theorem dX11_when_13 : decode cX11_when 13 = .ok (.aload_n 0, 1) := by decide +kernel
theorem dX11_when_14 : decode cX11_when 14 = .ok (.getfield 56, 3) := by decide +kernel
theorem dX11_when_17 : decode cX11_when 17 = .ok (.iload_n 1, 1) := by decide +kernel
theorem dX11_when_18 : decode cX11_when 18 = .ok (.invokevirtual 116, 3) := by decide +kernel
theorem dX11_when_21 : decode cX11_when 21 = .ok (.ifCond .eq 6, 3) := by decide +kernel
theorem dX11_when_24 : decode cX11_when 24 = .ok (.bipush (-3), 2) := by decide +kernel
theorem dX11_when_26 : decode cX11_when 26 = .ok (.ireturn, 1) := by decide +kernel
theorem dX11_when_27 : decode cX11_when 27 = .ok (.bipush (-3), 2) := by decide +kernel
theorem dX11_when_29 : decode cX11_when 29 = .ok (.istore_n 2, 1) := by decide +kernel
theorem dX11_when_30 : decode cX11_when 30 = .ok (.aload_n 0, 1) := by decide +kernel
theorem dX11_when_31 : decode cX11_when 31 = .ok (.getfield 56, 3) := by decide +kernel
theorem dX11_when_34 : decode cX11_when 34 = .ok (.iconst 0, 1) := by decide +kernel
theorem dX11_when_35 : decode cX11_when 35 = .ok (.invokevirtual 212, 3) := by decide +kernel
theorem dX11_when_38 : decode cX11_when 38 = .ok (.iconst 0, 1) := by decide +kernel
theorem dX11_when_39 : decode cX11_when 39 = .ok (.istore_n 3, 1) := by decide +kernel
theorem dX11_when_40 : decode cX11_when 40 = .ok (.iload_n 3, 1) := by decide +kernel
theorem dX11_when_41 : decode cX11_when 41 = .ok (.bipush 16, 2) := by decide +kernel
theorem dX11_when_43 : decode cX11_when 43 = .ok (.if_icmp .ge 63, 3) := by decide +kernel
theorem dX11_when_46 : decode cX11_when 46 = .ok (.iload_n 2, 1) := by decide +kernel
theorem dX11_when_47 : decode cX11_when 47 = .ok (.bipush (-3), 2) := by decide +kernel
theorem dX11_when_49 : decode cX11_when 49 = .ok (.if_icmp .ne 57, 3) := by decide +kernel
theorem dX11_when_52 : decode cX11_when 52 = .ok (.aload_n 0, 1) := by decide +kernel
theorem dX11_when_53 : decode cX11_when 53 = .ok (.getfield 56, 3) := by decide +kernel
theorem dX11_when_56 : decode cX11_when 56 = .ok (.invokevirtual 168, 3) := by decide +kernel
theorem dX11_when_59 : decode cX11_when 59 = .ok (.ifCond .ne 47, 3) := by decide +kernel
theorem dX11_when_62 : decode cX11_when 62 = .ok (.aload_n 0, 1) := by decide +kernel
theorem dX11_when_63 : decode cX11_when 63 = .ok (.getfield 56, 3) := by decide +kernel
theorem dX11_when_66 : decode cX11_when 66 = .ok (.getfield 156, 3) := by decide +kernel
theorem dX11_when_69 : decode cX11_when 69 = .ok (.istore 4, 2) := by decide +kernel
theorem dX11_when_71 : decode cX11_when 71 = .ok (.aload_n 0, 1) := by decide +kernel
theorem dX11_when_72 : decode cX11_when 72 = .ok (.getfield 56, 3) := by decide +kernel
theorem dX11_when_75 : decode cX11_when 75 = .ok (.aload_n 0, 1) := by decide +kernel
theorem dX11_when_76 : decode cX11_when 76 = .ok (.getfield 56, 3) := by decide +kernel
theorem dX11_when_79 : decode cX11_when 79 = .ok (.invokevirtual 203, 3) := by decide +kernel
theorem dX11_when_82 : decode cX11_when 82 = .ok (.invokevirtual 206, 3) := by decide +kernel
theorem dX11_when_85 : decode cX11_when 85 = .ok (.pop, 1) := by decide +kernel
theorem dX11_when_86 : decode cX11_when 86 = .ok (.aload_n 0, 1) := by decide +kernel
theorem dX11_when_87 : decode cX11_when 87 = .ok (.getfield 56, 3) := by decide +kernel
theorem dX11_when_90 : decode cX11_when 90 = .ok (.iload_n 1, 1) := by decide +kernel
theorem dX11_when_91 : decode cX11_when 91 = .ok (.invokevirtual 116, 3) := by decide +kernel
theorem dX11_when_94 : decode cX11_when 94 = .ok (.ifCond .eq 6, 3) := by decide +kernel
theorem dX11_when_97 : decode cX11_when 97 = .ok (.iload 4, 2) := by decide +kernel
theorem dX11_when_99 : decode cX11_when 99 = .ok (.istore_n 2, 1) := by decide +kernel
theorem dX11_when_100 : decode cX11_when 100 = .ok (.iinc 3 1, 3) := by decide +kernel
theorem dX11_when_103 : decode cX11_when 103 = .ok (.goto (-63), 3) := by decide +kernel
theorem dX11_when_106 : decode cX11_when 106 = .ok (.aload_n 0, 1) := by decide +kernel
theorem dX11_when_107 : decode cX11_when 107 = .ok (.getfield 56, 3) := by decide +kernel
theorem dX11_when_110 : decode cX11_when 110 = .ok (.iconst 0, 1) := by decide +kernel
theorem dX11_when_111 : decode cX11_when 111 = .ok (.invokevirtual 218, 3) := by decide +kernel
theorem dX11_when_114 : decode cX11_when 114 = .ok (.iload_n 2, 1) := by decide +kernel
theorem dX11_when_115 : decode cX11_when 115 = .ok (.ireturn, 1) := by decide +kernel
theorem dX11_wouldBe_0 : decode cX11_wouldBe 0 = .ok (.iload_n 1, 1) := by decide +kernel
theorem dX11_wouldBe_1 : decode cX11_wouldBe 1 = .ok (.invokestatic 319, 3) := by decide +kernel
theorem dX11_wouldBe_4 : decode cX11_wouldBe 4 = .ok (.ifCond .eq 13, 3) := by decide +kernel
theorem dX11_wouldBe_7 : decode cX11_wouldBe 7 = .ok (.iload_n 3, 1) := by decide +kernel
theorem dX11_wouldBe_8 : decode cX11_wouldBe 8 = .ok (.iconst 0, 1) := by decide +kernel
theorem dX11_wouldBe_9 : decode cX11_wouldBe 9 = .ok (.bipush 20, 2) := by decide +kernel
theorem dX11_wouldBe_11 : decode cX11_wouldBe 11 = .ok (.invokestatic 90, 3) := by decide +kernel
theorem dX11_wouldBe_14 : decode cX11_wouldBe 14 = .ok (.ifCond .ne 5, 3) := by decide +kernel
theorem dX11_wouldBe_17 : decode cX11_wouldBe 17 = .ok (.iconst (-1), 1) := by decide +kernel
theorem dX11_wouldBe_18 : decode cX11_wouldBe 18 = .ok (.ireturn, 1) := by decide +kernel
theorem dX11_wouldBe_19 : decode cX11_wouldBe 19 = .ok (.aload_n 0, 1) := by decide +kernel
theorem dX11_wouldBe_20 : decode cX11_wouldBe 20 = .ok (.iload_n 1, 1) := by decide +kernel
theorem dX11_wouldBe_21 : decode cX11_wouldBe 21 = .ok (.iconst 0, 1) := by decide +kernel
theorem dX11_wouldBe_22 : decode cX11_wouldBe 22 = .ok (.invokevirtual 328, 3) := by decide +kernel
theorem dX11_wouldBe_25 : decode cX11_wouldBe 25 = .ok (.istore 4, 2) := by decide +kernel
theorem dX11_wouldBe_27 : decode cX11_wouldBe 27 = .ok (.iload 4, 2) := by decide +kernel
theorem dX11_wouldBe_29 : decode cX11_wouldBe 29 = .ok (.ifCond .eq 6, 3) := by decide +kernel
theorem dX11_wouldBe_32 : decode cX11_wouldBe 32 = .ok (.iload 4, 2) := by decide +kernel
theorem dX11_wouldBe_34 : decode cX11_wouldBe 34 = .ok (.ireturn, 1) := by decide +kernel
theorem dX11_wouldBe_35 : decode cX11_wouldBe 35 = .ok (.aload_n 0, 1) := by decide +kernel
theorem dX11_wouldBe_36 : decode cX11_wouldBe 36 = .ok (.getfield 56, 3) := by decide +kernel
theorem dX11_wouldBe_39 : decode cX11_wouldBe 39 = .ok (.iconst 0, 1) := by decide +kernel
theorem dX11_wouldBe_40 : decode cX11_wouldBe 40 = .ok (.invokevirtual 212, 3) := by decide +kernel
theorem dX11_wouldBe_43 : decode cX11_wouldBe 43 = .ok (.aload_n 0, 1) := by decide +kernel
theorem dX11_wouldBe_44 : decode cX11_wouldBe 44 = .ok (.iload_n 1, 1) := by decide +kernel
theorem dX11_wouldBe_45 : decode cX11_wouldBe 45 = .ok (.iload_n 2, 1) := by decide +kernel
theorem dX11_wouldBe_46 : decode cX11_wouldBe 46 = .ok (.iload_n 3, 1) := by decide +kernel
theorem dX11_wouldBe_47 : decode cX11_wouldBe 47 = .ok (.invokevirtual 331, 3) := by decide +kernel
theorem dX11_wouldBe_50 : decode cX11_wouldBe 50 = .ok (.istore 5, 2) := by decide +kernel
theorem dX11_wouldBe_52 : decode cX11_wouldBe 52 = .ok (.aload_n 0, 1) := by decide +kernel
theorem dX11_wouldBe_53 : decode cX11_wouldBe 53 = .ok (.getfield 56, 3) := by decide +kernel
theorem dX11_wouldBe_56 : decode cX11_wouldBe 56 = .ok (.iconst 0, 1) := by decide +kernel
theorem dX11_wouldBe_57 : decode cX11_wouldBe 57 = .ok (.invokevirtual 218, 3) := by decide +kernel
theorem dX11_wouldBe_60 : decode cX11_wouldBe 60 = .ok (.iload 5, 2) := by decide +kernel
theorem dX11_wouldBe_62 : decode cX11_wouldBe 62 = .ok (.ireturn, 1) := by decide +kernel
theorem dX11_write_0 : decode cX11_write 0 = .ok (.iload_n 1, 1) := by decide +kernel
theorem dX11_write_1 : decode cX11_write 1 = .ok (.invokestatic 319, 3) := by decide +kernel
theorem dX11_write_4 : decode cX11_write 4 = .ok (.ifCond .ne 5, 3) := by decide +kernel
theorem dX11_write_7 : decode cX11_write 7 = .ok (.iconst (-1), 1) := by decide +kernel
theorem dX11_write_8 : decode cX11_write 8 = .ok (.ireturn, 1) := by decide +kernel
theorem dX11_write_9 : decode cX11_write 9 = .ok (.aload_n 0, 1) := by decide +kernel
theorem dX11_write_10 : decode cX11_write 10 = .ok (.getfield 13, 3) := by decide +kernel
theorem dX11_write_13 : decode cX11_write 13 = .ok (.iload_n 1, 1) := by decide +kernel
theorem dX11_write_14 : decode cX11_write 14 = .ok (.iaload, 1) := by decide +kernel
theorem dX11_write_15 : decode cX11_write 15 = .ok (.iconst (-1), 1) := by decide +kernel
theorem dX11_write_16 : decode cX11_write 16 = .ok (.if_icmp .ne 6, 3) := by decide +kernel
theorem dX11_write_19 : decode cX11_write 19 = .ok (.bipush (-11), 2) := by decide +kernel
theorem dX11_write_21 : decode cX11_write 21 = .ok (.ireturn, 1) := by decide +kernel
theorem dX11_write_22 : decode cX11_write 22 = .ok (.aload_n 0, 1) := by decide +kernel
theorem dX11_write_23 : decode cX11_write 23 = .ok (.iload_n 1, 1) := by decide +kernel
theorem dX11_write_24 : decode cX11_write 24 = .ok (.iload_n 2, 1) := by decide +kernel
theorem dX11_write_25 : decode cX11_write 25 = .ok (.invokevirtual 322, 3) := by decide +kernel
theorem dX11_write_28 : decode cX11_write 28 = .ok (.ifCond .ne 6, 3) := by decide +kernel
theorem dX11_write_31 : decode cX11_write 31 = .ok (.bipush (-12), 2) := by decide +kernel
theorem dX11_write_33 : decode cX11_write 33 = .ok (.ireturn, 1) := by decide +kernel
theorem dX11_write_34 : decode cX11_write 34 = .ok (.aload_n 0, 1) := by decide +kernel
theorem dX11_write_35 : decode cX11_write 35 = .ok (.getfield 21, 3) := by decide +kernel
theorem dX11_write_38 : decode cX11_write 38 = .ok (.iload_n 1, 1) := by decide +kernel
theorem dX11_write_39 : decode cX11_write 39 = .ok (.aaload, 1) := by decide +kernel
theorem dX11_write_40 : decode cX11_write 40 = .ok (.iload_n 2, 1) := by decide +kernel
theorem dX11_write_41 : decode cX11_write 41 = .ok (.iload_n 3, 1) := by decide +kernel
theorem dX11_write_42 : decode cX11_write 42 = .ok (.aload_n 0, 1) := by decide +kernel
theorem dX11_write_43 : decode cX11_write 43 = .ok (.getfield 13, 3) := by decide +kernel
theorem dX11_write_46 : decode cX11_write 46 = .ok (.iload_n 1, 1) := by decide +kernel
theorem dX11_write_47 : decode cX11_write 47 = .ok (.iaload, 1) := by decide +kernel
theorem dX11_write_48 : decode cX11_write 48 = .ok (.invokestatic 325, 3) := by decide +kernel
theorem dX11_write_51 : decode cX11_write 51 = .ok (.iastore, 1) := by decide +kernel
theorem dX11_write_52 : decode cX11_write 52 = .ok (.iconst 1, 1) := by decide +kernel
theorem dX11_write_53 : decode cX11_write 53 = .ok (.ireturn, 1) := by decide +kernel
theorem dX1_allTeeth_0 : decode cX1_allTeeth 0 = .ok (.iconst 0, 1) := by decide +kernel
theorem dX1_allTeeth_1 : decode cX1_allTeeth 1 = .ok (.istore_n 1, 1) := by decide +kernel
theorem dX1_allTeeth_2 : decode cX1_allTeeth 2 = .ok (.iconst 0, 1) := by decide +kernel
theorem dX1_allTeeth_3 : decode cX1_allTeeth 3 = .ok (.istore_n 2, 1) := by decide +kernel
theorem dX1_allTeeth_4 : decode cX1_allTeeth 4 = .ok (.iload_n 2, 1) := by decide +kernel
theorem dX1_allTeeth_5 : decode cX1_allTeeth 5 = .ok (.aload_n 0, 1) := by decide +kernel
theorem dX1_allTeeth_6 : decode cX1_allTeeth 6 = .ok (.getfield 72, 3) := by decide +kernel
theorem dX1_allTeeth_9 : decode cX1_allTeeth 9 = .ok (.if_icmp .ge 18, 3) := by decide +kernel
theorem dX1_allTeeth_12 : decode cX1_allTeeth 12 = .ok (.iload_n 1, 1) := by decide +kernel
theorem dX1_allTeeth_13 : decode cX1_allTeeth 13 = .ok (.aload_n 0, 1) := by decide +kernel
theorem dX1_allTeeth_14 : decode cX1_allTeeth 14 = .ok (.getfield 31, 3) := by decide +kernel
theorem dX1_allTeeth_17 : decode cX1_allTeeth 17 = .ok (.iload_n 2, 1) := by decide +kernel
theorem dX1_allTeeth_18 : decode cX1_allTeeth 18 = .ok (.iaload, 1) := by decide +kernel
theorem dX1_allTeeth_19 : decode cX1_allTeeth 19 = .ok (.iadd, 1) := by decide +kernel
theorem dX1_allTeeth_20 : decode cX1_allTeeth 20 = .ok (.istore_n 1, 1) := by decide +kernel
theorem dX1_allTeeth_21 : decode cX1_allTeeth 21 = .ok (.iinc 2 1, 3) := by decide +kernel
theorem dX1_allTeeth_24 : decode cX1_allTeeth 24 = .ok (.goto (-20), 3) := by decide +kernel
theorem dX1_allTeeth_27 : decode cX1_allTeeth 27 = .ok (.iload_n 1, 1) := by decide +kernel
theorem dX1_allTeeth_28 : decode cX1_allTeeth 28 = .ok (.ireturn, 1) := by decide +kernel
theorem dX1_copyFrom_0 : decode cX1_copyFrom 0 = .ok (.aload_n 0, 1) := by decide +kernel
theorem dX1_copyFrom_1 : decode cX1_copyFrom 1 = .ok (.aload_n 1, 1) := by decide +kernel
theorem dX1_copyFrom_2 : decode cX1_copyFrom 2 = .ok (.getfield 60, 3) := by decide +kernel
theorem dX1_copyFrom_5 : decode cX1_copyFrom 5 = .ok (.putfield 60, 3) := by decide +kernel
theorem dX1_copyFrom_8 : decode cX1_copyFrom 8 = .ok (.aload_n 0, 1) := by decide +kernel
theorem dX1_copyFrom_9 : decode cX1_copyFrom 9 = .ok (.aload_n 1, 1) := by decide +kernel
theorem dX1_copyFrom_10 : decode cX1_copyFrom 10 = .ok (.getfield 9, 3) := by decide +kernel
theorem dX1_copyFrom_13 : decode cX1_copyFrom 13 = .ok (.putfield 9, 3) := by decide +kernel
theorem dX1_copyFrom_16 : decode cX1_copyFrom 16 = .ok (.aload_n 0, 1) := by decide +kernel
theorem dX1_copyFrom_17 : decode cX1_copyFrom 17 = .ok (.aload_n 1, 1) := by decide +kernel
theorem dX1_copyFrom_18 : decode cX1_copyFrom 18 = .ok (.getfield 63, 3) := by decide +kernel
theorem dX1_copyFrom_21 : decode cX1_copyFrom 21 = .ok (.putfield 63, 3) := by decide +kernel
theorem dX1_copyFrom_24 : decode cX1_copyFrom 24 = .ok (.aload_n 0, 1) := by decide +kernel
theorem dX1_copyFrom_25 : decode cX1_copyFrom 25 = .ok (.aload_n 1, 1) := by decide +kernel
theorem dX1_copyFrom_26 : decode cX1_copyFrom 26 = .ok (.getfield 15, 3) := by decide +kernel
theorem dX1_copyFrom_29 : decode cX1_copyFrom 29 = .ok (.putfield 15, 3) := by decide +kernel
theorem dX1_copyFrom_32 : decode cX1_copyFrom 32 = .ok (.aload_n 1, 1) := by decide +kernel
theorem dX1_copyFrom_33 : decode cX1_copyFrom 33 = .ok (.getfield 18, 3) := by decide +kernel
theorem dX1_copyFrom_36 : decode cX1_copyFrom 36 = .ok (.iconst 0, 1) := by decide +kernel
theorem dX1_copyFrom_37 : decode cX1_copyFrom 37 = .ok (.aload_n 0, 1) := by decide +kernel
theorem dX1_copyFrom_38 : decode cX1_copyFrom 38 = .ok (.getfield 18, 3) := by decide +kernel
theorem dX1_copyFrom_41 : decode cX1_copyFrom 41 = .ok (.iconst 0, 1) := by decide +kernel
theorem dX1_copyFrom_42 : decode cX1_copyFrom 42 = .ok (.bipush 16, 2) := by decide +kernel
theorem dX1_copyFrom_44 : decode cX1_copyFrom 44 = .ok (.invokestatic 66, 3) := by decide +kernel
theorem dX1_copyFrom_47 : decode cX1_copyFrom 47 = .ok (.aload_n 1, 1) := by decide +kernel
theorem dX1_copyFrom_48 : decode cX1_copyFrom 48 = .ok (.getfield 22, 3) := by decide +kernel
theorem dX1_copyFrom_51 : decode cX1_copyFrom 51 = .ok (.iconst 0, 1) := by decide +kernel
theorem dX1_copyFrom_52 : decode cX1_copyFrom 52 = .ok (.aload_n 0, 1) := by decide +kernel
theorem dX1_copyFrom_53 : decode cX1_copyFrom 53 = .ok (.getfield 22, 3) := by decide +kernel
theorem dX1_copyFrom_56 : decode cX1_copyFrom 56 = .ok (.iconst 0, 1) := by decide +kernel
theorem dX1_copyFrom_57 : decode cX1_copyFrom 57 = .ok (.bipush 6, 2) := by decide +kernel
theorem dX1_copyFrom_59 : decode cX1_copyFrom 59 = .ok (.invokestatic 66, 3) := by decide +kernel
theorem dX1_copyFrom_62 : decode cX1_copyFrom 62 = .ok (.aload_n 1, 1) := by decide +kernel
theorem dX1_copyFrom_63 : decode cX1_copyFrom 63 = .ok (.getfield 25, 3) := by decide +kernel
theorem dX1_copyFrom_66 : decode cX1_copyFrom 66 = .ok (.iconst 0, 1) := by decide +kernel
theorem dX1_copyFrom_67 : decode cX1_copyFrom 67 = .ok (.aload_n 0, 1) := by decide +kernel
theorem dX1_copyFrom_68 : decode cX1_copyFrom 68 = .ok (.getfield 25, 3) := by decide +kernel
theorem dX1_copyFrom_71 : decode cX1_copyFrom 71 = .ok (.iconst 0, 1) := by decide +kernel
theorem dX1_copyFrom_72 : decode cX1_copyFrom 72 = .ok (.bipush 6, 2) := by decide +kernel
theorem dX1_copyFrom_74 : decode cX1_copyFrom 74 = .ok (.invokestatic 66, 3) := by decide +kernel
theorem dX1_copyFrom_77 : decode cX1_copyFrom 77 = .ok (.aload_n 0, 1) := by decide +kernel
theorem dX1_copyFrom_78 : decode cX1_copyFrom 78 = .ok (.aload_n 1, 1) := by decide +kernel
theorem dX1_copyFrom_79 : decode cX1_copyFrom 79 = .ok (.getfield 72, 3) := by decide +kernel
theorem dX1_copyFrom_82 : decode cX1_copyFrom 82 = .ok (.putfield 72, 3) := by decide +kernel
theorem dX1_copyFrom_85 : decode cX1_copyFrom 85 = .ok (.aload_n 0, 1) := by decide +kernel
theorem dX1_copyFrom_86 : decode cX1_copyFrom 86 = .ok (.aload_n 1, 1) := by decide +kernel
theorem dX1_copyFrom_87 : decode cX1_copyFrom 87 = .ok (.getfield 75, 3) := by decide +kernel
theorem dX1_copyFrom_90 : decode cX1_copyFrom 90 = .ok (.putfield 75, 3) := by decide +kernel
theorem dX1_copyFrom_93 : decode cX1_copyFrom 93 = .ok (.aload_n 1, 1) := by decide +kernel
theorem dX1_copyFrom_94 : decode cX1_copyFrom 94 = .ok (.getfield 28, 3) := by decide +kernel
theorem dX1_copyFrom_97 : decode cX1_copyFrom 97 = .ok (.iconst 0, 1) := by decide +kernel
theorem dX1_copyFrom_98 : decode cX1_copyFrom 98 = .ok (.aload_n 0, 1) := by decide +kernel
theorem dX1_copyFrom_99 : decode cX1_copyFrom 99 = .ok (.getfield 28, 3) := by decide +kernel
theorem dX1_copyFrom_102 : decode cX1_copyFrom 102 = .ok (.iconst 0, 1) := by decide +kernel
theorem dX1_copyFrom_103 : decode cX1_copyFrom 103 = .ok (.bipush 6, 2) := by decide +kernel
theorem dX1_copyFrom_105 : decode cX1_copyFrom 105 = .ok (.invokestatic 66, 3) := by decide +kernel
theorem dX1_copyFrom_108 : decode cX1_copyFrom 108 = .ok (.aload_n 1, 1) := by decide +kernel
theorem dX1_copyFrom_109 : decode cX1_copyFrom 109 = .ok (.getfield 31, 3) := by decide +kernel
theorem dX1_copyFrom_112 : decode cX1_copyFrom 112 = .ok (.iconst 0, 1) := by decide +kernel
theorem dX1_copyFrom_113 : decode cX1_copyFrom 113 = .ok (.aload_n 0, 1) := by decide +kernel
theorem dX1_copyFrom_114 : decode cX1_copyFrom 114 = .ok (.getfield 31, 3) := by decide +kernel
theorem dX1_copyFrom_117 : decode cX1_copyFrom 117 = .ok (.iconst 0, 1) := by decide +kernel
theorem dX1_copyFrom_118 : decode cX1_copyFrom 118 = .ok (.bipush 6, 2) := by decide +kernel
theorem dX1_copyFrom_120 : decode cX1_copyFrom 120 = .ok (.invokestatic 66, 3) := by decide +kernel
theorem dX1_copyFrom_123 : decode cX1_copyFrom 123 = .ok (.aload_n 1, 1) := by decide +kernel
theorem dX1_copyFrom_124 : decode cX1_copyFrom 124 = .ok (.getfield 34, 3) := by decide +kernel
theorem dX1_copyFrom_127 : decode cX1_copyFrom 127 = .ok (.iconst 0, 1) := by decide +kernel
theorem dX1_copyFrom_128 : decode cX1_copyFrom 128 = .ok (.aload_n 0, 1) := by decide +kernel
theorem dX1_copyFrom_129 : decode cX1_copyFrom 129 = .ok (.getfield 34, 3) := by decide +kernel
theorem dX1_copyFrom_132 : decode cX1_copyFrom 132 = .ok (.iconst 0, 1) := by decide +kernel
theorem dX1_copyFrom_133 : decode cX1_copyFrom 133 = .ok (.bipush 6, 2) := by decide +kernel
theorem dX1_copyFrom_135 : decode cX1_copyFrom 135 = .ok (.invokestatic 66, 3) := by decide +kernel
theorem dX1_copyFrom_138 : decode cX1_copyFrom 138 = .ok (.aload_n 1, 1) := by decide +kernel
theorem dX1_copyFrom_139 : decode cX1_copyFrom 139 = .ok (.getfield 37, 3) := by decide +kernel
theorem dX1_copyFrom_142 : decode cX1_copyFrom 142 = .ok (.iconst 0, 1) := by decide +kernel
theorem dX1_copyFrom_143 : decode cX1_copyFrom 143 = .ok (.aload_n 0, 1) := by decide +kernel
theorem dX1_copyFrom_144 : decode cX1_copyFrom 144 = .ok (.getfield 37, 3) := by decide +kernel
theorem dX1_copyFrom_147 : decode cX1_copyFrom 147 = .ok (.iconst 0, 1) := by decide +kernel
theorem dX1_copyFrom_148 : decode cX1_copyFrom 148 = .ok (.bipush 6, 2) := by decide +kernel
theorem dX1_copyFrom_150 : decode cX1_copyFrom 150 = .ok (.invokestatic 66, 3) := by decide +kernel
theorem dX1_copyFrom_153 : decode cX1_copyFrom 153 = .ok (.aload_n 0, 1) := by decide +kernel
theorem dX1_copyFrom_154 : decode cX1_copyFrom 154 = .ok (.getfield 43, 3) := by decide +kernel
theorem dX1_copyFrom_157 : decode cX1_copyFrom 157 = .ok (.aload_n 1, 1) := by decide +kernel
theorem dX1_copyFrom_158 : decode cX1_copyFrom 158 = .ok (.getfield 43, 3) := by decide +kernel
theorem dX1_copyFrom_161 : decode cX1_copyFrom 161 = .ok (.invokevirtual 78, 3) := by decide +kernel
theorem dX1_copyFrom_164 : decode cX1_copyFrom 164 = .ok (.aload_n 1, 1) := by decide +kernel
theorem dX1_copyFrom_165 : decode cX1_copyFrom 165 = .ok (.getfield 47, 3) := by decide +kernel
theorem dX1_copyFrom_168 : decode cX1_copyFrom 168 = .ok (.iconst 0, 1) := by decide +kernel
theorem dX1_copyFrom_169 : decode cX1_copyFrom 169 = .ok (.aload_n 0, 1) := by decide +kernel
theorem dX1_copyFrom_170 : decode cX1_copyFrom 170 = .ok (.getfield 47, 3) := by decide +kernel
theorem dX1_copyFrom_173 : decode cX1_copyFrom 173 = .ok (.iconst 0, 1) := by decide +kernel
theorem dX1_copyFrom_174 : decode cX1_copyFrom 174 = .ok (.bipush 24, 2) := by decide +kernel
theorem dX1_copyFrom_176 : decode cX1_copyFrom 176 = .ok (.invokestatic 66, 3) := by decide +kernel
theorem dX1_copyFrom_179 : decode cX1_copyFrom 179 = .ok (.aload_n 0, 1) := by decide +kernel
theorem dX1_copyFrom_180 : decode cX1_copyFrom 180 = .ok (.aload_n 1, 1) := by decide +kernel
theorem dX1_copyFrom_181 : decode cX1_copyFrom 181 = .ok (.getfield 82, 3) := by decide +kernel
theorem dX1_copyFrom_184 : decode cX1_copyFrom 184 = .ok (.putfield 82, 3) := by decide +kernel
theorem dX1_copyFrom_187 : decode cX1_copyFrom 187 = .ok (.return_, 1) := by decide +kernel
theorem dX1_drawAct_0 : decode cX1_drawAct 0 = .ok (.aload_n 0, 1) := by decide +kernel
theorem dX1_drawAct_1 : decode cX1_drawAct 1 = .ok (.aload_n 0, 1) := by decide +kernel
theorem dX1_drawAct_2 : decode cX1_drawAct 2 = .ok (.getfield 15, 3) := by decide +kernel
theorem dX1_drawAct_5 : decode cX1_drawAct 5 = .ok (.ldc 160, 2) := by decide +kernel
theorem dX1_drawAct_7 : decode cX1_drawAct 7 = .ok (.imul, 1) := by decide +kernel
theorem dX1_drawAct_8 : decode cX1_drawAct 8 = .ok (.sipush 12345, 3) := by decide +kernel
theorem dX1_drawAct_11 : decode cX1_drawAct 11 = .ok (.iadd, 1) := by decide +kernel
theorem dX1_drawAct_12 : decode cX1_drawAct 12 = .ok (.putfield 15, 3) := by decide +kernel
theorem dX1_drawAct_15 : decode cX1_drawAct 15 = .ok (.aload_n 0, 1) := by decide +kernel
theorem dX1_drawAct_16 : decode cX1_drawAct 16 = .ok (.getfield 15, 3) := by decide +kernel
theorem dX1_drawAct_19 : decode cX1_drawAct 19 = .ok (.bipush 16, 2) := by decide +kernel
theorem dX1_drawAct_21 : decode cX1_drawAct 21 = .ok (.iushr, 1) := by decide +kernel
theorem dX1_drawAct_22 : decode cX1_drawAct 22 = .ok (.aload_n 0, 1) := by decide +kernel
theorem dX1_drawAct_23 : decode cX1_drawAct 23 = .ok (.getfield 72, 3) := by decide +kernel
theorem dX1_drawAct_26 : decode cX1_drawAct 26 = .ok (.iconst 1, 1) := by decide +kernel
theorem dX1_drawAct_27 : decode cX1_drawAct 27 = .ok (.iadd, 1) := by decide +kernel
theorem dX1_drawAct_28 : decode cX1_drawAct 28 = .ok (.irem, 1) := by decide +kernel
theorem dX1_drawAct_29 : decode cX1_drawAct 29 = .ok (.ireturn, 1) := by decide +kernel
theorem dX1_goBy_0 : decode cX1_goBy 0 = .ok (.aload_n 0, 1) := by decide +kernel
theorem dX1_goBy_1 : decode cX1_goBy 1 = .ok (.iload_n 1, 1) := by decide +kernel
theorem dX1_goBy_2 : decode cX1_goBy 2 = .ok (.invokevirtual 137, 3) := by decide +kernel
theorem dX1_goBy_5 : decode cX1_goBy 5 = .ok (.aload_n 0, 1) := by decide +kernel
theorem dX1_goBy_6 : decode cX1_goBy 6 = .ok (.invokevirtual 140, 3) := by decide +kernel
theorem dX1_goBy_9 : decode cX1_goBy 9 = .ok (.iadd, 1) := by decide +kernel
theorem dX1_goBy_10 : decode cX1_goBy 10 = .ok (.ireturn, 1) := by decide +kernel
theorem dX1_goLots_0 : decode cX1_goLots 0 = .ok (.iconst 0, 1) := by decide +kernel
theorem dX1_goLots_1 : decode cX1_goLots 1 = .ok (.istore_n 1, 1) := by decide +kernel
theorem dX1_goLots_2 : decode cX1_goLots 2 = .ok (.iconst 0, 1) := by decide +kernel
theorem dX1_goLots_3 : decode cX1_goLots 3 = .ok (.istore_n 2, 1) := by decide +kernel
theorem dX1_goLots_4 : decode cX1_goLots 4 = .ok (.iload_n 2, 1) := by decide +kernel
theorem dX1_goLots_5 : decode cX1_goLots 5 = .ok (.bipush 16, 2) := by decide +kernel
theorem dX1_goLots_7 : decode cX1_goLots 7 = .ok (.if_icmp .ge 32, 3) := by decide +kernel
theorem dX1_goLots_10 : decode cX1_goLots 10 = .ok (.aload_n 0, 1) := by decide +kernel
theorem dX1_goLots_11 : decode cX1_goLots 11 = .ok (.invokevirtual 153, 3) := by decide +kernel
theorem dX1_goLots_14 : decode cX1_goLots 14 = .ok (.ifCond .ne 25, 3) := by decide +kernel
theorem dX1_goLots_17 : decode cX1_goLots 17 = .ok (.iload_n 1, 1) := by decide +kernel
theorem dX1_goLots_18 : decode cX1_goLots 18 = .ok (.aload_n 0, 1) := by decide +kernel
theorem dX1_goLots_19 : decode cX1_goLots 19 = .ok (.aload_n 0, 1) := by decide +kernel
theorem dX1_goLots_20 : decode cX1_goLots 20 = .ok (.invokevirtual 161, 3) := by decide +kernel
theorem dX1_goLots_23 : decode cX1_goLots 23 = .ok (.invokevirtual 137, 3) := by decide +kernel
theorem dX1_goLots_26 : decode cX1_goLots 26 = .ok (.aload_n 0, 1) := by decide +kernel
theorem dX1_goLots_27 : decode cX1_goLots 27 = .ok (.invokevirtual 140, 3) := by decide +kernel
theorem dX1_goLots_30 : decode cX1_goLots 30 = .ok (.iadd, 1) := by decide +kernel
theorem dX1_goLots_31 : decode cX1_goLots 31 = .ok (.iadd, 1) := by decide +kernel
theorem dX1_goLots_32 : decode cX1_goLots 32 = .ok (.istore_n 1, 1) := by decide +kernel
theorem dX1_goLots_33 : decode cX1_goLots 33 = .ok (.iinc 2 1, 3) := by decide +kernel
theorem dX1_goLots_36 : decode cX1_goLots 36 = .ok (.goto (-32), 3) := by decide +kernel
theorem dX1_goLots_39 : decode cX1_goLots 39 = .ok (.iload_n 1, 1) := by decide +kernel
theorem dX1_goLots_40 : decode cX1_goLots 40 = .ok (.ireturn, 1) := by decide +kernel
theorem dX1_goRest_0 : decode cX1_goRest 0 = .ok (.iconst 0, 1) := by decide +kernel
theorem dX1_goRest_1 : decode cX1_goRest 1 = .ok (.istore_n 2, 1) := by decide +kernel
theorem dX1_goRest_2 : decode cX1_goRest 2 = .ok (.iconst 0, 1) := by decide +kernel
theorem dX1_goRest_3 : decode cX1_goRest 3 = .ok (.istore_n 3, 1) := by decide +kernel
theorem dX1_goRest_4 : decode cX1_goRest 4 = .ok (.iload_n 3, 1) := by decide +kernel
theorem dX1_goRest_5 : decode cX1_goRest 5 = .ok (.iload_n 1, 1) := by decide +kernel
theorem dX1_goRest_6 : decode cX1_goRest 6 = .ok (.if_icmp .ge 32, 3) := by decide +kernel
theorem dX1_goRest_9 : decode cX1_goRest 9 = .ok (.aload_n 0, 1) := by decide +kernel
theorem dX1_goRest_10 : decode cX1_goRest 10 = .ok (.invokevirtual 153, 3) := by decide +kernel
theorem dX1_goRest_13 : decode cX1_goRest 13 = .ok (.ifCond .ne 25, 3) := by decide +kernel
theorem dX1_goRest_16 : decode cX1_goRest 16 = .ok (.iload_n 2, 1) := by decide +kernel
theorem dX1_goRest_17 : decode cX1_goRest 17 = .ok (.aload_n 0, 1) := by decide +kernel
theorem dX1_goRest_18 : decode cX1_goRest 18 = .ok (.aload_n 0, 1) := by decide +kernel
theorem dX1_goRest_19 : decode cX1_goRest 19 = .ok (.invokevirtual 157, 3) := by decide +kernel
theorem dX1_goRest_22 : decode cX1_goRest 22 = .ok (.invokevirtual 137, 3) := by decide +kernel
theorem dX1_goRest_25 : decode cX1_goRest 25 = .ok (.aload_n 0, 1) := by decide +kernel
theorem dX1_goRest_26 : decode cX1_goRest 26 = .ok (.invokevirtual 140, 3) := by decide +kernel
theorem dX1_goRest_29 : decode cX1_goRest 29 = .ok (.iadd, 1) := by decide +kernel
theorem dX1_goRest_30 : decode cX1_goRest 30 = .ok (.iadd, 1) := by decide +kernel
theorem dX1_goRest_31 : decode cX1_goRest 31 = .ok (.istore_n 2, 1) := by decide +kernel
theorem dX1_goRest_32 : decode cX1_goRest 32 = .ok (.iinc 3 1, 3) := by decide +kernel
theorem dX1_goRest_35 : decode cX1_goRest 35 = .ok (.goto (-31), 3) := by decide +kernel
theorem dX1_goRest_38 : decode cX1_goRest 38 = .ok (.iload_n 2, 1) := by decide +kernel
theorem dX1_goRest_39 : decode cX1_goRest 39 = .ok (.ireturn, 1) := by decide +kernel
theorem dX1_haltsOf_0 : decode cX1_haltsOf 0 = .ok (.iconst 0, 1) := by decide +kernel
theorem dX1_haltsOf_1 : decode cX1_haltsOf 1 = .ok (.iload_n 1, 1) := by decide +kernel
theorem dX1_haltsOf_2 : decode cX1_haltsOf 2 = .ok (.aload_n 0, 1) := by decide +kernel
theorem dX1_haltsOf_3 : decode cX1_haltsOf 3 = .ok (.getfield 9, 3) := by decide +kernel
theorem dX1_haltsOf_6 : decode cX1_haltsOf 6 = .ok (.aload_n 0, 1) := by decide +kernel
theorem dX1_haltsOf_7 : decode cX1_haltsOf 7 = .ok (.getfield 60, 3) := by decide +kernel
theorem dX1_haltsOf_10 : decode cX1_haltsOf 10 = .ok (.isub, 1) := by decide +kernel
theorem dX1_haltsOf_11 : decode cX1_haltsOf 11 = .ok (.invokestatic 85, 3) := by decide +kernel
theorem dX1_haltsOf_14 : decode cX1_haltsOf 14 = .ok (.invokestatic 91, 3) := by decide +kernel
theorem dX1_haltsOf_17 : decode cX1_haltsOf 17 = .ok (.ireturn, 1) := by decide +kernel
theorem dX1_heatAt_0 : decode cX1_heatAt 0 = .ok (.aload_n 0, 1) := by decide +kernel
theorem dX1_heatAt_1 : decode cX1_heatAt 1 = .ok (.iload_n 1, 1) := by decide +kernel
theorem dX1_heatAt_2 : decode cX1_heatAt 2 = .ok (.invokevirtual 94, 3) := by decide +kernel
theorem dX1_heatAt_5 : decode cX1_heatAt 5 = .ok (.iconst 4, 1) := by decide +kernel
theorem dX1_heatAt_6 : decode cX1_heatAt 6 = .ok (.idiv, 1) := by decide +kernel
theorem dX1_heatAt_7 : decode cX1_heatAt 7 = .ok (.ireturn, 1) := by decide +kernel
theorem dX1_melt_0 : decode cX1_melt 0 = .ok (.iconst 0, 1) := by decide +kernel
theorem dX1_melt_1 : decode cX1_melt 1 = .ok (.istore_n 1, 1) := by decide +kernel
theorem dX1_melt_2 : decode cX1_melt 2 = .ok (.iconst 0, 1) := by decide +kernel
theorem dX1_melt_3 : decode cX1_melt 3 = .ok (.istore_n 2, 1) := by decide +kernel
theorem dX1_melt_4 : decode cX1_melt 4 = .ok (.iload_n 2, 1) := by decide +kernel
theorem dX1_melt_5 : decode cX1_melt 5 = .ok (.aload_n 0, 1) := by decide +kernel
theorem dX1_melt_6 : decode cX1_melt 6 = .ok (.getfield 72, 3) := by decide +kernel
theorem dX1_melt_9 : decode cX1_melt 9 = .ok (.if_icmp .ge 51, 3) := by decide +kernel
theorem dX1_melt_12 : decode cX1_melt 12 = .ok (.aload_n 0, 1) := by decide +kernel
theorem dX1_melt_13 : decode cX1_melt 13 = .ok (.getfield 31, 3) := by decide +kernel
theorem dX1_melt_16 : decode cX1_melt 16 = .ok (.iload_n 2, 1) := by decide +kernel
theorem dX1_melt_17 : decode cX1_melt 17 = .ok (.iconst 0, 1) := by decide +kernel
theorem dX1_melt_18 : decode cX1_melt 18 = .ok (.aload_n 0, 1) := by decide +kernel
theorem dX1_melt_19 : decode cX1_melt 19 = .ok (.getfield 31, 3) := by decide +kernel
theorem dX1_melt_22 : decode cX1_melt 22 = .ok (.iload_n 2, 1) := by decide +kernel
theorem dX1_melt_23 : decode cX1_melt 23 = .ok (.iaload, 1) := by decide +kernel
theorem dX1_melt_24 : decode cX1_melt 24 = .ok (.aload_n 0, 1) := by decide +kernel
theorem dX1_melt_25 : decode cX1_melt 25 = .ok (.iload_n 2, 1) := by decide +kernel
theorem dX1_melt_26 : decode cX1_melt 26 = .ok (.invokevirtual 151, 3) := by decide +kernel
theorem dX1_melt_29 : decode cX1_melt 29 = .ok (.isub, 1) := by decide +kernel
theorem dX1_melt_30 : decode cX1_melt 30 = .ok (.invokestatic 91, 3) := by decide +kernel
theorem dX1_melt_33 : decode cX1_melt 33 = .ok (.iastore, 1) := by decide +kernel
theorem dX1_melt_34 : decode cX1_melt 34 = .ok (.aload_n 0, 1) := by decide +kernel
theorem dX1_melt_35 : decode cX1_melt 35 = .ok (.iload_n 2, 1) := by decide +kernel
theorem dX1_melt_36 : decode cX1_melt 36 = .ok (.invokevirtual 113, 3) := by decide +kernel
theorem dX1_melt_39 : decode cX1_melt 39 = .ok (.ifCond .eq 15, 3) := by decide +kernel
theorem dX1_melt_42 : decode cX1_melt 42 = .ok (.aload_n 0, 1) := by decide +kernel
theorem dX1_melt_43 : decode cX1_melt 43 = .ok (.getfield 31, 3) := by decide +kernel
theorem dX1_melt_46 : decode cX1_melt 46 = .ok (.iload_n 2, 1) := by decide +kernel
theorem dX1_melt_47 : decode cX1_melt 47 = .ok (.iaload, 1) := by decide +kernel
theorem dX1_melt_48 : decode cX1_melt 48 = .ok (.ifCond .le 6, 3) := by decide +kernel
theorem dX1_melt_51 : decode cX1_melt 51 = .ok (.iinc 1 1, 3) := by decide +kernel
theorem dX1_melt_54 : decode cX1_melt 54 = .ok (.iinc 2 1, 3) := by decide +kernel
theorem dX1_melt_57 : decode cX1_melt 57 = .ok (.goto (-53), 3) := by decide +kernel
theorem dX1_melt_60 : decode cX1_melt 60 = .ok (.aload_n 0, 1) := by decide +kernel
theorem dX1_melt_61 : decode cX1_melt 61 = .ok (.dup, 1) := by decide +kernel
theorem dX1_melt_62 : decode cX1_melt 62 = .ok (.getfield 60, 3) := by decide +kernel
theorem dX1_melt_65 : decode cX1_melt 65 = .ok (.iconst 1, 1) := by decide +kernel
theorem dX1_melt_66 : decode cX1_melt 66 = .ok (.iadd, 1) := by decide +kernel
theorem dX1_melt_67 : decode cX1_melt 67 = .ok (.putfield 60, 3) := by decide +kernel
theorem dX1_melt_70 : decode cX1_melt 70 = .ok (.iload_n 1, 1) := by decide +kernel
theorem dX1_melt_71 : decode cX1_melt 71 = .ok (.ireturn, 1) := by decide +kernel
theorem dX1_misfits_0 : decode cX1_misfits 0 = .ok (.iconst 0, 1) := by decide +kernel
theorem dX1_misfits_1 : decode cX1_misfits 1 = .ok (.istore 4, 2) := by decide +kernel
theorem dX1_misfits_3 : decode cX1_misfits 3 = .ok (.iload_n 3, 1) := by decide +kernel
theorem dX1_misfits_4 : decode cX1_misfits 4 = .ok (.istore 5, 2) := by decide +kernel
theorem dX1_misfits_6 : decode cX1_misfits 6 = .ok (.iconst 0, 1) := by decide +kernel
theorem dX1_misfits_7 : decode cX1_misfits 7 = .ok (.istore 6, 2) := by decide +kernel
theorem dX1_misfits_9 : decode cX1_misfits 9 = .ok (.iload 6, 2) := by decide +kernel
theorem dX1_misfits_11 : decode cX1_misfits 11 = .ok (.bipush 16, 2) := by decide +kernel
theorem dX1_misfits_13 : decode cX1_misfits 13 = .ok (.if_icmp .ge 83, 3) := by decide +kernel
theorem dX1_misfits_16 : decode cX1_misfits 16 = .ok (.aload_n 0, 1) := by decide +kernel
theorem dX1_misfits_17 : decode cX1_misfits 17 = .ok (.getfield 56, 3) := by decide +kernel
theorem dX1_misfits_20 : decode cX1_misfits 20 = .ok (.iload_n 1, 1) := by decide +kernel
theorem dX1_misfits_21 : decode cX1_misfits 21 = .ok (.aaload, 1) := by decide +kernel
theorem dX1_misfits_22 : decode cX1_misfits 22 = .ok (.iload 5, 2) := by decide +kernel
theorem dX1_misfits_24 : decode cX1_misfits 24 = .ok (.iload_n 2, 1) := by decide +kernel
theorem dX1_misfits_25 : decode cX1_misfits 25 = .ok (.iconst 0, 1) := by decide +kernel
theorem dX1_misfits_26 : decode cX1_misfits 26 = .ok (.invokevirtual 117, 3) := by decide +kernel
theorem dX1_misfits_29 : decode cX1_misfits 29 = .ok (.istore 7, 2) := by decide +kernel
theorem dX1_misfits_31 : decode cX1_misfits 31 = .ok (.iload 4, 2) := by decide +kernel
theorem dX1_misfits_33 : decode cX1_misfits 33 = .ok (.aload_n 0, 1) := by decide +kernel
theorem dX1_misfits_34 : decode cX1_misfits 34 = .ok (.iload 6, 2) := by decide +kernel
theorem dX1_misfits_36 : decode cX1_misfits 36 = .ok (.iload 5, 2) := by decide +kernel
theorem dX1_misfits_38 : decode cX1_misfits 38 = .ok (.iload 7, 2) := by decide +kernel
theorem dX1_misfits_40 : decode cX1_misfits 40 = .ok (.invokevirtual 169, 3) := by decide +kernel
theorem dX1_misfits_43 : decode cX1_misfits 43 = .ok (.ior, 1) := by decide +kernel
theorem dX1_misfits_44 : decode cX1_misfits 44 = .ok (.istore 4, 2) := by decide +kernel
theorem dX1_misfits_46 : decode cX1_misfits 46 = .ok (.aload_n 0, 1) := by decide +kernel
theorem dX1_misfits_47 : decode cX1_misfits 47 = .ok (.getfield 56, 3) := by decide +kernel
theorem dX1_misfits_50 : decode cX1_misfits 50 = .ok (.iload_n 1, 1) := by decide +kernel
theorem dX1_misfits_51 : decode cX1_misfits 51 = .ok (.aaload, 1) := by decide +kernel
theorem dX1_misfits_52 : decode cX1_misfits 52 = .ok (.aload_n 0, 1) := by decide +kernel
theorem dX1_misfits_53 : decode cX1_misfits 53 = .ok (.iload 6, 2) := by decide +kernel
theorem dX1_misfits_55 : decode cX1_misfits 55 = .ok (.invokevirtual 98, 3) := by decide +kernel
theorem dX1_misfits_58 : decode cX1_misfits 58 = .ok (.aload_n 0, 1) := by decide +kernel
theorem dX1_misfits_59 : decode cX1_misfits 59 = .ok (.iload 6, 2) := by decide +kernel
theorem dX1_misfits_61 : decode cX1_misfits 61 = .ok (.invokevirtual 101, 3) := by decide +kernel
theorem dX1_misfits_64 : decode cX1_misfits 64 = .ok (.iload 6, 2) := by decide +kernel
theorem dX1_misfits_66 : decode cX1_misfits 66 = .ok (.invokevirtual 104, 3) := by decide +kernel
theorem dX1_misfits_69 : decode cX1_misfits 69 = .ok (.iload_n 2, 1) := by decide +kernel
theorem dX1_misfits_70 : decode cX1_misfits 70 = .ok (.iconst 3, 1) := by decide +kernel
theorem dX1_misfits_71 : decode cX1_misfits 71 = .ok (.idiv, 1) := by decide +kernel
theorem dX1_misfits_72 : decode cX1_misfits 72 = .ok (.isub, 1) := by decide +kernel
theorem dX1_misfits_73 : decode cX1_misfits 73 = .ok (.istore 8, 2) := by decide +kernel
theorem dX1_misfits_75 : decode cX1_misfits 75 = .ok (.iconst 0, 1) := by decide +kernel
theorem dX1_misfits_76 : decode cX1_misfits 76 = .ok (.iload 5, 2) := by decide +kernel
theorem dX1_misfits_78 : decode cX1_misfits 78 = .ok (.iconst 0, 1) := by decide +kernel
theorem dX1_misfits_79 : decode cX1_misfits 79 = .ok (.iload 8, 2) := by decide +kernel
theorem dX1_misfits_81 : decode cX1_misfits 81 = .ok (.invokestatic 91, 3) := by decide +kernel
theorem dX1_misfits_84 : decode cX1_misfits 84 = .ok (.isub, 1) := by decide +kernel
theorem dX1_misfits_85 : decode cX1_misfits 85 = .ok (.invokestatic 91, 3) := by decide +kernel
theorem dX1_misfits_88 : decode cX1_misfits 88 = .ok (.istore 5, 2) := by decide +kernel
theorem dX1_misfits_90 : decode cX1_misfits 90 = .ok (.iinc 6 1, 3) := by decide +kernel
theorem dX1_misfits_93 : decode cX1_misfits 93 = .ok (.goto (-84), 3) := by decide +kernel
theorem dX1_misfits_96 : decode cX1_misfits 96 = .ok (.iload 4, 2) := by decide +kernel
theorem dX1_misfits_98 : decode cX1_misfits 98 = .ok (.ireturn, 1) := by decide +kernel
theorem dX1_misfitsAt_0 : decode cX1_misfitsAt 0 = .ok (.iconst 0, 1) := by decide +kernel
theorem dX1_misfitsAt_1 : decode cX1_misfitsAt 1 = .ok (.istore 4, 2) := by decide +kernel
theorem dX1_misfitsAt_3 : decode cX1_misfitsAt 3 = .ok (.iconst 0, 1) := by decide +kernel
theorem dX1_misfitsAt_4 : decode cX1_misfitsAt 4 = .ok (.istore 5, 2) := by decide +kernel
theorem dX1_misfitsAt_6 : decode cX1_misfitsAt 6 = .ok (.iload 5, 2) := by decide +kernel
theorem dX1_misfitsAt_8 : decode cX1_misfitsAt 8 = .ok (.aload_n 0, 1) := by decide +kernel
theorem dX1_misfitsAt_9 : decode cX1_misfitsAt 9 = .ok (.getfield 82, 3) := by decide +kernel
theorem dX1_misfitsAt_12 : decode cX1_misfitsAt 12 = .ok (.if_icmp .ge 80, 3) := by decide +kernel
theorem dX1_misfitsAt_15 : decode cX1_misfitsAt 15 = .ok (.iload 5, 2) := by decide +kernel
theorem dX1_misfitsAt_17 : decode cX1_misfitsAt 17 = .ok (.iconst 4, 1) := by decide +kernel
theorem dX1_misfitsAt_18 : decode cX1_misfitsAt 18 = .ok (.imul, 1) := by decide +kernel
theorem dX1_misfitsAt_19 : decode cX1_misfitsAt 19 = .ok (.istore 6, 2) := by decide +kernel
theorem dX1_misfitsAt_21 : decode cX1_misfitsAt 21 = .ok (.aload_n 0, 1) := by decide +kernel
theorem dX1_misfitsAt_22 : decode cX1_misfitsAt 22 = .ok (.getfield 47, 3) := by decide +kernel
theorem dX1_misfitsAt_25 : decode cX1_misfitsAt 25 = .ok (.iload 6, 2) := by decide +kernel
theorem dX1_misfitsAt_27 : decode cX1_misfitsAt 27 = .ok (.iconst 1, 1) := by decide +kernel
theorem dX1_misfitsAt_28 : decode cX1_misfitsAt 28 = .ok (.iadd, 1) := by decide +kernel
theorem dX1_misfitsAt_29 : decode cX1_misfitsAt 29 = .ok (.iaload, 1) := by decide +kernel
theorem dX1_misfitsAt_30 : decode cX1_misfitsAt 30 = .ok (.ifCond .ne 7, 3) := by decide +kernel
theorem dX1_misfitsAt_33 : decode cX1_misfitsAt 33 = .ok (.iload_n 2, 1) := by decide +kernel
theorem dX1_misfitsAt_34 : decode cX1_misfitsAt 34 = .ok (.goto 4, 3) := by decide +kernel
theorem dX1_misfitsAt_37 : decode cX1_misfitsAt 37 = .ok (.iload_n 3, 1) := by decide +kernel
theorem dX1_misfitsAt_38 : decode cX1_misfitsAt 38 = .ok (.istore 7, 2) := by decide +kernel
theorem dX1_misfitsAt_40 : decode cX1_misfitsAt 40 = .ok (.aload_n 0, 1) := by decide +kernel
theorem dX1_misfitsAt_41 : decode cX1_misfitsAt 41 = .ok (.getfield 47, 3) := by decide +kernel
theorem dX1_misfitsAt_44 : decode cX1_misfitsAt 44 = .ok (.iload 6, 2) := by decide +kernel
theorem dX1_misfitsAt_46 : decode cX1_misfitsAt 46 = .ok (.iaload, 1) := by decide +kernel
theorem dX1_misfitsAt_47 : decode cX1_misfitsAt 47 = .ok (.iload_n 1, 1) := by decide +kernel
theorem dX1_misfitsAt_48 : decode cX1_misfitsAt 48 = .ok (.if_icmp .ne 38, 3) := by decide +kernel
theorem dX1_misfitsAt_51 : decode cX1_misfitsAt 51 = .ok (.iload 7, 2) := by decide +kernel
theorem dX1_misfitsAt_53 : decode cX1_misfitsAt 53 = .ok (.aload_n 0, 1) := by decide +kernel
theorem dX1_misfitsAt_54 : decode cX1_misfitsAt 54 = .ok (.getfield 47, 3) := by decide +kernel
theorem dX1_misfitsAt_57 : decode cX1_misfitsAt 57 = .ok (.iload 6, 2) := by decide +kernel
theorem dX1_misfitsAt_59 : decode cX1_misfitsAt 59 = .ok (.iconst 2, 1) := by decide +kernel
theorem dX1_misfitsAt_60 : decode cX1_misfitsAt 60 = .ok (.iadd, 1) := by decide +kernel
theorem dX1_misfitsAt_61 : decode cX1_misfitsAt 61 = .ok (.iaload, 1) := by decide +kernel
theorem dX1_misfitsAt_62 : decode cX1_misfitsAt 62 = .ok (.aload_n 0, 1) := by decide +kernel
theorem dX1_misfitsAt_63 : decode cX1_misfitsAt 63 = .ok (.getfield 47, 3) := by decide +kernel
theorem dX1_misfitsAt_66 : decode cX1_misfitsAt 66 = .ok (.iload 6, 2) := by decide +kernel
theorem dX1_misfitsAt_68 : decode cX1_misfitsAt 68 = .ok (.iconst 3, 1) := by decide +kernel
theorem dX1_misfitsAt_69 : decode cX1_misfitsAt 69 = .ok (.iadd, 1) := by decide +kernel
theorem dX1_misfitsAt_70 : decode cX1_misfitsAt 70 = .ok (.iaload, 1) := by decide +kernel
theorem dX1_misfitsAt_71 : decode cX1_misfitsAt 71 = .ok (.invokestatic 172, 3) := by decide +kernel
theorem dX1_misfitsAt_74 : decode cX1_misfitsAt 74 = .ok (.ifCond .ne 12, 3) := by decide +kernel
theorem dX1_misfitsAt_77 : decode cX1_misfitsAt 77 = .ok (.iload 4, 2) := by decide +kernel
theorem dX1_misfitsAt_79 : decode cX1_misfitsAt 79 = .ok (.iconst 1, 1) := by decide +kernel
theorem dX1_misfitsAt_80 : decode cX1_misfitsAt 80 = .ok (.iload 5, 2) := by decide +kernel
theorem dX1_misfitsAt_82 : decode cX1_misfitsAt 82 = .ok (.ishl, 1) := by decide +kernel
theorem dX1_misfitsAt_83 : decode cX1_misfitsAt 83 = .ok (.ior, 1) := by decide +kernel
theorem dX1_misfitsAt_84 : decode cX1_misfitsAt 84 = .ok (.istore 4, 2) := by decide +kernel
theorem dX1_misfitsAt_86 : decode cX1_misfitsAt 86 = .ok (.iinc 5 1, 3) := by decide +kernel
theorem dX1_misfitsAt_89 : decode cX1_misfitsAt 89 = .ok (.goto (-83), 3) := by decide +kernel
theorem dX1_misfitsAt_92 : decode cX1_misfitsAt 92 = .ok (.iload 4, 2) := by decide +kernel
theorem dX1_misfitsAt_94 : decode cX1_misfitsAt 94 = .ok (.ireturn, 1) := by decide +kernel
theorem dX1_restAct_0 : decode cX1_restAct 0 = .ok (.iconst 0, 1) := by decide +kernel
theorem dX1_restAct_1 : decode cX1_restAct 1 = .ok (.istore_n 1, 1) := by decide +kernel
theorem dX1_restAct_2 : decode cX1_restAct 2 = .ok (.iload_n 1, 1) := by decide +kernel
theorem dX1_restAct_3 : decode cX1_restAct 3 = .ok (.aload_n 0, 1) := by decide +kernel
theorem dX1_restAct_4 : decode cX1_restAct 4 = .ok (.getfield 72, 3) := by decide +kernel
theorem dX1_restAct_7 : decode cX1_restAct 7 = .ok (.if_icmp .ge 29, 3) := by decide +kernel
theorem dX1_restAct_10 : decode cX1_restAct 10 = .ok (.aload_n 0, 1) := by decide +kernel
theorem dX1_restAct_11 : decode cX1_restAct 11 = .ok (.iload_n 1, 1) := by decide +kernel
theorem dX1_restAct_12 : decode cX1_restAct 12 = .ok (.invokevirtual 131, 3) := by decide +kernel
theorem dX1_restAct_15 : decode cX1_restAct 15 = .ok (.ifCond .le 15, 3) := by decide +kernel
theorem dX1_restAct_18 : decode cX1_restAct 18 = .ok (.aload_n 0, 1) := by decide +kernel
theorem dX1_restAct_19 : decode cX1_restAct 19 = .ok (.iload_n 1, 1) := by decide +kernel
theorem dX1_restAct_20 : decode cX1_restAct 20 = .ok (.invokevirtual 134, 3) := by decide +kernel
theorem dX1_restAct_23 : decode cX1_restAct 23 = .ok (.ifCond .ne 7, 3) := by decide +kernel
theorem dX1_restAct_26 : decode cX1_restAct 26 = .ok (.iload_n 1, 1) := by decide +kernel
theorem dX1_restAct_27 : decode cX1_restAct 27 = .ok (.iconst 1, 1) := by decide +kernel
theorem dX1_restAct_28 : decode cX1_restAct 28 = .ok (.iadd, 1) := by decide +kernel
theorem dX1_restAct_29 : decode cX1_restAct 29 = .ok (.ireturn, 1) := by decide +kernel
theorem dX1_restAct_30 : decode cX1_restAct 30 = .ok (.iinc 1 1, 3) := by decide +kernel
theorem dX1_restAct_33 : decode cX1_restAct 33 = .ok (.goto (-31), 3) := by decide +kernel
theorem dX1_restAct_36 : decode cX1_restAct 36 = .ok (.iconst 0, 1) := by decide +kernel
theorem dX1_restAct_37 : decode cX1_restAct 37 = .ok (.ireturn, 1) := by decide +kernel
theorem dX1_restore_0 : decode cX1_restore 0 = .ok (.iload_n 1, 1) := by decide +kernel
theorem dX1_restore_1 : decode cX1_restore 1 = .ok (.bipush 8, 2) := by decide +kernel
theorem dX1_restore_3 : decode cX1_restore 3 = .ok (.imul, 1) := by decide +kernel
theorem dX1_restore_4 : decode cX1_restore 4 = .ok (.istore_n 2, 1) := by decide +kernel
theorem dX1_restore_5 : decode cX1_restore 5 = .ok (.aload_n 0, 1) := by decide +kernel
theorem dX1_restore_6 : decode cX1_restore 6 = .ok (.getfield 53, 3) := by decide +kernel
theorem dX1_restore_9 : decode cX1_restore 9 = .ok (.iload_n 2, 1) := by decide +kernel
theorem dX1_restore_10 : decode cX1_restore 10 = .ok (.aload_n 0, 1) := by decide +kernel
theorem dX1_restore_11 : decode cX1_restore 11 = .ok (.getfield 31, 3) := by decide +kernel
theorem dX1_restore_14 : decode cX1_restore 14 = .ok (.iconst 0, 1) := by decide +kernel
theorem dX1_restore_15 : decode cX1_restore 15 = .ok (.bipush 6, 2) := by decide +kernel
theorem dX1_restore_17 : decode cX1_restore 17 = .ok (.invokestatic 66, 3) := by decide +kernel
theorem dX1_restore_20 : decode cX1_restore 20 = .ok (.aload_n 0, 1) := by decide +kernel
theorem dX1_restore_21 : decode cX1_restore 21 = .ok (.aload_n 0, 1) := by decide +kernel
theorem dX1_restore_22 : decode cX1_restore 22 = .ok (.getfield 53, 3) := by decide +kernel
theorem dX1_restore_25 : decode cX1_restore 25 = .ok (.iload_n 2, 1) := by decide +kernel
theorem dX1_restore_26 : decode cX1_restore 26 = .ok (.bipush 6, 2) := by decide +kernel
theorem dX1_restore_28 : decode cX1_restore 28 = .ok (.iadd, 1) := by decide +kernel
theorem dX1_restore_29 : decode cX1_restore 29 = .ok (.iaload, 1) := by decide +kernel
theorem dX1_restore_30 : decode cX1_restore 30 = .ok (.putfield 75, 3) := by decide +kernel
theorem dX1_restore_33 : decode cX1_restore 33 = .ok (.aload_n 0, 1) := by decide +kernel
theorem dX1_restore_34 : decode cX1_restore 34 = .ok (.aload_n 0, 1) := by decide +kernel
theorem dX1_restore_35 : decode cX1_restore 35 = .ok (.getfield 53, 3) := by decide +kernel
theorem dX1_restore_38 : decode cX1_restore 38 = .ok (.iload_n 2, 1) := by decide +kernel
theorem dX1_restore_39 : decode cX1_restore 39 = .ok (.bipush 6, 2) := by decide +kernel
theorem dX1_restore_41 : decode cX1_restore 41 = .ok (.iadd, 1) := by decide +kernel
theorem dX1_restore_42 : decode cX1_restore 42 = .ok (.iconst 1, 1) := by decide +kernel
theorem dX1_restore_43 : decode cX1_restore 43 = .ok (.iadd, 1) := by decide +kernel
theorem dX1_restore_44 : decode cX1_restore 44 = .ok (.iaload, 1) := by decide +kernel
theorem dX1_restore_45 : decode cX1_restore 45 = .ok (.putfield 60, 3) := by decide +kernel
theorem dX1_restore_48 : decode cX1_restore 48 = .ok (.return_, 1) := by decide +kernel
theorem dX1_save_0 : decode cX1_save 0 = .ok (.iload_n 1, 1) := by decide +kernel
theorem dX1_save_1 : decode cX1_save 1 = .ok (.bipush 8, 2) := by decide +kernel
theorem dX1_save_3 : decode cX1_save 3 = .ok (.imul, 1) := by decide +kernel
theorem dX1_save_4 : decode cX1_save 4 = .ok (.istore_n 2, 1) := by decide +kernel
theorem dX1_save_5 : decode cX1_save 5 = .ok (.aload_n 0, 1) := by decide +kernel
theorem dX1_save_6 : decode cX1_save 6 = .ok (.getfield 31, 3) := by decide +kernel
theorem dX1_save_9 : decode cX1_save 9 = .ok (.iconst 0, 1) := by decide +kernel
theorem dX1_save_10 : decode cX1_save 10 = .ok (.aload_n 0, 1) := by decide +kernel
theorem dX1_save_11 : decode cX1_save 11 = .ok (.getfield 53, 3) := by decide +kernel
theorem dX1_save_14 : decode cX1_save 14 = .ok (.iload_n 2, 1) := by decide +kernel
theorem dX1_save_15 : decode cX1_save 15 = .ok (.bipush 6, 2) := by decide +kernel
theorem dX1_save_17 : decode cX1_save 17 = .ok (.invokestatic 66, 3) := by decide +kernel
theorem dX1_save_20 : decode cX1_save 20 = .ok (.aload_n 0, 1) := by decide +kernel
theorem dX1_save_21 : decode cX1_save 21 = .ok (.getfield 53, 3) := by decide +kernel
theorem dX1_save_24 : decode cX1_save 24 = .ok (.iload_n 2, 1) := by decide +kernel
theorem dX1_save_25 : decode cX1_save 25 = .ok (.bipush 6, 2) := by decide +kernel
theorem dX1_save_27 : decode cX1_save 27 = .ok (.iadd, 1) := by decide +kernel
theorem dX1_save_28 : decode cX1_save 28 = .ok (.aload_n 0, 1) := by decide +kernel
theorem dX1_save_29 : decode cX1_save 29 = .ok (.getfield 75, 3) := by decide +kernel
theorem dX1_save_32 : decode cX1_save 32 = .ok (.iastore, 1) := by decide +kernel
theorem dX1_save_33 : decode cX1_save 33 = .ok (.aload_n 0, 1) := by decide +kernel
theorem dX1_save_34 : decode cX1_save 34 = .ok (.getfield 53, 3) := by decide +kernel
theorem dX1_save_37 : decode cX1_save 37 = .ok (.iload_n 2, 1) := by decide +kernel
theorem dX1_save_38 : decode cX1_save 38 = .ok (.bipush 6, 2) := by decide +kernel
theorem dX1_save_40 : decode cX1_save 40 = .ok (.iadd, 1) := by decide +kernel
theorem dX1_save_41 : decode cX1_save 41 = .ok (.iconst 1, 1) := by decide +kernel
theorem dX1_save_42 : decode cX1_save 42 = .ok (.iadd, 1) := by decide +kernel
theorem dX1_save_43 : decode cX1_save 43 = .ok (.aload_n 0, 1) := by decide +kernel
theorem dX1_save_44 : decode cX1_save 44 = .ok (.getfield 60, 3) := by decide +kernel
theorem dX1_save_47 : decode cX1_save 47 = .ok (.iastore, 1) := by decide +kernel
theorem dX1_save_48 : decode cX1_save 48 = .ok (.return_, 1) := by decide +kernel
theorem dX1_shadeAt_0 : decode cX1_shadeAt 0 = .ok (.aload_n 0, 1) := by decide +kernel
theorem dX1_shadeAt_1 : decode cX1_shadeAt 1 = .ok (.iload_n 1, 1) := by decide +kernel
theorem dX1_shadeAt_2 : decode cX1_shadeAt 2 = .ok (.invokevirtual 94, 3) := by decide +kernel
theorem dX1_shadeAt_5 : decode cX1_shadeAt 5 = .ok (.iconst 4, 1) := by decide +kernel
theorem dX1_shadeAt_6 : decode cX1_shadeAt 6 = .ok (.irem, 1) := by decide +kernel
theorem dX1_shadeAt_7 : decode cX1_shadeAt 7 = .ok (.ireturn, 1) := by decide +kernel
theorem dX1_sunAt_0 : decode cX1_sunAt 0 = .ok (.iload_n 1, 1) := by decide +kernel
theorem dX1_sunAt_1 : decode cX1_sunAt 1 = .ok (.ifCond .lt 18, 3) := by decide +kernel
theorem dX1_sunAt_4 : decode cX1_sunAt 4 = .ok (.iload_n 1, 1) := by decide +kernel
theorem dX1_sunAt_5 : decode cX1_sunAt 5 = .ok (.bipush 16, 2) := by decide +kernel
theorem dX1_sunAt_7 : decode cX1_sunAt 7 = .ok (.if_icmp .ge 12, 3) := by decide +kernel
theorem dX1_sunAt_10 : decode cX1_sunAt 10 = .ok (.aload_n 0, 1) := by decide +kernel
theorem dX1_sunAt_11 : decode cX1_sunAt 11 = .ok (.getfield 18, 3) := by decide +kernel
theorem dX1_sunAt_14 : decode cX1_sunAt 14 = .ok (.iload_n 1, 1) := by decide +kernel
theorem dX1_sunAt_15 : decode cX1_sunAt 15 = .ok (.iaload, 1) := by decide +kernel
theorem dX1_sunAt_16 : decode cX1_sunAt 16 = .ok (.goto 4, 3) := by decide +kernel
theorem dX1_sunAt_19 : decode cX1_sunAt 19 = .ok (.iconst 0, 1) := by decide +kernel
theorem dX1_sunAt_20 : decode cX1_sunAt 20 = .ok (.ireturn, 1) := by decide +kernel
theorem dX1_tell_0 : decode cX1_tell 0 = .ok (.iload_n 1, 1) := by decide +kernel
theorem dX1_tell_1 : decode cX1_tell 1 = .ok (.iconst 1, 1) := by decide +kernel
theorem dX1_tell_2 : decode cX1_tell 2 = .ok (.isub, 1) := by decide +kernel
theorem dX1_tell_3 : decode cX1_tell 3 = .ok (.istore_n 2, 1) := by decide +kernel
theorem dX1_tell_4 : decode cX1_tell 4 = .ok (.aload_n 0, 1) := by decide +kernel
theorem dX1_tell_5 : decode cX1_tell 5 = .ok (.iload_n 2, 1) := by decide +kernel
theorem dX1_tell_6 : decode cX1_tell 6 = .ok (.invokevirtual 144, 3) := by decide +kernel
theorem dX1_tell_9 : decode cX1_tell 9 = .ok (.ifCond .eq 11, 3) := by decide +kernel
theorem dX1_tell_12 : decode cX1_tell 12 = .ok (.aload_n 0, 1) := by decide +kernel
theorem dX1_tell_13 : decode cX1_tell 13 = .ok (.iload_n 2, 1) := by decide +kernel
theorem dX1_tell_14 : decode cX1_tell 14 = .ok (.invokevirtual 113, 3) := by decide +kernel
theorem dX1_tell_17 : decode cX1_tell 17 = .ok (.ifCond .eq 5, 3) := by decide +kernel
theorem dX1_tell_20 : decode cX1_tell 20 = .ok (.iconst 0, 1) := by decide +kernel
theorem dX1_tell_21 : decode cX1_tell 21 = .ok (.ireturn, 1) := by decide +kernel
theorem dX1_tell_22 : decode cX1_tell 22 = .ok (.aload_n 0, 1) := by decide +kernel
theorem dX1_tell_23 : decode cX1_tell 23 = .ok (.iload_n 2, 1) := by decide +kernel
theorem dX1_tell_24 : decode cX1_tell 24 = .ok (.invokevirtual 134, 3) := by decide +kernel
theorem dX1_tell_27 : decode cX1_tell 27 = .ok (.istore_n 3, 1) := by decide +kernel
theorem dX1_tell_28 : decode cX1_tell 28 = .ok (.iload_n 3, 1) := by decide +kernel
theorem dX1_tell_29 : decode cX1_tell 29 = .ok (.ifCond .ne 28, 3) := by decide +kernel
theorem dX1_tell_32 : decode cX1_tell 32 = .ok (.aload_n 0, 1) := by decide +kernel
theorem dX1_tell_33 : decode cX1_tell 33 = .ok (.iload_n 2, 1) := by decide +kernel
theorem dX1_tell_34 : decode cX1_tell 34 = .ok (.invokevirtual 131, 3) := by decide +kernel
theorem dX1_tell_37 : decode cX1_tell 37 = .ok (.istore 4, 2) := by decide +kernel
theorem dX1_tell_39 : decode cX1_tell 39 = .ok (.aload_n 0, 1) := by decide +kernel
theorem dX1_tell_40 : decode cX1_tell 40 = .ok (.iload_n 2, 1) := by decide +kernel
theorem dX1_tell_41 : decode cX1_tell 41 = .ok (.iload 4, 2) := by decide +kernel
theorem dX1_tell_43 : decode cX1_tell 43 = .ok (.ifCond .le 7, 3) := by decide +kernel
theorem dX1_tell_46 : decode cX1_tell 46 = .ok (.iconst 1, 1) := by decide +kernel
theorem dX1_tell_47 : decode cX1_tell 47 = .ok (.goto 4, 3) := by decide +kernel
theorem dX1_tell_50 : decode cX1_tell 50 = .ok (.iconst 0, 1) := by decide +kernel
theorem dX1_tell_51 : decode cX1_tell 51 = .ok (.invokevirtual 147, 3) := by decide +kernel
theorem dX1_tell_54 : decode cX1_tell 54 = .ok (.iload 4, 2) := by decide +kernel
theorem dX1_tell_56 : decode cX1_tell 56 = .ok (.ireturn, 1) := by decide +kernel
theorem dX1_tell_57 : decode cX1_tell 57 = .ok (.iload_n 3, 1) := by decide +kernel
theorem dX1_tell_58 : decode cX1_tell 58 = .ok (.iconst 2, 1) := by decide +kernel
theorem dX1_tell_59 : decode cX1_tell 59 = .ok (.if_icmp .ne 37, 3) := by decide +kernel
theorem dX1_tell_62 : decode cX1_tell 62 = .ok (.aload_n 0, 1) := by decide +kernel
theorem dX1_tell_63 : decode cX1_tell 63 = .ok (.aload_n 0, 1) := by decide +kernel
theorem dX1_tell_64 : decode cX1_tell 64 = .ok (.getfield 60, 3) := by decide +kernel
theorem dX1_tell_67 : decode cX1_tell 67 = .ok (.invokevirtual 101, 3) := by decide +kernel
theorem dX1_tell_70 : decode cX1_tell 70 = .ok (.iconst 1, 1) := by decide +kernel
theorem dX1_tell_71 : decode cX1_tell 71 = .ok (.if_icmp .le 25, 3) := by decide +kernel
theorem dX1_tell_74 : decode cX1_tell 74 = .ok (.aload_n 0, 1) := by decide +kernel
theorem dX1_tell_75 : decode cX1_tell 75 = .ok (.getfield 31, 3) := by decide +kernel
theorem dX1_tell_78 : decode cX1_tell 78 = .ok (.iload_n 2, 1) := by decide +kernel
theorem dX1_tell_79 : decode cX1_tell 79 = .ok (.bipush 99, 2) := by decide +kernel
theorem dX1_tell_81 : decode cX1_tell 81 = .ok (.aload_n 0, 1) := by decide +kernel
theorem dX1_tell_82 : decode cX1_tell 82 = .ok (.getfield 31, 3) := by decide +kernel
theorem dX1_tell_85 : decode cX1_tell 85 = .ok (.iload_n 2, 1) := by decide +kernel
theorem dX1_tell_86 : decode cX1_tell 86 = .ok (.iaload, 1) := by decide +kernel
theorem dX1_tell_87 : decode cX1_tell 87 = .ok (.bipush 7, 2) := by decide +kernel
theorem dX1_tell_89 : decode cX1_tell 89 = .ok (.iadd, 1) := by decide +kernel
theorem dX1_tell_90 : decode cX1_tell 90 = .ok (.invokestatic 85, 3) := by decide +kernel
theorem dX1_tell_93 : decode cX1_tell 93 = .ok (.iastore, 1) := by decide +kernel
theorem dX1_tell_94 : decode cX1_tell 94 = .ok (.iconst 1, 1) := by decide +kernel
theorem dX1_tell_95 : decode cX1_tell 95 = .ok (.ireturn, 1) := by decide +kernel
theorem dX1_tell_96 : decode cX1_tell 96 = .ok (.iconst 0, 1) := by decide +kernel
theorem dX1_tell_97 : decode cX1_tell 97 = .ok (.ireturn, 1) := by decide +kernel
theorem dX2_melts_0 : decode cX2_melts 0 = .ok (.iconst 0, 1) := by decide +kernel
theorem dX2_melts_1 : decode cX2_melts 1 = .ok (.ireturn, 1) := by decide +kernel
theorem dX2_shape_0 : decode cX2_shape 0 = .ok (.iconst 5, 1) := by decide +kernel
theorem dX2_shape_1 : decode cX2_shape 1 = .ok (.ireturn, 1) := by decide +kernel
theorem dX3_melts_0 : decode cX3_melts 0 = .ok (.iconst 3, 1) := by decide +kernel
theorem dX3_melts_1 : decode cX3_melts 1 = .ok (.iconst 2, 1) := by decide +kernel
theorem dX3_melts_2 : decode cX3_melts 2 = .ok (.iload_n 1, 1) := by decide +kernel
theorem dX3_melts_3 : decode cX3_melts 3 = .ok (.imul, 1) := by decide +kernel
theorem dX3_melts_4 : decode cX3_melts 4 = .ok (.iadd, 1) := by decide +kernel
theorem dX3_melts_5 : decode cX3_melts 5 = .ok (.ireturn, 1) := by decide +kernel
theorem dX4_duel_0 : decode cX4_duel 0 = .ok (.aload_n 0, 1) := by decide +kernel
theorem dX4_duel_1 : decode cX4_duel 1 = .ok (.getfield 18, 3) := by decide +kernel
theorem dX4_duel_4 : decode cX4_duel 4 = .ok (.iload_n 1, 1) := by decide +kernel
theorem dX4_duel_5 : decode cX4_duel 5 = .ok (.iconst 0, 1) := by decide +kernel
theorem dX4_duel_6 : decode cX4_duel 6 = .ok (.iastore, 1) := by decide +kernel
theorem dX4_duel_7 : decode cX4_duel 7 = .ok (.aload_n 0, 1) := by decide +kernel
theorem dX4_duel_8 : decode cX4_duel 8 = .ok (.iload_n 1, 1) := by decide +kernel
theorem dX4_duel_9 : decode cX4_duel 9 = .ok (.iload_n 2, 1) := by decide +kernel
theorem dX4_duel_10 : decode cX4_duel 10 = .ok (.invokevirtual 31, 3) := by decide +kernel
theorem dX4_duel_13 : decode cX4_duel 13 = .ok (.ifCond .eq 5, 3) := by decide +kernel
theorem dX4_duel_16 : decode cX4_duel 16 = .ok (.iconst 0, 1) := by decide +kernel
theorem dX4_duel_17 : decode cX4_duel 17 = .ok (.ireturn, 1) := by decide +kernel
theorem dX4_duel_18 : decode cX4_duel 18 = .ok (.iload_n 1, 1) := by decide +kernel
theorem dX4_duel_19 : decode cX4_duel 19 = .ok (.iconst 2, 1) := by decide +kernel
theorem dX4_duel_20 : decode cX4_duel 20 = .ok (.irem, 1) := by decide +kernel
theorem dX4_duel_21 : decode cX4_duel 21 = .ok (.ifCond .ne 7, 3) := by decide +kernel
theorem dX4_duel_24 : decode cX4_duel 24 = .ok (.iconst 1, 1) := by decide +kernel
theorem dX4_duel_25 : decode cX4_duel 25 = .ok (.goto 4, 3) := by decide +kernel
theorem dX4_duel_28 : decode cX4_duel 28 = .ok (.iconst 0, 1) := by decide +kernel
theorem dX4_duel_29 : decode cX4_duel 29 = .ok (.istore_n 3, 1) := by decide +kernel
theorem dX4_duel_30 : decode cX4_duel 30 = .ok (.iconst 0, 1) := by decide +kernel
theorem dX4_duel_31 : decode cX4_duel 31 = .ok (.istore 4, 2) := by decide +kernel
theorem dX4_duel_33 : decode cX4_duel 33 = .ok (.aload_n 0, 1) := by decide +kernel
theorem dX4_duel_34 : decode cX4_duel 34 = .ok (.getfield 21, 3) := by decide +kernel
theorem dX4_duel_37 : decode cX4_duel 37 = .ok (.iload_n 1, 1) := by decide +kernel
theorem dX4_duel_38 : decode cX4_duel 38 = .ok (.invokevirtual 35, 3) := by decide +kernel
theorem dX4_duel_41 : decode cX4_duel 41 = .ok (.iconst 0, 1) := by decide +kernel
theorem dX4_duel_42 : decode cX4_duel 42 = .ok (.istore 5, 2) := by decide +kernel
theorem dX4_duel_44 : decode cX4_duel 44 = .ok (.iload 5, 2) := by decide +kernel
theorem dX4_duel_46 : decode cX4_duel 46 = .ok (.aload_n 0, 1) := by decide +kernel
theorem dX4_duel_47 : decode cX4_duel 47 = .ok (.getfield 21, 3) := by decide +kernel
theorem dX4_duel_50 : decode cX4_duel 50 = .ok (.getfield 39, 3) := by decide +kernel
theorem dX4_duel_53 : decode cX4_duel 53 = .ok (.if_icmp .gt 103, 3) := by decide +kernel
theorem dX4_duel_56 : decode cX4_duel 56 = .ok (.aload_n 0, 1) := by decide +kernel
theorem dX4_duel_57 : decode cX4_duel 57 = .ok (.getfield 21, 3) := by decide +kernel
theorem dX4_duel_60 : decode cX4_duel 60 = .ok (.iload 5, 2) := by decide +kernel
theorem dX4_duel_62 : decode cX4_duel 62 = .ok (.invokevirtual 43, 3) := by decide +kernel
theorem dX4_duel_65 : decode cX4_duel 65 = .ok (.istore 6, 2) := by decide +kernel
theorem dX4_duel_67 : decode cX4_duel 67 = .ok (.iload 5, 2) := by decide +kernel
theorem dX4_duel_69 : decode cX4_duel 69 = .ok (.ifCond .eq 8, 3) := by decide +kernel
theorem dX4_duel_72 : decode cX4_duel 72 = .ok (.iload 6, 2) := by decide +kernel
theorem dX4_duel_74 : decode cX4_duel 74 = .ok (.ifCond .le 76, 3) := by decide +kernel
theorem dX4_duel_77 : decode cX4_duel 77 = .ok (.iload 6, 2) := by decide +kernel
theorem dX4_duel_79 : decode cX4_duel 79 = .ok (.aload_n 0, 1) := by decide +kernel
theorem dX4_duel_80 : decode cX4_duel 80 = .ok (.getfield 21, 3) := by decide +kernel
theorem dX4_duel_83 : decode cX4_duel 83 = .ok (.invokevirtual 47, 3) := by decide +kernel
theorem dX4_duel_86 : decode cX4_duel 86 = .ok (.iadd, 1) := by decide +kernel
theorem dX4_duel_87 : decode cX4_duel 87 = .ok (.istore 7, 2) := by decide +kernel
theorem dX4_duel_89 : decode cX4_duel 89 = .ok (.iload 7, 2) := by decide +kernel
theorem dX4_duel_91 : decode cX4_duel 91 = .ok (.aload_n 0, 1) := by decide +kernel
theorem dX4_duel_92 : decode cX4_duel 92 = .ok (.iload_n 1, 1) := by decide +kernel
theorem dX4_duel_93 : decode cX4_duel 93 = .ok (.iconst 1, 1) := by decide +kernel
theorem dX4_duel_94 : decode cX4_duel 94 = .ok (.iadd, 1) := by decide +kernel
theorem dX4_duel_95 : decode cX4_duel 95 = .ok (.iload_n 2, 1) := by decide +kernel
theorem dX4_duel_96 : decode cX4_duel 96 = .ok (.iconst 1, 1) := by decide +kernel
theorem dX4_duel_97 : decode cX4_duel 97 = .ok (.isub, 1) := by decide +kernel
theorem dX4_duel_98 : decode cX4_duel 98 = .ok (.invokevirtual 78, 3) := by decide +kernel
theorem dX4_duel_101 : decode cX4_duel 101 = .ok (.iadd, 1) := by decide +kernel
theorem dX4_duel_102 : decode cX4_duel 102 = .ok (.istore 7, 2) := by decide +kernel
theorem dX4_duel_104 : decode cX4_duel 104 = .ok (.aload_n 0, 1) := by decide +kernel
theorem dX4_duel_105 : decode cX4_duel 105 = .ok (.getfield 21, 3) := by decide +kernel
theorem dX4_duel_108 : decode cX4_duel 108 = .ok (.iload_n 1, 1) := by decide +kernel
theorem dX4_duel_109 : decode cX4_duel 109 = .ok (.invokevirtual 55, 3) := by decide +kernel
theorem dX4_duel_112 : decode cX4_duel 112 = .ok (.iload 5, 2) := by decide +kernel
theorem dX4_duel_114 : decode cX4_duel 114 = .ok (.ifCond .eq 24, 3) := by decide +kernel
theorem dX4_duel_117 : decode cX4_duel 117 = .ok (.iload_n 3, 1) := by decide +kernel
theorem dX4_duel_118 : decode cX4_duel 118 = .ok (.ifCond .eq 13, 3) := by decide +kernel
theorem dX4_duel_121 : decode cX4_duel 121 = .ok (.iload 7, 2) := by decide +kernel
theorem dX4_duel_123 : decode cX4_duel 123 = .ok (.iload 4, 2) := by decide +kernel
theorem dX4_duel_125 : decode cX4_duel 125 = .ok (.if_icmp .le 25, 3) := by decide +kernel
theorem dX4_duel_128 : decode cX4_duel 128 = .ok (.goto 10, 3) := by decide +kernel
theorem dX4_duel_131 : decode cX4_duel 131 = .ok (.iload 7, 2) := by decide +kernel
theorem dX4_duel_133 : decode cX4_duel 133 = .ok (.iload 4, 2) := by decide +kernel
theorem dX4_duel_135 : decode cX4_duel 135 = .ok (.if_icmp .ge 15, 3) := by decide +kernel
theorem dX4_duel_138 : decode cX4_duel 138 = .ok (.iload 7, 2) := by decide +kernel
theorem dX4_duel_140 : decode cX4_duel 140 = .ok (.istore 4, 2) := by decide +kernel
theorem dX4_duel_142 : decode cX4_duel 142 = .ok (.aload_n 0, 1) := by decide +kernel
theorem dX4_duel_143 : decode cX4_duel 143 = .ok (.getfield 18, 3) := by decide +kernel
theorem dX4_duel_146 : decode cX4_duel 146 = .ok (.iload_n 1, 1) := by decide +kernel
theorem dX4_duel_147 : decode cX4_duel 147 = .ok (.iload 5, 2) := by decide +kernel
theorem dX4_duel_149 : decode cX4_duel 149 = .ok (.iastore, 1) := by decide +kernel
theorem dX4_duel_150 : decode cX4_duel 150 = .ok (.iinc 5 1, 3) := by decide +kernel
theorem dX4_duel_153 : decode cX4_duel 153 = .ok (.goto (-109), 3) := by decide +kernel
theorem dX4_duel_156 : decode cX4_duel 156 = .ok (.iload 4, 2) := by decide +kernel
theorem dX4_duel_158 : decode cX4_duel 158 = .ok (.ireturn, 1) := by decide +kernel
theorem dX4_fewest_0 : decode cX4_fewest 0 = .ok (.iload_n 3, 1) := by decide +kernel
theorem dX4_fewest_1 : decode cX4_fewest 1 = .ok (.aload_n 0, 1) := by decide +kernel
theorem dX4_fewest_2 : decode cX4_fewest 2 = .ok (.getfield 21, 3) := by decide +kernel
theorem dX4_fewest_5 : decode cX4_fewest 5 = .ok (.getfield 62, 3) := by decide +kernel
theorem dX4_fewest_8 : decode cX4_fewest 8 = .ok (.iconst (-1), 1) := by decide +kernel
theorem dX4_fewest_9 : decode cX4_fewest 9 = .ok (.ixor, 1) := by decide +kernel
theorem dX4_fewest_10 : decode cX4_fewest 10 = .ok (.iand, 1) := by decide +kernel
theorem dX4_fewest_11 : decode cX4_fewest 11 = .ok (.ifCond .ne 5, 3) := by decide +kernel
theorem dX4_fewest_14 : decode cX4_fewest 14 = .ok (.iconst 0, 1) := by decide +kernel
theorem dX4_fewest_15 : decode cX4_fewest 15 = .ok (.ireturn, 1) := by decide +kernel
theorem dX4_fewest_16 : decode cX4_fewest 16 = .ok (.aload_n 0, 1) := by decide +kernel
theorem dX4_fewest_17 : decode cX4_fewest 17 = .ok (.iload_n 1, 1) := by decide +kernel
theorem dX4_fewest_18 : decode cX4_fewest 18 = .ok (.iload_n 2, 1) := by decide +kernel
theorem dX4_fewest_19 : decode cX4_fewest 19 = .ok (.invokevirtual 31, 3) := by decide +kernel
theorem dX4_fewest_22 : decode cX4_fewest 22 = .ok (.ifCond .eq 5, 3) := by decide +kernel
theorem dX4_fewest_25 : decode cX4_fewest 25 = .ok (.iconst 5, 1) := by decide +kernel
theorem dX4_fewest_26 : decode cX4_fewest 26 = .ok (.ireturn, 1) := by decide +kernel
theorem dX4_fewest_27 : decode cX4_fewest 27 = .ok (.iconst 5, 1) := by decide +kernel
theorem dX4_fewest_28 : decode cX4_fewest 28 = .ok (.istore 4, 2) := by decide +kernel
theorem dX4_fewest_30 : decode cX4_fewest 30 = .ok (.aload_n 0, 1) := by decide +kernel
theorem dX4_fewest_31 : decode cX4_fewest 31 = .ok (.getfield 21, 3) := by decide +kernel
theorem dX4_fewest_34 : decode cX4_fewest 34 = .ok (.iload_n 1, 1) := by decide +kernel
theorem dX4_fewest_35 : decode cX4_fewest 35 = .ok (.invokevirtual 35, 3) := by decide +kernel
theorem dX4_fewest_38 : decode cX4_fewest 38 = .ok (.iconst 0, 1) := by decide +kernel
theorem dX4_fewest_39 : decode cX4_fewest 39 = .ok (.istore 5, 2) := by decide +kernel
theorem dX4_fewest_41 : decode cX4_fewest 41 = .ok (.iload 5, 2) := by decide +kernel
theorem dX4_fewest_43 : decode cX4_fewest 43 = .ok (.aload_n 0, 1) := by decide +kernel
theorem dX4_fewest_44 : decode cX4_fewest 44 = .ok (.getfield 21, 3) := by decide +kernel
theorem dX4_fewest_47 : decode cX4_fewest 47 = .ok (.getfield 39, 3) := by decide +kernel
theorem dX4_fewest_50 : decode cX4_fewest 50 = .ok (.if_icmp .gt 79, 3) := by decide +kernel
theorem dX4_fewest_53 : decode cX4_fewest 53 = .ok (.aload_n 0, 1) := by decide +kernel
theorem dX4_fewest_54 : decode cX4_fewest 54 = .ok (.getfield 21, 3) := by decide +kernel
theorem dX4_fewest_57 : decode cX4_fewest 57 = .ok (.iload 5, 2) := by decide +kernel
theorem dX4_fewest_59 : decode cX4_fewest 59 = .ok (.invokevirtual 43, 3) := by decide +kernel
theorem dX4_fewest_62 : decode cX4_fewest 62 = .ok (.istore 6, 2) := by decide +kernel
theorem dX4_fewest_64 : decode cX4_fewest 64 = .ok (.iload 5, 2) := by decide +kernel
theorem dX4_fewest_66 : decode cX4_fewest 66 = .ok (.ifCond .eq 8, 3) := by decide +kernel
theorem dX4_fewest_69 : decode cX4_fewest 69 = .ok (.iload 6, 2) := by decide +kernel
theorem dX4_fewest_71 : decode cX4_fewest 71 = .ok (.ifCond .le 52, 3) := by decide +kernel
theorem dX4_fewest_74 : decode cX4_fewest 74 = .ok (.aload_n 0, 1) := by decide +kernel
theorem dX4_fewest_75 : decode cX4_fewest 75 = .ok (.getfield 21, 3) := by decide +kernel
theorem dX4_fewest_78 : decode cX4_fewest 78 = .ok (.invokevirtual 47, 3) := by decide +kernel
theorem dX4_fewest_81 : decode cX4_fewest 81 = .ok (.pop, 1) := by decide +kernel
theorem dX4_fewest_82 : decode cX4_fewest 82 = .ok (.aload_n 0, 1) := by decide +kernel
theorem dX4_fewest_83 : decode cX4_fewest 83 = .ok (.iload_n 1, 1) := by decide +kernel
theorem dX4_fewest_84 : decode cX4_fewest 84 = .ok (.iconst 1, 1) := by decide +kernel
theorem dX4_fewest_85 : decode cX4_fewest 85 = .ok (.iadd, 1) := by decide +kernel
theorem dX4_fewest_86 : decode cX4_fewest 86 = .ok (.iload_n 2, 1) := by decide +kernel
theorem dX4_fewest_87 : decode cX4_fewest 87 = .ok (.iconst 1, 1) := by decide +kernel
theorem dX4_fewest_88 : decode cX4_fewest 88 = .ok (.isub, 1) := by decide +kernel
theorem dX4_fewest_89 : decode cX4_fewest 89 = .ok (.iload_n 3, 1) := by decide +kernel
theorem dX4_fewest_90 : decode cX4_fewest 90 = .ok (.invokevirtual 65, 3) := by decide +kernel
theorem dX4_fewest_93 : decode cX4_fewest 93 = .ok (.iload 5, 2) := by decide +kernel
theorem dX4_fewest_95 : decode cX4_fewest 95 = .ok (.ifCond .ne 7, 3) := by decide +kernel
theorem dX4_fewest_98 : decode cX4_fewest 98 = .ok (.iconst 0, 1) := by decide +kernel
theorem dX4_fewest_99 : decode cX4_fewest 99 = .ok (.goto 4, 3) := by decide +kernel
theorem dX4_fewest_102 : decode cX4_fewest 102 = .ok (.iconst 1, 1) := by decide +kernel
theorem dX4_fewest_103 : decode cX4_fewest 103 = .ok (.iadd, 1) := by decide +kernel
theorem dX4_fewest_104 : decode cX4_fewest 104 = .ok (.istore 7, 2) := by decide +kernel
theorem dX4_fewest_106 : decode cX4_fewest 106 = .ok (.iload 4, 2) := by decide +kernel
theorem dX4_fewest_108 : decode cX4_fewest 108 = .ok (.iload 7, 2) := by decide +kernel
theorem dX4_fewest_110 : decode cX4_fewest 110 = .ok (.invokestatic 69, 3) := by decide +kernel
theorem dX4_fewest_113 : decode cX4_fewest 113 = .ok (.istore 4, 2) := by decide +kernel
theorem dX4_fewest_115 : decode cX4_fewest 115 = .ok (.aload_n 0, 1) := by decide +kernel
theorem dX4_fewest_116 : decode cX4_fewest 116 = .ok (.getfield 21, 3) := by decide +kernel
theorem dX4_fewest_119 : decode cX4_fewest 119 = .ok (.iload_n 1, 1) := by decide +kernel
theorem dX4_fewest_120 : decode cX4_fewest 120 = .ok (.invokevirtual 55, 3) := by decide +kernel
theorem dX4_fewest_123 : decode cX4_fewest 123 = .ok (.iinc 5 1, 3) := by decide +kernel
theorem dX4_fewest_126 : decode cX4_fewest 126 = .ok (.goto (-85), 3) := by decide +kernel
theorem dX4_fewest_129 : decode cX4_fewest 129 = .ok (.iload 4, 2) := by decide +kernel
theorem dX4_fewest_131 : decode cX4_fewest 131 = .ok (.ireturn, 1) := by decide +kernel
theorem dX4_isLast_0 : decode cX4_isLast 0 = .ok (.iload_n 2, 1) := by decide +kernel
theorem dX4_isLast_1 : decode cX4_isLast 1 = .ok (.ifCond .le 18, 3) := by decide +kernel
theorem dX4_isLast_4 : decode cX4_isLast 4 = .ok (.iload_n 1, 1) := by decide +kernel
theorem dX4_isLast_5 : decode cX4_isLast 5 = .ok (.iconst 4, 1) := by decide +kernel
theorem dX4_isLast_6 : decode cX4_isLast 6 = .ok (.if_icmp .ge 13, 3) := by decide +kernel
theorem dX4_isLast_9 : decode cX4_isLast 9 = .ok (.aload_n 0, 1) := by decide +kernel
theorem dX4_isLast_10 : decode cX4_isLast 10 = .ok (.getfield 21, 3) := by decide +kernel
theorem dX4_isLast_13 : decode cX4_isLast 13 = .ok (.invokevirtual 25, 3) := by decide +kernel
theorem dX4_isLast_16 : decode cX4_isLast 16 = .ok (.ifCond .eq 7, 3) := by decide +kernel
theorem dX4_isLast_19 : decode cX4_isLast 19 = .ok (.iconst 1, 1) := by decide +kernel
theorem dX4_isLast_20 : decode cX4_isLast 20 = .ok (.goto 4, 3) := by decide +kernel
theorem dX4_isLast_23 : decode cX4_isLast 23 = .ok (.iconst 0, 1) := by decide +kernel
theorem dX4_isLast_24 : decode cX4_isLast 24 = .ok (.ireturn, 1) := by decide +kernel
theorem dX4_reach_0 : decode cX4_reach 0 = .ok (.aload_n 0, 1) := by decide +kernel
theorem dX4_reach_1 : decode cX4_reach 1 = .ok (.getfield 21, 3) := by decide +kernel
theorem dX4_reach_4 : decode cX4_reach 4 = .ok (.getfield 62, 3) := by decide +kernel
theorem dX4_reach_7 : decode cX4_reach 7 = .ok (.istore_n 3, 1) := by decide +kernel
theorem dX4_reach_8 : decode cX4_reach 8 = .ok (.aload_n 0, 1) := by decide +kernel
theorem dX4_reach_9 : decode cX4_reach 9 = .ok (.iload_n 1, 1) := by decide +kernel
theorem dX4_reach_10 : decode cX4_reach 10 = .ok (.iload_n 2, 1) := by decide +kernel
theorem dX4_reach_11 : decode cX4_reach 11 = .ok (.invokevirtual 31, 3) := by decide +kernel
theorem dX4_reach_14 : decode cX4_reach 14 = .ok (.ifCond .eq 5, 3) := by decide +kernel
theorem dX4_reach_17 : decode cX4_reach 17 = .ok (.iload_n 3, 1) := by decide +kernel
theorem dX4_reach_18 : decode cX4_reach 18 = .ok (.ireturn, 1) := by decide +kernel
theorem dX4_reach_19 : decode cX4_reach 19 = .ok (.aload_n 0, 1) := by decide +kernel
theorem dX4_reach_20 : decode cX4_reach 20 = .ok (.getfield 21, 3) := by decide +kernel
theorem dX4_reach_23 : decode cX4_reach 23 = .ok (.iload_n 1, 1) := by decide +kernel
theorem dX4_reach_24 : decode cX4_reach 24 = .ok (.invokevirtual 35, 3) := by decide +kernel
theorem dX4_reach_27 : decode cX4_reach 27 = .ok (.iconst 0, 1) := by decide +kernel
theorem dX4_reach_28 : decode cX4_reach 28 = .ok (.istore 4, 2) := by decide +kernel
theorem dX4_reach_30 : decode cX4_reach 30 = .ok (.iload 4, 2) := by decide +kernel
theorem dX4_reach_32 : decode cX4_reach 32 = .ok (.aload_n 0, 1) := by decide +kernel
theorem dX4_reach_33 : decode cX4_reach 33 = .ok (.getfield 21, 3) := by decide +kernel
theorem dX4_reach_36 : decode cX4_reach 36 = .ok (.getfield 39, 3) := by decide +kernel
theorem dX4_reach_39 : decode cX4_reach 39 = .ok (.if_icmp .gt 59, 3) := by decide +kernel
theorem dX4_reach_42 : decode cX4_reach 42 = .ok (.aload_n 0, 1) := by decide +kernel
theorem dX4_reach_43 : decode cX4_reach 43 = .ok (.getfield 21, 3) := by decide +kernel
theorem dX4_reach_46 : decode cX4_reach 46 = .ok (.iload 4, 2) := by decide +kernel
theorem dX4_reach_48 : decode cX4_reach 48 = .ok (.invokevirtual 43, 3) := by decide +kernel
theorem dX4_reach_51 : decode cX4_reach 51 = .ok (.istore 5, 2) := by decide +kernel
theorem dX4_reach_53 : decode cX4_reach 53 = .ok (.iload 4, 2) := by decide +kernel
theorem dX4_reach_55 : decode cX4_reach 55 = .ok (.ifCond .eq 8, 3) := by decide +kernel
theorem dX4_reach_58 : decode cX4_reach 58 = .ok (.iload 5, 2) := by decide +kernel
theorem dX4_reach_60 : decode cX4_reach 60 = .ok (.ifCond .le 32, 3) := by decide +kernel
theorem dX4_reach_63 : decode cX4_reach 63 = .ok (.aload_n 0, 1) := by decide +kernel
theorem dX4_reach_64 : decode cX4_reach 64 = .ok (.getfield 21, 3) := by decide +kernel
theorem dX4_reach_67 : decode cX4_reach 67 = .ok (.invokevirtual 47, 3) := by decide +kernel
theorem dX4_reach_70 : decode cX4_reach 70 = .ok (.pop, 1) := by decide +kernel
theorem dX4_reach_71 : decode cX4_reach 71 = .ok (.iload_n 3, 1) := by decide +kernel
theorem dX4_reach_72 : decode cX4_reach 72 = .ok (.aload_n 0, 1) := by decide +kernel
theorem dX4_reach_73 : decode cX4_reach 73 = .ok (.iload_n 1, 1) := by decide +kernel
theorem dX4_reach_74 : decode cX4_reach 74 = .ok (.iconst 1, 1) := by decide +kernel
theorem dX4_reach_75 : decode cX4_reach 75 = .ok (.iadd, 1) := by decide +kernel
theorem dX4_reach_76 : decode cX4_reach 76 = .ok (.iload_n 2, 1) := by decide +kernel
theorem dX4_reach_77 : decode cX4_reach 77 = .ok (.iconst 1, 1) := by decide +kernel
theorem dX4_reach_78 : decode cX4_reach 78 = .ok (.isub, 1) := by decide +kernel
theorem dX4_reach_79 : decode cX4_reach 79 = .ok (.invokevirtual 75, 3) := by decide +kernel
theorem dX4_reach_82 : decode cX4_reach 82 = .ok (.ior, 1) := by decide +kernel
theorem dX4_reach_83 : decode cX4_reach 83 = .ok (.istore_n 3, 1) := by decide +kernel
theorem dX4_reach_84 : decode cX4_reach 84 = .ok (.aload_n 0, 1) := by decide +kernel
theorem dX4_reach_85 : decode cX4_reach 85 = .ok (.getfield 21, 3) := by decide +kernel
theorem dX4_reach_88 : decode cX4_reach 88 = .ok (.iload_n 1, 1) := by decide +kernel
theorem dX4_reach_89 : decode cX4_reach 89 = .ok (.invokevirtual 55, 3) := by decide +kernel
theorem dX4_reach_92 : decode cX4_reach 92 = .ok (.iinc 4 1, 3) := by decide +kernel
theorem dX4_reach_95 : decode cX4_reach 95 = .ok (.goto (-65), 3) := by decide +kernel
theorem dX4_reach_98 : decode cX4_reach 98 = .ok (.iload_n 3, 1) := by decide +kernel
theorem dX4_reach_99 : decode cX4_reach 99 = .ok (.ireturn, 1) := by decide +kernel
theorem dX4_seek_0 : decode cX4_seek 0 = .ok (.aload_n 0, 1) := by decide +kernel
theorem dX4_seek_1 : decode cX4_seek 1 = .ok (.getfield 9, 3) := by decide +kernel
theorem dX4_seek_4 : decode cX4_seek 4 = .ok (.iload_n 1, 1) := by decide +kernel
theorem dX4_seek_5 : decode cX4_seek 5 = .ok (.iconst 0, 1) := by decide +kernel
theorem dX4_seek_6 : decode cX4_seek 6 = .ok (.iastore, 1) := by decide +kernel
theorem dX4_seek_7 : decode cX4_seek 7 = .ok (.aload_n 0, 1) := by decide +kernel
theorem dX4_seek_8 : decode cX4_seek 8 = .ok (.getfield 15, 3) := by decide +kernel
theorem dX4_seek_11 : decode cX4_seek 11 = .ok (.iload_n 1, 1) := by decide +kernel
theorem dX4_seek_12 : decode cX4_seek 12 = .ok (.iconst 1, 1) := by decide +kernel
theorem dX4_seek_13 : decode cX4_seek 13 = .ok (.iastore, 1) := by decide +kernel
theorem dX4_seek_14 : decode cX4_seek 14 = .ok (.aload_n 0, 1) := by decide +kernel
theorem dX4_seek_15 : decode cX4_seek 15 = .ok (.getfield 18, 3) := by decide +kernel
theorem dX4_seek_18 : decode cX4_seek 18 = .ok (.iload_n 1, 1) := by decide +kernel
theorem dX4_seek_19 : decode cX4_seek 19 = .ok (.iconst 0, 1) := by decide +kernel
theorem dX4_seek_20 : decode cX4_seek 20 = .ok (.iastore, 1) := by decide +kernel
theorem dX4_seek_21 : decode cX4_seek 21 = .ok (.aload_n 0, 1) := by decide +kernel
theorem dX4_seek_22 : decode cX4_seek 22 = .ok (.iload_n 1, 1) := by decide +kernel
theorem dX4_seek_23 : decode cX4_seek 23 = .ok (.iload_n 2, 1) := by decide +kernel
theorem dX4_seek_24 : decode cX4_seek 24 = .ok (.invokevirtual 31, 3) := by decide +kernel
theorem dX4_seek_27 : decode cX4_seek 27 = .ok (.ifCond .eq 4, 3) := by decide +kernel
theorem dX4_seek_30 : decode cX4_seek 30 = .ok (.return_, 1) := by decide +kernel
theorem dX4_seek_31 : decode cX4_seek 31 = .ok (.aload_n 0, 1) := by decide +kernel
theorem dX4_seek_32 : decode cX4_seek 32 = .ok (.getfield 9, 3) := by decide +kernel
theorem dX4_seek_35 : decode cX4_seek 35 = .ok (.iload_n 1, 1) := by decide +kernel
theorem dX4_seek_36 : decode cX4_seek 36 = .ok (.iconst (-1), 1) := by decide +kernel
theorem dX4_seek_37 : decode cX4_seek 37 = .ok (.iastore, 1) := by decide +kernel
theorem dX4_seek_38 : decode cX4_seek 38 = .ok (.iconst 0, 1) := by decide +kernel
theorem dX4_seek_39 : decode cX4_seek 39 = .ok (.istore_n 3, 1) := by decide +kernel
theorem dX4_seek_40 : decode cX4_seek 40 = .ok (.iconst 0, 1) := by decide +kernel
theorem dX4_seek_41 : decode cX4_seek 41 = .ok (.istore 4, 2) := by decide +kernel
theorem dX4_seek_43 : decode cX4_seek 43 = .ok (.aload_n 0, 1) := by decide +kernel
theorem dX4_seek_44 : decode cX4_seek 44 = .ok (.getfield 21, 3) := by decide +kernel
theorem dX4_seek_47 : decode cX4_seek 47 = .ok (.iload_n 1, 1) := by decide +kernel
theorem dX4_seek_48 : decode cX4_seek 48 = .ok (.invokevirtual 35, 3) := by decide +kernel
theorem dX4_seek_51 : decode cX4_seek 51 = .ok (.iconst 0, 1) := by decide +kernel
theorem dX4_seek_52 : decode cX4_seek 52 = .ok (.istore 5, 2) := by decide +kernel
theorem dX4_seek_54 : decode cX4_seek 54 = .ok (.iload 5, 2) := by decide +kernel
theorem dX4_seek_56 : decode cX4_seek 56 = .ok (.aload_n 0, 1) := by decide +kernel
theorem dX4_seek_57 : decode cX4_seek 57 = .ok (.getfield 21, 3) := by decide +kernel
theorem dX4_seek_60 : decode cX4_seek 60 = .ok (.getfield 39, 3) := by decide +kernel
theorem dX4_seek_63 : decode cX4_seek 63 = .ok (.if_icmp .gt 145, 3) := by decide +kernel
theorem dX4_seek_66 : decode cX4_seek 66 = .ok (.aload_n 0, 1) := by decide +kernel
theorem dX4_seek_67 : decode cX4_seek 67 = .ok (.getfield 21, 3) := by decide +kernel
theorem dX4_seek_70 : decode cX4_seek 70 = .ok (.iload 5, 2) := by decide +kernel
theorem dX4_seek_72 : decode cX4_seek 72 = .ok (.invokevirtual 43, 3) := by decide +kernel
theorem dX4_seek_75 : decode cX4_seek 75 = .ok (.istore 6, 2) := by decide +kernel
theorem dX4_seek_77 : decode cX4_seek 77 = .ok (.iload 5, 2) := by decide +kernel
theorem dX4_seek_79 : decode cX4_seek 79 = .ok (.ifCond .eq 8, 3) := by decide +kernel
theorem dX4_seek_82 : decode cX4_seek 82 = .ok (.iload 6, 2) := by decide +kernel
theorem dX4_seek_84 : decode cX4_seek 84 = .ok (.ifCond .le 109, 3) := by decide +kernel
theorem dX4_seek_87 : decode cX4_seek 87 = .ok (.iload 6, 2) := by decide +kernel
theorem dX4_seek_89 : decode cX4_seek 89 = .ok (.aload_n 0, 1) := by decide +kernel
theorem dX4_seek_90 : decode cX4_seek 90 = .ok (.getfield 21, 3) := by decide +kernel
theorem dX4_seek_93 : decode cX4_seek 93 = .ok (.invokevirtual 47, 3) := by decide +kernel
theorem dX4_seek_96 : decode cX4_seek 96 = .ok (.iadd, 1) := by decide +kernel
theorem dX4_seek_97 : decode cX4_seek 97 = .ok (.istore 7, 2) := by decide +kernel
theorem dX4_seek_99 : decode cX4_seek 99 = .ok (.aload_n 0, 1) := by decide +kernel
theorem dX4_seek_100 : decode cX4_seek 100 = .ok (.iload_n 1, 1) := by decide +kernel
theorem dX4_seek_101 : decode cX4_seek 101 = .ok (.iconst 1, 1) := by decide +kernel
theorem dX4_seek_102 : decode cX4_seek 102 = .ok (.iadd, 1) := by decide +kernel
theorem dX4_seek_103 : decode cX4_seek 103 = .ok (.iload_n 2, 1) := by decide +kernel
theorem dX4_seek_104 : decode cX4_seek 104 = .ok (.iconst 1, 1) := by decide +kernel
theorem dX4_seek_105 : decode cX4_seek 105 = .ok (.isub, 1) := by decide +kernel
theorem dX4_seek_106 : decode cX4_seek 106 = .ok (.invokevirtual 51, 3) := by decide +kernel
theorem dX4_seek_109 : decode cX4_seek 109 = .ok (.aload_n 0, 1) := by decide +kernel
theorem dX4_seek_110 : decode cX4_seek 110 = .ok (.getfield 21, 3) := by decide +kernel
theorem dX4_seek_113 : decode cX4_seek 113 = .ok (.iload_n 1, 1) := by decide +kernel
theorem dX4_seek_114 : decode cX4_seek 114 = .ok (.invokevirtual 55, 3) := by decide +kernel
theorem dX4_seek_117 : decode cX4_seek 117 = .ok (.iload 7, 2) := by decide +kernel
theorem dX4_seek_119 : decode cX4_seek 119 = .ok (.aload_n 0, 1) := by decide +kernel
theorem dX4_seek_120 : decode cX4_seek 120 = .ok (.getfield 9, 3) := by decide +kernel
theorem dX4_seek_123 : decode cX4_seek 123 = .ok (.iload_n 1, 1) := by decide +kernel
theorem dX4_seek_124 : decode cX4_seek 124 = .ok (.iconst 1, 1) := by decide +kernel
theorem dX4_seek_125 : decode cX4_seek 125 = .ok (.iadd, 1) := by decide +kernel
theorem dX4_seek_126 : decode cX4_seek 126 = .ok (.iaload, 1) := by decide +kernel
theorem dX4_seek_127 : decode cX4_seek 127 = .ok (.iadd, 1) := by decide +kernel
theorem dX4_seek_128 : decode cX4_seek 128 = .ok (.istore 7, 2) := by decide +kernel
theorem dX4_seek_130 : decode cX4_seek 130 = .ok (.aload_n 0, 1) := by decide +kernel
theorem dX4_seek_131 : decode cX4_seek 131 = .ok (.iload_n 1, 1) := by decide +kernel
theorem dX4_seek_132 : decode cX4_seek 132 = .ok (.iload 7, 2) := by decide +kernel
theorem dX4_seek_134 : decode cX4_seek 134 = .ok (.aload_n 0, 1) := by decide +kernel
theorem dX4_seek_135 : decode cX4_seek 135 = .ok (.getfield 15, 3) := by decide +kernel
theorem dX4_seek_138 : decode cX4_seek 138 = .ok (.iload_n 1, 1) := by decide +kernel
theorem dX4_seek_139 : decode cX4_seek 139 = .ok (.iconst 1, 1) := by decide +kernel
theorem dX4_seek_140 : decode cX4_seek 140 = .ok (.iadd, 1) := by decide +kernel
theorem dX4_seek_141 : decode cX4_seek 141 = .ok (.iaload, 1) := by decide +kernel
theorem dX4_seek_142 : decode cX4_seek 142 = .ok (.iload 5, 2) := by decide +kernel
theorem dX4_seek_144 : decode cX4_seek 144 = .ok (.aload_n 0, 1) := by decide +kernel
theorem dX4_seek_145 : decode cX4_seek 145 = .ok (.getfield 18, 3) := by decide +kernel
theorem dX4_seek_148 : decode cX4_seek 148 = .ok (.iload_n 1, 1) := by decide +kernel
theorem dX4_seek_149 : decode cX4_seek 149 = .ok (.iconst 1, 1) := by decide +kernel
theorem dX4_seek_150 : decode cX4_seek 150 = .ok (.iadd, 1) := by decide +kernel
theorem dX4_seek_151 : decode cX4_seek 151 = .ok (.iaload, 1) := by decide +kernel
theorem dX4_seek_152 : decode cX4_seek 152 = .ok (.iconst 3, 1) := by decide +kernel
theorem dX4_seek_153 : decode cX4_seek 153 = .ok (.ishl, 1) := by decide +kernel
theorem dX4_seek_154 : decode cX4_seek 154 = .ok (.ior, 1) := by decide +kernel
theorem dX4_seek_155 : decode cX4_seek 155 = .ok (.invokevirtual 58, 3) := by decide +kernel
theorem dX4_seek_158 : decode cX4_seek 158 = .ok (.iload 5, 2) := by decide +kernel
theorem dX4_seek_160 : decode cX4_seek 160 = .ok (.ifCond .ne 8, 3) := by decide +kernel
theorem dX4_seek_163 : decode cX4_seek 163 = .ok (.iload 7, 2) := by decide +kernel
theorem dX4_seek_165 : decode cX4_seek 165 = .ok (.goto 4, 3) := by decide +kernel
theorem dX4_seek_168 : decode cX4_seek 168 = .ok (.iload_n 3, 1) := by decide +kernel
theorem dX4_seek_169 : decode cX4_seek 169 = .ok (.istore_n 3, 1) := by decide +kernel
theorem dX4_seek_170 : decode cX4_seek 170 = .ok (.iload 5, 2) := by decide +kernel
theorem dX4_seek_172 : decode cX4_seek 172 = .ok (.ifCond .ne 14, 3) := by decide +kernel
theorem dX4_seek_175 : decode cX4_seek 175 = .ok (.aload_n 0, 1) := by decide +kernel
theorem dX4_seek_176 : decode cX4_seek 176 = .ok (.getfield 15, 3) := by decide +kernel
theorem dX4_seek_179 : decode cX4_seek 179 = .ok (.iload_n 1, 1) := by decide +kernel
theorem dX4_seek_180 : decode cX4_seek 180 = .ok (.iconst 1, 1) := by decide +kernel
theorem dX4_seek_181 : decode cX4_seek 181 = .ok (.iadd, 1) := by decide +kernel
theorem dX4_seek_182 : decode cX4_seek 182 = .ok (.iaload, 1) := by decide +kernel
theorem dX4_seek_183 : decode cX4_seek 183 = .ok (.goto 5, 3) := by decide +kernel
theorem dX4_seek_186 : decode cX4_seek 186 = .ok (.iload 4, 2) := by decide +kernel
theorem dX4_seek_188 : decode cX4_seek 188 = .ok (.istore 4, 2) := by decide +kernel
theorem dX4_seek_190 : decode cX4_seek 190 = .ok (.goto 12, 3) := by decide +kernel
theorem dX4_seek_193 : decode cX4_seek 193 = .ok (.aload_n 0, 1) := by decide +kernel
theorem dX4_seek_194 : decode cX4_seek 194 = .ok (.iload_n 1, 1) := by decide +kernel
theorem dX4_seek_195 : decode cX4_seek 195 = .ok (.iload_n 3, 1) := by decide +kernel
theorem dX4_seek_196 : decode cX4_seek 196 = .ok (.iload 4, 2) := by decide +kernel
theorem dX4_seek_198 : decode cX4_seek 198 = .ok (.iconst 0, 1) := by decide +kernel
theorem dX4_seek_199 : decode cX4_seek 199 = .ok (.invokevirtual 58, 3) := by decide +kernel
theorem dX4_seek_202 : decode cX4_seek 202 = .ok (.iinc 5 1, 3) := by decide +kernel
theorem dX4_seek_205 : decode cX4_seek 205 = .ok (.goto (-151), 3) := by decide +kernel
theorem dX4_seek_208 : decode cX4_seek 208 = .ok (.return_, 1) := by decide +kernel
theorem dX4_weigh_0 : decode cX4_weigh 0 = .ok (.iload_n 2, 1) := by decide +kernel
theorem dX4_weigh_1 : decode cX4_weigh 1 = .ok (.aload_n 0, 1) := by decide +kernel
theorem dX4_weigh_2 : decode cX4_weigh 2 = .ok (.getfield 9, 3) := by decide +kernel
theorem dX4_weigh_5 : decode cX4_weigh 5 = .ok (.iload_n 1, 1) := by decide +kernel
theorem dX4_weigh_6 : decode cX4_weigh 6 = .ok (.iaload, 1) := by decide +kernel
theorem dX4_weigh_7 : decode cX4_weigh 7 = .ok (.if_icmp .le 28, 3) := by decide +kernel
theorem dX4_weigh_10 : decode cX4_weigh 10 = .ok (.aload_n 0, 1) := by decide +kernel
theorem dX4_weigh_11 : decode cX4_weigh 11 = .ok (.getfield 9, 3) := by decide +kernel
theorem dX4_weigh_14 : decode cX4_weigh 14 = .ok (.iload_n 1, 1) := by decide +kernel
theorem dX4_weigh_15 : decode cX4_weigh 15 = .ok (.iload_n 2, 1) := by decide +kernel
theorem dX4_weigh_16 : decode cX4_weigh 16 = .ok (.iastore, 1) := by decide +kernel
theorem dX4_weigh_17 : decode cX4_weigh 17 = .ok (.aload_n 0, 1) := by decide +kernel
theorem dX4_weigh_18 : decode cX4_weigh 18 = .ok (.getfield 15, 3) := by decide +kernel
theorem dX4_weigh_21 : decode cX4_weigh 21 = .ok (.iload_n 1, 1) := by decide +kernel
theorem dX4_weigh_22 : decode cX4_weigh 22 = .ok (.iload_n 3, 1) := by decide +kernel
theorem dX4_weigh_23 : decode cX4_weigh 23 = .ok (.iastore, 1) := by decide +kernel
theorem dX4_weigh_24 : decode cX4_weigh 24 = .ok (.aload_n 0, 1) := by decide +kernel
theorem dX4_weigh_25 : decode cX4_weigh 25 = .ok (.getfield 18, 3) := by decide +kernel
theorem dX4_weigh_28 : decode cX4_weigh 28 = .ok (.iload_n 1, 1) := by decide +kernel
theorem dX4_weigh_29 : decode cX4_weigh 29 = .ok (.iload 4, 2) := by decide +kernel
theorem dX4_weigh_31 : decode cX4_weigh 31 = .ok (.iastore, 1) := by decide +kernel
theorem dX4_weigh_32 : decode cX4_weigh 32 = .ok (.goto 23, 3) := by decide +kernel
theorem dX4_weigh_35 : decode cX4_weigh 35 = .ok (.iload_n 2, 1) := by decide +kernel
theorem dX4_weigh_36 : decode cX4_weigh 36 = .ok (.aload_n 0, 1) := by decide +kernel
theorem dX4_weigh_37 : decode cX4_weigh 37 = .ok (.getfield 9, 3) := by decide +kernel
theorem dX4_weigh_40 : decode cX4_weigh 40 = .ok (.iload_n 1, 1) := by decide +kernel
theorem dX4_weigh_41 : decode cX4_weigh 41 = .ok (.iaload, 1) := by decide +kernel
theorem dX4_weigh_42 : decode cX4_weigh 42 = .ok (.if_icmp .ne 13, 3) := by decide +kernel
theorem dX4_weigh_45 : decode cX4_weigh 45 = .ok (.aload_n 0, 1) := by decide +kernel
theorem dX4_weigh_46 : decode cX4_weigh 46 = .ok (.getfield 15, 3) := by decide +kernel
theorem dX4_weigh_49 : decode cX4_weigh 49 = .ok (.iload_n 1, 1) := by decide +kernel
theorem dX4_weigh_50 : decode cX4_weigh 50 = .ok (.dup2, 1) := by decide +kernel
theorem dX4_weigh_51 : decode cX4_weigh 51 = .ok (.iaload, 1) := by decide +kernel
theorem dX4_weigh_52 : decode cX4_weigh 52 = .ok (.iload_n 3, 1) := by decide +kernel
theorem dX4_weigh_53 : decode cX4_weigh 53 = .ok (.iadd, 1) := by decide +kernel
theorem dX4_weigh_54 : decode cX4_weigh 54 = .ok (.iastore, 1) := by decide +kernel
theorem dX4_weigh_55 : decode cX4_weigh 55 = .ok (.return_, 1) := by decide +kernel
theorem dX5_add_0 : decode cX5_add 0 = .ok (.aload_n 0, 1) := by decide +kernel
theorem dX5_add_1 : decode cX5_add 1 = .ok (.getfield 32, 3) := by decide +kernel
theorem dX5_add_4 : decode cX5_add 4 = .ok (.sipush 200, 3) := by decide +kernel
theorem dX5_add_7 : decode cX5_add 7 = .ok (.if_icmp .ge 23, 3) := by decide +kernel
theorem dX5_add_10 : decode cX5_add 10 = .ok (.aload_n 0, 1) := by decide +kernel
theorem dX5_add_11 : decode cX5_add 11 = .ok (.getfield 9, 3) := by decide +kernel
theorem dX5_add_14 : decode cX5_add 14 = .ok (.aload_n 0, 1) := by decide +kernel
theorem dX5_add_15 : decode cX5_add 15 = .ok (.getfield 32, 3) := by decide +kernel
theorem dX5_add_18 : decode cX5_add 18 = .ok (.iload_n 1, 1) := by decide +kernel
theorem dX5_add_19 : decode cX5_add 19 = .ok (.iastore, 1) := by decide +kernel
theorem dX5_add_20 : decode cX5_add 20 = .ok (.aload_n 0, 1) := by decide +kernel
theorem dX5_add_21 : decode cX5_add 21 = .ok (.dup, 1) := by decide +kernel
theorem dX5_add_22 : decode cX5_add 22 = .ok (.getfield 32, 3) := by decide +kernel
theorem dX5_add_25 : decode cX5_add 25 = .ok (.iconst 1, 1) := by decide +kernel
theorem dX5_add_26 : decode cX5_add 26 = .ok (.iadd, 1) := by decide +kernel
theorem dX5_add_27 : decode cX5_add 27 = .ok (.putfield 32, 3) := by decide +kernel
theorem dX5_add_30 : decode cX5_add 30 = .ok (.return_, 1) := by decide +kernel
theorem dX5_begin_0 : decode cX5_begin 0 = .ok (.aload_n 0, 1) := by decide +kernel
theorem dX5_begin_1 : decode cX5_begin 1 = .ok (.getfield 18, 3) := by decide +kernel
theorem dX5_begin_4 : decode cX5_begin 4 = .ok (.invokevirtual 55, 3) := by decide +kernel
theorem dX5_begin_7 : decode cX5_begin 7 = .ok (.aload_n 0, 1) := by decide +kernel
theorem dX5_begin_8 : decode cX5_begin 8 = .ok (.iconst 0, 1) := by decide +kernel
theorem dX5_begin_9 : decode cX5_begin 9 = .ok (.putfield 58, 3) := by decide +kernel
theorem dX5_begin_12 : decode cX5_begin 12 = .ok (.aload_n 0, 1) := by decide +kernel
theorem dX5_begin_13 : decode cX5_begin 13 = .ok (.iconst 0, 1) := by decide +kernel
theorem dX5_begin_14 : decode cX5_begin 14 = .ok (.putfield 45, 3) := by decide +kernel
theorem dX5_begin_17 : decode cX5_begin 17 = .ok (.iconst 0, 1) := by decide +kernel
theorem dX5_begin_18 : decode cX5_begin 18 = .ok (.istore_n 1, 1) := by decide +kernel
theorem dX5_begin_19 : decode cX5_begin 19 = .ok (.iload_n 1, 1) := by decide +kernel
theorem dX5_begin_20 : decode cX5_begin 20 = .ok (.iconst 3, 1) := by decide +kernel
theorem dX5_begin_21 : decode cX5_begin 21 = .ok (.if_icmp .gt 30, 3) := by decide +kernel
theorem dX5_begin_24 : decode cX5_begin 24 = .ok (.aload_n 0, 1) := by decide +kernel
theorem dX5_begin_25 : decode cX5_begin 25 = .ok (.getfield 22, 3) := by decide +kernel
theorem dX5_begin_28 : decode cX5_begin 28 = .ok (.iload_n 1, 1) := by decide +kernel
theorem dX5_begin_29 : decode cX5_begin 29 = .ok (.iconst 0, 1) := by decide +kernel
theorem dX5_begin_30 : decode cX5_begin 30 = .ok (.bastore, 1) := by decide +kernel
theorem dX5_begin_31 : decode cX5_begin 31 = .ok (.aload_n 0, 1) := by decide +kernel
theorem dX5_begin_32 : decode cX5_begin 32 = .ok (.getfield 26, 3) := by decide +kernel
theorem dX5_begin_35 : decode cX5_begin 35 = .ok (.iload_n 1, 1) := by decide +kernel
theorem dX5_begin_36 : decode cX5_begin 36 = .ok (.iconst 0, 1) := by decide +kernel
theorem dX5_begin_37 : decode cX5_begin 37 = .ok (.bastore, 1) := by decide +kernel
theorem dX5_begin_38 : decode cX5_begin 38 = .ok (.aload_n 0, 1) := by decide +kernel
theorem dX5_begin_39 : decode cX5_begin 39 = .ok (.getfield 29, 3) := by decide +kernel
theorem dX5_begin_42 : decode cX5_begin 42 = .ok (.iload_n 1, 1) := by decide +kernel
theorem dX5_begin_43 : decode cX5_begin 43 = .ok (.iconst 0, 1) := by decide +kernel
theorem dX5_begin_44 : decode cX5_begin 44 = .ok (.bastore, 1) := by decide +kernel
theorem dX5_begin_45 : decode cX5_begin 45 = .ok (.iinc 1 1, 3) := by decide +kernel
theorem dX5_begin_48 : decode cX5_begin 48 = .ok (.goto (-29), 3) := by decide +kernel
theorem dX5_begin_51 : decode cX5_begin 51 = .ok (.return_, 1) := by decide +kernel
theorem dX5_next_0 : decode cX5_next 0 = .ok (.aload_n 0, 1) := by decide +kernel
theorem dX5_next_1 : decode cX5_next 1 = .ok (.getfield 58, 3) := by decide +kernel
theorem dX5_next_4 : decode cX5_next 4 = .ok (.aload_n 0, 1) := by decide +kernel
theorem dX5_next_5 : decode cX5_next 5 = .ok (.getfield 32, 3) := by decide +kernel
theorem dX5_next_8 : decode cX5_next 8 = .ok (.if_icmp .ge 30, 3) := by decide +kernel
theorem dX5_next_11 : decode cX5_next 11 = .ok (.aload_n 0, 1) := by decide +kernel
theorem dX5_next_12 : decode cX5_next 12 = .ok (.getfield 9, 3) := by decide +kernel
theorem dX5_next_15 : decode cX5_next 15 = .ok (.aload_n 0, 1) := by decide +kernel
theorem dX5_next_16 : decode cX5_next 16 = .ok (.getfield 58, 3) := by decide +kernel
theorem dX5_next_19 : decode cX5_next 19 = .ok (.iaload, 1) := by decide +kernel
theorem dX5_next_20 : decode cX5_next 20 = .ok (.bipush 32, 2) := by decide +kernel
theorem dX5_next_22 : decode cX5_next 22 = .ok (.if_icmp .ne 16, 3) := by decide +kernel
theorem dX5_next_25 : decode cX5_next 25 = .ok (.aload_n 0, 1) := by decide +kernel
theorem dX5_next_26 : decode cX5_next 26 = .ok (.dup, 1) := by decide +kernel
theorem dX5_next_27 : decode cX5_next 27 = .ok (.getfield 58, 3) := by decide +kernel
theorem dX5_next_30 : decode cX5_next 30 = .ok (.iconst 1, 1) := by decide +kernel
theorem dX5_next_31 : decode cX5_next 31 = .ok (.iadd, 1) := by decide +kernel
theorem dX5_next_32 : decode cX5_next 32 = .ok (.putfield 58, 3) := by decide +kernel
theorem dX5_next_35 : decode cX5_next 35 = .ok (.goto (-35), 3) := by decide +kernel
theorem dX5_next_38 : decode cX5_next 38 = .ok (.aload_n 0, 1) := by decide +kernel
theorem dX5_next_39 : decode cX5_next 39 = .ok (.aload_n 0, 1) := by decide +kernel
theorem dX5_next_40 : decode cX5_next 40 = .ok (.getfield 58, 3) := by decide +kernel
theorem dX5_next_43 : decode cX5_next 43 = .ok (.putfield 52, 3) := by decide +kernel
theorem dX5_next_46 : decode cX5_next 46 = .ok (.aload_n 0, 1) := by decide +kernel
theorem dX5_next_47 : decode cX5_next 47 = .ok (.getfield 58, 3) := by decide +kernel
theorem dX5_next_50 : decode cX5_next 50 = .ok (.aload_n 0, 1) := by decide +kernel
theorem dX5_next_51 : decode cX5_next 51 = .ok (.getfield 32, 3) := by decide +kernel
theorem dX5_next_54 : decode cX5_next 54 = .ok (.if_icmp .lt 12, 3) := by decide +kernel
theorem dX5_next_57 : decode cX5_next 57 = .ok (.aload_n 0, 1) := by decide +kernel
theorem dX5_next_58 : decode cX5_next 58 = .ok (.bipush (-2), 2) := by decide +kernel
theorem dX5_next_60 : decode cX5_next 60 = .ok (.putfield 42, 3) := by decide +kernel
theorem dX5_next_63 : decode cX5_next 63 = .ok (.goto 89, 3) := by decide +kernel
theorem dX5_next_66 : decode cX5_next 66 = .ok (.aload_n 0, 1) := by decide +kernel
theorem dX5_next_67 : decode cX5_next 67 = .ok (.getfield 9, 3) := by decide +kernel
theorem dX5_next_70 : decode cX5_next 70 = .ok (.aload_n 0, 1) := by decide +kernel
theorem dX5_next_71 : decode cX5_next 71 = .ok (.getfield 58, 3) := by decide +kernel
theorem dX5_next_74 : decode cX5_next 74 = .ok (.iaload, 1) := by decide +kernel
theorem dX5_next_75 : decode cX5_next 75 = .ok (.invokestatic 61, 3) := by decide +kernel
theorem dX5_next_78 : decode cX5_next 78 = .ok (.ifCond .eq 10, 3) := by decide +kernel
theorem dX5_next_81 : decode cX5_next 81 = .ok (.aload_n 0, 1) := by decide +kernel
theorem dX5_next_82 : decode cX5_next 82 = .ok (.invokevirtual 65, 3) := by decide +kernel
theorem dX5_next_85 : decode cX5_next 85 = .ok (.goto 67, 3) := by decide +kernel
theorem dX5_next_88 : decode cX5_next 88 = .ok (.aload_n 0, 1) := by decide +kernel
theorem dX5_next_89 : decode cX5_next 89 = .ok (.getfield 9, 3) := by decide +kernel
theorem dX5_next_92 : decode cX5_next 92 = .ok (.aload_n 0, 1) := by decide +kernel
theorem dX5_next_93 : decode cX5_next 93 = .ok (.getfield 58, 3) := by decide +kernel
theorem dX5_next_96 : decode cX5_next 96 = .ok (.iaload, 1) := by decide +kernel
theorem dX5_next_97 : decode cX5_next 97 = .ok (.invokestatic 68, 3) := by decide +kernel
theorem dX5_next_100 : decode cX5_next 100 = .ok (.ifCond .eq 10, 3) := by decide +kernel
theorem dX5_next_103 : decode cX5_next 103 = .ok (.aload_n 0, 1) := by decide +kernel
theorem dX5_next_104 : decode cX5_next 104 = .ok (.invokevirtual 71, 3) := by decide +kernel
theorem dX5_next_107 : decode cX5_next 107 = .ok (.goto 45, 3) := by decide +kernel
theorem dX5_next_110 : decode cX5_next 110 = .ok (.aload_n 0, 1) := by decide +kernel
theorem dX5_next_111 : decode cX5_next 111 = .ok (.aload_n 0, 1) := by decide +kernel
theorem dX5_next_112 : decode cX5_next 112 = .ok (.getfield 9, 3) := by decide +kernel
theorem dX5_next_115 : decode cX5_next 115 = .ok (.aload_n 0, 1) := by decide +kernel
theorem dX5_next_116 : decode cX5_next 116 = .ok (.getfield 58, 3) := by decide +kernel
theorem dX5_next_119 : decode cX5_next 119 = .ok (.iaload, 1) := by decide +kernel
theorem dX5_next_120 : decode cX5_next 120 = .ok (.invokestatic 74, 3) := by decide +kernel
theorem dX5_next_123 : decode cX5_next 123 = .ok (.ifCond .eq 15, 3) := by decide +kernel
theorem dX5_next_126 : decode cX5_next 126 = .ok (.aload_n 0, 1) := by decide +kernel
theorem dX5_next_127 : decode cX5_next 127 = .ok (.getfield 9, 3) := by decide +kernel
theorem dX5_next_130 : decode cX5_next 130 = .ok (.aload_n 0, 1) := by decide +kernel
theorem dX5_next_131 : decode cX5_next 131 = .ok (.getfield 58, 3) := by decide +kernel
theorem dX5_next_134 : decode cX5_next 134 = .ok (.iaload, 1) := by decide +kernel
theorem dX5_next_135 : decode cX5_next 135 = .ok (.goto 4, 3) := by decide +kernel
theorem dX5_next_138 : decode cX5_next 138 = .ok (.iconst (-1), 1) := by decide +kernel
theorem dX5_next_139 : decode cX5_next 139 = .ok (.putfield 42, 3) := by decide +kernel
theorem dX5_next_142 : decode cX5_next 142 = .ok (.aload_n 0, 1) := by decide +kernel
theorem dX5_next_143 : decode cX5_next 143 = .ok (.dup, 1) := by decide +kernel
theorem dX5_next_144 : decode cX5_next 144 = .ok (.getfield 58, 3) := by decide +kernel
theorem dX5_next_147 : decode cX5_next 147 = .ok (.iconst 1, 1) := by decide +kernel
theorem dX5_next_148 : decode cX5_next 148 = .ok (.iadd, 1) := by decide +kernel
theorem dX5_next_149 : decode cX5_next 149 = .ok (.putfield 58, 3) := by decide +kernel
theorem dX5_next_152 : decode cX5_next 152 = .ok (.return_, 1) := by decide +kernel
theorem dX5_read_0 : decode cX5_read 0 = .ok (.aload_n 0, 1) := by decide +kernel
theorem dX5_read_1 : decode cX5_read 1 = .ok (.invokevirtual 36, 3) := by decide +kernel
theorem dX5_read_4 : decode cX5_read 4 = .ok (.iconst (-1), 1) := by decide +kernel
theorem dX5_read_5 : decode cX5_read 5 = .ok (.istore_n 1, 1) := by decide +kernel
theorem dX5_read_6 : decode cX5_read 6 = .ok (.iconst 0, 1) := by decide +kernel
theorem dX5_read_7 : decode cX5_read 7 = .ok (.istore_n 2, 1) := by decide +kernel
theorem dX5_read_8 : decode cX5_read 8 = .ok (.iconst 0, 1) := by decide +kernel
theorem dX5_read_9 : decode cX5_read 9 = .ok (.istore_n 3, 1) := by decide +kernel
theorem dX5_read_10 : decode cX5_read 10 = .ok (.iload_n 3, 1) := by decide +kernel
theorem dX5_read_11 : decode cX5_read 11 = .ok (.aload_n 0, 1) := by decide +kernel
theorem dX5_read_12 : decode cX5_read 12 = .ok (.getfield 32, 3) := by decide +kernel
theorem dX5_read_15 : decode cX5_read 15 = .ok (.if_icmp .gt 81, 3) := by decide +kernel
theorem dX5_read_18 : decode cX5_read 18 = .ok (.iload_n 2, 1) := by decide +kernel
theorem dX5_read_19 : decode cX5_read 19 = .ok (.ifCond .ne 77, 3) := by decide +kernel
theorem dX5_read_22 : decode cX5_read 22 = .ok (.aload_n 0, 1) := by decide +kernel
theorem dX5_read_23 : decode cX5_read 23 = .ok (.invokevirtual 39, 3) := by decide +kernel
theorem dX5_read_26 : decode cX5_read 26 = .ok (.aload_n 0, 1) := by decide +kernel
theorem dX5_read_27 : decode cX5_read 27 = .ok (.getfield 42, 3) := by decide +kernel
theorem dX5_read_30 : decode cX5_read 30 = .ok (.bipush (-2), 2) := by decide +kernel
theorem dX5_read_32 : decode cX5_read 32 = .ok (.if_icmp .ne 18, 3) := by decide +kernel
theorem dX5_read_35 : decode cX5_read 35 = .ok (.aload_n 0, 1) := by decide +kernel
theorem dX5_read_36 : decode cX5_read 36 = .ok (.getfield 45, 3) := by decide +kernel
theorem dX5_read_39 : decode cX5_read 39 = .ok (.ifCond .ne 7, 3) := by decide +kernel
theorem dX5_read_42 : decode cX5_read 42 = .ok (.iconst 1, 1) := by decide +kernel
theorem dX5_read_43 : decode cX5_read 43 = .ok (.goto 11, 3) := by decide +kernel
theorem dX5_read_46 : decode cX5_read 46 = .ok (.iconst 0, 1) := by decide +kernel
theorem dX5_read_47 : decode cX5_read 47 = .ok (.goto 7, 3) := by decide +kernel
theorem dX5_read_50 : decode cX5_read 50 = .ok (.aload_n 0, 1) := by decide +kernel
theorem dX5_read_51 : decode cX5_read 51 = .ok (.invokevirtual 48, 3) := by decide +kernel
theorem dX5_read_54 : decode cX5_read 54 = .ok (.istore 4, 2) := by decide +kernel
theorem dX5_read_56 : decode cX5_read 56 = .ok (.iload 4, 2) := by decide +kernel
theorem dX5_read_58 : decode cX5_read 58 = .ok (.ifCond .eq 7, 3) := by decide +kernel
theorem dX5_read_61 : decode cX5_read 61 = .ok (.iconst (-1), 1) := by decide +kernel
theorem dX5_read_62 : decode cX5_read 62 = .ok (.goto 7, 3) := by decide +kernel
theorem dX5_read_65 : decode cX5_read 65 = .ok (.aload_n 0, 1) := by decide +kernel
theorem dX5_read_66 : decode cX5_read 66 = .ok (.getfield 52, 3) := by decide +kernel
theorem dX5_read_69 : decode cX5_read 69 = .ok (.istore_n 1, 1) := by decide +kernel
theorem dX5_read_70 : decode cX5_read 70 = .ok (.iload 4, 2) := by decide +kernel
theorem dX5_read_72 : decode cX5_read 72 = .ok (.ifCond .eq 12, 3) := by decide +kernel
theorem dX5_read_75 : decode cX5_read 75 = .ok (.aload_n 0, 1) := by decide +kernel
theorem dX5_read_76 : decode cX5_read 76 = .ok (.getfield 42, 3) := by decide +kernel
theorem dX5_read_79 : decode cX5_read 79 = .ok (.bipush (-2), 2) := by decide +kernel
theorem dX5_read_81 : decode cX5_read 81 = .ok (.if_icmp .ne 7, 3) := by decide +kernel
theorem dX5_read_84 : decode cX5_read 84 = .ok (.iconst 1, 1) := by decide +kernel
theorem dX5_read_85 : decode cX5_read 85 = .ok (.goto 4, 3) := by decide +kernel
theorem dX5_read_88 : decode cX5_read 88 = .ok (.iconst 0, 1) := by decide +kernel
theorem dX5_read_89 : decode cX5_read 89 = .ok (.istore_n 2, 1) := by decide +kernel
theorem dX5_read_90 : decode cX5_read 90 = .ok (.iinc 3 1, 3) := by decide +kernel
theorem dX5_read_93 : decode cX5_read 93 = .ok (.goto (-83), 3) := by decide +kernel
theorem dX5_read_96 : decode cX5_read 96 = .ok (.aload_n 0, 1) := by decide +kernel
theorem dX5_read_97 : decode cX5_read 97 = .ok (.iconst 0, 1) := by decide +kernel
theorem dX5_read_98 : decode cX5_read 98 = .ok (.putfield 32, 3) := by decide +kernel
theorem dX5_read_101 : decode cX5_read 101 = .ok (.iload_n 1, 1) := by decide +kernel
theorem dX5_read_102 : decode cX5_read 102 = .ok (.ireturn, 1) := by decide +kernel
theorem dX6_clear_0 : decode cX6_clear 0 = .ok (.aload_n 0, 1) := by decide +kernel
theorem dX6_clear_1 : decode cX6_clear 1 = .ok (.iconst 0, 1) := by decide +kernel
theorem dX6_clear_2 : decode cX6_clear 2 = .ok (.putfield 24, 3) := by decide +kernel
theorem dX6_clear_5 : decode cX6_clear 5 = .ok (.aload_n 0, 1) := by decide +kernel
theorem dX6_clear_6 : decode cX6_clear 6 = .ok (.iconst 0, 1) := by decide +kernel
theorem dX6_clear_7 : decode cX6_clear 7 = .ok (.putfield 28, 3) := by decide +kernel
theorem dX6_clear_10 : decode cX6_clear 10 = .ok (.return_, 1) := by decide +kernel
theorem dX6_copyFrom_0 : decode cX6_copyFrom 0 = .ok (.aload_n 0, 1) := by decide +kernel
theorem dX6_copyFrom_1 : decode cX6_copyFrom 1 = .ok (.aload_n 1, 1) := by decide +kernel
theorem dX6_copyFrom_2 : decode cX6_copyFrom 2 = .ok (.getfield 24, 3) := by decide +kernel
theorem dX6_copyFrom_5 : decode cX6_copyFrom 5 = .ok (.putfield 24, 3) := by decide +kernel
theorem dX6_copyFrom_8 : decode cX6_copyFrom 8 = .ok (.aload_n 0, 1) := by decide +kernel
theorem dX6_copyFrom_9 : decode cX6_copyFrom 9 = .ok (.aload_n 1, 1) := by decide +kernel
theorem dX6_copyFrom_10 : decode cX6_copyFrom 10 = .ok (.getfield 28, 3) := by decide +kernel
theorem dX6_copyFrom_13 : decode cX6_copyFrom 13 = .ok (.putfield 28, 3) := by decide +kernel
theorem dX6_copyFrom_16 : decode cX6_copyFrom 16 = .ok (.aload_n 1, 1) := by decide +kernel
theorem dX6_copyFrom_17 : decode cX6_copyFrom 17 = .ok (.getfield 9, 3) := by decide +kernel
theorem dX6_copyFrom_20 : decode cX6_copyFrom 20 = .ok (.iconst 0, 1) := by decide +kernel
theorem dX6_copyFrom_21 : decode cX6_copyFrom 21 = .ok (.aload_n 0, 1) := by decide +kernel
theorem dX6_copyFrom_22 : decode cX6_copyFrom 22 = .ok (.getfield 9, 3) := by decide +kernel
theorem dX6_copyFrom_25 : decode cX6_copyFrom 25 = .ok (.iconst 0, 1) := by decide +kernel
theorem dX6_copyFrom_26 : decode cX6_copyFrom 26 = .ok (.bipush 8, 2) := by decide +kernel
theorem dX6_copyFrom_28 : decode cX6_copyFrom 28 = .ok (.invokestatic 31, 3) := by decide +kernel
theorem dX6_copyFrom_31 : decode cX6_copyFrom 31 = .ok (.aload_n 1, 1) := by decide +kernel
theorem dX6_copyFrom_32 : decode cX6_copyFrom 32 = .ok (.getfield 15, 3) := by decide +kernel
theorem dX6_copyFrom_35 : decode cX6_copyFrom 35 = .ok (.iconst 0, 1) := by decide +kernel
theorem dX6_copyFrom_36 : decode cX6_copyFrom 36 = .ok (.aload_n 0, 1) := by decide +kernel
theorem dX6_copyFrom_37 : decode cX6_copyFrom 37 = .ok (.getfield 15, 3) := by decide +kernel
theorem dX6_copyFrom_40 : decode cX6_copyFrom 40 = .ok (.iconst 0, 1) := by decide +kernel
theorem dX6_copyFrom_41 : decode cX6_copyFrom 41 = .ok (.bipush 8, 2) := by decide +kernel
theorem dX6_copyFrom_43 : decode cX6_copyFrom 43 = .ok (.invokestatic 31, 3) := by decide +kernel
theorem dX6_copyFrom_46 : decode cX6_copyFrom 46 = .ok (.aload_n 1, 1) := by decide +kernel
theorem dX6_copyFrom_47 : decode cX6_copyFrom 47 = .ok (.getfield 18, 3) := by decide +kernel
theorem dX6_copyFrom_50 : decode cX6_copyFrom 50 = .ok (.iconst 0, 1) := by decide +kernel
theorem dX6_copyFrom_51 : decode cX6_copyFrom 51 = .ok (.aload_n 0, 1) := by decide +kernel
theorem dX6_copyFrom_52 : decode cX6_copyFrom 52 = .ok (.getfield 18, 3) := by decide +kernel
theorem dX6_copyFrom_55 : decode cX6_copyFrom 55 = .ok (.iconst 0, 1) := by decide +kernel
theorem dX6_copyFrom_56 : decode cX6_copyFrom 56 = .ok (.bipush 8, 2) := by decide +kernel
theorem dX6_copyFrom_58 : decode cX6_copyFrom 58 = .ok (.invokestatic 31, 3) := by decide +kernel
theorem dX6_copyFrom_61 : decode cX6_copyFrom 61 = .ok (.aload_n 1, 1) := by decide +kernel
theorem dX6_copyFrom_62 : decode cX6_copyFrom 62 = .ok (.getfield 21, 3) := by decide +kernel
theorem dX6_copyFrom_65 : decode cX6_copyFrom 65 = .ok (.iconst 0, 1) := by decide +kernel
theorem dX6_copyFrom_66 : decode cX6_copyFrom 66 = .ok (.aload_n 0, 1) := by decide +kernel
theorem dX6_copyFrom_67 : decode cX6_copyFrom 67 = .ok (.getfield 21, 3) := by decide +kernel
theorem dX6_copyFrom_70 : decode cX6_copyFrom 70 = .ok (.iconst 0, 1) := by decide +kernel
theorem dX6_copyFrom_71 : decode cX6_copyFrom 71 = .ok (.aload_n 1, 1) := by decide +kernel
theorem dX6_copyFrom_72 : decode cX6_copyFrom 72 = .ok (.getfield 28, 3) := by decide +kernel
theorem dX6_copyFrom_75 : decode cX6_copyFrom 75 = .ok (.invokestatic 31, 3) := by decide +kernel
theorem dX6_copyFrom_78 : decode cX6_copyFrom 78 = .ok (.return_, 1) := by decide +kernel
theorem dX7_melts_0 : decode cX7_melts 0 = .ok (.iload_n 1, 1) := by decide +kernel
theorem dX7_melts_1 : decode cX7_melts 1 = .ok (.iload_n 1, 1) := by decide +kernel
theorem dX7_melts_2 : decode cX7_melts 2 = .ok (.imul, 1) := by decide +kernel
theorem dX7_melts_3 : decode cX7_melts 3 = .ok (.ireturn, 1) := by decide +kernel
theorem dX7_shape_0 : decode cX7_shape 0 = .ok (.iload_n 1, 1) := by decide +kernel
theorem dX7_shape_1 : decode cX7_shape 1 = .ok (.bipush 12, 2) := by decide +kernel
theorem dX7_shape_3 : decode cX7_shape 3 = .ok (.idiv, 1) := by decide +kernel
theorem dX7_shape_4 : decode cX7_shape 4 = .ok (.ireturn, 1) := by decide +kernel
theorem dX8_melts_0 : decode cX8_melts 0 = .ok (.iconst 0, 1) := by decide +kernel
theorem dX8_melts_1 : decode cX8_melts 1 = .ok (.iconst 2, 1) := by decide +kernel
theorem dX8_melts_2 : decode cX8_melts 2 = .ok (.aload_n 0, 1) := by decide +kernel
theorem dX8_melts_3 : decode cX8_melts 3 = .ok (.iload_n 1, 1) := by decide +kernel
theorem dX8_melts_4 : decode cX8_melts 4 = .ok (.iload_n 2, 1) := by decide +kernel
theorem dX8_melts_5 : decode cX8_melts 5 = .ok (.iload_n 3, 1) := by decide +kernel
theorem dX8_melts_6 : decode cX8_melts 6 = .ok (.invokespecial 7, 3) := by decide +kernel
theorem dX8_melts_9 : decode cX8_melts 9 = .ok (.imul, 1) := by decide +kernel
theorem dX8_melts_10 : decode cX8_melts 10 = .ok (.iload_n 2, 1) := by decide +kernel
theorem dX8_melts_11 : decode cX8_melts 11 = .ok (.isub, 1) := by decide +kernel
theorem dX8_melts_12 : decode cX8_melts 12 = .ok (.invokestatic 11, 3) := by decide +kernel
theorem dX8_melts_15 : decode cX8_melts 15 = .ok (.ireturn, 1) := by decide +kernel
theorem dX8_shape_0 : decode cX8_shape 0 = .ok (.iload_n 1, 1) := by decide +kernel
theorem dX8_shape_1 : decode cX8_shape 1 = .ok (.bipush 10, 2) := by decide +kernel
theorem dX8_shape_3 : decode cX8_shape 3 = .ok (.idiv, 1) := by decide +kernel
theorem dX8_shape_4 : decode cX8_shape 4 = .ok (.iload_n 1, 1) := by decide +kernel
theorem dX8_shape_5 : decode cX8_shape 5 = .ok (.bipush 50, 2) := by decide +kernel
theorem dX8_shape_7 : decode cX8_shape 7 = .ok (.idiv, 1) := by decide +kernel
theorem dX8_shape_8 : decode cX8_shape 8 = .ok (.iadd, 1) := by decide +kernel
theorem dX8_shape_9 : decode cX8_shape 9 = .ok (.ireturn, 1) := by decide +kernel
theorem dX9_melts_0 : decode cX9_melts 0 = .ok (.aload_n 0, 1) := by decide +kernel
theorem dX9_melts_1 : decode cX9_melts 1 = .ok (.iload_n 1, 1) := by decide +kernel
theorem dX9_melts_2 : decode cX9_melts 2 = .ok (.iload_n 2, 1) := by decide +kernel
theorem dX9_melts_3 : decode cX9_melts 3 = .ok (.iload_n 3, 1) := by decide +kernel
theorem dX9_melts_4 : decode cX9_melts 4 = .ok (.invokespecial 7, 3) := by decide +kernel
theorem dX9_melts_7 : decode cX9_melts 7 = .ok (.iload_n 3, 1) := by decide +kernel
theorem dX9_melts_8 : decode cX9_melts 8 = .ok (.iconst 3, 1) := by decide +kernel
theorem dX9_melts_9 : decode cX9_melts 9 = .ok (.idiv, 1) := by decide +kernel
theorem dX9_melts_10 : decode cX9_melts 10 = .ok (.iadd, 1) := by decide +kernel
theorem dX9_melts_11 : decode cX9_melts 11 = .ok (.ireturn, 1) := by decide +kernel
theorem dX9_shape_0 : decode cX9_shape 0 = .ok (.bipush 9, 2) := by decide +kernel
theorem dX9_shape_2 : decode cX9_shape 2 = .ok (.aload_n 0, 1) := by decide +kernel
theorem dX9_shape_3 : decode cX9_shape 3 = .ok (.iload_n 1, 1) := by decide +kernel
theorem dX9_shape_4 : decode cX9_shape 4 = .ok (.iload_n 2, 1) := by decide +kernel
theorem dX9_shape_5 : decode cX9_shape 5 = .ok (.iload_n 3, 1) := by decide +kernel
theorem dX9_shape_6 : decode cX9_shape 6 = .ok (.invokespecial 11, 3) := by decide +kernel
theorem dX9_shape_9 : decode cX9_shape 9 = .ok (.iload_n 3, 1) := by decide +kernel
theorem dX9_shape_10 : decode cX9_shape 10 = .ok (.iadd, 1) := by decide +kernel
theorem dX9_shape_11 : decode cX9_shape 11 = .ok (.invokestatic 14, 3) := by decide +kernel
theorem dX9_shape_14 : decode cX9_shape 14 = .ok (.ireturn, 1) := by decide +kernel
theorem lk_RX1_63 : Cond.fieldLink RX1 63 (TX1 3).1 (TX1 3).2.1 (TX1 3).2.2.1 ∈ gBIG := gm_at (l := tables_1_1) 114 (by decide +kernel) gs1
theorem lk_RX1_75 : Cond.fieldLink RX1 75 (TX1 9).1 (TX1 9).2.1 (TX1 9).2.2.1 ∈ gBIG := gm_at (l := tables_1_1) 127 (by decide +kernel) gs1
theorem lk_RX1_82 : Cond.fieldLink RX1 82 (TX1 16).1 (TX1 16).2.1 (TX1 16).2.2.1 ∈ gBIG := gm_at (l := tables_1_1) 142 (by decide +kernel) gs1
theorem lk_RX11_97 : Cond.fieldLink RX11 97 (TX1 8).1 (TX1 8).2.1 (TX1 8).2.2.1 ∈ gBIG := gm_at (l := tables_1_1) 124 (by decide +kernel) gs1
theorem lk_RX11_101 : Cond.fieldLink RX11 101 (TX1 10).1 (TX1 10).2.1 (TX1 10).2.2.1 ∈ gBIG := gm_at (l := tables_1_1) 131 (by decide +kernel) gs1
theorem lk_RX11_104 : Cond.fieldLink RX11 104 (TX1 11).1 (TX1 11).2.1 (TX1 11).2.2.1 ∈ gBIG := gm_at (l := tables_1_1) 133 (by decide +kernel) gs1
theorem lk_RX11_107 : Cond.fieldLink RX11 107 (TX1 12).1 (TX1 12).2.1 (TX1 12).2.2.1 ∈ gBIG := gm_at (l := tables_1_1) 135 (by decide +kernel) gs1
theorem lk_RX11_110 : Cond.fieldLink RX11 110 (TX1 13).1 (TX1 13).2.1 (TX1 13).2.2.1 ∈ gBIG := gm_at (l := tables_1_1) 137 (by decide +kernel) gs1
theorem lk_RX11_147 : Cond.fieldLink RX11 147 (TX1 5).1 (TX1 5).2.1 (TX1 5).2.2.1 ∈ gBIG := gm_at (l := tables_1_1) 119 (by decide +kernel) gs1
theorem lk_RX11_150 : Cond.fieldLink RX11 150 (TX1 6).1 (TX1 6).2.1 (TX1 6).2.2.1 ∈ gBIG := gm_at (l := tables_1_1) 121 (by decide +kernel) gs1
theorem lk_RX11_153 : Cond.fieldLink RX11 153 (TX1 7).1 (TX1 7).2.1 (TX1 7).2.2.1 ∈ gBIG := gm_at (l := tables_1_1) 123 (by decide +kernel) gs1
theorem lk_RX11_156 : Cond.fieldLink RX11 156 (TX1 1).1 (TX1 1).2.1 (TX1 1).2.2.1 ∈ gBIG := gm_at (l := tables_1_1) 111 (by decide +kernel) gs1
theorem lk_RX11_159 : Cond.fieldLink RX11 159 (TX1 2).1 (TX1 2).2.1 (TX1 2).2.2.1 ∈ gBIG := gm_at (l := tables_1_1) 113 (by decide +kernel) gs1
theorem lk_RX11_162 : Cond.fieldLink RX11 162 (TX1 3).1 (TX1 3).2.1 (TX1 3).2.2.1 ∈ gBIG := gm_at (l := tables_1_1) 115 (by decide +kernel) gs1
theorem lk_RX11_165 : Cond.fieldLink RX11 165 (TX1 9).1 (TX1 9).2.1 (TX1 9).2.2.1 ∈ gBIG := gm_at (l := tables_1_1) 129 (by decide +kernel) gs1
theorem lk_RX11_179 : Cond.fieldLink RX11 179 (TX5 1).1 (TX5 1).2.1 (TX5 1).2.2.1 ∈ gBIG := gm_at (l := tables_1_1) 217 (by decide +kernel) gs1
theorem lk_RX11_189 : Cond.fieldLink RX11 189 (TX1 14).1 (TX1 14).2.1 (TX1 14).2.2.1 ∈ gBIG := gm_at (l := tables_1_1) 139 (by decide +kernel) gs1
theorem lk_RX11_193 : Cond.fieldLink RX11 193 (TX5 2).1 (TX5 2).2.1 (TX5 2).2.2.1 ∈ gBIG := gm_at (l := tables_1_1) 219 (by decide +kernel) gs1
theorem lk_RX11_202 : Cond.fieldLink RX11 202 (TX6 0).1 (TX6 0).2.1 (TX6 0).2.2.1 ∈ gBIG := gm_at (l := tables_1_1) 89 (by decide +kernel) gs1
theorem lk_RX11_245 : Cond.fieldLink RX11 245 (TX4 1).1 (TX4 1).2.1 (TX4 1).2.2.1 ∈ gBIG := gm_at (l := tables_1_1) 193 (by decide +kernel) gs1
theorem lk_RX11_251 : Cond.fieldLink RX11 251 (TX4 3).1 (TX4 3).2.1 (TX4 3).2.2.1 ∈ gBIG := gm_at (l := tables_1_1) 197 (by decide +kernel) gs1
theorem lk_RX11_254 : Cond.fieldLink RX11 254 (TX4 2).1 (TX4 2).2.1 (TX4 2).2.2.1 ∈ gBIG := gm_at (l := tables_1_1) 195 (by decide +kernel) gs1
theorem lk_RX11_270 : Cond.fieldLink RX11 270 (TX1 16).1 (TX1 16).2.1 (TX1 16).2.2.1 ∈ gBIG := gm_at (l := tables_1_1) 143 (by decide +kernel) gs1
theorem lk_RX11_273 : Cond.fieldLink RX11 273 (TX1 15).1 (TX1 15).2.1 (TX1 15).2.2.1 ∈ gBIG := gm_at (l := tables_1_1) 141 (by decide +kernel) gs1
theorem lk_RX11_298 : Cond.fieldLink RX11 298 (TX1 4).1 (TX1 4).2.1 (TX1 4).2.2.1 ∈ gBIG := gm_at (l := tables_1_1) 117 (by decide +kernel) gs1
theorem lk_RX11_307 : Cond.fieldLink RX11 307 (TX11 7).1 (TX11 7).2.1 (TX11 7).2.2.1 ∈ gBIG := gm_at (l := tables_1_2) 60 (by decide +kernel) gs2
theorem lk_RX11_340 : Cond.fieldLink RX11 340 (TX0 3).1 (TX0 3).2.1 (TX0 3).2.2.1 ∈ gBIG := gm_at (l := tables_1_2) 39 (by decide +kernel) gs2
theorem lk_RX11_370 : Cond.fieldLink RX11 370 (TX11 2).1 (TX11 2).2.1 (TX11 2).2.2.1 ∈ gBIG := gm_at (l := tables_1_2) 55 (by decide +kernel) gs2
theorem lk_RX4_39 : Cond.fieldLink RX4 39 (TX1 8).1 (TX1 8).2.1 (TX1 8).2.2.1 ∈ gBIG := gm_at (l := tables_1_1) 126 (by decide +kernel) gs1
theorem lk_RX4_62 : Cond.fieldLink RX4 62 (TX1 9).1 (TX1 9).2.1 (TX1 9).2.2.1 ∈ gBIG := gm_at (l := tables_1_1) 128 (by decide +kernel) gs1
theorem lk_RX5_32 : Cond.fieldLink RX5 32 (TX5 1).1 (TX5 1).2.1 (TX5 1).2.2.1 ∈ gBIG := gm_at (l := tables_1_1) 216 (by decide +kernel) gs1
theorem lk_RX5_42 : Cond.fieldLink RX5 42 (TX5 5).1 (TX5 5).2.1 (TX5 5).2.2.1 ∈ gBIG := gm_at (l := tables_1_1) 222 (by decide +kernel) gs1
theorem lk_RX5_45 : Cond.fieldLink RX5 45 (TX5 7).1 (TX5 7).2.1 (TX5 7).2.2.1 ∈ gBIG := gm_at (l := tables_1_1) 224 (by decide +kernel) gs1
theorem lk_RX5_52 : Cond.fieldLink RX5 52 (TX5 4).1 (TX5 4).2.1 (TX5 4).2.2.1 ∈ gBIG := gm_at (l := tables_1_1) 221 (by decide +kernel) gs1
theorem lk_RX5_58 : Cond.fieldLink RX5 58 (TX5 3).1 (TX5 3).2.1 (TX5 3).2.2.1 ∈ gBIG := gm_at (l := tables_1_1) 220 (by decide +kernel) gs1
theorem lk_RX6_24 : Cond.fieldLink RX6 24 (TX6 0).1 (TX6 0).2.1 (TX6 0).2.2.1 ∈ gBIG := gm_at (l := tables_1_1) 87 (by decide +kernel) gs1
theorem lk_RX6_28 : Cond.fieldLink RX6 28 (TX6 1).1 (TX6 1).2.1 (TX6 1).2.2.1 ∈ gBIG := gm_at (l := tables_1_1) 90 (by decide +kernel) gs1
theorem ck_RJ6_265 : Cond.constant RJ6 265 (1431655765) ∈ gBIG := gm_at (l := tables_1_4) 77 (by decide +kernel) gs4
theorem ck_RJ6_266 : Cond.constant RJ6 266 (858993459) ∈ gBIG := gm_at (l := tables_1_4) 78 (by decide +kernel) gs4
theorem ck_RJ6_267 : Cond.constant RJ6 267 (252645135) ∈ gBIG := gm_at (l := tables_1_4) 79 (by decide +kernel) gs4
theorem ck_RX1_160 : Cond.constant RX1 160 (1103515245) ∈ gBIG := gm_at (l := tables_1_4) 200 (by decide +kernel) gs4
theorem wf_0 : Cond.methodLink RX11 86 yX11_isKeyKind ∈ gBIG := gm_at (l := tables_1_2) 100 (by decide +kernel) gs2
theorem wf_1 : Cond.code yX11_isKeyKind cX11_isKeyKind 1 (some .boolean) ∈ gBIG := gm_at (l := tables_1_2) 102 (by decide +kernel) gs2
theorem wf_2 : Cond.initialized RX11 ∈ gBIG := gm_at (l := tables_1_1) 1 (by decide +kernel) gs1
theorem wf_3 : Cond.static yX11_isKeyKind ∈ gBIG := gm_at (l := tables_1_2) 101 (by decide +kernel) gs2
theorem wf_4 : Cond.methodLink RX11 90 yX11_isIn ∈ gBIG := gm_at (l := tables_1_2) 103 (by decide +kernel) gs2
theorem wf_5 : Cond.code yX11_isIn cX11_isIn 3 (some .boolean) ∈ gBIG := gm_at (l := tables_1_2) 105 (by decide +kernel) gs2
theorem wf_6 : Cond.static yX11_isIn ∈ gBIG := gm_at (l := tables_1_2) 104 (by decide +kernel) gs2
theorem wf_7 : Cond.methodLink RX11 94 yX11_isGate ∈ gBIG := gm_at (l := tables_1_2) 106 (by decide +kernel) gs2
theorem wf_8 : Cond.code yX11_isGate cX11_isGate 1 (some .boolean) ∈ gBIG := gm_at (l := tables_1_2) 108 (by decide +kernel) gs2
theorem wf_9 : Cond.static yX11_isGate ∈ gBIG := gm_at (l := tables_1_2) 107 (by decide +kernel) gs2
theorem wf_10 : Cond.methodLink RX11 113 yX1_isKey ∈ gBIG := gm_at (l := tables_1_2) 113 (by decide +kernel) gs2
theorem wf_11 : Cond.code yX1_isKey cX1_isKey 2 (some .boolean) ∈ gBIG := gm_at (l := tables_1_2) 116 (by decide +kernel) gs2
theorem wf_12 : Cond.initialized RX1 ∈ gBIG := gm_at (l := tables_1_1) 8 (by decide +kernel) gs1
theorem wf_13 : Cond.instanceMethod yX1_isKey ∈ gBIG := gm_at (l := tables_1_2) 114 (by decide +kernel) gs2
theorem wf_14 : Cond.selects RX1 yX1_isKey yX1_isKey ∈ gBIG := gm_at (l := tables_1_2) 115 (by decide +kernel) gs2
theorem wf_15 : Cond.methodLink RX11 168 yX1_isOver ∈ gBIG := gm_at (l := tables_1_3) 42 (by decide +kernel) gs3
theorem wf_16 : Cond.code yX1_isOver cX1_isOver 1 (some .boolean) ∈ gBIG := gm_at (l := tables_1_3) 45 (by decide +kernel) gs3
theorem wf_17 : Cond.instanceMethod yX1_isOver ∈ gBIG := gm_at (l := tables_1_3) 43 (by decide +kernel) gs3
theorem wf_18 : Cond.selects RX1 yX1_isOver yX1_isOver ∈ gBIG := gm_at (l := tables_1_3) 44 (by decide +kernel) gs3
theorem wf_19 : Cond.methodLink RX11 172 yX1_sunAt ∈ gBIG := gm_at (l := tables_1_3) 46 (by decide +kernel) gs3
theorem wf_20 : Cond.code yX1_sunAt cX1_sunAt 2 (some .int) ∈ gBIG := gm_at (l := tables_1_2) 132 (by decide +kernel) gs2
theorem wf_21 : Cond.instanceMethod yX1_sunAt ∈ gBIG := gm_at (l := tables_1_2) 130 (by decide +kernel) gs2
theorem wf_22 : Cond.selects RX1 yX1_sunAt yX1_sunAt ∈ gBIG := gm_at (l := tables_1_2) 131 (by decide +kernel) gs2
theorem wf_23 : Cond.methodLink RX11 175 yX1_allTeeth ∈ gBIG := gm_at (l := tables_1_3) 47 (by decide +kernel) gs3
theorem wf_24 : Cond.code yX1_allTeeth cX1_allTeeth 3 (some .int) ∈ gBIG := gm_at (l := tables_1_3) 50 (by decide +kernel) gs3
theorem wf_25 : Cond.instanceMethod yX1_allTeeth ∈ gBIG := gm_at (l := tables_1_3) 48 (by decide +kernel) gs3
theorem wf_26 : Cond.selects RX1 yX1_allTeeth yX1_allTeeth ∈ gBIG := gm_at (l := tables_1_3) 49 (by decide +kernel) gs3
theorem wf_27 : Cond.methodLink RX11 229 yX11_countBunches ∈ gBIG := gm_at (l := tables_1_4) 58 (by decide +kernel) gs4
theorem wf_28 : Cond.code yX11_countBunches cX11_countBunches 4 (some .int) ∈ gBIG := gm_at (l := tables_1_4) 61 (by decide +kernel) gs4
theorem wf_29 : Cond.instanceMethod yX11_countBunches ∈ gBIG := gm_at (l := tables_1_4) 60 (by decide +kernel) gs4
theorem wf_30 : Cond.selects RX11 yX11_countBunches yX11_countBunches ∈ gBIG := gm_at (l := (k2_sels lw_privs)) 25 (by decide +kernel) gs0
theorem wf_31 : Cond.methodLink RX11 310 yX11_isRowField ∈ gBIG := gm_at (l := tables_1_4) 218 (by decide +kernel) gs4
theorem wf_32 : Cond.code yX11_isRowField cX11_isRowField 3 (some .boolean) ∈ gBIG := gm_at (l := tables_1_4) 221 (by decide +kernel) gs4
theorem wf_33 : Cond.instanceMethod yX11_isRowField ∈ gBIG := gm_at (l := tables_1_4) 220 (by decide +kernel) gs4
theorem wf_34 : Cond.selects RX11 yX11_isRowField yX11_isRowField ∈ gBIG := gm_at (l := (k2_sels lw_privs)) 35 (by decide +kernel) gs0
theorem wf_35 : Cond.methodLink RX11 319 yX11_isPlace ∈ gBIG := gm_at (l := tables_1_5) 2 (by decide +kernel) gs5
theorem wf_36 : Cond.code yX11_isPlace cX11_isPlace 1 (some .boolean) ∈ gBIG := gm_at (l := tables_1_5) 4 (by decide +kernel) gs5
theorem wf_37 : Cond.static yX11_isPlace ∈ gBIG := gm_at (l := tables_1_5) 3 (by decide +kernel) gs5
theorem wf_38 : Cond.methodLink RX11 328 yX11_refusalOf ∈ gBIG := gm_at (l := tables_1_5) 20 (by decide +kernel) gs5
theorem wf_39 : Cond.code yX11_refusalOf cX11_refusalOf 3 (some .int) ∈ gBIG := gm_at (l := tables_1_5) 23 (by decide +kernel) gs5
theorem wf_40 : Cond.instanceMethod yX11_refusalOf ∈ gBIG := gm_at (l := tables_1_5) 22 (by decide +kernel) gs5
theorem wf_41 : Cond.selects RX11 yX11_refusalOf yX11_refusalOf ∈ gBIG := gm_at (l := (k2_sels lw_privs)) 38 (by decide +kernel) gs0
theorem wf_42 : Cond.methodLink RX11 334 yX11_holdsKey ∈ gBIG := gm_at (l := tables_1_5) 44 (by decide +kernel) gs5
theorem wf_43 : Cond.code yX11_holdsKey cX11_holdsKey 2 (some .boolean) ∈ gBIG := gm_at (l := tables_1_5) 47 (by decide +kernel) gs5
theorem wf_44 : Cond.instanceMethod yX11_holdsKey ∈ gBIG := gm_at (l := tables_1_5) 46 (by decide +kernel) gs5
theorem wf_45 : Cond.selects RX11 yX11_holdsKey yX11_holdsKey ∈ gBIG := gm_at (l := (k2_sels lw_privs)) 40 (by decide +kernel) gs0
theorem wf_46 : Cond.methodLink RX11 288 yJ6_bitCount_0f7a4 ∈ gBIG := gm_at (l := tables_1_4) 74 (by decide +kernel) gs4
theorem wf_47 : Cond.code yJ6_bitCount_0f7a4 cJ6_bitCount_0f7a4 1 (some .int) ∈ gBIG := gm_at (l := tables_1_4) 76 (by decide +kernel) gs4
theorem wf_48 : Cond.initialized RJ6 ∈ gBIG := gm_at (l := tables_1_1) 20 (by decide +kernel) gs1
theorem wf_49 : Cond.static yJ6_bitCount_0f7a4 ∈ gBIG := gm_at (l := tables_1_4) 75 (by decide +kernel) gs4
theorem wf_50 : Cond.methodLink RX1 66 arraycopyName ∈ gBIG := gm_at (l := tables_1_4) 14 (by decide +kernel) gs4
theorem wf_51 : Cond.native arraycopyName ∈ gBIG := gm_at (l := tables_1_3) 216 (by decide +kernel) gs3
theorem wf_52 : Cond.static arraycopyName ∈ gBIG := gm_at (l := tables_1_3) 215 (by decide +kernel) gs3
theorem wf_53 : Cond.initialized "java/lang/System" ∈ gBIG := gm_at (l := tables_1_1) 19 (by decide +kernel) gs1
theorem wf_54 : Cond.methodLink RX6 31 arraycopyName ∈ gBIG := gm_at (l := tables_1_3) 214 (by decide +kernel) gs3
theorem wf_55 : Cond.methodLink RX1 78 yX6_copyFrom ∈ gBIG := gm_at (l := tables_1_5) 163 (by decide +kernel) gs5
theorem wf_56 : Cond.code yX6_copyFrom cX6_copyFrom 2 none ∈ gBIG := gm_at (l := tables_1_3) 213 (by decide +kernel) gs3
theorem wf_57 : Cond.initialized RX6 ∈ gBIG := gm_at (l := tables_1_1) 9 (by decide +kernel) gs1
theorem wf_58 : Cond.instanceMethod yX6_copyFrom ∈ gBIG := gm_at (l := tables_1_3) 211 (by decide +kernel) gs3
theorem wf_59 : Cond.selects RX6 yX6_copyFrom yX6_copyFrom ∈ gBIG := gm_at (l := tables_1_3) 212 (by decide +kernel) gs3
theorem wf_60 : Cond.methodLink RX11 368 yX1_copyFrom ∈ gBIG := gm_at (l := tables_1_5) 159 (by decide +kernel) gs5
theorem wf_61 : Cond.code yX1_copyFrom cX1_copyFrom 2 none ∈ gBIG := gm_at (l := tables_1_5) 162 (by decide +kernel) gs5
theorem wf_62 : Cond.instanceMethod yX1_copyFrom ∈ gBIG := gm_at (l := tables_1_5) 160 (by decide +kernel) gs5
theorem wf_63 : Cond.selects RX1 yX1_copyFrom yX1_copyFrom ∈ gBIG := gm_at (l := tables_1_5) 161 (by decide +kernel) gs5
theorem wf_64 : Cond.methodLink RX11 203 yX1_restAct ∈ gBIG := gm_at (l := tables_1_3) 222 (by decide +kernel) gs3
theorem wf_65 : Cond.code yX1_restAct cX1_restAct 2 (some .int) ∈ gBIG := gm_at (l := tables_1_3) 225 (by decide +kernel) gs3
theorem wf_66 : Cond.instanceMethod yX1_restAct ∈ gBIG := gm_at (l := tables_1_3) 223 (by decide +kernel) gs3
theorem wf_67 : Cond.selects RX1 yX1_restAct yX1_restAct ∈ gBIG := gm_at (l := tables_1_3) 224 (by decide +kernel) gs3
theorem wf_68 : Cond.methodLink RX1 144 yX1_isKey ∈ gBIG := gm_at (l := tables_1_3) 234 (by decide +kernel) gs3
theorem wf_69 : Cond.methodLink RX1 137 yX1_tell ∈ gBIG := gm_at (l := tables_1_3) 230 (by decide +kernel) gs3
theorem wf_70 : Cond.code yX1_tell cX1_tell 5 (some .int) ∈ gBIG := gm_at (l := tables_1_3) 233 (by decide +kernel) gs3
theorem wf_71 : Cond.instanceMethod yX1_tell ∈ gBIG := gm_at (l := tables_1_3) 231 (by decide +kernel) gs3
theorem wf_72 : Cond.selects RX1 yX1_tell yX1_tell ∈ gBIG := gm_at (l := tables_1_3) 232 (by decide +kernel) gs3
theorem wf_73 : Cond.methodLink RX1 140 yX1_melt ∈ gBIG := gm_at (l := tables_1_3) 237 (by decide +kernel) gs3
theorem wf_74 : Cond.code yX1_melt cX1_melt 3 (some .int) ∈ gBIG := gm_at (l := tables_1_4) 0 (by decide +kernel) gs4
theorem wf_75 : Cond.instanceMethod yX1_melt ∈ gBIG := gm_at (l := tables_1_3) 238 (by decide +kernel) gs3
theorem wf_76 : Cond.selects RX1 yX1_melt yX1_melt ∈ gBIG := gm_at (l := tables_1_3) 239 (by decide +kernel) gs3
theorem wf_77 : Cond.methodLink RX11 206 yX1_goBy ∈ gBIG := gm_at (l := tables_1_3) 226 (by decide +kernel) gs3
theorem wf_78 : Cond.code yX1_goBy cX1_goBy 2 (some .int) ∈ gBIG := gm_at (l := tables_1_3) 229 (by decide +kernel) gs3
theorem wf_79 : Cond.instanceMethod yX1_goBy ∈ gBIG := gm_at (l := tables_1_3) 227 (by decide +kernel) gs3
theorem wf_80 : Cond.selects RX1 yX1_goBy yX1_goBy ∈ gBIG := gm_at (l := tables_1_3) 228 (by decide +kernel) gs3
theorem wf_81 : Cond.methodLink RX11 209 yX11_scored ∈ gBIG := gm_at (l := tables_1_4) 2 (by decide +kernel) gs4
theorem wf_82 : Cond.code yX11_scored cX11_scored 2 (some .int) ∈ gBIG := gm_at (l := tables_1_4) 5 (by decide +kernel) gs4
theorem wf_83 : Cond.instanceMethod yX11_scored ∈ gBIG := gm_at (l := tables_1_4) 4 (by decide +kernel) gs4
theorem wf_84 : Cond.selects RX11 yX11_scored yX11_scored ∈ gBIG := gm_at (l := (k2_sels lw_privs)) 23 (by decide +kernel) gs0
theorem wf_85 : Cond.methodLink RX5 55 yX6_clear ∈ gBIG := gm_at (l := tables_1_3) 71 (by decide +kernel) gs3
theorem wf_86 : Cond.code yX6_clear cX6_clear 1 none ∈ gBIG := gm_at (l := tables_1_3) 74 (by decide +kernel) gs3
theorem wf_87 : Cond.instanceMethod yX6_clear ∈ gBIG := gm_at (l := tables_1_3) 72 (by decide +kernel) gs3
theorem wf_88 : Cond.selects RX6 yX6_clear yX6_clear ∈ gBIG := gm_at (l := tables_1_3) 73 (by decide +kernel) gs3
theorem wf_89 : Cond.methodLink RX5 36 yX5_begin ∈ gBIG := gm_at (l := tables_1_3) 67 (by decide +kernel) gs3
theorem wf_90 : Cond.code yX5_begin cX5_begin 2 none ∈ gBIG := gm_at (l := tables_1_3) 70 (by decide +kernel) gs3
theorem wf_91 : Cond.initialized RX5 ∈ gBIG := gm_at (l := tables_1_1) 11 (by decide +kernel) gs1
theorem wf_92 : Cond.instanceMethod yX5_begin ∈ gBIG := gm_at (l := tables_1_3) 69 (by decide +kernel) gs3
theorem wf_93 : Cond.selects RX5 yX5_begin yX5_begin ∈ gBIG := gm_at (l := (k2_sels lw_privs)) 5 (by decide +kernel) gs0
theorem wf_94 : Cond.methodLink RX5 39 yX5_next ∈ gBIG := gm_at (l := tables_1_3) 75 (by decide +kernel) gs3
theorem wf_95 : Cond.code yX5_next cX5_next 1 none ∈ gBIG := gm_at (l := tables_1_3) 78 (by decide +kernel) gs3
theorem wf_96 : Cond.instanceMethod yX5_next ∈ gBIG := gm_at (l := tables_1_3) 77 (by decide +kernel) gs3
theorem wf_97 : Cond.selects RX5 yX5_next yX5_next ∈ gBIG := gm_at (l := (k2_sels lw_privs)) 6 (by decide +kernel) gs0
theorem wf_98 : Cond.methodLink RX11 186 yX5_read ∈ gBIG := gm_at (l := tables_1_3) 63 (by decide +kernel) gs3
theorem wf_99 : Cond.code yX5_read cX5_read 5 (some .int) ∈ gBIG := gm_at (l := tables_1_3) 66 (by decide +kernel) gs3
theorem wf_100 : Cond.instanceMethod yX5_read ∈ gBIG := gm_at (l := tables_1_3) 64 (by decide +kernel) gs3
theorem wf_101 : Cond.selects RX5 yX5_read yX5_read ∈ gBIG := gm_at (l := tables_1_3) 65 (by decide +kernel) gs3
theorem wf_102 : Cond.methodLink RX11 196 yX6_copyFrom ∈ gBIG := gm_at (l := tables_1_3) 210 (by decide +kernel) gs3
theorem wf_103 : Cond.methodLink RX11 212 yX1_save ∈ gBIG := gm_at (l := tables_1_4) 10 (by decide +kernel) gs4
theorem wf_104 : Cond.code yX1_save cX1_save 3 none ∈ gBIG := gm_at (l := tables_1_4) 13 (by decide +kernel) gs4
theorem wf_105 : Cond.instanceMethod yX1_save ∈ gBIG := gm_at (l := tables_1_4) 11 (by decide +kernel) gs4
theorem wf_106 : Cond.selects RX1 yX1_save yX1_save ∈ gBIG := gm_at (l := tables_1_4) 12 (by decide +kernel) gs4
theorem wf_107 : Cond.methodLink RX11 218 yX1_restore ∈ gBIG := gm_at (l := tables_1_4) 21 (by decide +kernel) gs4
theorem wf_108 : Cond.code yX1_restore cX1_restore 3 none ∈ gBIG := gm_at (l := tables_1_4) 24 (by decide +kernel) gs4
theorem wf_109 : Cond.instanceMethod yX1_restore ∈ gBIG := gm_at (l := tables_1_4) 22 (by decide +kernel) gs4
theorem wf_110 : Cond.selects RX1 yX1_restore yX1_restore ∈ gBIG := gm_at (l := tables_1_4) 23 (by decide +kernel) gs4
theorem wf_111 : Cond.methodLink RX11 301 yX1_drawAct ∈ gBIG := gm_at (l := tables_1_4) 196 (by decide +kernel) gs4
theorem wf_112 : Cond.code yX1_drawAct cX1_drawAct 1 (some .int) ∈ gBIG := gm_at (l := tables_1_4) 199 (by decide +kernel) gs4
theorem wf_113 : Cond.instanceMethod yX1_drawAct ∈ gBIG := gm_at (l := tables_1_4) 197 (by decide +kernel) gs4
theorem wf_114 : Cond.selects RX1 yX1_drawAct yX1_drawAct ∈ gBIG := gm_at (l := tables_1_4) 198 (by decide +kernel) gs4
theorem wf_115 : Cond.methodLink RX11 135 yX11_put ∈ gBIG := gm_at (l := tables_1_3) 3 (by decide +kernel) gs3
theorem wf_116 : Cond.code yX11_put cX11_put 5 (some .int) ∈ gBIG := gm_at (l := tables_1_3) 5 (by decide +kernel) gs3
theorem wf_117 : Cond.static yX11_put ∈ gBIG := gm_at (l := tables_1_3) 4 (by decide +kernel) gs3
theorem wf_118 : Cond.methodLink RX11 182 yX5_add ∈ gBIG := gm_at (l := tables_1_3) 55 (by decide +kernel) gs3
theorem wf_119 : Cond.code yX5_add cX5_add 2 none ∈ gBIG := gm_at (l := tables_1_3) 58 (by decide +kernel) gs3
theorem wf_120 : Cond.instanceMethod yX5_add ∈ gBIG := gm_at (l := tables_1_3) 56 (by decide +kernel) gs3
theorem wf_121 : Cond.selects RX5 yX5_add yX5_add ∈ gBIG := gm_at (l := tables_1_3) 57 (by decide +kernel) gs3
theorem wf_122 : Cond.methodLink RX11 238 yX11_isPlan ∈ gBIG := gm_at (l := tables_1_4) 84 (by decide +kernel) gs4
theorem wf_123 : Cond.code yX11_isPlan cX11_isPlan 1 (some .boolean) ∈ gBIG := gm_at (l := tables_1_4) 86 (by decide +kernel) gs4
theorem wf_124 : Cond.static yX11_isPlan ∈ gBIG := gm_at (l := tables_1_4) 85 (by decide +kernel) gs4
theorem wf_125 : Cond.methodLink RX4 25 yX1_isOver ∈ gBIG := gm_at (l := tables_1_4) 95 (by decide +kernel) gs4
theorem wf_126 : Cond.methodLink RX4 31 yX4_isLast ∈ gBIG := gm_at (l := tables_1_4) 91 (by decide +kernel) gs4
theorem wf_127 : Cond.code yX4_isLast cX4_isLast 3 (some .boolean) ∈ gBIG := gm_at (l := tables_1_4) 94 (by decide +kernel) gs4
theorem wf_128 : Cond.initialized RX4 ∈ gBIG := gm_at (l := tables_1_1) 10 (by decide +kernel) gs1
theorem wf_129 : Cond.instanceMethod yX4_isLast ∈ gBIG := gm_at (l := tables_1_4) 93 (by decide +kernel) gs4
theorem wf_130 : Cond.selects RX4 yX4_isLast yX4_isLast ∈ gBIG := gm_at (l := (k2_sels lw_privs)) 28 (by decide +kernel) gs0
theorem wf_131 : Cond.code yX4_seek cX4_seek 8 none ∈ gBIG := gm_at (l := tables_1_4) 90 (by decide +kernel) gs4
theorem wf_132 : Cond.instanceMethod yX4_seek ∈ gBIG := gm_at (l := tables_1_4) 89 (by decide +kernel) gs4
theorem wf_133 : Cond.selects RX4 yX4_seek yX4_seek ∈ gBIG := gm_at (l := (k2_sels lw_privs)) 27 (by decide +kernel) gs0
theorem wf_134 : Cond.methodLink RX4 35 yX1_save ∈ gBIG := gm_at (l := tables_1_4) 96 (by decide +kernel) gs4
theorem wf_135 : Cond.methodLink RX4 43 yX1_tell ∈ gBIG := gm_at (l := tables_1_4) 97 (by decide +kernel) gs4
theorem wf_136 : Cond.methodLink RX4 47 yX1_melt ∈ gBIG := gm_at (l := tables_1_4) 98 (by decide +kernel) gs4
theorem wf_137 : Cond.methodLink RX4 51 yX4_seek ∈ gBIG := gm_at (l := tables_1_4) 99 (by decide +kernel) gs4
theorem wf_138 : Cond.methodLink RX4 55 yX1_restore ∈ gBIG := gm_at (l := tables_1_4) 100 (by decide +kernel) gs4
theorem wf_139 : Cond.methodLink RX4 58 yX4_weigh ∈ gBIG := gm_at (l := tables_1_4) 101 (by decide +kernel) gs4
theorem wf_140 : Cond.code yX4_weigh cX4_weigh 5 none ∈ gBIG := gm_at (l := tables_1_4) 104 (by decide +kernel) gs4
theorem wf_141 : Cond.instanceMethod yX4_weigh ∈ gBIG := gm_at (l := tables_1_4) 103 (by decide +kernel) gs4
theorem wf_142 : Cond.selects RX4 yX4_weigh yX4_weigh ∈ gBIG := gm_at (l := (k2_sels lw_privs)) 29 (by decide +kernel) gs0
theorem wf_143 : Cond.methodLink RX1 85 Lib.Math.min.name ∈ gBIG := gm_at (l := tables_1_3) 236 (by decide +kernel) gs3
theorem wf_144 : Cond.static Lib.Math.min.name ∈ gBIG := gm_at (l := tables_1_2) 191 (by decide +kernel) gs2
theorem wf_145 : Cond.initialized "java/lang/Math" ∈ gBIG := gm_at (l := tables_1_1) 14 (by decide +kernel) gs1
theorem wf_146 : Cond.code Lib.Math.min.name Lib.Math.min.code 2 (some .int) ∈ gBIG := gm_at (l := tables_1_2) 192 (by decide +kernel) gs2
theorem wf_147 : Cond.methodLink RX1 91 Lib.Math.max.name ∈ gBIG := gm_at (l := tables_1_2) 168 (by decide +kernel) gs2
theorem wf_148 : Cond.static Lib.Math.max.name ∈ gBIG := gm_at (l := tables_1_2) 152 (by decide +kernel) gs2
theorem wf_149 : Cond.code Lib.Math.max.name Lib.Math.max.code 2 (some .int) ∈ gBIG := gm_at (l := tables_1_2) 153 (by decide +kernel) gs2
theorem wf_150 : Cond.methodLink RX11 248 yX1_haltsOf ∈ gBIG := gm_at (l := tables_1_4) 109 (by decide +kernel) gs4
theorem wf_151 : Cond.code yX1_haltsOf cX1_haltsOf 2 (some .int) ∈ gBIG := gm_at (l := tables_1_4) 112 (by decide +kernel) gs4
theorem wf_152 : Cond.instanceMethod yX1_haltsOf ∈ gBIG := gm_at (l := tables_1_4) 110 (by decide +kernel) gs4
theorem wf_153 : Cond.selects RX1 yX1_haltsOf yX1_haltsOf ∈ gBIG := gm_at (l := tables_1_4) 111 (by decide +kernel) gs4
theorem wf_154 : Cond.methodLink RX11 257 yX11_isKeySet ∈ gBIG := gm_at (l := tables_1_4) 121 (by decide +kernel) gs4
theorem wf_155 : Cond.code yX11_isKeySet cX11_isKeySet 2 (some .boolean) ∈ gBIG := gm_at (l := tables_1_4) 124 (by decide +kernel) gs4
theorem wf_156 : Cond.instanceMethod yX11_isKeySet ∈ gBIG := gm_at (l := tables_1_4) 123 (by decide +kernel) gs4
theorem wf_157 : Cond.selects RX11 yX11_isKeySet yX11_isKeySet ∈ gBIG := gm_at (l := (k2_sels lw_privs)) 30 (by decide +kernel) gs0
theorem wf_158 : Cond.code yX4_fewest cX4_fewest 8 (some .int) ∈ gBIG := gm_at (l := tables_1_4) 128 (by decide +kernel) gs4
theorem wf_159 : Cond.instanceMethod yX4_fewest ∈ gBIG := gm_at (l := tables_1_4) 127 (by decide +kernel) gs4
theorem wf_160 : Cond.selects RX4 yX4_fewest yX4_fewest ∈ gBIG := gm_at (l := (k2_sels lw_privs)) 31 (by decide +kernel) gs0
theorem wf_161 : Cond.code yX4_reach cX4_reach 6 (some .int) ∈ gBIG := gm_at (l := tables_1_4) 138 (by decide +kernel) gs4
theorem wf_162 : Cond.instanceMethod yX4_reach ∈ gBIG := gm_at (l := tables_1_4) 137 (by decide +kernel) gs4
theorem wf_163 : Cond.selects RX4 yX4_reach yX4_reach ∈ gBIG := gm_at (l := (k2_sels lw_privs)) 32 (by decide +kernel) gs0
theorem wf_164 : Cond.methodLink RX11 235 yX11_leastOf ∈ gBIG := gm_at (l := tables_1_4) 71 (by decide +kernel) gs4
theorem wf_165 : Cond.code yX11_leastOf cX11_leastOf 1 (some .int) ∈ gBIG := gm_at (l := tables_1_4) 73 (by decide +kernel) gs4
theorem wf_166 : Cond.static yX11_leastOf ∈ gBIG := gm_at (l := tables_1_4) 72 (by decide +kernel) gs4
theorem wf_167 : Cond.methodLink RX4 75 yX4_reach ∈ gBIG := gm_at (l := tables_1_4) 139 (by decide +kernel) gs4
theorem wf_168 : Cond.methodLink RX4 78 yX4_duel ∈ gBIG := gm_at (l := tables_1_4) 148 (by decide +kernel) gs4
theorem wf_169 : Cond.code yX4_duel cX4_duel 8 (some .int) ∈ gBIG := gm_at (l := tables_1_4) 147 (by decide +kernel) gs4
theorem wf_170 : Cond.instanceMethod yX4_duel ∈ gBIG := gm_at (l := tables_1_4) 146 (by decide +kernel) gs4
theorem wf_171 : Cond.selects RX4 yX4_duel yX4_duel ∈ gBIG := gm_at (l := (k2_sels lw_privs)) 33 (by decide +kernel) gs0
theorem wf_172 : Cond.methodLink RX1 153 yX1_isOver ∈ gBIG := gm_at (l := tables_1_4) 19 (by decide +kernel) gs4
theorem wf_173 : Cond.methodLink RX1 157 yX1_restAct ∈ gBIG := gm_at (l := tables_1_4) 20 (by decide +kernel) gs4
theorem wf_174 : Cond.methodLink RX11 215 yX1_goRest ∈ gBIG := gm_at (l := tables_1_4) 15 (by decide +kernel) gs4
theorem wf_175 : Cond.code yX1_goRest cX1_goRest 4 (some .int) ∈ gBIG := gm_at (l := tables_1_4) 18 (by decide +kernel) gs4
theorem wf_176 : Cond.instanceMethod yX1_goRest ∈ gBIG := gm_at (l := tables_1_4) 16 (by decide +kernel) gs4
theorem wf_177 : Cond.selects RX1 yX1_goRest yX1_goRest ∈ gBIG := gm_at (l := tables_1_4) 17 (by decide +kernel) gs4
theorem wf_178 : Cond.methodLink RX1 161 yX1_drawAct ∈ gBIG := gm_at (l := tables_1_4) 209 (by decide +kernel) gs4
theorem wf_179 : Cond.methodLink RX11 304 yX1_goLots ∈ gBIG := gm_at (l := tables_1_4) 205 (by decide +kernel) gs4
theorem wf_180 : Cond.code yX1_goLots cX1_goLots 3 (some .int) ∈ gBIG := gm_at (l := tables_1_4) 208 (by decide +kernel) gs4
theorem wf_181 : Cond.instanceMethod yX1_goLots ∈ gBIG := gm_at (l := tables_1_4) 206 (by decide +kernel) gs4
theorem wf_182 : Cond.selects RX1 yX1_goLots yX1_goLots ∈ gBIG := gm_at (l := tables_1_4) 207 (by decide +kernel) gs4
theorem wf_183 : Cond.code yX2_shape cX2_shape 4 (some .int) ∈ gBIG := gm_at (l := tables_1_2) 179 (by decide +kernel) gs2
theorem wf_184 : Cond.initialized RX2 ∈ gBIG := gm_at (l := tables_1_1) 3 (by decide +kernel) gs1
theorem wf_185 : Cond.methodLink RX1 117 yX3_shape ∈ gBIG := gm_at (l := tables_1_2) 173 (by decide +kernel) gs2
theorem wf_186 : Cond.sameMethod RX3 RX3 "shape" "(III)I" ∈ gBIG := gm_at (l := tables_1_2) 176 (by decide +kernel) gs2
theorem wf_187 : Cond.instanceMethod yX3_shape ∈ gBIG := gm_at (l := tables_1_2) 174 (by decide +kernel) gs2
theorem wf_188 : Cond.code yX3_shape cX3_shape 4 (some .int) ∈ gBIG := gm_at (l := tables_1_2) 198 (by decide +kernel) gs2
theorem wf_189 : Cond.selects RX2 yX3_shape yX2_shape ∈ gBIG := gm_at (l := tables_1_2) 177 (by decide +kernel) gs2
theorem wf_190 : Cond.instanceMethod yX2_shape ∈ gBIG := gm_at (l := tables_1_2) 178 (by decide +kernel) gs2
theorem wf_191 : Cond.methodLink RX1 169 yX1_misfitsAt ∈ gBIG := gm_at (l := tables_1_4) 178 (by decide +kernel) gs4
theorem wf_192 : Cond.code yX1_misfitsAt cX1_misfitsAt 8 (some .int) ∈ gBIG := gm_at (l := tables_1_4) 181 (by decide +kernel) gs4
theorem wf_193 : Cond.instanceMethod yX1_misfitsAt ∈ gBIG := gm_at (l := tables_1_4) 180 (by decide +kernel) gs4
theorem wf_194 : Cond.selects RX1 yX1_misfitsAt yX1_misfitsAt ∈ gBIG := gm_at (l := (k2_sels lw_privs)) 34 (by decide +kernel) gs0
theorem wf_195 : Cond.methodLink RX1 94 yX1_sunAt ∈ gBIG := gm_at (l := tables_1_2) 129 (by decide +kernel) gs2
theorem wf_196 : Cond.methodLink RX1 98 yX1_heatAt ∈ gBIG := gm_at (l := tables_1_2) 125 (by decide +kernel) gs2
theorem wf_197 : Cond.code yX1_heatAt cX1_heatAt 2 (some .int) ∈ gBIG := gm_at (l := tables_1_2) 128 (by decide +kernel) gs2
theorem wf_198 : Cond.instanceMethod yX1_heatAt ∈ gBIG := gm_at (l := tables_1_2) 127 (by decide +kernel) gs2
theorem wf_199 : Cond.selects RX1 yX1_heatAt yX1_heatAt ∈ gBIG := gm_at (l := (k2_sels lw_privs)) 0 (by decide +kernel) gs0
theorem wf_200 : Cond.methodLink RX1 101 yX1_shadeAt ∈ gBIG := gm_at (l := tables_1_2) 133 (by decide +kernel) gs2
theorem wf_201 : Cond.code yX1_shadeAt cX1_shadeAt 2 (some .int) ∈ gBIG := gm_at (l := tables_1_2) 136 (by decide +kernel) gs2
theorem wf_202 : Cond.instanceMethod yX1_shadeAt ∈ gBIG := gm_at (l := tables_1_2) 135 (by decide +kernel) gs2
theorem wf_203 : Cond.selects RX1 yX1_shadeAt yX1_shadeAt ∈ gBIG := gm_at (l := (k2_sels lw_privs)) 1 (by decide +kernel) gs0
theorem wf_204 : Cond.code yX2_melts cX2_melts 4 (some .int) ∈ gBIG := gm_at (l := tables_1_2) 143 (by decide +kernel) gs2
theorem wf_205 : Cond.methodLink RX1 104 yX3_melts ∈ gBIG := gm_at (l := tables_1_2) 137 (by decide +kernel) gs2
theorem wf_206 : Cond.sameMethod RX3 RX3 "melts" "(III)I" ∈ gBIG := gm_at (l := tables_1_2) 140 (by decide +kernel) gs2
theorem wf_207 : Cond.instanceMethod yX3_melts ∈ gBIG := gm_at (l := tables_1_2) 138 (by decide +kernel) gs2
theorem wf_208 : Cond.code yX3_melts cX3_melts 4 (some .int) ∈ gBIG := gm_at (l := tables_1_2) 162 (by decide +kernel) gs2
theorem wf_209 : Cond.selects RX2 yX3_melts yX2_melts ∈ gBIG := gm_at (l := tables_1_2) 141 (by decide +kernel) gs2
theorem wf_210 : Cond.instanceMethod yX2_melts ∈ gBIG := gm_at (l := tables_1_2) 142 (by decide +kernel) gs2
theorem wf_211 : Cond.code yX8_shape cX8_shape 4 (some .int) ∈ gBIG := gm_at (l := tables_1_2) 185 (by decide +kernel) gs2
theorem wf_212 : Cond.initialized RX8 ∈ gBIG := gm_at (l := tables_1_1) 4 (by decide +kernel) gs1
theorem wf_213 : Cond.selects RX8 yX3_shape yX8_shape ∈ gBIG := gm_at (l := tables_1_2) 183 (by decide +kernel) gs2
theorem wf_214 : Cond.instanceMethod yX8_shape ∈ gBIG := gm_at (l := tables_1_2) 184 (by decide +kernel) gs2
theorem wf_215 : Cond.initialized RX3 ∈ gBIG := gm_at (l := tables_1_1) 2 (by decide +kernel) gs1
theorem wf_216 : Cond.methodLink RX8 7 yX3_melts ∈ gBIG := gm_at (l := tables_1_2) 150 (by decide +kernel) gs2
theorem wf_217 : Cond.superclass RX8 RX3 ∈ gBIG := gm_at (l := tables_1_1) 53 (by decide +kernel) gs1
theorem wf_218 : Cond.methodLink RX8 11 Lib.Math.max.name ∈ gBIG := gm_at (l := tables_1_2) 151 (by decide +kernel) gs2
theorem wf_219 : Cond.code yX8_melts cX8_melts 4 (some .int) ∈ gBIG := gm_at (l := tables_1_2) 149 (by decide +kernel) gs2
theorem wf_220 : Cond.selects RX8 yX3_melts yX8_melts ∈ gBIG := gm_at (l := tables_1_2) 147 (by decide +kernel) gs2
theorem wf_221 : Cond.instanceMethod yX8_melts ∈ gBIG := gm_at (l := tables_1_2) 148 (by decide +kernel) gs2
theorem wf_222 : Cond.methodLink RX10 11 yX8_shape ∈ gBIG := gm_at (l := tables_1_2) 196 (by decide +kernel) gs2
theorem wf_223 : Cond.sameMethod RX8 RX8 "shape" "(III)I" ∈ gBIG := gm_at (l := tables_1_8) 71 (by decide +kernel) gs8
theorem wf_224 : Cond.superclass RX10 RX8 ∈ gBIG := gm_at (l := tables_1_1) 60 (by decide +kernel) gs1
theorem wf_225 : Cond.methodLink RX10 14 Lib.Math.max.name ∈ gBIG := gm_at (l := tables_1_2) 197 (by decide +kernel) gs2
theorem wf_226 : Cond.code yX10_shape cX10_shape 4 (some .int) ∈ gBIG := gm_at (l := tables_1_2) 195 (by decide +kernel) gs2
theorem wf_227 : Cond.initialized RX10 ∈ gBIG := gm_at (l := tables_1_1) 5 (by decide +kernel) gs1
theorem wf_228 : Cond.selects RX10 yX3_shape yX10_shape ∈ gBIG := gm_at (l := tables_1_2) 193 (by decide +kernel) gs2
theorem wf_229 : Cond.instanceMethod yX10_shape ∈ gBIG := gm_at (l := tables_1_2) 194 (by decide +kernel) gs2
theorem wf_230 : Cond.methodLink RX10 7 yX8_melts ∈ gBIG := gm_at (l := tables_1_2) 161 (by decide +kernel) gs2
theorem wf_231 : Cond.sameMethod RX8 RX8 "melts" "(III)I" ∈ gBIG := gm_at (l := tables_1_8) 69 (by decide +kernel) gs8
theorem wf_232 : Cond.code yX10_melts cX10_melts 4 (some .int) ∈ gBIG := gm_at (l := tables_1_2) 160 (by decide +kernel) gs2
theorem wf_233 : Cond.selects RX10 yX3_melts yX10_melts ∈ gBIG := gm_at (l := tables_1_2) 158 (by decide +kernel) gs2
theorem wf_234 : Cond.instanceMethod yX10_melts ∈ gBIG := gm_at (l := tables_1_2) 159 (by decide +kernel) gs2
theorem wf_235 : Cond.code yX7_shape cX7_shape 4 (some .int) ∈ gBIG := gm_at (l := tables_1_2) 182 (by decide +kernel) gs2
theorem wf_236 : Cond.initialized RX7 ∈ gBIG := gm_at (l := tables_1_1) 6 (by decide +kernel) gs1
theorem wf_237 : Cond.selects RX7 yX3_shape yX7_shape ∈ gBIG := gm_at (l := tables_1_2) 180 (by decide +kernel) gs2
theorem wf_238 : Cond.instanceMethod yX7_shape ∈ gBIG := gm_at (l := tables_1_2) 181 (by decide +kernel) gs2
theorem wf_239 : Cond.code yX7_melts cX7_melts 4 (some .int) ∈ gBIG := gm_at (l := tables_1_2) 146 (by decide +kernel) gs2
theorem wf_240 : Cond.selects RX7 yX3_melts yX7_melts ∈ gBIG := gm_at (l := tables_1_2) 144 (by decide +kernel) gs2
theorem wf_241 : Cond.instanceMethod yX7_melts ∈ gBIG := gm_at (l := tables_1_2) 145 (by decide +kernel) gs2
theorem wf_242 : Cond.methodLink RX9 11 yX7_shape ∈ gBIG := gm_at (l := tables_1_2) 189 (by decide +kernel) gs2
theorem wf_243 : Cond.sameMethod RX7 RX7 "shape" "(III)I" ∈ gBIG := gm_at (l := tables_1_8) 70 (by decide +kernel) gs8
theorem wf_244 : Cond.superclass RX9 RX7 ∈ gBIG := gm_at (l := tables_1_1) 74 (by decide +kernel) gs1
theorem wf_245 : Cond.methodLink RX9 14 Lib.Math.min.name ∈ gBIG := gm_at (l := tables_1_2) 190 (by decide +kernel) gs2
theorem wf_246 : Cond.code yX9_shape cX9_shape 4 (some .int) ∈ gBIG := gm_at (l := tables_1_2) 188 (by decide +kernel) gs2
theorem wf_247 : Cond.initialized RX9 ∈ gBIG := gm_at (l := tables_1_1) 7 (by decide +kernel) gs1
theorem wf_248 : Cond.selects RX9 yX3_shape yX9_shape ∈ gBIG := gm_at (l := tables_1_2) 186 (by decide +kernel) gs2
theorem wf_249 : Cond.instanceMethod yX9_shape ∈ gBIG := gm_at (l := tables_1_2) 187 (by decide +kernel) gs2
theorem wf_250 : Cond.methodLink RX9 7 yX7_melts ∈ gBIG := gm_at (l := tables_1_2) 157 (by decide +kernel) gs2
theorem wf_251 : Cond.sameMethod RX7 RX7 "melts" "(III)I" ∈ gBIG := gm_at (l := tables_1_8) 68 (by decide +kernel) gs8
theorem wf_252 : Cond.code yX9_melts cX9_melts 4 (some .int) ∈ gBIG := gm_at (l := tables_1_2) 156 (by decide +kernel) gs2
theorem wf_253 : Cond.selects RX9 yX3_melts yX9_melts ∈ gBIG := gm_at (l := tables_1_2) 154 (by decide +kernel) gs2
theorem wf_254 : Cond.instanceMethod yX9_melts ∈ gBIG := gm_at (l := tables_1_2) 155 (by decide +kernel) gs2
theorem wf_255 : Cond.methodLink RX11 276 yX11_loneKind ∈ gBIG := gm_at (l := tables_1_4) 165 (by decide +kernel) gs4
theorem wf_256 : Cond.code yX11_loneKind cX11_loneKind 1 (some .int) ∈ gBIG := gm_at (l := tables_1_4) 167 (by decide +kernel) gs4
theorem wf_257 : Cond.static yX11_loneKind ∈ gBIG := gm_at (l := tables_1_4) 166 (by decide +kernel) gs4
theorem wf_258 : Cond.methodLink RX11 279 yX11_loneStraw ∈ gBIG := gm_at (l := tables_1_4) 168 (by decide +kernel) gs4
theorem wf_259 : Cond.code yX11_loneStraw cX11_loneStraw 1 (some .int) ∈ gBIG := gm_at (l := tables_1_4) 170 (by decide +kernel) gs4
theorem wf_260 : Cond.static yX11_loneStraw ∈ gBIG := gm_at (l := tables_1_4) 169 (by decide +kernel) gs4
theorem wf_261 : Cond.methodLink RX11 282 yX11_loneTeeth ∈ gBIG := gm_at (l := tables_1_4) 171 (by decide +kernel) gs4
theorem wf_262 : Cond.code yX11_loneTeeth cX11_loneTeeth 1 (some .int) ∈ gBIG := gm_at (l := tables_1_4) 173 (by decide +kernel) gs4
theorem wf_263 : Cond.static yX11_loneTeeth ∈ gBIG := gm_at (l := tables_1_4) 172 (by decide +kernel) gs4
theorem wf_264 : Cond.methodLink RX11 285 yX1_misfits ∈ gBIG := gm_at (l := tables_1_4) 174 (by decide +kernel) gs4
theorem wf_265 : Cond.code yX1_misfits cX1_misfits 9 (some .int) ∈ gBIG := gm_at (l := tables_1_4) 177 (by decide +kernel) gs4
theorem wf_266 : Cond.instanceMethod yX1_misfits ∈ gBIG := gm_at (l := tables_1_4) 175 (by decide +kernel) gs4
theorem wf_267 : Cond.selects RX1 yX1_misfits yX1_misfits ∈ gBIG := gm_at (l := tables_1_4) 176 (by decide +kernel) gs4
theorem cm_X11_isKeyKind : gcm mX11_isKeyKind 1 := ⟨wf_1, wf_2, by decide, by decide, by decide, by decide +kernel, by decide⟩
theorem cm_X11_isGate : gcm mX11_isGate 1 := ⟨wf_8, wf_2, by decide, by decide, by decide, by decide +kernel, by decide⟩
theorem cm_X1_isKey : gcm mX1_isKey 1 := ⟨wf_11, wf_12, by decide, by decide, by decide, by decide +kernel, by decide⟩
theorem cm_X1_isOver : gcm mX1_isOver 0 := ⟨wf_16, wf_12, by decide, by decide, by decide, by decide +kernel, by decide⟩
theorem cm_X1_sunAt : gcm mX1_sunAt 1 := ⟨wf_20, wf_12, by decide, by decide, by decide, by decide +kernel, by decide⟩
theorem cm_X1_allTeeth : gcm mX1_allTeeth 0 := ⟨wf_24, wf_12, by decide, by decide, by decide, by decide +kernel, by decide⟩
theorem cm_X11_countBunches : gcm mX11_countBunches 0 := ⟨wf_28, wf_2, by decide, by decide, by decide, by decide +kernel, by decide⟩
theorem cm_X11_isRowField : gcm mX11_isRowField 2 := ⟨wf_32, wf_2, by decide, by decide, by decide, by decide +kernel, by decide⟩
theorem cm_X11_isPlace : gcm mX11_isPlace 1 := ⟨wf_36, wf_2, by decide, by decide, by decide, by decide +kernel, by decide⟩
theorem cm_X11_refusalOf : gcm mX11_refusalOf 2 := ⟨wf_39, wf_2, by decide, by decide, by decide, by decide +kernel, by decide⟩
theorem cm_X11_holdsKey : gcm mX11_holdsKey 1 := ⟨wf_43, wf_2, by decide, by decide, by decide, by decide +kernel, by decide⟩
theorem cm_J6_bitCount_0f7a4 : gcm mJ6_bitCount_0f7a4 1 := ⟨wf_47, wf_48, by decide, by decide, by decide, by decide +kernel, by decide⟩
theorem cm_X6_copyFrom : gcm mX6_copyFrom 1 := ⟨wf_56, wf_57, by decide, by decide, by decide, by decide +kernel, by decide⟩
theorem cm_X1_copyFrom : gcm mX1_copyFrom 1 := ⟨wf_61, wf_12, by decide, by decide, by decide, by decide +kernel, by decide⟩
theorem cm_X1_restAct : gcm mX1_restAct 0 := ⟨wf_65, wf_12, by decide, by decide, by decide, by decide +kernel, by decide⟩
theorem cm_X1_tell : gcm mX1_tell 1 := ⟨wf_70, wf_12, by decide, by decide, by decide, by decide +kernel, by decide⟩
theorem cm_X1_melt : gcm mX1_melt 0 := ⟨wf_74, wf_12, by decide, by decide, by decide, by decide +kernel, by decide⟩
theorem cm_X1_goBy : gcm mX1_goBy 1 := ⟨wf_78, wf_12, by decide, by decide, by decide, by decide +kernel, by decide⟩
theorem cm_X11_scored : gcm mX11_scored 1 := ⟨wf_82, wf_2, by decide, by decide, by decide, by decide +kernel, by decide⟩
theorem cm_X6_clear : gcm mX6_clear 0 := ⟨wf_86, wf_57, by decide, by decide, by decide, by decide +kernel, by decide⟩
theorem cm_X5_begin : gcm mX5_begin 0 := ⟨wf_90, wf_91, by decide, by decide, by decide, by decide +kernel, by decide⟩
theorem cm_X5_next : gcm mX5_next 0 := ⟨wf_95, wf_91, by decide, by decide, by decide, by decide +kernel, by decide⟩
theorem cm_X5_read : gcm mX5_read 0 := ⟨wf_99, wf_91, by decide, by decide, by decide, by decide +kernel, by decide⟩
theorem cm_X1_save : gcm mX1_save 1 := ⟨wf_104, wf_12, by decide, by decide, by decide, by decide +kernel, by decide⟩
theorem cm_X1_restore : gcm mX1_restore 1 := ⟨wf_108, wf_12, by decide, by decide, by decide, by decide +kernel, by decide⟩
theorem cm_X1_drawAct : gcm mX1_drawAct 0 := ⟨wf_112, wf_12, by decide, by decide, by decide, by decide +kernel, by decide⟩
theorem cm_X11_put : gcm mX11_put 4 := ⟨wf_116, wf_2, by decide, by decide, by decide, by decide +kernel, by decide⟩
theorem cm_X5_add : gcm mX5_add 1 := ⟨wf_119, wf_91, by decide, by decide, by decide, by decide +kernel, by decide⟩
theorem cm_X11_isPlan : gcm mX11_isPlan 1 := ⟨wf_123, wf_2, by decide, by decide, by decide, by decide +kernel, by decide⟩
theorem cm_X4_isLast : gcm mX4_isLast 2 := ⟨wf_127, wf_128, by decide, by decide, by decide, by decide +kernel, by decide⟩
theorem cm_X4_seek : gcm mX4_seek 2 := ⟨wf_131, wf_128, by decide, by decide, by decide, by decide +kernel, by decide⟩
theorem cm_X4_weigh : gcm mX4_weigh 4 := ⟨wf_140, wf_128, by decide, by decide, by decide, by decide +kernel, by decide⟩
theorem cm_X1_haltsOf : gcm mX1_haltsOf 1 := ⟨wf_151, wf_12, by decide, by decide, by decide, by decide +kernel, by decide⟩
theorem cm_X11_isKeySet : gcm mX11_isKeySet 1 := ⟨wf_155, wf_2, by decide, by decide, by decide, by decide +kernel, by decide⟩
theorem cm_X4_fewest : gcm mX4_fewest 3 := ⟨wf_158, wf_128, by decide, by decide, by decide, by decide +kernel, by decide⟩
theorem cm_X4_reach : gcm mX4_reach 2 := ⟨wf_161, wf_128, by decide, by decide, by decide, by decide +kernel, by decide⟩
theorem cm_X11_leastOf : gcm mX11_leastOf 1 := ⟨wf_165, wf_2, by decide, by decide, by decide, by decide +kernel, by decide⟩
theorem cm_X4_duel : gcm mX4_duel 2 := ⟨wf_169, wf_128, by decide, by decide, by decide, by decide +kernel, by decide⟩
theorem cm_X1_goRest : gcm mX1_goRest 1 := ⟨wf_175, wf_12, by decide, by decide, by decide, by decide +kernel, by decide⟩
theorem cm_X1_goLots : gcm mX1_goLots 0 := ⟨wf_180, wf_12, by decide, by decide, by decide, by decide +kernel, by decide⟩
theorem cm_X2_shape : gcm mX2_shape 3 := ⟨wf_183, wf_184, by decide, by decide, by decide, by decide +kernel, by decide⟩
theorem cm_X1_misfitsAt : gcm mX1_misfitsAt 3 := ⟨wf_192, wf_12, by decide, by decide, by decide, by decide +kernel, by decide⟩
theorem cm_X1_heatAt : gcm mX1_heatAt 1 := ⟨wf_197, wf_12, by decide, by decide, by decide, by decide +kernel, by decide⟩
theorem cm_X1_shadeAt : gcm mX1_shadeAt 1 := ⟨wf_201, wf_12, by decide, by decide, by decide, by decide +kernel, by decide⟩
theorem cm_X2_melts : gcm mX2_melts 3 := ⟨wf_204, wf_184, by decide, by decide, by decide, by decide +kernel, by decide⟩
theorem cm_X8_shape : gcm mX8_shape 3 := ⟨wf_211, wf_212, by decide, by decide, by decide, by decide +kernel, by decide⟩
theorem cm_X3_melts : gcm mX3_melts 3 := ⟨wf_208, wf_215, by decide, by decide, by decide, by decide +kernel, by decide⟩
theorem cm_X8_melts : gcm mX8_melts 3 := ⟨wf_219, wf_212, by decide, by decide, by decide, by decide +kernel, by decide⟩
theorem cm_X10_shape : gcm mX10_shape 3 := ⟨wf_226, wf_227, by decide, by decide, by decide, by decide +kernel, by decide⟩
theorem cm_X10_melts : gcm mX10_melts 3 := ⟨wf_232, wf_227, by decide, by decide, by decide, by decide +kernel, by decide⟩
theorem cm_X7_shape : gcm mX7_shape 3 := ⟨wf_235, wf_236, by decide, by decide, by decide, by decide +kernel, by decide⟩
theorem cm_X7_melts : gcm mX7_melts 3 := ⟨wf_239, wf_236, by decide, by decide, by decide, by decide +kernel, by decide⟩
theorem cm_X9_shape : gcm mX9_shape 3 := ⟨wf_246, wf_247, by decide, by decide, by decide, by decide +kernel, by decide⟩
theorem cm_X9_melts : gcm mX9_melts 3 := ⟨wf_252, wf_247, by decide, by decide, by decide, by decide +kernel, by decide⟩
theorem cm_X11_loneKind : gcm mX11_loneKind 1 := ⟨wf_256, wf_2, by decide, by decide, by decide, by decide +kernel, by decide⟩
theorem cm_X11_loneStraw : gcm mX11_loneStraw 1 := ⟨wf_259, wf_2, by decide, by decide, by decide, by decide +kernel, by decide⟩
theorem cm_X11_loneTeeth : gcm mX11_loneTeeth 1 := ⟨wf_262, wf_2, by decide, by decide, by decide, by decide +kernel, by decide⟩
theorem cm_X1_misfits : gcm mX1_misfits 3 := ⟨wf_265, wf_12, by decide, by decide, by decide, by decide +kernel, by decide⟩
