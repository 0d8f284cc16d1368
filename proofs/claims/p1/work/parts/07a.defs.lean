def gmx (J : gI) : gI := fun a => if a < 67 then J a else I0 a
theorem gmx_eq {J : gI} (h : ∀ a, 67 ≤ a → J a = I0 a) : J = gmx J := by
  funext a
  unfold gmx
  split
  · rfl
  · exact h a (by omega)
theorem G_ldc2w {d : Nat} {M : gM} {mc ms k n pc : Nat} {L : gL} {S : List Value} {sh : List (Nat × Nat)} {R : gR} {I : gI} {Q : Option Value → gH → Prop} {v : Int64} {i : Nat} (hw : Cond.constantLong M.1.cls i v ∈ gBIG) (hd : decode M.2.1 pc = .ok (.ldc2_w i, 3)) (kk : G d M mc ms k n (pc + 3) L (.long v :: S) sh R I Q) : G d M mc ms k n pc L S sh R I Q := by
  intro p l e s m args below meth c H locs ls b D cy hC hF hS hW hl
  exact lv_ldc2 hC.1 hC.2.1 hC.2.2.2.2.2.1 (hC.2.2.2.2.2.2.2 _ hw) hd (kk p l e s m args below meth c H locs ls b D cy hC hF hS hW hl)
theorem g_addc {c i : Int32} {z : Int} (hc : c.toInt = z) (h1 : -2147483648 ≤ z + i.toInt) (h2 : z + i.toInt < 2147483648) : (c + i).toInt = z + i.toInt := by
  rw [Int32.toInt_add, hc]
  apply Int.bmod_eq_of_le
  · simp; omega
  · simp; omega
theorem gup_ne {I : gI} {k j a : Nat} {x : Int32} (h : a ≠ k) : gup I k j x a = I a := by funext i; simp [gup, h]
theorem gcp_zero {I : gI} {x y sp dp : Nat} : gcp I x y sp dp (0 : Int32).toNatClampNeg = I := by
  funext a j
  have e : (0 : Int32).toNatClampNeg = 0 := rfl
  unfold gcp va_cpy
  rw [e]
  split
  · rename_i h; rw [if_neg (by omega), h]
  · rfl
theorem gcp_step {I : gI} {x y sp dp k a b : Nat} (hxy : x ≠ y) (ha : a = sp + k) (hb : b = dp + k) : gup (gcp I x y sp dp k) y b (gcp I x y sp dp k x a) = gcp I x y sp dp (k + 1) := by
  subst ha; subst hb
  funext c j
  unfold gup gcp va_cpy
  by_cases h1 : c = y
  · subst h1
    rw [if_pos rfl, if_neg hxy, if_pos rfl, if_pos rfl]
    by_cases h2 : j = dp + k
    · subst h2
      rw [if_pos rfl, if_pos (by omega)]
      congr 1; omega
    · rw [if_neg h2]
      by_cases h3 : dp ≤ j ∧ j < dp + k
      · rw [if_pos h3, if_pos (by omega)]
      · rw [if_neg h3, if_neg (by omega)]
  · rw [if_neg h1, if_neg h1, if_neg h1]
abbrev mX12_act : gM := (yX12_act, cX12_act, 6, (some .int))
abbrev mX12_again : gM := (yX12_again, cX12_again, 2, (some .int))
abbrev mX12_alterRow : gM := (yX12_alterRow, cX12_alterRow, 5, (some .int))
abbrev mX12_anew : gM := (yX12_anew, cX12_anew, 2, (some .int))
abbrev mX12_bars : gM := (yX12_bars, cX12_bars, 5, (some .int))
abbrev mX12_becomes : gM := (yX12_becomes, cX12_becomes, 4, (some .int))
abbrev mX12_best : gM := (yX12_best, cX12_best, 2, (some .int))
abbrev mX12_bestFor : gM := (yX12_bestFor, cX12_bestFor, 8, (some .int))
abbrev mX12_bunches : gM := (yX12_bunches, cX12_bunches, 5, (some .int))
abbrev mX12_byLot : gM := (yX12_byLot, cX12_byLot, 1, (some .int))
abbrev mX12_byteAt : gM := (yX12_byteAt, cX12_byteAt, 2, (some .int))
abbrev mX12_change : gM := (yX12_change, cX12_change, 5, (some .int))
abbrev mX12_daysOf : gM := (yX12_daysOf, cX12_daysOf, 3, (some .int))
abbrev mX12_ends : gM := (yX12_ends, cX12_ends, 2, (some .int))
abbrev mX12_endsPlan : gM := (yX12_endsPlan, cX12_endsPlan, 6, none)
abbrev mX12_feed : gM := (yX12_feed, cX12_feed, 5, (some .int))
abbrev mX12_fitting : gM := (yX12_fitting, cX12_fitting, 6, (some .int))
abbrev mX12_forget : gM := (yX12_forget, cX12_forget, 1, (some .int))
abbrev mX12_game : gM := (yX12_game, cX12_game, 2, (some .int))
abbrev mX12_gate : gM := (yX12_gate, cX12_gate, 4, (some .int))
abbrev mX12_gateFor : gM := (yX12_gateFor, cX12_gateFor, 2, (some .int))
abbrev mX12_gateOf : gM := (yX12_gateOf, cX12_gateOf, 3, (some .int))
abbrev mX12_goAll : gM := (yX12_goAll, cX12_goAll, 8, (some .int))
abbrev mX12_goesBy : gM := (yX12_goesBy, cX12_goesBy, 5, (some .int))
abbrev mX12_goesPlans : gM := (yX12_goesPlans, cX12_goesPlans, 8, none)
abbrev mX12_gone : gM := (yX12_gone, cX12_gone, 4, (some .int))
abbrev mX12_halt : gM := (yX12_halt, cX12_halt, 1, (some .int))
abbrev mX12_held : gM := (yX12_held, cX12_held, 2, (some .int))
abbrev mX12_heldOn : gM := (yX12_heldOn, cX12_heldOn, 2, (some .int))
abbrev mX12_in1 : gM := (yX12_in1, cX12_in1, 3, (some .boolean))
abbrev mX12_isDigit : gM := (yX12_isDigit, cX12_isDigit, 1, (some .boolean))
abbrev mX12_isGate : gM := (yX12_isGate, cX12_isGate, 1, (some .boolean))
abbrev mX12_isKey : gM := (yX12_isKey, cX12_isKey, 2, (some .boolean))
abbrev mX12_isOver : gM := (yX12_isOver, cX12_isOver, 1, (some .boolean))
abbrev mX12_isPlan : gM := (yX12_isPlan, cX12_isPlan, 1, (some .boolean))
abbrev mX12_isRow : gM := (yX12_isRow, cX12_isRow, 3, (some .boolean))
abbrev mX12_isSet : gM := (yX12_isSet, cX12_isSet, 2, (some .boolean))
abbrev mX12_isSheet : gM := (yX12_isSheet, cX12_isSheet, 1, (some .boolean))
abbrev mX12_item : gM := (yX12_item, cX12_item, 5, (some .int))
abbrev mX12_ith : gM := (yX12_ith, cX12_ith, 3, (some .int))
abbrev mX12_judge : gM := (yX12_judge, cX12_judge, 6, (some .int))
abbrev mX12_keep : gM := (yX12_keep, cX12_keep, 2, (some .int))
abbrev mX12_key : gM := (yX12_key, cX12_key, 6, (some .int))
abbrev mX12_keyOf : gM := (yX12_keyOf, cX12_keyOf, 3, (some .int))
abbrev mX12_lacks : gM := (yX12_lacks, cX12_lacks, 3, (some .int))
abbrev mX12_layBack : gM := (yX12_layBack, cX12_layBack, 2, none)
abbrev mX12_layDown : gM := (yX12_layDown, cX12_layDown, 2, none)
abbrev mX12_left : gM := (yX12_left, cX12_left, 5, (some .int))
abbrev mX12_liar : gM := (yX12_liar, cX12_liar, 2, (some .int))
abbrev mX12_lone : gM := (yX12_lone, cX12_lone, 3, (some .int))
abbrev mX12_lot : gM := (yX12_lot, cX12_lot, 1, (some .int))
abbrev mX12_many : gM := (yX12_many, cX12_many, 2, (some .int))
abbrev mX12_meltsBy : gM := (yX12_meltsBy, cX12_meltsBy, 6, (some .int))
abbrev mX12_next : gM := (yX12_next, cX12_next, 2, none)
abbrev mX12_on : gM := (yX12_on, cX12_on, 3, (some .int))
abbrev mX12_ones : gM := (yX12_ones, cX12_ones, 3, (some .int))
abbrev mX12_opens : gM := (yX12_opens, cX12_opens, 4, (some .int))
abbrev mX12_order : gM := (yX12_order, cX12_order, 3, (some .int))
abbrev mX12_play : gM := (yX12_play, cX12_play, 3, (some .int))
abbrev mX12_playedFrom : gM := (yX12_playedFrom, cX12_playedFrom, 9, (some .int))
abbrev mX12_prove : gM := (yX12_prove, cX12_prove, 3, (some .int))
abbrev mX12_puts : gM := (yX12_puts, cX12_puts, 4, none)
abbrev mX12_remake : gM := (yX12_remake, cX12_remake, 3, (some .int))
abbrev mX12_report : gM := (yX12_report, cX12_report, 7, (some .int))
abbrev mX12_restOf : gM := (yX12_restOf, cX12_restOf, 4, (some .int))
abbrev mX12_restOne : gM := (yX12_restOne, cX12_restOne, 2, (some .int))
abbrev mX12_restores : gM := (yX12_restores, cX12_restores, 3, none)
abbrev mX12_row : gM := (yX12_row, cX12_row, 3, (some .int))
abbrev mX12_rules : gM := (yX12_rules, cX12_rules, 4, (some .int))
abbrev mX12_saves : gM := (yX12_saves, cX12_saves, 3, none)
abbrev mX12_seed : gM := (yX12_seed, cX12_seed, 2, (some .int))
abbrev mX12_shapeBy : gM := (yX12_shapeBy, cX12_shapeBy, 6, (some .int))
abbrev mX12_sheet : gM := (yX12_sheet, cX12_sheet, 5, (some .int))
abbrev mX12_shelf : gM := (yX12_shelf, cX12_shelf, 4, (some .int))
abbrev mX12_state : gM := (yX12_state, cX12_state, 2, (some .int))
abbrev mX12_strawFor : gM := (yX12_strawFor, cX12_strawFor, 2, (some .int))
abbrev mX12_sun : gM := (yX12_sun, cX12_sun, 3, (some .int))
abbrev mX12_sunNow : gM := (yX12_sunNow, cX12_sunNow, 1, (some .int))
abbrev mX12_taken : gM := (yX12_taken, cX12_taken, 5, (some .int))
abbrev mX12_teethAll : gM := (yX12_teethAll, cX12_teethAll, 3, (some .int))
abbrev mX12_tellsLone : gM := (yX12_tellsLone, cX12_tellsLone, 8, none)
abbrev mX12_those : gM := (yX12_those, cX12_those, 4, (some .int))
abbrev mX12_times : gM := (yX12_times, cX12_times, 7, (some .int))
abbrev mX12_trace : gM := (yX12_trace, cX12_trace, 2, (some .int))
abbrev mX12_triesAll : gM := (yX12_triesAll, cX12_triesAll, 3, none)
abbrev mX12_ways : gM := (yX12_ways, cX12_ways, 2, (some .int))
abbrev mX12_when : gM := (yX12_when, cX12_when, 5, (some .int))
abbrev mX12_wouldBe : gM := (yX12_wouldBe, cX12_wouldBe, 8, (some .int))
abbrev mX12_write : gM := (yX12_write, cX12_write, 4, (some .int))
theorem dX12_act_0 : decode cX12_act 0 = .ok (.aload_n 0, 1) := by decide +kernel
theorem dX12_act_1 : decode cX12_act 1 = .ok (.iconst 0, 1) := by decide +kernel
theorem dX12_act_2 : decode cX12_act 2 = .ok (.putfield 341, 3) := by decide +kernel
theorem dX12_act_5 : decode cX12_act 5 = .ok (.iload_n 1, 1) := by decide +kernel
theorem dX12_act_6 : decode cX12_act 6 = .ok (.invokestatic 326, 3) := by decide +kernel
theorem dX12_act_9 : decode cX12_act 9 = .ok (.ifCond .eq 20, 3) := by decide +kernel
theorem dX12_act_12 : decode cX12_act 12 = .ok (.iload_n 2, 1) := by decide +kernel
theorem dX12_act_13 : decode cX12_act 13 = .ok (.iconst 0, 1) := by decide +kernel
theorem dX12_act_14 : decode cX12_act 14 = .ok (.iconst 3, 1) := by decide +kernel
theorem dX12_act_15 : decode cX12_act 15 = .ok (.invokestatic 71, 3) := by decide +kernel
theorem dX12_act_18 : decode cX12_act 18 = .ok (.ifCond .eq 11, 3) := by decide +kernel
theorem dX12_act_21 : decode cX12_act 21 = .ok (.aload_n 0, 1) := by decide +kernel
theorem dX12_act_22 : decode cX12_act 22 = .ok (.iload_n 1, 1) := by decide +kernel
theorem dX12_act_23 : decode cX12_act 23 = .ok (.invokevirtual 338, 3) := by decide +kernel
theorem dX12_act_26 : decode cX12_act 26 = .ok (.ifCond .eq 5, 3) := by decide +kernel
theorem dX12_act_29 : decode cX12_act 29 = .ok (.iconst 0, 1) := by decide +kernel
theorem dX12_act_30 : decode cX12_act 30 = .ok (.ireturn, 1) := by decide +kernel
theorem dX12_act_31 : decode cX12_act 31 = .ok (.aload_n 0, 1) := by decide +kernel
theorem dX12_act_32 : decode cX12_act 32 = .ok (.aload_n 0, 1) := by decide +kernel
theorem dX12_act_33 : decode cX12_act 33 = .ok (.getfield 65, 3) := by decide +kernel
theorem dX12_act_36 : decode cX12_act 36 = .ok (.iload_n 1, 1) := by decide +kernel
theorem dX12_act_37 : decode cX12_act 37 = .ok (.iaload, 1) := by decide +kernel
theorem dX12_act_38 : decode cX12_act 38 = .ok (.putfield 350, 3) := by decide +kernel
theorem dX12_act_41 : decode cX12_act 41 = .ok (.aload_n 0, 1) := by decide +kernel
theorem dX12_act_42 : decode cX12_act 42 = .ok (.iconst 0, 1) := by decide +kernel
theorem dX12_act_43 : decode cX12_act 43 = .ok (.putfield 359, 3) := by decide +kernel
theorem dX12_act_46 : decode cX12_act 46 = .ok (.aload_n 0, 1) := by decide +kernel
theorem dX12_act_47 : decode cX12_act 47 = .ok (.aload_n 0, 1) := by decide +kernel
theorem dX12_act_48 : decode cX12_act 48 = .ok (.getfield 350, 3) := by decide +kernel
theorem dX12_act_51 : decode cX12_act 51 = .ok (.iconst 0, 1) := by decide +kernel
theorem dX12_act_52 : decode cX12_act 52 = .ok (.invokevirtual 79, 3) := by decide +kernel
theorem dX12_act_55 : decode cX12_act 55 = .ok (.istore 4, 2) := by decide +kernel
theorem dX12_act_57 : decode cX12_act 57 = .ok (.iload_n 2, 1) := by decide +kernel
theorem dX12_act_58 : decode cX12_act 58 = .ok (.ifCond .ne 13, 3) := by decide +kernel
theorem dX12_act_61 : decode cX12_act 61 = .ok (.aload_n 0, 1) := by decide +kernel
theorem dX12_act_62 : decode cX12_act 62 = .ok (.iload 4, 2) := by decide +kernel
theorem dX12_act_64 : decode cX12_act 64 = .ok (.iload_n 3, 1) := by decide +kernel
theorem dX12_act_65 : decode cX12_act 65 = .ok (.invokevirtual 347, 3) := by decide +kernel
theorem dX12_act_68 : decode cX12_act 68 = .ok (.goto 40, 3) := by decide +kernel
theorem dX12_act_71 : decode cX12_act 71 = .ok (.iload_n 2, 1) := by decide +kernel
theorem dX12_act_72 : decode cX12_act 72 = .ok (.iconst 1, 1) := by decide +kernel
theorem dX12_act_73 : decode cX12_act 73 = .ok (.if_icmp .ne 13, 3) := by decide +kernel
theorem dX12_act_76 : decode cX12_act 76 = .ok (.aload_n 0, 1) := by decide +kernel
theorem dX12_act_77 : decode cX12_act 77 = .ok (.iload 4, 2) := by decide +kernel
theorem dX12_act_79 : decode cX12_act 79 = .ok (.iload_n 3, 1) := by decide +kernel
theorem dX12_act_80 : decode cX12_act 80 = .ok (.invokevirtual 353, 3) := by decide +kernel
theorem dX12_act_83 : decode cX12_act 83 = .ok (.goto 25, 3) := by decide +kernel
theorem dX12_act_86 : decode cX12_act 86 = .ok (.iload_n 2, 1) := by decide +kernel
theorem dX12_act_87 : decode cX12_act 87 = .ok (.iconst 2, 1) := by decide +kernel
theorem dX12_act_88 : decode cX12_act 88 = .ok (.if_icmp .ne 13, 3) := by decide +kernel
theorem dX12_act_91 : decode cX12_act 91 = .ok (.aload_n 0, 1) := by decide +kernel
theorem dX12_act_92 : decode cX12_act 92 = .ok (.iload 4, 2) := by decide +kernel
theorem dX12_act_94 : decode cX12_act 94 = .ok (.iload_n 3, 1) := by decide +kernel
theorem dX12_act_95 : decode cX12_act 95 = .ok (.invokevirtual 356, 3) := by decide +kernel
theorem dX12_act_98 : decode cX12_act 98 = .ok (.goto 10, 3) := by decide +kernel
theorem dX12_act_101 : decode cX12_act 101 = .ok (.aload_n 0, 1) := by decide +kernel
theorem dX12_act_102 : decode cX12_act 102 = .ok (.iload 4, 2) := by decide +kernel
theorem dX12_act_104 : decode cX12_act 104 = .ok (.iload_n 3, 1) := by decide +kernel
theorem dX12_act_105 : decode cX12_act 105 = .ok (.invokevirtual 363, 3) := by decide +kernel
theorem dX12_act_108 : decode cX12_act 108 = .ok (.istore 5, 2) := by decide +kernel
theorem dX12_act_110 : decode cX12_act 110 = .ok (.aload_n 0, 1) := by decide +kernel
theorem dX12_act_111 : decode cX12_act 111 = .ok (.getfield 359, 3) := by decide +kernel
theorem dX12_act_114 : decode cX12_act 114 = .ok (.ifCond .eq 8, 3) := by decide +kernel
theorem dX12_act_117 : decode cX12_act 117 = .ok (.bipush (-15), 2) := by decide +kernel
theorem dX12_act_119 : decode cX12_act 119 = .ok (.goto 5, 3) := by decide +kernel
theorem dX12_act_122 : decode cX12_act 122 = .ok (.iload 5, 2) := by decide +kernel
theorem dX12_act_124 : decode cX12_act 124 = .ok (.ireturn, 1) := by decide +kernel
theorem dX12_again_0 : decode cX12_again 0 = .ok (.aload_n 0, 1) := by decide +kernel
theorem dX12_again_1 : decode cX12_again 1 = .ok (.getfield 369, 3) := by decide +kernel
theorem dX12_again_4 : decode cX12_again 4 = .ok (.ifCond .ne 6, 3) := by decide +kernel
theorem dX12_again_7 : decode cX12_again 7 = .ok (.bipush (-3), 2) := by decide +kernel
theorem dX12_again_9 : decode cX12_again 9 = .ok (.ireturn, 1) := by decide +kernel
theorem dX12_again_10 : decode cX12_again 10 = .ok (.iconst 0, 1) := by decide +kernel
theorem dX12_again_11 : decode cX12_again 11 = .ok (.istore_n 1, 1) := by decide +kernel
theorem dX12_again_12 : decode cX12_again 12 = .ok (.iload_n 1, 1) := by decide +kernel
theorem dX12_again_13 : decode cX12_again 13 = .ok (.sipush 313, 3) := by decide +kernel
theorem dX12_again_16 : decode cX12_again 16 = .ok (.if_icmp .ge 21, 3) := by decide +kernel
theorem dX12_again_19 : decode cX12_again 19 = .ok (.aload_n 0, 1) := by decide +kernel
theorem dX12_again_20 : decode cX12_again 20 = .ok (.getfield 9, 3) := by decide +kernel
theorem dX12_again_23 : decode cX12_again 23 = .ok (.iload_n 1, 1) := by decide +kernel
theorem dX12_again_24 : decode cX12_again 24 = .ok (.aload_n 0, 1) := by decide +kernel
theorem dX12_again_25 : decode cX12_again 25 = .ok (.getfield 13, 3) := by decide +kernel
theorem dX12_again_28 : decode cX12_again 28 = .ok (.iload_n 1, 1) := by decide +kernel
theorem dX12_again_29 : decode cX12_again 29 = .ok (.iaload, 1) := by decide +kernel
theorem dX12_again_30 : decode cX12_again 30 = .ok (.iastore, 1) := by decide +kernel
theorem dX12_again_31 : decode cX12_again 31 = .ok (.iinc 1 1, 3) := by decide +kernel
theorem dX12_again_34 : decode cX12_again 34 = .ok (.goto (-22), 3) := by decide +kernel
theorem dX12_again_37 : decode cX12_again 37 = .ok (.aload_n 0, 1) := by decide +kernel
theorem dX12_again_38 : decode cX12_again 38 = .ok (.getfield 9, 3) := by decide +kernel
theorem dX12_again_41 : decode cX12_again 41 = .ok (.iconst 4, 1) := by decide +kernel
theorem dX12_again_42 : decode cX12_again 42 = .ok (.iaload, 1) := by decide +kernel
theorem dX12_again_43 : decode cX12_again 43 = .ok (.ireturn, 1) := by decide +kernel
theorem dX12_alterRow_0 : decode cX12_alterRow 0 = .ok (.aload_n 0, 1) := by decide +kernel
theorem dX12_alterRow_1 : decode cX12_alterRow 1 = .ok (.iload_n 1, 1) := by decide +kernel
theorem dX12_alterRow_2 : decode cX12_alterRow 2 = .ok (.iload_n 2, 1) := by decide +kernel
theorem dX12_alterRow_3 : decode cX12_alterRow 3 = .ok (.invokevirtual 320, 3) := by decide +kernel
theorem dX12_alterRow_6 : decode cX12_alterRow 6 = .ok (.ifCond .ne 6, 3) := by decide +kernel
theorem dX12_alterRow_9 : decode cX12_alterRow 9 = .ok (.bipush (-9), 2) := by decide +kernel
theorem dX12_alterRow_11 : decode cX12_alterRow 11 = .ok (.ireturn, 1) := by decide +kernel
theorem dX12_alterRow_12 : decode cX12_alterRow 12 = .ok (.aload_n 0, 1) := by decide +kernel
theorem dX12_alterRow_13 : decode cX12_alterRow 13 = .ok (.getfield 50, 3) := by decide +kernel
theorem dX12_alterRow_16 : decode cX12_alterRow 16 = .ok (.iconst 3, 1) := by decide +kernel
theorem dX12_alterRow_17 : decode cX12_alterRow 17 = .ok (.iload_n 1, 1) := by decide +kernel
theorem dX12_alterRow_18 : decode cX12_alterRow 18 = .ok (.imul, 1) := by decide +kernel
theorem dX12_alterRow_19 : decode cX12_alterRow 19 = .ok (.iload_n 2, 1) := by decide +kernel
theorem dX12_alterRow_20 : decode cX12_alterRow 20 = .ok (.iadd, 1) := by decide +kernel
theorem dX12_alterRow_21 : decode cX12_alterRow 21 = .ok (.iaload, 1) := by decide +kernel
theorem dX12_alterRow_22 : decode cX12_alterRow 22 = .ok (.istore 4, 2) := by decide +kernel
theorem dX12_alterRow_24 : decode cX12_alterRow 24 = .ok (.aload_n 0, 1) := by decide +kernel
theorem dX12_alterRow_25 : decode cX12_alterRow 25 = .ok (.getfield 50, 3) := by decide +kernel
theorem dX12_alterRow_28 : decode cX12_alterRow 28 = .ok (.iconst 3, 1) := by decide +kernel
theorem dX12_alterRow_29 : decode cX12_alterRow 29 = .ok (.iload_n 1, 1) := by decide +kernel
theorem dX12_alterRow_30 : decode cX12_alterRow 30 = .ok (.imul, 1) := by decide +kernel
theorem dX12_alterRow_31 : decode cX12_alterRow 31 = .ok (.iload_n 2, 1) := by decide +kernel
theorem dX12_alterRow_32 : decode cX12_alterRow 32 = .ok (.iadd, 1) := by decide +kernel
theorem dX12_alterRow_33 : decode cX12_alterRow 33 = .ok (.iload_n 3, 1) := by decide +kernel
theorem dX12_alterRow_34 : decode cX12_alterRow 34 = .ok (.iastore, 1) := by decide +kernel
theorem dX12_alterRow_35 : decode cX12_alterRow 35 = .ok (.iload 4, 2) := by decide +kernel
theorem dX12_alterRow_37 : decode cX12_alterRow 37 = .ok (.ireturn, 1) := by decide +kernel
theorem dX12_anew_0 : decode cX12_anew 0 = .ok (.aload_n 0, 1) := by decide +kernel
theorem dX12_anew_1 : decode cX12_anew 1 = .ok (.getfield 9, 3) := by decide +kernel
theorem dX12_anew_4 : decode cX12_anew 4 = .ok (.iconst 2, 1) := by decide +kernel
theorem dX12_anew_5 : decode cX12_anew 5 = .ok (.iconst 0, 1) := by decide +kernel
theorem dX12_anew_6 : decode cX12_anew 6 = .ok (.iastore, 1) := by decide +kernel
theorem dX12_anew_7 : decode cX12_anew 7 = .ok (.iconst 0, 1) := by decide +kernel
theorem dX12_anew_8 : decode cX12_anew 8 = .ok (.istore_n 1, 1) := by decide +kernel
theorem dX12_anew_9 : decode cX12_anew 9 = .ok (.iload_n 1, 1) := by decide +kernel
theorem dX12_anew_10 : decode cX12_anew 10 = .ok (.aload_n 0, 1) := by decide +kernel
theorem dX12_anew_11 : decode cX12_anew 11 = .ok (.getfield 9, 3) := by decide +kernel
theorem dX12_anew_14 : decode cX12_anew 14 = .ok (.iconst 4, 1) := by decide +kernel
theorem dX12_anew_15 : decode cX12_anew 15 = .ok (.iaload, 1) := by decide +kernel
theorem dX12_anew_16 : decode cX12_anew 16 = .ok (.if_icmp .ge 16, 3) := by decide +kernel
theorem dX12_anew_19 : decode cX12_anew 19 = .ok (.aload_n 0, 1) := by decide +kernel
theorem dX12_anew_20 : decode cX12_anew 20 = .ok (.iload_n 1, 1) := by decide +kernel
theorem dX12_anew_21 : decode cX12_anew 21 = .ok (.iconst 4, 1) := by decide +kernel
theorem dX12_anew_22 : decode cX12_anew 22 = .ok (.iconst 0, 1) := by decide +kernel
theorem dX12_anew_23 : decode cX12_anew 23 = .ok (.invokevirtual 195, 3) := by decide +kernel
theorem dX12_anew_26 : decode cX12_anew 26 = .ok (.iinc 1 1, 3) := by decide +kernel
theorem dX12_anew_29 : decode cX12_anew 29 = .ok (.goto (-20), 3) := by decide +kernel
theorem dX12_anew_32 : decode cX12_anew 32 = .ok (.aload_n 0, 1) := by decide +kernel
theorem dX12_anew_33 : decode cX12_anew 33 = .ok (.iconst 0, 1) := by decide +kernel
theorem dX12_anew_34 : decode cX12_anew 34 = .ok (.iconst 0, 1) := by decide +kernel
theorem dX12_anew_35 : decode cX12_anew 35 = .ok (.invokevirtual 226, 3) := by decide +kernel
theorem dX12_anew_38 : decode cX12_anew 38 = .ok (.ireturn, 1) := by decide +kernel
theorem dX12_bars_0 : decode cX12_bars 0 = .ok (.iload_n 1, 1) := by decide +kernel
theorem dX12_bars_1 : decode cX12_bars 1 = .ok (.invokestatic 288, 3) := by decide +kernel
theorem dX12_bars_4 : decode cX12_bars 4 = .ok (.ifCond .eq 11, 3) := by decide +kernel
theorem dX12_bars_7 : decode cX12_bars 7 = .ok (.aload_n 0, 1) := by decide +kernel
theorem dX12_bars_8 : decode cX12_bars 8 = .ok (.iload_n 2, 1) := by decide +kernel
theorem dX12_bars_9 : decode cX12_bars 9 = .ok (.invokevirtual 295, 3) := by decide +kernel
theorem dX12_bars_12 : decode cX12_bars 12 = .ok (.ifCond .ne 5, 3) := by decide +kernel
theorem dX12_bars_15 : decode cX12_bars 15 = .ok (.iconst (-1), 1) := by decide +kernel
theorem dX12_bars_16 : decode cX12_bars 16 = .ok (.ireturn, 1) := by decide +kernel
theorem dX12_bars_17 : decode cX12_bars 17 = .ok (.aload_n 0, 1) := by decide +kernel
theorem dX12_bars_18 : decode cX12_bars 18 = .ok (.iload_n 1, 1) := by decide +kernel
theorem dX12_bars_19 : decode cX12_bars 19 = .ok (.iload_n 2, 1) := by decide +kernel
theorem dX12_bars_20 : decode cX12_bars 20 = .ok (.invokevirtual 291, 3) := by decide +kernel
theorem dX12_bars_23 : decode cX12_bars 23 = .ok (.iload_n 2, 1) := by decide +kernel
theorem dX12_bars_24 : decode cX12_bars 24 = .ok (.aload_n 0, 1) := by decide +kernel
theorem dX12_bars_25 : decode cX12_bars 25 = .ok (.getfield 268, 3) := by decide +kernel
theorem dX12_bars_28 : decode cX12_bars 28 = .ok (.iconst (-1), 1) := by decide +kernel
theorem dX12_bars_29 : decode cX12_bars 29 = .ok (.ixor, 1) := by decide +kernel
theorem dX12_bars_30 : decode cX12_bars 30 = .ok (.iand, 1) := by decide +kernel
theorem dX12_bars_31 : decode cX12_bars 31 = .ok (.istore_n 3, 1) := by decide +kernel
theorem dX12_bars_32 : decode cX12_bars 32 = .ok (.iconst 0, 1) := by decide +kernel
theorem dX12_bars_33 : decode cX12_bars 33 = .ok (.istore 4, 2) := by decide +kernel
theorem dX12_bars_35 : decode cX12_bars 35 = .ok (.iload 4, 2) := by decide +kernel
theorem dX12_bars_37 : decode cX12_bars 37 = .ok (.aload_n 0, 1) := by decide +kernel
theorem dX12_bars_38 : decode cX12_bars 38 = .ok (.getfield 9, 3) := by decide +kernel
theorem dX12_bars_41 : decode cX12_bars 41 = .ok (.iconst 4, 1) := by decide +kernel
theorem dX12_bars_42 : decode cX12_bars 42 = .ok (.iaload, 1) := by decide +kernel
theorem dX12_bars_43 : decode cX12_bars 43 = .ok (.if_icmp .ge 18, 3) := by decide +kernel
theorem dX12_bars_46 : decode cX12_bars 46 = .ok (.iload_n 3, 1) := by decide +kernel
theorem dX12_bars_47 : decode cX12_bars 47 = .ok (.iload 4, 2) := by decide +kernel
theorem dX12_bars_49 : decode cX12_bars 49 = .ok (.ishr, 1) := by decide +kernel
theorem dX12_bars_50 : decode cX12_bars 50 = .ok (.iconst 1, 1) := by decide +kernel
theorem dX12_bars_51 : decode cX12_bars 51 = .ok (.iand, 1) := by decide +kernel
theorem dX12_bars_52 : decode cX12_bars 52 = .ok (.ifCond .ne 9, 3) := by decide +kernel
theorem dX12_bars_55 : decode cX12_bars 55 = .ok (.iinc 4 1, 3) := by decide +kernel
theorem dX12_bars_58 : decode cX12_bars 58 = .ok (.goto (-23), 3) := by decide +kernel
theorem dX12_bars_61 : decode cX12_bars 61 = .ok (.iload 4, 2) := by decide +kernel
theorem dX12_bars_63 : decode cX12_bars 63 = .ok (.aload_n 0, 1) := by decide +kernel
theorem dX12_bars_64 : decode cX12_bars 64 = .ok (.getfield 9, 3) := by decide +kernel
theorem dX12_bars_67 : decode cX12_bars 67 = .ok (.iconst 4, 1) := by decide +kernel
theorem dX12_bars_68 : decode cX12_bars 68 = .ok (.iaload, 1) := by decide +kernel
theorem dX12_bars_69 : decode cX12_bars 69 = .ok (.if_icmp .ge 8, 3) := by decide +kernel
theorem dX12_bars_72 : decode cX12_bars 72 = .ok (.iload 4, 2) := by decide +kernel
theorem dX12_bars_74 : decode cX12_bars 74 = .ok (.goto 5, 3) := by decide +kernel
theorem dX12_bars_77 : decode cX12_bars 77 = .ok (.bipush (-3), 2) := by decide +kernel
theorem dX12_bars_79 : decode cX12_bars 79 = .ok (.ireturn, 1) := by decide +kernel
theorem dX12_becomes_0 : decode cX12_becomes 0 = .ok (.aload_n 0, 1) := by decide +kernel
theorem dX12_becomes_1 : decode cX12_becomes 1 = .ok (.getfield 9, 3) := by decide +kernel
theorem dX12_becomes_4 : decode cX12_becomes 4 = .ok (.iload_n 1, 1) := by decide +kernel
theorem dX12_becomes_5 : decode cX12_becomes 5 = .ok (.iaload, 1) := by decide +kernel
theorem dX12_becomes_6 : decode cX12_becomes 6 = .ok (.istore_n 3, 1) := by decide +kernel
theorem dX12_becomes_7 : decode cX12_becomes 7 = .ok (.aload_n 0, 1) := by decide +kernel
theorem dX12_becomes_8 : decode cX12_becomes 8 = .ok (.getfield 9, 3) := by decide +kernel
theorem dX12_becomes_11 : decode cX12_becomes 11 = .ok (.iload_n 1, 1) := by decide +kernel
theorem dX12_becomes_12 : decode cX12_becomes 12 = .ok (.iload_n 2, 1) := by decide +kernel
theorem dX12_becomes_13 : decode cX12_becomes 13 = .ok (.iastore, 1) := by decide +kernel
theorem dX12_becomes_14 : decode cX12_becomes 14 = .ok (.iload_n 3, 1) := by decide +kernel
theorem dX12_becomes_15 : decode cX12_becomes 15 = .ok (.ireturn, 1) := by decide +kernel
theorem dX12_best_0 : decode cX12_best 0 = .ok (.iload_n 1, 1) := by decide +kernel
theorem dX12_best_1 : decode cX12_best 1 = .ok (.invokestatic 288, 3) := by decide +kernel
theorem dX12_best_4 : decode cX12_best 4 = .ok (.ifCond .ne 5, 3) := by decide +kernel
theorem dX12_best_7 : decode cX12_best 7 = .ok (.iconst (-1), 1) := by decide +kernel
theorem dX12_best_8 : decode cX12_best 8 = .ok (.ireturn, 1) := by decide +kernel
theorem dX12_best_9 : decode cX12_best 9 = .ok (.aload_n 0, 1) := by decide +kernel
theorem dX12_best_10 : decode cX12_best 10 = .ok (.iload_n 1, 1) := by decide +kernel
theorem dX12_best_11 : decode cX12_best 11 = .ok (.iconst 0, 1) := by decide +kernel
theorem dX12_best_12 : decode cX12_best 12 = .ok (.invokevirtual 291, 3) := by decide +kernel
theorem dX12_best_15 : decode cX12_best 15 = .ok (.aload_n 0, 1) := by decide +kernel
theorem dX12_best_16 : decode cX12_best 16 = .ok (.getfield 259, 3) := by decide +kernel
theorem dX12_best_19 : decode cX12_best 19 = .ok (.ireturn, 1) := by decide +kernel
theorem dX12_bestFor_0 : decode cX12_bestFor 0 = .ok (.aload_n 0, 1) := by decide +kernel
theorem dX12_bestFor_1 : decode cX12_bestFor 1 = .ok (.iload_n 1, 1) := by decide +kernel
theorem dX12_bestFor_2 : decode cX12_bestFor 2 = .ok (.invokevirtual 223, 3) := by decide +kernel
theorem dX12_bestFor_5 : decode cX12_bestFor 5 = .ok (.ifCond .ne 5, 3) := by decide +kernel
theorem dX12_bestFor_8 : decode cX12_bestFor 8 = .ok (.iconst (-1), 1) := by decide +kernel
theorem dX12_bestFor_9 : decode cX12_bestFor 9 = .ok (.ireturn, 1) := by decide +kernel
theorem dX12_bestFor_10 : decode cX12_bestFor 10 = .ok (.iconst 0, 1) := by decide +kernel
theorem dX12_bestFor_11 : decode cX12_bestFor 11 = .ok (.istore 4, 2) := by decide +kernel
theorem dX12_bestFor_13 : decode cX12_bestFor 13 = .ok (.iconst (-1), 1) := by decide +kernel
theorem dX12_bestFor_14 : decode cX12_bestFor 14 = .ok (.istore 5, 2) := by decide +kernel
theorem dX12_bestFor_16 : decode cX12_bestFor 16 = .ok (.aload_n 0, 1) := by decide +kernel
theorem dX12_bestFor_17 : decode cX12_bestFor 17 = .ok (.invokevirtual 241, 3) := by decide +kernel
theorem dX12_bestFor_20 : decode cX12_bestFor 20 = .ok (.iconst 0, 1) := by decide +kernel
theorem dX12_bestFor_21 : decode cX12_bestFor 21 = .ok (.istore 6, 2) := by decide +kernel
theorem dX12_bestFor_23 : decode cX12_bestFor 23 = .ok (.iload 6, 2) := by decide +kernel
theorem dX12_bestFor_25 : decode cX12_bestFor 25 = .ok (.iload_n 3, 1) := by decide +kernel
theorem dX12_bestFor_26 : decode cX12_bestFor 26 = .ok (.if_icmp .gt 61, 3) := by decide +kernel
theorem dX12_bestFor_29 : decode cX12_bestFor 29 = .ok (.aload_n 0, 1) := by decide +kernel
theorem dX12_bestFor_30 : decode cX12_bestFor 30 = .ok (.iload_n 1, 1) := by decide +kernel
theorem dX12_bestFor_31 : decode cX12_bestFor 31 = .ok (.iload_n 2, 1) := by decide +kernel
theorem dX12_bestFor_32 : decode cX12_bestFor 32 = .ok (.iload 6, 2) := by decide +kernel
theorem dX12_bestFor_34 : decode cX12_bestFor 34 = .ok (.invokevirtual 195, 3) := by decide +kernel
theorem dX12_bestFor_37 : decode cX12_bestFor 37 = .ok (.aload_n 0, 1) := by decide +kernel
theorem dX12_bestFor_38 : decode cX12_bestFor 38 = .ok (.bipush 16, 2) := by decide +kernel
theorem dX12_bestFor_40 : decode cX12_bestFor 40 = .ok (.invokevirtual 244, 3) := by decide +kernel
theorem dX12_bestFor_43 : decode cX12_bestFor 43 = .ok (.istore 7, 2) := by decide +kernel
theorem dX12_bestFor_45 : decode cX12_bestFor 45 = .ok (.iload 7, 2) := by decide +kernel
theorem dX12_bestFor_47 : decode cX12_bestFor 47 = .ok (.iload 5, 2) := by decide +kernel
theorem dX12_bestFor_49 : decode cX12_bestFor 49 = .ok (.if_icmp .le 8, 3) := by decide +kernel
theorem dX12_bestFor_52 : decode cX12_bestFor 52 = .ok (.iload 6, 2) := by decide +kernel
theorem dX12_bestFor_54 : decode cX12_bestFor 54 = .ok (.goto 5, 3) := by decide +kernel
theorem dX12_bestFor_57 : decode cX12_bestFor 57 = .ok (.iload 4, 2) := by decide +kernel
theorem dX12_bestFor_59 : decode cX12_bestFor 59 = .ok (.istore 4, 2) := by decide +kernel
theorem dX12_bestFor_61 : decode cX12_bestFor 61 = .ok (.iload 7, 2) := by decide +kernel
theorem dX12_bestFor_63 : decode cX12_bestFor 63 = .ok (.iload 5, 2) := by decide +kernel
theorem dX12_bestFor_65 : decode cX12_bestFor 65 = .ok (.if_icmp .le 8, 3) := by decide +kernel
theorem dX12_bestFor_68 : decode cX12_bestFor 68 = .ok (.iload 7, 2) := by decide +kernel
theorem dX12_bestFor_70 : decode cX12_bestFor 70 = .ok (.goto 5, 3) := by decide +kernel
theorem dX12_bestFor_73 : decode cX12_bestFor 73 = .ok (.iload 5, 2) := by decide +kernel
theorem dX12_bestFor_75 : decode cX12_bestFor 75 = .ok (.istore 5, 2) := by decide +kernel
theorem dX12_bestFor_77 : decode cX12_bestFor 77 = .ok (.aload_n 0, 1) := by decide +kernel
theorem dX12_bestFor_78 : decode cX12_bestFor 78 = .ok (.invokevirtual 247, 3) := by decide +kernel
theorem dX12_bestFor_81 : decode cX12_bestFor 81 = .ok (.iinc 6 1, 3) := by decide +kernel
theorem dX12_bestFor_84 : decode cX12_bestFor 84 = .ok (.goto (-61), 3) := by decide +kernel
theorem dX12_bestFor_87 : decode cX12_bestFor 87 = .ok (.iload 4, 2) := by decide +kernel
theorem dX12_bestFor_89 : decode cX12_bestFor 89 = .ok (.ireturn, 1) := by decide +kernel
theorem dX12_bunches_0 : decode cX12_bunches 0 = .ok (.iload_n 1, 1) := by decide +kernel
theorem dX12_bunches_1 : decode cX12_bunches 1 = .ok (.iconst (-1), 1) := by decide +kernel
theorem dX12_bunches_2 : decode cX12_bunches 2 = .ok (.if_icmp .eq 13, 3) := by decide +kernel
theorem dX12_bunches_5 : decode cX12_bunches 5 = .ok (.aload_n 0, 1) := by decide +kernel
theorem dX12_bunches_6 : decode cX12_bunches 6 = .ok (.iload_n 1, 1) := by decide +kernel
theorem dX12_bunches_7 : decode cX12_bunches 7 = .ok (.invokevirtual 223, 3) := by decide +kernel
theorem dX12_bunches_10 : decode cX12_bunches 10 = .ok (.ifCond .ne 5, 3) := by decide +kernel
theorem dX12_bunches_13 : decode cX12_bunches 13 = .ok (.iconst (-1), 1) := by decide +kernel
theorem dX12_bunches_14 : decode cX12_bunches 14 = .ok (.ireturn, 1) := by decide +kernel
theorem dX12_bunches_15 : decode cX12_bunches 15 = .ok (.iload_n 1, 1) := by decide +kernel
theorem dX12_bunches_16 : decode cX12_bunches 16 = .ok (.ifCond .lt 9, 3) := by decide +kernel
theorem dX12_bunches_19 : decode cX12_bunches 19 = .ok (.aload_n 0, 1) := by decide +kernel
theorem dX12_bunches_20 : decode cX12_bunches 20 = .ok (.iload_n 1, 1) := by decide +kernel
theorem dX12_bunches_21 : decode cX12_bunches 21 = .ok (.invokevirtual 256, 3) := by decide +kernel
theorem dX12_bunches_24 : decode cX12_bunches 24 = .ok (.ireturn, 1) := by decide +kernel
theorem dX12_bunches_25 : decode cX12_bunches 25 = .ok (.iconst 0, 1) := by decide +kernel
theorem dX12_bunches_26 : decode cX12_bunches 26 = .ok (.istore_n 2, 1) := by decide +kernel
theorem dX12_bunches_27 : decode cX12_bunches 27 = .ok (.iconst 0, 1) := by decide +kernel
theorem dX12_bunches_28 : decode cX12_bunches 28 = .ok (.istore_n 3, 1) := by decide +kernel
theorem dX12_bunches_29 : decode cX12_bunches 29 = .ok (.iload_n 3, 1) := by decide +kernel
theorem dX12_bunches_30 : decode cX12_bunches 30 = .ok (.aload_n 0, 1) := by decide +kernel
theorem dX12_bunches_31 : decode cX12_bunches 31 = .ok (.getfield 9, 3) := by decide +kernel
theorem dX12_bunches_34 : decode cX12_bunches 34 = .ok (.iconst 4, 1) := by decide +kernel
theorem dX12_bunches_35 : decode cX12_bunches 35 = .ok (.iaload, 1) := by decide +kernel
theorem dX12_bunches_36 : decode cX12_bunches 36 = .ok (.if_icmp .ge 38, 3) := by decide +kernel
theorem dX12_bunches_39 : decode cX12_bunches 39 = .ok (.aload_n 0, 1) := by decide +kernel
theorem dX12_bunches_40 : decode cX12_bunches 40 = .ok (.iload_n 3, 1) := by decide +kernel
theorem dX12_bunches_41 : decode cX12_bunches 41 = .ok (.invokevirtual 256, 3) := by decide +kernel
theorem dX12_bunches_44 : decode cX12_bunches 44 = .ok (.istore 4, 2) := by decide +kernel
theorem dX12_bunches_46 : decode cX12_bunches 46 = .ok (.iload_n 2, 1) := by decide +kernel
theorem dX12_bunches_47 : decode cX12_bunches 47 = .ok (.iload 4, 2) := by decide +kernel
theorem dX12_bunches_49 : decode cX12_bunches 49 = .ok (.ifCond .eq 16, 3) := by decide +kernel
theorem dX12_bunches_52 : decode cX12_bunches 52 = .ok (.iload 4, 2) := by decide +kernel
theorem dX12_bunches_54 : decode cX12_bunches 54 = .ok (.iconst 1, 1) := by decide +kernel
theorem dX12_bunches_55 : decode cX12_bunches 55 = .ok (.iload_n 3, 1) := by decide +kernel
theorem dX12_bunches_56 : decode cX12_bunches 56 = .ok (.ishl, 1) := by decide +kernel
theorem dX12_bunches_57 : decode cX12_bunches 57 = .ok (.irem, 1) := by decide +kernel
theorem dX12_bunches_58 : decode cX12_bunches 58 = .ok (.ifCond .ne 7, 3) := by decide +kernel
theorem dX12_bunches_61 : decode cX12_bunches 61 = .ok (.iconst 1, 1) := by decide +kernel
theorem dX12_bunches_62 : decode cX12_bunches 62 = .ok (.goto 4, 3) := by decide +kernel
theorem dX12_bunches_65 : decode cX12_bunches 65 = .ok (.iconst 0, 1) := by decide +kernel
theorem dX12_bunches_66 : decode cX12_bunches 66 = .ok (.iadd, 1) := by decide +kernel
theorem dX12_bunches_67 : decode cX12_bunches 67 = .ok (.istore_n 2, 1) := by decide +kernel
theorem dX12_bunches_68 : decode cX12_bunches 68 = .ok (.iinc 3 1, 3) := by decide +kernel
theorem dX12_bunches_71 : decode cX12_bunches 71 = .ok (.goto (-42), 3) := by decide +kernel
theorem dX12_bunches_74 : decode cX12_bunches 74 = .ok (.iload_n 2, 1) := by decide +kernel
theorem dX12_bunches_75 : decode cX12_bunches 75 = .ok (.ireturn, 1) := by decide +kernel
theorem dX12_byLot_0 : decode cX12_byLot 0 = .ok (.aload_n 0, 1) := by decide +kernel
theorem dX12_byLot_1 : decode cX12_byLot 1 = .ok (.getfield 9, 3) := by decide +kernel
theorem dX12_byLot_4 : decode cX12_byLot 4 = .ok (.iconst 3, 1) := by decide +kernel
theorem dX12_byLot_5 : decode cX12_byLot 5 = .ok (.aload_n 0, 1) := by decide +kernel
theorem dX12_byLot_6 : decode cX12_byLot 6 = .ok (.getfield 9, 3) := by decide +kernel
theorem dX12_byLot_9 : decode cX12_byLot 9 = .ok (.iconst 3, 1) := by decide +kernel
theorem dX12_byLot_10 : decode cX12_byLot 10 = .ok (.iaload, 1) := by decide +kernel
theorem dX12_byLot_11 : decode cX12_byLot 11 = .ok (.ldc_w 313, 3) := by decide +kernel
theorem dX12_byLot_14 : decode cX12_byLot 14 = .ok (.imul, 1) := by decide +kernel
theorem dX12_byLot_15 : decode cX12_byLot 15 = .ok (.sipush 12345, 3) := by decide +kernel
theorem dX12_byLot_18 : decode cX12_byLot 18 = .ok (.iadd, 1) := by decide +kernel
theorem dX12_byLot_19 : decode cX12_byLot 19 = .ok (.iastore, 1) := by decide +kernel
theorem dX12_byLot_20 : decode cX12_byLot 20 = .ok (.aload_n 0, 1) := by decide +kernel
theorem dX12_byLot_21 : decode cX12_byLot 21 = .ok (.aload_n 0, 1) := by decide +kernel
theorem dX12_byLot_22 : decode cX12_byLot 22 = .ok (.getfield 9, 3) := by decide +kernel
theorem dX12_byLot_25 : decode cX12_byLot 25 = .ok (.iconst 3, 1) := by decide +kernel
theorem dX12_byLot_26 : decode cX12_byLot 26 = .ok (.iaload, 1) := by decide +kernel
theorem dX12_byLot_27 : decode cX12_byLot 27 = .ok (.bipush 16, 2) := by decide +kernel
theorem dX12_byLot_29 : decode cX12_byLot 29 = .ok (.iushr, 1) := by decide +kernel
theorem dX12_byLot_30 : decode cX12_byLot 30 = .ok (.aload_n 0, 1) := by decide +kernel
theorem dX12_byLot_31 : decode cX12_byLot 31 = .ok (.getfield 9, 3) := by decide +kernel
theorem dX12_byLot_34 : decode cX12_byLot 34 = .ok (.iconst 4, 1) := by decide +kernel
theorem dX12_byLot_35 : decode cX12_byLot 35 = .ok (.iaload, 1) := by decide +kernel
theorem dX12_byLot_36 : decode cX12_byLot 36 = .ok (.iconst 1, 1) := by decide +kernel
theorem dX12_byLot_37 : decode cX12_byLot 37 = .ok (.iadd, 1) := by decide +kernel
theorem dX12_byLot_38 : decode cX12_byLot 38 = .ok (.irem, 1) := by decide +kernel
theorem dX12_byLot_39 : decode cX12_byLot 39 = .ok (.invokevirtual 238, 3) := by decide +kernel
theorem dX12_byLot_42 : decode cX12_byLot 42 = .ok (.ireturn, 1) := by decide +kernel
theorem dX12_byteAt_0 : decode cX12_byteAt 0 = .ok (.iload_n 1, 1) := by decide +kernel
theorem dX12_byteAt_1 : decode cX12_byteAt 1 = .ok (.aload_n 0, 1) := by decide +kernel
theorem dX12_byteAt_2 : decode cX12_byteAt 2 = .ok (.getfield 126, 3) := by decide +kernel
theorem dX12_byteAt_5 : decode cX12_byteAt 5 = .ok (.if_icmp .ge 12, 3) := by decide +kernel
theorem dX12_byteAt_8 : decode cX12_byteAt 8 = .ok (.aload_n 0, 1) := by decide +kernel
theorem dX12_byteAt_9 : decode cX12_byteAt 9 = .ok (.getfield 22, 3) := by decide +kernel
theorem dX12_byteAt_12 : decode cX12_byteAt 12 = .ok (.iload_n 1, 1) := by decide +kernel
theorem dX12_byteAt_13 : decode cX12_byteAt 13 = .ok (.iaload, 1) := by decide +kernel
theorem dX12_byteAt_14 : decode cX12_byteAt 14 = .ok (.goto 4, 3) := by decide +kernel
theorem dX12_byteAt_17 : decode cX12_byteAt 17 = .ok (.iconst (-1), 1) := by decide +kernel
theorem dX12_byteAt_18 : decode cX12_byteAt 18 = .ok (.ireturn, 1) := by decide +kernel
theorem dX12_change_0 : decode cX12_change 0 = .ok (.iload_n 2, 1) := by decide +kernel
theorem dX12_change_1 : decode cX12_change 1 = .ok (.iconst 1, 1) := by decide +kernel
theorem dX12_change_2 : decode cX12_change 2 = .ok (.if_icmp .ne 8, 3) := by decide +kernel
theorem dX12_change_5 : decode cX12_change 5 = .ok (.bipush 99, 2) := by decide +kernel
theorem dX12_change_7 : decode cX12_change 7 = .ok (.goto 23, 3) := by decide +kernel
theorem dX12_change_10 : decode cX12_change 10 = .ok (.iload_n 2, 1) := by decide +kernel
theorem dX12_change_11 : decode cX12_change 11 = .ok (.iconst 3, 1) := by decide +kernel
theorem dX12_change_12 : decode cX12_change 12 = .ok (.if_icmp .ne 7, 3) := by decide +kernel
theorem dX12_change_15 : decode cX12_change 15 = .ok (.iconst 5, 1) := by decide +kernel
theorem dX12_change_16 : decode cX12_change 16 = .ok (.goto 14, 3) := by decide +kernel
theorem dX12_change_19 : decode cX12_change 19 = .ok (.iload_n 2, 1) := by decide +kernel
theorem dX12_change_20 : decode cX12_change 20 = .ok (.iconst 4, 1) := by decide +kernel
theorem dX12_change_21 : decode cX12_change 21 = .ok (.if_icmp .ne 7, 3) := by decide +kernel
theorem dX12_change_24 : decode cX12_change 24 = .ok (.iconst 1, 1) := by decide +kernel
theorem dX12_change_25 : decode cX12_change 25 = .ok (.goto 5, 3) := by decide +kernel
theorem dX12_change_28 : decode cX12_change 28 = .ok (.bipush 9, 2) := by decide +kernel
theorem dX12_change_30 : decode cX12_change 30 = .ok (.istore 4, 2) := by decide +kernel
theorem dX12_change_32 : decode cX12_change 32 = .ok (.aload_n 0, 1) := by decide +kernel
theorem dX12_change_33 : decode cX12_change 33 = .ok (.iload_n 1, 1) := by decide +kernel
theorem dX12_change_34 : decode cX12_change 34 = .ok (.invokevirtual 223, 3) := by decide +kernel
theorem dX12_change_37 : decode cX12_change 37 = .ok (.ifCond .eq 38, 3) := by decide +kernel
theorem dX12_change_40 : decode cX12_change 40 = .ok (.iload_n 2, 1) := by decide +kernel
theorem dX12_change_41 : decode cX12_change 41 = .ok (.iconst 1, 1) := by decide +kernel
theorem dX12_change_42 : decode cX12_change 42 = .ok (.iconst 4, 1) := by decide +kernel
theorem dX12_change_43 : decode cX12_change 43 = .ok (.invokestatic 71, 3) := by decide +kernel
theorem dX12_change_46 : decode cX12_change 46 = .ok (.ifCond .eq 29, 3) := by decide +kernel
theorem dX12_change_49 : decode cX12_change 49 = .ok (.iload_n 3, 1) := by decide +kernel
theorem dX12_change_50 : decode cX12_change 50 = .ok (.iconst 0, 1) := by decide +kernel
theorem dX12_change_51 : decode cX12_change 51 = .ok (.iload 4, 2) := by decide +kernel
theorem dX12_change_53 : decode cX12_change 53 = .ok (.invokestatic 71, 3) := by decide +kernel
theorem dX12_change_56 : decode cX12_change 56 = .ok (.ifCond .eq 19, 3) := by decide +kernel
theorem dX12_change_59 : decode cX12_change 59 = .ok (.aload_n 0, 1) := by decide +kernel
theorem dX12_change_60 : decode cX12_change 60 = .ok (.bipush 35, 2) := by decide +kernel
theorem dX12_change_62 : decode cX12_change 62 = .ok (.iconst 5, 1) := by decide +kernel
theorem dX12_change_63 : decode cX12_change 63 = .ok (.iload_n 1, 1) := by decide +kernel
theorem dX12_change_64 : decode cX12_change 64 = .ok (.imul, 1) := by decide +kernel
theorem dX12_change_65 : decode cX12_change 65 = .ok (.iadd, 1) := by decide +kernel
theorem dX12_change_66 : decode cX12_change 66 = .ok (.iload_n 2, 1) := by decide +kernel
theorem dX12_change_67 : decode cX12_change 67 = .ok (.iadd, 1) := by decide +kernel
theorem dX12_change_68 : decode cX12_change 68 = .ok (.iload_n 3, 1) := by decide +kernel
theorem dX12_change_69 : decode cX12_change 69 = .ok (.invokevirtual 226, 3) := by decide +kernel
theorem dX12_change_72 : decode cX12_change 72 = .ok (.goto 4, 3) := by decide +kernel
theorem dX12_change_75 : decode cX12_change 75 = .ok (.iconst (-1), 1) := by decide +kernel
theorem dX12_change_76 : decode cX12_change 76 = .ok (.ireturn, 1) := by decide +kernel
theorem dX12_daysOf_0 : decode cX12_daysOf 0 = .ok (.aload_n 0, 1) := by decide +kernel
theorem dX12_daysOf_1 : decode cX12_daysOf 1 = .ok (.invokevirtual 229, 3) := by decide +kernel
theorem dX12_daysOf_4 : decode cX12_daysOf 4 = .ok (.ifCond .eq 7, 3) := by decide +kernel
theorem dX12_daysOf_7 : decode cX12_daysOf 7 = .ok (.iconst 0, 1) := by decide +kernel
theorem dX12_daysOf_8 : decode cX12_daysOf 8 = .ok (.goto 16, 3) := by decide +kernel
theorem dX12_daysOf_11 : decode cX12_daysOf 11 = .ok (.aload_n 0, 1) := by decide +kernel
theorem dX12_daysOf_12 : decode cX12_daysOf 12 = .ok (.getfield 9, 3) := by decide +kernel
theorem dX12_daysOf_15 : decode cX12_daysOf 15 = .ok (.iconst 1, 1) := by decide +kernel
theorem dX12_daysOf_16 : decode cX12_daysOf 16 = .ok (.iaload, 1) := by decide +kernel
theorem dX12_daysOf_17 : decode cX12_daysOf 17 = .ok (.aload_n 0, 1) := by decide +kernel
theorem dX12_daysOf_18 : decode cX12_daysOf 18 = .ok (.getfield 9, 3) := by decide +kernel
theorem dX12_daysOf_21 : decode cX12_daysOf 21 = .ok (.iconst 0, 1) := by decide +kernel
theorem dX12_daysOf_22 : decode cX12_daysOf 22 = .ok (.iaload, 1) := by decide +kernel
theorem dX12_daysOf_23 : decode cX12_daysOf 23 = .ok (.isub, 1) := by decide +kernel
theorem dX12_daysOf_24 : decode cX12_daysOf 24 = .ok (.istore_n 2, 1) := by decide +kernel
theorem dX12_daysOf_25 : decode cX12_daysOf 25 = .ok (.iload_n 1, 1) := by decide +kernel
theorem dX12_daysOf_26 : decode cX12_daysOf 26 = .ok (.iload_n 2, 1) := by decide +kernel
theorem dX12_daysOf_27 : decode cX12_daysOf 27 = .ok (.if_icmp .ge 7, 3) := by decide +kernel
theorem dX12_daysOf_30 : decode cX12_daysOf 30 = .ok (.iload_n 1, 1) := by decide +kernel
theorem dX12_daysOf_31 : decode cX12_daysOf 31 = .ok (.goto 4, 3) := by decide +kernel
theorem dX12_daysOf_34 : decode cX12_daysOf 34 = .ok (.iload_n 2, 1) := by decide +kernel
theorem dX12_daysOf_35 : decode cX12_daysOf 35 = .ok (.ireturn, 1) := by decide +kernel
theorem dX12_ends_0 : decode cX12_ends 0 = .ok (.iload_n 1, 1) := by decide +kernel
theorem dX12_ends_1 : decode cX12_ends 1 = .ok (.iconst 1, 1) := by decide +kernel
theorem dX12_ends_2 : decode cX12_ends 2 = .ok (.bipush 16, 2) := by decide +kernel
theorem dX12_ends_4 : decode cX12_ends 4 = .ok (.invokestatic 71, 3) := by decide +kernel
theorem dX12_ends_7 : decode cX12_ends 7 = .ok (.ifCond .ne 7, 3) := by decide +kernel
theorem dX12_ends_10 : decode cX12_ends 10 = .ok (.iconst (-1), 1) := by decide +kernel
theorem dX12_ends_11 : decode cX12_ends 11 = .ok (.goto 24, 3) := by decide +kernel
theorem dX12_ends_14 : decode cX12_ends 14 = .ok (.iload_n 1, 1) := by decide +kernel
theorem dX12_ends_15 : decode cX12_ends 15 = .ok (.aload_n 0, 1) := by decide +kernel
theorem dX12_ends_16 : decode cX12_ends 16 = .ok (.getfield 9, 3) := by decide +kernel
theorem dX12_ends_19 : decode cX12_ends 19 = .ok (.iconst 0, 1) := by decide +kernel
theorem dX12_ends_20 : decode cX12_ends 20 = .ok (.iaload, 1) := by decide +kernel
theorem dX12_ends_21 : decode cX12_ends 21 = .ok (.if_icmp .ge 8, 3) := by decide +kernel
theorem dX12_ends_24 : decode cX12_ends 24 = .ok (.bipush (-4), 2) := by decide +kernel
theorem dX12_ends_26 : decode cX12_ends 26 = .ok (.goto 9, 3) := by decide +kernel
theorem dX12_ends_29 : decode cX12_ends 29 = .ok (.aload_n 0, 1) := by decide +kernel
theorem dX12_ends_30 : decode cX12_ends 30 = .ok (.iconst 1, 1) := by decide +kernel
theorem dX12_ends_31 : decode cX12_ends 31 = .ok (.iload_n 1, 1) := by decide +kernel
theorem dX12_ends_32 : decode cX12_ends 32 = .ok (.invokevirtual 226, 3) := by decide +kernel
theorem dX12_ends_35 : decode cX12_ends 35 = .ok (.ireturn, 1) := by decide +kernel
theorem dX12_endsPlan_0 : decode cX12_endsPlan 0 = .ok (.iload_n 2, 1) := by decide +kernel
theorem dX12_endsPlan_1 : decode cX12_endsPlan 1 = .ok (.aload_n 0, 1) := by decide +kernel
theorem dX12_endsPlan_2 : decode cX12_endsPlan 2 = .ok (.getfield 259, 3) := by decide +kernel
theorem dX12_endsPlan_5 : decode cX12_endsPlan 5 = .ok (.if_icmp .le 42, 3) := by decide +kernel
theorem dX12_endsPlan_8 : decode cX12_endsPlan 8 = .ok (.aload_n 0, 1) := by decide +kernel
theorem dX12_endsPlan_9 : decode cX12_endsPlan 9 = .ok (.iconst 0, 1) := by decide +kernel
theorem dX12_endsPlan_10 : decode cX12_endsPlan 10 = .ok (.putfield 262, 3) := by decide +kernel
theorem dX12_endsPlan_13 : decode cX12_endsPlan 13 = .ok (.aload_n 0, 1) := by decide +kernel
theorem dX12_endsPlan_14 : decode cX12_endsPlan 14 = .ok (.iload_n 2, 1) := by decide +kernel
theorem dX12_endsPlan_15 : decode cX12_endsPlan 15 = .ok (.putfield 259, 3) := by decide +kernel
theorem dX12_endsPlan_18 : decode cX12_endsPlan 18 = .ok (.iconst 0, 1) := by decide +kernel
theorem dX12_endsPlan_19 : decode cX12_endsPlan 19 = .ok (.istore 5, 2) := by decide +kernel
theorem dX12_endsPlan_21 : decode cX12_endsPlan 21 = .ok (.iload 5, 2) := by decide +kernel
theorem dX12_endsPlan_23 : decode cX12_endsPlan 23 = .ok (.iload_n 1, 1) := by decide +kernel
theorem dX12_endsPlan_24 : decode cX12_endsPlan 24 = .ok (.if_icmp .ge 23, 3) := by decide +kernel
theorem dX12_endsPlan_27 : decode cX12_endsPlan 27 = .ok (.aload_n 0, 1) := by decide +kernel
theorem dX12_endsPlan_28 : decode cX12_endsPlan 28 = .ok (.getfield 41, 3) := by decide +kernel
theorem dX12_endsPlan_31 : decode cX12_endsPlan 31 = .ok (.iload 5, 2) := by decide +kernel
theorem dX12_endsPlan_33 : decode cX12_endsPlan 33 = .ok (.aload_n 0, 1) := by decide +kernel
theorem dX12_endsPlan_34 : decode cX12_endsPlan 34 = .ok (.getfield 38, 3) := by decide +kernel
theorem dX12_endsPlan_37 : decode cX12_endsPlan 37 = .ok (.iload 5, 2) := by decide +kernel
theorem dX12_endsPlan_39 : decode cX12_endsPlan 39 = .ok (.iaload, 1) := by decide +kernel
theorem dX12_endsPlan_40 : decode cX12_endsPlan 40 = .ok (.iastore, 1) := by decide +kernel
theorem dX12_endsPlan_41 : decode cX12_endsPlan 41 = .ok (.iinc 5 1, 3) := by decide +kernel
theorem dX12_endsPlan_44 : decode cX12_endsPlan 44 = .ok (.goto (-23), 3) := by decide +kernel
theorem dX12_endsPlan_47 : decode cX12_endsPlan 47 = .ok (.aload_n 0, 1) := by decide +kernel
theorem dX12_endsPlan_48 : decode cX12_endsPlan 48 = .ok (.dup, 1) := by decide +kernel
theorem dX12_endsPlan_49 : decode cX12_endsPlan 49 = .ok (.getfield 262, 3) := by decide +kernel
theorem dX12_endsPlan_52 : decode cX12_endsPlan 52 = .ok (.iload_n 2, 1) := by decide +kernel
theorem dX12_endsPlan_53 : decode cX12_endsPlan 53 = .ok (.aload_n 0, 1) := by decide +kernel
theorem dX12_endsPlan_54 : decode cX12_endsPlan 54 = .ok (.getfield 259, 3) := by decide +kernel
theorem dX12_endsPlan_57 : decode cX12_endsPlan 57 = .ok (.if_icmp .ne 7, 3) := by decide +kernel
theorem dX12_endsPlan_60 : decode cX12_endsPlan 60 = .ok (.iconst 1, 1) := by decide +kernel
theorem dX12_endsPlan_61 : decode cX12_endsPlan 61 = .ok (.goto 4, 3) := by decide +kernel
theorem dX12_endsPlan_64 : decode cX12_endsPlan 64 = .ok (.iconst 0, 1) := by decide +kernel
theorem dX12_endsPlan_65 : decode cX12_endsPlan 65 = .ok (.iadd, 1) := by decide +kernel
theorem dX12_endsPlan_66 : decode cX12_endsPlan 66 = .ok (.putfield 262, 3) := by decide +kernel
theorem dX12_endsPlan_69 : decode cX12_endsPlan 69 = .ok (.aload_n 0, 1) := by decide +kernel
theorem dX12_endsPlan_70 : decode cX12_endsPlan 70 = .ok (.iconst 4, 1) := by decide +kernel
theorem dX12_endsPlan_71 : decode cX12_endsPlan 71 = .ok (.invokevirtual 232, 3) := by decide +kernel
theorem dX12_endsPlan_74 : decode cX12_endsPlan 74 = .ok (.istore 5, 2) := by decide +kernel
theorem dX12_endsPlan_76 : decode cX12_endsPlan 76 = .ok (.aload_n 0, 1) := by decide +kernel
theorem dX12_endsPlan_77 : decode cX12_endsPlan 77 = .ok (.iload 4, 2) := by decide +kernel
theorem dX12_endsPlan_79 : decode cX12_endsPlan 79 = .ok (.iload 5, 2) := by decide +kernel
theorem dX12_endsPlan_81 : decode cX12_endsPlan 81 = .ok (.iconst (-1), 1) := by decide +kernel
theorem dX12_endsPlan_82 : decode cX12_endsPlan 82 = .ok (.ixor, 1) := by decide +kernel
theorem dX12_endsPlan_83 : decode cX12_endsPlan 83 = .ok (.iand, 1) := by decide +kernel
theorem dX12_endsPlan_84 : decode cX12_endsPlan 84 = .ok (.ifCond .ne 15, 3) := by decide +kernel
theorem dX12_endsPlan_87 : decode cX12_endsPlan 87 = .ok (.iload_n 3, 1) := by decide +kernel
theorem dX12_endsPlan_88 : decode cX12_endsPlan 88 = .ok (.aload_n 0, 1) := by decide +kernel
theorem dX12_endsPlan_89 : decode cX12_endsPlan 89 = .ok (.getfield 265, 3) := by decide +kernel
theorem dX12_endsPlan_92 : decode cX12_endsPlan 92 = .ok (.if_icmp .ge 7, 3) := by decide +kernel
theorem dX12_endsPlan_95 : decode cX12_endsPlan 95 = .ok (.iload_n 3, 1) := by decide +kernel
theorem dX12_endsPlan_96 : decode cX12_endsPlan 96 = .ok (.goto 7, 3) := by decide +kernel
theorem dX12_endsPlan_99 : decode cX12_endsPlan 99 = .ok (.aload_n 0, 1) := by decide +kernel
theorem dX12_endsPlan_100 : decode cX12_endsPlan 100 = .ok (.getfield 265, 3) := by decide +kernel
theorem dX12_endsPlan_103 : decode cX12_endsPlan 103 = .ok (.putfield 265, 3) := by decide +kernel
theorem dX12_endsPlan_106 : decode cX12_endsPlan 106 = .ok (.aload_n 0, 1) := by decide +kernel
theorem dX12_endsPlan_107 : decode cX12_endsPlan 107 = .ok (.dup, 1) := by decide +kernel
theorem dX12_endsPlan_108 : decode cX12_endsPlan 108 = .ok (.getfield 268, 3) := by decide +kernel
theorem dX12_endsPlan_111 : decode cX12_endsPlan 111 = .ok (.iload 5, 2) := by decide +kernel
theorem dX12_endsPlan_113 : decode cX12_endsPlan 113 = .ok (.ior, 1) := by decide +kernel
theorem dX12_endsPlan_114 : decode cX12_endsPlan 114 = .ok (.putfield 268, 3) := by decide +kernel
theorem dX12_endsPlan_117 : decode cX12_endsPlan 117 = .ok (.return_, 1) := by decide +kernel
theorem dX12_feed_0 : decode cX12_feed 0 = .ok (.iload_n 3, 1) := by decide +kernel
theorem dX12_feed_1 : decode cX12_feed 1 = .ok (.iconst 1, 1) := by decide +kernel
theorem dX12_feed_2 : decode cX12_feed 2 = .ok (.bipush 8, 2) := by decide +kernel
theorem dX12_feed_4 : decode cX12_feed 4 = .ok (.invokestatic 71, 3) := by decide +kernel
theorem dX12_feed_7 : decode cX12_feed 7 = .ok (.ifCond .ne 5, 3) := by decide +kernel
theorem dX12_feed_10 : decode cX12_feed 10 = .ok (.iconst (-1), 1) := by decide +kernel
theorem dX12_feed_11 : decode cX12_feed 11 = .ok (.ireturn, 1) := by decide +kernel
theorem dX12_feed_12 : decode cX12_feed 12 = .ok (.aload_n 0, 1) := by decide +kernel
theorem dX12_feed_13 : decode cX12_feed 13 = .ok (.getfield 126, 3) := by decide +kernel
theorem dX12_feed_16 : decode cX12_feed 16 = .ok (.iload_n 3, 1) := by decide +kernel
theorem dX12_feed_17 : decode cX12_feed 17 = .ok (.iadd, 1) := by decide +kernel
theorem dX12_feed_18 : decode cX12_feed 18 = .ok (.sipush 200, 3) := by decide +kernel
theorem dX12_feed_21 : decode cX12_feed 21 = .ok (.if_icmp .le 6, 3) := by decide +kernel
theorem dX12_feed_24 : decode cX12_feed 24 = .ok (.bipush (-2), 2) := by decide +kernel
theorem dX12_feed_26 : decode cX12_feed 26 = .ok (.ireturn, 1) := by decide +kernel
theorem dX12_feed_27 : decode cX12_feed 27 = .ok (.iconst 0, 1) := by decide +kernel
theorem dX12_feed_28 : decode cX12_feed 28 = .ok (.istore 4, 2) := by decide +kernel
theorem dX12_feed_30 : decode cX12_feed 30 = .ok (.iload 4, 2) := by decide +kernel
theorem dX12_feed_32 : decode cX12_feed 32 = .ok (.iload_n 3, 1) := by decide +kernel
theorem dX12_feed_33 : decode cX12_feed 33 = .ok (.if_icmp .ge 40, 3) := by decide +kernel
theorem dX12_feed_36 : decode cX12_feed 36 = .ok (.aload_n 0, 1) := by decide +kernel
theorem dX12_feed_37 : decode cX12_feed 37 = .ok (.getfield 22, 3) := by decide +kernel
theorem dX12_feed_40 : decode cX12_feed 40 = .ok (.aload_n 0, 1) := by decide +kernel
theorem dX12_feed_41 : decode cX12_feed 41 = .ok (.getfield 126, 3) := by decide +kernel
theorem dX12_feed_44 : decode cX12_feed 44 = .ok (.lload_n 1, 1) := by decide +kernel
theorem dX12_feed_45 : decode cX12_feed 45 = .ok (.bipush 8, 2) := by decide +kernel
theorem dX12_feed_47 : decode cX12_feed 47 = .ok (.iload 4, 2) := by decide +kernel
theorem dX12_feed_49 : decode cX12_feed 49 = .ok (.imul, 1) := by decide +kernel
theorem dX12_feed_50 : decode cX12_feed 50 = .ok (.lshr, 1) := by decide +kernel
theorem dX12_feed_51 : decode cX12_feed 51 = .ok (.ldc2_w 190, 3) := by decide +kernel
theorem dX12_feed_54 : decode cX12_feed 54 = .ok (.land, 1) := by decide +kernel
theorem dX12_feed_55 : decode cX12_feed 55 = .ok (.l2i, 1) := by decide +kernel
theorem dX12_feed_56 : decode cX12_feed 56 = .ok (.iastore, 1) := by decide +kernel
theorem dX12_feed_57 : decode cX12_feed 57 = .ok (.aload_n 0, 1) := by decide +kernel
theorem dX12_feed_58 : decode cX12_feed 58 = .ok (.dup, 1) := by decide +kernel
theorem dX12_feed_59 : decode cX12_feed 59 = .ok (.getfield 126, 3) := by decide +kernel
theorem dX12_feed_62 : decode cX12_feed 62 = .ok (.iconst 1, 1) := by decide +kernel
theorem dX12_feed_63 : decode cX12_feed 63 = .ok (.iadd, 1) := by decide +kernel
theorem dX12_feed_64 : decode cX12_feed 64 = .ok (.putfield 126, 3) := by decide +kernel
theorem dX12_feed_67 : decode cX12_feed 67 = .ok (.iinc 4 1, 3) := by decide +kernel
theorem dX12_feed_70 : decode cX12_feed 70 = .ok (.goto (-40), 3) := by decide +kernel
theorem dX12_feed_73 : decode cX12_feed 73 = .ok (.aload_n 0, 1) := by decide +kernel
theorem dX12_feed_74 : decode cX12_feed 74 = .ok (.getfield 126, 3) := by decide +kernel
theorem dX12_feed_77 : decode cX12_feed 77 = .ok (.ireturn, 1) := by decide +kernel
theorem dX12_fitting_0 : decode cX12_fitting 0 = .ok (.iconst 0, 1) := by decide +kernel
theorem dX12_fitting_1 : decode cX12_fitting 1 = .ok (.istore_n 2, 1) := by decide +kernel
theorem dX12_fitting_2 : decode cX12_fitting 2 = .ok (.aload_n 0, 1) := by decide +kernel
theorem dX12_fitting_3 : decode cX12_fitting 3 = .ok (.iconst (-1), 1) := by decide +kernel
theorem dX12_fitting_4 : decode cX12_fitting 4 = .ok (.putfield 301, 3) := by decide +kernel
theorem dX12_fitting_7 : decode cX12_fitting 7 = .ok (.iconst 0, 1) := by decide +kernel
theorem dX12_fitting_8 : decode cX12_fitting 8 = .ok (.istore_n 3, 1) := by decide +kernel
theorem dX12_fitting_9 : decode cX12_fitting 9 = .ok (.iload_n 3, 1) := by decide +kernel
theorem dX12_fitting_10 : decode cX12_fitting 10 = .ok (.sipush 500, 3) := by decide +kernel
theorem dX12_fitting_13 : decode cX12_fitting 13 = .ok (.if_icmp .ge 124, 3) := by decide +kernel
theorem dX12_fitting_16 : decode cX12_fitting 16 = .ok (.aload_n 0, 1) := by decide +kernel
theorem dX12_fitting_17 : decode cX12_fitting 17 = .ok (.iconst 1, 1) := by decide +kernel
theorem dX12_fitting_18 : decode cX12_fitting 18 = .ok (.iload_n 3, 1) := by decide +kernel
theorem dX12_fitting_19 : decode cX12_fitting 19 = .ok (.bipush 100, 2) := by decide +kernel
theorem dX12_fitting_21 : decode cX12_fitting 21 = .ok (.idiv, 1) := by decide +kernel
theorem dX12_fitting_22 : decode cX12_fitting 22 = .ok (.iadd, 1) := by decide +kernel
theorem dX12_fitting_23 : decode cX12_fitting 23 = .ok (.iload_n 3, 1) := by decide +kernel
theorem dX12_fitting_24 : decode cX12_fitting 24 = .ok (.bipush 10, 2) := by decide +kernel
theorem dX12_fitting_26 : decode cX12_fitting 26 = .ok (.idiv, 1) := by decide +kernel
theorem dX12_fitting_27 : decode cX12_fitting 27 = .ok (.bipush 10, 2) := by decide +kernel
theorem dX12_fitting_29 : decode cX12_fitting 29 = .ok (.irem, 1) := by decide +kernel
theorem dX12_fitting_30 : decode cX12_fitting 30 = .ok (.bipush 10, 2) := by decide +kernel
theorem dX12_fitting_32 : decode cX12_fitting 32 = .ok (.iload_n 3, 1) := by decide +kernel
theorem dX12_fitting_33 : decode cX12_fitting 33 = .ok (.bipush 10, 2) := by decide +kernel
theorem dX12_fitting_35 : decode cX12_fitting 35 = .ok (.irem, 1) := by decide +kernel
theorem dX12_fitting_36 : decode cX12_fitting 36 = .ok (.imul, 1) := by decide +kernel
theorem dX12_fitting_37 : decode cX12_fitting 37 = .ok (.bipush 9, 2) := by decide +kernel
theorem dX12_fitting_39 : decode cX12_fitting 39 = .ok (.iadd, 1) := by decide +kernel
theorem dX12_fitting_40 : decode cX12_fitting 40 = .ok (.invokevirtual 304, 3) := by decide +kernel
theorem dX12_fitting_43 : decode cX12_fitting 43 = .ok (.iconst 1, 1) := by decide +kernel
theorem dX12_fitting_44 : decode cX12_fitting 44 = .ok (.istore 4, 2) := by decide +kernel
theorem dX12_fitting_46 : decode cX12_fitting 46 = .ok (.iconst 0, 1) := by decide +kernel
theorem dX12_fitting_47 : decode cX12_fitting 47 = .ok (.istore 5, 2) := by decide +kernel
theorem dX12_fitting_49 : decode cX12_fitting 49 = .ok (.iload 5, 2) := by decide +kernel
theorem dX12_fitting_51 : decode cX12_fitting 51 = .ok (.aload_n 0, 1) := by decide +kernel
theorem dX12_fitting_52 : decode cX12_fitting 52 = .ok (.getfield 9, 3) := by decide +kernel
theorem dX12_fitting_55 : decode cX12_fitting 55 = .ok (.bipush 6, 2) := by decide +kernel
theorem dX12_fitting_57 : decode cX12_fitting 57 = .ok (.iaload, 1) := by decide +kernel
theorem dX12_fitting_58 : decode cX12_fitting 58 = .ok (.if_icmp .ge 36, 3) := by decide +kernel
theorem dX12_fitting_61 : decode cX12_fitting 61 = .ok (.iload 4, 2) := by decide +kernel
theorem dX12_fitting_63 : decode cX12_fitting 63 = .ok (.ifCond .eq 31, 3) := by decide +kernel
theorem dX12_fitting_66 : decode cX12_fitting 66 = .ok (.iload 5, 2) := by decide +kernel
theorem dX12_fitting_68 : decode cX12_fitting 68 = .ok (.iload_n 1, 1) := by decide +kernel
theorem dX12_fitting_69 : decode cX12_fitting 69 = .ok (.if_icmp .eq 12, 3) := by decide +kernel
theorem dX12_fitting_72 : decode cX12_fitting 72 = .ok (.aload_n 0, 1) := by decide +kernel
theorem dX12_fitting_73 : decode cX12_fitting 73 = .ok (.iload 5, 2) := by decide +kernel
theorem dX12_fitting_75 : decode cX12_fitting 75 = .ok (.invokevirtual 307, 3) := by decide +kernel
theorem dX12_fitting_78 : decode cX12_fitting 78 = .ok (.ifCond .eq 7, 3) := by decide +kernel
theorem dX12_fitting_81 : decode cX12_fitting 81 = .ok (.iconst 1, 1) := by decide +kernel
theorem dX12_fitting_82 : decode cX12_fitting 82 = .ok (.goto 4, 3) := by decide +kernel
theorem dX12_fitting_85 : decode cX12_fitting 85 = .ok (.iconst 0, 1) := by decide +kernel
theorem dX12_fitting_86 : decode cX12_fitting 86 = .ok (.istore 4, 2) := by decide +kernel
theorem dX12_fitting_88 : decode cX12_fitting 88 = .ok (.iinc 5 1, 3) := by decide +kernel
theorem dX12_fitting_91 : decode cX12_fitting 91 = .ok (.goto (-42), 3) := by decide +kernel
theorem dX12_fitting_94 : decode cX12_fitting 94 = .ok (.iload_n 2, 1) := by decide +kernel
theorem dX12_fitting_95 : decode cX12_fitting 95 = .ok (.iload 4, 2) := by decide +kernel
theorem dX12_fitting_97 : decode cX12_fitting 97 = .ok (.ifCond .eq 7, 3) := by decide +kernel
theorem dX12_fitting_100 : decode cX12_fitting 100 = .ok (.iconst 1, 1) := by decide +kernel
theorem dX12_fitting_101 : decode cX12_fitting 101 = .ok (.goto 4, 3) := by decide +kernel
theorem dX12_fitting_104 : decode cX12_fitting 104 = .ok (.iconst 0, 1) := by decide +kernel
theorem dX12_fitting_105 : decode cX12_fitting 105 = .ok (.iadd, 1) := by decide +kernel
theorem dX12_fitting_106 : decode cX12_fitting 106 = .ok (.istore_n 2, 1) := by decide +kernel
theorem dX12_fitting_107 : decode cX12_fitting 107 = .ok (.aload_n 0, 1) := by decide +kernel
theorem dX12_fitting_108 : decode cX12_fitting 108 = .ok (.iload 4, 2) := by decide +kernel
theorem dX12_fitting_110 : decode cX12_fitting 110 = .ok (.ifCond .eq 14, 3) := by decide +kernel
theorem dX12_fitting_113 : decode cX12_fitting 113 = .ok (.aload_n 0, 1) := by decide +kernel
theorem dX12_fitting_114 : decode cX12_fitting 114 = .ok (.getfield 301, 3) := by decide +kernel
theorem dX12_fitting_117 : decode cX12_fitting 117 = .ok (.ifCond .ge 7, 3) := by decide +kernel
theorem dX12_fitting_120 : decode cX12_fitting 120 = .ok (.iload_n 3, 1) := by decide +kernel
theorem dX12_fitting_121 : decode cX12_fitting 121 = .ok (.goto 7, 3) := by decide +kernel
theorem dX12_fitting_124 : decode cX12_fitting 124 = .ok (.aload_n 0, 1) := by decide +kernel
theorem dX12_fitting_125 : decode cX12_fitting 125 = .ok (.getfield 301, 3) := by decide +kernel
theorem dX12_fitting_128 : decode cX12_fitting 128 = .ok (.putfield 301, 3) := by decide +kernel
theorem dX12_fitting_131 : decode cX12_fitting 131 = .ok (.iinc 3 1, 3) := by decide +kernel
theorem dX12_fitting_134 : decode cX12_fitting 134 = .ok (.goto (-125), 3) := by decide +kernel
theorem dX12_fitting_137 : decode cX12_fitting 137 = .ok (.iload_n 2, 1) := by decide +kernel
theorem dX12_fitting_138 : decode cX12_fitting 138 = .ok (.ireturn, 1) := by decide +kernel
theorem dX12_forget_0 : decode cX12_forget 0 = .ok (.aload_n 0, 1) := by decide +kernel
theorem dX12_forget_1 : decode cX12_forget 1 = .ok (.bipush 6, 2) := by decide +kernel
theorem dX12_forget_3 : decode cX12_forget 3 = .ok (.iconst 0, 1) := by decide +kernel
theorem dX12_forget_4 : decode cX12_forget 4 = .ok (.invokevirtual 226, 3) := by decide +kernel
theorem dX12_forget_7 : decode cX12_forget 7 = .ok (.ireturn, 1) := by decide +kernel
theorem dX12_game_0 : decode cX12_game 0 = .ok (.iload_n 1, 1) := by decide +kernel
theorem dX12_game_1 : decode cX12_game 1 = .ok (.iconst 1, 1) := by decide +kernel
theorem dX12_game_2 : decode cX12_game 2 = .ok (.iconst 4, 1) := by decide +kernel
theorem dX12_game_3 : decode cX12_game 3 = .ok (.invokestatic 71, 3) := by decide +kernel
theorem dX12_game_6 : decode cX12_game 6 = .ok (.ifCond .eq 16, 3) := by decide +kernel
theorem dX12_game_9 : decode cX12_game 9 = .ok (.aload_n 0, 1) := by decide +kernel
theorem dX12_game_10 : decode cX12_game 10 = .ok (.iconst 0, 1) := by decide +kernel
theorem dX12_game_11 : decode cX12_game 11 = .ok (.aload_n 0, 1) := by decide +kernel
theorem dX12_game_12 : decode cX12_game 12 = .ok (.iload_n 1, 1) := by decide +kernel
theorem dX12_game_13 : decode cX12_game 13 = .ok (.invokevirtual 285, 3) := by decide +kernel
theorem dX12_game_16 : decode cX12_game 16 = .ok (.invokevirtual 298, 3) := by decide +kernel
theorem dX12_game_19 : decode cX12_game 19 = .ok (.goto 4, 3) := by decide +kernel
theorem dX12_game_22 : decode cX12_game 22 = .ok (.iconst (-1), 1) := by decide +kernel
theorem dX12_game_23 : decode cX12_game 23 = .ok (.ireturn, 1) := by decide +kernel
theorem dX12_gate_0 : decode cX12_gate 0 = .ok (.iload_n 1, 1) := by decide +kernel
theorem dX12_gate_1 : decode cX12_gate 1 = .ok (.invokestatic 220, 3) := by decide +kernel
theorem dX12_gate_4 : decode cX12_gate 4 = .ok (.ifCond .eq 40, 3) := by decide +kernel
theorem dX12_gate_7 : decode cX12_gate 7 = .ok (.iload_n 2, 1) := by decide +kernel
theorem dX12_gate_8 : decode cX12_gate 8 = .ok (.iconst 0, 1) := by decide +kernel
theorem dX12_gate_9 : decode cX12_gate 9 = .ok (.iconst 1, 1) := by decide +kernel
theorem dX12_gate_10 : decode cX12_gate 10 = .ok (.invokestatic 71, 3) := by decide +kernel
theorem dX12_gate_13 : decode cX12_gate 13 = .ok (.ifCond .eq 31, 3) := by decide +kernel
theorem dX12_gate_16 : decode cX12_gate 16 = .ok (.iload_n 3, 1) := by decide +kernel
theorem dX12_gate_17 : decode cX12_gate 17 = .ok (.invokestatic 217, 3) := by decide +kernel
theorem dX12_gate_20 : decode cX12_gate 20 = .ok (.ifCond .eq 24, 3) := by decide +kernel
theorem dX12_gate_23 : decode cX12_gate 23 = .ok (.aload_n 0, 1) := by decide +kernel
theorem dX12_gate_24 : decode cX12_gate 24 = .ok (.iload_n 2, 1) := by decide +kernel
theorem dX12_gate_25 : decode cX12_gate 25 = .ok (.ifCond .ne 8, 3) := by decide +kernel
theorem dX12_gate_28 : decode cX12_gate 28 = .ok (.bipush 23, 2) := by decide +kernel
theorem dX12_gate_30 : decode cX12_gate 30 = .ok (.goto 5, 3) := by decide +kernel
theorem dX12_gate_33 : decode cX12_gate 33 = .ok (.bipush 29, 2) := by decide +kernel
theorem dX12_gate_35 : decode cX12_gate 35 = .ok (.iload_n 1, 1) := by decide +kernel
theorem dX12_gate_36 : decode cX12_gate 36 = .ok (.iadd, 1) := by decide +kernel
theorem dX12_gate_37 : decode cX12_gate 37 = .ok (.iload_n 3, 1) := by decide +kernel
theorem dX12_gate_38 : decode cX12_gate 38 = .ok (.invokevirtual 226, 3) := by decide +kernel
theorem dX12_gate_41 : decode cX12_gate 41 = .ok (.goto 4, 3) := by decide +kernel
theorem dX12_gate_44 : decode cX12_gate 44 = .ok (.iconst (-1), 1) := by decide +kernel
theorem dX12_gate_45 : decode cX12_gate 45 = .ok (.ireturn, 1) := by decide +kernel
theorem dX12_gateFor_0 : decode cX12_gateFor 0 = .ok (.aload_n 0, 1) := by decide +kernel
theorem dX12_gateFor_1 : decode cX12_gateFor 1 = .ok (.iload_n 1, 1) := by decide +kernel
theorem dX12_gateFor_2 : decode cX12_gateFor 2 = .ok (.iconst 3, 1) := by decide +kernel
theorem dX12_gateFor_3 : decode cX12_gateFor 3 = .ok (.iconst 5, 1) := by decide +kernel
theorem dX12_gateFor_4 : decode cX12_gateFor 4 = .ok (.invokevirtual 250, 3) := by decide +kernel
theorem dX12_gateFor_7 : decode cX12_gateFor 7 = .ok (.ireturn, 1) := by decide +kernel
theorem dX12_gateOf_0 : decode cX12_gateOf 0 = .ok (.iload_n 1, 1) := by decide +kernel
theorem dX12_gateOf_1 : decode cX12_gateOf 1 = .ok (.invokestatic 220, 3) := by decide +kernel
theorem dX12_gateOf_4 : decode cX12_gateOf 4 = .ok (.ifCond .eq 33, 3) := by decide +kernel
theorem dX12_gateOf_7 : decode cX12_gateOf 7 = .ok (.iload_n 2, 1) := by decide +kernel
theorem dX12_gateOf_8 : decode cX12_gateOf 8 = .ok (.iconst 0, 1) := by decide +kernel
theorem dX12_gateOf_9 : decode cX12_gateOf 9 = .ok (.iconst 1, 1) := by decide +kernel
theorem dX12_gateOf_10 : decode cX12_gateOf 10 = .ok (.invokestatic 71, 3) := by decide +kernel
theorem dX12_gateOf_13 : decode cX12_gateOf 13 = .ok (.ifCond .eq 24, 3) := by decide +kernel
theorem dX12_gateOf_16 : decode cX12_gateOf 16 = .ok (.aload_n 0, 1) := by decide +kernel
theorem dX12_gateOf_17 : decode cX12_gateOf 17 = .ok (.getfield 9, 3) := by decide +kernel
theorem dX12_gateOf_20 : decode cX12_gateOf 20 = .ok (.iload_n 2, 1) := by decide +kernel
theorem dX12_gateOf_21 : decode cX12_gateOf 21 = .ok (.ifCond .ne 8, 3) := by decide +kernel
theorem dX12_gateOf_24 : decode cX12_gateOf 24 = .ok (.bipush 23, 2) := by decide +kernel
theorem dX12_gateOf_26 : decode cX12_gateOf 26 = .ok (.goto 5, 3) := by decide +kernel
theorem dX12_gateOf_29 : decode cX12_gateOf 29 = .ok (.bipush 29, 2) := by decide +kernel
theorem dX12_gateOf_31 : decode cX12_gateOf 31 = .ok (.iload_n 1, 1) := by decide +kernel
theorem dX12_gateOf_32 : decode cX12_gateOf 32 = .ok (.iadd, 1) := by decide +kernel
theorem dX12_gateOf_33 : decode cX12_gateOf 33 = .ok (.iaload, 1) := by decide +kernel
theorem dX12_gateOf_34 : decode cX12_gateOf 34 = .ok (.goto 4, 3) := by decide +kernel
theorem dX12_gateOf_37 : decode cX12_gateOf 37 = .ok (.iconst (-1), 1) := by decide +kernel
theorem dX12_gateOf_38 : decode cX12_gateOf 38 = .ok (.ireturn, 1) := by decide +kernel
theorem dX12_goAll_0 : decode cX12_goAll 0 = .ok (.iload_n 1, 1) := by decide +kernel
theorem dX12_goAll_1 : decode cX12_goAll 1 = .ok (.invokestatic 326, 3) := by decide +kernel
theorem dX12_goAll_4 : decode cX12_goAll 4 = .ok (.ifCond .eq 13, 3) := by decide +kernel
theorem dX12_goAll_7 : decode cX12_goAll 7 = .ok (.iload_n 3, 1) := by decide +kernel
theorem dX12_goAll_8 : decode cX12_goAll 8 = .ok (.iconst 0, 1) := by decide +kernel
theorem dX12_goAll_9 : decode cX12_goAll 9 = .ok (.bipush 20, 2) := by decide +kernel
theorem dX12_goAll_11 : decode cX12_goAll 11 = .ok (.invokestatic 71, 3) := by decide +kernel
theorem dX12_goAll_14 : decode cX12_goAll 14 = .ok (.ifCond .ne 5, 3) := by decide +kernel
theorem dX12_goAll_17 : decode cX12_goAll 17 = .ok (.iconst (-1), 1) := by decide +kernel
theorem dX12_goAll_18 : decode cX12_goAll 18 = .ok (.ireturn, 1) := by decide +kernel
theorem dX12_goAll_19 : decode cX12_goAll 19 = .ok (.aload_n 0, 1) := by decide +kernel
theorem dX12_goAll_20 : decode cX12_goAll 20 = .ok (.iload_n 1, 1) := by decide +kernel
theorem dX12_goAll_21 : decode cX12_goAll 21 = .ok (.iconst 0, 1) := by decide +kernel
theorem dX12_goAll_22 : decode cX12_goAll 22 = .ok (.invokevirtual 332, 3) := by decide +kernel
theorem dX12_goAll_25 : decode cX12_goAll 25 = .ok (.istore 4, 2) := by decide +kernel
theorem dX12_goAll_27 : decode cX12_goAll 27 = .ok (.iload 4, 2) := by decide +kernel
theorem dX12_goAll_29 : decode cX12_goAll 29 = .ok (.ifCond .eq 6, 3) := by decide +kernel
theorem dX12_goAll_32 : decode cX12_goAll 32 = .ok (.iload 4, 2) := by decide +kernel
theorem dX12_goAll_34 : decode cX12_goAll 34 = .ok (.ireturn, 1) := by decide +kernel
theorem dX12_goAll_35 : decode cX12_goAll 35 = .ok (.iconst 0, 1) := by decide +kernel
theorem dX12_goAll_36 : decode cX12_goAll 36 = .ok (.istore 5, 2) := by decide +kernel
theorem dX12_goAll_38 : decode cX12_goAll 38 = .ok (.iconst 0, 1) := by decide +kernel
theorem dX12_goAll_39 : decode cX12_goAll 39 = .ok (.istore 6, 2) := by decide +kernel
theorem dX12_goAll_41 : decode cX12_goAll 41 = .ok (.iload 6, 2) := by decide +kernel
theorem dX12_goAll_43 : decode cX12_goAll 43 = .ok (.iload_n 3, 1) := by decide +kernel
theorem dX12_goAll_44 : decode cX12_goAll 44 = .ok (.if_icmp .ge 70, 3) := by decide +kernel
theorem dX12_goAll_47 : decode cX12_goAll 47 = .ok (.aload_n 0, 1) := by decide +kernel
theorem dX12_goAll_48 : decode cX12_goAll 48 = .ok (.iload_n 1, 1) := by decide +kernel
theorem dX12_goAll_49 : decode cX12_goAll 49 = .ok (.iload_n 2, 1) := by decide +kernel
theorem dX12_goAll_50 : decode cX12_goAll 50 = .ok (.iload 6, 2) := by decide +kernel
theorem dX12_goAll_52 : decode cX12_goAll 52 = .ok (.invokevirtual 335, 3) := by decide +kernel
theorem dX12_goAll_55 : decode cX12_goAll 55 = .ok (.ifCond .ne 6, 3) := by decide +kernel
theorem dX12_goAll_58 : decode cX12_goAll 58 = .ok (.bipush (-12), 2) := by decide +kernel
theorem dX12_goAll_60 : decode cX12_goAll 60 = .ok (.ireturn, 1) := by decide +kernel
theorem dX12_goAll_61 : decode cX12_goAll 61 = .ok (.aload_n 0, 1) := by decide +kernel
theorem dX12_goAll_62 : decode cX12_goAll 62 = .ok (.getfield 59, 3) := by decide +kernel
theorem dX12_goAll_65 : decode cX12_goAll 65 = .ok (.bipush 40, 2) := by decide +kernel
theorem dX12_goAll_67 : decode cX12_goAll 67 = .ok (.iload_n 1, 1) := by decide +kernel
theorem dX12_goAll_68 : decode cX12_goAll 68 = .ok (.imul, 1) := by decide +kernel
theorem dX12_goAll_69 : decode cX12_goAll 69 = .ok (.iload_n 2, 1) := by decide +kernel
theorem dX12_goAll_70 : decode cX12_goAll 70 = .ok (.iadd, 1) := by decide +kernel
theorem dX12_goAll_71 : decode cX12_goAll 71 = .ok (.iload 6, 2) := by decide +kernel
theorem dX12_goAll_73 : decode cX12_goAll 73 = .ok (.iadd, 1) := by decide +kernel
theorem dX12_goAll_74 : decode cX12_goAll 74 = .ok (.iaload, 1) := by decide +kernel
theorem dX12_goAll_75 : decode cX12_goAll 75 = .ok (.istore 7, 2) := by decide +kernel
theorem dX12_goAll_77 : decode cX12_goAll 77 = .ok (.iload 5, 2) := by decide +kernel
theorem dX12_goAll_79 : decode cX12_goAll 79 = .ok (.aload_n 0, 1) := by decide +kernel
theorem dX12_goAll_80 : decode cX12_goAll 80 = .ok (.iload 7, 2) := by decide +kernel
theorem dX12_goAll_82 : decode cX12_goAll 82 = .ok (.invokevirtual 323, 3) := by decide +kernel
theorem dX12_goAll_85 : decode cX12_goAll 85 = .ok (.ifCond .eq 19, 3) := by decide +kernel
theorem dX12_goAll_88 : decode cX12_goAll 88 = .ok (.aload_n 0, 1) := by decide +kernel
theorem dX12_goAll_89 : decode cX12_goAll 89 = .ok (.invokevirtual 229, 3) := by decide +kernel
theorem dX12_goAll_92 : decode cX12_goAll 92 = .ok (.ifCond .ne 12, 3) := by decide +kernel
theorem dX12_goAll_95 : decode cX12_goAll 95 = .ok (.aload_n 0, 1) := by decide +kernel
theorem dX12_goAll_96 : decode cX12_goAll 96 = .ok (.iload 7, 2) := by decide +kernel
theorem dX12_goAll_98 : decode cX12_goAll 98 = .ok (.invokevirtual 238, 3) := by decide +kernel
theorem dX12_goAll_101 : decode cX12_goAll 101 = .ok (.goto 4, 3) := by decide +kernel
theorem dX12_goAll_104 : decode cX12_goAll 104 = .ok (.iconst 0, 1) := by decide +kernel
theorem dX12_goAll_105 : decode cX12_goAll 105 = .ok (.iadd, 1) := by decide +kernel
theorem dX12_goAll_106 : decode cX12_goAll 106 = .ok (.istore 5, 2) := by decide +kernel
theorem dX12_goAll_108 : decode cX12_goAll 108 = .ok (.iinc 6 1, 3) := by decide +kernel
theorem dX12_goAll_111 : decode cX12_goAll 111 = .ok (.goto (-70), 3) := by decide +kernel
theorem dX12_goAll_114 : decode cX12_goAll 114 = .ok (.iload 5, 2) := by decide +kernel
theorem dX12_goAll_116 : decode cX12_goAll 116 = .ok (.ireturn, 1) := by decide +kernel
theorem dX12_goesBy_0 : decode cX12_goesBy 0 = .ok (.iload_n 1, 1) := by decide +kernel
theorem dX12_goesBy_1 : decode cX12_goesBy 1 = .ok (.ifCond .ge 10, 3) := by decide +kernel
theorem dX12_goesBy_4 : decode cX12_goesBy 4 = .ok (.aload_n 0, 1) := by decide +kernel
theorem dX12_goesBy_5 : decode cX12_goesBy 5 = .ok (.invokevirtual 208, 3) := by decide +kernel
theorem dX12_goesBy_8 : decode cX12_goesBy 8 = .ok (.goto 6, 3) := by decide +kernel
theorem dX12_goesBy_11 : decode cX12_goesBy 11 = .ok (.iload_n 1, 1) := by decide +kernel
theorem dX12_goesBy_12 : decode cX12_goesBy 12 = .ok (.iconst 1, 1) := by decide +kernel
theorem dX12_goesBy_13 : decode cX12_goesBy 13 = .ok (.isub, 1) := by decide +kernel
theorem dX12_goesBy_14 : decode cX12_goesBy 14 = .ok (.istore_n 2, 1) := by decide +kernel
theorem dX12_goesBy_15 : decode cX12_goesBy 15 = .ok (.iload_n 2, 1) := by decide +kernel
theorem dX12_goesBy_16 : decode cX12_goesBy 16 = .ok (.ifCond .lt 11, 3) := by decide +kernel
theorem dX12_goesBy_19 : decode cX12_goesBy 19 = .ok (.aload_n 0, 1) := by decide +kernel
theorem dX12_goesBy_20 : decode cX12_goesBy 20 = .ok (.iload_n 2, 1) := by decide +kernel
theorem dX12_goesBy_21 : decode cX12_goesBy 21 = .ok (.invokevirtual 211, 3) := by decide +kernel
theorem dX12_goesBy_24 : decode cX12_goesBy 24 = .ok (.goto 4, 3) := by decide +kernel
theorem dX12_goesBy_27 : decode cX12_goesBy 27 = .ok (.iconst 0, 1) := by decide +kernel
theorem dX12_goesBy_28 : decode cX12_goesBy 28 = .ok (.istore_n 3, 1) := by decide +kernel
theorem dX12_goesBy_29 : decode cX12_goesBy 29 = .ok (.iconst 0, 1) := by decide +kernel
theorem dX12_goesBy_30 : decode cX12_goesBy 30 = .ok (.istore 4, 2) := by decide +kernel
theorem dX12_goesBy_32 : decode cX12_goesBy 32 = .ok (.iload 4, 2) := by decide +kernel
theorem dX12_goesBy_34 : decode cX12_goesBy 34 = .ok (.aload_n 0, 1) := by decide +kernel
theorem dX12_goesBy_35 : decode cX12_goesBy 35 = .ok (.getfield 9, 3) := by decide +kernel
theorem dX12_goesBy_38 : decode cX12_goesBy 38 = .ok (.iconst 4, 1) := by decide +kernel
theorem dX12_goesBy_39 : decode cX12_goesBy 39 = .ok (.iaload, 1) := by decide +kernel
theorem dX12_goesBy_40 : decode cX12_goesBy 40 = .ok (.if_icmp .ge 64, 3) := by decide +kernel
theorem dX12_goesBy_43 : decode cX12_goesBy 43 = .ok (.aload_n 0, 1) := by decide +kernel
theorem dX12_goesBy_44 : decode cX12_goesBy 44 = .ok (.iload 4, 2) := by decide +kernel
theorem dX12_goesBy_46 : decode cX12_goesBy 46 = .ok (.iconst 1, 1) := by decide +kernel
theorem dX12_goesBy_47 : decode cX12_goesBy 47 = .ok (.aload_n 0, 1) := by decide +kernel
theorem dX12_goesBy_48 : decode cX12_goesBy 48 = .ok (.iload 4, 2) := by decide +kernel
theorem dX12_goesBy_50 : decode cX12_goesBy 50 = .ok (.iconst 1, 1) := by decide +kernel
theorem dX12_goesBy_51 : decode cX12_goesBy 51 = .ok (.invokevirtual 79, 3) := by decide +kernel
theorem dX12_goesBy_54 : decode cX12_goesBy 54 = .ok (.aload_n 0, 1) := by decide +kernel
theorem dX12_goesBy_55 : decode cX12_goesBy 55 = .ok (.iload 4, 2) := by decide +kernel
theorem dX12_goesBy_57 : decode cX12_goesBy 57 = .ok (.invokevirtual 214, 3) := by decide +kernel
theorem dX12_goesBy_60 : decode cX12_goesBy 60 = .ok (.isub, 1) := by decide +kernel
theorem dX12_goesBy_61 : decode cX12_goesBy 61 = .ok (.bipush 99, 2) := by decide +kernel
theorem dX12_goesBy_63 : decode cX12_goesBy 63 = .ok (.invokestatic 202, 3) := by decide +kernel
theorem dX12_goesBy_66 : decode cX12_goesBy 66 = .ok (.invokevirtual 195, 3) := by decide +kernel
theorem dX12_goesBy_69 : decode cX12_goesBy 69 = .ok (.iload_n 3, 1) := by decide +kernel
theorem dX12_goesBy_70 : decode cX12_goesBy 70 = .ok (.aload_n 0, 1) := by decide +kernel
theorem dX12_goesBy_71 : decode cX12_goesBy 71 = .ok (.iload 4, 2) := by decide +kernel
theorem dX12_goesBy_73 : decode cX12_goesBy 73 = .ok (.iconst 4, 1) := by decide +kernel
theorem dX12_goesBy_74 : decode cX12_goesBy 74 = .ok (.invokevirtual 79, 3) := by decide +kernel
theorem dX12_goesBy_77 : decode cX12_goesBy 77 = .ok (.iconst 1, 1) := by decide +kernel
theorem dX12_goesBy_78 : decode cX12_goesBy 78 = .ok (.if_icmp .ne 17, 3) := by decide +kernel
theorem dX12_goesBy_81 : decode cX12_goesBy 81 = .ok (.aload_n 0, 1) := by decide +kernel
theorem dX12_goesBy_82 : decode cX12_goesBy 82 = .ok (.iload 4, 2) := by decide +kernel
theorem dX12_goesBy_84 : decode cX12_goesBy 84 = .ok (.iconst 1, 1) := by decide +kernel
theorem dX12_goesBy_85 : decode cX12_goesBy 85 = .ok (.invokevirtual 79, 3) := by decide +kernel
theorem dX12_goesBy_88 : decode cX12_goesBy 88 = .ok (.ifCond .le 7, 3) := by decide +kernel
theorem dX12_goesBy_91 : decode cX12_goesBy 91 = .ok (.iconst 1, 1) := by decide +kernel
theorem dX12_goesBy_92 : decode cX12_goesBy 92 = .ok (.goto 4, 3) := by decide +kernel
theorem dX12_goesBy_95 : decode cX12_goesBy 95 = .ok (.iconst 0, 1) := by decide +kernel
theorem dX12_goesBy_96 : decode cX12_goesBy 96 = .ok (.iadd, 1) := by decide +kernel
theorem dX12_goesBy_97 : decode cX12_goesBy 97 = .ok (.istore_n 3, 1) := by decide +kernel
theorem dX12_goesBy_98 : decode cX12_goesBy 98 = .ok (.iinc 4 1, 3) := by decide +kernel
theorem dX12_goesBy_101 : decode cX12_goesBy 101 = .ok (.goto (-69), 3) := by decide +kernel
theorem dX12_goesBy_104 : decode cX12_goesBy 104 = .ok (.aload_n 0, 1) := by decide +kernel
theorem dX12_goesBy_105 : decode cX12_goesBy 105 = .ok (.getfield 9, 3) := by decide +kernel
theorem dX12_goesBy_108 : decode cX12_goesBy 108 = .ok (.iconst 0, 1) := by decide +kernel
theorem dX12_goesBy_109 : decode cX12_goesBy 109 = .ok (.dup2, 1) := by decide +kernel
theorem dX12_goesBy_110 : decode cX12_goesBy 110 = .ok (.iaload, 1) := by decide +kernel
theorem dX12_goesBy_111 : decode cX12_goesBy 111 = .ok (.iconst 1, 1) := by decide +kernel
theorem dX12_goesBy_112 : decode cX12_goesBy 112 = .ok (.iadd, 1) := by decide +kernel
theorem dX12_goesBy_113 : decode cX12_goesBy 113 = .ok (.iastore, 1) := by decide +kernel
theorem dX12_goesBy_114 : decode cX12_goesBy 114 = .ok (.aload_n 0, 1) := by decide +kernel
theorem dX12_goesBy_115 : decode cX12_goesBy 115 = .ok (.getfield 9, 3) := by decide +kernel
theorem dX12_goesBy_118 : decode cX12_goesBy 118 = .ok (.iconst 2, 1) := by decide +kernel
theorem dX12_goesBy_119 : decode cX12_goesBy 119 = .ok (.dup2, 1) := by decide +kernel
theorem dX12_goesBy_120 : decode cX12_goesBy 120 = .ok (.iaload, 1) := by decide +kernel
theorem dX12_goesBy_121 : decode cX12_goesBy 121 = .ok (.iload_n 3, 1) := by decide +kernel
theorem dX12_goesBy_122 : decode cX12_goesBy 122 = .ok (.iadd, 1) := by decide +kernel
theorem dX12_goesBy_123 : decode cX12_goesBy 123 = .ok (.iastore, 1) := by decide +kernel
theorem dX12_goesBy_124 : decode cX12_goesBy 124 = .ok (.iload_n 3, 1) := by decide +kernel
theorem dX12_goesBy_125 : decode cX12_goesBy 125 = .ok (.ireturn, 1) := by decide +kernel
theorem dX12_goesPlans_0 : decode cX12_goesPlans 0 = .ok (.iload_n 1, 1) := by decide +kernel
theorem dX12_goesPlans_1 : decode cX12_goesPlans 1 = .ok (.iload_n 2, 1) := by decide +kernel
theorem dX12_goesPlans_2 : decode cX12_goesPlans 2 = .ok (.if_icmp .ne 14, 3) := by decide +kernel
theorem dX12_goesPlans_5 : decode cX12_goesPlans 5 = .ok (.aload_n 0, 1) := by decide +kernel
theorem dX12_goesPlans_6 : decode cX12_goesPlans 6 = .ok (.iload_n 2, 1) := by decide +kernel
theorem dX12_goesPlans_7 : decode cX12_goesPlans 7 = .ok (.iload_n 3, 1) := by decide +kernel
theorem dX12_goesPlans_8 : decode cX12_goesPlans 8 = .ok (.iload 4, 2) := by decide +kernel
theorem dX12_goesPlans_10 : decode cX12_goesPlans 10 = .ok (.iload 5, 2) := by decide +kernel
theorem dX12_goesPlans_12 : decode cX12_goesPlans 12 = .ok (.invokevirtual 271, 3) := by decide +kernel
theorem dX12_goesPlans_15 : decode cX12_goesPlans 15 = .ok (.return_, 1) := by decide +kernel
theorem dX12_goesPlans_16 : decode cX12_goesPlans 16 = .ok (.aload_n 0, 1) := by decide +kernel
theorem dX12_goesPlans_17 : decode cX12_goesPlans 17 = .ok (.iload_n 1, 1) := by decide +kernel
theorem dX12_goesPlans_18 : decode cX12_goesPlans 18 = .ok (.invokevirtual 275, 3) := by decide +kernel
theorem dX12_goesPlans_21 : decode cX12_goesPlans 21 = .ok (.iconst 0, 1) := by decide +kernel
theorem dX12_goesPlans_22 : decode cX12_goesPlans 22 = .ok (.istore 6, 2) := by decide +kernel
theorem dX12_goesPlans_24 : decode cX12_goesPlans 24 = .ok (.iload 6, 2) := by decide +kernel
theorem dX12_goesPlans_26 : decode cX12_goesPlans 26 = .ok (.aload_n 0, 1) := by decide +kernel
theorem dX12_goesPlans_27 : decode cX12_goesPlans 27 = .ok (.getfield 9, 3) := by decide +kernel
theorem dX12_goesPlans_30 : decode cX12_goesPlans 30 = .ok (.iconst 4, 1) := by decide +kernel
theorem dX12_goesPlans_31 : decode cX12_goesPlans 31 = .ok (.iaload, 1) := by decide +kernel
theorem dX12_goesPlans_32 : decode cX12_goesPlans 32 = .ok (.if_icmp .gt 58, 3) := by decide +kernel
theorem dX12_goesPlans_35 : decode cX12_goesPlans 35 = .ok (.aload_n 0, 1) := by decide +kernel
theorem dX12_goesPlans_36 : decode cX12_goesPlans 36 = .ok (.getfield 38, 3) := by decide +kernel
theorem dX12_goesPlans_39 : decode cX12_goesPlans 39 = .ok (.iload_n 1, 1) := by decide +kernel
theorem dX12_goesPlans_40 : decode cX12_goesPlans 40 = .ok (.iload 6, 2) := by decide +kernel
theorem dX12_goesPlans_42 : decode cX12_goesPlans 42 = .ok (.iastore, 1) := by decide +kernel
theorem dX12_goesPlans_43 : decode cX12_goesPlans 43 = .ok (.aload_n 0, 1) := by decide +kernel
theorem dX12_goesPlans_44 : decode cX12_goesPlans 44 = .ok (.iload 6, 2) := by decide +kernel
theorem dX12_goesPlans_46 : decode cX12_goesPlans 46 = .ok (.invokevirtual 238, 3) := by decide +kernel
theorem dX12_goesPlans_49 : decode cX12_goesPlans 49 = .ok (.istore 7, 2) := by decide +kernel
theorem dX12_goesPlans_51 : decode cX12_goesPlans 51 = .ok (.aload_n 0, 1) := by decide +kernel
theorem dX12_goesPlans_52 : decode cX12_goesPlans 52 = .ok (.iload_n 1, 1) := by decide +kernel
theorem dX12_goesPlans_53 : decode cX12_goesPlans 53 = .ok (.iconst 1, 1) := by decide +kernel
theorem dX12_goesPlans_54 : decode cX12_goesPlans 54 = .ok (.iadd, 1) := by decide +kernel
theorem dX12_goesPlans_55 : decode cX12_goesPlans 55 = .ok (.iload_n 2, 1) := by decide +kernel
theorem dX12_goesPlans_56 : decode cX12_goesPlans 56 = .ok (.iload_n 3, 1) := by decide +kernel
theorem dX12_goesPlans_57 : decode cX12_goesPlans 57 = .ok (.iload 7, 2) := by decide +kernel
theorem dX12_goesPlans_59 : decode cX12_goesPlans 59 = .ok (.iadd, 1) := by decide +kernel
theorem dX12_goesPlans_60 : decode cX12_goesPlans 60 = .ok (.iload 6, 2) := by decide +kernel
theorem dX12_goesPlans_62 : decode cX12_goesPlans 62 = .ok (.ifCond .le 10, 3) := by decide +kernel
theorem dX12_goesPlans_65 : decode cX12_goesPlans 65 = .ok (.iload 4, 2) := by decide +kernel
theorem dX12_goesPlans_67 : decode cX12_goesPlans 67 = .ok (.iconst 1, 1) := by decide +kernel
theorem dX12_goesPlans_68 : decode cX12_goesPlans 68 = .ok (.iadd, 1) := by decide +kernel
theorem dX12_goesPlans_69 : decode cX12_goesPlans 69 = .ok (.goto 5, 3) := by decide +kernel
theorem dX12_goesPlans_72 : decode cX12_goesPlans 72 = .ok (.iload 4, 2) := by decide +kernel
theorem dX12_goesPlans_74 : decode cX12_goesPlans 74 = .ok (.iload 5, 2) := by decide +kernel
theorem dX12_goesPlans_76 : decode cX12_goesPlans 76 = .ok (.invokevirtual 278, 3) := by decide +kernel
theorem dX12_goesPlans_79 : decode cX12_goesPlans 79 = .ok (.aload_n 0, 1) := by decide +kernel
theorem dX12_goesPlans_80 : decode cX12_goesPlans 80 = .ok (.iload_n 1, 1) := by decide +kernel
theorem dX12_goesPlans_81 : decode cX12_goesPlans 81 = .ok (.invokevirtual 282, 3) := by decide +kernel
theorem dX12_goesPlans_84 : decode cX12_goesPlans 84 = .ok (.iinc 6 1, 3) := by decide +kernel
theorem dX12_goesPlans_87 : decode cX12_goesPlans 87 = .ok (.goto (-63), 3) := by decide +kernel
theorem dX12_goesPlans_90 : decode cX12_goesPlans 90 = .ok (.return_, 1) := by decide +kernel
theorem dX12_gone_0 : decode cX12_gone 0 = .ok (.aload_n 0, 1) := by decide +kernel
theorem dX12_gone_1 : decode cX12_gone 1 = .ok (.iload_n 1, 1) := by decide +kernel
theorem dX12_gone_2 : decode cX12_gone 2 = .ok (.invokevirtual 223, 3) := by decide +kernel
theorem dX12_gone_5 : decode cX12_gone 5 = .ok (.ifCond .ne 5, 3) := by decide +kernel
theorem dX12_gone_8 : decode cX12_gone 8 = .ok (.iconst (-1), 1) := by decide +kernel
theorem dX12_gone_9 : decode cX12_gone 9 = .ok (.ireturn, 1) := by decide +kernel
theorem dX12_gone_10 : decode cX12_gone 10 = .ok (.aload_n 0, 1) := by decide +kernel
theorem dX12_gone_11 : decode cX12_gone 11 = .ok (.invokevirtual 241, 3) := by decide +kernel
theorem dX12_gone_14 : decode cX12_gone 14 = .ok (.iconst 0, 1) := by decide +kernel
theorem dX12_gone_15 : decode cX12_gone 15 = .ok (.istore_n 2, 1) := by decide +kernel
theorem dX12_gone_16 : decode cX12_gone 16 = .ok (.aload_n 0, 1) := by decide +kernel
theorem dX12_gone_17 : decode cX12_gone 17 = .ok (.iload_n 1, 1) := by decide +kernel
theorem dX12_gone_18 : decode cX12_gone 18 = .ok (.iconst 1, 1) := by decide +kernel
theorem dX12_gone_19 : decode cX12_gone 19 = .ok (.invokevirtual 79, 3) := by decide +kernel
theorem dX12_gone_22 : decode cX12_gone 22 = .ok (.ifCond .le 21, 3) := by decide +kernel
theorem dX12_gone_25 : decode cX12_gone 25 = .ok (.aload_n 0, 1) := by decide +kernel
theorem dX12_gone_26 : decode cX12_gone 26 = .ok (.invokevirtual 229, 3) := by decide +kernel
theorem dX12_gone_29 : decode cX12_gone 29 = .ok (.ifCond .ne 14, 3) := by decide +kernel
theorem dX12_gone_32 : decode cX12_gone 32 = .ok (.iload_n 2, 1) := by decide +kernel
theorem dX12_gone_33 : decode cX12_gone 33 = .ok (.aload_n 0, 1) := by decide +kernel
theorem dX12_gone_34 : decode cX12_gone 34 = .ok (.iconst (-1), 1) := by decide +kernel
theorem dX12_gone_35 : decode cX12_gone 35 = .ok (.invokevirtual 238, 3) := by decide +kernel
theorem dX12_gone_38 : decode cX12_gone 38 = .ok (.iadd, 1) := by decide +kernel
theorem dX12_gone_39 : decode cX12_gone 39 = .ok (.istore_n 2, 1) := by decide +kernel
theorem dX12_gone_40 : decode cX12_gone 40 = .ok (.goto (-24), 3) := by decide +kernel
theorem dX12_gone_43 : decode cX12_gone 43 = .ok (.aload_n 0, 1) := by decide +kernel
theorem dX12_gone_44 : decode cX12_gone 44 = .ok (.iload_n 1, 1) := by decide +kernel
theorem dX12_gone_45 : decode cX12_gone 45 = .ok (.iconst 1, 1) := by decide +kernel
theorem dX12_gone_46 : decode cX12_gone 46 = .ok (.invokevirtual 79, 3) := by decide +kernel
theorem dX12_gone_49 : decode cX12_gone 49 = .ok (.ifCond .ne 16, 3) := by decide +kernel
theorem dX12_gone_52 : decode cX12_gone 52 = .ok (.iload_n 2, 1) := by decide +kernel
theorem dX12_gone_53 : decode cX12_gone 53 = .ok (.ifCond .lt 12, 3) := by decide +kernel
theorem dX12_gone_56 : decode cX12_gone 56 = .ok (.aload_n 0, 1) := by decide +kernel
theorem dX12_gone_57 : decode cX12_gone 57 = .ok (.getfield 9, 3) := by decide +kernel
theorem dX12_gone_60 : decode cX12_gone 60 = .ok (.iconst 0, 1) := by decide +kernel
theorem dX12_gone_61 : decode cX12_gone 61 = .ok (.iaload, 1) := by decide +kernel
theorem dX12_gone_62 : decode cX12_gone 62 = .ok (.goto 5, 3) := by decide +kernel
theorem dX12_gone_65 : decode cX12_gone 65 = .ok (.bipush (-3), 2) := by decide +kernel
theorem dX12_gone_67 : decode cX12_gone 67 = .ok (.istore_n 3, 1) := by decide +kernel
theorem dX12_gone_68 : decode cX12_gone 68 = .ok (.aload_n 0, 1) := by decide +kernel
theorem dX12_gone_69 : decode cX12_gone 69 = .ok (.invokevirtual 247, 3) := by decide +kernel
theorem dX12_gone_72 : decode cX12_gone 72 = .ok (.iload_n 3, 1) := by decide +kernel
theorem dX12_gone_73 : decode cX12_gone 73 = .ok (.ireturn, 1) := by decide +kernel
theorem dX12_halt_0 : decode cX12_halt 0 = .ok (.aload_n 0, 1) := by decide +kernel
theorem dX12_halt_1 : decode cX12_halt 1 = .ok (.invokevirtual 229, 3) := by decide +kernel
theorem dX12_halt_4 : decode cX12_halt 4 = .ok (.ifCond .eq 8, 3) := by decide +kernel
theorem dX12_halt_7 : decode cX12_halt 7 = .ok (.bipush (-4), 2) := by decide +kernel
theorem dX12_halt_9 : decode cX12_halt 9 = .ok (.goto 8, 3) := by decide +kernel
theorem dX12_halt_12 : decode cX12_halt 12 = .ok (.aload_n 0, 1) := by decide +kernel
theorem dX12_halt_13 : decode cX12_halt 13 = .ok (.iconst (-1), 1) := by decide +kernel
theorem dX12_halt_14 : decode cX12_halt 14 = .ok (.invokevirtual 238, 3) := by decide +kernel
theorem dX12_halt_17 : decode cX12_halt 17 = .ok (.ireturn, 1) := by decide +kernel
theorem dX12_held_0 : decode cX12_held 0 = .ok (.iload_n 0, 1) := by decide +kernel
theorem dX12_held_1 : decode cX12_held 1 = .ok (.ifCond .ge 7, 3) := by decide +kernel
theorem dX12_held_4 : decode cX12_held 4 = .ok (.iconst 0, 1) := by decide +kernel
theorem dX12_held_5 : decode cX12_held 5 = .ok (.goto 13, 3) := by decide +kernel
theorem dX12_held_8 : decode cX12_held 8 = .ok (.iload_n 0, 1) := by decide +kernel
theorem dX12_held_9 : decode cX12_held 9 = .ok (.iload_n 1, 1) := by decide +kernel
theorem dX12_held_10 : decode cX12_held 10 = .ok (.if_icmp .le 7, 3) := by decide +kernel
theorem dX12_held_13 : decode cX12_held 13 = .ok (.iload_n 1, 1) := by decide +kernel
theorem dX12_held_14 : decode cX12_held 14 = .ok (.goto 4, 3) := by decide +kernel
theorem dX12_held_17 : decode cX12_held 17 = .ok (.iload_n 0, 1) := by decide +kernel
theorem dX12_held_18 : decode cX12_held 18 = .ok (.ireturn, 1) := by decide +kernel
theorem dX12_heldOn_0 : decode cX12_heldOn 0 = .ok (.aload_n 0, 1) := by decide +kernel
theorem dX12_heldOn_1 : decode cX12_heldOn 1 = .ok (.getfield 62, 3) := by decide +kernel
theorem dX12_heldOn_4 : decode cX12_heldOn 4 = .ok (.iload_n 1, 1) := by decide +kernel
theorem dX12_heldOn_5 : decode cX12_heldOn 5 = .ok (.iaload, 1) := by decide +kernel
theorem dX12_heldOn_6 : decode cX12_heldOn 6 = .ok (.ifCond .ne 20, 3) := by decide +kernel
theorem dX12_heldOn_9 : decode cX12_heldOn 9 = .ok (.aload_n 0, 1) := by decide +kernel
theorem dX12_heldOn_10 : decode cX12_heldOn 10 = .ok (.aload_n 0, 1) := by decide +kernel
theorem dX12_heldOn_11 : decode cX12_heldOn 11 = .ok (.getfield 65, 3) := by decide +kernel
theorem dX12_heldOn_14 : decode cX12_heldOn 14 = .ok (.iload_n 1, 1) := by decide +kernel
theorem dX12_heldOn_15 : decode cX12_heldOn 15 = .ok (.iaload, 1) := by decide +kernel
theorem dX12_heldOn_16 : decode cX12_heldOn 16 = .ok (.invokevirtual 223, 3) := by decide +kernel
theorem dX12_heldOn_19 : decode cX12_heldOn 19 = .ok (.ifCond .ne 7, 3) := by decide +kernel
theorem dX12_heldOn_22 : decode cX12_heldOn 22 = .ok (.iconst (-1), 1) := by decide +kernel
theorem dX12_heldOn_23 : decode cX12_heldOn 23 = .ok (.goto 9, 3) := by decide +kernel
theorem dX12_heldOn_26 : decode cX12_heldOn 26 = .ok (.aload_n 0, 1) := by decide +kernel
theorem dX12_heldOn_27 : decode cX12_heldOn 27 = .ok (.getfield 62, 3) := by decide +kernel
theorem dX12_heldOn_30 : decode cX12_heldOn 30 = .ok (.iload_n 1, 1) := by decide +kernel
theorem dX12_heldOn_31 : decode cX12_heldOn 31 = .ok (.iaload, 1) := by decide +kernel
theorem dX12_heldOn_32 : decode cX12_heldOn 32 = .ok (.ireturn, 1) := by decide +kernel
theorem dX12_in1_0 : decode cX12_in1 0 = .ok (.iload_n 0, 1) := by decide +kernel
theorem dX12_in1_1 : decode cX12_in1 1 = .ok (.iload_n 1, 1) := by decide +kernel
theorem dX12_in1_2 : decode cX12_in1 2 = .ok (.if_icmp .lt 12, 3) := by decide +kernel
theorem dX12_in1_5 : decode cX12_in1 5 = .ok (.iload_n 0, 1) := by decide +kernel
theorem dX12_in1_6 : decode cX12_in1 6 = .ok (.iload_n 2, 1) := by decide +kernel
theorem dX12_in1_7 : decode cX12_in1 7 = .ok (.if_icmp .gt 7, 3) := by decide +kernel
theorem dX12_in1_10 : decode cX12_in1 10 = .ok (.iconst 1, 1) := by decide +kernel
theorem dX12_in1_11 : decode cX12_in1 11 = .ok (.goto 4, 3) := by decide +kernel
theorem dX12_in1_14 : decode cX12_in1 14 = .ok (.iconst 0, 1) := by decide +kernel
theorem dX12_in1_15 : decode cX12_in1 15 = .ok (.ireturn, 1) := by decide +kernel
theorem dX12_isDigit_0 : decode cX12_isDigit 0 = .ok (.iload_n 0, 1) := by decide +kernel
theorem dX12_isDigit_1 : decode cX12_isDigit 1 = .ok (.iconst 0, 1) := by decide +kernel
theorem dX12_isDigit_2 : decode cX12_isDigit 2 = .ok (.bipush 9, 2) := by decide +kernel
theorem dX12_isDigit_4 : decode cX12_isDigit 4 = .ok (.invokestatic 71, 3) := by decide +kernel
theorem dX12_isDigit_7 : decode cX12_isDigit 7 = .ok (.ireturn, 1) := by decide +kernel
theorem dX12_isGate_0 : decode cX12_isGate 0 = .ok (.iload_n 0, 1) := by decide +kernel
theorem dX12_isGate_1 : decode cX12_isGate 1 = .ok (.iconst 0, 1) := by decide +kernel
theorem dX12_isGate_2 : decode cX12_isGate 2 = .ok (.iconst 5, 1) := by decide +kernel
theorem dX12_isGate_3 : decode cX12_isGate 3 = .ok (.invokestatic 71, 3) := by decide +kernel
theorem dX12_isGate_6 : decode cX12_isGate 6 = .ok (.ireturn, 1) := by decide +kernel
theorem dX12_isKey_0 : decode cX12_isKey 0 = .ok (.iload_n 1, 1) := by decide +kernel
theorem dX12_isKey_1 : decode cX12_isKey 1 = .ok (.iconst 0, 1) := by decide +kernel
theorem dX12_isKey_2 : decode cX12_isKey 2 = .ok (.aload_n 0, 1) := by decide +kernel
theorem dX12_isKey_3 : decode cX12_isKey 3 = .ok (.getfield 9, 3) := by decide +kernel
theorem dX12_isKey_6 : decode cX12_isKey 6 = .ok (.iconst 4, 1) := by decide +kernel
theorem dX12_isKey_7 : decode cX12_isKey 7 = .ok (.iaload, 1) := by decide +kernel
theorem dX12_isKey_8 : decode cX12_isKey 8 = .ok (.iconst 1, 1) := by decide +kernel
theorem dX12_isKey_9 : decode cX12_isKey 9 = .ok (.isub, 1) := by decide +kernel
theorem dX12_isKey_10 : decode cX12_isKey 10 = .ok (.invokestatic 71, 3) := by decide +kernel
theorem dX12_isKey_13 : decode cX12_isKey 13 = .ok (.ireturn, 1) := by decide +kernel
theorem dX12_isOver_0 : decode cX12_isOver 0 = .ok (.aload_n 0, 1) := by decide +kernel
theorem dX12_isOver_1 : decode cX12_isOver 1 = .ok (.getfield 9, 3) := by decide +kernel
theorem dX12_isOver_4 : decode cX12_isOver 4 = .ok (.iconst 0, 1) := by decide +kernel
theorem dX12_isOver_5 : decode cX12_isOver 5 = .ok (.iaload, 1) := by decide +kernel
theorem dX12_isOver_6 : decode cX12_isOver 6 = .ok (.aload_n 0, 1) := by decide +kernel
theorem dX12_isOver_7 : decode cX12_isOver 7 = .ok (.getfield 9, 3) := by decide +kernel
theorem dX12_isOver_10 : decode cX12_isOver 10 = .ok (.iconst 1, 1) := by decide +kernel
theorem dX12_isOver_11 : decode cX12_isOver 11 = .ok (.iaload, 1) := by decide +kernel
theorem dX12_isOver_12 : decode cX12_isOver 12 = .ok (.if_icmp .lt 7, 3) := by decide +kernel
theorem dX12_isOver_15 : decode cX12_isOver 15 = .ok (.iconst 1, 1) := by decide +kernel
theorem dX12_isOver_16 : decode cX12_isOver 16 = .ok (.goto 4, 3) := by decide +kernel
theorem dX12_isOver_19 : decode cX12_isOver 19 = .ok (.iconst 0, 1) := by decide +kernel
theorem dX12_isOver_20 : decode cX12_isOver 20 = .ok (.ireturn, 1) := by decide +kernel
theorem dX12_isPlan_0 : decode cX12_isPlan 0 = .ok (.iload_n 0, 1) := by decide +kernel
theorem dX12_isPlan_1 : decode cX12_isPlan 1 = .ok (.iconst 0, 1) := by decide +kernel
theorem dX12_isPlan_2 : decode cX12_isPlan 2 = .ok (.iconst 4, 1) := by decide +kernel
theorem dX12_isPlan_3 : decode cX12_isPlan 3 = .ok (.invokestatic 71, 3) := by decide +kernel
theorem dX12_isPlan_6 : decode cX12_isPlan 6 = .ok (.ireturn, 1) := by decide +kernel
theorem dX12_isRow_0 : decode cX12_isRow 0 = .ok (.iload_n 1, 1) := by decide +kernel
theorem dX12_isRow_1 : decode cX12_isRow 1 = .ok (.iconst 0, 1) := by decide +kernel
theorem dX12_isRow_2 : decode cX12_isRow 2 = .ok (.aload_n 0, 1) := by decide +kernel
theorem dX12_isRow_3 : decode cX12_isRow 3 = .ok (.getfield 317, 3) := by decide +kernel
theorem dX12_isRow_6 : decode cX12_isRow 6 = .ok (.iconst 1, 1) := by decide +kernel
theorem dX12_isRow_7 : decode cX12_isRow 7 = .ok (.isub, 1) := by decide +kernel
theorem dX12_isRow_8 : decode cX12_isRow 8 = .ok (.invokestatic 71, 3) := by decide +kernel
theorem dX12_isRow_11 : decode cX12_isRow 11 = .ok (.ifCond .eq 16, 3) := by decide +kernel
theorem dX12_isRow_14 : decode cX12_isRow 14 = .ok (.iload_n 2, 1) := by decide +kernel
theorem dX12_isRow_15 : decode cX12_isRow 15 = .ok (.iconst 0, 1) := by decide +kernel
theorem dX12_isRow_16 : decode cX12_isRow 16 = .ok (.iconst 2, 1) := by decide +kernel
theorem dX12_isRow_17 : decode cX12_isRow 17 = .ok (.invokestatic 71, 3) := by decide +kernel
theorem dX12_isRow_20 : decode cX12_isRow 20 = .ok (.ifCond .eq 7, 3) := by decide +kernel
theorem dX12_isRow_23 : decode cX12_isRow 23 = .ok (.iconst 1, 1) := by decide +kernel
theorem dX12_isRow_24 : decode cX12_isRow 24 = .ok (.goto 4, 3) := by decide +kernel
theorem dX12_isRow_27 : decode cX12_isRow 27 = .ok (.iconst 0, 1) := by decide +kernel
theorem dX12_isRow_28 : decode cX12_isRow 28 = .ok (.ireturn, 1) := by decide +kernel
theorem dX12_isSet_0 : decode cX12_isSet 0 = .ok (.iload_n 1, 1) := by decide +kernel
theorem dX12_isSet_1 : decode cX12_isSet 1 = .ok (.iconst 0, 1) := by decide +kernel
theorem dX12_isSet_2 : decode cX12_isSet 2 = .ok (.iconst 1, 1) := by decide +kernel
theorem dX12_isSet_3 : decode cX12_isSet 3 = .ok (.aload_n 0, 1) := by decide +kernel
theorem dX12_isSet_4 : decode cX12_isSet 4 = .ok (.getfield 9, 3) := by decide +kernel
theorem dX12_isSet_7 : decode cX12_isSet 7 = .ok (.iconst 4, 1) := by decide +kernel
theorem dX12_isSet_8 : decode cX12_isSet 8 = .ok (.iaload, 1) := by decide +kernel
theorem dX12_isSet_9 : decode cX12_isSet 9 = .ok (.ishl, 1) := by decide +kernel
theorem dX12_isSet_10 : decode cX12_isSet 10 = .ok (.iconst 1, 1) := by decide +kernel
theorem dX12_isSet_11 : decode cX12_isSet 11 = .ok (.isub, 1) := by decide +kernel
theorem dX12_isSet_12 : decode cX12_isSet 12 = .ok (.invokestatic 71, 3) := by decide +kernel
theorem dX12_isSet_15 : decode cX12_isSet 15 = .ok (.ireturn, 1) := by decide +kernel
theorem dX12_isSheet_0 : decode cX12_isSheet 0 = .ok (.iload_n 0, 1) := by decide +kernel
theorem dX12_isSheet_1 : decode cX12_isSheet 1 = .ok (.iconst 0, 1) := by decide +kernel
theorem dX12_isSheet_2 : decode cX12_isSheet 2 = .ok (.iconst 3, 1) := by decide +kernel
theorem dX12_isSheet_3 : decode cX12_isSheet 3 = .ok (.invokestatic 71, 3) := by decide +kernel
theorem dX12_isSheet_6 : decode cX12_isSheet 6 = .ok (.ireturn, 1) := by decide +kernel
theorem dX12_item_0 : decode cX12_item 0 = .ok (.iload_n 1, 1) := by decide +kernel
theorem dX12_item_1 : decode cX12_item 1 = .ok (.invokestatic 326, 3) := by decide +kernel
theorem dX12_item_4 : decode cX12_item 4 = .ok (.ifCond .eq 12, 3) := by decide +kernel
theorem dX12_item_7 : decode cX12_item 7 = .ok (.iload_n 2, 1) := by decide +kernel
theorem dX12_item_8 : decode cX12_item 8 = .ok (.iconst 0, 1) := by decide +kernel
theorem dX12_item_9 : decode cX12_item 9 = .ok (.iconst 4, 1) := by decide +kernel
theorem dX12_item_10 : decode cX12_item 10 = .ok (.invokestatic 71, 3) := by decide +kernel
theorem dX12_item_13 : decode cX12_item 13 = .ok (.ifCond .ne 5, 3) := by decide +kernel
theorem dX12_item_16 : decode cX12_item 16 = .ok (.iconst (-1), 1) := by decide +kernel
theorem dX12_item_17 : decode cX12_item 17 = .ok (.ireturn, 1) := by decide +kernel
theorem dX12_item_18 : decode cX12_item 18 = .ok (.aload_n 0, 1) := by decide +kernel
theorem dX12_item_19 : decode cX12_item 19 = .ok (.iload_n 1, 1) := by decide +kernel
theorem dX12_item_20 : decode cX12_item 20 = .ok (.iload_n 2, 1) := by decide +kernel
theorem dX12_item_21 : decode cX12_item 21 = .ok (.invokevirtual 332, 3) := by decide +kernel
theorem dX12_item_24 : decode cX12_item 24 = .ok (.istore 4, 2) := by decide +kernel
theorem dX12_item_26 : decode cX12_item 26 = .ok (.iload 4, 2) := by decide +kernel
theorem dX12_item_28 : decode cX12_item 28 = .ok (.ifCond .eq 8, 3) := by decide +kernel
theorem dX12_item_31 : decode cX12_item 31 = .ok (.iload 4, 2) := by decide +kernel
theorem dX12_item_33 : decode cX12_item 33 = .ok (.goto 35, 3) := by decide +kernel
theorem dX12_item_36 : decode cX12_item 36 = .ok (.iload_n 3, 1) := by decide +kernel
theorem dX12_item_37 : decode cX12_item 37 = .ok (.iconst 0, 1) := by decide +kernel
theorem dX12_item_38 : decode cX12_item 38 = .ok (.aload_n 0, 1) := by decide +kernel
theorem dX12_item_39 : decode cX12_item 39 = .ok (.getfield 56, 3) := by decide +kernel
theorem dX12_item_42 : decode cX12_item 42 = .ok (.iload_n 1, 1) := by decide +kernel
theorem dX12_item_43 : decode cX12_item 43 = .ok (.iaload, 1) := by decide +kernel
theorem dX12_item_44 : decode cX12_item 44 = .ok (.iconst 1, 1) := by decide +kernel
theorem dX12_item_45 : decode cX12_item 45 = .ok (.isub, 1) := by decide +kernel
theorem dX12_item_46 : decode cX12_item 46 = .ok (.invokestatic 71, 3) := by decide +kernel
theorem dX12_item_49 : decode cX12_item 49 = .ok (.ifCond .eq 17, 3) := by decide +kernel
theorem dX12_item_52 : decode cX12_item 52 = .ok (.aload_n 0, 1) := by decide +kernel
theorem dX12_item_53 : decode cX12_item 53 = .ok (.getfield 59, 3) := by decide +kernel
theorem dX12_item_56 : decode cX12_item 56 = .ok (.bipush 40, 2) := by decide +kernel
theorem dX12_item_58 : decode cX12_item 58 = .ok (.iload_n 1, 1) := by decide +kernel
theorem dX12_item_59 : decode cX12_item 59 = .ok (.imul, 1) := by decide +kernel
theorem dX12_item_60 : decode cX12_item 60 = .ok (.iload_n 3, 1) := by decide +kernel
theorem dX12_item_61 : decode cX12_item 61 = .ok (.iadd, 1) := by decide +kernel
theorem dX12_item_62 : decode cX12_item 62 = .ok (.iaload, 1) := by decide +kernel
theorem dX12_item_63 : decode cX12_item 63 = .ok (.goto 5, 3) := by decide +kernel
theorem dX12_item_66 : decode cX12_item 66 = .ok (.bipush (-12), 2) := by decide +kernel
theorem dX12_item_68 : decode cX12_item 68 = .ok (.ireturn, 1) := by decide +kernel
theorem dX12_ith_0 : decode cX12_ith 0 = .ok (.iload_n 1, 1) := by decide +kernel
theorem dX12_ith_1 : decode cX12_ith 1 = .ok (.invokestatic 288, 3) := by decide +kernel
theorem dX12_ith_4 : decode cX12_ith 4 = .ok (.ifCond .eq 12, 3) := by decide +kernel
theorem dX12_ith_7 : decode cX12_ith 7 = .ok (.iload_n 2, 1) := by decide +kernel
theorem dX12_ith_8 : decode cX12_ith 8 = .ok (.iconst 0, 1) := by decide +kernel
theorem dX12_ith_9 : decode cX12_ith 9 = .ok (.iconst 3, 1) := by decide +kernel
theorem dX12_ith_10 : decode cX12_ith 10 = .ok (.invokestatic 71, 3) := by decide +kernel
theorem dX12_ith_13 : decode cX12_ith 13 = .ok (.ifCond .ne 5, 3) := by decide +kernel
theorem dX12_ith_16 : decode cX12_ith 16 = .ok (.iconst (-1), 1) := by decide +kernel
theorem dX12_ith_17 : decode cX12_ith 17 = .ok (.ireturn, 1) := by decide +kernel
theorem dX12_ith_18 : decode cX12_ith 18 = .ok (.aload_n 0, 1) := by decide +kernel
theorem dX12_ith_19 : decode cX12_ith 19 = .ok (.iload_n 1, 1) := by decide +kernel
theorem dX12_ith_20 : decode cX12_ith 20 = .ok (.iconst 0, 1) := by decide +kernel
theorem dX12_ith_21 : decode cX12_ith 21 = .ok (.invokevirtual 291, 3) := by decide +kernel
theorem dX12_ith_24 : decode cX12_ith 24 = .ok (.iload_n 2, 1) := by decide +kernel
theorem dX12_ith_25 : decode cX12_ith 25 = .ok (.aload_n 0, 1) := by decide +kernel
theorem dX12_ith_26 : decode cX12_ith 26 = .ok (.iload_n 1, 1) := by decide +kernel
theorem dX12_ith_27 : decode cX12_ith 27 = .ok (.invokevirtual 285, 3) := by decide +kernel
theorem dX12_ith_30 : decode cX12_ith 30 = .ok (.if_icmp .ge 12, 3) := by decide +kernel
theorem dX12_ith_33 : decode cX12_ith 33 = .ok (.aload_n 0, 1) := by decide +kernel
theorem dX12_ith_34 : decode cX12_ith 34 = .ok (.getfield 41, 3) := by decide +kernel
theorem dX12_ith_37 : decode cX12_ith 37 = .ok (.iload_n 2, 1) := by decide +kernel
theorem dX12_ith_38 : decode cX12_ith 38 = .ok (.iaload, 1) := by decide +kernel
theorem dX12_ith_39 : decode cX12_ith 39 = .ok (.goto 5, 3) := by decide +kernel
theorem dX12_ith_42 : decode cX12_ith 42 = .ok (.bipush (-3), 2) := by decide +kernel
theorem dX12_ith_44 : decode cX12_ith 44 = .ok (.ireturn, 1) := by decide +kernel
theorem dX12_judge_0 : decode cX12_judge 0 = .ok (.aload_n 0, 1) := by decide +kernel
theorem dX12_judge_1 : decode cX12_judge 1 = .ok (.invokevirtual 241, 3) := by decide +kernel
theorem dX12_judge_4 : decode cX12_judge 4 = .ok (.iconst 0, 1) := by decide +kernel
theorem dX12_judge_5 : decode cX12_judge 5 = .ok (.istore_n 1, 1) := by decide +kernel
theorem dX12_judge_6 : decode cX12_judge 6 = .ok (.iconst 0, 1) := by decide +kernel
theorem dX12_judge_7 : decode cX12_judge 7 = .ok (.istore_n 2, 1) := by decide +kernel
theorem dX12_judge_8 : decode cX12_judge 8 = .ok (.iload_n 2, 1) := by decide +kernel
theorem dX12_judge_9 : decode cX12_judge 9 = .ok (.aload_n 0, 1) := by decide +kernel
theorem dX12_judge_10 : decode cX12_judge 10 = .ok (.getfield 317, 3) := by decide +kernel
theorem dX12_judge_13 : decode cX12_judge 13 = .ok (.if_icmp .ge 120, 3) := by decide +kernel
theorem dX12_judge_16 : decode cX12_judge 16 = .ok (.iload_n 1, 1) := by decide +kernel
theorem dX12_judge_17 : decode cX12_judge 17 = .ok (.ifCond .ne 116, 3) := by decide +kernel
theorem dX12_judge_20 : decode cX12_judge 20 = .ok (.aload_n 0, 1) := by decide +kernel
theorem dX12_judge_21 : decode cX12_judge 21 = .ok (.aload_n 0, 1) := by decide +kernel
theorem dX12_judge_22 : decode cX12_judge 22 = .ok (.getfield 50, 3) := by decide +kernel
theorem dX12_judge_25 : decode cX12_judge 25 = .ok (.iconst 3, 1) := by decide +kernel
theorem dX12_judge_26 : decode cX12_judge 26 = .ok (.iload_n 2, 1) := by decide +kernel
theorem dX12_judge_27 : decode cX12_judge 27 = .ok (.imul, 1) := by decide +kernel
theorem dX12_judge_28 : decode cX12_judge 28 = .ok (.iaload, 1) := by decide +kernel
theorem dX12_judge_29 : decode cX12_judge 29 = .ok (.invokevirtual 323, 3) := by decide +kernel
theorem dX12_judge_32 : decode cX12_judge 32 = .ok (.ifCond .eq 14, 3) := by decide +kernel
theorem dX12_judge_35 : decode cX12_judge 35 = .ok (.aload_n 0, 1) := by decide +kernel
theorem dX12_judge_36 : decode cX12_judge 36 = .ok (.invokevirtual 229, 3) := by decide +kernel
theorem dX12_judge_39 : decode cX12_judge 39 = .ok (.ifCond .ne 7, 3) := by decide +kernel
theorem dX12_judge_42 : decode cX12_judge 42 = .ok (.iconst 1, 1) := by decide +kernel
theorem dX12_judge_43 : decode cX12_judge 43 = .ok (.goto 4, 3) := by decide +kernel
theorem dX12_judge_46 : decode cX12_judge 46 = .ok (.iconst 0, 1) := by decide +kernel
theorem dX12_judge_47 : decode cX12_judge 47 = .ok (.istore_n 3, 1) := by decide +kernel
theorem dX12_judge_48 : decode cX12_judge 48 = .ok (.iload_n 3, 1) := by decide +kernel
theorem dX12_judge_49 : decode cX12_judge 49 = .ok (.ifCond .eq 18, 3) := by decide +kernel
theorem dX12_judge_52 : decode cX12_judge 52 = .ok (.aload_n 0, 1) := by decide +kernel
theorem dX12_judge_53 : decode cX12_judge 53 = .ok (.aload_n 0, 1) := by decide +kernel
theorem dX12_judge_54 : decode cX12_judge 54 = .ok (.getfield 50, 3) := by decide +kernel
theorem dX12_judge_57 : decode cX12_judge 57 = .ok (.iconst 3, 1) := by decide +kernel
theorem dX12_judge_58 : decode cX12_judge 58 = .ok (.iload_n 2, 1) := by decide +kernel
theorem dX12_judge_59 : decode cX12_judge 59 = .ok (.imul, 1) := by decide +kernel
theorem dX12_judge_60 : decode cX12_judge 60 = .ok (.iaload, 1) := by decide +kernel
theorem dX12_judge_61 : decode cX12_judge 61 = .ok (.invokevirtual 238, 3) := by decide +kernel
theorem dX12_judge_64 : decode cX12_judge 64 = .ok (.goto 4, 3) := by decide +kernel
theorem dX12_judge_67 : decode cX12_judge 67 = .ok (.iconst 0, 1) := by decide +kernel
theorem dX12_judge_68 : decode cX12_judge 68 = .ok (.istore 4, 2) := by decide +kernel
theorem dX12_judge_70 : decode cX12_judge 70 = .ok (.iload_n 3, 1) := by decide +kernel
theorem dX12_judge_71 : decode cX12_judge 71 = .ok (.ifCond .eq 40, 3) := by decide +kernel
theorem dX12_judge_74 : decode cX12_judge 74 = .ok (.iload 4, 2) := by decide +kernel
theorem dX12_judge_76 : decode cX12_judge 76 = .ok (.aload_n 0, 1) := by decide +kernel
theorem dX12_judge_77 : decode cX12_judge 77 = .ok (.getfield 50, 3) := by decide +kernel
theorem dX12_judge_80 : decode cX12_judge 80 = .ok (.iconst 3, 1) := by decide +kernel
theorem dX12_judge_81 : decode cX12_judge 81 = .ok (.iload_n 2, 1) := by decide +kernel
theorem dX12_judge_82 : decode cX12_judge 82 = .ok (.imul, 1) := by decide +kernel
theorem dX12_judge_83 : decode cX12_judge 83 = .ok (.iconst 1, 1) := by decide +kernel
theorem dX12_judge_84 : decode cX12_judge 84 = .ok (.iadd, 1) := by decide +kernel
theorem dX12_judge_85 : decode cX12_judge 85 = .ok (.iaload, 1) := by decide +kernel
theorem dX12_judge_86 : decode cX12_judge 86 = .ok (.if_icmp .ne 25, 3) := by decide +kernel
theorem dX12_judge_89 : decode cX12_judge 89 = .ok (.aload_n 0, 1) := by decide +kernel
theorem dX12_judge_90 : decode cX12_judge 90 = .ok (.iconst 4, 1) := by decide +kernel
theorem dX12_judge_91 : decode cX12_judge 91 = .ok (.invokevirtual 232, 3) := by decide +kernel
theorem dX12_judge_94 : decode cX12_judge 94 = .ok (.aload_n 0, 1) := by decide +kernel
theorem dX12_judge_95 : decode cX12_judge 95 = .ok (.getfield 50, 3) := by decide +kernel
theorem dX12_judge_98 : decode cX12_judge 98 = .ok (.iconst 3, 1) := by decide +kernel
theorem dX12_judge_99 : decode cX12_judge 99 = .ok (.iload_n 2, 1) := by decide +kernel
theorem dX12_judge_100 : decode cX12_judge 100 = .ok (.imul, 1) := by decide +kernel
theorem dX12_judge_101 : decode cX12_judge 101 = .ok (.iconst 2, 1) := by decide +kernel
theorem dX12_judge_102 : decode cX12_judge 102 = .ok (.iadd, 1) := by decide +kernel
theorem dX12_judge_103 : decode cX12_judge 103 = .ok (.iaload, 1) := by decide +kernel
theorem dX12_judge_104 : decode cX12_judge 104 = .ok (.if_icmp .ne 7, 3) := by decide +kernel
theorem dX12_judge_107 : decode cX12_judge 107 = .ok (.iconst 1, 1) := by decide +kernel
theorem dX12_judge_108 : decode cX12_judge 108 = .ok (.goto 4, 3) := by decide +kernel
theorem dX12_judge_111 : decode cX12_judge 111 = .ok (.iconst 0, 1) := by decide +kernel
theorem dX12_judge_112 : decode cX12_judge 112 = .ok (.istore 5, 2) := by decide +kernel
theorem dX12_judge_114 : decode cX12_judge 114 = .ok (.iload 5, 2) := by decide +kernel
theorem dX12_judge_116 : decode cX12_judge 116 = .ok (.ifCond .eq 7, 3) := by decide +kernel
theorem dX12_judge_119 : decode cX12_judge 119 = .ok (.iconst 0, 1) := by decide +kernel
theorem dX12_judge_120 : decode cX12_judge 120 = .ok (.goto 6, 3) := by decide +kernel
theorem dX12_judge_123 : decode cX12_judge 123 = .ok (.iconst 1, 1) := by decide +kernel
theorem dX12_judge_124 : decode cX12_judge 124 = .ok (.iload_n 2, 1) := by decide +kernel
theorem dX12_judge_125 : decode cX12_judge 125 = .ok (.iadd, 1) := by decide +kernel
theorem dX12_judge_126 : decode cX12_judge 126 = .ok (.istore_n 1, 1) := by decide +kernel
theorem dX12_judge_127 : decode cX12_judge 127 = .ok (.iinc 2 1, 3) := by decide +kernel
theorem dX12_judge_130 : decode cX12_judge 130 = .ok (.goto (-122), 3) := by decide +kernel
theorem dX12_judge_133 : decode cX12_judge 133 = .ok (.aload_n 0, 1) := by decide +kernel
theorem dX12_judge_134 : decode cX12_judge 134 = .ok (.invokevirtual 247, 3) := by decide +kernel
theorem dX12_judge_137 : decode cX12_judge 137 = .ok (.iload_n 1, 1) := by decide +kernel
theorem dX12_judge_138 : decode cX12_judge 138 = .ok (.ireturn, 1) := by decide +kernel
theorem dX12_keep_0 : decode cX12_keep 0 = .ok (.iconst 0, 1) := by decide +kernel
theorem dX12_keep_1 : decode cX12_keep 1 = .ok (.istore_n 1, 1) := by decide +kernel
theorem dX12_keep_2 : decode cX12_keep 2 = .ok (.iload_n 1, 1) := by decide +kernel
theorem dX12_keep_3 : decode cX12_keep 3 = .ok (.sipush 313, 3) := by decide +kernel
theorem dX12_keep_6 : decode cX12_keep 6 = .ok (.if_icmp .ge 21, 3) := by decide +kernel
theorem dX12_keep_9 : decode cX12_keep 9 = .ok (.aload_n 0, 1) := by decide +kernel
theorem dX12_keep_10 : decode cX12_keep 10 = .ok (.getfield 13, 3) := by decide +kernel
theorem dX12_keep_13 : decode cX12_keep 13 = .ok (.iload_n 1, 1) := by decide +kernel
theorem dX12_keep_14 : decode cX12_keep 14 = .ok (.aload_n 0, 1) := by decide +kernel
theorem dX12_keep_15 : decode cX12_keep 15 = .ok (.getfield 9, 3) := by decide +kernel
theorem dX12_keep_18 : decode cX12_keep 18 = .ok (.iload_n 1, 1) := by decide +kernel
theorem dX12_keep_19 : decode cX12_keep 19 = .ok (.iaload, 1) := by decide +kernel
theorem dX12_keep_20 : decode cX12_keep 20 = .ok (.iastore, 1) := by decide +kernel
theorem dX12_keep_21 : decode cX12_keep 21 = .ok (.iinc 1 1, 3) := by decide +kernel
theorem dX12_keep_24 : decode cX12_keep 24 = .ok (.goto (-22), 3) := by decide +kernel
theorem dX12_keep_27 : decode cX12_keep 27 = .ok (.aload_n 0, 1) := by decide +kernel
theorem dX12_keep_28 : decode cX12_keep 28 = .ok (.iconst 1, 1) := by decide +kernel
theorem dX12_keep_29 : decode cX12_keep 29 = .ok (.putfield 369, 3) := by decide +kernel
theorem dX12_keep_32 : decode cX12_keep 32 = .ok (.iconst 1, 1) := by decide +kernel
theorem dX12_keep_33 : decode cX12_keep 33 = .ok (.ireturn, 1) := by decide +kernel
theorem dX12_key_0 : decode cX12_key 0 = .ok (.iload_n 1, 1) := by decide +kernel
theorem dX12_key_1 : decode cX12_key 1 = .ok (.iconst 1, 1) := by decide +kernel
theorem dX12_key_2 : decode cX12_key 2 = .ok (.iconst 5, 1) := by decide +kernel
theorem dX12_key_3 : decode cX12_key 3 = .ok (.invokestatic 71, 3) := by decide +kernel
theorem dX12_key_6 : decode cX12_key 6 = .ok (.ifCond .eq 28, 3) := by decide +kernel
theorem dX12_key_9 : decode cX12_key 9 = .ok (.iload_n 2, 1) := by decide +kernel
theorem dX12_key_10 : decode cX12_key 10 = .ok (.iconst 0, 1) := by decide +kernel
theorem dX12_key_11 : decode cX12_key 11 = .ok (.bipush 99, 2) := by decide +kernel
theorem dX12_key_13 : decode cX12_key 13 = .ok (.invokestatic 71, 3) := by decide +kernel
theorem dX12_key_16 : decode cX12_key 16 = .ok (.ifCond .eq 18, 3) := by decide +kernel
theorem dX12_key_19 : decode cX12_key 19 = .ok (.iload_n 3, 1) := by decide +kernel
theorem dX12_key_20 : decode cX12_key 20 = .ok (.invokestatic 217, 3) := by decide +kernel
theorem dX12_key_23 : decode cX12_key 23 = .ok (.ifCond .eq 11, 3) := by decide +kernel
theorem dX12_key_26 : decode cX12_key 26 = .ok (.iload 4, 2) := by decide +kernel
theorem dX12_key_28 : decode cX12_key 28 = .ok (.invokestatic 220, 3) := by decide +kernel
theorem dX12_key_31 : decode cX12_key 31 = .ok (.ifCond .ne 5, 3) := by decide +kernel
theorem dX12_key_34 : decode cX12_key 34 = .ok (.iconst (-1), 1) := by decide +kernel
theorem dX12_key_35 : decode cX12_key 35 = .ok (.ireturn, 1) := by decide +kernel
theorem dX12_key_36 : decode cX12_key 36 = .ok (.aload_n 0, 1) := by decide +kernel
theorem dX12_key_37 : decode cX12_key 37 = .ok (.getfield 9, 3) := by decide +kernel
theorem dX12_key_40 : decode cX12_key 40 = .ok (.iconst 4, 1) := by decide +kernel
theorem dX12_key_41 : decode cX12_key 41 = .ok (.iaload, 1) := by decide +kernel
theorem dX12_key_42 : decode cX12_key 42 = .ok (.bipush 6, 2) := by decide +kernel
theorem dX12_key_44 : decode cX12_key 44 = .ok (.if_icmp .ne 6, 3) := by decide +kernel
theorem dX12_key_47 : decode cX12_key 47 = .ok (.bipush (-2), 2) := by decide +kernel
theorem dX12_key_49 : decode cX12_key 49 = .ok (.ireturn, 1) := by decide +kernel
theorem dX12_key_50 : decode cX12_key 50 = .ok (.aload_n 0, 1) := by decide +kernel
theorem dX12_key_51 : decode cX12_key 51 = .ok (.getfield 9, 3) := by decide +kernel
theorem dX12_key_54 : decode cX12_key 54 = .ok (.iconst 4, 1) := by decide +kernel
theorem dX12_key_55 : decode cX12_key 55 = .ok (.iaload, 1) := by decide +kernel
theorem dX12_key_56 : decode cX12_key 56 = .ok (.istore 5, 2) := by decide +kernel
theorem dX12_key_58 : decode cX12_key 58 = .ok (.aload_n 0, 1) := by decide +kernel
theorem dX12_key_59 : decode cX12_key 59 = .ok (.iload 5, 2) := by decide +kernel
theorem dX12_key_61 : decode cX12_key 61 = .ok (.iconst 0, 1) := by decide +kernel
theorem dX12_key_62 : decode cX12_key 62 = .ok (.iload_n 1, 1) := by decide +kernel
theorem dX12_key_63 : decode cX12_key 63 = .ok (.invokevirtual 195, 3) := by decide +kernel
theorem dX12_key_66 : decode cX12_key 66 = .ok (.aload_n 0, 1) := by decide +kernel
theorem dX12_key_67 : decode cX12_key 67 = .ok (.iload 5, 2) := by decide +kernel
theorem dX12_key_69 : decode cX12_key 69 = .ok (.iconst 1, 1) := by decide +kernel
theorem dX12_key_70 : decode cX12_key 70 = .ok (.iload_n 2, 1) := by decide +kernel
theorem dX12_key_71 : decode cX12_key 71 = .ok (.invokevirtual 195, 3) := by decide +kernel
theorem dX12_key_74 : decode cX12_key 74 = .ok (.aload_n 0, 1) := by decide +kernel
theorem dX12_key_75 : decode cX12_key 75 = .ok (.iload 5, 2) := by decide +kernel
theorem dX12_key_77 : decode cX12_key 77 = .ok (.iconst 2, 1) := by decide +kernel
theorem dX12_key_78 : decode cX12_key 78 = .ok (.iload_n 3, 1) := by decide +kernel
theorem dX12_key_79 : decode cX12_key 79 = .ok (.invokevirtual 195, 3) := by decide +kernel
theorem dX12_key_82 : decode cX12_key 82 = .ok (.aload_n 0, 1) := by decide +kernel
theorem dX12_key_83 : decode cX12_key 83 = .ok (.iload 5, 2) := by decide +kernel
theorem dX12_key_85 : decode cX12_key 85 = .ok (.iconst 3, 1) := by decide +kernel
theorem dX12_key_86 : decode cX12_key 86 = .ok (.iload 4, 2) := by decide +kernel
theorem dX12_key_88 : decode cX12_key 88 = .ok (.invokevirtual 195, 3) := by decide +kernel
theorem dX12_key_91 : decode cX12_key 91 = .ok (.aload_n 0, 1) := by decide +kernel
theorem dX12_key_92 : decode cX12_key 92 = .ok (.iload 5, 2) := by decide +kernel
theorem dX12_key_94 : decode cX12_key 94 = .ok (.iconst 4, 1) := by decide +kernel
theorem dX12_key_95 : decode cX12_key 95 = .ok (.iconst 0, 1) := by decide +kernel
theorem dX12_key_96 : decode cX12_key 96 = .ok (.invokevirtual 195, 3) := by decide +kernel
theorem dX12_key_99 : decode cX12_key 99 = .ok (.aload_n 0, 1) := by decide +kernel
theorem dX12_key_100 : decode cX12_key 100 = .ok (.getfield 9, 3) := by decide +kernel
theorem dX12_key_103 : decode cX12_key 103 = .ok (.iconst 4, 1) := by decide +kernel
theorem dX12_key_104 : decode cX12_key 104 = .ok (.dup2, 1) := by decide +kernel
theorem dX12_key_105 : decode cX12_key 105 = .ok (.iaload, 1) := by decide +kernel
theorem dX12_key_106 : decode cX12_key 106 = .ok (.iconst 1, 1) := by decide +kernel
theorem dX12_key_107 : decode cX12_key 107 = .ok (.iadd, 1) := by decide +kernel
theorem dX12_key_108 : decode cX12_key 108 = .ok (.iastore, 1) := by decide +kernel
theorem dX12_key_109 : decode cX12_key 109 = .ok (.iload 5, 2) := by decide +kernel
theorem dX12_key_111 : decode cX12_key 111 = .ok (.ireturn, 1) := by decide +kernel
theorem dX12_keyOf_0 : decode cX12_keyOf 0 = .ok (.aload_n 0, 1) := by decide +kernel
theorem dX12_keyOf_1 : decode cX12_keyOf 1 = .ok (.iload_n 1, 1) := by decide +kernel
theorem dX12_keyOf_2 : decode cX12_keyOf 2 = .ok (.invokevirtual 223, 3) := by decide +kernel
theorem dX12_keyOf_5 : decode cX12_keyOf 5 = .ok (.ifCond .eq 13, 3) := by decide +kernel
theorem dX12_keyOf_8 : decode cX12_keyOf 8 = .ok (.iload_n 2, 1) := by decide +kernel
theorem dX12_keyOf_9 : decode cX12_keyOf 9 = .ok (.iconst 0, 1) := by decide +kernel
theorem dX12_keyOf_10 : decode cX12_keyOf 10 = .ok (.bipush 9, 2) := by decide +kernel
theorem dX12_keyOf_12 : decode cX12_keyOf 12 = .ok (.invokestatic 71, 3) := by decide +kernel
theorem dX12_keyOf_15 : decode cX12_keyOf 15 = .ok (.ifCond .ne 5, 3) := by decide +kernel
theorem dX12_keyOf_18 : decode cX12_keyOf 18 = .ok (.iconst (-1), 1) := by decide +kernel
theorem dX12_keyOf_19 : decode cX12_keyOf 19 = .ok (.ireturn, 1) := by decide +kernel
theorem dX12_keyOf_20 : decode cX12_keyOf 20 = .ok (.iload_n 2, 1) := by decide +kernel
theorem dX12_keyOf_21 : decode cX12_keyOf 21 = .ok (.tableswitch 73 5 9 #[35, 41, 47, 53, 67], 35) := by decide +kernel
theorem dX12_keyOf_56 : decode cX12_keyOf 56 = .ok (.aload_n 0, 1) := by decide +kernel
theorem dX12_keyOf_57 : decode cX12_keyOf 57 = .ok (.iload_n 1, 1) := by decide +kernel
theorem dX12_keyOf_58 : decode cX12_keyOf 58 = .ok (.invokevirtual 214, 3) := by decide +kernel
theorem dX12_keyOf_61 : decode cX12_keyOf 61 = .ok (.ireturn, 1) := by decide +kernel
theorem dX12_keyOf_62 : decode cX12_keyOf 62 = .ok (.aload_n 0, 1) := by decide +kernel
theorem dX12_keyOf_63 : decode cX12_keyOf 63 = .ok (.iload_n 1, 1) := by decide +kernel
theorem dX12_keyOf_64 : decode cX12_keyOf 64 = .ok (.invokevirtual 94, 3) := by decide +kernel
theorem dX12_keyOf_67 : decode cX12_keyOf 67 = .ok (.ireturn, 1) := by decide +kernel
theorem dX12_keyOf_68 : decode cX12_keyOf 68 = .ok (.aload_n 0, 1) := by decide +kernel
theorem dX12_keyOf_69 : decode cX12_keyOf 69 = .ok (.iload_n 1, 1) := by decide +kernel
theorem dX12_keyOf_70 : decode cX12_keyOf 70 = .ok (.invokevirtual 107, 3) := by decide +kernel
theorem dX12_keyOf_73 : decode cX12_keyOf 73 = .ok (.ireturn, 1) := by decide +kernel
theorem dX12_keyOf_74 : decode cX12_keyOf 74 = .ok (.aload_n 0, 1) := by decide +kernel
theorem dX12_keyOf_75 : decode cX12_keyOf 75 = .ok (.iload_n 1, 1) := by decide +kernel
theorem dX12_keyOf_76 : decode cX12_keyOf 76 = .ok (.invokevirtual 205, 3) := by decide +kernel
theorem dX12_keyOf_79 : decode cX12_keyOf 79 = .ok (.ifCond .eq 7, 3) := by decide +kernel
theorem dX12_keyOf_82 : decode cX12_keyOf 82 = .ok (.iconst 1, 1) := by decide +kernel
theorem dX12_keyOf_83 : decode cX12_keyOf 83 = .ok (.goto 4, 3) := by decide +kernel
theorem dX12_keyOf_86 : decode cX12_keyOf 86 = .ok (.iconst 0, 1) := by decide +kernel
theorem dX12_keyOf_87 : decode cX12_keyOf 87 = .ok (.ireturn, 1) := by decide +kernel
theorem dX12_keyOf_88 : decode cX12_keyOf 88 = .ok (.aload_n 0, 1) := by decide +kernel
theorem dX12_keyOf_89 : decode cX12_keyOf 89 = .ok (.iload_n 1, 1) := by decide +kernel
theorem dX12_keyOf_90 : decode cX12_keyOf 90 = .ok (.invokevirtual 104, 3) := by decide +kernel
theorem dX12_keyOf_93 : decode cX12_keyOf 93 = .ok (.ireturn, 1) := by decide +kernel
theorem dX12_keyOf_94 : decode cX12_keyOf 94 = .ok (.aload_n 0, 1) := by decide +kernel
theorem dX12_keyOf_95 : decode cX12_keyOf 95 = .ok (.iload_n 1, 1) := by decide +kernel
theorem dX12_keyOf_96 : decode cX12_keyOf 96 = .ok (.iload_n 2, 1) := by decide +kernel
theorem dX12_keyOf_97 : decode cX12_keyOf 97 = .ok (.invokevirtual 79, 3) := by decide +kernel
theorem dX12_keyOf_100 : decode cX12_keyOf 100 = .ok (.ireturn, 1) := by decide +kernel
theorem dX12_lacks_0 : decode cX12_lacks 0 = .ok (.aload_n 0, 1) := by decide +kernel
theorem dX12_lacks_1 : decode cX12_lacks 1 = .ok (.getfield 53, 3) := by decide +kernel
theorem dX12_lacks_4 : decode cX12_lacks 4 = .ok (.iload_n 1, 1) := by decide +kernel
theorem dX12_lacks_5 : decode cX12_lacks 5 = .ok (.iaload, 1) := by decide +kernel
theorem dX12_lacks_6 : decode cX12_lacks 6 = .ok (.ifCond .ge 8, 3) := by decide +kernel
theorem dX12_lacks_9 : decode cX12_lacks 9 = .ok (.bipush (-11), 2) := by decide +kernel
theorem dX12_lacks_11 : decode cX12_lacks 11 = .ok (.goto 19, 3) := by decide +kernel
theorem dX12_lacks_14 : decode cX12_lacks 14 = .ok (.aload_n 0, 1) := by decide +kernel
theorem dX12_lacks_15 : decode cX12_lacks 15 = .ok (.getfield 53, 3) := by decide +kernel
theorem dX12_lacks_18 : decode cX12_lacks 18 = .ok (.iload_n 1, 1) := by decide +kernel
theorem dX12_lacks_19 : decode cX12_lacks 19 = .ok (.iaload, 1) := by decide +kernel
theorem dX12_lacks_20 : decode cX12_lacks 20 = .ok (.iload_n 2, 1) := by decide +kernel
theorem dX12_lacks_21 : decode cX12_lacks 21 = .ok (.if_icmp .eq 8, 3) := by decide +kernel
theorem dX12_lacks_24 : decode cX12_lacks 24 = .ok (.bipush (-13), 2) := by decide +kernel
theorem dX12_lacks_26 : decode cX12_lacks 26 = .ok (.goto 4, 3) := by decide +kernel
theorem dX12_lacks_29 : decode cX12_lacks 29 = .ok (.iconst 0, 1) := by decide +kernel
theorem dX12_lacks_30 : decode cX12_lacks 30 = .ok (.ireturn, 1) := by decide +kernel
theorem dX12_layBack_0 : decode cX12_layBack 0 = .ok (.iconst 0, 1) := by decide +kernel
theorem dX12_layBack_1 : decode cX12_layBack 1 = .ok (.istore_n 1, 1) := by decide +kernel
theorem dX12_layBack_2 : decode cX12_layBack 2 = .ok (.iload_n 1, 1) := by decide +kernel
theorem dX12_layBack_3 : decode cX12_layBack 3 = .ok (.bipush 65, 2) := by decide +kernel
theorem dX12_layBack_5 : decode cX12_layBack 5 = .ok (.if_icmp .ge 21, 3) := by decide +kernel
theorem dX12_layBack_8 : decode cX12_layBack 8 = .ok (.aload_n 0, 1) := by decide +kernel
theorem dX12_layBack_9 : decode cX12_layBack 9 = .ok (.getfield 9, 3) := by decide +kernel
theorem dX12_layBack_12 : decode cX12_layBack 12 = .ok (.iload_n 1, 1) := by decide +kernel
theorem dX12_layBack_13 : decode cX12_layBack 13 = .ok (.aload_n 0, 1) := by decide +kernel
theorem dX12_layBack_14 : decode cX12_layBack 14 = .ok (.getfield 16, 3) := by decide +kernel
theorem dX12_layBack_17 : decode cX12_layBack 17 = .ok (.iload_n 1, 1) := by decide +kernel
theorem dX12_layBack_18 : decode cX12_layBack 18 = .ok (.iaload, 1) := by decide +kernel
theorem dX12_layBack_19 : decode cX12_layBack 19 = .ok (.iastore, 1) := by decide +kernel
theorem dX12_layBack_20 : decode cX12_layBack 20 = .ok (.iinc 1 1, 3) := by decide +kernel
theorem dX12_layBack_23 : decode cX12_layBack 23 = .ok (.goto (-21), 3) := by decide +kernel
theorem dX12_layBack_26 : decode cX12_layBack 26 = .ok (.return_, 1) := by decide +kernel
theorem dX12_layDown_0 : decode cX12_layDown 0 = .ok (.iconst 0, 1) := by decide +kernel
theorem dX12_layDown_1 : decode cX12_layDown 1 = .ok (.istore_n 1, 1) := by decide +kernel
theorem dX12_layDown_2 : decode cX12_layDown 2 = .ok (.iload_n 1, 1) := by decide +kernel
theorem dX12_layDown_3 : decode cX12_layDown 3 = .ok (.bipush 65, 2) := by decide +kernel
theorem dX12_layDown_5 : decode cX12_layDown 5 = .ok (.if_icmp .ge 21, 3) := by decide +kernel
theorem dX12_layDown_8 : decode cX12_layDown 8 = .ok (.aload_n 0, 1) := by decide +kernel
theorem dX12_layDown_9 : decode cX12_layDown 9 = .ok (.getfield 16, 3) := by decide +kernel
theorem dX12_layDown_12 : decode cX12_layDown 12 = .ok (.iload_n 1, 1) := by decide +kernel
theorem dX12_layDown_13 : decode cX12_layDown 13 = .ok (.aload_n 0, 1) := by decide +kernel
theorem dX12_layDown_14 : decode cX12_layDown 14 = .ok (.getfield 9, 3) := by decide +kernel
theorem dX12_layDown_17 : decode cX12_layDown 17 = .ok (.iload_n 1, 1) := by decide +kernel
theorem dX12_layDown_18 : decode cX12_layDown 18 = .ok (.iaload, 1) := by decide +kernel
theorem dX12_layDown_19 : decode cX12_layDown 19 = .ok (.iastore, 1) := by decide +kernel
theorem dX12_layDown_20 : decode cX12_layDown 20 = .ok (.iinc 1 1, 3) := by decide +kernel
theorem dX12_layDown_23 : decode cX12_layDown 23 = .ok (.goto (-21), 3) := by decide +kernel
theorem dX12_layDown_26 : decode cX12_layDown 26 = .ok (.return_, 1) := by decide +kernel
theorem dX12_left_0 : decode cX12_left 0 = .ok (.iload_n 1, 1) := by decide +kernel
theorem dX12_left_1 : decode cX12_left 1 = .ok (.iconst 0, 1) := by decide +kernel
theorem dX12_left_2 : decode cX12_left 2 = .ok (.bipush 16, 2) := by decide +kernel
theorem dX12_left_4 : decode cX12_left 4 = .ok (.invokestatic 71, 3) := by decide +kernel
theorem dX12_left_7 : decode cX12_left 7 = .ok (.ifCond .eq 12, 3) := by decide +kernel
theorem dX12_left_10 : decode cX12_left 10 = .ok (.iload_n 2, 1) := by decide +kernel
theorem dX12_left_11 : decode cX12_left 11 = .ok (.iconst 0, 1) := by decide +kernel
theorem dX12_left_12 : decode cX12_left 12 = .ok (.iconst 1, 1) := by decide +kernel
theorem dX12_left_13 : decode cX12_left 13 = .ok (.invokestatic 71, 3) := by decide +kernel
theorem dX12_left_16 : decode cX12_left 16 = .ok (.ifCond .ne 5, 3) := by decide +kernel
theorem dX12_left_19 : decode cX12_left 19 = .ok (.iconst (-1), 1) := by decide +kernel
theorem dX12_left_20 : decode cX12_left 20 = .ok (.ireturn, 1) := by decide +kernel
theorem dX12_left_21 : decode cX12_left 21 = .ok (.aload_n 0, 1) := by decide +kernel
theorem dX12_left_22 : decode cX12_left 22 = .ok (.invokevirtual 241, 3) := by decide +kernel
theorem dX12_left_25 : decode cX12_left 25 = .ok (.iconst 0, 1) := by decide +kernel
theorem dX12_left_26 : decode cX12_left 26 = .ok (.istore_n 3, 1) := by decide +kernel
theorem dX12_left_27 : decode cX12_left 27 = .ok (.iconst 0, 1) := by decide +kernel
theorem dX12_left_28 : decode cX12_left 28 = .ok (.istore 4, 2) := by decide +kernel
theorem dX12_left_30 : decode cX12_left 30 = .ok (.iload 4, 2) := by decide +kernel
theorem dX12_left_32 : decode cX12_left 32 = .ok (.iload_n 1, 1) := by decide +kernel
theorem dX12_left_33 : decode cX12_left 33 = .ok (.if_icmp .ge 24, 3) := by decide +kernel
theorem dX12_left_36 : decode cX12_left 36 = .ok (.aload_n 0, 1) := by decide +kernel
theorem dX12_left_37 : decode cX12_left 37 = .ok (.invokevirtual 229, 3) := by decide +kernel
theorem dX12_left_40 : decode cX12_left 40 = .ok (.ifCond .ne 17, 3) := by decide +kernel
theorem dX12_left_43 : decode cX12_left 43 = .ok (.iload_n 3, 1) := by decide +kernel
theorem dX12_left_44 : decode cX12_left 44 = .ok (.aload_n 0, 1) := by decide +kernel
theorem dX12_left_45 : decode cX12_left 45 = .ok (.iconst (-1), 1) := by decide +kernel
theorem dX12_left_46 : decode cX12_left 46 = .ok (.invokevirtual 238, 3) := by decide +kernel
theorem dX12_left_49 : decode cX12_left 49 = .ok (.iadd, 1) := by decide +kernel
theorem dX12_left_50 : decode cX12_left 50 = .ok (.istore_n 3, 1) := by decide +kernel
theorem dX12_left_51 : decode cX12_left 51 = .ok (.iinc 4 1, 3) := by decide +kernel
theorem dX12_left_54 : decode cX12_left 54 = .ok (.goto (-24), 3) := by decide +kernel
theorem dX12_left_57 : decode cX12_left 57 = .ok (.iload_n 3, 1) := by decide +kernel
theorem dX12_left_58 : decode cX12_left 58 = .ok (.ifCond .ge 7, 3) := by decide +kernel
theorem dX12_left_61 : decode cX12_left 61 = .ok (.iconst (-1), 1) := by decide +kernel
theorem dX12_left_62 : decode cX12_left 62 = .ok (.goto 19, 3) := by decide +kernel
theorem dX12_left_65 : decode cX12_left 65 = .ok (.iload_n 2, 1) := by decide +kernel
theorem dX12_left_66 : decode cX12_left 66 = .ok (.ifCond .ne 10, 3) := by decide +kernel
theorem dX12_left_69 : decode cX12_left 69 = .ok (.aload_n 0, 1) := by decide +kernel
theorem dX12_left_70 : decode cX12_left 70 = .ok (.invokevirtual 235, 3) := by decide +kernel
theorem dX12_left_73 : decode cX12_left 73 = .ok (.goto 8, 3) := by decide +kernel
theorem dX12_left_76 : decode cX12_left 76 = .ok (.aload_n 0, 1) := by decide +kernel
theorem dX12_left_77 : decode cX12_left 77 = .ok (.iconst 4, 1) := by decide +kernel
theorem dX12_left_78 : decode cX12_left 78 = .ok (.invokevirtual 232, 3) := by decide +kernel
theorem dX12_left_81 : decode cX12_left 81 = .ok (.istore 4, 2) := by decide +kernel
theorem dX12_left_83 : decode cX12_left 83 = .ok (.aload_n 0, 1) := by decide +kernel
theorem dX12_left_84 : decode cX12_left 84 = .ok (.invokevirtual 247, 3) := by decide +kernel
theorem dX12_left_87 : decode cX12_left 87 = .ok (.iload 4, 2) := by decide +kernel
theorem dX12_left_89 : decode cX12_left 89 = .ok (.ireturn, 1) := by decide +kernel
theorem dX12_liar_0 : decode cX12_liar 0 = .ok (.aload_n 0, 1) := by decide +kernel
theorem dX12_liar_1 : decode cX12_liar 1 = .ok (.iconst (-1), 1) := by decide +kernel
theorem dX12_liar_2 : decode cX12_liar 2 = .ok (.invokevirtual 310, 3) := by decide +kernel
theorem dX12_liar_5 : decode cX12_liar 5 = .ok (.ifCond .le 6, 3) := by decide +kernel
theorem dX12_liar_8 : decode cX12_liar 8 = .ok (.bipush (-3), 2) := by decide +kernel
theorem dX12_liar_10 : decode cX12_liar 10 = .ok (.ireturn, 1) := by decide +kernel
theorem dX12_liar_11 : decode cX12_liar 11 = .ok (.iconst 0, 1) := by decide +kernel
theorem dX12_liar_12 : decode cX12_liar 12 = .ok (.istore_n 1, 1) := by decide +kernel
theorem dX12_liar_13 : decode cX12_liar 13 = .ok (.iload_n 1, 1) := by decide +kernel
theorem dX12_liar_14 : decode cX12_liar 14 = .ok (.aload_n 0, 1) := by decide +kernel
theorem dX12_liar_15 : decode cX12_liar 15 = .ok (.getfield 9, 3) := by decide +kernel
theorem dX12_liar_18 : decode cX12_liar 18 = .ok (.bipush 6, 2) := by decide +kernel
theorem dX12_liar_20 : decode cX12_liar 20 = .ok (.iaload, 1) := by decide +kernel
theorem dX12_liar_21 : decode cX12_liar 21 = .ok (.if_icmp .ge 19, 3) := by decide +kernel
theorem dX12_liar_24 : decode cX12_liar 24 = .ok (.aload_n 0, 1) := by decide +kernel
theorem dX12_liar_25 : decode cX12_liar 25 = .ok (.iload_n 1, 1) := by decide +kernel
theorem dX12_liar_26 : decode cX12_liar 26 = .ok (.invokevirtual 310, 3) := by decide +kernel
theorem dX12_liar_29 : decode cX12_liar 29 = .ok (.ifCond .le 5, 3) := by decide +kernel
theorem dX12_liar_32 : decode cX12_liar 32 = .ok (.iload_n 1, 1) := by decide +kernel
theorem dX12_liar_33 : decode cX12_liar 33 = .ok (.ireturn, 1) := by decide +kernel
theorem dX12_liar_34 : decode cX12_liar 34 = .ok (.iinc 1 1, 3) := by decide +kernel
theorem dX12_liar_37 : decode cX12_liar 37 = .ok (.goto (-24), 3) := by decide +kernel
theorem dX12_liar_40 : decode cX12_liar 40 = .ok (.bipush (-3), 2) := by decide +kernel
theorem dX12_liar_42 : decode cX12_liar 42 = .ok (.ireturn, 1) := by decide +kernel
theorem dX12_lone_0 : decode cX12_lone 0 = .ok (.iload_n 1, 1) := by decide +kernel
theorem dX12_lone_1 : decode cX12_lone 1 = .ok (.iconst 0, 1) := by decide +kernel
theorem dX12_lone_2 : decode cX12_lone 2 = .ok (.iconst 3, 1) := by decide +kernel
theorem dX12_lone_3 : decode cX12_lone 3 = .ok (.invokestatic 71, 3) := by decide +kernel
theorem dX12_lone_6 : decode cX12_lone 6 = .ok (.ifCond .ne 5, 3) := by decide +kernel
theorem dX12_lone_9 : decode cX12_lone 9 = .ok (.iconst (-1), 1) := by decide +kernel
theorem dX12_lone_10 : decode cX12_lone 10 = .ok (.ireturn, 1) := by decide +kernel
theorem dX12_lone_11 : decode cX12_lone 11 = .ok (.aload_n 0, 1) := by decide +kernel
theorem dX12_lone_12 : decode cX12_lone 12 = .ok (.iconst (-1), 1) := by decide +kernel
theorem dX12_lone_13 : decode cX12_lone 13 = .ok (.invokevirtual 310, 3) := by decide +kernel
theorem dX12_lone_16 : decode cX12_lone 16 = .ok (.istore_n 2, 1) := by decide +kernel
theorem dX12_lone_17 : decode cX12_lone 17 = .ok (.iload_n 1, 1) := by decide +kernel
theorem dX12_lone_18 : decode cX12_lone 18 = .ok (.ifCond .le 10, 3) := by decide +kernel
theorem dX12_lone_21 : decode cX12_lone 21 = .ok (.iload_n 2, 1) := by decide +kernel
theorem dX12_lone_22 : decode cX12_lone 22 = .ok (.ifCond .ne 6, 3) := by decide +kernel
theorem dX12_lone_25 : decode cX12_lone 25 = .ok (.bipush (-3), 2) := by decide +kernel
theorem dX12_lone_27 : decode cX12_lone 27 = .ok (.ireturn, 1) := by decide +kernel
theorem dX12_lone_28 : decode cX12_lone 28 = .ok (.iload_n 1, 1) := by decide +kernel
theorem dX12_lone_29 : decode cX12_lone 29 = .ok (.ifCond .ne 7, 3) := by decide +kernel
theorem dX12_lone_32 : decode cX12_lone 32 = .ok (.iload_n 2, 1) := by decide +kernel
theorem dX12_lone_33 : decode cX12_lone 33 = .ok (.goto 51, 3) := by decide +kernel
theorem dX12_lone_36 : decode cX12_lone 36 = .ok (.iload_n 1, 1) := by decide +kernel
theorem dX12_lone_37 : decode cX12_lone 37 = .ok (.iconst 1, 1) := by decide +kernel
theorem dX12_lone_38 : decode cX12_lone 38 = .ok (.if_icmp .ne 15, 3) := by decide +kernel
theorem dX12_lone_41 : decode cX12_lone 41 = .ok (.iconst 1, 1) := by decide +kernel
theorem dX12_lone_42 : decode cX12_lone 42 = .ok (.aload_n 0, 1) := by decide +kernel
theorem dX12_lone_43 : decode cX12_lone 43 = .ok (.getfield 301, 3) := by decide +kernel
theorem dX12_lone_46 : decode cX12_lone 46 = .ok (.bipush 100, 2) := by decide +kernel
theorem dX12_lone_48 : decode cX12_lone 48 = .ok (.idiv, 1) := by decide +kernel
theorem dX12_lone_49 : decode cX12_lone 49 = .ok (.iadd, 1) := by decide +kernel
theorem dX12_lone_50 : decode cX12_lone 50 = .ok (.goto 34, 3) := by decide +kernel
theorem dX12_lone_53 : decode cX12_lone 53 = .ok (.iload_n 1, 1) := by decide +kernel
theorem dX12_lone_54 : decode cX12_lone 54 = .ok (.iconst 2, 1) := by decide +kernel
theorem dX12_lone_55 : decode cX12_lone 55 = .ok (.if_icmp .ne 16, 3) := by decide +kernel
theorem dX12_lone_58 : decode cX12_lone 58 = .ok (.aload_n 0, 1) := by decide +kernel
theorem dX12_lone_59 : decode cX12_lone 59 = .ok (.getfield 301, 3) := by decide +kernel
theorem dX12_lone_62 : decode cX12_lone 62 = .ok (.bipush 10, 2) := by decide +kernel
theorem dX12_lone_64 : decode cX12_lone 64 = .ok (.idiv, 1) := by decide +kernel
theorem dX12_lone_65 : decode cX12_lone 65 = .ok (.bipush 10, 2) := by decide +kernel
theorem dX12_lone_67 : decode cX12_lone 67 = .ok (.irem, 1) := by decide +kernel
theorem dX12_lone_68 : decode cX12_lone 68 = .ok (.goto 16, 3) := by decide +kernel
theorem dX12_lone_71 : decode cX12_lone 71 = .ok (.bipush 10, 2) := by decide +kernel
theorem dX12_lone_73 : decode cX12_lone 73 = .ok (.aload_n 0, 1) := by decide +kernel
theorem dX12_lone_74 : decode cX12_lone 74 = .ok (.getfield 301, 3) := by decide +kernel
theorem dX12_lone_77 : decode cX12_lone 77 = .ok (.bipush 10, 2) := by decide +kernel
theorem dX12_lone_79 : decode cX12_lone 79 = .ok (.irem, 1) := by decide +kernel
theorem dX12_lone_80 : decode cX12_lone 80 = .ok (.imul, 1) := by decide +kernel
theorem dX12_lone_81 : decode cX12_lone 81 = .ok (.bipush 9, 2) := by decide +kernel
theorem dX12_lone_83 : decode cX12_lone 83 = .ok (.iadd, 1) := by decide +kernel
theorem dX12_lone_84 : decode cX12_lone 84 = .ok (.ireturn, 1) := by decide +kernel
theorem dX12_lot_0 : decode cX12_lot 0 = .ok (.aload_n 0, 1) := by decide +kernel
theorem dX12_lot_1 : decode cX12_lot 1 = .ok (.invokevirtual 229, 3) := by decide +kernel
theorem dX12_lot_4 : decode cX12_lot 4 = .ok (.ifCond .eq 8, 3) := by decide +kernel
theorem dX12_lot_7 : decode cX12_lot 7 = .ok (.bipush (-4), 2) := by decide +kernel
theorem dX12_lot_9 : decode cX12_lot 9 = .ok (.goto 7, 3) := by decide +kernel
theorem dX12_lot_12 : decode cX12_lot 12 = .ok (.aload_n 0, 1) := by decide +kernel
theorem dX12_lot_13 : decode cX12_lot 13 = .ok (.invokevirtual 314, 3) := by decide +kernel
theorem dX12_lot_16 : decode cX12_lot 16 = .ok (.ireturn, 1) := by decide +kernel
theorem dX12_many_0 : decode cX12_many 0 = .ok (.iload_n 1, 1) := by decide +kernel
theorem dX12_many_1 : decode cX12_many 1 = .ok (.tableswitch 89 0 6 #[43, 50, 57, 66, 74, 79, 84], 43) := by decide +kernel
theorem dX12_many_44 : decode cX12_many 44 = .ok (.aload_n 0, 1) := by decide +kernel
theorem dX12_many_45 : decode cX12_many 45 = .ok (.getfield 9, 3) := by decide +kernel
theorem dX12_many_48 : decode cX12_many 48 = .ok (.iconst 4, 1) := by decide +kernel
theorem dX12_many_49 : decode cX12_many 49 = .ok (.iaload, 1) := by decide +kernel
theorem dX12_many_50 : decode cX12_many 50 = .ok (.ireturn, 1) := by decide +kernel
theorem dX12_many_51 : decode cX12_many 51 = .ok (.aload_n 0, 1) := by decide +kernel
theorem dX12_many_52 : decode cX12_many 52 = .ok (.getfield 9, 3) := by decide +kernel
theorem dX12_many_55 : decode cX12_many 55 = .ok (.iconst 5, 1) := by decide +kernel
theorem dX12_many_56 : decode cX12_many 56 = .ok (.iaload, 1) := by decide +kernel
theorem dX12_many_57 : decode cX12_many 57 = .ok (.ireturn, 1) := by decide +kernel
theorem dX12_many_58 : decode cX12_many 58 = .ok (.aload_n 0, 1) := by decide +kernel
theorem dX12_many_59 : decode cX12_many 59 = .ok (.iconst 4, 1) := by decide +kernel
theorem dX12_many_60 : decode cX12_many 60 = .ok (.invokevirtual 232, 3) := by decide +kernel
theorem dX12_many_63 : decode cX12_many 63 = .ok (.invokestatic 366, 3) := by decide +kernel
theorem dX12_many_66 : decode cX12_many 66 = .ok (.ireturn, 1) := by decide +kernel
theorem dX12_many_67 : decode cX12_many 67 = .ok (.aload_n 0, 1) := by decide +kernel
theorem dX12_many_68 : decode cX12_many 68 = .ok (.getfield 9, 3) := by decide +kernel
theorem dX12_many_71 : decode cX12_many 71 = .ok (.bipush 6, 2) := by decide +kernel
theorem dX12_many_73 : decode cX12_many 73 = .ok (.iaload, 1) := by decide +kernel
theorem dX12_many_74 : decode cX12_many 74 = .ok (.ireturn, 1) := by decide +kernel
theorem dX12_many_75 : decode cX12_many 75 = .ok (.aload_n 0, 1) := by decide +kernel
theorem dX12_many_76 : decode cX12_many 76 = .ok (.getfield 317, 3) := by decide +kernel
theorem dX12_many_79 : decode cX12_many 79 = .ok (.ireturn, 1) := by decide +kernel
theorem dX12_many_80 : decode cX12_many 80 = .ok (.aload_n 0, 1) := by decide +kernel
theorem dX12_many_81 : decode cX12_many 81 = .ok (.getfield 126, 3) := by decide +kernel
theorem dX12_many_84 : decode cX12_many 84 = .ok (.ireturn, 1) := by decide +kernel
theorem dX12_many_85 : decode cX12_many 85 = .ok (.aload_n 0, 1) := by decide +kernel
theorem dX12_many_86 : decode cX12_many 86 = .ok (.getfield 341, 3) := by decide +kernel
theorem dX12_many_89 : decode cX12_many 89 = .ok (.ireturn, 1) := by decide +kernel
theorem dX12_many_90 : decode cX12_many 90 = .ok (.iconst (-1), 1) := by decide +kernel
theorem dX12_many_91 : decode cX12_many 91 = .ok (.ireturn, 1) := by decide +kernel
theorem dX12_meltsBy_0 : decode cX12_meltsBy 0 = .ok (.iconst 3, 1) := by decide +kernel
theorem dX12_meltsBy_1 : decode cX12_meltsBy 1 = .ok (.iconst 2, 1) := by decide +kernel
theorem dX12_meltsBy_2 : decode cX12_meltsBy 2 = .ok (.iload_n 1, 1) := by decide +kernel
theorem dX12_meltsBy_3 : decode cX12_meltsBy 3 = .ok (.imul, 1) := by decide +kernel
theorem dX12_meltsBy_4 : decode cX12_meltsBy 4 = .ok (.iadd, 1) := by decide +kernel
theorem dX12_meltsBy_5 : decode cX12_meltsBy 5 = .ok (.istore 4, 2) := by decide +kernel
theorem dX12_meltsBy_7 : decode cX12_meltsBy 7 = .ok (.iconst 2, 1) := by decide +kernel
theorem dX12_meltsBy_8 : decode cX12_meltsBy 8 = .ok (.iload 4, 2) := by decide +kernel
theorem dX12_meltsBy_10 : decode cX12_meltsBy 10 = .ok (.imul, 1) := by decide +kernel
theorem dX12_meltsBy_11 : decode cX12_meltsBy 11 = .ok (.iload_n 2, 1) := by decide +kernel
theorem dX12_meltsBy_12 : decode cX12_meltsBy 12 = .ok (.isub, 1) := by decide +kernel
theorem dX12_meltsBy_13 : decode cX12_meltsBy 13 = .ok (.istore 5, 2) := by decide +kernel
theorem dX12_meltsBy_15 : decode cX12_meltsBy 15 = .ok (.iload_n 0, 1) := by decide +kernel
theorem dX12_meltsBy_16 : decode cX12_meltsBy 16 = .ok (.tableswitch 76 1 5 #[36, 38, 50, 64, 68], 36) := by decide +kernel
theorem dX12_meltsBy_52 : decode cX12_meltsBy 52 = .ok (.iconst 0, 1) := by decide +kernel
theorem dX12_meltsBy_53 : decode cX12_meltsBy 53 = .ok (.ireturn, 1) := by decide +kernel
theorem dX12_meltsBy_54 : decode cX12_meltsBy 54 = .ok (.iload 5, 2) := by decide +kernel
theorem dX12_meltsBy_56 : decode cX12_meltsBy 56 = .ok (.ifCond .le 8, 3) := by decide +kernel
theorem dX12_meltsBy_59 : decode cX12_meltsBy 59 = .ok (.iload 5, 2) := by decide +kernel
theorem dX12_meltsBy_61 : decode cX12_meltsBy 61 = .ok (.goto 4, 3) := by decide +kernel
theorem dX12_meltsBy_64 : decode cX12_meltsBy 64 = .ok (.iconst 0, 1) := by decide +kernel
theorem dX12_meltsBy_65 : decode cX12_meltsBy 65 = .ok (.ireturn, 1) := by decide +kernel
theorem dX12_meltsBy_66 : decode cX12_meltsBy 66 = .ok (.iload 5, 2) := by decide +kernel
theorem dX12_meltsBy_68 : decode cX12_meltsBy 68 = .ok (.ifCond .le 10, 3) := by decide +kernel
theorem dX12_meltsBy_71 : decode cX12_meltsBy 71 = .ok (.iload 5, 2) := by decide +kernel
theorem dX12_meltsBy_73 : decode cX12_meltsBy 73 = .ok (.iconst 2, 1) := by decide +kernel
theorem dX12_meltsBy_74 : decode cX12_meltsBy 74 = .ok (.idiv, 1) := by decide +kernel
theorem dX12_meltsBy_75 : decode cX12_meltsBy 75 = .ok (.goto 4, 3) := by decide +kernel
theorem dX12_meltsBy_78 : decode cX12_meltsBy 78 = .ok (.iconst 0, 1) := by decide +kernel
theorem dX12_meltsBy_79 : decode cX12_meltsBy 79 = .ok (.ireturn, 1) := by decide +kernel
theorem dX12_meltsBy_80 : decode cX12_meltsBy 80 = .ok (.iload_n 1, 1) := by decide +kernel
theorem dX12_meltsBy_81 : decode cX12_meltsBy 81 = .ok (.iload_n 1, 1) := by decide +kernel
theorem dX12_meltsBy_82 : decode cX12_meltsBy 82 = .ok (.imul, 1) := by decide +kernel
theorem dX12_meltsBy_83 : decode cX12_meltsBy 83 = .ok (.ireturn, 1) := by decide +kernel
theorem dX12_meltsBy_84 : decode cX12_meltsBy 84 = .ok (.iload_n 1, 1) := by decide +kernel
theorem dX12_meltsBy_85 : decode cX12_meltsBy 85 = .ok (.iload_n 1, 1) := by decide +kernel
theorem dX12_meltsBy_86 : decode cX12_meltsBy 86 = .ok (.imul, 1) := by decide +kernel
theorem dX12_meltsBy_87 : decode cX12_meltsBy 87 = .ok (.iload_n 3, 1) := by decide +kernel
theorem dX12_meltsBy_88 : decode cX12_meltsBy 88 = .ok (.iconst 3, 1) := by decide +kernel
theorem dX12_meltsBy_89 : decode cX12_meltsBy 89 = .ok (.idiv, 1) := by decide +kernel
theorem dX12_meltsBy_90 : decode cX12_meltsBy 90 = .ok (.iadd, 1) := by decide +kernel
theorem dX12_meltsBy_91 : decode cX12_meltsBy 91 = .ok (.ireturn, 1) := by decide +kernel
theorem dX12_meltsBy_92 : decode cX12_meltsBy 92 = .ok (.iload 4, 2) := by decide +kernel
theorem dX12_meltsBy_94 : decode cX12_meltsBy 94 = .ok (.ireturn, 1) := by decide +kernel
theorem dX12_next_0 : decode cX12_next 0 = .ok (.aload_n 0, 1) := by decide +kernel
theorem dX12_next_1 : decode cX12_next 1 = .ok (.aload_n 0, 1) := by decide +kernel
theorem dX12_next_2 : decode cX12_next 2 = .ok (.getfield 130, 3) := by decide +kernel
theorem dX12_next_5 : decode cX12_next 5 = .ok (.invokevirtual 136, 3) := by decide +kernel
theorem dX12_next_8 : decode cX12_next 8 = .ok (.bipush 32, 2) := by decide +kernel
theorem dX12_next_10 : decode cX12_next 10 = .ok (.if_icmp .ne 16, 3) := by decide +kernel
theorem dX12_next_13 : decode cX12_next 13 = .ok (.aload_n 0, 1) := by decide +kernel
theorem dX12_next_14 : decode cX12_next 14 = .ok (.dup, 1) := by decide +kernel
theorem dX12_next_15 : decode cX12_next 15 = .ok (.getfield 130, 3) := by decide +kernel
theorem dX12_next_18 : decode cX12_next 18 = .ok (.iconst 1, 1) := by decide +kernel
theorem dX12_next_19 : decode cX12_next 19 = .ok (.iadd, 1) := by decide +kernel
theorem dX12_next_20 : decode cX12_next 20 = .ok (.putfield 130, 3) := by decide +kernel
theorem dX12_next_23 : decode cX12_next 23 = .ok (.goto (-23), 3) := by decide +kernel
theorem dX12_next_26 : decode cX12_next 26 = .ok (.aload_n 0, 1) := by decide +kernel
theorem dX12_next_27 : decode cX12_next 27 = .ok (.aload_n 0, 1) := by decide +kernel
theorem dX12_next_28 : decode cX12_next 28 = .ok (.getfield 130, 3) := by decide +kernel
theorem dX12_next_31 : decode cX12_next 31 = .ok (.putfield 133, 3) := by decide +kernel
theorem dX12_next_34 : decode cX12_next 34 = .ok (.aload_n 0, 1) := by decide +kernel
theorem dX12_next_35 : decode cX12_next 35 = .ok (.aload_n 0, 1) := by decide +kernel
theorem dX12_next_36 : decode cX12_next 36 = .ok (.getfield 130, 3) := by decide +kernel
theorem dX12_next_39 : decode cX12_next 39 = .ok (.invokevirtual 136, 3) := by decide +kernel
theorem dX12_next_42 : decode cX12_next 42 = .ok (.istore_n 1, 1) := by decide +kernel
theorem dX12_next_43 : decode cX12_next 43 = .ok (.iload_n 1, 1) := by decide +kernel
theorem dX12_next_44 : decode cX12_next 44 = .ok (.ifCond .ge 11, 3) := by decide +kernel
theorem dX12_next_47 : decode cX12_next 47 = .ok (.aload_n 0, 1) := by decide +kernel
theorem dX12_next_48 : decode cX12_next 48 = .ok (.iconst (-1), 1) := by decide +kernel
theorem dX12_next_49 : decode cX12_next 49 = .ok (.putfield 139, 3) := by decide +kernel
theorem dX12_next_52 : decode cX12_next 52 = .ok (.goto 58, 3) := by decide +kernel
theorem dX12_next_55 : decode cX12_next 55 = .ok (.iload_n 1, 1) := by decide +kernel
theorem dX12_next_56 : decode cX12_next 56 = .ok (.bipush 97, 2) := by decide +kernel
theorem dX12_next_58 : decode cX12_next 58 = .ok (.bipush 122, 2) := by decide +kernel
theorem dX12_next_60 : decode cX12_next 60 = .ok (.invokestatic 71, 3) := by decide +kernel
theorem dX12_next_63 : decode cX12_next 63 = .ok (.ifCond .eq 10, 3) := by decide +kernel
theorem dX12_next_66 : decode cX12_next 66 = .ok (.aload_n 0, 1) := by decide +kernel
theorem dX12_next_67 : decode cX12_next 67 = .ok (.invokevirtual 149, 3) := by decide +kernel
theorem dX12_next_70 : decode cX12_next 70 = .ok (.goto 40, 3) := by decide +kernel
theorem dX12_next_73 : decode cX12_next 73 = .ok (.iload_n 1, 1) := by decide +kernel
theorem dX12_next_74 : decode cX12_next 74 = .ok (.bipush 48, 2) := by decide +kernel
theorem dX12_next_76 : decode cX12_next 76 = .ok (.bipush 57, 2) := by decide +kernel
theorem dX12_next_78 : decode cX12_next 78 = .ok (.invokestatic 71, 3) := by decide +kernel
theorem dX12_next_81 : decode cX12_next 81 = .ok (.ifCond .eq 10, 3) := by decide +kernel
theorem dX12_next_84 : decode cX12_next 84 = .ok (.aload_n 0, 1) := by decide +kernel
theorem dX12_next_85 : decode cX12_next 85 = .ok (.invokevirtual 152, 3) := by decide +kernel
theorem dX12_next_88 : decode cX12_next 88 = .ok (.goto 22, 3) := by decide +kernel
theorem dX12_next_91 : decode cX12_next 91 = .ok (.aload_n 0, 1) := by decide +kernel
theorem dX12_next_92 : decode cX12_next 92 = .ok (.sipush 200, 3) := by decide +kernel
theorem dX12_next_95 : decode cX12_next 95 = .ok (.iload_n 1, 1) := by decide +kernel
theorem dX12_next_96 : decode cX12_next 96 = .ok (.iadd, 1) := by decide +kernel
theorem dX12_next_97 : decode cX12_next 97 = .ok (.putfield 139, 3) := by decide +kernel
theorem dX12_next_100 : decode cX12_next 100 = .ok (.aload_n 0, 1) := by decide +kernel
theorem dX12_next_101 : decode cX12_next 101 = .ok (.dup, 1) := by decide +kernel
theorem dX12_next_102 : decode cX12_next 102 = .ok (.getfield 130, 3) := by decide +kernel
theorem dX12_next_105 : decode cX12_next 105 = .ok (.iconst 1, 1) := by decide +kernel
theorem dX12_next_106 : decode cX12_next 106 = .ok (.iadd, 1) := by decide +kernel
theorem dX12_next_107 : decode cX12_next 107 = .ok (.putfield 130, 3) := by decide +kernel
theorem dX12_next_110 : decode cX12_next 110 = .ok (.return_, 1) := by decide +kernel
theorem dX12_on_0 : decode cX12_on 0 = .ok (.iload_n 1, 1) := by decide +kernel
theorem dX12_on_1 : decode cX12_on 1 = .ok (.iconst 0, 1) := by decide +kernel
theorem dX12_on_2 : decode cX12_on 2 = .ok (.bipush 16, 2) := by decide +kernel
theorem dX12_on_4 : decode cX12_on 4 = .ok (.invokestatic 71, 3) := by decide +kernel
theorem dX12_on_7 : decode cX12_on 7 = .ok (.ifCond .ne 5, 3) := by decide +kernel
theorem dX12_on_10 : decode cX12_on 10 = .ok (.iconst (-1), 1) := by decide +kernel
theorem dX12_on_11 : decode cX12_on 11 = .ok (.ireturn, 1) := by decide +kernel
theorem dX12_on_12 : decode cX12_on 12 = .ok (.aload_n 0, 1) := by decide +kernel
theorem dX12_on_13 : decode cX12_on 13 = .ok (.invokevirtual 241, 3) := by decide +kernel
theorem dX12_on_16 : decode cX12_on 16 = .ok (.aload_n 0, 1) := by decide +kernel
theorem dX12_on_17 : decode cX12_on 17 = .ok (.iload_n 1, 1) := by decide +kernel
theorem dX12_on_18 : decode cX12_on 18 = .ok (.invokevirtual 244, 3) := by decide +kernel
theorem dX12_on_21 : decode cX12_on 21 = .ok (.istore_n 2, 1) := by decide +kernel
theorem dX12_on_22 : decode cX12_on 22 = .ok (.aload_n 0, 1) := by decide +kernel
theorem dX12_on_23 : decode cX12_on 23 = .ok (.invokevirtual 247, 3) := by decide +kernel
theorem dX12_on_26 : decode cX12_on 26 = .ok (.iload_n 2, 1) := by decide +kernel
theorem dX12_on_27 : decode cX12_on 27 = .ok (.ireturn, 1) := by decide +kernel
theorem dX12_ones_0 : decode cX12_ones 0 = .ok (.iconst 0, 1) := by decide +kernel
theorem dX12_ones_1 : decode cX12_ones 1 = .ok (.istore_n 1, 1) := by decide +kernel
theorem dX12_ones_2 : decode cX12_ones 2 = .ok (.iload_n 0, 1) := by decide +kernel
theorem dX12_ones_3 : decode cX12_ones 3 = .ok (.istore_n 2, 1) := by decide +kernel
theorem dX12_ones_4 : decode cX12_ones 4 = .ok (.iload_n 2, 1) := by decide +kernel
theorem dX12_ones_5 : decode cX12_ones 5 = .ok (.ifCond .eq 15, 3) := by decide +kernel
theorem dX12_ones_8 : decode cX12_ones 8 = .ok (.iinc 1 1, 3) := by decide +kernel
theorem dX12_ones_11 : decode cX12_ones 11 = .ok (.iload_n 2, 1) := by decide +kernel
theorem dX12_ones_12 : decode cX12_ones 12 = .ok (.iload_n 2, 1) := by decide +kernel
theorem dX12_ones_13 : decode cX12_ones 13 = .ok (.iconst 1, 1) := by decide +kernel
theorem dX12_ones_14 : decode cX12_ones 14 = .ok (.isub, 1) := by decide +kernel
theorem dX12_ones_15 : decode cX12_ones 15 = .ok (.iand, 1) := by decide +kernel
theorem dX12_ones_16 : decode cX12_ones 16 = .ok (.istore_n 2, 1) := by decide +kernel
theorem dX12_ones_17 : decode cX12_ones 17 = .ok (.goto (-13), 3) := by decide +kernel
theorem dX12_ones_20 : decode cX12_ones 20 = .ok (.iload_n 1, 1) := by decide +kernel
theorem dX12_ones_21 : decode cX12_ones 21 = .ok (.ireturn, 1) := by decide +kernel
theorem dX12_opens_0 : decode cX12_opens 0 = .ok (.aload_n 0, 1) := by decide +kernel
theorem dX12_opens_1 : decode cX12_opens 1 = .ok (.iload_n 1, 1) := by decide +kernel
theorem dX12_opens_2 : decode cX12_opens 2 = .ok (.invokevirtual 223, 3) := by decide +kernel
theorem dX12_opens_5 : decode cX12_opens 5 = .ok (.ifCond .ne 5, 3) := by decide +kernel
theorem dX12_opens_8 : decode cX12_opens 8 = .ok (.iconst (-1), 1) := by decide +kernel
theorem dX12_opens_9 : decode cX12_opens 9 = .ok (.ireturn, 1) := by decide +kernel
theorem dX12_opens_10 : decode cX12_opens 10 = .ok (.iconst 0, 1) := by decide +kernel
theorem dX12_opens_11 : decode cX12_opens 11 = .ok (.istore_n 2, 1) := by decide +kernel
theorem dX12_opens_12 : decode cX12_opens 12 = .ok (.iconst 0, 1) := by decide +kernel
theorem dX12_opens_13 : decode cX12_opens 13 = .ok (.istore_n 3, 1) := by decide +kernel
theorem dX12_opens_14 : decode cX12_opens 14 = .ok (.iload_n 3, 1) := by decide +kernel
theorem dX12_opens_15 : decode cX12_opens 15 = .ok (.bipush 9, 2) := by decide +kernel
theorem dX12_opens_17 : decode cX12_opens 17 = .ok (.if_icmp .gt 28, 3) := by decide +kernel
theorem dX12_opens_20 : decode cX12_opens 20 = .ok (.iload_n 2, 1) := by decide +kernel
theorem dX12_opens_21 : decode cX12_opens 21 = .ok (.aload_n 0, 1) := by decide +kernel
theorem dX12_opens_22 : decode cX12_opens 22 = .ok (.iload_n 1, 1) := by decide +kernel
theorem dX12_opens_23 : decode cX12_opens 23 = .ok (.iload_n 3, 1) := by decide +kernel
theorem dX12_opens_24 : decode cX12_opens 24 = .ok (.invokevirtual 100, 3) := by decide +kernel
theorem dX12_opens_27 : decode cX12_opens 27 = .ok (.ifCond .eq 9, 3) := by decide +kernel
theorem dX12_opens_30 : decode cX12_opens 30 = .ok (.iconst 1, 1) := by decide +kernel
theorem dX12_opens_31 : decode cX12_opens 31 = .ok (.iload_n 3, 1) := by decide +kernel
theorem dX12_opens_32 : decode cX12_opens 32 = .ok (.ishl, 1) := by decide +kernel
theorem dX12_opens_33 : decode cX12_opens 33 = .ok (.goto 4, 3) := by decide +kernel
theorem dX12_opens_36 : decode cX12_opens 36 = .ok (.iconst 0, 1) := by decide +kernel
theorem dX12_opens_37 : decode cX12_opens 37 = .ok (.ior, 1) := by decide +kernel
theorem dX12_opens_38 : decode cX12_opens 38 = .ok (.istore_n 2, 1) := by decide +kernel
theorem dX12_opens_39 : decode cX12_opens 39 = .ok (.iinc 3 1, 3) := by decide +kernel
theorem dX12_opens_42 : decode cX12_opens 42 = .ok (.goto (-28), 3) := by decide +kernel
theorem dX12_opens_45 : decode cX12_opens 45 = .ok (.iload_n 2, 1) := by decide +kernel
theorem dX12_opens_46 : decode cX12_opens 46 = .ok (.ireturn, 1) := by decide +kernel
theorem dX12_order_0 : decode cX12_order 0 = .ok (.iload_n 1, 1) := by decide +kernel
theorem dX12_order_1 : decode cX12_order 1 = .ok (.invokestatic 288, 3) := by decide +kernel
theorem dX12_order_4 : decode cX12_order 4 = .ok (.ifCond .eq 11, 3) := by decide +kernel
theorem dX12_order_7 : decode cX12_order 7 = .ok (.aload_n 0, 1) := by decide +kernel
theorem dX12_order_8 : decode cX12_order 8 = .ok (.iload_n 2, 1) := by decide +kernel
theorem dX12_order_9 : decode cX12_order 9 = .ok (.invokevirtual 295, 3) := by decide +kernel
theorem dX12_order_12 : decode cX12_order 12 = .ok (.ifCond .ne 5, 3) := by decide +kernel
theorem dX12_order_15 : decode cX12_order 15 = .ok (.iconst (-1), 1) := by decide +kernel
theorem dX12_order_16 : decode cX12_order 16 = .ok (.ireturn, 1) := by decide +kernel
theorem dX12_order_17 : decode cX12_order 17 = .ok (.aload_n 0, 1) := by decide +kernel
theorem dX12_order_18 : decode cX12_order 18 = .ok (.iload_n 1, 1) := by decide +kernel
theorem dX12_order_19 : decode cX12_order 19 = .ok (.iload_n 2, 1) := by decide +kernel
theorem dX12_order_20 : decode cX12_order 20 = .ok (.invokevirtual 291, 3) := by decide +kernel
theorem dX12_order_23 : decode cX12_order 23 = .ok (.aload_n 0, 1) := by decide +kernel
theorem dX12_order_24 : decode cX12_order 24 = .ok (.getfield 265, 3) := by decide +kernel
theorem dX12_order_27 : decode cX12_order 27 = .ok (.iconst 4, 1) := by decide +kernel
theorem dX12_order_28 : decode cX12_order 28 = .ok (.if_icmp .le 8, 3) := by decide +kernel
theorem dX12_order_31 : decode cX12_order 31 = .ok (.bipush (-3), 2) := by decide +kernel
theorem dX12_order_33 : decode cX12_order 33 = .ok (.goto 7, 3) := by decide +kernel
theorem dX12_order_36 : decode cX12_order 36 = .ok (.aload_n 0, 1) := by decide +kernel
theorem dX12_order_37 : decode cX12_order 37 = .ok (.getfield 265, 3) := by decide +kernel
theorem dX12_order_40 : decode cX12_order 40 = .ok (.ireturn, 1) := by decide +kernel
theorem dX12_play_0 : decode cX12_play 0 = .ok (.iload_n 1, 1) := by decide +kernel
theorem dX12_play_1 : decode cX12_play 1 = .ok (.iconst 1, 1) := by decide +kernel
theorem dX12_play_2 : decode cX12_play 2 = .ok (.iconst 4, 1) := by decide +kernel
theorem dX12_play_3 : decode cX12_play 3 = .ok (.invokestatic 71, 3) := by decide +kernel
theorem dX12_play_6 : decode cX12_play 6 = .ok (.ifCond .ne 5, 3) := by decide +kernel
theorem dX12_play_9 : decode cX12_play 9 = .ok (.iconst (-1), 1) := by decide +kernel
theorem dX12_play_10 : decode cX12_play 10 = .ok (.ireturn, 1) := by decide +kernel
theorem dX12_play_11 : decode cX12_play 11 = .ok (.aload_n 0, 1) := by decide +kernel
theorem dX12_play_12 : decode cX12_play 12 = .ok (.invokevirtual 229, 3) := by decide +kernel
theorem dX12_play_15 : decode cX12_play 15 = .ok (.ifCond .eq 6, 3) := by decide +kernel
theorem dX12_play_18 : decode cX12_play 18 = .ok (.bipush (-3), 2) := by decide +kernel
theorem dX12_play_20 : decode cX12_play 20 = .ok (.ireturn, 1) := by decide +kernel
theorem dX12_play_21 : decode cX12_play 21 = .ok (.aload_n 0, 1) := by decide +kernel
theorem dX12_play_22 : decode cX12_play 22 = .ok (.iconst 0, 1) := by decide +kernel
theorem dX12_play_23 : decode cX12_play 23 = .ok (.aload_n 0, 1) := by decide +kernel
theorem dX12_play_24 : decode cX12_play 24 = .ok (.iload_n 1, 1) := by decide +kernel
theorem dX12_play_25 : decode cX12_play 25 = .ok (.invokevirtual 285, 3) := by decide +kernel
theorem dX12_play_28 : decode cX12_play 28 = .ok (.invokevirtual 298, 3) := by decide +kernel
theorem dX12_play_31 : decode cX12_play 31 = .ok (.istore_n 2, 1) := by decide +kernel
theorem dX12_play_32 : decode cX12_play 32 = .ok (.iload_n 2, 1) := by decide +kernel
theorem dX12_play_33 : decode cX12_play 33 = .ok (.ifCond .ge 8, 3) := by decide +kernel
theorem dX12_play_36 : decode cX12_play 36 = .ok (.bipush (-3), 2) := by decide +kernel
theorem dX12_play_38 : decode cX12_play 38 = .ok (.goto 9, 3) := by decide +kernel
theorem dX12_play_41 : decode cX12_play 41 = .ok (.aload_n 0, 1) := by decide +kernel
theorem dX12_play_42 : decode cX12_play 42 = .ok (.getfield 38, 3) := by decide +kernel
theorem dX12_play_45 : decode cX12_play 45 = .ok (.iconst 0, 1) := by decide +kernel
theorem dX12_play_46 : decode cX12_play 46 = .ok (.iaload, 1) := by decide +kernel
theorem dX12_play_47 : decode cX12_play 47 = .ok (.ireturn, 1) := by decide +kernel
theorem dX12_playedFrom_0 : decode cX12_playedFrom 0 = .ok (.iload_n 1, 1) := by decide +kernel
theorem dX12_playedFrom_1 : decode cX12_playedFrom 1 = .ok (.iload_n 2, 1) := by decide +kernel
theorem dX12_playedFrom_2 : decode cX12_playedFrom 2 = .ok (.if_icmp .ne 5, 3) := by decide +kernel
theorem dX12_playedFrom_5 : decode cX12_playedFrom 5 = .ok (.iconst 0, 1) := by decide +kernel
theorem dX12_playedFrom_6 : decode cX12_playedFrom 6 = .ok (.ireturn, 1) := by decide +kernel
theorem dX12_playedFrom_7 : decode cX12_playedFrom 7 = .ok (.aload_n 0, 1) := by decide +kernel
theorem dX12_playedFrom_8 : decode cX12_playedFrom 8 = .ok (.iload_n 1, 1) := by decide +kernel
theorem dX12_playedFrom_9 : decode cX12_playedFrom 9 = .ok (.invokevirtual 275, 3) := by decide +kernel
theorem dX12_playedFrom_12 : decode cX12_playedFrom 12 = .ok (.iconst 0, 1) := by decide +kernel
theorem dX12_playedFrom_13 : decode cX12_playedFrom 13 = .ok (.istore_n 3, 1) := by decide +kernel
theorem dX12_playedFrom_14 : decode cX12_playedFrom 14 = .ok (.iconst (-1), 1) := by decide +kernel
theorem dX12_playedFrom_15 : decode cX12_playedFrom 15 = .ok (.istore 4, 2) := by decide +kernel
theorem dX12_playedFrom_17 : decode cX12_playedFrom 17 = .ok (.iconst 0, 1) := by decide +kernel
theorem dX12_playedFrom_18 : decode cX12_playedFrom 18 = .ok (.istore 5, 2) := by decide +kernel
theorem dX12_playedFrom_20 : decode cX12_playedFrom 20 = .ok (.iload 5, 2) := by decide +kernel
theorem dX12_playedFrom_22 : decode cX12_playedFrom 22 = .ok (.aload_n 0, 1) := by decide +kernel
theorem dX12_playedFrom_23 : decode cX12_playedFrom 23 = .ok (.getfield 9, 3) := by decide +kernel
theorem dX12_playedFrom_26 : decode cX12_playedFrom 26 = .ok (.iconst 4, 1) := by decide +kernel
theorem dX12_playedFrom_27 : decode cX12_playedFrom 27 = .ok (.iaload, 1) := by decide +kernel
theorem dX12_playedFrom_28 : decode cX12_playedFrom 28 = .ok (.if_icmp .gt 94, 3) := by decide +kernel
theorem dX12_playedFrom_31 : decode cX12_playedFrom 31 = .ok (.aload_n 0, 1) := by decide +kernel
theorem dX12_playedFrom_32 : decode cX12_playedFrom 32 = .ok (.iload 5, 2) := by decide +kernel
theorem dX12_playedFrom_34 : decode cX12_playedFrom 34 = .ok (.invokevirtual 238, 3) := by decide +kernel
theorem dX12_playedFrom_37 : decode cX12_playedFrom 37 = .ok (.istore 6, 2) := by decide +kernel
theorem dX12_playedFrom_39 : decode cX12_playedFrom 39 = .ok (.iload 6, 2) := by decide +kernel
theorem dX12_playedFrom_41 : decode cX12_playedFrom 41 = .ok (.aload_n 0, 1) := by decide +kernel
theorem dX12_playedFrom_42 : decode cX12_playedFrom 42 = .ok (.iload_n 1, 1) := by decide +kernel
theorem dX12_playedFrom_43 : decode cX12_playedFrom 43 = .ok (.iconst 1, 1) := by decide +kernel
theorem dX12_playedFrom_44 : decode cX12_playedFrom 44 = .ok (.iadd, 1) := by decide +kernel
theorem dX12_playedFrom_45 : decode cX12_playedFrom 45 = .ok (.iload_n 2, 1) := by decide +kernel
theorem dX12_playedFrom_46 : decode cX12_playedFrom 46 = .ok (.invokevirtual 298, 3) := by decide +kernel
theorem dX12_playedFrom_49 : decode cX12_playedFrom 49 = .ok (.iadd, 1) := by decide +kernel
theorem dX12_playedFrom_50 : decode cX12_playedFrom 50 = .ok (.istore 7, 2) := by decide +kernel
theorem dX12_playedFrom_52 : decode cX12_playedFrom 52 = .ok (.aload_n 0, 1) := by decide +kernel
theorem dX12_playedFrom_53 : decode cX12_playedFrom 53 = .ok (.iload_n 1, 1) := by decide +kernel
theorem dX12_playedFrom_54 : decode cX12_playedFrom 54 = .ok (.invokevirtual 282, 3) := by decide +kernel
theorem dX12_playedFrom_57 : decode cX12_playedFrom 57 = .ok (.iload 4, 2) := by decide +kernel
theorem dX12_playedFrom_59 : decode cX12_playedFrom 59 = .ok (.ifCond .lt 24, 3) := by decide +kernel
theorem dX12_playedFrom_62 : decode cX12_playedFrom 62 = .ok (.iload_n 1, 1) := by decide +kernel
theorem dX12_playedFrom_63 : decode cX12_playedFrom 63 = .ok (.iconst 2, 1) := by decide +kernel
theorem dX12_playedFrom_64 : decode cX12_playedFrom 64 = .ok (.irem, 1) := by decide +kernel
theorem dX12_playedFrom_65 : decode cX12_playedFrom 65 = .ok (.ifCond .ne 12, 3) := by decide +kernel
theorem dX12_playedFrom_68 : decode cX12_playedFrom 68 = .ok (.iload 7, 2) := by decide +kernel
theorem dX12_playedFrom_70 : decode cX12_playedFrom 70 = .ok (.iload_n 3, 1) := by decide +kernel
theorem dX12_playedFrom_71 : decode cX12_playedFrom 71 = .ok (.if_icmp .le 16, 3) := by decide +kernel
theorem dX12_playedFrom_74 : decode cX12_playedFrom 74 = .ok (.goto 9, 3) := by decide +kernel
theorem dX12_playedFrom_77 : decode cX12_playedFrom 77 = .ok (.iload 7, 2) := by decide +kernel
theorem dX12_playedFrom_79 : decode cX12_playedFrom 79 = .ok (.iload_n 3, 1) := by decide +kernel
theorem dX12_playedFrom_80 : decode cX12_playedFrom 80 = .ok (.if_icmp .ge 7, 3) := by decide +kernel
theorem dX12_playedFrom_83 : decode cX12_playedFrom 83 = .ok (.iconst 1, 1) := by decide +kernel
theorem dX12_playedFrom_84 : decode cX12_playedFrom 84 = .ok (.goto 4, 3) := by decide +kernel
theorem dX12_playedFrom_87 : decode cX12_playedFrom 87 = .ok (.iconst 0, 1) := by decide +kernel
theorem dX12_playedFrom_88 : decode cX12_playedFrom 88 = .ok (.istore 8, 2) := by decide +kernel
theorem dX12_playedFrom_90 : decode cX12_playedFrom 90 = .ok (.iload 8, 2) := by decide +kernel
theorem dX12_playedFrom_92 : decode cX12_playedFrom 92 = .ok (.ifCond .eq 8, 3) := by decide +kernel
theorem dX12_playedFrom_95 : decode cX12_playedFrom 95 = .ok (.iload 5, 2) := by decide +kernel
theorem dX12_playedFrom_97 : decode cX12_playedFrom 97 = .ok (.goto 5, 3) := by decide +kernel
theorem dX12_playedFrom_100 : decode cX12_playedFrom 100 = .ok (.iload 4, 2) := by decide +kernel
theorem dX12_playedFrom_102 : decode cX12_playedFrom 102 = .ok (.istore 4, 2) := by decide +kernel
theorem dX12_playedFrom_104 : decode cX12_playedFrom 104 = .ok (.iload 8, 2) := by decide +kernel
theorem dX12_playedFrom_106 : decode cX12_playedFrom 106 = .ok (.ifCond .eq 8, 3) := by decide +kernel
theorem dX12_playedFrom_109 : decode cX12_playedFrom 109 = .ok (.iload 7, 2) := by decide +kernel
theorem dX12_playedFrom_111 : decode cX12_playedFrom 111 = .ok (.goto 4, 3) := by decide +kernel
theorem dX12_playedFrom_114 : decode cX12_playedFrom 114 = .ok (.iload_n 3, 1) := by decide +kernel
theorem dX12_playedFrom_115 : decode cX12_playedFrom 115 = .ok (.istore_n 3, 1) := by decide +kernel
theorem dX12_playedFrom_116 : decode cX12_playedFrom 116 = .ok (.iinc 5 1, 3) := by decide +kernel
theorem dX12_playedFrom_119 : decode cX12_playedFrom 119 = .ok (.goto (-99), 3) := by decide +kernel
theorem dX12_playedFrom_122 : decode cX12_playedFrom 122 = .ok (.aload_n 0, 1) := by decide +kernel
theorem dX12_playedFrom_123 : decode cX12_playedFrom 123 = .ok (.getfield 38, 3) := by decide +kernel
theorem dX12_playedFrom_126 : decode cX12_playedFrom 126 = .ok (.iload_n 1, 1) := by decide +kernel
theorem dX12_playedFrom_127 : decode cX12_playedFrom 127 = .ok (.iload 4, 2) := by decide +kernel
theorem dX12_playedFrom_129 : decode cX12_playedFrom 129 = .ok (.iastore, 1) := by decide +kernel
theorem dX12_playedFrom_130 : decode cX12_playedFrom 130 = .ok (.iload_n 3, 1) := by decide +kernel
theorem dX12_playedFrom_131 : decode cX12_playedFrom 131 = .ok (.ireturn, 1) := by decide +kernel
theorem dX12_prove_0 : decode cX12_prove 0 = .ok (.iload_n 1, 1) := by decide +kernel
theorem dX12_prove_1 : decode cX12_prove 1 = .ok (.invokestatic 288, 3) := by decide +kernel
theorem dX12_prove_4 : decode cX12_prove 4 = .ok (.ifCond .ne 5, 3) := by decide +kernel
theorem dX12_prove_7 : decode cX12_prove 7 = .ok (.iconst (-1), 1) := by decide +kernel
theorem dX12_prove_8 : decode cX12_prove 8 = .ok (.ireturn, 1) := by decide +kernel
theorem dX12_prove_9 : decode cX12_prove 9 = .ok (.aload_n 0, 1) := by decide +kernel
theorem dX12_prove_10 : decode cX12_prove 10 = .ok (.iload_n 1, 1) := by decide +kernel
theorem dX12_prove_11 : decode cX12_prove 11 = .ok (.iconst 0, 1) := by decide +kernel
theorem dX12_prove_12 : decode cX12_prove 12 = .ok (.invokevirtual 291, 3) := by decide +kernel
theorem dX12_prove_15 : decode cX12_prove 15 = .ok (.aload_n 0, 1) := by decide +kernel
theorem dX12_prove_16 : decode cX12_prove 16 = .ok (.aload_n 0, 1) := by decide +kernel
theorem dX12_prove_17 : decode cX12_prove 17 = .ok (.iload_n 1, 1) := by decide +kernel
theorem dX12_prove_18 : decode cX12_prove 18 = .ok (.invokevirtual 285, 3) := by decide +kernel
theorem dX12_prove_21 : decode cX12_prove 21 = .ok (.putfield 317, 3) := by decide +kernel
theorem dX12_prove_24 : decode cX12_prove 24 = .ok (.aload_n 0, 1) := by decide +kernel
theorem dX12_prove_25 : decode cX12_prove 25 = .ok (.invokevirtual 241, 3) := by decide +kernel
theorem dX12_prove_28 : decode cX12_prove 28 = .ok (.iconst 0, 1) := by decide +kernel
theorem dX12_prove_29 : decode cX12_prove 29 = .ok (.istore_n 2, 1) := by decide +kernel
theorem dX12_prove_30 : decode cX12_prove 30 = .ok (.iload_n 2, 1) := by decide +kernel
theorem dX12_prove_31 : decode cX12_prove 31 = .ok (.aload_n 0, 1) := by decide +kernel
theorem dX12_prove_32 : decode cX12_prove 32 = .ok (.getfield 317, 3) := by decide +kernel
theorem dX12_prove_35 : decode cX12_prove 35 = .ok (.if_icmp .ge 58, 3) := by decide +kernel
theorem dX12_prove_38 : decode cX12_prove 38 = .ok (.aload_n 0, 1) := by decide +kernel
theorem dX12_prove_39 : decode cX12_prove 39 = .ok (.getfield 50, 3) := by decide +kernel
theorem dX12_prove_42 : decode cX12_prove 42 = .ok (.iconst 3, 1) := by decide +kernel
theorem dX12_prove_43 : decode cX12_prove 43 = .ok (.iload_n 2, 1) := by decide +kernel
theorem dX12_prove_44 : decode cX12_prove 44 = .ok (.imul, 1) := by decide +kernel
theorem dX12_prove_45 : decode cX12_prove 45 = .ok (.aload_n 0, 1) := by decide +kernel
theorem dX12_prove_46 : decode cX12_prove 46 = .ok (.getfield 41, 3) := by decide +kernel
theorem dX12_prove_49 : decode cX12_prove 49 = .ok (.iload_n 2, 1) := by decide +kernel
theorem dX12_prove_50 : decode cX12_prove 50 = .ok (.iaload, 1) := by decide +kernel
theorem dX12_prove_51 : decode cX12_prove 51 = .ok (.iastore, 1) := by decide +kernel
theorem dX12_prove_52 : decode cX12_prove 52 = .ok (.aload_n 0, 1) := by decide +kernel
theorem dX12_prove_53 : decode cX12_prove 53 = .ok (.getfield 50, 3) := by decide +kernel
theorem dX12_prove_56 : decode cX12_prove 56 = .ok (.iconst 3, 1) := by decide +kernel
theorem dX12_prove_57 : decode cX12_prove 57 = .ok (.iload_n 2, 1) := by decide +kernel
theorem dX12_prove_58 : decode cX12_prove 58 = .ok (.imul, 1) := by decide +kernel
theorem dX12_prove_59 : decode cX12_prove 59 = .ok (.iconst 1, 1) := by decide +kernel
theorem dX12_prove_60 : decode cX12_prove 60 = .ok (.iadd, 1) := by decide +kernel
theorem dX12_prove_61 : decode cX12_prove 61 = .ok (.aload_n 0, 1) := by decide +kernel
theorem dX12_prove_62 : decode cX12_prove 62 = .ok (.aload_n 0, 1) := by decide +kernel
theorem dX12_prove_63 : decode cX12_prove 63 = .ok (.getfield 41, 3) := by decide +kernel
theorem dX12_prove_66 : decode cX12_prove 66 = .ok (.iload_n 2, 1) := by decide +kernel
theorem dX12_prove_67 : decode cX12_prove 67 = .ok (.iaload, 1) := by decide +kernel
theorem dX12_prove_68 : decode cX12_prove 68 = .ok (.invokevirtual 238, 3) := by decide +kernel
theorem dX12_prove_71 : decode cX12_prove 71 = .ok (.iastore, 1) := by decide +kernel
theorem dX12_prove_72 : decode cX12_prove 72 = .ok (.aload_n 0, 1) := by decide +kernel
theorem dX12_prove_73 : decode cX12_prove 73 = .ok (.getfield 50, 3) := by decide +kernel
theorem dX12_prove_76 : decode cX12_prove 76 = .ok (.iconst 3, 1) := by decide +kernel
theorem dX12_prove_77 : decode cX12_prove 77 = .ok (.iload_n 2, 1) := by decide +kernel
theorem dX12_prove_78 : decode cX12_prove 78 = .ok (.imul, 1) := by decide +kernel
theorem dX12_prove_79 : decode cX12_prove 79 = .ok (.iconst 2, 1) := by decide +kernel
theorem dX12_prove_80 : decode cX12_prove 80 = .ok (.iadd, 1) := by decide +kernel
theorem dX12_prove_81 : decode cX12_prove 81 = .ok (.aload_n 0, 1) := by decide +kernel
theorem dX12_prove_82 : decode cX12_prove 82 = .ok (.iconst 4, 1) := by decide +kernel
theorem dX12_prove_83 : decode cX12_prove 83 = .ok (.invokevirtual 232, 3) := by decide +kernel
theorem dX12_prove_86 : decode cX12_prove 86 = .ok (.iastore, 1) := by decide +kernel
theorem dX12_prove_87 : decode cX12_prove 87 = .ok (.iinc 2 1, 3) := by decide +kernel
theorem dX12_prove_90 : decode cX12_prove 90 = .ok (.goto (-60), 3) := by decide +kernel
theorem dX12_prove_93 : decode cX12_prove 93 = .ok (.aload_n 0, 1) := by decide +kernel
theorem dX12_prove_94 : decode cX12_prove 94 = .ok (.invokevirtual 247, 3) := by decide +kernel
theorem dX12_prove_97 : decode cX12_prove 97 = .ok (.aload_n 0, 1) := by decide +kernel
theorem dX12_prove_98 : decode cX12_prove 98 = .ok (.getfield 317, 3) := by decide +kernel
theorem dX12_prove_101 : decode cX12_prove 101 = .ok (.ireturn, 1) := by decide +kernel
theorem dX12_puts_0 : decode cX12_puts 0 = .ok (.aload_n 0, 1) := by decide +kernel
theorem dX12_puts_1 : decode cX12_puts 1 = .ok (.getfield 9, 3) := by decide +kernel
theorem dX12_puts_4 : decode cX12_puts 4 = .ok (.bipush 35, 2) := by decide +kernel
theorem dX12_puts_6 : decode cX12_puts 6 = .ok (.iconst 5, 1) := by decide +kernel
theorem dX12_puts_7 : decode cX12_puts 7 = .ok (.iload_n 1, 1) := by decide +kernel
theorem dX12_puts_8 : decode cX12_puts 8 = .ok (.imul, 1) := by decide +kernel
theorem dX12_puts_9 : decode cX12_puts 9 = .ok (.iadd, 1) := by decide +kernel
theorem dX12_puts_10 : decode cX12_puts 10 = .ok (.iload_n 2, 1) := by decide +kernel
theorem dX12_puts_11 : decode cX12_puts 11 = .ok (.iadd, 1) := by decide +kernel
theorem dX12_puts_12 : decode cX12_puts 12 = .ok (.iload_n 3, 1) := by decide +kernel
theorem dX12_puts_13 : decode cX12_puts 13 = .ok (.iastore, 1) := by decide +kernel
theorem dX12_puts_14 : decode cX12_puts 14 = .ok (.return_, 1) := by decide +kernel
theorem dX12_remake_0 : decode cX12_remake 0 = .ok (.aload_n 0, 1) := by decide +kernel
theorem dX12_remake_1 : decode cX12_remake 1 = .ok (.iload_n 1, 1) := by decide +kernel
theorem dX12_remake_2 : decode cX12_remake 2 = .ok (.invokevirtual 223, 3) := by decide +kernel
theorem dX12_remake_5 : decode cX12_remake 5 = .ok (.ifCond .eq 26, 3) := by decide +kernel
theorem dX12_remake_8 : decode cX12_remake 8 = .ok (.iload_n 2, 1) := by decide +kernel
theorem dX12_remake_9 : decode cX12_remake 9 = .ok (.iconst 1, 1) := by decide +kernel
theorem dX12_remake_10 : decode cX12_remake 10 = .ok (.iconst 5, 1) := by decide +kernel
theorem dX12_remake_11 : decode cX12_remake 11 = .ok (.invokestatic 71, 3) := by decide +kernel
theorem dX12_remake_14 : decode cX12_remake 14 = .ok (.ifCond .eq 17, 3) := by decide +kernel
theorem dX12_remake_17 : decode cX12_remake 17 = .ok (.aload_n 0, 1) := by decide +kernel
theorem dX12_remake_18 : decode cX12_remake 18 = .ok (.bipush 35, 2) := by decide +kernel
theorem dX12_remake_20 : decode cX12_remake 20 = .ok (.iconst 5, 1) := by decide +kernel
theorem dX12_remake_21 : decode cX12_remake 21 = .ok (.iload_n 1, 1) := by decide +kernel
theorem dX12_remake_22 : decode cX12_remake 22 = .ok (.imul, 1) := by decide +kernel
theorem dX12_remake_23 : decode cX12_remake 23 = .ok (.iadd, 1) := by decide +kernel
theorem dX12_remake_24 : decode cX12_remake 24 = .ok (.iload_n 2, 1) := by decide +kernel
theorem dX12_remake_25 : decode cX12_remake 25 = .ok (.invokevirtual 226, 3) := by decide +kernel
theorem dX12_remake_28 : decode cX12_remake 28 = .ok (.goto 4, 3) := by decide +kernel
theorem dX12_remake_31 : decode cX12_remake 31 = .ok (.iconst (-1), 1) := by decide +kernel
theorem dX12_remake_32 : decode cX12_remake 32 = .ok (.ireturn, 1) := by decide +kernel
theorem dX12_report_0 : decode cX12_report 0 = .ok (.iload_n 2, 1) := by decide +kernel
theorem dX12_report_1 : decode cX12_report 1 = .ok (.ifCond .ne 8, 3) := by decide +kernel
theorem dX12_report_4 : decode cX12_report 4 = .ok (.bipush 99, 2) := by decide +kernel
theorem dX12_report_6 : decode cX12_report 6 = .ok (.goto 5, 3) := by decide +kernel
theorem dX12_report_9 : decode cX12_report 9 = .ok (.bipush 9, 2) := by decide +kernel
theorem dX12_report_11 : decode cX12_report 11 = .ok (.istore 5, 2) := by decide +kernel
theorem dX12_report_13 : decode cX12_report 13 = .ok (.iload_n 1, 1) := by decide +kernel
theorem dX12_report_14 : decode cX12_report 14 = .ok (.iconst 0, 1) := by decide +kernel
theorem dX12_report_15 : decode cX12_report 15 = .ok (.bipush 15, 2) := by decide +kernel
theorem dX12_report_17 : decode cX12_report 17 = .ok (.invokestatic 71, 3) := by decide +kernel
theorem dX12_report_20 : decode cX12_report 20 = .ok (.ifCond .eq 33, 3) := by decide +kernel
theorem dX12_report_23 : decode cX12_report 23 = .ok (.iload_n 2, 1) := by decide +kernel
theorem dX12_report_24 : decode cX12_report 24 = .ok (.iconst 0, 1) := by decide +kernel
theorem dX12_report_25 : decode cX12_report 25 = .ok (.iconst 1, 1) := by decide +kernel
theorem dX12_report_26 : decode cX12_report 26 = .ok (.invokestatic 71, 3) := by decide +kernel
theorem dX12_report_29 : decode cX12_report 29 = .ok (.ifCond .eq 24, 3) := by decide +kernel
theorem dX12_report_32 : decode cX12_report 32 = .ok (.iload_n 3, 1) := by decide +kernel
theorem dX12_report_33 : decode cX12_report 33 = .ok (.iconst 0, 1) := by decide +kernel
theorem dX12_report_34 : decode cX12_report 34 = .ok (.iload 5, 2) := by decide +kernel
theorem dX12_report_36 : decode cX12_report 36 = .ok (.invokestatic 71, 3) := by decide +kernel
theorem dX12_report_39 : decode cX12_report 39 = .ok (.ifCond .eq 14, 3) := by decide +kernel
theorem dX12_report_42 : decode cX12_report 42 = .ok (.iload 4, 2) := by decide +kernel
theorem dX12_report_44 : decode cX12_report 44 = .ok (.iload_n 3, 1) := by decide +kernel
theorem dX12_report_45 : decode cX12_report 45 = .ok (.iload 5, 2) := by decide +kernel
theorem dX12_report_47 : decode cX12_report 47 = .ok (.invokestatic 71, 3) := by decide +kernel
theorem dX12_report_50 : decode cX12_report 50 = .ok (.ifCond .ne 5, 3) := by decide +kernel
theorem dX12_report_53 : decode cX12_report 53 = .ok (.iconst (-1), 1) := by decide +kernel
theorem dX12_report_54 : decode cX12_report 54 = .ok (.ireturn, 1) := by decide +kernel
theorem dX12_report_55 : decode cX12_report 55 = .ok (.aload_n 0, 1) := by decide +kernel
theorem dX12_report_56 : decode cX12_report 56 = .ok (.getfield 9, 3) := by decide +kernel
theorem dX12_report_59 : decode cX12_report 59 = .ok (.bipush 6, 2) := by decide +kernel
theorem dX12_report_61 : decode cX12_report 61 = .ok (.iaload, 1) := by decide +kernel
theorem dX12_report_62 : decode cX12_report 62 = .ok (.bipush 6, 2) := by decide +kernel
theorem dX12_report_64 : decode cX12_report 64 = .ok (.if_icmp .ne 6, 3) := by decide +kernel
theorem dX12_report_67 : decode cX12_report 67 = .ok (.bipush (-2), 2) := by decide +kernel
theorem dX12_report_69 : decode cX12_report 69 = .ok (.ireturn, 1) := by decide +kernel
theorem dX12_report_70 : decode cX12_report 70 = .ok (.bipush 65, 2) := by decide +kernel
theorem dX12_report_72 : decode cX12_report 72 = .ok (.iconst 4, 1) := by decide +kernel
theorem dX12_report_73 : decode cX12_report 73 = .ok (.aload_n 0, 1) := by decide +kernel
theorem dX12_report_74 : decode cX12_report 74 = .ok (.getfield 9, 3) := by decide +kernel
theorem dX12_report_77 : decode cX12_report 77 = .ok (.bipush 6, 2) := by decide +kernel
theorem dX12_report_79 : decode cX12_report 79 = .ok (.iaload, 1) := by decide +kernel
theorem dX12_report_80 : decode cX12_report 80 = .ok (.imul, 1) := by decide +kernel
theorem dX12_report_81 : decode cX12_report 81 = .ok (.iadd, 1) := by decide +kernel
theorem dX12_report_82 : decode cX12_report 82 = .ok (.istore 6, 2) := by decide +kernel
theorem dX12_report_84 : decode cX12_report 84 = .ok (.aload_n 0, 1) := by decide +kernel
theorem dX12_report_85 : decode cX12_report 85 = .ok (.getfield 9, 3) := by decide +kernel
theorem dX12_report_88 : decode cX12_report 88 = .ok (.iload 6, 2) := by decide +kernel
theorem dX12_report_90 : decode cX12_report 90 = .ok (.iload_n 1, 1) := by decide +kernel
theorem dX12_report_91 : decode cX12_report 91 = .ok (.iastore, 1) := by decide +kernel
theorem dX12_report_92 : decode cX12_report 92 = .ok (.aload_n 0, 1) := by decide +kernel
theorem dX12_report_93 : decode cX12_report 93 = .ok (.getfield 9, 3) := by decide +kernel
theorem dX12_report_96 : decode cX12_report 96 = .ok (.iload 6, 2) := by decide +kernel
theorem dX12_report_98 : decode cX12_report 98 = .ok (.iconst 1, 1) := by decide +kernel
theorem dX12_report_99 : decode cX12_report 99 = .ok (.iadd, 1) := by decide +kernel
theorem dX12_report_100 : decode cX12_report 100 = .ok (.iload_n 2, 1) := by decide +kernel
theorem dX12_report_101 : decode cX12_report 101 = .ok (.iastore, 1) := by decide +kernel
theorem dX12_report_102 : decode cX12_report 102 = .ok (.aload_n 0, 1) := by decide +kernel
theorem dX12_report_103 : decode cX12_report 103 = .ok (.getfield 9, 3) := by decide +kernel
theorem dX12_report_106 : decode cX12_report 106 = .ok (.iload 6, 2) := by decide +kernel
theorem dX12_report_108 : decode cX12_report 108 = .ok (.iconst 2, 1) := by decide +kernel
theorem dX12_report_109 : decode cX12_report 109 = .ok (.iadd, 1) := by decide +kernel
theorem dX12_report_110 : decode cX12_report 110 = .ok (.iload_n 3, 1) := by decide +kernel
theorem dX12_report_111 : decode cX12_report 111 = .ok (.iastore, 1) := by decide +kernel
theorem dX12_report_112 : decode cX12_report 112 = .ok (.aload_n 0, 1) := by decide +kernel
theorem dX12_report_113 : decode cX12_report 113 = .ok (.getfield 9, 3) := by decide +kernel
theorem dX12_report_116 : decode cX12_report 116 = .ok (.iload 6, 2) := by decide +kernel
theorem dX12_report_118 : decode cX12_report 118 = .ok (.iconst 3, 1) := by decide +kernel
theorem dX12_report_119 : decode cX12_report 119 = .ok (.iadd, 1) := by decide +kernel
theorem dX12_report_120 : decode cX12_report 120 = .ok (.iload 4, 2) := by decide +kernel
theorem dX12_report_122 : decode cX12_report 122 = .ok (.iastore, 1) := by decide +kernel
theorem dX12_report_123 : decode cX12_report 123 = .ok (.aload_n 0, 1) := by decide +kernel
theorem dX12_report_124 : decode cX12_report 124 = .ok (.getfield 9, 3) := by decide +kernel
theorem dX12_report_127 : decode cX12_report 127 = .ok (.bipush 6, 2) := by decide +kernel
theorem dX12_report_129 : decode cX12_report 129 = .ok (.dup2, 1) := by decide +kernel
theorem dX12_report_130 : decode cX12_report 130 = .ok (.iaload, 1) := by decide +kernel
theorem dX12_report_131 : decode cX12_report 131 = .ok (.iconst 1, 1) := by decide +kernel
theorem dX12_report_132 : decode cX12_report 132 = .ok (.iadd, 1) := by decide +kernel
theorem dX12_report_133 : decode cX12_report 133 = .ok (.iastore, 1) := by decide +kernel
theorem dX12_report_134 : decode cX12_report 134 = .ok (.aload_n 0, 1) := by decide +kernel
theorem dX12_report_135 : decode cX12_report 135 = .ok (.getfield 9, 3) := by decide +kernel
theorem dX12_report_138 : decode cX12_report 138 = .ok (.bipush 6, 2) := by decide +kernel
theorem dX12_report_140 : decode cX12_report 140 = .ok (.iaload, 1) := by decide +kernel
theorem dX12_report_141 : decode cX12_report 141 = .ok (.iconst 1, 1) := by decide +kernel
theorem dX12_report_142 : decode cX12_report 142 = .ok (.isub, 1) := by decide +kernel
theorem dX12_report_143 : decode cX12_report 143 = .ok (.ireturn, 1) := by decide +kernel
theorem dX12_restOf_0 : decode cX12_restOf 0 = .ok (.iconst 0, 1) := by decide +kernel
theorem dX12_restOf_1 : decode cX12_restOf 1 = .ok (.istore_n 2, 1) := by decide +kernel
theorem dX12_restOf_2 : decode cX12_restOf 2 = .ok (.iconst 0, 1) := by decide +kernel
theorem dX12_restOf_3 : decode cX12_restOf 3 = .ok (.istore_n 3, 1) := by decide +kernel
theorem dX12_restOf_4 : decode cX12_restOf 4 = .ok (.iload_n 3, 1) := by decide +kernel
theorem dX12_restOf_5 : decode cX12_restOf 5 = .ok (.iload_n 1, 1) := by decide +kernel
theorem dX12_restOf_6 : decode cX12_restOf 6 = .ok (.if_icmp .ge 24, 3) := by decide +kernel
theorem dX12_restOf_9 : decode cX12_restOf 9 = .ok (.aload_n 0, 1) := by decide +kernel
theorem dX12_restOf_10 : decode cX12_restOf 10 = .ok (.invokevirtual 229, 3) := by decide +kernel
theorem dX12_restOf_13 : decode cX12_restOf 13 = .ok (.ifCond .ne 17, 3) := by decide +kernel
theorem dX12_restOf_16 : decode cX12_restOf 16 = .ok (.iload_n 2, 1) := by decide +kernel
theorem dX12_restOf_17 : decode cX12_restOf 17 = .ok (.aload_n 0, 1) := by decide +kernel
theorem dX12_restOf_18 : decode cX12_restOf 18 = .ok (.iconst (-1), 1) := by decide +kernel
theorem dX12_restOf_19 : decode cX12_restOf 19 = .ok (.invokevirtual 238, 3) := by decide +kernel
theorem dX12_restOf_22 : decode cX12_restOf 22 = .ok (.iadd, 1) := by decide +kernel
theorem dX12_restOf_23 : decode cX12_restOf 23 = .ok (.istore_n 2, 1) := by decide +kernel
theorem dX12_restOf_24 : decode cX12_restOf 24 = .ok (.iinc 3 1, 3) := by decide +kernel
theorem dX12_restOf_27 : decode cX12_restOf 27 = .ok (.goto (-23), 3) := by decide +kernel
theorem dX12_restOf_30 : decode cX12_restOf 30 = .ok (.iload_n 2, 1) := by decide +kernel
theorem dX12_restOf_31 : decode cX12_restOf 31 = .ok (.ireturn, 1) := by decide +kernel
theorem dX12_restOne_0 : decode cX12_restOne 0 = .ok (.iconst 0, 1) := by decide +kernel
theorem dX12_restOne_1 : decode cX12_restOne 1 = .ok (.istore_n 1, 1) := by decide +kernel
theorem dX12_restOne_2 : decode cX12_restOne 2 = .ok (.iload_n 1, 1) := by decide +kernel
theorem dX12_restOne_3 : decode cX12_restOne 3 = .ok (.aload_n 0, 1) := by decide +kernel
theorem dX12_restOne_4 : decode cX12_restOne 4 = .ok (.getfield 9, 3) := by decide +kernel
theorem dX12_restOne_7 : decode cX12_restOne 7 = .ok (.iconst 4, 1) := by decide +kernel
theorem dX12_restOne_8 : decode cX12_restOne 8 = .ok (.iaload, 1) := by decide +kernel
theorem dX12_restOne_9 : decode cX12_restOne 9 = .ok (.if_icmp .ge 19, 3) := by decide +kernel
theorem dX12_restOne_12 : decode cX12_restOne 12 = .ok (.aload_n 0, 1) := by decide +kernel
theorem dX12_restOne_13 : decode cX12_restOne 13 = .ok (.iload_n 1, 1) := by decide +kernel
theorem dX12_restOne_14 : decode cX12_restOne 14 = .ok (.invokevirtual 205, 3) := by decide +kernel
theorem dX12_restOne_17 : decode cX12_restOne 17 = .ok (.ifCond .eq 5, 3) := by decide +kernel
theorem dX12_restOne_20 : decode cX12_restOne 20 = .ok (.iload_n 1, 1) := by decide +kernel
theorem dX12_restOne_21 : decode cX12_restOne 21 = .ok (.ireturn, 1) := by decide +kernel
theorem dX12_restOne_22 : decode cX12_restOne 22 = .ok (.iinc 1 1, 3) := by decide +kernel
theorem dX12_restOne_25 : decode cX12_restOne 25 = .ok (.goto (-23), 3) := by decide +kernel
theorem dX12_restOne_28 : decode cX12_restOne 28 = .ok (.iconst (-1), 1) := by decide +kernel
theorem dX12_restOne_29 : decode cX12_restOne 29 = .ok (.ireturn, 1) := by decide +kernel
theorem dX12_restores_0 : decode cX12_restores 0 = .ok (.iconst 0, 1) := by decide +kernel
theorem dX12_restores_1 : decode cX12_restores 1 = .ok (.istore_n 2, 1) := by decide +kernel
theorem dX12_restores_2 : decode cX12_restores 2 = .ok (.iload_n 2, 1) := by decide +kernel
theorem dX12_restores_3 : decode cX12_restores 3 = .ok (.bipush 65, 2) := by decide +kernel
theorem dX12_restores_5 : decode cX12_restores 5 = .ok (.if_icmp .ge 26, 3) := by decide +kernel
theorem dX12_restores_8 : decode cX12_restores 8 = .ok (.aload_n 0, 1) := by decide +kernel
theorem dX12_restores_9 : decode cX12_restores 9 = .ok (.getfield 9, 3) := by decide +kernel
theorem dX12_restores_12 : decode cX12_restores 12 = .ok (.iload_n 2, 1) := by decide +kernel
theorem dX12_restores_13 : decode cX12_restores 13 = .ok (.aload_n 0, 1) := by decide +kernel
theorem dX12_restores_14 : decode cX12_restores 14 = .ok (.getfield 35, 3) := by decide +kernel
theorem dX12_restores_17 : decode cX12_restores 17 = .ok (.bipush 65, 2) := by decide +kernel
theorem dX12_restores_19 : decode cX12_restores 19 = .ok (.iload_n 1, 1) := by decide +kernel
theorem dX12_restores_20 : decode cX12_restores 20 = .ok (.imul, 1) := by decide +kernel
theorem dX12_restores_21 : decode cX12_restores 21 = .ok (.iload_n 2, 1) := by decide +kernel
theorem dX12_restores_22 : decode cX12_restores 22 = .ok (.iadd, 1) := by decide +kernel
theorem dX12_restores_23 : decode cX12_restores 23 = .ok (.iaload, 1) := by decide +kernel
theorem dX12_restores_24 : decode cX12_restores 24 = .ok (.iastore, 1) := by decide +kernel
theorem dX12_restores_25 : decode cX12_restores 25 = .ok (.iinc 2 1, 3) := by decide +kernel
theorem dX12_restores_28 : decode cX12_restores 28 = .ok (.goto (-26), 3) := by decide +kernel
theorem dX12_restores_31 : decode cX12_restores 31 = .ok (.return_, 1) := by decide +kernel
theorem dX12_row_0 : decode cX12_row 0 = .ok (.aload_n 0, 1) := by decide +kernel
theorem dX12_row_1 : decode cX12_row 1 = .ok (.iload_n 1, 1) := by decide +kernel
theorem dX12_row_2 : decode cX12_row 2 = .ok (.iload_n 2, 1) := by decide +kernel
theorem dX12_row_3 : decode cX12_row 3 = .ok (.invokevirtual 320, 3) := by decide +kernel
theorem dX12_row_6 : decode cX12_row 6 = .ok (.ifCond .eq 16, 3) := by decide +kernel
theorem dX12_row_9 : decode cX12_row 9 = .ok (.aload_n 0, 1) := by decide +kernel
theorem dX12_row_10 : decode cX12_row 10 = .ok (.getfield 50, 3) := by decide +kernel
theorem dX12_row_13 : decode cX12_row 13 = .ok (.iconst 3, 1) := by decide +kernel
theorem dX12_row_14 : decode cX12_row 14 = .ok (.iload_n 1, 1) := by decide +kernel
theorem dX12_row_15 : decode cX12_row 15 = .ok (.imul, 1) := by decide +kernel
theorem dX12_row_16 : decode cX12_row 16 = .ok (.iload_n 2, 1) := by decide +kernel
theorem dX12_row_17 : decode cX12_row 17 = .ok (.iadd, 1) := by decide +kernel
theorem dX12_row_18 : decode cX12_row 18 = .ok (.iaload, 1) := by decide +kernel
theorem dX12_row_19 : decode cX12_row 19 = .ok (.goto 5, 3) := by decide +kernel
theorem dX12_row_22 : decode cX12_row 22 = .ok (.bipush (-9), 2) := by decide +kernel
theorem dX12_row_24 : decode cX12_row 24 = .ok (.ireturn, 1) := by decide +kernel
theorem dX12_rules_0 : decode cX12_rules 0 = .ok (.aload_n 0, 1) := by decide +kernel
theorem dX12_rules_1 : decode cX12_rules 1 = .ok (.iconst 0, 1) := by decide +kernel
theorem dX12_rules_2 : decode cX12_rules 2 = .ok (.putfield 130, 3) := by decide +kernel
theorem dX12_rules_5 : decode cX12_rules 5 = .ok (.aload_n 0, 1) := by decide +kernel
theorem dX12_rules_6 : decode cX12_rules 6 = .ok (.iconst 0, 1) := by decide +kernel
theorem dX12_rules_7 : decode cX12_rules 7 = .ok (.putfield 158, 3) := by decide +kernel
theorem dX12_rules_10 : decode cX12_rules 10 = .ok (.iconst 0, 1) := by decide +kernel
theorem dX12_rules_11 : decode cX12_rules 11 = .ok (.istore_n 1, 1) := by decide +kernel
theorem dX12_rules_12 : decode cX12_rules 12 = .ok (.aload_n 0, 1) := by decide +kernel
theorem dX12_rules_13 : decode cX12_rules 13 = .ok (.invokevirtual 155, 3) := by decide +kernel
theorem dX12_rules_16 : decode cX12_rules 16 = .ok (.iconst 1, 1) := by decide +kernel
theorem dX12_rules_17 : decode cX12_rules 17 = .ok (.istore_n 2, 1) := by decide +kernel
theorem dX12_rules_18 : decode cX12_rules 18 = .ok (.iload_n 2, 1) := by decide +kernel
theorem dX12_rules_19 : decode cX12_rules 19 = .ok (.ifCond .eq 23, 3) := by decide +kernel
theorem dX12_rules_22 : decode cX12_rules 22 = .ok (.aload_n 0, 1) := by decide +kernel
theorem dX12_rules_23 : decode cX12_rules 23 = .ok (.getfield 139, 3) := by decide +kernel
theorem dX12_rules_26 : decode cX12_rules 26 = .ok (.iconst (-1), 1) := by decide +kernel
theorem dX12_rules_27 : decode cX12_rules 27 = .ok (.if_icmp .eq 15, 3) := by decide +kernel
theorem dX12_rules_30 : decode cX12_rules 30 = .ok (.aload_n 0, 1) := by decide +kernel
theorem dX12_rules_31 : decode cX12_rules 31 = .ok (.iload_n 1, 1) := by decide +kernel
theorem dX12_rules_32 : decode cX12_rules 32 = .ok (.invokevirtual 192, 3) := by decide +kernel
theorem dX12_rules_35 : decode cX12_rules 35 = .ok (.istore_n 2, 1) := by decide +kernel
theorem dX12_rules_36 : decode cX12_rules 36 = .ok (.iinc 1 1, 3) := by decide +kernel
theorem dX12_rules_39 : decode cX12_rules 39 = .ok (.goto (-21), 3) := by decide +kernel
theorem dX12_rules_42 : decode cX12_rules 42 = .ok (.aload_n 0, 1) := by decide +kernel
theorem dX12_rules_43 : decode cX12_rules 43 = .ok (.iconst 0, 1) := by decide +kernel
theorem dX12_rules_44 : decode cX12_rules 44 = .ok (.putfield 126, 3) := by decide +kernel
theorem dX12_rules_47 : decode cX12_rules 47 = .ok (.iload_n 2, 1) := by decide +kernel
theorem dX12_rules_48 : decode cX12_rules 48 = .ok (.ifCond .ne 11, 3) := by decide +kernel
theorem dX12_rules_51 : decode cX12_rules 51 = .ok (.bipush (-100), 2) := by decide +kernel
theorem dX12_rules_53 : decode cX12_rules 53 = .ok (.aload_n 0, 1) := by decide +kernel
theorem dX12_rules_54 : decode cX12_rules 54 = .ok (.getfield 133, 3) := by decide +kernel
theorem dX12_rules_57 : decode cX12_rules 57 = .ok (.isub, 1) := by decide +kernel
theorem dX12_rules_58 : decode cX12_rules 58 = .ok (.ireturn, 1) := by decide +kernel
theorem dX12_rules_59 : decode cX12_rules 59 = .ok (.aload_n 0, 1) := by decide +kernel
theorem dX12_rules_60 : decode cX12_rules 60 = .ok (.getfield 9, 3) := by decide +kernel
theorem dX12_rules_63 : decode cX12_rules 63 = .ok (.iconst 5, 1) := by decide +kernel
theorem dX12_rules_64 : decode cX12_rules 64 = .ok (.iload_n 1, 1) := by decide +kernel
theorem dX12_rules_65 : decode cX12_rules 65 = .ok (.iastore, 1) := by decide +kernel
theorem dX12_rules_66 : decode cX12_rules 66 = .ok (.iconst 0, 1) := by decide +kernel
theorem dX12_rules_67 : decode cX12_rules 67 = .ok (.istore_n 3, 1) := by decide +kernel
theorem dX12_rules_68 : decode cX12_rules 68 = .ok (.iload_n 3, 1) := by decide +kernel
theorem dX12_rules_69 : decode cX12_rules 69 = .ok (.iconst 3, 1) := by decide +kernel
theorem dX12_rules_70 : decode cX12_rules 70 = .ok (.iload_n 1, 1) := by decide +kernel
theorem dX12_rules_71 : decode cX12_rules 71 = .ok (.imul, 1) := by decide +kernel
theorem dX12_rules_72 : decode cX12_rules 72 = .ok (.if_icmp .ge 24, 3) := by decide +kernel
theorem dX12_rules_75 : decode cX12_rules 75 = .ok (.aload_n 0, 1) := by decide +kernel
theorem dX12_rules_76 : decode cX12_rules 76 = .ok (.getfield 9, 3) := by decide +kernel
theorem dX12_rules_79 : decode cX12_rules 79 = .ok (.bipush 89, 2) := by decide +kernel
theorem dX12_rules_81 : decode cX12_rules 81 = .ok (.iload_n 3, 1) := by decide +kernel
theorem dX12_rules_82 : decode cX12_rules 82 = .ok (.iadd, 1) := by decide +kernel
theorem dX12_rules_83 : decode cX12_rules 83 = .ok (.aload_n 0, 1) := by decide +kernel
theorem dX12_rules_84 : decode cX12_rules 84 = .ok (.getfield 32, 3) := by decide +kernel
theorem dX12_rules_87 : decode cX12_rules 87 = .ok (.iload_n 3, 1) := by decide +kernel
theorem dX12_rules_88 : decode cX12_rules 88 = .ok (.iaload, 1) := by decide +kernel
theorem dX12_rules_89 : decode cX12_rules 89 = .ok (.iastore, 1) := by decide +kernel
theorem dX12_rules_90 : decode cX12_rules 90 = .ok (.iinc 3 1, 3) := by decide +kernel
theorem dX12_rules_93 : decode cX12_rules 93 = .ok (.goto (-25), 3) := by decide +kernel
theorem dX12_rules_96 : decode cX12_rules 96 = .ok (.iconst 0, 1) := by decide +kernel
theorem dX12_rules_97 : decode cX12_rules 97 = .ok (.istore_n 3, 1) := by decide +kernel
theorem dX12_rules_98 : decode cX12_rules 98 = .ok (.iload_n 3, 1) := by decide +kernel
theorem dX12_rules_99 : decode cX12_rules 99 = .ok (.aload_n 0, 1) := by decide +kernel
theorem dX12_rules_100 : decode cX12_rules 100 = .ok (.getfield 158, 3) := by decide +kernel
theorem dX12_rules_103 : decode cX12_rules 103 = .ok (.if_icmp .ge 24, 3) := by decide +kernel
theorem dX12_rules_106 : decode cX12_rules 106 = .ok (.aload_n 0, 1) := by decide +kernel
theorem dX12_rules_107 : decode cX12_rules 107 = .ok (.getfield 9, 3) := by decide +kernel
theorem dX12_rules_110 : decode cX12_rules 110 = .ok (.bipush 113, 2) := by decide +kernel
theorem dX12_rules_112 : decode cX12_rules 112 = .ok (.iload_n 3, 1) := by decide +kernel
theorem dX12_rules_113 : decode cX12_rules 113 = .ok (.iadd, 1) := by decide +kernel
theorem dX12_rules_114 : decode cX12_rules 114 = .ok (.aload_n 0, 1) := by decide +kernel
theorem dX12_rules_115 : decode cX12_rules 115 = .ok (.getfield 29, 3) := by decide +kernel
theorem dX12_rules_118 : decode cX12_rules 118 = .ok (.iload_n 3, 1) := by decide +kernel
theorem dX12_rules_119 : decode cX12_rules 119 = .ok (.iaload, 1) := by decide +kernel
theorem dX12_rules_120 : decode cX12_rules 120 = .ok (.iastore, 1) := by decide +kernel
theorem dX12_rules_121 : decode cX12_rules 121 = .ok (.iinc 3 1, 3) := by decide +kernel
theorem dX12_rules_124 : decode cX12_rules 124 = .ok (.goto (-26), 3) := by decide +kernel
theorem dX12_rules_127 : decode cX12_rules 127 = .ok (.iload_n 1, 1) := by decide +kernel
theorem dX12_rules_128 : decode cX12_rules 128 = .ok (.ireturn, 1) := by decide +kernel
theorem dX12_saves_0 : decode cX12_saves 0 = .ok (.iconst 0, 1) := by decide +kernel
theorem dX12_saves_1 : decode cX12_saves 1 = .ok (.istore_n 2, 1) := by decide +kernel
theorem dX12_saves_2 : decode cX12_saves 2 = .ok (.iload_n 2, 1) := by decide +kernel
theorem dX12_saves_3 : decode cX12_saves 3 = .ok (.bipush 65, 2) := by decide +kernel
theorem dX12_saves_5 : decode cX12_saves 5 = .ok (.if_icmp .ge 26, 3) := by decide +kernel
theorem dX12_saves_8 : decode cX12_saves 8 = .ok (.aload_n 0, 1) := by decide +kernel
theorem dX12_saves_9 : decode cX12_saves 9 = .ok (.getfield 35, 3) := by decide +kernel
theorem dX12_saves_12 : decode cX12_saves 12 = .ok (.bipush 65, 2) := by decide +kernel
theorem dX12_saves_14 : decode cX12_saves 14 = .ok (.iload_n 1, 1) := by decide +kernel
theorem dX12_saves_15 : decode cX12_saves 15 = .ok (.imul, 1) := by decide +kernel
theorem dX12_saves_16 : decode cX12_saves 16 = .ok (.iload_n 2, 1) := by decide +kernel
theorem dX12_saves_17 : decode cX12_saves 17 = .ok (.iadd, 1) := by decide +kernel
theorem dX12_saves_18 : decode cX12_saves 18 = .ok (.aload_n 0, 1) := by decide +kernel
theorem dX12_saves_19 : decode cX12_saves 19 = .ok (.getfield 9, 3) := by decide +kernel
theorem dX12_saves_22 : decode cX12_saves 22 = .ok (.iload_n 2, 1) := by decide +kernel
theorem dX12_saves_23 : decode cX12_saves 23 = .ok (.iaload, 1) := by decide +kernel
theorem dX12_saves_24 : decode cX12_saves 24 = .ok (.iastore, 1) := by decide +kernel
theorem dX12_saves_25 : decode cX12_saves 25 = .ok (.iinc 2 1, 3) := by decide +kernel
theorem dX12_saves_28 : decode cX12_saves 28 = .ok (.goto (-26), 3) := by decide +kernel
theorem dX12_saves_31 : decode cX12_saves 31 = .ok (.return_, 1) := by decide +kernel
theorem dX12_seed_0 : decode cX12_seed 0 = .ok (.aload_n 0, 1) := by decide +kernel
theorem dX12_seed_1 : decode cX12_seed 1 = .ok (.iconst 3, 1) := by decide +kernel
theorem dX12_seed_2 : decode cX12_seed 2 = .ok (.iload_n 1, 1) := by decide +kernel
theorem dX12_seed_3 : decode cX12_seed 3 = .ok (.invokevirtual 226, 3) := by decide +kernel
theorem dX12_seed_6 : decode cX12_seed 6 = .ok (.ireturn, 1) := by decide +kernel
theorem dX12_shapeBy_0 : decode cX12_shapeBy 0 = .ok (.iload_n 1, 1) := by decide +kernel
theorem dX12_shapeBy_1 : decode cX12_shapeBy 1 = .ok (.bipush 10, 2) := by decide +kernel
theorem dX12_shapeBy_3 : decode cX12_shapeBy 3 = .ok (.idiv, 1) := by decide +kernel
theorem dX12_shapeBy_4 : decode cX12_shapeBy 4 = .ok (.iload_n 1, 1) := by decide +kernel
theorem dX12_shapeBy_5 : decode cX12_shapeBy 5 = .ok (.bipush 50, 2) := by decide +kernel
theorem dX12_shapeBy_7 : decode cX12_shapeBy 7 = .ok (.idiv, 1) := by decide +kernel
theorem dX12_shapeBy_8 : decode cX12_shapeBy 8 = .ok (.iadd, 1) := by decide +kernel
theorem dX12_shapeBy_9 : decode cX12_shapeBy 9 = .ok (.istore 4, 2) := by decide +kernel
theorem dX12_shapeBy_11 : decode cX12_shapeBy 11 = .ok (.iload_n 1, 1) := by decide +kernel
theorem dX12_shapeBy_12 : decode cX12_shapeBy 12 = .ok (.bipush 12, 2) := by decide +kernel
theorem dX12_shapeBy_14 : decode cX12_shapeBy 14 = .ok (.idiv, 1) := by decide +kernel
theorem dX12_shapeBy_15 : decode cX12_shapeBy 15 = .ok (.istore 5, 2) := by decide +kernel
theorem dX12_shapeBy_17 : decode cX12_shapeBy 17 = .ok (.iload_n 0, 1) := by decide +kernel
theorem dX12_shapeBy_18 : decode cX12_shapeBy 18 = .ok (.tableswitch 80 1 5 #[34, 36, 39, 58, 61], 34) := by decide +kernel
theorem dX12_shapeBy_52 : decode cX12_shapeBy 52 = .ok (.iconst 5, 1) := by decide +kernel
theorem dX12_shapeBy_53 : decode cX12_shapeBy 53 = .ok (.ireturn, 1) := by decide +kernel
theorem dX12_shapeBy_54 : decode cX12_shapeBy 54 = .ok (.iload 4, 2) := by decide +kernel
theorem dX12_shapeBy_56 : decode cX12_shapeBy 56 = .ok (.ireturn, 1) := by decide +kernel
theorem dX12_shapeBy_57 : decode cX12_shapeBy 57 = .ok (.iload 4, 2) := by decide +kernel
theorem dX12_shapeBy_59 : decode cX12_shapeBy 59 = .ok (.iload_n 2, 1) := by decide +kernel
theorem dX12_shapeBy_60 : decode cX12_shapeBy 60 = .ok (.iconst 4, 1) := by decide +kernel
theorem dX12_shapeBy_61 : decode cX12_shapeBy 61 = .ok (.idiv, 1) := by decide +kernel
theorem dX12_shapeBy_62 : decode cX12_shapeBy 62 = .ok (.if_icmp .le 12, 3) := by decide +kernel
theorem dX12_shapeBy_65 : decode cX12_shapeBy 65 = .ok (.iload 4, 2) := by decide +kernel
theorem dX12_shapeBy_67 : decode cX12_shapeBy 67 = .ok (.iload_n 2, 1) := by decide +kernel
theorem dX12_shapeBy_68 : decode cX12_shapeBy 68 = .ok (.iconst 4, 1) := by decide +kernel
theorem dX12_shapeBy_69 : decode cX12_shapeBy 69 = .ok (.idiv, 1) := by decide +kernel
theorem dX12_shapeBy_70 : decode cX12_shapeBy 70 = .ok (.isub, 1) := by decide +kernel
theorem dX12_shapeBy_71 : decode cX12_shapeBy 71 = .ok (.goto 4, 3) := by decide +kernel
theorem dX12_shapeBy_74 : decode cX12_shapeBy 74 = .ok (.iconst 0, 1) := by decide +kernel
theorem dX12_shapeBy_75 : decode cX12_shapeBy 75 = .ok (.ireturn, 1) := by decide +kernel
theorem dX12_shapeBy_76 : decode cX12_shapeBy 76 = .ok (.iload 5, 2) := by decide +kernel
theorem dX12_shapeBy_78 : decode cX12_shapeBy 78 = .ok (.ireturn, 1) := by decide +kernel
theorem dX12_shapeBy_79 : decode cX12_shapeBy 79 = .ok (.iload 5, 2) := by decide +kernel
theorem dX12_shapeBy_81 : decode cX12_shapeBy 81 = .ok (.iload_n 3, 1) := by decide +kernel
theorem dX12_shapeBy_82 : decode cX12_shapeBy 82 = .ok (.iadd, 1) := by decide +kernel
theorem dX12_shapeBy_83 : decode cX12_shapeBy 83 = .ok (.bipush 9, 2) := by decide +kernel
theorem dX12_shapeBy_85 : decode cX12_shapeBy 85 = .ok (.if_icmp .le 8, 3) := by decide +kernel
theorem dX12_shapeBy_88 : decode cX12_shapeBy 88 = .ok (.bipush 9, 2) := by decide +kernel
theorem dX12_shapeBy_90 : decode cX12_shapeBy 90 = .ok (.goto 7, 3) := by decide +kernel
theorem dX12_shapeBy_93 : decode cX12_shapeBy 93 = .ok (.iload 5, 2) := by decide +kernel
theorem dX12_shapeBy_95 : decode cX12_shapeBy 95 = .ok (.iload_n 3, 1) := by decide +kernel
theorem dX12_shapeBy_96 : decode cX12_shapeBy 96 = .ok (.iadd, 1) := by decide +kernel
theorem dX12_shapeBy_97 : decode cX12_shapeBy 97 = .ok (.ireturn, 1) := by decide +kernel
theorem dX12_shapeBy_98 : decode cX12_shapeBy 98 = .ok (.iload_n 1, 1) := by decide +kernel
theorem dX12_shapeBy_99 : decode cX12_shapeBy 99 = .ok (.bipush 10, 2) := by decide +kernel
theorem dX12_shapeBy_101 : decode cX12_shapeBy 101 = .ok (.idiv, 1) := by decide +kernel
theorem dX12_shapeBy_102 : decode cX12_shapeBy 102 = .ok (.ireturn, 1) := by decide +kernel
theorem dX12_sheet_0 : decode cX12_sheet 0 = .ok (.iload_n 1, 1) := by decide +kernel
theorem dX12_sheet_1 : decode cX12_sheet 1 = .ok (.invokestatic 326, 3) := by decide +kernel
theorem dX12_sheet_4 : decode cX12_sheet 4 = .ok (.ifCond .eq 22, 3) := by decide +kernel
theorem dX12_sheet_7 : decode cX12_sheet 7 = .ok (.iload_n 2, 1) := by decide +kernel
theorem dX12_sheet_8 : decode cX12_sheet 8 = .ok (.iconst (-1), 1) := by decide +kernel
theorem dX12_sheet_9 : decode cX12_sheet 9 = .ok (.iconst 4, 1) := by decide +kernel
theorem dX12_sheet_10 : decode cX12_sheet 10 = .ok (.invokestatic 71, 3) := by decide +kernel
theorem dX12_sheet_13 : decode cX12_sheet 13 = .ok (.ifCond .eq 13, 3) := by decide +kernel
theorem dX12_sheet_16 : decode cX12_sheet 16 = .ok (.iload_n 2, 1) := by decide +kernel
theorem dX12_sheet_17 : decode cX12_sheet 17 = .ok (.ifCond .lt 11, 3) := by decide +kernel
theorem dX12_sheet_20 : decode cX12_sheet 20 = .ok (.iload_n 3, 1) := by decide +kernel
theorem dX12_sheet_21 : decode cX12_sheet 21 = .ok (.bipush 40, 2) := by decide +kernel
theorem dX12_sheet_23 : decode cX12_sheet 23 = .ok (.if_icmp .le 5, 3) := by decide +kernel
theorem dX12_sheet_26 : decode cX12_sheet 26 = .ok (.iconst (-1), 1) := by decide +kernel
theorem dX12_sheet_27 : decode cX12_sheet 27 = .ok (.ireturn, 1) := by decide +kernel
theorem dX12_sheet_28 : decode cX12_sheet 28 = .ok (.iload_n 2, 1) := by decide +kernel
theorem dX12_sheet_29 : decode cX12_sheet 29 = .ok (.ifCond .lt 10, 3) := by decide +kernel
theorem dX12_sheet_32 : decode cX12_sheet 32 = .ok (.iload_n 3, 1) := by decide +kernel
theorem dX12_sheet_33 : decode cX12_sheet 33 = .ok (.ifCond .ge 6, 3) := by decide +kernel
theorem dX12_sheet_36 : decode cX12_sheet 36 = .ok (.bipush (-14), 2) := by decide +kernel
theorem dX12_sheet_38 : decode cX12_sheet 38 = .ok (.ireturn, 1) := by decide +kernel
theorem dX12_sheet_39 : decode cX12_sheet 39 = .ok (.aload_n 0, 1) := by decide +kernel
theorem dX12_sheet_40 : decode cX12_sheet 40 = .ok (.getfield 53, 3) := by decide +kernel
theorem dX12_sheet_43 : decode cX12_sheet 43 = .ok (.iload_n 1, 1) := by decide +kernel
theorem dX12_sheet_44 : decode cX12_sheet 44 = .ok (.iload_n 2, 1) := by decide +kernel
theorem dX12_sheet_45 : decode cX12_sheet 45 = .ok (.iastore, 1) := by decide +kernel
theorem dX12_sheet_46 : decode cX12_sheet 46 = .ok (.aload_n 0, 1) := by decide +kernel
theorem dX12_sheet_47 : decode cX12_sheet 47 = .ok (.getfield 56, 3) := by decide +kernel
theorem dX12_sheet_50 : decode cX12_sheet 50 = .ok (.iload_n 1, 1) := by decide +kernel
theorem dX12_sheet_51 : decode cX12_sheet 51 = .ok (.iload_n 2, 1) := by decide +kernel
theorem dX12_sheet_52 : decode cX12_sheet 52 = .ok (.ifCond .ge 7, 3) := by decide +kernel
theorem dX12_sheet_55 : decode cX12_sheet 55 = .ok (.iconst 0, 1) := by decide +kernel
theorem dX12_sheet_56 : decode cX12_sheet 56 = .ok (.goto 4, 3) := by decide +kernel
theorem dX12_sheet_59 : decode cX12_sheet 59 = .ok (.iload_n 3, 1) := by decide +kernel
theorem dX12_sheet_60 : decode cX12_sheet 60 = .ok (.iastore, 1) := by decide +kernel
theorem dX12_sheet_61 : decode cX12_sheet 61 = .ok (.iconst 0, 1) := by decide +kernel
theorem dX12_sheet_62 : decode cX12_sheet 62 = .ok (.istore 4, 2) := by decide +kernel
theorem dX12_sheet_64 : decode cX12_sheet 64 = .ok (.iload 4, 2) := by decide +kernel
theorem dX12_sheet_66 : decode cX12_sheet 66 = .ok (.bipush 40, 2) := by decide +kernel
theorem dX12_sheet_68 : decode cX12_sheet 68 = .ok (.if_icmp .ge 22, 3) := by decide +kernel
theorem dX12_sheet_71 : decode cX12_sheet 71 = .ok (.aload_n 0, 1) := by decide +kernel
theorem dX12_sheet_72 : decode cX12_sheet 72 = .ok (.getfield 59, 3) := by decide +kernel
theorem dX12_sheet_75 : decode cX12_sheet 75 = .ok (.bipush 40, 2) := by decide +kernel
theorem dX12_sheet_77 : decode cX12_sheet 77 = .ok (.iload_n 1, 1) := by decide +kernel
theorem dX12_sheet_78 : decode cX12_sheet 78 = .ok (.imul, 1) := by decide +kernel
theorem dX12_sheet_79 : decode cX12_sheet 79 = .ok (.iload 4, 2) := by decide +kernel
theorem dX12_sheet_81 : decode cX12_sheet 81 = .ok (.iadd, 1) := by decide +kernel
theorem dX12_sheet_82 : decode cX12_sheet 82 = .ok (.iconst 0, 1) := by decide +kernel
theorem dX12_sheet_83 : decode cX12_sheet 83 = .ok (.iastore, 1) := by decide +kernel
theorem dX12_sheet_84 : decode cX12_sheet 84 = .ok (.iinc 4 1, 3) := by decide +kernel
theorem dX12_sheet_87 : decode cX12_sheet 87 = .ok (.goto (-23), 3) := by decide +kernel
theorem dX12_sheet_90 : decode cX12_sheet 90 = .ok (.iconst 1, 1) := by decide +kernel
theorem dX12_sheet_91 : decode cX12_sheet 91 = .ok (.ireturn, 1) := by decide +kernel
theorem dX12_shelf_0 : decode cX12_shelf 0 = .ok (.iload_n 1, 1) := by decide +kernel
theorem dX12_shelf_1 : decode cX12_shelf 1 = .ok (.invokestatic 326, 3) := by decide +kernel
theorem dX12_shelf_4 : decode cX12_shelf 4 = .ok (.ifCond .eq 36, 3) := by decide +kernel
theorem dX12_shelf_7 : decode cX12_shelf 7 = .ok (.iload_n 2, 1) := by decide +kernel
theorem dX12_shelf_8 : decode cX12_shelf 8 = .ok (.iconst 0, 1) := by decide +kernel
theorem dX12_shelf_9 : decode cX12_shelf 9 = .ok (.iconst 2, 1) := by decide +kernel
theorem dX12_shelf_10 : decode cX12_shelf 10 = .ok (.invokestatic 71, 3) := by decide +kernel
theorem dX12_shelf_13 : decode cX12_shelf 13 = .ok (.ifCond .eq 27, 3) := by decide +kernel
theorem dX12_shelf_16 : decode cX12_shelf 16 = .ok (.iload_n 2, 1) := by decide +kernel
theorem dX12_shelf_17 : decode cX12_shelf 17 = .ok (.ifCond .ne 11, 3) := by decide +kernel
theorem dX12_shelf_20 : decode cX12_shelf 20 = .ok (.aload_n 0, 1) := by decide +kernel
theorem dX12_shelf_21 : decode cX12_shelf 21 = .ok (.iload_n 3, 1) := by decide +kernel
theorem dX12_shelf_22 : decode cX12_shelf 22 = .ok (.invokevirtual 223, 3) := by decide +kernel
theorem dX12_shelf_25 : decode cX12_shelf 25 = .ok (.ifCond .eq 15, 3) := by decide +kernel
theorem dX12_shelf_28 : decode cX12_shelf 28 = .ok (.iload_n 2, 1) := by decide +kernel
theorem dX12_shelf_29 : decode cX12_shelf 29 = .ok (.iconst 1, 1) := by decide +kernel
theorem dX12_shelf_30 : decode cX12_shelf 30 = .ok (.if_icmp .ne 12, 3) := by decide +kernel
theorem dX12_shelf_33 : decode cX12_shelf 33 = .ok (.iload_n 3, 1) := by decide +kernel
theorem dX12_shelf_34 : decode cX12_shelf 34 = .ok (.invokestatic 326, 3) := by decide +kernel
theorem dX12_shelf_37 : decode cX12_shelf 37 = .ok (.ifCond .ne 5, 3) := by decide +kernel
theorem dX12_shelf_40 : decode cX12_shelf 40 = .ok (.iconst (-1), 1) := by decide +kernel
theorem dX12_shelf_41 : decode cX12_shelf 41 = .ok (.ireturn, 1) := by decide +kernel
theorem dX12_shelf_42 : decode cX12_shelf 42 = .ok (.aload_n 0, 1) := by decide +kernel
theorem dX12_shelf_43 : decode cX12_shelf 43 = .ok (.getfield 62, 3) := by decide +kernel
theorem dX12_shelf_46 : decode cX12_shelf 46 = .ok (.iload_n 1, 1) := by decide +kernel
theorem dX12_shelf_47 : decode cX12_shelf 47 = .ok (.iload_n 2, 1) := by decide +kernel
theorem dX12_shelf_48 : decode cX12_shelf 48 = .ok (.ifCond .ne 7, 3) := by decide +kernel
theorem dX12_shelf_51 : decode cX12_shelf 51 = .ok (.iconst 0, 1) := by decide +kernel
theorem dX12_shelf_52 : decode cX12_shelf 52 = .ok (.goto 30, 3) := by decide +kernel
theorem dX12_shelf_55 : decode cX12_shelf 55 = .ok (.iload_n 2, 1) := by decide +kernel
theorem dX12_shelf_56 : decode cX12_shelf 56 = .ok (.iconst 1, 1) := by decide +kernel
theorem dX12_shelf_57 : decode cX12_shelf 57 = .ok (.if_icmp .ne 24, 3) := by decide +kernel
theorem dX12_shelf_60 : decode cX12_shelf 60 = .ok (.aload_n 0, 1) := by decide +kernel
theorem dX12_shelf_61 : decode cX12_shelf 61 = .ok (.getfield 53, 3) := by decide +kernel
theorem dX12_shelf_64 : decode cX12_shelf 64 = .ok (.iload_n 3, 1) := by decide +kernel
theorem dX12_shelf_65 : decode cX12_shelf 65 = .ok (.iaload, 1) := by decide +kernel
theorem dX12_shelf_66 : decode cX12_shelf 66 = .ok (.ifCond .lt 15, 3) := by decide +kernel
theorem dX12_shelf_69 : decode cX12_shelf 69 = .ok (.bipush 10, 2) := by decide +kernel
theorem dX12_shelf_71 : decode cX12_shelf 71 = .ok (.aload_n 0, 1) := by decide +kernel
theorem dX12_shelf_72 : decode cX12_shelf 72 = .ok (.getfield 53, 3) := by decide +kernel
theorem dX12_shelf_75 : decode cX12_shelf 75 = .ok (.iload_n 3, 1) := by decide +kernel
theorem dX12_shelf_76 : decode cX12_shelf 76 = .ok (.iaload, 1) := by decide +kernel
theorem dX12_shelf_77 : decode cX12_shelf 77 = .ok (.iadd, 1) := by decide +kernel
theorem dX12_shelf_78 : decode cX12_shelf 78 = .ok (.goto 4, 3) := by decide +kernel
theorem dX12_shelf_81 : decode cX12_shelf 81 = .ok (.iconst (-1), 1) := by decide +kernel
theorem dX12_shelf_82 : decode cX12_shelf 82 = .ok (.iastore, 1) := by decide +kernel
theorem dX12_shelf_83 : decode cX12_shelf 83 = .ok (.aload_n 0, 1) := by decide +kernel
theorem dX12_shelf_84 : decode cX12_shelf 84 = .ok (.getfield 65, 3) := by decide +kernel
theorem dX12_shelf_87 : decode cX12_shelf 87 = .ok (.iload_n 1, 1) := by decide +kernel
theorem dX12_shelf_88 : decode cX12_shelf 88 = .ok (.iload_n 2, 1) := by decide +kernel
theorem dX12_shelf_89 : decode cX12_shelf 89 = .ok (.ifCond .ne 7, 3) := by decide +kernel
theorem dX12_shelf_92 : decode cX12_shelf 92 = .ok (.iload_n 3, 1) := by decide +kernel
theorem dX12_shelf_93 : decode cX12_shelf 93 = .ok (.goto 18, 3) := by decide +kernel
theorem dX12_shelf_96 : decode cX12_shelf 96 = .ok (.iload_n 2, 1) := by decide +kernel
theorem dX12_shelf_97 : decode cX12_shelf 97 = .ok (.iconst 1, 1) := by decide +kernel
theorem dX12_shelf_98 : decode cX12_shelf 98 = .ok (.if_icmp .ne 12, 3) := by decide +kernel
theorem dX12_shelf_101 : decode cX12_shelf 101 = .ok (.aload_n 0, 1) := by decide +kernel
theorem dX12_shelf_102 : decode cX12_shelf 102 = .ok (.getfield 56, 3) := by decide +kernel
theorem dX12_shelf_105 : decode cX12_shelf 105 = .ok (.iload_n 3, 1) := by decide +kernel
theorem dX12_shelf_106 : decode cX12_shelf 106 = .ok (.iaload, 1) := by decide +kernel
theorem dX12_shelf_107 : decode cX12_shelf 107 = .ok (.goto 4, 3) := by decide +kernel
theorem dX12_shelf_110 : decode cX12_shelf 110 = .ok (.iconst 0, 1) := by decide +kernel
theorem dX12_shelf_111 : decode cX12_shelf 111 = .ok (.iastore, 1) := by decide +kernel
theorem dX12_shelf_112 : decode cX12_shelf 112 = .ok (.iconst 1, 1) := by decide +kernel
theorem dX12_shelf_113 : decode cX12_shelf 113 = .ok (.ireturn, 1) := by decide +kernel
theorem dX12_state_0 : decode cX12_state 0 = .ok (.iload_n 1, 1) := by decide +kernel
theorem dX12_state_1 : decode cX12_state 1 = .ok (.tableswitch 93 0 6 #[43, 50, 57, 64, 77, 83, 88], 43) := by decide +kernel
theorem dX12_state_44 : decode cX12_state 44 = .ok (.aload_n 0, 1) := by decide +kernel
theorem dX12_state_45 : decode cX12_state 45 = .ok (.getfield 9, 3) := by decide +kernel
theorem dX12_state_48 : decode cX12_state 48 = .ok (.iconst 0, 1) := by decide +kernel
theorem dX12_state_49 : decode cX12_state 49 = .ok (.iaload, 1) := by decide +kernel
theorem dX12_state_50 : decode cX12_state 50 = .ok (.ireturn, 1) := by decide +kernel
theorem dX12_state_51 : decode cX12_state 51 = .ok (.aload_n 0, 1) := by decide +kernel
theorem dX12_state_52 : decode cX12_state 52 = .ok (.getfield 9, 3) := by decide +kernel
theorem dX12_state_55 : decode cX12_state 55 = .ok (.iconst 1, 1) := by decide +kernel
theorem dX12_state_56 : decode cX12_state 56 = .ok (.iaload, 1) := by decide +kernel
theorem dX12_state_57 : decode cX12_state 57 = .ok (.ireturn, 1) := by decide +kernel
theorem dX12_state_58 : decode cX12_state 58 = .ok (.aload_n 0, 1) := by decide +kernel
theorem dX12_state_59 : decode cX12_state 59 = .ok (.getfield 9, 3) := by decide +kernel
theorem dX12_state_62 : decode cX12_state 62 = .ok (.iconst 2, 1) := by decide +kernel
theorem dX12_state_63 : decode cX12_state 63 = .ok (.iaload, 1) := by decide +kernel
theorem dX12_state_64 : decode cX12_state 64 = .ok (.ireturn, 1) := by decide +kernel
theorem dX12_state_65 : decode cX12_state 65 = .ok (.aload_n 0, 1) := by decide +kernel
theorem dX12_state_66 : decode cX12_state 66 = .ok (.invokevirtual 229, 3) := by decide +kernel
theorem dX12_state_69 : decode cX12_state 69 = .ok (.ifCond .eq 7, 3) := by decide +kernel
theorem dX12_state_72 : decode cX12_state 72 = .ok (.iconst 1, 1) := by decide +kernel
theorem dX12_state_73 : decode cX12_state 73 = .ok (.goto 4, 3) := by decide +kernel
theorem dX12_state_76 : decode cX12_state 76 = .ok (.iconst 0, 1) := by decide +kernel
theorem dX12_state_77 : decode cX12_state 77 = .ok (.ireturn, 1) := by decide +kernel
theorem dX12_state_78 : decode cX12_state 78 = .ok (.aload_n 0, 1) := by decide +kernel
theorem dX12_state_79 : decode cX12_state 79 = .ok (.iconst 4, 1) := by decide +kernel
theorem dX12_state_80 : decode cX12_state 80 = .ok (.invokevirtual 232, 3) := by decide +kernel
theorem dX12_state_83 : decode cX12_state 83 = .ok (.ireturn, 1) := by decide +kernel
theorem dX12_state_84 : decode cX12_state 84 = .ok (.aload_n 0, 1) := by decide +kernel
theorem dX12_state_85 : decode cX12_state 85 = .ok (.invokevirtual 83, 3) := by decide +kernel
theorem dX12_state_88 : decode cX12_state 88 = .ok (.ireturn, 1) := by decide +kernel
theorem dX12_state_89 : decode cX12_state 89 = .ok (.aload_n 0, 1) := by decide +kernel
theorem dX12_state_90 : decode cX12_state 90 = .ok (.invokevirtual 235, 3) := by decide +kernel
theorem dX12_state_93 : decode cX12_state 93 = .ok (.ireturn, 1) := by decide +kernel
theorem dX12_state_94 : decode cX12_state 94 = .ok (.iconst (-1), 1) := by decide +kernel
theorem dX12_state_95 : decode cX12_state 95 = .ok (.ireturn, 1) := by decide +kernel
theorem dX12_strawFor_0 : decode cX12_strawFor 0 = .ok (.aload_n 0, 1) := by decide +kernel
theorem dX12_strawFor_1 : decode cX12_strawFor 1 = .ok (.iload_n 1, 1) := by decide +kernel
theorem dX12_strawFor_2 : decode cX12_strawFor 2 = .ok (.iconst 2, 1) := by decide +kernel
theorem dX12_strawFor_3 : decode cX12_strawFor 3 = .ok (.bipush 9, 2) := by decide +kernel
theorem dX12_strawFor_5 : decode cX12_strawFor 5 = .ok (.invokevirtual 250, 3) := by decide +kernel
theorem dX12_strawFor_8 : decode cX12_strawFor 8 = .ok (.ireturn, 1) := by decide +kernel
theorem dX12_sun_0 : decode cX12_sun 0 = .ok (.iload_n 1, 1) := by decide +kernel
theorem dX12_sun_1 : decode cX12_sun 1 = .ok (.iconst 0, 1) := by decide +kernel
theorem dX12_sun_2 : decode cX12_sun 2 = .ok (.bipush 15, 2) := by decide +kernel
theorem dX12_sun_4 : decode cX12_sun 4 = .ok (.invokestatic 71, 3) := by decide +kernel
theorem dX12_sun_7 : decode cX12_sun 7 = .ok (.ifCond .eq 25, 3) := by decide +kernel
theorem dX12_sun_10 : decode cX12_sun 10 = .ok (.iload_n 2, 1) := by decide +kernel
theorem dX12_sun_11 : decode cX12_sun 11 = .ok (.iconst 0, 1) := by decide +kernel
theorem dX12_sun_12 : decode cX12_sun 12 = .ok (.bipush 15, 2) := by decide +kernel
theorem dX12_sun_14 : decode cX12_sun 14 = .ok (.invokestatic 71, 3) := by decide +kernel
theorem dX12_sun_17 : decode cX12_sun 17 = .ok (.ifCond .eq 15, 3) := by decide +kernel
theorem dX12_sun_20 : decode cX12_sun 20 = .ok (.aload_n 0, 1) := by decide +kernel
theorem dX12_sun_21 : decode cX12_sun 21 = .ok (.bipush 7, 2) := by decide +kernel
theorem dX12_sun_23 : decode cX12_sun 23 = .ok (.iload_n 1, 1) := by decide +kernel
theorem dX12_sun_24 : decode cX12_sun 24 = .ok (.iadd, 1) := by decide +kernel
theorem dX12_sun_25 : decode cX12_sun 25 = .ok (.iload_n 2, 1) := by decide +kernel
theorem dX12_sun_26 : decode cX12_sun 26 = .ok (.invokevirtual 226, 3) := by decide +kernel
theorem dX12_sun_29 : decode cX12_sun 29 = .ok (.goto 4, 3) := by decide +kernel
theorem dX12_sun_32 : decode cX12_sun 32 = .ok (.iconst (-1), 1) := by decide +kernel
theorem dX12_sun_33 : decode cX12_sun 33 = .ok (.ireturn, 1) := by decide +kernel
theorem dX12_sunNow_0 : decode cX12_sunNow 0 = .ok (.aload_n 0, 1) := by decide +kernel
theorem dX12_sunNow_1 : decode cX12_sunNow 1 = .ok (.getfield 9, 3) := by decide +kernel
theorem dX12_sunNow_4 : decode cX12_sunNow 4 = .ok (.iconst 0, 1) := by decide +kernel
theorem dX12_sunNow_5 : decode cX12_sunNow 5 = .ok (.iaload, 1) := by decide +kernel
theorem dX12_sunNow_6 : decode cX12_sunNow 6 = .ok (.bipush 16, 2) := by decide +kernel
theorem dX12_sunNow_8 : decode cX12_sunNow 8 = .ok (.if_icmp .ge 20, 3) := by decide +kernel
theorem dX12_sunNow_11 : decode cX12_sunNow 11 = .ok (.aload_n 0, 1) := by decide +kernel
theorem dX12_sunNow_12 : decode cX12_sunNow 12 = .ok (.getfield 9, 3) := by decide +kernel
theorem dX12_sunNow_15 : decode cX12_sunNow 15 = .ok (.bipush 7, 2) := by decide +kernel
theorem dX12_sunNow_17 : decode cX12_sunNow 17 = .ok (.aload_n 0, 1) := by decide +kernel
theorem dX12_sunNow_18 : decode cX12_sunNow 18 = .ok (.getfield 9, 3) := by decide +kernel
theorem dX12_sunNow_21 : decode cX12_sunNow 21 = .ok (.iconst 0, 1) := by decide +kernel
theorem dX12_sunNow_22 : decode cX12_sunNow 22 = .ok (.iaload, 1) := by decide +kernel
theorem dX12_sunNow_23 : decode cX12_sunNow 23 = .ok (.iadd, 1) := by decide +kernel
theorem dX12_sunNow_24 : decode cX12_sunNow 24 = .ok (.iaload, 1) := by decide +kernel
theorem dX12_sunNow_25 : decode cX12_sunNow 25 = .ok (.goto 4, 3) := by decide +kernel
theorem dX12_sunNow_28 : decode cX12_sunNow 28 = .ok (.iconst 0, 1) := by decide +kernel
theorem dX12_sunNow_29 : decode cX12_sunNow 29 = .ok (.ireturn, 1) := by decide +kernel
theorem dX12_taken_0 : decode cX12_taken 0 = .ok (.iload_n 1, 1) := by decide +kernel
theorem dX12_taken_1 : decode cX12_taken 1 = .ok (.invokestatic 326, 3) := by decide +kernel
theorem dX12_taken_4 : decode cX12_taken 4 = .ok (.ifCond .eq 23, 3) := by decide +kernel
theorem dX12_taken_7 : decode cX12_taken 7 = .ok (.iload_n 2, 1) := by decide +kernel
theorem dX12_taken_8 : decode cX12_taken 8 = .ok (.iconst 0, 1) := by decide +kernel
theorem dX12_taken_9 : decode cX12_taken 9 = .ok (.iconst 5, 1) := by decide +kernel
theorem dX12_taken_10 : decode cX12_taken 10 = .ok (.invokestatic 71, 3) := by decide +kernel
theorem dX12_taken_13 : decode cX12_taken 13 = .ok (.ifCond .ne 16, 3) := by decide +kernel
theorem dX12_taken_16 : decode cX12_taken 16 = .ok (.iload_n 2, 1) := by decide +kernel
theorem dX12_taken_17 : decode cX12_taken 17 = .ok (.bipush 10, 2) := by decide +kernel
theorem dX12_taken_19 : decode cX12_taken 19 = .ok (.bipush 14, 2) := by decide +kernel
theorem dX12_taken_21 : decode cX12_taken 21 = .ok (.invokestatic 71, 3) := by decide +kernel
theorem dX12_taken_24 : decode cX12_taken 24 = .ok (.ifCond .ne 5, 3) := by decide +kernel
theorem dX12_taken_27 : decode cX12_taken 27 = .ok (.iconst (-1), 1) := by decide +kernel
theorem dX12_taken_28 : decode cX12_taken 28 = .ok (.ireturn, 1) := by decide +kernel
theorem dX12_taken_29 : decode cX12_taken 29 = .ok (.aload_n 0, 1) := by decide +kernel
theorem dX12_taken_30 : decode cX12_taken 30 = .ok (.iload_n 1, 1) := by decide +kernel
theorem dX12_taken_31 : decode cX12_taken 31 = .ok (.invokevirtual 338, 3) := by decide +kernel
theorem dX12_taken_34 : decode cX12_taken 34 = .ok (.istore_n 3, 1) := by decide +kernel
theorem dX12_taken_35 : decode cX12_taken 35 = .ok (.iload_n 3, 1) := by decide +kernel
theorem dX12_taken_36 : decode cX12_taken 36 = .ok (.ifCond .ge 6, 3) := by decide +kernel
theorem dX12_taken_39 : decode cX12_taken 39 = .ok (.bipush (-11), 2) := by decide +kernel
theorem dX12_taken_41 : decode cX12_taken 41 = .ok (.ireturn, 1) := by decide +kernel
theorem dX12_taken_42 : decode cX12_taken 42 = .ok (.iload_n 3, 1) := by decide +kernel
theorem dX12_taken_43 : decode cX12_taken 43 = .ok (.ifCond .ne 35, 3) := by decide +kernel
theorem dX12_taken_46 : decode cX12_taken 46 = .ok (.iload_n 2, 1) := by decide +kernel
theorem dX12_taken_47 : decode cX12_taken 47 = .ok (.bipush 10, 2) := by decide +kernel
theorem dX12_taken_49 : decode cX12_taken 49 = .ok (.if_icmp .ge 25, 3) := by decide +kernel
theorem dX12_taken_52 : decode cX12_taken 52 = .ok (.aload_n 0, 1) := by decide +kernel
theorem dX12_taken_53 : decode cX12_taken 53 = .ok (.aload_n 0, 1) := by decide +kernel
theorem dX12_taken_54 : decode cX12_taken 54 = .ok (.getfield 65, 3) := by decide +kernel
theorem dX12_taken_57 : decode cX12_taken 57 = .ok (.iload_n 1, 1) := by decide +kernel
theorem dX12_taken_58 : decode cX12_taken 58 = .ok (.iaload, 1) := by decide +kernel
theorem dX12_taken_59 : decode cX12_taken 59 = .ok (.iconst 0, 1) := by decide +kernel
theorem dX12_taken_60 : decode cX12_taken 60 = .ok (.invokevirtual 79, 3) := by decide +kernel
theorem dX12_taken_63 : decode cX12_taken 63 = .ok (.iload_n 2, 1) := by decide +kernel
theorem dX12_taken_64 : decode cX12_taken 64 = .ok (.invokestatic 120, 3) := by decide +kernel
theorem dX12_taken_67 : decode cX12_taken 67 = .ok (.ifCond .eq 7, 3) := by decide +kernel
theorem dX12_taken_70 : decode cX12_taken 70 = .ok (.iconst 1, 1) := by decide +kernel
theorem dX12_taken_71 : decode cX12_taken 71 = .ok (.goto 17, 3) := by decide +kernel
theorem dX12_taken_74 : decode cX12_taken 74 = .ok (.iconst 0, 1) := by decide +kernel
theorem dX12_taken_75 : decode cX12_taken 75 = .ok (.goto 13, 3) := by decide +kernel
theorem dX12_taken_78 : decode cX12_taken 78 = .ok (.iload_n 3, 1) := by decide +kernel
theorem dX12_taken_79 : decode cX12_taken 79 = .ok (.iload_n 2, 1) := by decide +kernel
theorem dX12_taken_80 : decode cX12_taken 80 = .ok (.if_icmp .ne 7, 3) := by decide +kernel
theorem dX12_taken_83 : decode cX12_taken 83 = .ok (.iconst 1, 1) := by decide +kernel
theorem dX12_taken_84 : decode cX12_taken 84 = .ok (.goto 4, 3) := by decide +kernel
theorem dX12_taken_87 : decode cX12_taken 87 = .ok (.iconst 0, 1) := by decide +kernel
theorem dX12_taken_88 : decode cX12_taken 88 = .ok (.istore 4, 2) := by decide +kernel
theorem dX12_taken_90 : decode cX12_taken 90 = .ok (.iload 4, 2) := by decide +kernel
theorem dX12_taken_92 : decode cX12_taken 92 = .ok (.ifCond .eq 12, 3) := by decide +kernel
theorem dX12_taken_95 : decode cX12_taken 95 = .ok (.aload_n 0, 1) := by decide +kernel
theorem dX12_taken_96 : decode cX12_taken 96 = .ok (.getfield 65, 3) := by decide +kernel
theorem dX12_taken_99 : decode cX12_taken 99 = .ok (.iload_n 1, 1) := by decide +kernel
theorem dX12_taken_100 : decode cX12_taken 100 = .ok (.iaload, 1) := by decide +kernel
theorem dX12_taken_101 : decode cX12_taken 101 = .ok (.goto 5, 3) := by decide +kernel
theorem dX12_taken_104 : decode cX12_taken 104 = .ok (.bipush (-13), 2) := by decide +kernel
theorem dX12_taken_106 : decode cX12_taken 106 = .ok (.ireturn, 1) := by decide +kernel
theorem dX12_teethAll_0 : decode cX12_teethAll 0 = .ok (.iconst 0, 1) := by decide +kernel
theorem dX12_teethAll_1 : decode cX12_teethAll 1 = .ok (.istore_n 1, 1) := by decide +kernel
theorem dX12_teethAll_2 : decode cX12_teethAll 2 = .ok (.iconst 0, 1) := by decide +kernel
theorem dX12_teethAll_3 : decode cX12_teethAll 3 = .ok (.istore_n 2, 1) := by decide +kernel
theorem dX12_teethAll_4 : decode cX12_teethAll 4 = .ok (.iload_n 2, 1) := by decide +kernel
theorem dX12_teethAll_5 : decode cX12_teethAll 5 = .ok (.aload_n 0, 1) := by decide +kernel
theorem dX12_teethAll_6 : decode cX12_teethAll 6 = .ok (.getfield 9, 3) := by decide +kernel
theorem dX12_teethAll_9 : decode cX12_teethAll 9 = .ok (.iconst 4, 1) := by decide +kernel
theorem dX12_teethAll_10 : decode cX12_teethAll 10 = .ok (.iaload, 1) := by decide +kernel
theorem dX12_teethAll_11 : decode cX12_teethAll 11 = .ok (.if_icmp .ge 18, 3) := by decide +kernel
theorem dX12_teethAll_14 : decode cX12_teethAll 14 = .ok (.iload_n 1, 1) := by decide +kernel
theorem dX12_teethAll_15 : decode cX12_teethAll 15 = .ok (.aload_n 0, 1) := by decide +kernel
theorem dX12_teethAll_16 : decode cX12_teethAll 16 = .ok (.iload_n 2, 1) := by decide +kernel
theorem dX12_teethAll_17 : decode cX12_teethAll 17 = .ok (.iconst 1, 1) := by decide +kernel
theorem dX12_teethAll_18 : decode cX12_teethAll 18 = .ok (.invokevirtual 79, 3) := by decide +kernel
theorem dX12_teethAll_21 : decode cX12_teethAll 21 = .ok (.iadd, 1) := by decide +kernel
theorem dX12_teethAll_22 : decode cX12_teethAll 22 = .ok (.istore_n 1, 1) := by decide +kernel
theorem dX12_teethAll_23 : decode cX12_teethAll 23 = .ok (.iinc 2 1, 3) := by decide +kernel
theorem dX12_teethAll_26 : decode cX12_teethAll 26 = .ok (.goto (-22), 3) := by decide +kernel
theorem dX12_teethAll_29 : decode cX12_teethAll 29 = .ok (.iload_n 1, 1) := by decide +kernel
theorem dX12_teethAll_30 : decode cX12_teethAll 30 = .ok (.ireturn, 1) := by decide +kernel
theorem dX12_tellsLone_0 : decode cX12_tellsLone 0 = .ok (.iload_n 3, 1) := by decide +kernel
theorem dX12_tellsLone_1 : decode cX12_tellsLone 1 = .ok (.istore 4, 2) := by decide +kernel
theorem dX12_tellsLone_3 : decode cX12_tellsLone 3 = .ok (.iconst 0, 1) := by decide +kernel
theorem dX12_tellsLone_4 : decode cX12_tellsLone 4 = .ok (.istore 5, 2) := by decide +kernel
theorem dX12_tellsLone_6 : decode cX12_tellsLone 6 = .ok (.iload 5, 2) := by decide +kernel
theorem dX12_tellsLone_8 : decode cX12_tellsLone 8 = .ok (.bipush 16, 2) := by decide +kernel
theorem dX12_tellsLone_10 : decode cX12_tellsLone 10 = .ok (.if_icmp .ge 87, 3) := by decide +kernel
theorem dX12_tellsLone_13 : decode cX12_tellsLone 13 = .ok (.aload_n 0, 1) := by decide +kernel
theorem dX12_tellsLone_14 : decode cX12_tellsLone 14 = .ok (.getfield 44, 3) := by decide +kernel
theorem dX12_tellsLone_17 : decode cX12_tellsLone 17 = .ok (.iload 5, 2) := by decide +kernel
theorem dX12_tellsLone_19 : decode cX12_tellsLone 19 = .ok (.iload 4, 2) := by decide +kernel
theorem dX12_tellsLone_21 : decode cX12_tellsLone 21 = .ok (.iastore, 1) := by decide +kernel
theorem dX12_tellsLone_22 : decode cX12_tellsLone 22 = .ok (.aload_n 0, 1) := by decide +kernel
theorem dX12_tellsLone_23 : decode cX12_tellsLone 23 = .ok (.getfield 47, 3) := by decide +kernel
theorem dX12_tellsLone_26 : decode cX12_tellsLone 26 = .ok (.iload 5, 2) := by decide +kernel
theorem dX12_tellsLone_28 : decode cX12_tellsLone 28 = .ok (.iload_n 1, 1) := by decide +kernel
theorem dX12_tellsLone_29 : decode cX12_tellsLone 29 = .ok (.iload 4, 2) := by decide +kernel
theorem dX12_tellsLone_31 : decode cX12_tellsLone 31 = .ok (.iload_n 2, 1) := by decide +kernel
theorem dX12_tellsLone_32 : decode cX12_tellsLone 32 = .ok (.iconst 0, 1) := by decide +kernel
theorem dX12_tellsLone_33 : decode cX12_tellsLone 33 = .ok (.invokestatic 91, 3) := by decide +kernel
theorem dX12_tellsLone_36 : decode cX12_tellsLone 36 = .ok (.iastore, 1) := by decide +kernel
theorem dX12_tellsLone_37 : decode cX12_tellsLone 37 = .ok (.aload_n 0, 1) := by decide +kernel
theorem dX12_tellsLone_38 : decode cX12_tellsLone 38 = .ok (.getfield 9, 3) := by decide +kernel
theorem dX12_tellsLone_41 : decode cX12_tellsLone 41 = .ok (.bipush 7, 2) := by decide +kernel
theorem dX12_tellsLone_43 : decode cX12_tellsLone 43 = .ok (.iload 5, 2) := by decide +kernel
theorem dX12_tellsLone_45 : decode cX12_tellsLone 45 = .ok (.iadd, 1) := by decide +kernel
theorem dX12_tellsLone_46 : decode cX12_tellsLone 46 = .ok (.iaload, 1) := by decide +kernel
theorem dX12_tellsLone_47 : decode cX12_tellsLone 47 = .ok (.istore 6, 2) := by decide +kernel
theorem dX12_tellsLone_49 : decode cX12_tellsLone 49 = .ok (.iload_n 1, 1) := by decide +kernel
theorem dX12_tellsLone_50 : decode cX12_tellsLone 50 = .ok (.iload 6, 2) := by decide +kernel
theorem dX12_tellsLone_52 : decode cX12_tellsLone 52 = .ok (.iconst 4, 1) := by decide +kernel
theorem dX12_tellsLone_53 : decode cX12_tellsLone 53 = .ok (.idiv, 1) := by decide +kernel
theorem dX12_tellsLone_54 : decode cX12_tellsLone 54 = .ok (.iload 6, 2) := by decide +kernel
theorem dX12_tellsLone_56 : decode cX12_tellsLone 56 = .ok (.iconst 4, 1) := by decide +kernel
theorem dX12_tellsLone_57 : decode cX12_tellsLone 57 = .ok (.irem, 1) := by decide +kernel
theorem dX12_tellsLone_58 : decode cX12_tellsLone 58 = .ok (.iload 5, 2) := by decide +kernel
theorem dX12_tellsLone_60 : decode cX12_tellsLone 60 = .ok (.invokestatic 87, 3) := by decide +kernel
theorem dX12_tellsLone_63 : decode cX12_tellsLone 63 = .ok (.iload_n 2, 1) := by decide +kernel
theorem dX12_tellsLone_64 : decode cX12_tellsLone 64 = .ok (.iconst 3, 1) := by decide +kernel
theorem dX12_tellsLone_65 : decode cX12_tellsLone 65 = .ok (.idiv, 1) := by decide +kernel
theorem dX12_tellsLone_66 : decode cX12_tellsLone 66 = .ok (.isub, 1) := by decide +kernel
theorem dX12_tellsLone_67 : decode cX12_tellsLone 67 = .ok (.istore 7, 2) := by decide +kernel
theorem dX12_tellsLone_69 : decode cX12_tellsLone 69 = .ok (.iload 7, 2) := by decide +kernel
theorem dX12_tellsLone_71 : decode cX12_tellsLone 71 = .ok (.ifCond .le 16, 3) := by decide +kernel
theorem dX12_tellsLone_74 : decode cX12_tellsLone 74 = .ok (.iload 4, 2) := by decide +kernel
theorem dX12_tellsLone_76 : decode cX12_tellsLone 76 = .ok (.iload 7, 2) := by decide +kernel
theorem dX12_tellsLone_78 : decode cX12_tellsLone 78 = .ok (.isub, 1) := by decide +kernel
theorem dX12_tellsLone_79 : decode cX12_tellsLone 79 = .ok (.bipush 99, 2) := by decide +kernel
theorem dX12_tellsLone_81 : decode cX12_tellsLone 81 = .ok (.invokestatic 202, 3) := by decide +kernel
theorem dX12_tellsLone_84 : decode cX12_tellsLone 84 = .ok (.goto 5, 3) := by decide +kernel
theorem dX12_tellsLone_87 : decode cX12_tellsLone 87 = .ok (.iload 4, 2) := by decide +kernel
theorem dX12_tellsLone_89 : decode cX12_tellsLone 89 = .ok (.istore 4, 2) := by decide +kernel
theorem dX12_tellsLone_91 : decode cX12_tellsLone 91 = .ok (.iinc 5 1, 3) := by decide +kernel
theorem dX12_tellsLone_94 : decode cX12_tellsLone 94 = .ok (.goto (-88), 3) := by decide +kernel
theorem dX12_tellsLone_97 : decode cX12_tellsLone 97 = .ok (.return_, 1) := by decide +kernel
theorem dX12_those_0 : decode cX12_those 0 = .ok (.iconst 0, 1) := by decide +kernel
theorem dX12_those_1 : decode cX12_those 1 = .ok (.istore_n 2, 1) := by decide +kernel
theorem dX12_those_2 : decode cX12_those 2 = .ok (.iconst 0, 1) := by decide +kernel
theorem dX12_those_3 : decode cX12_those 3 = .ok (.istore_n 3, 1) := by decide +kernel
theorem dX12_those_4 : decode cX12_those 4 = .ok (.iload_n 3, 1) := by decide +kernel
theorem dX12_those_5 : decode cX12_those 5 = .ok (.aload_n 0, 1) := by decide +kernel
theorem dX12_those_6 : decode cX12_those 6 = .ok (.getfield 9, 3) := by decide +kernel
theorem dX12_those_9 : decode cX12_those 9 = .ok (.iconst 4, 1) := by decide +kernel
theorem dX12_those_10 : decode cX12_those 10 = .ok (.iaload, 1) := by decide +kernel
theorem dX12_those_11 : decode cX12_those 11 = .ok (.if_icmp .ge 28, 3) := by decide +kernel
theorem dX12_those_14 : decode cX12_those 14 = .ok (.iload_n 2, 1) := by decide +kernel
theorem dX12_those_15 : decode cX12_those 15 = .ok (.aload_n 0, 1) := by decide +kernel
theorem dX12_those_16 : decode cX12_those 16 = .ok (.iload_n 3, 1) := by decide +kernel
theorem dX12_those_17 : decode cX12_those 17 = .ok (.iload_n 1, 1) := by decide +kernel
theorem dX12_those_18 : decode cX12_those 18 = .ok (.invokevirtual 79, 3) := by decide +kernel
theorem dX12_those_21 : decode cX12_those 21 = .ok (.ifCond .le 9, 3) := by decide +kernel
theorem dX12_those_24 : decode cX12_those 24 = .ok (.iconst 1, 1) := by decide +kernel
theorem dX12_those_25 : decode cX12_those 25 = .ok (.iload_n 3, 1) := by decide +kernel
theorem dX12_those_26 : decode cX12_those 26 = .ok (.ishl, 1) := by decide +kernel
theorem dX12_those_27 : decode cX12_those 27 = .ok (.goto 4, 3) := by decide +kernel
theorem dX12_those_30 : decode cX12_those 30 = .ok (.iconst 0, 1) := by decide +kernel
theorem dX12_those_31 : decode cX12_those 31 = .ok (.ior, 1) := by decide +kernel
theorem dX12_those_32 : decode cX12_those 32 = .ok (.istore_n 2, 1) := by decide +kernel
theorem dX12_those_33 : decode cX12_those 33 = .ok (.iinc 3 1, 3) := by decide +kernel
theorem dX12_those_36 : decode cX12_those 36 = .ok (.goto (-32), 3) := by decide +kernel
theorem dX12_those_39 : decode cX12_those 39 = .ok (.iload_n 2, 1) := by decide +kernel
theorem dX12_those_40 : decode cX12_those 40 = .ok (.ireturn, 1) := by decide +kernel
theorem dX12_times_0 : decode cX12_times 0 = .ok (.iload_n 1, 1) := by decide +kernel
theorem dX12_times_1 : decode cX12_times 1 = .ok (.iconst 1, 1) := by decide +kernel
theorem dX12_times_2 : decode cX12_times 2 = .ok (.bipush 40, 2) := by decide +kernel
theorem dX12_times_4 : decode cX12_times 4 = .ok (.invokestatic 71, 3) := by decide +kernel
theorem dX12_times_7 : decode cX12_times 7 = .ok (.ifCond .eq 14, 3) := by decide +kernel
theorem dX12_times_10 : decode cX12_times 10 = .ok (.iload_n 2, 1) := by decide +kernel
theorem dX12_times_11 : decode cX12_times 11 = .ok (.iconst 0, 1) := by decide +kernel
theorem dX12_times_12 : decode cX12_times 12 = .ok (.sipush 999, 3) := by decide +kernel
theorem dX12_times_15 : decode cX12_times 15 = .ok (.invokestatic 71, 3) := by decide +kernel
theorem dX12_times_18 : decode cX12_times 18 = .ok (.ifCond .ne 5, 3) := by decide +kernel
theorem dX12_times_21 : decode cX12_times 21 = .ok (.iconst (-1), 1) := by decide +kernel
theorem dX12_times_22 : decode cX12_times 22 = .ok (.ireturn, 1) := by decide +kernel
theorem dX12_times_23 : decode cX12_times 23 = .ok (.aload_n 0, 1) := by decide +kernel
theorem dX12_times_24 : decode cX12_times 24 = .ok (.invokevirtual 241, 3) := by decide +kernel
theorem dX12_times_27 : decode cX12_times 27 = .ok (.iconst 0, 1) := by decide +kernel
theorem dX12_times_28 : decode cX12_times 28 = .ok (.istore_n 3, 1) := by decide +kernel
theorem dX12_times_29 : decode cX12_times 29 = .ok (.iconst 0, 1) := by decide +kernel
theorem dX12_times_30 : decode cX12_times 30 = .ok (.istore 4, 2) := by decide +kernel
theorem dX12_times_32 : decode cX12_times 32 = .ok (.iload 4, 2) := by decide +kernel
theorem dX12_times_34 : decode cX12_times 34 = .ok (.iload_n 1, 1) := by decide +kernel
theorem dX12_times_35 : decode cX12_times 35 = .ok (.if_icmp .ge 65, 3) := by decide +kernel
theorem dX12_times_38 : decode cX12_times 38 = .ok (.iconst 0, 1) := by decide +kernel
theorem dX12_times_39 : decode cX12_times 39 = .ok (.istore 5, 2) := by decide +kernel
theorem dX12_times_41 : decode cX12_times 41 = .ok (.aload_n 0, 1) := by decide +kernel
theorem dX12_times_42 : decode cX12_times 42 = .ok (.invokevirtual 229, 3) := by decide +kernel
theorem dX12_times_45 : decode cX12_times 45 = .ok (.ifCond .ne 15, 3) := by decide +kernel
theorem dX12_times_48 : decode cX12_times 48 = .ok (.iload 5, 2) := by decide +kernel
theorem dX12_times_50 : decode cX12_times 50 = .ok (.aload_n 0, 1) := by decide +kernel
theorem dX12_times_51 : decode cX12_times 51 = .ok (.invokevirtual 314, 3) := by decide +kernel
theorem dX12_times_54 : decode cX12_times 54 = .ok (.iadd, 1) := by decide +kernel
theorem dX12_times_55 : decode cX12_times 55 = .ok (.istore 5, 2) := by decide +kernel
theorem dX12_times_57 : decode cX12_times 57 = .ok (.goto (-16), 3) := by decide +kernel
theorem dX12_times_60 : decode cX12_times 60 = .ok (.iload_n 3, 1) := by decide +kernel
theorem dX12_times_61 : decode cX12_times 61 = .ok (.iload 5, 2) := by decide +kernel
theorem dX12_times_63 : decode cX12_times 63 = .ok (.iload_n 2, 1) := by decide +kernel
theorem dX12_times_64 : decode cX12_times 64 = .ok (.if_icmp .lt 7, 3) := by decide +kernel
theorem dX12_times_67 : decode cX12_times 67 = .ok (.iconst 1, 1) := by decide +kernel
theorem dX12_times_68 : decode cX12_times 68 = .ok (.goto 4, 3) := by decide +kernel
theorem dX12_times_71 : decode cX12_times 71 = .ok (.iconst 0, 1) := by decide +kernel
theorem dX12_times_72 : decode cX12_times 72 = .ok (.iadd, 1) := by decide +kernel
theorem dX12_times_73 : decode cX12_times 73 = .ok (.istore_n 3, 1) := by decide +kernel
theorem dX12_times_74 : decode cX12_times 74 = .ok (.aload_n 0, 1) := by decide +kernel
theorem dX12_times_75 : decode cX12_times 75 = .ok (.getfield 9, 3) := by decide +kernel
theorem dX12_times_78 : decode cX12_times 78 = .ok (.iconst 3, 1) := by decide +kernel
theorem dX12_times_79 : decode cX12_times 79 = .ok (.iaload, 1) := by decide +kernel
theorem dX12_times_80 : decode cX12_times 80 = .ok (.istore 6, 2) := by decide +kernel
theorem dX12_times_82 : decode cX12_times 82 = .ok (.aload_n 0, 1) := by decide +kernel
theorem dX12_times_83 : decode cX12_times 83 = .ok (.invokevirtual 247, 3) := by decide +kernel
theorem dX12_times_86 : decode cX12_times 86 = .ok (.aload_n 0, 1) := by decide +kernel
theorem dX12_times_87 : decode cX12_times 87 = .ok (.getfield 9, 3) := by decide +kernel
theorem dX12_times_90 : decode cX12_times 90 = .ok (.iconst 3, 1) := by decide +kernel
theorem dX12_times_91 : decode cX12_times 91 = .ok (.iload 6, 2) := by decide +kernel
theorem dX12_times_93 : decode cX12_times 93 = .ok (.iastore, 1) := by decide +kernel
theorem dX12_times_94 : decode cX12_times 94 = .ok (.iinc 4 1, 3) := by decide +kernel
theorem dX12_times_97 : decode cX12_times 97 = .ok (.goto (-65), 3) := by decide +kernel
theorem dX12_times_100 : decode cX12_times 100 = .ok (.aload_n 0, 1) := by decide +kernel
theorem dX12_times_101 : decode cX12_times 101 = .ok (.invokevirtual 247, 3) := by decide +kernel
theorem dX12_times_104 : decode cX12_times 104 = .ok (.iload_n 3, 1) := by decide +kernel
theorem dX12_times_105 : decode cX12_times 105 = .ok (.ireturn, 1) := by decide +kernel
theorem dX12_trace_0 : decode cX12_trace 0 = .ok (.iload_n 1, 1) := by decide +kernel
theorem dX12_trace_1 : decode cX12_trace 1 = .ok (.iconst 0, 1) := by decide +kernel
theorem dX12_trace_2 : decode cX12_trace 2 = .ok (.aload_n 0, 1) := by decide +kernel
theorem dX12_trace_3 : decode cX12_trace 3 = .ok (.getfield 341, 3) := by decide +kernel
theorem dX12_trace_6 : decode cX12_trace 6 = .ok (.iconst 1, 1) := by decide +kernel
theorem dX12_trace_7 : decode cX12_trace 7 = .ok (.isub, 1) := by decide +kernel
theorem dX12_trace_8 : decode cX12_trace 8 = .ok (.invokestatic 71, 3) := by decide +kernel
theorem dX12_trace_11 : decode cX12_trace 11 = .ok (.ifCond .eq 12, 3) := by decide +kernel
theorem dX12_trace_14 : decode cX12_trace 14 = .ok (.aload_n 0, 1) := by decide +kernel
theorem dX12_trace_15 : decode cX12_trace 15 = .ok (.getfield 68, 3) := by decide +kernel
theorem dX12_trace_18 : decode cX12_trace 18 = .ok (.iload_n 1, 1) := by decide +kernel
theorem dX12_trace_19 : decode cX12_trace 19 = .ok (.iaload, 1) := by decide +kernel
theorem dX12_trace_20 : decode cX12_trace 20 = .ok (.goto 5, 3) := by decide +kernel
theorem dX12_trace_23 : decode cX12_trace 23 = .ok (.bipush (-3), 2) := by decide +kernel
theorem dX12_trace_25 : decode cX12_trace 25 = .ok (.ireturn, 1) := by decide +kernel
theorem dX12_triesAll_0 : decode cX12_triesAll 0 = .ok (.aload_n 0, 1) := by decide +kernel
theorem dX12_triesAll_1 : decode cX12_triesAll 1 = .ok (.iconst (-1), 1) := by decide +kernel
theorem dX12_triesAll_2 : decode cX12_triesAll 2 = .ok (.putfield 259, 3) := by decide +kernel
theorem dX12_triesAll_5 : decode cX12_triesAll 5 = .ok (.aload_n 0, 1) := by decide +kernel
theorem dX12_triesAll_6 : decode cX12_triesAll 6 = .ok (.iconst 0, 1) := by decide +kernel
theorem dX12_triesAll_7 : decode cX12_triesAll 7 = .ok (.putfield 262, 3) := by decide +kernel
theorem dX12_triesAll_10 : decode cX12_triesAll 10 = .ok (.aload_n 0, 1) := by decide +kernel
theorem dX12_triesAll_11 : decode cX12_triesAll 11 = .ok (.iconst 5, 1) := by decide +kernel
theorem dX12_triesAll_12 : decode cX12_triesAll 12 = .ok (.putfield 265, 3) := by decide +kernel
theorem dX12_triesAll_15 : decode cX12_triesAll 15 = .ok (.aload_n 0, 1) := by decide +kernel
theorem dX12_triesAll_16 : decode cX12_triesAll 16 = .ok (.iconst 0, 1) := by decide +kernel
theorem dX12_triesAll_17 : decode cX12_triesAll 17 = .ok (.putfield 268, 3) := by decide +kernel
theorem dX12_triesAll_20 : decode cX12_triesAll 20 = .ok (.aload_n 0, 1) := by decide +kernel
theorem dX12_triesAll_21 : decode cX12_triesAll 21 = .ok (.iconst 0, 1) := by decide +kernel
theorem dX12_triesAll_22 : decode cX12_triesAll 22 = .ok (.aload_n 0, 1) := by decide +kernel
theorem dX12_triesAll_23 : decode cX12_triesAll 23 = .ok (.iload_n 1, 1) := by decide +kernel
theorem dX12_triesAll_24 : decode cX12_triesAll 24 = .ok (.invokevirtual 285, 3) := by decide +kernel
theorem dX12_triesAll_27 : decode cX12_triesAll 27 = .ok (.iconst 0, 1) := by decide +kernel
theorem dX12_triesAll_28 : decode cX12_triesAll 28 = .ok (.iconst 0, 1) := by decide +kernel
theorem dX12_triesAll_29 : decode cX12_triesAll 29 = .ok (.iload_n 2, 1) := by decide +kernel
theorem dX12_triesAll_30 : decode cX12_triesAll 30 = .ok (.invokevirtual 278, 3) := by decide +kernel
theorem dX12_triesAll_33 : decode cX12_triesAll 33 = .ok (.return_, 1) := by decide +kernel
theorem dX12_ways_0 : decode cX12_ways 0 = .ok (.iload_n 1, 1) := by decide +kernel
theorem dX12_ways_1 : decode cX12_ways 1 = .ok (.invokestatic 288, 3) := by decide +kernel
theorem dX12_ways_4 : decode cX12_ways 4 = .ok (.ifCond .ne 5, 3) := by decide +kernel
theorem dX12_ways_7 : decode cX12_ways 7 = .ok (.iconst (-1), 1) := by decide +kernel
theorem dX12_ways_8 : decode cX12_ways 8 = .ok (.ireturn, 1) := by decide +kernel
theorem dX12_ways_9 : decode cX12_ways 9 = .ok (.aload_n 0, 1) := by decide +kernel
theorem dX12_ways_10 : decode cX12_ways 10 = .ok (.iload_n 1, 1) := by decide +kernel
theorem dX12_ways_11 : decode cX12_ways 11 = .ok (.iconst 0, 1) := by decide +kernel
theorem dX12_ways_12 : decode cX12_ways 12 = .ok (.invokevirtual 291, 3) := by decide +kernel
theorem dX12_ways_15 : decode cX12_ways 15 = .ok (.aload_n 0, 1) := by decide +kernel
theorem dX12_ways_16 : decode cX12_ways 16 = .ok (.getfield 262, 3) := by decide +kernel
theorem dX12_ways_19 : decode cX12_ways 19 = .ok (.ireturn, 1) := by decide +kernel
theorem dX12_when_0 : decode cX12_when 0 = .ok (.aload_n 0, 1) := by decide +kernel
theorem dX12_when_1 : decode cX12_when 1 = .ok (.iload_n 1, 1) := by decide +kernel
theorem dX12_when_2 : decode cX12_when 2 = .ok (.invokevirtual 223, 3) := by decide +kernel
theorem dX12_when_5 : decode cX12_when 5 = .ok (.ifCond .ne 5, 3) := by decide +kernel
theorem dX12_when_8 : decode cX12_when 8 = .ok (.iconst (-1), 1) := by decide +kernel
theorem dX12_when_9 : decode cX12_when 9 = .ok (.ireturn, 1) := by decide +kernel
theorem dX12_when_10 : decode cX12_when 10 = .ok (.aload_n 0, 1) := by decide +kernel
theorem dX12_when_11 : decode cX12_when 11 = .ok (.invokevirtual 241, 3) := by decide +kernel
theorem dX12_when_14 : decode cX12_when 14 = .ok (.bipush (-3), 2) := by decide +kernel
theorem dX12_when_16 : decode cX12_when 16 = .ok (.istore_n 2, 1) := by decide +kernel
theorem dX12_when_17 : decode cX12_when 17 = .ok (.aload_n 0, 1) := by decide +kernel
theorem dX12_when_18 : decode cX12_when 18 = .ok (.iload_n 1, 1) := by decide +kernel
theorem dX12_when_19 : decode cX12_when 19 = .ok (.iconst 4, 1) := by decide +kernel
theorem dX12_when_20 : decode cX12_when 20 = .ok (.invokevirtual 79, 3) := by decide +kernel
theorem dX12_when_23 : decode cX12_when 23 = .ok (.ifCond .ne 7, 3) := by decide +kernel
theorem dX12_when_26 : decode cX12_when 26 = .ok (.iconst 1, 1) := by decide +kernel
theorem dX12_when_27 : decode cX12_when 27 = .ok (.goto 4, 3) := by decide +kernel
theorem dX12_when_30 : decode cX12_when 30 = .ok (.iconst 0, 1) := by decide +kernel
theorem dX12_when_31 : decode cX12_when 31 = .ok (.istore_n 3, 1) := by decide +kernel
theorem dX12_when_32 : decode cX12_when 32 = .ok (.iload_n 3, 1) := by decide +kernel
theorem dX12_when_33 : decode cX12_when 33 = .ok (.ifCond .eq 58, 3) := by decide +kernel
theorem dX12_when_36 : decode cX12_when 36 = .ok (.aload_n 0, 1) := by decide +kernel
theorem dX12_when_37 : decode cX12_when 37 = .ok (.invokevirtual 229, 3) := by decide +kernel
theorem dX12_when_40 : decode cX12_when 40 = .ok (.ifCond .ne 51, 3) := by decide +kernel
theorem dX12_when_43 : decode cX12_when 43 = .ok (.aload_n 0, 1) := by decide +kernel
theorem dX12_when_44 : decode cX12_when 44 = .ok (.iconst (-1), 1) := by decide +kernel
theorem dX12_when_45 : decode cX12_when 45 = .ok (.invokevirtual 238, 3) := by decide +kernel
theorem dX12_when_48 : decode cX12_when 48 = .ok (.istore 4, 2) := by decide +kernel
theorem dX12_when_50 : decode cX12_when 50 = .ok (.aload_n 0, 1) := by decide +kernel
theorem dX12_when_51 : decode cX12_when 51 = .ok (.iload_n 1, 1) := by decide +kernel
theorem dX12_when_52 : decode cX12_when 52 = .ok (.iconst 4, 1) := by decide +kernel
theorem dX12_when_53 : decode cX12_when 53 = .ok (.invokevirtual 79, 3) := by decide +kernel
theorem dX12_when_56 : decode cX12_when 56 = .ok (.ifCond .ne 7, 3) := by decide +kernel
theorem dX12_when_59 : decode cX12_when 59 = .ok (.iconst 1, 1) := by decide +kernel
theorem dX12_when_60 : decode cX12_when 60 = .ok (.goto 4, 3) := by decide +kernel
theorem dX12_when_63 : decode cX12_when 63 = .ok (.iconst 0, 1) := by decide +kernel
theorem dX12_when_64 : decode cX12_when 64 = .ok (.istore_n 3, 1) := by decide +kernel
theorem dX12_when_65 : decode cX12_when 65 = .ok (.iload_n 3, 1) := by decide +kernel
theorem dX12_when_66 : decode cX12_when 66 = .ok (.ifCond .ne 8, 3) := by decide +kernel
theorem dX12_when_69 : decode cX12_when 69 = .ok (.iload 4, 2) := by decide +kernel
theorem dX12_when_71 : decode cX12_when 71 = .ok (.ifCond .ge 8, 3) := by decide +kernel
theorem dX12_when_74 : decode cX12_when 74 = .ok (.bipush (-3), 2) := by decide +kernel
theorem dX12_when_76 : decode cX12_when 76 = .ok (.goto 11, 3) := by decide +kernel
theorem dX12_when_79 : decode cX12_when 79 = .ok (.aload_n 0, 1) := by decide +kernel
theorem dX12_when_80 : decode cX12_when 80 = .ok (.getfield 9, 3) := by decide +kernel
theorem dX12_when_83 : decode cX12_when 83 = .ok (.iconst 0, 1) := by decide +kernel
theorem dX12_when_84 : decode cX12_when 84 = .ok (.iaload, 1) := by decide +kernel
theorem dX12_when_85 : decode cX12_when 85 = .ok (.iconst 1, 1) := by decide +kernel
theorem dX12_when_86 : decode cX12_when 86 = .ok (.isub, 1) := by decide +kernel
theorem dX12_when_87 : decode cX12_when 87 = .ok (.istore_n 2, 1) := by decide +kernel
theorem dX12_when_88 : decode cX12_when 88 = .ok (.goto (-56), 3) := by decide +kernel
theorem dX12_when_91 : decode cX12_when 91 = .ok (.aload_n 0, 1) := by decide +kernel
theorem dX12_when_92 : decode cX12_when 92 = .ok (.invokevirtual 247, 3) := by decide +kernel
theorem dX12_when_95 : decode cX12_when 95 = .ok (.iload_n 2, 1) := by decide +kernel
theorem dX12_when_96 : decode cX12_when 96 = .ok (.ireturn, 1) := by decide +kernel
theorem dX12_wouldBe_0 : decode cX12_wouldBe 0 = .ok (.iload_n 1, 1) := by decide +kernel
theorem dX12_wouldBe_1 : decode cX12_wouldBe 1 = .ok (.invokestatic 326, 3) := by decide +kernel
theorem dX12_wouldBe_4 : decode cX12_wouldBe 4 = .ok (.ifCond .eq 13, 3) := by decide +kernel
theorem dX12_wouldBe_7 : decode cX12_wouldBe 7 = .ok (.iload_n 3, 1) := by decide +kernel
theorem dX12_wouldBe_8 : decode cX12_wouldBe 8 = .ok (.iconst 0, 1) := by decide +kernel
theorem dX12_wouldBe_9 : decode cX12_wouldBe 9 = .ok (.bipush 20, 2) := by decide +kernel
theorem dX12_wouldBe_11 : decode cX12_wouldBe 11 = .ok (.invokestatic 71, 3) := by decide +kernel
theorem dX12_wouldBe_14 : decode cX12_wouldBe 14 = .ok (.ifCond .ne 5, 3) := by decide +kernel
theorem dX12_wouldBe_17 : decode cX12_wouldBe 17 = .ok (.iconst (-1), 1) := by decide +kernel
theorem dX12_wouldBe_18 : decode cX12_wouldBe 18 = .ok (.ireturn, 1) := by decide +kernel
theorem dX12_wouldBe_19 : decode cX12_wouldBe 19 = .ok (.aload_n 0, 1) := by decide +kernel
theorem dX12_wouldBe_20 : decode cX12_wouldBe 20 = .ok (.iload_n 1, 1) := by decide +kernel
theorem dX12_wouldBe_21 : decode cX12_wouldBe 21 = .ok (.iconst 0, 1) := by decide +kernel
theorem dX12_wouldBe_22 : decode cX12_wouldBe 22 = .ok (.invokevirtual 332, 3) := by decide +kernel
theorem dX12_wouldBe_25 : decode cX12_wouldBe 25 = .ok (.istore 4, 2) := by decide +kernel
theorem dX12_wouldBe_27 : decode cX12_wouldBe 27 = .ok (.iconst 0, 1) := by decide +kernel
theorem dX12_wouldBe_28 : decode cX12_wouldBe 28 = .ok (.istore 5, 2) := by decide +kernel
theorem dX12_wouldBe_30 : decode cX12_wouldBe 30 = .ok (.aload_n 0, 1) := by decide +kernel
theorem dX12_wouldBe_31 : decode cX12_wouldBe 31 = .ok (.invokevirtual 241, 3) := by decide +kernel
theorem dX12_wouldBe_34 : decode cX12_wouldBe 34 = .ok (.iconst 0, 1) := by decide +kernel
theorem dX12_wouldBe_35 : decode cX12_wouldBe 35 = .ok (.istore 6, 2) := by decide +kernel
theorem dX12_wouldBe_37 : decode cX12_wouldBe 37 = .ok (.iload 6, 2) := by decide +kernel
theorem dX12_wouldBe_39 : decode cX12_wouldBe 39 = .ok (.iload_n 3, 1) := by decide +kernel
theorem dX12_wouldBe_40 : decode cX12_wouldBe 40 = .ok (.if_icmp .ge 105, 3) := by decide +kernel
theorem dX12_wouldBe_43 : decode cX12_wouldBe 43 = .ok (.iload 4, 2) := by decide +kernel
theorem dX12_wouldBe_45 : decode cX12_wouldBe 45 = .ok (.ifCond .ne 100, 3) := by decide +kernel
theorem dX12_wouldBe_48 : decode cX12_wouldBe 48 = .ok (.aload_n 0, 1) := by decide +kernel
theorem dX12_wouldBe_49 : decode cX12_wouldBe 49 = .ok (.iload_n 1, 1) := by decide +kernel
theorem dX12_wouldBe_50 : decode cX12_wouldBe 50 = .ok (.iload_n 2, 1) := by decide +kernel
theorem dX12_wouldBe_51 : decode cX12_wouldBe 51 = .ok (.iload 6, 2) := by decide +kernel
theorem dX12_wouldBe_53 : decode cX12_wouldBe 53 = .ok (.invokevirtual 335, 3) := by decide +kernel
theorem dX12_wouldBe_56 : decode cX12_wouldBe 56 = .ok (.ifCond .eq 20, 3) := by decide +kernel
theorem dX12_wouldBe_59 : decode cX12_wouldBe 59 = .ok (.aload_n 0, 1) := by decide +kernel
theorem dX12_wouldBe_60 : decode cX12_wouldBe 60 = .ok (.getfield 59, 3) := by decide +kernel
theorem dX12_wouldBe_63 : decode cX12_wouldBe 63 = .ok (.bipush 40, 2) := by decide +kernel
theorem dX12_wouldBe_65 : decode cX12_wouldBe 65 = .ok (.iload_n 1, 1) := by decide +kernel
theorem dX12_wouldBe_66 : decode cX12_wouldBe 66 = .ok (.imul, 1) := by decide +kernel
theorem dX12_wouldBe_67 : decode cX12_wouldBe 67 = .ok (.iload_n 2, 1) := by decide +kernel
theorem dX12_wouldBe_68 : decode cX12_wouldBe 68 = .ok (.iadd, 1) := by decide +kernel
theorem dX12_wouldBe_69 : decode cX12_wouldBe 69 = .ok (.iload 6, 2) := by decide +kernel
theorem dX12_wouldBe_71 : decode cX12_wouldBe 71 = .ok (.iadd, 1) := by decide +kernel
theorem dX12_wouldBe_72 : decode cX12_wouldBe 72 = .ok (.iaload, 1) := by decide +kernel
theorem dX12_wouldBe_73 : decode cX12_wouldBe 73 = .ok (.goto 4, 3) := by decide +kernel
theorem dX12_wouldBe_76 : decode cX12_wouldBe 76 = .ok (.iconst (-1), 1) := by decide +kernel
theorem dX12_wouldBe_77 : decode cX12_wouldBe 77 = .ok (.istore 7, 2) := by decide +kernel
theorem dX12_wouldBe_79 : decode cX12_wouldBe 79 = .ok (.aload_n 0, 1) := by decide +kernel
theorem dX12_wouldBe_80 : decode cX12_wouldBe 80 = .ok (.iload_n 1, 1) := by decide +kernel
theorem dX12_wouldBe_81 : decode cX12_wouldBe 81 = .ok (.iload_n 2, 1) := by decide +kernel
theorem dX12_wouldBe_82 : decode cX12_wouldBe 82 = .ok (.iload 6, 2) := by decide +kernel
theorem dX12_wouldBe_84 : decode cX12_wouldBe 84 = .ok (.invokevirtual 335, 3) := by decide +kernel
theorem dX12_wouldBe_87 : decode cX12_wouldBe 87 = .ok (.ifCond .ne 8, 3) := by decide +kernel
theorem dX12_wouldBe_90 : decode cX12_wouldBe 90 = .ok (.bipush (-12), 2) := by decide +kernel
theorem dX12_wouldBe_92 : decode cX12_wouldBe 92 = .ok (.goto 25, 3) := by decide +kernel
theorem dX12_wouldBe_95 : decode cX12_wouldBe 95 = .ok (.aload_n 0, 1) := by decide +kernel
theorem dX12_wouldBe_96 : decode cX12_wouldBe 96 = .ok (.iload 7, 2) := by decide +kernel
theorem dX12_wouldBe_98 : decode cX12_wouldBe 98 = .ok (.invokevirtual 323, 3) := by decide +kernel
theorem dX12_wouldBe_101 : decode cX12_wouldBe 101 = .ok (.ifCond .eq 10, 3) := by decide +kernel
theorem dX12_wouldBe_104 : decode cX12_wouldBe 104 = .ok (.aload_n 0, 1) := by decide +kernel
theorem dX12_wouldBe_105 : decode cX12_wouldBe 105 = .ok (.invokevirtual 229, 3) := by decide +kernel
theorem dX12_wouldBe_108 : decode cX12_wouldBe 108 = .ok (.ifCond .eq 8, 3) := by decide +kernel
theorem dX12_wouldBe_111 : decode cX12_wouldBe 111 = .ok (.bipush (-4), 2) := by decide +kernel
theorem dX12_wouldBe_113 : decode cX12_wouldBe 113 = .ok (.goto 4, 3) := by decide +kernel
theorem dX12_wouldBe_116 : decode cX12_wouldBe 116 = .ok (.iconst 0, 1) := by decide +kernel
theorem dX12_wouldBe_117 : decode cX12_wouldBe 117 = .ok (.istore 4, 2) := by decide +kernel
theorem dX12_wouldBe_119 : decode cX12_wouldBe 119 = .ok (.iload 5, 2) := by decide +kernel
theorem dX12_wouldBe_121 : decode cX12_wouldBe 121 = .ok (.iload 4, 2) := by decide +kernel
theorem dX12_wouldBe_123 : decode cX12_wouldBe 123 = .ok (.ifCond .ne 12, 3) := by decide +kernel
theorem dX12_wouldBe_126 : decode cX12_wouldBe 126 = .ok (.aload_n 0, 1) := by decide +kernel
theorem dX12_wouldBe_127 : decode cX12_wouldBe 127 = .ok (.iload 7, 2) := by decide +kernel
theorem dX12_wouldBe_129 : decode cX12_wouldBe 129 = .ok (.invokevirtual 238, 3) := by decide +kernel
theorem dX12_wouldBe_132 : decode cX12_wouldBe 132 = .ok (.goto 4, 3) := by decide +kernel
theorem dX12_wouldBe_135 : decode cX12_wouldBe 135 = .ok (.iconst 0, 1) := by decide +kernel
theorem dX12_wouldBe_136 : decode cX12_wouldBe 136 = .ok (.iadd, 1) := by decide +kernel
theorem dX12_wouldBe_137 : decode cX12_wouldBe 137 = .ok (.istore 5, 2) := by decide +kernel
theorem dX12_wouldBe_139 : decode cX12_wouldBe 139 = .ok (.iinc 6 1, 3) := by decide +kernel
theorem dX12_wouldBe_142 : decode cX12_wouldBe 142 = .ok (.goto (-105), 3) := by decide +kernel
theorem dX12_wouldBe_145 : decode cX12_wouldBe 145 = .ok (.aload_n 0, 1) := by decide +kernel
theorem dX12_wouldBe_146 : decode cX12_wouldBe 146 = .ok (.invokevirtual 247, 3) := by decide +kernel
theorem dX12_wouldBe_149 : decode cX12_wouldBe 149 = .ok (.iload 4, 2) := by decide +kernel
theorem dX12_wouldBe_151 : decode cX12_wouldBe 151 = .ok (.ifCond .eq 8, 3) := by decide +kernel
theorem dX12_wouldBe_154 : decode cX12_wouldBe 154 = .ok (.iload 4, 2) := by decide +kernel
theorem dX12_wouldBe_156 : decode cX12_wouldBe 156 = .ok (.goto 5, 3) := by decide +kernel
theorem dX12_wouldBe_159 : decode cX12_wouldBe 159 = .ok (.iload 5, 2) := by decide +kernel
theorem dX12_wouldBe_161 : decode cX12_wouldBe 161 = .ok (.ireturn, 1) := by decide +kernel
theorem dX12_write_0 : decode cX12_write 0 = .ok (.iload_n 1, 1) := by decide +kernel
theorem dX12_write_1 : decode cX12_write 1 = .ok (.invokestatic 326, 3) := by decide +kernel
theorem dX12_write_4 : decode cX12_write 4 = .ok (.ifCond .ne 5, 3) := by decide +kernel
theorem dX12_write_7 : decode cX12_write 7 = .ok (.iconst (-1), 1) := by decide +kernel
theorem dX12_write_8 : decode cX12_write 8 = .ok (.ireturn, 1) := by decide +kernel
theorem dX12_write_9 : decode cX12_write 9 = .ok (.aload_n 0, 1) := by decide +kernel
theorem dX12_write_10 : decode cX12_write 10 = .ok (.getfield 53, 3) := by decide +kernel
theorem dX12_write_13 : decode cX12_write 13 = .ok (.iload_n 1, 1) := by decide +kernel
theorem dX12_write_14 : decode cX12_write 14 = .ok (.iaload, 1) := by decide +kernel
theorem dX12_write_15 : decode cX12_write 15 = .ok (.ifCond .ge 6, 3) := by decide +kernel
theorem dX12_write_18 : decode cX12_write 18 = .ok (.bipush (-11), 2) := by decide +kernel
theorem dX12_write_20 : decode cX12_write 20 = .ok (.ireturn, 1) := by decide +kernel
theorem dX12_write_21 : decode cX12_write 21 = .ok (.iload_n 2, 1) := by decide +kernel
theorem dX12_write_22 : decode cX12_write 22 = .ok (.iconst 0, 1) := by decide +kernel
theorem dX12_write_23 : decode cX12_write 23 = .ok (.aload_n 0, 1) := by decide +kernel
theorem dX12_write_24 : decode cX12_write 24 = .ok (.getfield 56, 3) := by decide +kernel
theorem dX12_write_27 : decode cX12_write 27 = .ok (.iload_n 1, 1) := by decide +kernel
theorem dX12_write_28 : decode cX12_write 28 = .ok (.iaload, 1) := by decide +kernel
theorem dX12_write_29 : decode cX12_write 29 = .ok (.iconst 1, 1) := by decide +kernel
theorem dX12_write_30 : decode cX12_write 30 = .ok (.isub, 1) := by decide +kernel
theorem dX12_write_31 : decode cX12_write 31 = .ok (.invokestatic 71, 3) := by decide +kernel
theorem dX12_write_34 : decode cX12_write 34 = .ok (.ifCond .ne 6, 3) := by decide +kernel
theorem dX12_write_37 : decode cX12_write 37 = .ok (.bipush (-12), 2) := by decide +kernel
theorem dX12_write_39 : decode cX12_write 39 = .ok (.ireturn, 1) := by decide +kernel
theorem dX12_write_40 : decode cX12_write 40 = .ok (.aload_n 0, 1) := by decide +kernel
theorem dX12_write_41 : decode cX12_write 41 = .ok (.getfield 59, 3) := by decide +kernel
theorem dX12_write_44 : decode cX12_write 44 = .ok (.bipush 40, 2) := by decide +kernel
theorem dX12_write_46 : decode cX12_write 46 = .ok (.iload_n 1, 1) := by decide +kernel
theorem dX12_write_47 : decode cX12_write 47 = .ok (.imul, 1) := by decide +kernel
theorem dX12_write_48 : decode cX12_write 48 = .ok (.iload_n 2, 1) := by decide +kernel
theorem dX12_write_49 : decode cX12_write 49 = .ok (.iadd, 1) := by decide +kernel
theorem dX12_write_50 : decode cX12_write 50 = .ok (.iload_n 3, 1) := by decide +kernel
theorem dX12_write_51 : decode cX12_write 51 = .ok (.aload_n 0, 1) := by decide +kernel
theorem dX12_write_52 : decode cX12_write 52 = .ok (.getfield 53, 3) := by decide +kernel
theorem dX12_write_55 : decode cX12_write 55 = .ok (.iload_n 1, 1) := by decide +kernel
theorem dX12_write_56 : decode cX12_write 56 = .ok (.iaload, 1) := by decide +kernel
theorem dX12_write_57 : decode cX12_write 57 = .ok (.invokestatic 329, 3) := by decide +kernel
theorem dX12_write_60 : decode cX12_write 60 = .ok (.iastore, 1) := by decide +kernel
theorem dX12_write_61 : decode cX12_write 61 = .ok (.iconst 1, 1) := by decide +kernel
theorem dX12_write_62 : decode cX12_write 62 = .ok (.ireturn, 1) := by decide +kernel
theorem lk_RX12_126 : Cond.fieldLink RX12 126 (TX12 6).1 (TX12 6).2.1 (TX12 6).2.2.1 ∈ gBIG := gm_at (l := tables_1_5) 180 (by decide +kernel) gs5
theorem lk_RX12_130 : Cond.fieldLink RX12 130 (TX12 8).1 (TX12 8).2.1 (TX12 8).2.2.1 ∈ gBIG := gm_at (l := tables_1_5) 182 (by decide +kernel) gs5
theorem lk_RX12_133 : Cond.fieldLink RX12 133 (TX12 9).1 (TX12 9).2.1 (TX12 9).2.2.1 ∈ gBIG := gm_at (l := tables_1_5) 183 (by decide +kernel) gs5
theorem lk_RX12_139 : Cond.fieldLink RX12 139 (TX12 10).1 (TX12 10).2.1 (TX12 10).2.2.1 ∈ gBIG := gm_at (l := tables_1_5) 184 (by decide +kernel) gs5
theorem lk_RX12_158 : Cond.fieldLink RX12 158 (TX12 13).1 (TX12 13).2.1 (TX12 13).2.2.1 ∈ gBIG := gm_at (l := tables_1_5) 187 (by decide +kernel) gs5
theorem lk_RX12_259 : Cond.fieldLink RX12 259 (TX12 19).1 (TX12 19).2.1 (TX12 19).2.2.1 ∈ gBIG := gm_at (l := tables_1_5) 193 (by decide +kernel) gs5
theorem lk_RX12_262 : Cond.fieldLink RX12 262 (TX12 20).1 (TX12 20).2.1 (TX12 20).2.2.1 ∈ gBIG := gm_at (l := tables_1_5) 194 (by decide +kernel) gs5
theorem lk_RX12_265 : Cond.fieldLink RX12 265 (TX12 21).1 (TX12 21).2.1 (TX12 21).2.2.1 ∈ gBIG := gm_at (l := tables_1_5) 195 (by decide +kernel) gs5
theorem lk_RX12_268 : Cond.fieldLink RX12 268 (TX12 22).1 (TX12 22).2.1 (TX12 22).2.2.1 ∈ gBIG := gm_at (l := tables_1_5) 196 (by decide +kernel) gs5
theorem lk_RX12_301 : Cond.fieldLink RX12 301 (TX12 25).1 (TX12 25).2.1 (TX12 25).2.2.1 ∈ gBIG := gm_at (l := tables_1_5) 199 (by decide +kernel) gs5
theorem lk_RX12_317 : Cond.fieldLink RX12 317 (TX12 27).1 (TX12 27).2.1 (TX12 27).2.2.1 ∈ gBIG := gm_at (l := tables_1_5) 201 (by decide +kernel) gs5
theorem lk_RX12_341 : Cond.fieldLink RX12 341 (TX12 34).1 (TX12 34).2.1 (TX12 34).2.2.1 ∈ gBIG := gm_at (l := tables_1_5) 208 (by decide +kernel) gs5
theorem lk_RX12_369 : Cond.fieldLink RX12 369 (TX12 3).1 (TX12 3).2.1 (TX12 3).2.2.1 ∈ gBIG := gm_at (l := tables_1_5) 177 (by decide +kernel) gs5
theorem ck_RX12_313 : Cond.constant RX12 313 (1103515245) ∈ gBIG := gm_at (l := tables_1_7) 189 (by decide +kernel) gs7
theorem wh_0 : Cond.methodLink RX12 71 yX12_in1 ∈ gBIG := gm_at (l := tables_1_6) 51 (by decide +kernel) gs6
theorem wh_1 : Cond.code yX12_in1 cX12_in1 3 (some .boolean) ∈ gBIG := gm_at (l := tables_1_6) 53 (by decide +kernel) gs6
theorem wh_2 : Cond.initialized RX12 ∈ gBIG := gm_at (l := tables_1_1) 13 (by decide +kernel) gs1
theorem wh_3 : Cond.static yX12_in1 ∈ gBIG := gm_at (l := tables_1_6) 52 (by decide +kernel) gs6
theorem wh_4 : Cond.methodLink RX12 217 yX12_isDigit ∈ gBIG := gm_at (l := tables_1_6) 119 (by decide +kernel) gs6
theorem wh_5 : Cond.code yX12_isDigit cX12_isDigit 1 (some .boolean) ∈ gBIG := gm_at (l := tables_1_6) 121 (by decide +kernel) gs6
theorem wh_6 : Cond.static yX12_isDigit ∈ gBIG := gm_at (l := tables_1_6) 120 (by decide +kernel) gs6
theorem wh_7 : Cond.methodLink RX12 220 yX12_isGate ∈ gBIG := gm_at (l := tables_1_6) 122 (by decide +kernel) gs6
theorem wh_8 : Cond.code yX12_isGate cX12_isGate 1 (some .boolean) ∈ gBIG := gm_at (l := tables_1_6) 124 (by decide +kernel) gs6
theorem wh_9 : Cond.static yX12_isGate ∈ gBIG := gm_at (l := tables_1_6) 123 (by decide +kernel) gs6
theorem wh_10 : Cond.methodLink RX12 195 yX12_puts ∈ gBIG := gm_at (l := tables_1_6) 125 (by decide +kernel) gs6
theorem wh_11 : Cond.code yX12_puts cX12_puts 4 none ∈ gBIG := gm_at (l := tables_1_6) 128 (by decide +kernel) gs6
theorem wh_12 : Cond.instanceMethod yX12_puts ∈ gBIG := gm_at (l := tables_1_6) 127 (by decide +kernel) gs6
theorem wh_13 : Cond.selects RX12 yX12_puts yX12_puts ∈ gBIG := gm_at (l := (k2_sels lw_privs)) 55 (by decide +kernel) gs0
theorem wh_14 : Cond.methodLink RX12 223 yX12_isKey ∈ gBIG := gm_at (l := tables_1_6) 133 (by decide +kernel) gs6
theorem wh_15 : Cond.code yX12_isKey cX12_isKey 2 (some .boolean) ∈ gBIG := gm_at (l := tables_1_6) 136 (by decide +kernel) gs6
theorem wh_16 : Cond.instanceMethod yX12_isKey ∈ gBIG := gm_at (l := tables_1_6) 135 (by decide +kernel) gs6
theorem wh_17 : Cond.selects RX12 yX12_isKey yX12_isKey ∈ gBIG := gm_at (l := (k2_sels lw_privs)) 56 (by decide +kernel) gs0
theorem wh_18 : Cond.methodLink RX12 226 yX12_becomes ∈ gBIG := gm_at (l := tables_1_6) 203 (by decide +kernel) gs6
theorem wh_19 : Cond.code yX12_becomes cX12_becomes 4 (some .int) ∈ gBIG := gm_at (l := tables_1_6) 206 (by decide +kernel) gs6
theorem wh_20 : Cond.instanceMethod yX12_becomes ∈ gBIG := gm_at (l := tables_1_6) 205 (by decide +kernel) gs6
theorem wh_21 : Cond.selects RX12 yX12_becomes yX12_becomes ∈ gBIG := gm_at (l := (k2_sels lw_privs)) 68 (by decide +kernel) gs0
theorem wh_22 : Cond.methodLink RX12 229 yX12_isOver ∈ gBIG := gm_at (l := tables_1_6) 235 (by decide +kernel) gs6
theorem wh_23 : Cond.code yX12_isOver cX12_isOver 1 (some .boolean) ∈ gBIG := gm_at (l := tables_1_6) 238 (by decide +kernel) gs6
theorem wh_24 : Cond.instanceMethod yX12_isOver ∈ gBIG := gm_at (l := tables_1_6) 237 (by decide +kernel) gs6
theorem wh_25 : Cond.selects RX12 yX12_isOver yX12_isOver ∈ gBIG := gm_at (l := (k2_sels lw_privs)) 69 (by decide +kernel) gs0
theorem wh_26 : Cond.methodLink RX12 232 yX12_those ∈ gBIG := gm_at (l := tables_1_6) 239 (by decide +kernel) gs6
theorem wh_27 : Cond.code yX12_those cX12_those 4 (some .int) ∈ gBIG := gm_at (l := tables_1_7) 2 (by decide +kernel) gs7
theorem wh_28 : Cond.instanceMethod yX12_those ∈ gBIG := gm_at (l := tables_1_7) 1 (by decide +kernel) gs7
theorem wh_29 : Cond.selects RX12 yX12_those yX12_those ∈ gBIG := gm_at (l := (k2_sels lw_privs)) 70 (by decide +kernel) gs0
theorem wh_30 : Cond.methodLink RX12 83 yX12_sunNow ∈ gBIG := gm_at (l := tables_1_6) 145 (by decide +kernel) gs6
theorem wh_31 : Cond.code yX12_sunNow cX12_sunNow 1 (some .int) ∈ gBIG := gm_at (l := tables_1_6) 148 (by decide +kernel) gs6
theorem wh_32 : Cond.instanceMethod yX12_sunNow ∈ gBIG := gm_at (l := tables_1_6) 147 (by decide +kernel) gs6
theorem wh_33 : Cond.selects RX12 yX12_sunNow yX12_sunNow ∈ gBIG := gm_at (l := (k2_sels lw_privs)) 59 (by decide +kernel) gs0
theorem wh_34 : Cond.methodLink RX12 235 yX12_teethAll ∈ gBIG := gm_at (l := tables_1_7) 3 (by decide +kernel) gs7
theorem wh_35 : Cond.code yX12_teethAll cX12_teethAll 3 (some .int) ∈ gBIG := gm_at (l := tables_1_7) 6 (by decide +kernel) gs7
theorem wh_36 : Cond.instanceMethod yX12_teethAll ∈ gBIG := gm_at (l := tables_1_7) 5 (by decide +kernel) gs7
theorem wh_37 : Cond.selects RX12 yX12_teethAll yX12_teethAll ∈ gBIG := gm_at (l := (k2_sels lw_privs)) 71 (by decide +kernel) gs0
theorem wh_38 : Cond.methodLink RX12 250 yX12_bestFor ∈ gBIG := gm_at (l := tables_1_7) 54 (by decide +kernel) gs7
theorem wh_39 : Cond.code yX12_bestFor cX12_bestFor 8 (some .int) ∈ gBIG := gm_at (l := tables_1_7) 57 (by decide +kernel) gs7
theorem wh_40 : Cond.instanceMethod yX12_bestFor ∈ gBIG := gm_at (l := tables_1_7) 56 (by decide +kernel) gs7
theorem wh_41 : Cond.selects RX12 yX12_bestFor yX12_bestFor ∈ gBIG := gm_at (l := (k2_sels lw_privs)) 79 (by decide +kernel) gs0
theorem wh_42 : Cond.methodLink RX12 320 yX12_isRow ∈ gBIG := gm_at (l := tables_1_7) 202 (by decide +kernel) gs7
theorem wh_43 : Cond.code yX12_isRow cX12_isRow 3 (some .boolean) ∈ gBIG := gm_at (l := tables_1_7) 205 (by decide +kernel) gs7
theorem wh_44 : Cond.instanceMethod yX12_isRow ∈ gBIG := gm_at (l := tables_1_7) 204 (by decide +kernel) gs7
theorem wh_45 : Cond.selects RX12 yX12_isRow yX12_isRow ∈ gBIG := gm_at (l := (k2_sels lw_privs)) 94 (by decide +kernel) gs0
theorem wh_46 : Cond.methodLink RX12 326 yX12_isSheet ∈ gBIG := gm_at (l := tables_1_7) 222 (by decide +kernel) gs7
theorem wh_47 : Cond.code yX12_isSheet cX12_isSheet 1 (some .boolean) ∈ gBIG := gm_at (l := tables_1_7) 224 (by decide +kernel) gs7
theorem wh_48 : Cond.static yX12_isSheet ∈ gBIG := gm_at (l := tables_1_7) 223 (by decide +kernel) gs7
theorem wh_49 : Cond.methodLink RX12 332 yX12_lacks ∈ gBIG := gm_at (l := tables_1_7) 236 (by decide +kernel) gs7
theorem wh_50 : Cond.code yX12_lacks cX12_lacks 3 (some .int) ∈ gBIG := gm_at (l := tables_1_7) 239 (by decide +kernel) gs7
theorem wh_51 : Cond.instanceMethod yX12_lacks ∈ gBIG := gm_at (l := tables_1_7) 238 (by decide +kernel) gs7
theorem wh_52 : Cond.selects RX12 yX12_lacks yX12_lacks ∈ gBIG := gm_at (l := (k2_sels lw_privs)) 96 (by decide +kernel) gs0
theorem wh_53 : Cond.methodLink RX12 241 yX12_layDown ∈ gBIG := gm_at (l := tables_1_7) 34 (by decide +kernel) gs7
theorem wh_54 : Cond.code yX12_layDown cX12_layDown 2 none ∈ gBIG := gm_at (l := tables_1_7) 37 (by decide +kernel) gs7
theorem wh_55 : Cond.instanceMethod yX12_layDown ∈ gBIG := gm_at (l := tables_1_7) 36 (by decide +kernel) gs7
theorem wh_56 : Cond.selects RX12 yX12_layDown yX12_layDown ∈ gBIG := gm_at (l := (k2_sels lw_privs)) 76 (by decide +kernel) gs0
theorem wh_57 : Cond.methodLink RX12 247 yX12_layBack ∈ gBIG := gm_at (l := tables_1_7) 42 (by decide +kernel) gs7
theorem wh_58 : Cond.code yX12_layBack cX12_layBack 2 none ∈ gBIG := gm_at (l := tables_1_7) 45 (by decide +kernel) gs7
theorem wh_59 : Cond.instanceMethod yX12_layBack ∈ gBIG := gm_at (l := tables_1_7) 44 (by decide +kernel) gs7
theorem wh_60 : Cond.selects RX12 yX12_layBack yX12_layBack ∈ gBIG := gm_at (l := (k2_sels lw_privs)) 78 (by decide +kernel) gs0
theorem wh_61 : Cond.methodLink RX12 338 yX12_heldOn ∈ gBIG := gm_at (l := tables_1_8) 20 (by decide +kernel) gs8
theorem wh_62 : Cond.code yX12_heldOn cX12_heldOn 2 (some .int) ∈ gBIG := gm_at (l := tables_1_8) 23 (by decide +kernel) gs8
theorem wh_63 : Cond.instanceMethod yX12_heldOn ∈ gBIG := gm_at (l := tables_1_8) 22 (by decide +kernel) gs8
theorem wh_64 : Cond.selects RX12 yX12_heldOn yX12_heldOn ∈ gBIG := gm_at (l := (k2_sels lw_privs)) 98 (by decide +kernel) gs0
theorem wh_65 : Cond.methodLink RX12 366 yX12_ones ∈ gBIG := gm_at (l := tables_1_8) 56 (by decide +kernel) gs8
theorem wh_66 : Cond.code yX12_ones cX12_ones 3 (some .int) ∈ gBIG := gm_at (l := tables_1_8) 58 (by decide +kernel) gs8
theorem wh_67 : Cond.static yX12_ones ∈ gBIG := gm_at (l := tables_1_8) 57 (by decide +kernel) gs8
theorem wh_68 : Cond.methodLink RX12 208 yX12_restOne ∈ gBIG := gm_at (l := tables_1_7) 15 (by decide +kernel) gs7
theorem wh_69 : Cond.code yX12_restOne cX12_restOne 2 (some .int) ∈ gBIG := gm_at (l := tables_1_7) 18 (by decide +kernel) gs7
theorem wh_70 : Cond.instanceMethod yX12_restOne ∈ gBIG := gm_at (l := tables_1_7) 17 (by decide +kernel) gs7
theorem wh_71 : Cond.selects RX12 yX12_restOne yX12_restOne ∈ gBIG := gm_at (l := (k2_sels lw_privs)) 73 (by decide +kernel) gs0
theorem wh_72 : Cond.methodLink RX12 238 yX12_goesBy ∈ gBIG := gm_at (l := tables_1_7) 11 (by decide +kernel) gs7
theorem wh_73 : Cond.code yX12_goesBy cX12_goesBy 5 (some .int) ∈ gBIG := gm_at (l := tables_1_7) 14 (by decide +kernel) gs7
theorem wh_74 : Cond.instanceMethod yX12_goesBy ∈ gBIG := gm_at (l := tables_1_7) 13 (by decide +kernel) gs7
theorem wh_75 : Cond.selects RX12 yX12_goesBy yX12_goesBy ∈ gBIG := gm_at (l := (k2_sels lw_privs)) 72 (by decide +kernel) gs0
theorem wh_76 : Cond.methodLink RX12 136 yX12_byteAt ∈ gBIG := gm_at (l := tables_1_6) 63 (by decide +kernel) gs6
theorem wh_77 : Cond.code yX12_byteAt cX12_byteAt 2 (some .int) ∈ gBIG := gm_at (l := tables_1_6) 66 (by decide +kernel) gs6
theorem wh_78 : Cond.instanceMethod yX12_byteAt ∈ gBIG := gm_at (l := tables_1_6) 65 (by decide +kernel) gs6
theorem wh_79 : Cond.selects RX12 yX12_byteAt yX12_byteAt ∈ gBIG := gm_at (l := (k2_sels lw_privs)) 42 (by decide +kernel) gs0
theorem wh_80 : Cond.methodLink RX12 155 yX12_next ∈ gBIG := gm_at (l := tables_1_6) 59 (by decide +kernel) gs6
theorem wh_81 : Cond.code yX12_next cX12_next 2 none ∈ gBIG := gm_at (l := tables_1_6) 62 (by decide +kernel) gs6
theorem wh_82 : Cond.instanceMethod yX12_next ∈ gBIG := gm_at (l := tables_1_6) 61 (by decide +kernel) gs6
theorem wh_83 : Cond.selects RX12 yX12_next yX12_next ∈ gBIG := gm_at (l := (k2_sels lw_privs)) 41 (by decide +kernel) gs0
theorem wh_84 : Cond.methodLink RX12 314 yX12_byLot ∈ gBIG := gm_at (l := tables_1_7) 185 (by decide +kernel) gs7
theorem wh_85 : Cond.code yX12_byLot cX12_byLot 1 (some .int) ∈ gBIG := gm_at (l := tables_1_7) 188 (by decide +kernel) gs7
theorem wh_86 : Cond.instanceMethod yX12_byLot ∈ gBIG := gm_at (l := tables_1_7) 187 (by decide +kernel) gs7
theorem wh_87 : Cond.selects RX12 yX12_byLot yX12_byLot ∈ gBIG := gm_at (l := (k2_sels lw_privs)) 93 (by decide +kernel) gs0
theorem wh_88 : Cond.methodLink RX12 288 yX12_isPlan ∈ gBIG := gm_at (l := tables_1_7) 90 (by decide +kernel) gs7
theorem wh_89 : Cond.code yX12_isPlan cX12_isPlan 1 (some .boolean) ∈ gBIG := gm_at (l := tables_1_7) 92 (by decide +kernel) gs7
theorem wh_90 : Cond.static yX12_isPlan ∈ gBIG := gm_at (l := tables_1_7) 91 (by decide +kernel) gs7
theorem wh_91 : Cond.methodLink RX12 285 yX12_daysOf ∈ gBIG := gm_at (l := tables_1_7) 97 (by decide +kernel) gs7
theorem wh_92 : Cond.code yX12_daysOf cX12_daysOf 3 (some .int) ∈ gBIG := gm_at (l := tables_1_7) 100 (by decide +kernel) gs7
theorem wh_93 : Cond.instanceMethod yX12_daysOf ∈ gBIG := gm_at (l := tables_1_7) 99 (by decide +kernel) gs7
theorem wh_94 : Cond.selects RX12 yX12_daysOf yX12_daysOf ∈ gBIG := gm_at (l := (k2_sels lw_privs)) 83 (by decide +kernel) gs0
theorem wh_95 : Cond.methodLink RX12 271 yX12_endsPlan ∈ gBIG := gm_at (l := tables_1_7) 105 (by decide +kernel) gs7
theorem wh_96 : Cond.code yX12_endsPlan cX12_endsPlan 6 none ∈ gBIG := gm_at (l := tables_1_7) 108 (by decide +kernel) gs7
theorem wh_97 : Cond.instanceMethod yX12_endsPlan ∈ gBIG := gm_at (l := tables_1_7) 107 (by decide +kernel) gs7
theorem wh_98 : Cond.selects RX12 yX12_endsPlan yX12_endsPlan ∈ gBIG := gm_at (l := (k2_sels lw_privs)) 85 (by decide +kernel) gs0
theorem wh_99 : Cond.methodLink RX12 278 yX12_goesPlans ∈ gBIG := gm_at (l := tables_1_7) 101 (by decide +kernel) gs7
theorem wh_100 : Cond.code yX12_goesPlans cX12_goesPlans 8 none ∈ gBIG := gm_at (l := tables_1_7) 104 (by decide +kernel) gs7
theorem wh_101 : Cond.instanceMethod yX12_goesPlans ∈ gBIG := gm_at (l := tables_1_7) 103 (by decide +kernel) gs7
theorem wh_102 : Cond.selects RX12 yX12_goesPlans yX12_goesPlans ∈ gBIG := gm_at (l := (k2_sels lw_privs)) 84 (by decide +kernel) gs0
theorem wh_103 : Cond.methodLink RX12 291 yX12_triesAll ∈ gBIG := gm_at (l := tables_1_7) 93 (by decide +kernel) gs7
theorem wh_104 : Cond.code yX12_triesAll cX12_triesAll 3 none ∈ gBIG := gm_at (l := tables_1_7) 96 (by decide +kernel) gs7
theorem wh_105 : Cond.instanceMethod yX12_triesAll ∈ gBIG := gm_at (l := tables_1_7) 95 (by decide +kernel) gs7
theorem wh_106 : Cond.selects RX12 yX12_triesAll yX12_triesAll ∈ gBIG := gm_at (l := (k2_sels lw_privs)) 82 (by decide +kernel) gs0
theorem wh_107 : Cond.methodLink RX12 275 yX12_saves ∈ gBIG := gm_at (l := tables_1_7) 109 (by decide +kernel) gs7
theorem wh_108 : Cond.code yX12_saves cX12_saves 3 none ∈ gBIG := gm_at (l := tables_1_7) 112 (by decide +kernel) gs7
theorem wh_109 : Cond.instanceMethod yX12_saves ∈ gBIG := gm_at (l := tables_1_7) 111 (by decide +kernel) gs7
theorem wh_110 : Cond.selects RX12 yX12_saves yX12_saves ∈ gBIG := gm_at (l := (k2_sels lw_privs)) 86 (by decide +kernel) gs0
theorem wh_111 : Cond.methodLink RX12 282 yX12_restores ∈ gBIG := gm_at (l := tables_1_7) 113 (by decide +kernel) gs7
theorem wh_112 : Cond.code yX12_restores cX12_restores 3 none ∈ gBIG := gm_at (l := tables_1_7) 116 (by decide +kernel) gs7
theorem wh_113 : Cond.instanceMethod yX12_restores ∈ gBIG := gm_at (l := tables_1_7) 115 (by decide +kernel) gs7
theorem wh_114 : Cond.selects RX12 yX12_restores yX12_restores ∈ gBIG := gm_at (l := (k2_sels lw_privs)) 87 (by decide +kernel) gs0
theorem wh_115 : Cond.methodLink RX12 295 yX12_isSet ∈ gBIG := gm_at (l := tables_1_7) 129 (by decide +kernel) gs7
theorem wh_116 : Cond.code yX12_isSet cX12_isSet 2 (some .boolean) ∈ gBIG := gm_at (l := tables_1_7) 132 (by decide +kernel) gs7
theorem wh_117 : Cond.instanceMethod yX12_isSet ∈ gBIG := gm_at (l := tables_1_7) 131 (by decide +kernel) gs7
theorem wh_118 : Cond.selects RX12 yX12_isSet yX12_isSet ∈ gBIG := gm_at (l := (k2_sels lw_privs)) 88 (by decide +kernel) gs0
theorem wh_119 : Cond.methodLink RX12 298 yX12_playedFrom ∈ gBIG := gm_at (l := tables_1_7) 141 (by decide +kernel) gs7
theorem wh_120 : Cond.code yX12_playedFrom cX12_playedFrom 9 (some .int) ∈ gBIG := gm_at (l := tables_1_7) 144 (by decide +kernel) gs7
theorem wh_121 : Cond.instanceMethod yX12_playedFrom ∈ gBIG := gm_at (l := tables_1_7) 143 (by decide +kernel) gs7
theorem wh_122 : Cond.selects RX12 yX12_playedFrom yX12_playedFrom ∈ gBIG := gm_at (l := (k2_sels lw_privs)) 89 (by decide +kernel) gs0
theorem wh_123 : Cond.methodLink RX12 244 yX12_restOf ∈ gBIG := gm_at (l := tables_1_7) 38 (by decide +kernel) gs7
theorem wh_124 : Cond.code yX12_restOf cX12_restOf 4 (some .int) ∈ gBIG := gm_at (l := tables_1_7) 41 (by decide +kernel) gs7
theorem wh_125 : Cond.instanceMethod yX12_restOf ∈ gBIG := gm_at (l := tables_1_7) 40 (by decide +kernel) gs7
theorem wh_126 : Cond.selects RX12 yX12_restOf yX12_restOf ∈ gBIG := gm_at (l := (k2_sels lw_privs)) 77 (by decide +kernel) gs0
theorem wh_127 : Cond.methodLink RX12 91 yX12_shapeBy ∈ gBIG := gm_at (l := tables_1_6) 156 (by decide +kernel) gs6
theorem wh_128 : Cond.code yX12_shapeBy cX12_shapeBy 6 (some .int) ∈ gBIG := gm_at (l := tables_1_6) 158 (by decide +kernel) gs6
theorem wh_129 : Cond.static yX12_shapeBy ∈ gBIG := gm_at (l := tables_1_6) 157 (by decide +kernel) gs6
theorem wh_130 : Cond.methodLink RX12 87 yX12_meltsBy ∈ gBIG := gm_at (l := tables_1_6) 149 (by decide +kernel) gs6
theorem wh_131 : Cond.code yX12_meltsBy cX12_meltsBy 6 (some .int) ∈ gBIG := gm_at (l := tables_1_6) 151 (by decide +kernel) gs6
theorem wh_132 : Cond.static yX12_meltsBy ∈ gBIG := gm_at (l := tables_1_6) 150 (by decide +kernel) gs6
theorem wh_133 : Cond.methodLink RX12 202 yX12_held ∈ gBIG := gm_at (l := tables_1_7) 27 (by decide +kernel) gs7
theorem wh_134 : Cond.code yX12_held cX12_held 2 (some .int) ∈ gBIG := gm_at (l := tables_1_7) 29 (by decide +kernel) gs7
theorem wh_135 : Cond.static yX12_held ∈ gBIG := gm_at (l := tables_1_7) 28 (by decide +kernel) gs7
theorem wh_136 : Cond.methodLink RX12 304 yX12_tellsLone ∈ gBIG := gm_at (l := tables_1_7) 165 (by decide +kernel) gs7
theorem wh_137 : Cond.code yX12_tellsLone cX12_tellsLone 8 none ∈ gBIG := gm_at (l := tables_1_7) 168 (by decide +kernel) gs7
theorem wh_138 : Cond.instanceMethod yX12_tellsLone ∈ gBIG := gm_at (l := tables_1_7) 167 (by decide +kernel) gs7
theorem wh_139 : Cond.selects RX12 yX12_tellsLone yX12_tellsLone ∈ gBIG := gm_at (l := (k2_sels lw_privs)) 91 (by decide +kernel) gs0
theorem wh_140 : Cond.methodLink RX12 310 yX12_fitting ∈ gBIG := gm_at (l := tables_1_7) 161 (by decide +kernel) gs7
theorem wh_141 : Cond.code yX12_fitting cX12_fitting 6 (some .int) ∈ gBIG := gm_at (l := tables_1_7) 164 (by decide +kernel) gs7
theorem wh_142 : Cond.instanceMethod yX12_fitting ∈ gBIG := gm_at (l := tables_1_7) 163 (by decide +kernel) gs7
theorem wh_143 : Cond.selects RX12 yX12_fitting yX12_fitting ∈ gBIG := gm_at (l := (k2_sels lw_privs)) 90 (by decide +kernel) gs0
theorem cm_X12_in1 : gcm mX12_in1 3 := ⟨wh_1, wh_2, by decide, by decide, by decide, by decide +kernel, by decide⟩
theorem cm_X12_isDigit : gcm mX12_isDigit 1 := ⟨wh_5, wh_2, by decide, by decide, by decide, by decide +kernel, by decide⟩
theorem cm_X12_isGate : gcm mX12_isGate 1 := ⟨wh_8, wh_2, by decide, by decide, by decide, by decide +kernel, by decide⟩
theorem cm_X12_puts : gcm mX12_puts 3 := ⟨wh_11, wh_2, by decide, by decide, by decide, by decide +kernel, by decide⟩
theorem cm_X12_isKey : gcm mX12_isKey 1 := ⟨wh_15, wh_2, by decide, by decide, by decide, by decide +kernel, by decide⟩
theorem cm_X12_becomes : gcm mX12_becomes 2 := ⟨wh_19, wh_2, by decide, by decide, by decide, by decide +kernel, by decide⟩
theorem cm_X12_isOver : gcm mX12_isOver 0 := ⟨wh_23, wh_2, by decide, by decide, by decide, by decide +kernel, by decide⟩
theorem cm_X12_those : gcm mX12_those 1 := ⟨wh_27, wh_2, by decide, by decide, by decide, by decide +kernel, by decide⟩
theorem cm_X12_sunNow : gcm mX12_sunNow 0 := ⟨wh_31, wh_2, by decide, by decide, by decide, by decide +kernel, by decide⟩
theorem cm_X12_teethAll : gcm mX12_teethAll 0 := ⟨wh_35, wh_2, by decide, by decide, by decide, by decide +kernel, by decide⟩
theorem cm_X12_bestFor : gcm mX12_bestFor 3 := ⟨wh_39, wh_2, by decide, by decide, by decide, by decide +kernel, by decide⟩
theorem cm_X12_isRow : gcm mX12_isRow 2 := ⟨wh_43, wh_2, by decide, by decide, by decide, by decide +kernel, by decide⟩
theorem cm_X12_isSheet : gcm mX12_isSheet 1 := ⟨wh_47, wh_2, by decide, by decide, by decide, by decide +kernel, by decide⟩
theorem cm_X12_lacks : gcm mX12_lacks 2 := ⟨wh_50, wh_2, by decide, by decide, by decide, by decide +kernel, by decide⟩
theorem cm_X12_layDown : gcm mX12_layDown 0 := ⟨wh_54, wh_2, by decide, by decide, by decide, by decide +kernel, by decide⟩
theorem cm_X12_layBack : gcm mX12_layBack 0 := ⟨wh_58, wh_2, by decide, by decide, by decide, by decide +kernel, by decide⟩
theorem cm_X12_heldOn : gcm mX12_heldOn 1 := ⟨wh_62, wh_2, by decide, by decide, by decide, by decide +kernel, by decide⟩
theorem cm_X12_ones : gcm mX12_ones 1 := ⟨wh_66, wh_2, by decide, by decide, by decide, by decide +kernel, by decide⟩
theorem cm_X12_restOne : gcm mX12_restOne 0 := ⟨wh_69, wh_2, by decide, by decide, by decide, by decide +kernel, by decide⟩
theorem cm_X12_goesBy : gcm mX12_goesBy 1 := ⟨wh_73, wh_2, by decide, by decide, by decide, by decide +kernel, by decide⟩
theorem cm_X12_byteAt : gcm mX12_byteAt 1 := ⟨wh_77, wh_2, by decide, by decide, by decide, by decide +kernel, by decide⟩
theorem cm_X12_next : gcm mX12_next 0 := ⟨wh_81, wh_2, by decide, by decide, by decide, by decide +kernel, by decide⟩
theorem cm_X12_byLot : gcm mX12_byLot 0 := ⟨wh_85, wh_2, by decide, by decide, by decide, by decide +kernel, by decide⟩
theorem cl_RX12_190 : Cond.constantLong RX12 190 (255) ∈ gBIG := gm_at (l := tables_1_6) 54 (by decide +kernel) gs6
theorem cm_X12_isPlan : gcm mX12_isPlan 1 := ⟨wh_89, wh_2, by decide, by decide, by decide, by decide +kernel, by decide⟩
theorem cm_X12_daysOf : gcm mX12_daysOf 1 := ⟨wh_92, wh_2, by decide, by decide, by decide, by decide +kernel, by decide⟩
theorem cm_X12_endsPlan : gcm mX12_endsPlan 4 := ⟨wh_96, wh_2, by decide, by decide, by decide, by decide +kernel, by decide⟩
theorem cm_X12_goesPlans : gcm mX12_goesPlans 5 := ⟨wh_100, wh_2, by decide, by decide, by decide, by decide +kernel, by decide⟩
theorem cm_X12_triesAll : gcm mX12_triesAll 2 := ⟨wh_104, wh_2, by decide, by decide, by decide, by decide +kernel, by decide⟩
theorem cm_X12_saves : gcm mX12_saves 1 := ⟨wh_108, wh_2, by decide, by decide, by decide, by decide +kernel, by decide⟩
theorem cm_X12_restores : gcm mX12_restores 1 := ⟨wh_112, wh_2, by decide, by decide, by decide, by decide +kernel, by decide⟩
theorem cm_X12_isSet : gcm mX12_isSet 1 := ⟨wh_116, wh_2, by decide, by decide, by decide, by decide +kernel, by decide⟩
theorem cm_X12_playedFrom : gcm mX12_playedFrom 2 := ⟨wh_120, wh_2, by decide, by decide, by decide, by decide +kernel, by decide⟩
theorem cm_X12_restOf : gcm mX12_restOf 1 := ⟨wh_124, wh_2, by decide, by decide, by decide, by decide +kernel, by decide⟩
theorem cm_X12_shapeBy : gcm mX12_shapeBy 4 := ⟨wh_128, wh_2, by decide, by decide, by decide, by decide +kernel, by decide⟩
theorem cm_X12_meltsBy : gcm mX12_meltsBy 4 := ⟨wh_131, wh_2, by decide, by decide, by decide, by decide +kernel, by decide⟩
theorem cm_X12_held : gcm mX12_held 2 := ⟨wh_134, wh_2, by decide, by decide, by decide, by decide +kernel, by decide⟩
theorem cm_X12_tellsLone : gcm mX12_tellsLone 3 := ⟨wh_137, wh_2, by decide, by decide, by decide, by decide +kernel, by decide⟩
theorem cm_X12_fitting : gcm mX12_fitting 1 := ⟨wh_141, wh_2, by decide, by decide, by decide, by decide +kernel, by decide⟩
