set_option maxRecDepth 100000 in
set_option maxHeartbeats 4000000 in
theorem s10087_X12_isPlan (J : gI) (d : Nat)  (a0 : Int32) : G (d + 1) mX12_isPlan 0 0 0 0 0 (gent 1 [.int a0]) [] SH0 RF0 (gmx J) (fun r h => r = some (.int (gB (0 ≤ a0 ∧ a0 ≤ 4))) ∧ h = (SH0, RF0, (gmx J))) := by
  refine G_iload_n (pc := 0) rfl dX12_isPlan_0 ?_
  refine G_iconst (pc := 1) (v := 0) (by decide) dX12_isPlan_1 ?_
  refine G_iconst (pc := 2) (v := 4) (by decide) dX12_isPlan_2 ?_
  refine G_callS (pc := 3) (mc1 := 0) (ms1 := 0) (mj := mX12_in1) (vs := [_, _, _]) dX12_isPlan_3 cm_X12_in1 wh_0 wh_3 rfl (Nat.le_of_ble_eq_true rfl) (Nat.le_of_ble_eq_true rfl) (Nat.le_of_ble_eq_true rfl) (Nat.le_of_ble_eq_true rfl) (in1_s d a0 0 4) ?_
  rintro _ _ ⟨rfl, rfl⟩
  dsimp only [Option.toList, List.cons_append, List.nil_append]
  exact G_zret (pc := 6) (Nat.le_of_ble_eq_true rfl) (Nat.le_of_ble_eq_true rfl) rfl gB_01 dX12_isPlan_6 ⟨rfl, rfl⟩
set_option maxRecDepth 100000 in
set_option maxHeartbeats 4000000 in
theorem s10090_X12_isOver (J : gI) (d : Nat)   : G (d) mX12_isOver 0 0 0 0 0 (gent 1 [.ref 67]) [] SH0 RF0 (gup (gup (gup (gup (gmx J) 67 19 (-1)) 67 20 0) 67 21 5) 67 22 0) (fun r h => r = some (.int 0) ∧ h = (SH0, RF0, (gup (gup (gup (gup (gmx J) 67 19 (-1)) 67 20 0) 67 21 5) 67 22 0))) := by
  refine G_aload_n (pc := 0) rfl dX12_isOver_0 ?_
  refine G_getR (pc := 1) (r := 68) (ci := 12) (j := 0) rfl lk_RX12_9 rfl rfl rfl dX12_isOver_1 ?_
  refine G_iconst (pc := 4) (v := 0) (by decide) dX12_isOver_4 ?_
  refine G_iald (pc := 5) (jj := 0) (v := 0) (by decide) rfl rfl (by unfold vp_in; decide) dX12_isOver_5 ?_
  refine G_aload_n (pc := 6) rfl dX12_isOver_6 ?_
  refine G_getR (pc := 7) (r := 68) (ci := 12) (j := 0) rfl lk_RX12_9 rfl rfl rfl dX12_isOver_7 ?_
  refine G_iconst (pc := 10) (v := 1) (by decide) dX12_isOver_10 ?_
  refine G_iald (pc := 11) (jj := 1) (v := 12) (by decide) rfl rfl (by unfold vp_in; decide) dX12_isOver_11 ?_
  refine G_icmp_lt (pc := 12) (tgt := 19) (by decide) dX12_isOver_12 (fun _ => ?_) (fun z => absurd (by decide) z)
  refine G_iconst (pc := 19) (v := 0) (by decide) dX12_isOver_19 ?_
  exact G_zret (pc := 20) (Nat.le_of_ble_eq_true rfl) (Nat.le_of_ble_eq_true rfl) rfl (by decide) dX12_isOver_20 ⟨rfl, rfl⟩
set_option maxRecDepth 100000 in
set_option maxHeartbeats 4000000 in
theorem s10092_X12_daysOf (J : gI) (d : Nat)   : G (d + 1) mX12_daysOf 0 0 0 0 0 (gent 3 [.ref 67, .int 0]) [] SH0 RF0 (gup (gup (gup (gup (gmx J) 67 19 (-1)) 67 20 0) 67 21 5) 67 22 0) (fun r h => r = some (.int 0) ∧ h = (SH0, RF0, (gup (gup (gup (gup (gmx J) 67 19 (-1)) 67 20 0) 67 21 5) 67 22 0))) := by
  refine G_aload_n (pc := 0) rfl dX12_daysOf_0 ?_
  refine G_callV (pc := 1) (mc1 := 0) (ms1 := 0) (ci := 12) (mj := mX12_isOver) (vs := []) dX12_daysOf_1 rfl rfl cm_X12_isOver wh_22 wh_24 wh_25 rfl (Nat.le_of_ble_eq_true rfl) (Nat.le_of_ble_eq_true rfl) (Nat.le_of_ble_eq_true rfl) (Nat.le_of_ble_eq_true rfl) (s10090_X12_isOver J d  ) ?_
  rintro _ _ ⟨rfl, rfl⟩
  dsimp only [Option.toList, List.cons_append, List.nil_append]
  refine G_if_eq (pc := 4) (tgt := 11) (by decide) dX12_daysOf_4 (fun _ => ?_) (fun z => absurd (by decide) z)
  refine G_aload_n (pc := 11) rfl dX12_daysOf_11 ?_
  refine G_getR (pc := 12) (r := 68) (ci := 12) (j := 0) rfl lk_RX12_9 rfl rfl rfl dX12_daysOf_12 ?_
  refine G_iconst (pc := 15) (v := 1) (by decide) dX12_daysOf_15 ?_
  refine G_iald (pc := 16) (jj := 1) (v := 12) (by decide) rfl rfl (by unfold vp_in; decide) dX12_daysOf_16 ?_
  refine G_aload_n (pc := 17) rfl dX12_daysOf_17 ?_
  refine G_getR (pc := 18) (r := 68) (ci := 12) (j := 0) rfl lk_RX12_9 rfl rfl rfl dX12_daysOf_18 ?_
  refine G_iconst (pc := 21) (v := 0) (by decide) dX12_daysOf_21 ?_
  refine G_iald (pc := 22) (jj := 0) (v := 0) (by decide) rfl rfl (by unfold vp_in; decide) dX12_daysOf_22 ?_
  refine G_isub (pc := 23) (z := 12) (by decide) dX12_daysOf_23 ?_
  refine G_istore_n (pc := 24) (L1 := [some (.ref 67), some (.int 0), some (.int 12)]) rfl rfl (by decide) dX12_daysOf_24 ?_
  refine G_iload_n (pc := 25) rfl dX12_daysOf_25 ?_
  refine G_iload_n (pc := 26) rfl dX12_daysOf_26 ?_
  refine G_icmp_ge (pc := 27) (tgt := 34) (by decide) dX12_daysOf_27 (fun z => absurd z (by decide)) (fun _ => ?_)
  refine G_iload_n (pc := 30) rfl dX12_daysOf_30 ?_
  refine G_goto (pc := 31) (tgt := 35) (by decide) dX12_daysOf_31 ?_
  exact G_iret (pc := 35) (Nat.le_of_ble_eq_true rfl) (Nat.le_of_ble_eq_true rfl) rfl dX12_daysOf_35 ⟨rfl, rfl⟩
set_option maxRecDepth 100000 in
set_option maxHeartbeats 4000000 in
theorem s10095_X12_those (J : gI) (d : Nat)   : G (d) mX12_those 0 0 0 0 0 (gent 4 [.ref 67, .int 4]) [] SH0 RF0 (gup (gup (gup (gup (gup (gup (gup (gmx J) 67 19 (-1)) 67 20 0) 67 21 5) 67 22 0) 67 20 0) 67 19 0) 67 20 1) (fun r h => r = some (.int 0) ∧ h = (SH0, RF0, (gup (gup (gup (gup (gup (gup (gup (gmx J) 67 19 (-1)) 67 20 0) 67 21 5) 67 22 0) 67 20 0) 67 19 0) 67 20 1))) := by
  refine G_iconst (pc := 0) (v := 0) (by decide) dX12_those_0 ?_
  refine G_istore_n (pc := 1) (L1 := [some (.ref 67), some (.int 4), some (.int 0), none]) rfl rfl (by decide) dX12_those_1 ?_
  refine G_iconst (pc := 2) (v := 0) (by decide) dX12_those_2 ?_
  refine G_istore_n (pc := 3) (L1 := [some (.ref 67), some (.int 4), some (.int 0), some (.int 0)]) rfl rfl (by decide) dX12_those_3 ?_
  refine G_iload_n (pc := 4) rfl dX12_those_4 ?_
  refine G_aload_n (pc := 5) rfl dX12_those_5 ?_
  refine G_getR (pc := 6) (r := 68) (ci := 12) (j := 0) rfl lk_RX12_9 rfl rfl rfl dX12_those_6 ?_
  refine G_iconst (pc := 9) (v := 4) (by decide) dX12_those_9 ?_
  refine G_iald (pc := 10) (jj := 4) (v := 0) (by decide) rfl rfl (by unfold vp_in; decide) dX12_those_10 ?_
  refine G_icmp_ge (pc := 11) (tgt := 39) (by decide) dX12_those_11 (fun _ => ?_) (fun z => absurd (by decide) z)
  refine G_iload_n (pc := 39) rfl dX12_those_39 ?_
  exact G_iret (pc := 40) (Nat.le_of_ble_eq_true rfl) (Nat.le_of_ble_eq_true rfl) rfl dX12_those_40 ⟨rfl, rfl⟩
set_option maxRecDepth 100000 in
set_option maxHeartbeats 4000000 in
theorem s10094_X12_endsPlan (J : gI) (d : Nat)   : G (d + 1) mX12_endsPlan 0 0 0 0 0 (gent 6 [.ref 67, .int 0, .int 0, .int 0, .int 0]) [] SH0 RF0 (gup (gup (gup (gup (gmx J) 67 19 (-1)) 67 20 0) 67 21 5) 67 22 0) (fun r h => r = none ∧ h = (SH0, RF0, (gup (gup (gup (gup (gup (gup (gup (gup (gup (gmx J) 67 19 (-1)) 67 20 0) 67 21 5) 67 22 0) 67 20 0) 67 19 0) 67 20 1) 67 21 0) 67 22 0))) := by
  refine G_iload_n (pc := 0) rfl dX12_endsPlan_0 ?_
  refine G_aload_n (pc := 1) rfl dX12_endsPlan_1 ?_
  refine G_getI (pc := 2) (v := (-1)) (ci := 12) (j := 19) rfl rfl lk_RX12_259 rfl rfl dX12_endsPlan_2 ?_
  refine G_icmp_le (pc := 5) (tgt := 47) (by decide) dX12_endsPlan_5 (fun z => absurd z (by decide)) (fun _ => ?_)
  refine G_aload_n (pc := 8) rfl dX12_endsPlan_8 ?_
  refine G_iconst (pc := 9) (v := 0) (by decide) dX12_endsPlan_9 ?_
  refine G_putI (pc := 10) (ci := 12) (j := 20) rfl lk_RX12_262 rfl rfl rfl trivial dX12_endsPlan_10 ?_
  refine G_aload_n (pc := 13) rfl dX12_endsPlan_13 ?_
  refine G_iload_n (pc := 14) rfl dX12_endsPlan_14 ?_
  refine G_putI (pc := 15) (ci := 12) (j := 19) rfl lk_RX12_259 rfl rfl rfl trivial dX12_endsPlan_15 ?_
  refine G_iconst (pc := 18) (v := 0) (by decide) dX12_endsPlan_18 ?_
  refine G_istore (pc := 19) (L1 := [some (.ref 67), some (.int 0), some (.int 0), some (.int 0), some (.int 0), some (.int 0)]) rfl rfl (by decide) dX12_endsPlan_19 ?_
  refine G_iload (pc := 21) rfl dX12_endsPlan_21 ?_
  refine G_iload_n (pc := 23) rfl dX12_endsPlan_23 ?_
  refine G_icmp_ge (pc := 24) (tgt := 47) (by decide) dX12_endsPlan_24 (fun _ => ?_) (fun z => absurd (by decide) z)
  refine G_aload_n (pc := 47) rfl dX12_endsPlan_47 ?_
  refine G_dup (pc := 48) rfl dX12_endsPlan_48 ?_
  refine G_getI (pc := 49) (v := 0) (ci := 12) (j := 20) rfl rfl lk_RX12_262 rfl rfl dX12_endsPlan_49 ?_
  refine G_iload_n (pc := 52) rfl dX12_endsPlan_52 ?_
  refine G_aload_n (pc := 53) rfl dX12_endsPlan_53 ?_
  refine G_getI (pc := 54) (v := 0) (ci := 12) (j := 19) rfl rfl lk_RX12_259 rfl rfl dX12_endsPlan_54 ?_
  refine G_icmp_ne (pc := 57) (tgt := 64) (by decide) dX12_endsPlan_57 (fun z => absurd (by decide) z) (fun _ => ?_)
  refine G_iconst (pc := 60) (v := 1) (by decide) dX12_endsPlan_60 ?_
  refine G_goto (pc := 61) (tgt := 65) (by decide) dX12_endsPlan_61 ?_
  refine G_iadd (pc := 65) (z := 1) (by decide) dX12_endsPlan_65 ?_
  refine G_putI (pc := 66) (ci := 12) (j := 20) rfl lk_RX12_262 rfl rfl rfl trivial dX12_endsPlan_66 ?_
  refine G_aload_n (pc := 69) rfl dX12_endsPlan_69 ?_
  refine G_iconst (pc := 70) (v := 4) (by decide) dX12_endsPlan_70 ?_
  refine G_callV (pc := 71) (mc1 := 0) (ms1 := 0) (ci := 12) (mj := mX12_those) (vs := [_]) dX12_endsPlan_71 rfl rfl cm_X12_those wh_26 wh_28 wh_29 rfl (Nat.le_of_ble_eq_true rfl) (Nat.le_of_ble_eq_true rfl) (Nat.le_of_ble_eq_true rfl) (Nat.le_of_ble_eq_true rfl) (s10095_X12_those J d  ) ?_
  rintro _ _ ⟨rfl, rfl⟩
  dsimp only [Option.toList, List.cons_append, List.nil_append]
  refine G_istore (pc := 74) (L1 := [some (.ref 67), some (.int 0), some (.int 0), some (.int 0), some (.int 0), some (.int 0)]) rfl rfl (by decide) dX12_endsPlan_74 ?_
  refine G_aload_n (pc := 76) rfl dX12_endsPlan_76 ?_
  refine G_iload (pc := 77) rfl dX12_endsPlan_77 ?_
  refine G_iload (pc := 79) rfl dX12_endsPlan_79 ?_
  refine G_iconst (pc := 81) (v := (-1)) (by decide) dX12_endsPlan_81 ?_
  refine G_ixor (pc := 82) (z := (-1)) (by decide) dX12_endsPlan_82 ?_
  refine G_iand (pc := 83) (z := 0) (by decide) dX12_endsPlan_83 ?_
  refine G_if_ne (pc := 84) (tgt := 99) (by decide) dX12_endsPlan_84 (fun z => absurd (by decide) z) (fun _ => ?_)
  refine G_iload_n (pc := 87) rfl dX12_endsPlan_87 ?_
  refine G_aload_n (pc := 88) rfl dX12_endsPlan_88 ?_
  refine G_getI (pc := 89) (v := 5) (ci := 12) (j := 21) rfl rfl lk_RX12_265 rfl rfl dX12_endsPlan_89 ?_
  refine G_icmp_ge (pc := 92) (tgt := 99) (by decide) dX12_endsPlan_92 (fun z => absurd z (by decide)) (fun _ => ?_)
  refine G_iload_n (pc := 95) rfl dX12_endsPlan_95 ?_
  refine G_goto (pc := 96) (tgt := 103) (by decide) dX12_endsPlan_96 ?_
  refine G_putI (pc := 103) (ci := 12) (j := 21) rfl lk_RX12_265 rfl rfl rfl trivial dX12_endsPlan_103 ?_
  refine G_aload_n (pc := 106) rfl dX12_endsPlan_106 ?_
  refine G_dup (pc := 107) rfl dX12_endsPlan_107 ?_
  refine G_getI (pc := 108) (v := 0) (ci := 12) (j := 22) rfl rfl lk_RX12_268 rfl rfl dX12_endsPlan_108 ?_
  refine G_iload (pc := 111) rfl dX12_endsPlan_111 ?_
  refine G_ior (pc := 113) (z := 0) (by decide) dX12_endsPlan_113 ?_
  refine G_putI (pc := 114) (ci := 12) (j := 22) rfl lk_RX12_268 rfl rfl rfl trivial dX12_endsPlan_114 ?_
  exact G_vret (pc := 117) (Nat.le_of_ble_eq_true rfl) (Nat.le_of_ble_eq_true rfl) rfl dX12_endsPlan_117 ⟨rfl, rfl⟩
set_option maxRecDepth 100000 in
set_option maxHeartbeats 4000000 in
theorem s10093_X12_goesPlans (J : gI) (d : Nat)   : G (d + 2) mX12_goesPlans 0 0 0 0 0 (gent 8 [.ref 67, .int 0, .int 0, .int 0, .int 0, .int 0]) [] SH0 RF0 (gup (gup (gup (gup (gmx J) 67 19 (-1)) 67 20 0) 67 21 5) 67 22 0) (fun r h => r = none ∧ h = (SH0, RF0, (gup (gup (gup (gup (gup (gup (gup (gup (gup (gmx J) 67 19 (-1)) 67 20 0) 67 21 5) 67 22 0) 67 20 0) 67 19 0) 67 20 1) 67 21 0) 67 22 0))) := by
  refine G_iload_n (pc := 0) rfl dX12_goesPlans_0 ?_
  refine G_iload_n (pc := 1) rfl dX12_goesPlans_1 ?_
  refine G_icmp_ne (pc := 2) (tgt := 16) (by decide) dX12_goesPlans_2 (fun z => absurd (by decide) z) (fun _ => ?_)
  refine G_aload_n (pc := 5) rfl dX12_goesPlans_5 ?_
  refine G_iload_n (pc := 6) rfl dX12_goesPlans_6 ?_
  refine G_iload_n (pc := 7) rfl dX12_goesPlans_7 ?_
  refine G_iload (pc := 8) rfl dX12_goesPlans_8 ?_
  refine G_iload (pc := 10) rfl dX12_goesPlans_10 ?_
  refine G_callV (pc := 12) (mc1 := 0) (ms1 := 0) (ci := 12) (mj := mX12_endsPlan) (vs := [_, _, _, _]) dX12_goesPlans_12 rfl rfl cm_X12_endsPlan wh_95 wh_97 wh_98 rfl (Nat.le_of_ble_eq_true rfl) (Nat.le_of_ble_eq_true rfl) (Nat.le_of_ble_eq_true rfl) (Nat.le_of_ble_eq_true rfl) (s10094_X12_endsPlan J d  ) ?_
  rintro _ _ ⟨rfl, rfl⟩
  dsimp only [Option.toList, List.cons_append, List.nil_append]
  exact G_vret (pc := 15) (Nat.le_of_ble_eq_true rfl) (Nat.le_of_ble_eq_true rfl) rfl dX12_goesPlans_15 ⟨rfl, rfl⟩
set_option maxRecDepth 100000 in
set_option maxHeartbeats 4000000 in
theorem s10091_X12_triesAll (J : gI) (d : Nat)   : G (d + 3) mX12_triesAll 0 0 0 0 0 (gent 3 [.ref 67, .int 0, .int 0]) [] SH0 RF0 (gmx J) (fun r h => r = none ∧ h = (SH0, RF0, (gup (gup (gup (gup (gup (gup (gup (gup (gup (gmx J) 67 19 (-1)) 67 20 0) 67 21 5) 67 22 0) 67 20 0) 67 19 0) 67 20 1) 67 21 0) 67 22 0))) := by
  refine G_aload_n (pc := 0) rfl dX12_triesAll_0 ?_
  refine G_iconst (pc := 1) (v := (-1)) (by decide) dX12_triesAll_1 ?_
  refine G_putI (pc := 2) (ci := 12) (j := 19) rfl lk_RX12_259 rfl rfl rfl trivial dX12_triesAll_2 ?_
  refine G_aload_n (pc := 5) rfl dX12_triesAll_5 ?_
  refine G_iconst (pc := 6) (v := 0) (by decide) dX12_triesAll_6 ?_
  refine G_putI (pc := 7) (ci := 12) (j := 20) rfl lk_RX12_262 rfl rfl rfl trivial dX12_triesAll_7 ?_
  refine G_aload_n (pc := 10) rfl dX12_triesAll_10 ?_
  refine G_iconst (pc := 11) (v := 5) (by decide) dX12_triesAll_11 ?_
  refine G_putI (pc := 12) (ci := 12) (j := 21) rfl lk_RX12_265 rfl rfl rfl trivial dX12_triesAll_12 ?_
  refine G_aload_n (pc := 15) rfl dX12_triesAll_15 ?_
  refine G_iconst (pc := 16) (v := 0) (by decide) dX12_triesAll_16 ?_
  refine G_putI (pc := 17) (ci := 12) (j := 22) rfl lk_RX12_268 rfl rfl rfl trivial dX12_triesAll_17 ?_
  refine G_aload_n (pc := 20) rfl dX12_triesAll_20 ?_
  refine G_iconst (pc := 21) (v := 0) (by decide) dX12_triesAll_21 ?_
  refine G_aload_n (pc := 22) rfl dX12_triesAll_22 ?_
  refine G_iload_n (pc := 23) rfl dX12_triesAll_23 ?_
  refine G_callV (pc := 24) (mc1 := 0) (ms1 := 0) (ci := 12) (mj := mX12_daysOf) (vs := [_]) dX12_triesAll_24 rfl rfl cm_X12_daysOf wh_91 wh_93 wh_94 rfl (Nat.le_of_ble_eq_true rfl) (Nat.le_of_ble_eq_true rfl) (Nat.le_of_ble_eq_true rfl) (Nat.le_of_ble_eq_true rfl) (s10092_X12_daysOf J (d + 1)  ) ?_
  rintro _ _ ⟨rfl, rfl⟩
  dsimp only [Option.toList, List.cons_append, List.nil_append]
  refine G_iconst (pc := 27) (v := 0) (by decide) dX12_triesAll_27 ?_
  refine G_iconst (pc := 28) (v := 0) (by decide) dX12_triesAll_28 ?_
  refine G_iload_n (pc := 29) rfl dX12_triesAll_29 ?_
  refine G_callV (pc := 30) (mc1 := 0) (ms1 := 0) (ci := 12) (mj := mX12_goesPlans) (vs := [_, _, _, _, _]) dX12_triesAll_30 rfl rfl cm_X12_goesPlans wh_99 wh_101 wh_102 rfl (Nat.le_of_ble_eq_true rfl) (Nat.le_of_ble_eq_true rfl) (Nat.le_of_ble_eq_true rfl) (Nat.le_of_ble_eq_true rfl) (s10093_X12_goesPlans J d  ) ?_
  rintro _ _ ⟨rfl, rfl⟩
  dsimp only [Option.toList, List.cons_append, List.nil_append]
  exact G_vret (pc := 33) (Nat.le_of_ble_eq_true rfl) (Nat.le_of_ble_eq_true rfl) rfl dX12_triesAll_33 ⟨rfl, rfl⟩
set_option maxRecDepth 100000 in
set_option maxHeartbeats 4000000 in
theorem s10097_X12_daysOf (J : gI) (d : Nat)   : G (d + 1) mX12_daysOf 0 0 0 0 0 (gent 3 [.ref 67, .int 1]) [] SH0 RF0 (gup (gup (gup (gup (gmx J) 67 19 (-1)) 67 20 0) 67 21 5) 67 22 0) (fun r h => r = some (.int 1) ∧ h = (SH0, RF0, (gup (gup (gup (gup (gmx J) 67 19 (-1)) 67 20 0) 67 21 5) 67 22 0))) := by
  refine G_aload_n (pc := 0) rfl dX12_daysOf_0 ?_
  refine G_callV (pc := 1) (mc1 := 0) (ms1 := 0) (ci := 12) (mj := mX12_isOver) (vs := []) dX12_daysOf_1 rfl rfl cm_X12_isOver wh_22 wh_24 wh_25 rfl (Nat.le_of_ble_eq_true rfl) (Nat.le_of_ble_eq_true rfl) (Nat.le_of_ble_eq_true rfl) (Nat.le_of_ble_eq_true rfl) (s10090_X12_isOver J d  ) ?_
  rintro _ _ ⟨rfl, rfl⟩
  dsimp only [Option.toList, List.cons_append, List.nil_append]
  refine G_if_eq (pc := 4) (tgt := 11) (by decide) dX12_daysOf_4 (fun _ => ?_) (fun z => absurd (by decide) z)
  refine G_aload_n (pc := 11) rfl dX12_daysOf_11 ?_
  refine G_getR (pc := 12) (r := 68) (ci := 12) (j := 0) rfl lk_RX12_9 rfl rfl rfl dX12_daysOf_12 ?_
  refine G_iconst (pc := 15) (v := 1) (by decide) dX12_daysOf_15 ?_
  refine G_iald (pc := 16) (jj := 1) (v := 12) (by decide) rfl rfl (by unfold vp_in; decide) dX12_daysOf_16 ?_
  refine G_aload_n (pc := 17) rfl dX12_daysOf_17 ?_
  refine G_getR (pc := 18) (r := 68) (ci := 12) (j := 0) rfl lk_RX12_9 rfl rfl rfl dX12_daysOf_18 ?_
  refine G_iconst (pc := 21) (v := 0) (by decide) dX12_daysOf_21 ?_
  refine G_iald (pc := 22) (jj := 0) (v := 0) (by decide) rfl rfl (by unfold vp_in; decide) dX12_daysOf_22 ?_
  refine G_isub (pc := 23) (z := 12) (by decide) dX12_daysOf_23 ?_
  refine G_istore_n (pc := 24) (L1 := [some (.ref 67), some (.int 1), some (.int 12)]) rfl rfl (by decide) dX12_daysOf_24 ?_
  refine G_iload_n (pc := 25) rfl dX12_daysOf_25 ?_
  refine G_iload_n (pc := 26) rfl dX12_daysOf_26 ?_
  refine G_icmp_ge (pc := 27) (tgt := 34) (by decide) dX12_daysOf_27 (fun z => absurd z (by decide)) (fun _ => ?_)
  refine G_iload_n (pc := 30) rfl dX12_daysOf_30 ?_
  refine G_goto (pc := 31) (tgt := 35) (by decide) dX12_daysOf_31 ?_
  exact G_iret (pc := 35) (Nat.le_of_ble_eq_true rfl) (Nat.le_of_ble_eq_true rfl) rfl dX12_daysOf_35 ⟨rfl, rfl⟩
set_option maxRecDepth 100000 in
set_option maxHeartbeats 4000000 in
theorem s10099_X12_goesBy (J : gI) (d : Nat)   : G (d) mX12_goesBy 0 0 0 0 0 (gent 5 [.ref 67, .int 0]) [] SH0 RF0 (gup (gcp (gup (gup (gup (gup (gmx J) 67 19 (-1)) 67 20 0) 67 21 5) 67 22 0) 68 76 0 0 65) 77 0 0) (fun r h => r = some (.int 0) ∧ h = (SH0, RF0, (gup (gup (gup (gcp (gup (gup (gup (gup (gmx J) 67 19 (-1)) 67 20 0) 67 21 5) 67 22 0) 68 76 0 0 65) 77 0 0) 68 0 1) 68 2 0))) := by
  refine G_iload_n (pc := 0) rfl dX12_goesBy_0 ?_
  refine G_if_ge (pc := 1) (tgt := 11) (by decide) dX12_goesBy_1 (fun _ => ?_) (fun z => absurd (by decide) z)
  refine G_iload_n (pc := 11) rfl dX12_goesBy_11 ?_
  refine G_iconst (pc := 12) (v := 1) (by decide) dX12_goesBy_12 ?_
  refine G_isub (pc := 13) (z := (-1)) (by decide) dX12_goesBy_13 ?_
  refine G_istore_n (pc := 14) (L1 := [some (.ref 67), some (.int 0), some (.int (-1)), none, none]) rfl rfl (by decide) dX12_goesBy_14 ?_
  refine G_iload_n (pc := 15) rfl dX12_goesBy_15 ?_
  refine G_if_lt (pc := 16) (tgt := 27) (by decide) dX12_goesBy_16 (fun _ => ?_) (fun z => absurd (by decide) z)
  refine G_iconst (pc := 27) (v := 0) (by decide) dX12_goesBy_27 ?_
  refine G_istore_n (pc := 28) (L1 := [some (.ref 67), some (.int 0), some (.int (-1)), some (.int 0), none]) rfl rfl (by decide) dX12_goesBy_28 ?_
  refine G_iconst (pc := 29) (v := 0) (by decide) dX12_goesBy_29 ?_
  refine G_istore (pc := 30) (L1 := [some (.ref 67), some (.int 0), some (.int (-1)), some (.int 0), some (.int 0)]) rfl rfl (by decide) dX12_goesBy_30 ?_
  refine G_iload (pc := 32) rfl dX12_goesBy_32 ?_
  refine G_aload_n (pc := 34) rfl dX12_goesBy_34 ?_
  refine G_getR (pc := 35) (r := 68) (ci := 12) (j := 0) rfl lk_RX12_9 rfl rfl rfl dX12_goesBy_35 ?_
  refine G_iconst (pc := 38) (v := 4) (by decide) dX12_goesBy_38 ?_
  refine G_iald (pc := 39) (jj := 4) (v := 0) (by decide) rfl rfl (by unfold vp_in; decide) dX12_goesBy_39 ?_
  refine G_icmp_ge (pc := 40) (tgt := 104) (by decide) dX12_goesBy_40 (fun _ => ?_) (fun z => absurd (by decide) z)
  refine G_aload_n (pc := 104) rfl dX12_goesBy_104 ?_
  refine G_getR (pc := 105) (r := 68) (ci := 12) (j := 0) rfl lk_RX12_9 rfl rfl rfl dX12_goesBy_105 ?_
  refine G_iconst (pc := 108) (v := 0) (by decide) dX12_goesBy_108 ?_
  refine G_dup2 (pc := 109) rfl rfl dX12_goesBy_109 ?_
  refine G_iald (pc := 110) (jj := 0) (v := 0) (by decide) rfl rfl (by unfold vp_in; decide) dX12_goesBy_110 ?_
  refine G_iconst (pc := 111) (v := 1) (by decide) dX12_goesBy_111 ?_
  refine G_iadd (pc := 112) (z := 1) (by decide) dX12_goesBy_112 ?_
  refine G_iast (pc := 113) (jj := 0) (by decide) rfl (by unfold vp_in; decide) dX12_goesBy_113 ?_
  refine G_aload_n (pc := 114) rfl dX12_goesBy_114 ?_
  refine G_getR (pc := 115) (r := 68) (ci := 12) (j := 0) rfl lk_RX12_9 rfl rfl rfl dX12_goesBy_115 ?_
  refine G_iconst (pc := 118) (v := 2) (by decide) dX12_goesBy_118 ?_
  refine G_dup2 (pc := 119) rfl rfl dX12_goesBy_119 ?_
  refine G_iald (pc := 120) (jj := 2) (v := 0) (by decide) rfl rfl (by unfold vp_in; decide) dX12_goesBy_120 ?_
  refine G_iload_n (pc := 121) rfl dX12_goesBy_121 ?_
  refine G_iadd (pc := 122) (z := 0) (by decide) dX12_goesBy_122 ?_
  refine G_iast (pc := 123) (jj := 2) (by decide) rfl (by unfold vp_in; decide) dX12_goesBy_123 ?_
  refine G_iload_n (pc := 124) rfl dX12_goesBy_124 ?_
  exact G_iret (pc := 125) (Nat.le_of_ble_eq_true rfl) (Nat.le_of_ble_eq_true rfl) rfl dX12_goesBy_125 ⟨rfl, rfl⟩
set_option maxRecDepth 100000 in
set_option maxHeartbeats 4000000 in
theorem s10102_X12_those (J : gI) (d : Nat)   : G (d) mX12_those 0 0 0 0 0 (gent 4 [.ref 67, .int 4]) [] SH0 RF0 (gup (gup (gup (gup (gup (gup (gup (gcp (gup (gup (gup (gup (gmx J) 67 19 (-1)) 67 20 0) 67 21 5) 67 22 0) 68 76 0 0 65) 77 0 0) 68 0 1) 68 2 0) 67 20 0) 67 19 0) 78 0 0) 67 20 1) (fun r h => r = some (.int 0) ∧ h = (SH0, RF0, (gup (gup (gup (gup (gup (gup (gup (gcp (gup (gup (gup (gup (gmx J) 67 19 (-1)) 67 20 0) 67 21 5) 67 22 0) 68 76 0 0 65) 77 0 0) 68 0 1) 68 2 0) 67 20 0) 67 19 0) 78 0 0) 67 20 1))) := by
  refine G_iconst (pc := 0) (v := 0) (by decide) dX12_those_0 ?_
  refine G_istore_n (pc := 1) (L1 := [some (.ref 67), some (.int 4), some (.int 0), none]) rfl rfl (by decide) dX12_those_1 ?_
  refine G_iconst (pc := 2) (v := 0) (by decide) dX12_those_2 ?_
  refine G_istore_n (pc := 3) (L1 := [some (.ref 67), some (.int 4), some (.int 0), some (.int 0)]) rfl rfl (by decide) dX12_those_3 ?_
  refine G_iload_n (pc := 4) rfl dX12_those_4 ?_
  refine G_aload_n (pc := 5) rfl dX12_those_5 ?_
  refine G_getR (pc := 6) (r := 68) (ci := 12) (j := 0) rfl lk_RX12_9 rfl rfl rfl dX12_those_6 ?_
  refine G_iconst (pc := 9) (v := 4) (by decide) dX12_those_9 ?_
  refine G_iald (pc := 10) (jj := 4) (v := 0) (by decide) rfl rfl (by unfold vp_in; decide) dX12_those_10 ?_
  refine G_icmp_ge (pc := 11) (tgt := 39) (by decide) dX12_those_11 (fun _ => ?_) (fun z => absurd (by decide) z)
  refine G_iload_n (pc := 39) rfl dX12_those_39 ?_
  exact G_iret (pc := 40) (Nat.le_of_ble_eq_true rfl) (Nat.le_of_ble_eq_true rfl) rfl dX12_those_40 ⟨rfl, rfl⟩
set_option maxRecDepth 100000 in
set_option maxHeartbeats 4000000 in
theorem s10101_X12_endsPlan (J : gI) (d : Nat)   : G (d + 1) mX12_endsPlan 0 0 0 0 0 (gent 6 [.ref 67, .int 1, .int 0, .int 0, .int 0]) [] SH0 RF0 (gup (gup (gup (gcp (gup (gup (gup (gup (gmx J) 67 19 (-1)) 67 20 0) 67 21 5) 67 22 0) 68 76 0 0 65) 77 0 0) 68 0 1) 68 2 0) (fun r h => r = none ∧ h = (SH0, RF0, (gup (gup (gup (gup (gup (gup (gup (gup (gup (gcp (gup (gup (gup (gup (gmx J) 67 19 (-1)) 67 20 0) 67 21 5) 67 22 0) 68 76 0 0 65) 77 0 0) 68 0 1) 68 2 0) 67 20 0) 67 19 0) 78 0 0) 67 20 1) 67 21 0) 67 22 0))) := by
  refine G_iload_n (pc := 0) rfl dX12_endsPlan_0 ?_
  refine G_aload_n (pc := 1) rfl dX12_endsPlan_1 ?_
  refine G_getI (pc := 2) (v := (-1)) (ci := 12) (j := 19) rfl rfl lk_RX12_259 rfl rfl dX12_endsPlan_2 ?_
  refine G_icmp_le (pc := 5) (tgt := 47) (by decide) dX12_endsPlan_5 (fun z => absurd z (by decide)) (fun _ => ?_)
  refine G_aload_n (pc := 8) rfl dX12_endsPlan_8 ?_
  refine G_iconst (pc := 9) (v := 0) (by decide) dX12_endsPlan_9 ?_
  refine G_putI (pc := 10) (ci := 12) (j := 20) rfl lk_RX12_262 rfl rfl rfl trivial dX12_endsPlan_10 ?_
  refine G_aload_n (pc := 13) rfl dX12_endsPlan_13 ?_
  refine G_iload_n (pc := 14) rfl dX12_endsPlan_14 ?_
  refine G_putI (pc := 15) (ci := 12) (j := 19) rfl lk_RX12_259 rfl rfl rfl trivial dX12_endsPlan_15 ?_
  refine G_iconst (pc := 18) (v := 0) (by decide) dX12_endsPlan_18 ?_
  refine G_istore (pc := 19) (L1 := [some (.ref 67), some (.int 1), some (.int 0), some (.int 0), some (.int 0), some (.int 0)]) rfl rfl (by decide) dX12_endsPlan_19 ?_
  refine G_iload (pc := 21) rfl dX12_endsPlan_21 ?_
  refine G_iload_n (pc := 23) rfl dX12_endsPlan_23 ?_
  refine G_icmp_ge (pc := 24) (tgt := 47) (by decide) dX12_endsPlan_24 (fun z => absurd z (by decide)) (fun _ => ?_)
  refine G_aload_n (pc := 27) rfl dX12_endsPlan_27 ?_
  refine G_getR (pc := 28) (r := 78) (ci := 12) (j := 18) rfl lk_RX12_41 rfl rfl rfl dX12_endsPlan_28 ?_
  refine G_iload (pc := 31) rfl dX12_endsPlan_31 ?_
  refine G_aload_n (pc := 33) rfl dX12_endsPlan_33 ?_
  refine G_getR (pc := 34) (r := 77) (ci := 12) (j := 17) rfl lk_RX12_38 rfl rfl rfl dX12_endsPlan_34 ?_
  refine G_iload (pc := 37) rfl dX12_endsPlan_37 ?_
  refine G_iald (pc := 39) (jj := 0) (v := 0) (by decide) rfl rfl (by unfold vp_in; decide) dX12_endsPlan_39 ?_
  refine G_iast (pc := 40) (jj := 0) (by decide) rfl (by unfold vp_in; decide) dX12_endsPlan_40 ?_
  refine G_iinc (pc := 41) (v := 1) (w := 1) (L1 := [some (.ref 67), some (.int 1), some (.int 0), some (.int 0), some (.int 0), some (.int 1)]) (by decide) rfl rfl (by decide) rfl (by decide) dX12_endsPlan_41 ?_
  refine G_goto (pc := 44) (tgt := 21) (by decide) dX12_endsPlan_44 ?_
  refine G_iload (pc := 21) rfl dX12_endsPlan_21 ?_
  refine G_iload_n (pc := 23) rfl dX12_endsPlan_23 ?_
  refine G_icmp_ge (pc := 24) (tgt := 47) (by decide) dX12_endsPlan_24 (fun _ => ?_) (fun z => absurd (by decide) z)
  refine G_aload_n (pc := 47) rfl dX12_endsPlan_47 ?_
  refine G_dup (pc := 48) rfl dX12_endsPlan_48 ?_
  refine G_getI (pc := 49) (v := 0) (ci := 12) (j := 20) rfl rfl lk_RX12_262 rfl rfl dX12_endsPlan_49 ?_
  refine G_iload_n (pc := 52) rfl dX12_endsPlan_52 ?_
  refine G_aload_n (pc := 53) rfl dX12_endsPlan_53 ?_
  refine G_getI (pc := 54) (v := 0) (ci := 12) (j := 19) rfl rfl lk_RX12_259 rfl rfl dX12_endsPlan_54 ?_
  refine G_icmp_ne (pc := 57) (tgt := 64) (by decide) dX12_endsPlan_57 (fun z => absurd (by decide) z) (fun _ => ?_)
  refine G_iconst (pc := 60) (v := 1) (by decide) dX12_endsPlan_60 ?_
  refine G_goto (pc := 61) (tgt := 65) (by decide) dX12_endsPlan_61 ?_
  refine G_iadd (pc := 65) (z := 1) (by decide) dX12_endsPlan_65 ?_
  refine G_putI (pc := 66) (ci := 12) (j := 20) rfl lk_RX12_262 rfl rfl rfl trivial dX12_endsPlan_66 ?_
  refine G_aload_n (pc := 69) rfl dX12_endsPlan_69 ?_
  refine G_iconst (pc := 70) (v := 4) (by decide) dX12_endsPlan_70 ?_
  refine G_callV (pc := 71) (mc1 := 0) (ms1 := 0) (ci := 12) (mj := mX12_those) (vs := [_]) dX12_endsPlan_71 rfl rfl cm_X12_those wh_26 wh_28 wh_29 rfl (Nat.le_of_ble_eq_true rfl) (Nat.le_of_ble_eq_true rfl) (Nat.le_of_ble_eq_true rfl) (Nat.le_of_ble_eq_true rfl) (s10102_X12_those J d  ) ?_
  rintro _ _ ⟨rfl, rfl⟩
  dsimp only [Option.toList, List.cons_append, List.nil_append]
  refine G_istore (pc := 74) (L1 := [some (.ref 67), some (.int 1), some (.int 0), some (.int 0), some (.int 0), some (.int 0)]) rfl rfl (by decide) dX12_endsPlan_74 ?_
  refine G_aload_n (pc := 76) rfl dX12_endsPlan_76 ?_
  refine G_iload (pc := 77) rfl dX12_endsPlan_77 ?_
  refine G_iload (pc := 79) rfl dX12_endsPlan_79 ?_
  refine G_iconst (pc := 81) (v := (-1)) (by decide) dX12_endsPlan_81 ?_
  refine G_ixor (pc := 82) (z := (-1)) (by decide) dX12_endsPlan_82 ?_
  refine G_iand (pc := 83) (z := 0) (by decide) dX12_endsPlan_83 ?_
  refine G_if_ne (pc := 84) (tgt := 99) (by decide) dX12_endsPlan_84 (fun z => absurd (by decide) z) (fun _ => ?_)
  refine G_iload_n (pc := 87) rfl dX12_endsPlan_87 ?_
  refine G_aload_n (pc := 88) rfl dX12_endsPlan_88 ?_
  refine G_getI (pc := 89) (v := 5) (ci := 12) (j := 21) rfl rfl lk_RX12_265 rfl rfl dX12_endsPlan_89 ?_
  refine G_icmp_ge (pc := 92) (tgt := 99) (by decide) dX12_endsPlan_92 (fun z => absurd z (by decide)) (fun _ => ?_)
  refine G_iload_n (pc := 95) rfl dX12_endsPlan_95 ?_
  refine G_goto (pc := 96) (tgt := 103) (by decide) dX12_endsPlan_96 ?_
  refine G_putI (pc := 103) (ci := 12) (j := 21) rfl lk_RX12_265 rfl rfl rfl trivial dX12_endsPlan_103 ?_
  refine G_aload_n (pc := 106) rfl dX12_endsPlan_106 ?_
  refine G_dup (pc := 107) rfl dX12_endsPlan_107 ?_
  refine G_getI (pc := 108) (v := 0) (ci := 12) (j := 22) rfl rfl lk_RX12_268 rfl rfl dX12_endsPlan_108 ?_
  refine G_iload (pc := 111) rfl dX12_endsPlan_111 ?_
  refine G_ior (pc := 113) (z := 0) (by decide) dX12_endsPlan_113 ?_
  refine G_putI (pc := 114) (ci := 12) (j := 22) rfl lk_RX12_268 rfl rfl rfl trivial dX12_endsPlan_114 ?_
  exact G_vret (pc := 117) (Nat.le_of_ble_eq_true rfl) (Nat.le_of_ble_eq_true rfl) rfl dX12_endsPlan_117 ⟨rfl, rfl⟩
set_option maxRecDepth 100000 in
set_option maxHeartbeats 4000000 in
theorem s10100_X12_goesPlans (J : gI) (d : Nat)   : G (d + 2) mX12_goesPlans 0 0 0 0 0 (gent 8 [.ref 67, .int 1, .int 1, .int 0, .int 0, .int 0]) [] SH0 RF0 (gup (gup (gup (gcp (gup (gup (gup (gup (gmx J) 67 19 (-1)) 67 20 0) 67 21 5) 67 22 0) 68 76 0 0 65) 77 0 0) 68 0 1) 68 2 0) (fun r h => r = none ∧ h = (SH0, RF0, (gup (gup (gup (gup (gup (gup (gup (gup (gup (gcp (gup (gup (gup (gup (gmx J) 67 19 (-1)) 67 20 0) 67 21 5) 67 22 0) 68 76 0 0 65) 77 0 0) 68 0 1) 68 2 0) 67 20 0) 67 19 0) 78 0 0) 67 20 1) 67 21 0) 67 22 0))) := by
  refine G_iload_n (pc := 0) rfl dX12_goesPlans_0 ?_
  refine G_iload_n (pc := 1) rfl dX12_goesPlans_1 ?_
  refine G_icmp_ne (pc := 2) (tgt := 16) (by decide) dX12_goesPlans_2 (fun z => absurd (by decide) z) (fun _ => ?_)
  refine G_aload_n (pc := 5) rfl dX12_goesPlans_5 ?_
  refine G_iload_n (pc := 6) rfl dX12_goesPlans_6 ?_
  refine G_iload_n (pc := 7) rfl dX12_goesPlans_7 ?_
  refine G_iload (pc := 8) rfl dX12_goesPlans_8 ?_
  refine G_iload (pc := 10) rfl dX12_goesPlans_10 ?_
  refine G_callV (pc := 12) (mc1 := 0) (ms1 := 0) (ci := 12) (mj := mX12_endsPlan) (vs := [_, _, _, _]) dX12_goesPlans_12 rfl rfl cm_X12_endsPlan wh_95 wh_97 wh_98 rfl (Nat.le_of_ble_eq_true rfl) (Nat.le_of_ble_eq_true rfl) (Nat.le_of_ble_eq_true rfl) (Nat.le_of_ble_eq_true rfl) (s10101_X12_endsPlan J d  ) ?_
  rintro _ _ ⟨rfl, rfl⟩
  dsimp only [Option.toList, List.cons_append, List.nil_append]
  exact G_vret (pc := 15) (Nat.le_of_ble_eq_true rfl) (Nat.le_of_ble_eq_true rfl) rfl dX12_goesPlans_15 ⟨rfl, rfl⟩
set_option maxRecDepth 100000 in
set_option maxHeartbeats 4000000 in
theorem s10098_X12_goesPlans (J : gI) (d : Nat)   : G (d + 3) mX12_goesPlans 0 0 0 0 0 (gent 8 [.ref 67, .int 0, .int 1, .int 0, .int 0, .int 0]) [] SH0 RF0 (gup (gup (gup (gup (gmx J) 67 19 (-1)) 67 20 0) 67 21 5) 67 22 0) (fun r h => r = none ∧ h = (SH0, RF0, (gcp (gup (gup (gup (gup (gup (gup (gup (gup (gup (gcp (gup (gup (gup (gup (gmx J) 67 19 (-1)) 67 20 0) 67 21 5) 67 22 0) 68 76 0 0 65) 77 0 0) 68 0 1) 68 2 0) 67 20 0) 67 19 0) 78 0 0) 67 20 1) 67 21 0) 67 22 0) 76 68 0 0 65))) := by
  refine G_iload_n (pc := 0) rfl dX12_goesPlans_0 ?_
  refine G_iload_n (pc := 1) rfl dX12_goesPlans_1 ?_
  refine G_icmp_ne (pc := 2) (tgt := 16) (by decide) dX12_goesPlans_2 (fun _ => ?_) (fun z => absurd z (by decide))
  refine G_aload_n (pc := 16) rfl dX12_goesPlans_16 ?_
  refine G_iload_n (pc := 17) rfl dX12_goesPlans_17 ?_
  refine G_callV (pc := 18) (mc1 := 0) (ms1 := 0) (ci := 12) (mj := mX12_saves) (vs := [_]) dX12_goesPlans_18 rfl rfl cm_X12_saves wh_107 wh_109 wh_110 rfl (Nat.le_of_ble_eq_true rfl) (Nat.le_of_ble_eq_true rfl) (Nat.le_of_ble_eq_true rfl) (Nat.le_of_ble_eq_true rfl) (saves_0 (d + 2) (gup (gup (gup (gup (gmx J) 67 19 (-1)) 67 20 0) 67 21 5) 67 22 0)) ?_
  rintro _ _ ⟨rfl, rfl⟩
  dsimp only [Option.toList, List.cons_append, List.nil_append]
  refine G_iconst (pc := 21) (v := 0) (by decide) dX12_goesPlans_21 ?_
  refine G_istore (pc := 22) (L1 := [some (.ref 67), some (.int 0), some (.int 1), some (.int 0), some (.int 0), some (.int 0), some (.int 0), none]) rfl rfl (by decide) dX12_goesPlans_22 ?_
  refine G_iload (pc := 24) rfl dX12_goesPlans_24 ?_
  refine G_aload_n (pc := 26) rfl dX12_goesPlans_26 ?_
  refine G_getR (pc := 27) (r := 68) (ci := 12) (j := 0) rfl lk_RX12_9 rfl rfl rfl dX12_goesPlans_27 ?_
  refine G_iconst (pc := 30) (v := 4) (by decide) dX12_goesPlans_30 ?_
  refine G_iald (pc := 31) (jj := 4) (v := 0) (by decide) rfl rfl (by unfold vp_in; decide) dX12_goesPlans_31 ?_
  refine G_icmp_gt (pc := 32) (tgt := 90) (by decide) dX12_goesPlans_32 (fun z => absurd z (by decide)) (fun _ => ?_)
  refine G_aload_n (pc := 35) rfl dX12_goesPlans_35 ?_
  refine G_getR (pc := 36) (r := 77) (ci := 12) (j := 17) rfl lk_RX12_38 rfl rfl rfl dX12_goesPlans_36 ?_
  refine G_iload_n (pc := 39) rfl dX12_goesPlans_39 ?_
  refine G_iload (pc := 40) rfl dX12_goesPlans_40 ?_
  refine G_iast (pc := 42) (jj := 0) (by decide) rfl (by unfold vp_in; decide) dX12_goesPlans_42 ?_
  refine G_aload_n (pc := 43) rfl dX12_goesPlans_43 ?_
  refine G_iload (pc := 44) rfl dX12_goesPlans_44 ?_
  refine G_callV (pc := 46) (mc1 := 0) (ms1 := 0) (ci := 12) (mj := mX12_goesBy) (vs := [_]) dX12_goesPlans_46 rfl rfl cm_X12_goesBy wh_72 wh_74 wh_75 rfl (Nat.le_of_ble_eq_true rfl) (Nat.le_of_ble_eq_true rfl) (Nat.le_of_ble_eq_true rfl) (Nat.le_of_ble_eq_true rfl) (s10099_X12_goesBy J (d + 2)  ) ?_
  rintro _ _ ⟨rfl, rfl⟩
  dsimp only [Option.toList, List.cons_append, List.nil_append]
  refine G_istore (pc := 49) (L1 := [some (.ref 67), some (.int 0), some (.int 1), some (.int 0), some (.int 0), some (.int 0), some (.int 0), some (.int 0)]) rfl rfl (by decide) dX12_goesPlans_49 ?_
  refine G_aload_n (pc := 51) rfl dX12_goesPlans_51 ?_
  refine G_iload_n (pc := 52) rfl dX12_goesPlans_52 ?_
  refine G_iconst (pc := 53) (v := 1) (by decide) dX12_goesPlans_53 ?_
  refine G_iadd (pc := 54) (z := 1) (by decide) dX12_goesPlans_54 ?_
  refine G_iload_n (pc := 55) rfl dX12_goesPlans_55 ?_
  refine G_iload_n (pc := 56) rfl dX12_goesPlans_56 ?_
  refine G_iload (pc := 57) rfl dX12_goesPlans_57 ?_
  refine G_iadd (pc := 59) (z := 0) (by decide) dX12_goesPlans_59 ?_
  refine G_iload (pc := 60) rfl dX12_goesPlans_60 ?_
  refine G_if_le (pc := 62) (tgt := 72) (by decide) dX12_goesPlans_62 (fun _ => ?_) (fun z => absurd (by decide) z)
  refine G_iload (pc := 72) rfl dX12_goesPlans_72 ?_
  refine G_iload (pc := 74) rfl dX12_goesPlans_74 ?_
  refine G_callV (pc := 76) (mc1 := 0) (ms1 := 0) (ci := 12) (mj := mX12_goesPlans) (vs := [_, _, _, _, _]) dX12_goesPlans_76 rfl rfl cm_X12_goesPlans wh_99 wh_101 wh_102 rfl (Nat.le_of_ble_eq_true rfl) (Nat.le_of_ble_eq_true rfl) (Nat.le_of_ble_eq_true rfl) (Nat.le_of_ble_eq_true rfl) (s10100_X12_goesPlans J d  ) ?_
  rintro _ _ ⟨rfl, rfl⟩
  dsimp only [Option.toList, List.cons_append, List.nil_append]
  refine G_aload_n (pc := 79) rfl dX12_goesPlans_79 ?_
  refine G_iload_n (pc := 80) rfl dX12_goesPlans_80 ?_
  refine G_callV (pc := 81) (mc1 := 0) (ms1 := 0) (ci := 12) (mj := mX12_restores) (vs := [_]) dX12_goesPlans_81 rfl rfl cm_X12_restores wh_111 wh_113 wh_114 rfl (Nat.le_of_ble_eq_true rfl) (Nat.le_of_ble_eq_true rfl) (Nat.le_of_ble_eq_true rfl) (Nat.le_of_ble_eq_true rfl) (restores_0 (d + 2) (gup (gup (gup (gup (gup (gup (gup (gup (gup (gcp (gup (gup (gup (gup (gmx J) 67 19 (-1)) 67 20 0) 67 21 5) 67 22 0) 68 76 0 0 65) 77 0 0) 68 0 1) 68 2 0) 67 20 0) 67 19 0) 78 0 0) 67 20 1) 67 21 0) 67 22 0)) ?_
  rintro _ _ ⟨rfl, rfl⟩
  dsimp only [Option.toList, List.cons_append, List.nil_append]
  refine G_iinc (pc := 84) (v := 1) (w := 1) (L1 := [some (.ref 67), some (.int 0), some (.int 1), some (.int 0), some (.int 0), some (.int 0), some (.int 1), some (.int 0)]) (by decide) rfl rfl (by decide) rfl (by decide) dX12_goesPlans_84 ?_
  refine G_goto (pc := 87) (tgt := 24) (by decide) dX12_goesPlans_87 ?_
  refine G_iload (pc := 24) rfl dX12_goesPlans_24 ?_
  refine G_aload_n (pc := 26) rfl dX12_goesPlans_26 ?_
  refine G_getR (pc := 27) (r := 68) (ci := 12) (j := 0) rfl lk_RX12_9 rfl rfl rfl dX12_goesPlans_27 ?_
  refine G_iconst (pc := 30) (v := 4) (by decide) dX12_goesPlans_30 ?_
  refine G_iald (pc := 31) (jj := 4) (v := 0) (by decide) rfl rfl (by unfold vp_in; decide) dX12_goesPlans_31 ?_
  refine G_icmp_gt (pc := 32) (tgt := 90) (by decide) dX12_goesPlans_32 (fun _ => ?_) (fun z => absurd (by decide) z)
  exact G_vret (pc := 90) (Nat.le_of_ble_eq_true rfl) (Nat.le_of_ble_eq_true rfl) rfl dX12_goesPlans_90 ⟨rfl, rfl⟩
set_option maxRecDepth 100000 in
set_option maxHeartbeats 4000000 in
theorem s10096_X12_triesAll (J : gI) (d : Nat)   : G (d + 4) mX12_triesAll 0 0 0 0 0 (gent 3 [.ref 67, .int 1, .int 0]) [] SH0 RF0 (gmx J) (fun r h => r = none ∧ h = (SH0, RF0, (gcp (gup (gup (gup (gup (gup (gup (gup (gup (gup (gcp (gup (gup (gup (gup (gmx J) 67 19 (-1)) 67 20 0) 67 21 5) 67 22 0) 68 76 0 0 65) 77 0 0) 68 0 1) 68 2 0) 67 20 0) 67 19 0) 78 0 0) 67 20 1) 67 21 0) 67 22 0) 76 68 0 0 65))) := by
  refine G_aload_n (pc := 0) rfl dX12_triesAll_0 ?_
  refine G_iconst (pc := 1) (v := (-1)) (by decide) dX12_triesAll_1 ?_
  refine G_putI (pc := 2) (ci := 12) (j := 19) rfl lk_RX12_259 rfl rfl rfl trivial dX12_triesAll_2 ?_
  refine G_aload_n (pc := 5) rfl dX12_triesAll_5 ?_
  refine G_iconst (pc := 6) (v := 0) (by decide) dX12_triesAll_6 ?_
  refine G_putI (pc := 7) (ci := 12) (j := 20) rfl lk_RX12_262 rfl rfl rfl trivial dX12_triesAll_7 ?_
  refine G_aload_n (pc := 10) rfl dX12_triesAll_10 ?_
  refine G_iconst (pc := 11) (v := 5) (by decide) dX12_triesAll_11 ?_
  refine G_putI (pc := 12) (ci := 12) (j := 21) rfl lk_RX12_265 rfl rfl rfl trivial dX12_triesAll_12 ?_
  refine G_aload_n (pc := 15) rfl dX12_triesAll_15 ?_
  refine G_iconst (pc := 16) (v := 0) (by decide) dX12_triesAll_16 ?_
  refine G_putI (pc := 17) (ci := 12) (j := 22) rfl lk_RX12_268 rfl rfl rfl trivial dX12_triesAll_17 ?_
  refine G_aload_n (pc := 20) rfl dX12_triesAll_20 ?_
  refine G_iconst (pc := 21) (v := 0) (by decide) dX12_triesAll_21 ?_
  refine G_aload_n (pc := 22) rfl dX12_triesAll_22 ?_
  refine G_iload_n (pc := 23) rfl dX12_triesAll_23 ?_
  refine G_callV (pc := 24) (mc1 := 0) (ms1 := 0) (ci := 12) (mj := mX12_daysOf) (vs := [_]) dX12_triesAll_24 rfl rfl cm_X12_daysOf wh_91 wh_93 wh_94 rfl (Nat.le_of_ble_eq_true rfl) (Nat.le_of_ble_eq_true rfl) (Nat.le_of_ble_eq_true rfl) (Nat.le_of_ble_eq_true rfl) (s10097_X12_daysOf J (d + 2)  ) ?_
  rintro _ _ ⟨rfl, rfl⟩
  dsimp only [Option.toList, List.cons_append, List.nil_append]
  refine G_iconst (pc := 27) (v := 0) (by decide) dX12_triesAll_27 ?_
  refine G_iconst (pc := 28) (v := 0) (by decide) dX12_triesAll_28 ?_
  refine G_iload_n (pc := 29) rfl dX12_triesAll_29 ?_
  refine G_callV (pc := 30) (mc1 := 0) (ms1 := 0) (ci := 12) (mj := mX12_goesPlans) (vs := [_, _, _, _, _]) dX12_triesAll_30 rfl rfl cm_X12_goesPlans wh_99 wh_101 wh_102 rfl (Nat.le_of_ble_eq_true rfl) (Nat.le_of_ble_eq_true rfl) (Nat.le_of_ble_eq_true rfl) (Nat.le_of_ble_eq_true rfl) (s10098_X12_goesPlans J d  ) ?_
  rintro _ _ ⟨rfl, rfl⟩
  dsimp only [Option.toList, List.cons_append, List.nil_append]
  exact G_vret (pc := 33) (Nat.le_of_ble_eq_true rfl) (Nat.le_of_ble_eq_true rfl) rfl dX12_triesAll_33 ⟨rfl, rfl⟩
set_option maxRecDepth 100000 in
set_option maxHeartbeats 4000000 in
theorem s10104_X12_daysOf (J : gI) (d : Nat)   : G (d + 1) mX12_daysOf 0 0 0 0 0 (gent 3 [.ref 67, .int 2]) [] SH0 RF0 (gup (gup (gup (gup (gmx J) 67 19 (-1)) 67 20 0) 67 21 5) 67 22 0) (fun r h => r = some (.int 2) ∧ h = (SH0, RF0, (gup (gup (gup (gup (gmx J) 67 19 (-1)) 67 20 0) 67 21 5) 67 22 0))) := by
  refine G_aload_n (pc := 0) rfl dX12_daysOf_0 ?_
  refine G_callV (pc := 1) (mc1 := 0) (ms1 := 0) (ci := 12) (mj := mX12_isOver) (vs := []) dX12_daysOf_1 rfl rfl cm_X12_isOver wh_22 wh_24 wh_25 rfl (Nat.le_of_ble_eq_true rfl) (Nat.le_of_ble_eq_true rfl) (Nat.le_of_ble_eq_true rfl) (Nat.le_of_ble_eq_true rfl) (s10090_X12_isOver J d  ) ?_
  rintro _ _ ⟨rfl, rfl⟩
  dsimp only [Option.toList, List.cons_append, List.nil_append]
  refine G_if_eq (pc := 4) (tgt := 11) (by decide) dX12_daysOf_4 (fun _ => ?_) (fun z => absurd (by decide) z)
  refine G_aload_n (pc := 11) rfl dX12_daysOf_11 ?_
  refine G_getR (pc := 12) (r := 68) (ci := 12) (j := 0) rfl lk_RX12_9 rfl rfl rfl dX12_daysOf_12 ?_
  refine G_iconst (pc := 15) (v := 1) (by decide) dX12_daysOf_15 ?_
  refine G_iald (pc := 16) (jj := 1) (v := 12) (by decide) rfl rfl (by unfold vp_in; decide) dX12_daysOf_16 ?_
  refine G_aload_n (pc := 17) rfl dX12_daysOf_17 ?_
  refine G_getR (pc := 18) (r := 68) (ci := 12) (j := 0) rfl lk_RX12_9 rfl rfl rfl dX12_daysOf_18 ?_
  refine G_iconst (pc := 21) (v := 0) (by decide) dX12_daysOf_21 ?_
  refine G_iald (pc := 22) (jj := 0) (v := 0) (by decide) rfl rfl (by unfold vp_in; decide) dX12_daysOf_22 ?_
  refine G_isub (pc := 23) (z := 12) (by decide) dX12_daysOf_23 ?_
  refine G_istore_n (pc := 24) (L1 := [some (.ref 67), some (.int 2), some (.int 12)]) rfl rfl (by decide) dX12_daysOf_24 ?_
  refine G_iload_n (pc := 25) rfl dX12_daysOf_25 ?_
  refine G_iload_n (pc := 26) rfl dX12_daysOf_26 ?_
  refine G_icmp_ge (pc := 27) (tgt := 34) (by decide) dX12_daysOf_27 (fun z => absurd z (by decide)) (fun _ => ?_)
  refine G_iload_n (pc := 30) rfl dX12_daysOf_30 ?_
  refine G_goto (pc := 31) (tgt := 35) (by decide) dX12_daysOf_31 ?_
  exact G_iret (pc := 35) (Nat.le_of_ble_eq_true rfl) (Nat.le_of_ble_eq_true rfl) rfl dX12_daysOf_35 ⟨rfl, rfl⟩
set_option maxRecDepth 100000 in
set_option maxHeartbeats 4000000 in
theorem s10107_X12_goesBy (J : gI) (d : Nat)   : G (d) mX12_goesBy 0 0 0 0 0 (gent 5 [.ref 67, .int 0]) [] SH0 RF0 (gup (gcp (gup (gup (gup (gcp (gup (gup (gup (gup (gmx J) 67 19 (-1)) 67 20 0) 67 21 5) 67 22 0) 68 76 0 0 65) 77 0 0) 68 0 1) 68 2 0) 68 76 0 65 65) 77 1 0) (fun r h => r = some (.int 0) ∧ h = (SH0, RF0, (gup (gup (gup (gcp (gup (gup (gup (gcp (gup (gup (gup (gup (gmx J) 67 19 (-1)) 67 20 0) 67 21 5) 67 22 0) 68 76 0 0 65) 77 0 0) 68 0 1) 68 2 0) 68 76 0 65 65) 77 1 0) 68 0 2) 68 2 0))) := by
  refine G_iload_n (pc := 0) rfl dX12_goesBy_0 ?_
  refine G_if_ge (pc := 1) (tgt := 11) (by decide) dX12_goesBy_1 (fun _ => ?_) (fun z => absurd (by decide) z)
  refine G_iload_n (pc := 11) rfl dX12_goesBy_11 ?_
  refine G_iconst (pc := 12) (v := 1) (by decide) dX12_goesBy_12 ?_
  refine G_isub (pc := 13) (z := (-1)) (by decide) dX12_goesBy_13 ?_
  refine G_istore_n (pc := 14) (L1 := [some (.ref 67), some (.int 0), some (.int (-1)), none, none]) rfl rfl (by decide) dX12_goesBy_14 ?_
  refine G_iload_n (pc := 15) rfl dX12_goesBy_15 ?_
  refine G_if_lt (pc := 16) (tgt := 27) (by decide) dX12_goesBy_16 (fun _ => ?_) (fun z => absurd (by decide) z)
  refine G_iconst (pc := 27) (v := 0) (by decide) dX12_goesBy_27 ?_
  refine G_istore_n (pc := 28) (L1 := [some (.ref 67), some (.int 0), some (.int (-1)), some (.int 0), none]) rfl rfl (by decide) dX12_goesBy_28 ?_
  refine G_iconst (pc := 29) (v := 0) (by decide) dX12_goesBy_29 ?_
  refine G_istore (pc := 30) (L1 := [some (.ref 67), some (.int 0), some (.int (-1)), some (.int 0), some (.int 0)]) rfl rfl (by decide) dX12_goesBy_30 ?_
  refine G_iload (pc := 32) rfl dX12_goesBy_32 ?_
  refine G_aload_n (pc := 34) rfl dX12_goesBy_34 ?_
  refine G_getR (pc := 35) (r := 68) (ci := 12) (j := 0) rfl lk_RX12_9 rfl rfl rfl dX12_goesBy_35 ?_
  refine G_iconst (pc := 38) (v := 4) (by decide) dX12_goesBy_38 ?_
  refine G_iald (pc := 39) (jj := 4) (v := 0) (by decide) rfl rfl (by unfold vp_in; decide) dX12_goesBy_39 ?_
  refine G_icmp_ge (pc := 40) (tgt := 104) (by decide) dX12_goesBy_40 (fun _ => ?_) (fun z => absurd (by decide) z)
  refine G_aload_n (pc := 104) rfl dX12_goesBy_104 ?_
  refine G_getR (pc := 105) (r := 68) (ci := 12) (j := 0) rfl lk_RX12_9 rfl rfl rfl dX12_goesBy_105 ?_
  refine G_iconst (pc := 108) (v := 0) (by decide) dX12_goesBy_108 ?_
  refine G_dup2 (pc := 109) rfl rfl dX12_goesBy_109 ?_
  refine G_iald (pc := 110) (jj := 0) (v := 1) (by decide) rfl rfl (by unfold vp_in; decide) dX12_goesBy_110 ?_
  refine G_iconst (pc := 111) (v := 1) (by decide) dX12_goesBy_111 ?_
  refine G_iadd (pc := 112) (z := 2) (by decide) dX12_goesBy_112 ?_
  refine G_iast (pc := 113) (jj := 0) (by decide) rfl (by unfold vp_in; decide) dX12_goesBy_113 ?_
  refine G_aload_n (pc := 114) rfl dX12_goesBy_114 ?_
  refine G_getR (pc := 115) (r := 68) (ci := 12) (j := 0) rfl lk_RX12_9 rfl rfl rfl dX12_goesBy_115 ?_
  refine G_iconst (pc := 118) (v := 2) (by decide) dX12_goesBy_118 ?_
  refine G_dup2 (pc := 119) rfl rfl dX12_goesBy_119 ?_
  refine G_iald (pc := 120) (jj := 2) (v := 0) (by decide) rfl rfl (by unfold vp_in; decide) dX12_goesBy_120 ?_
  refine G_iload_n (pc := 121) rfl dX12_goesBy_121 ?_
  refine G_iadd (pc := 122) (z := 0) (by decide) dX12_goesBy_122 ?_
  refine G_iast (pc := 123) (jj := 2) (by decide) rfl (by unfold vp_in; decide) dX12_goesBy_123 ?_
  refine G_iload_n (pc := 124) rfl dX12_goesBy_124 ?_
  exact G_iret (pc := 125) (Nat.le_of_ble_eq_true rfl) (Nat.le_of_ble_eq_true rfl) rfl dX12_goesBy_125 ⟨rfl, rfl⟩
set_option maxRecDepth 100000 in
set_option maxHeartbeats 4000000 in
theorem s10110_X12_those (J : gI) (d : Nat)   : G (d) mX12_those 0 0 0 0 0 (gent 4 [.ref 67, .int 4]) [] SH0 RF0 (gup (gup (gup (gup (gup (gup (gup (gup (gcp (gup (gup (gup (gcp (gup (gup (gup (gup (gmx J) 67 19 (-1)) 67 20 0) 67 21 5) 67 22 0) 68 76 0 0 65) 77 0 0) 68 0 1) 68 2 0) 68 76 0 65 65) 77 1 0) 68 0 2) 68 2 0) 67 20 0) 67 19 0) 78 0 0) 78 1 0) 67 20 1) (fun r h => r = some (.int 0) ∧ h = (SH0, RF0, (gup (gup (gup (gup (gup (gup (gup (gup (gcp (gup (gup (gup (gcp (gup (gup (gup (gup (gmx J) 67 19 (-1)) 67 20 0) 67 21 5) 67 22 0) 68 76 0 0 65) 77 0 0) 68 0 1) 68 2 0) 68 76 0 65 65) 77 1 0) 68 0 2) 68 2 0) 67 20 0) 67 19 0) 78 0 0) 78 1 0) 67 20 1))) := by
  refine G_iconst (pc := 0) (v := 0) (by decide) dX12_those_0 ?_
  refine G_istore_n (pc := 1) (L1 := [some (.ref 67), some (.int 4), some (.int 0), none]) rfl rfl (by decide) dX12_those_1 ?_
  refine G_iconst (pc := 2) (v := 0) (by decide) dX12_those_2 ?_
  refine G_istore_n (pc := 3) (L1 := [some (.ref 67), some (.int 4), some (.int 0), some (.int 0)]) rfl rfl (by decide) dX12_those_3 ?_
  refine G_iload_n (pc := 4) rfl dX12_those_4 ?_
  refine G_aload_n (pc := 5) rfl dX12_those_5 ?_
  refine G_getR (pc := 6) (r := 68) (ci := 12) (j := 0) rfl lk_RX12_9 rfl rfl rfl dX12_those_6 ?_
  refine G_iconst (pc := 9) (v := 4) (by decide) dX12_those_9 ?_
  refine G_iald (pc := 10) (jj := 4) (v := 0) (by decide) rfl rfl (by unfold vp_in; decide) dX12_those_10 ?_
  refine G_icmp_ge (pc := 11) (tgt := 39) (by decide) dX12_those_11 (fun _ => ?_) (fun z => absurd (by decide) z)
  refine G_iload_n (pc := 39) rfl dX12_those_39 ?_
  exact G_iret (pc := 40) (Nat.le_of_ble_eq_true rfl) (Nat.le_of_ble_eq_true rfl) rfl dX12_those_40 ⟨rfl, rfl⟩
set_option maxRecDepth 100000 in
set_option maxHeartbeats 4000000 in
theorem s10109_X12_endsPlan (J : gI) (d : Nat)   : G (d + 1) mX12_endsPlan 0 0 0 0 0 (gent 6 [.ref 67, .int 2, .int 0, .int 0, .int 0]) [] SH0 RF0 (gup (gup (gup (gcp (gup (gup (gup (gcp (gup (gup (gup (gup (gmx J) 67 19 (-1)) 67 20 0) 67 21 5) 67 22 0) 68 76 0 0 65) 77 0 0) 68 0 1) 68 2 0) 68 76 0 65 65) 77 1 0) 68 0 2) 68 2 0) (fun r h => r = none ∧ h = (SH0, RF0, (gup (gup (gup (gup (gup (gup (gup (gup (gup (gup (gcp (gup (gup (gup (gcp (gup (gup (gup (gup (gmx J) 67 19 (-1)) 67 20 0) 67 21 5) 67 22 0) 68 76 0 0 65) 77 0 0) 68 0 1) 68 2 0) 68 76 0 65 65) 77 1 0) 68 0 2) 68 2 0) 67 20 0) 67 19 0) 78 0 0) 78 1 0) 67 20 1) 67 21 0) 67 22 0))) := by
  refine G_iload_n (pc := 0) rfl dX12_endsPlan_0 ?_
  refine G_aload_n (pc := 1) rfl dX12_endsPlan_1 ?_
  refine G_getI (pc := 2) (v := (-1)) (ci := 12) (j := 19) rfl rfl lk_RX12_259 rfl rfl dX12_endsPlan_2 ?_
  refine G_icmp_le (pc := 5) (tgt := 47) (by decide) dX12_endsPlan_5 (fun z => absurd z (by decide)) (fun _ => ?_)
  refine G_aload_n (pc := 8) rfl dX12_endsPlan_8 ?_
  refine G_iconst (pc := 9) (v := 0) (by decide) dX12_endsPlan_9 ?_
  refine G_putI (pc := 10) (ci := 12) (j := 20) rfl lk_RX12_262 rfl rfl rfl trivial dX12_endsPlan_10 ?_
  refine G_aload_n (pc := 13) rfl dX12_endsPlan_13 ?_
  refine G_iload_n (pc := 14) rfl dX12_endsPlan_14 ?_
  refine G_putI (pc := 15) (ci := 12) (j := 19) rfl lk_RX12_259 rfl rfl rfl trivial dX12_endsPlan_15 ?_
  refine G_iconst (pc := 18) (v := 0) (by decide) dX12_endsPlan_18 ?_
  refine G_istore (pc := 19) (L1 := [some (.ref 67), some (.int 2), some (.int 0), some (.int 0), some (.int 0), some (.int 0)]) rfl rfl (by decide) dX12_endsPlan_19 ?_
  refine G_iload (pc := 21) rfl dX12_endsPlan_21 ?_
  refine G_iload_n (pc := 23) rfl dX12_endsPlan_23 ?_
  refine G_icmp_ge (pc := 24) (tgt := 47) (by decide) dX12_endsPlan_24 (fun z => absurd z (by decide)) (fun _ => ?_)
  refine G_aload_n (pc := 27) rfl dX12_endsPlan_27 ?_
  refine G_getR (pc := 28) (r := 78) (ci := 12) (j := 18) rfl lk_RX12_41 rfl rfl rfl dX12_endsPlan_28 ?_
  refine G_iload (pc := 31) rfl dX12_endsPlan_31 ?_
  refine G_aload_n (pc := 33) rfl dX12_endsPlan_33 ?_
  refine G_getR (pc := 34) (r := 77) (ci := 12) (j := 17) rfl lk_RX12_38 rfl rfl rfl dX12_endsPlan_34 ?_
  refine G_iload (pc := 37) rfl dX12_endsPlan_37 ?_
  refine G_iald (pc := 39) (jj := 0) (v := 0) (by decide) rfl rfl (by unfold vp_in; decide) dX12_endsPlan_39 ?_
  refine G_iast (pc := 40) (jj := 0) (by decide) rfl (by unfold vp_in; decide) dX12_endsPlan_40 ?_
  refine G_iinc (pc := 41) (v := 1) (w := 1) (L1 := [some (.ref 67), some (.int 2), some (.int 0), some (.int 0), some (.int 0), some (.int 1)]) (by decide) rfl rfl (by decide) rfl (by decide) dX12_endsPlan_41 ?_
  refine G_goto (pc := 44) (tgt := 21) (by decide) dX12_endsPlan_44 ?_
  refine G_iload (pc := 21) rfl dX12_endsPlan_21 ?_
  refine G_iload_n (pc := 23) rfl dX12_endsPlan_23 ?_
  refine G_icmp_ge (pc := 24) (tgt := 47) (by decide) dX12_endsPlan_24 (fun z => absurd z (by decide)) (fun _ => ?_)
  refine G_aload_n (pc := 27) rfl dX12_endsPlan_27 ?_
  refine G_getR (pc := 28) (r := 78) (ci := 12) (j := 18) rfl lk_RX12_41 rfl rfl rfl dX12_endsPlan_28 ?_
  refine G_iload (pc := 31) rfl dX12_endsPlan_31 ?_
  refine G_aload_n (pc := 33) rfl dX12_endsPlan_33 ?_
  refine G_getR (pc := 34) (r := 77) (ci := 12) (j := 17) rfl lk_RX12_38 rfl rfl rfl dX12_endsPlan_34 ?_
  refine G_iload (pc := 37) rfl dX12_endsPlan_37 ?_
  refine G_iald (pc := 39) (jj := 1) (v := 0) (by decide) rfl rfl (by unfold vp_in; decide) dX12_endsPlan_39 ?_
  refine G_iast (pc := 40) (jj := 1) (by decide) rfl (by unfold vp_in; decide) dX12_endsPlan_40 ?_
  refine G_iinc (pc := 41) (v := 1) (w := 2) (L1 := [some (.ref 67), some (.int 2), some (.int 0), some (.int 0), some (.int 0), some (.int 2)]) (by decide) rfl rfl (by decide) rfl (by decide) dX12_endsPlan_41 ?_
  refine G_goto (pc := 44) (tgt := 21) (by decide) dX12_endsPlan_44 ?_
  refine G_iload (pc := 21) rfl dX12_endsPlan_21 ?_
  refine G_iload_n (pc := 23) rfl dX12_endsPlan_23 ?_
  refine G_icmp_ge (pc := 24) (tgt := 47) (by decide) dX12_endsPlan_24 (fun _ => ?_) (fun z => absurd (by decide) z)
  refine G_aload_n (pc := 47) rfl dX12_endsPlan_47 ?_
  refine G_dup (pc := 48) rfl dX12_endsPlan_48 ?_
  refine G_getI (pc := 49) (v := 0) (ci := 12) (j := 20) rfl rfl lk_RX12_262 rfl rfl dX12_endsPlan_49 ?_
  refine G_iload_n (pc := 52) rfl dX12_endsPlan_52 ?_
  refine G_aload_n (pc := 53) rfl dX12_endsPlan_53 ?_
  refine G_getI (pc := 54) (v := 0) (ci := 12) (j := 19) rfl rfl lk_RX12_259 rfl rfl dX12_endsPlan_54 ?_
  refine G_icmp_ne (pc := 57) (tgt := 64) (by decide) dX12_endsPlan_57 (fun z => absurd (by decide) z) (fun _ => ?_)
  refine G_iconst (pc := 60) (v := 1) (by decide) dX12_endsPlan_60 ?_
  refine G_goto (pc := 61) (tgt := 65) (by decide) dX12_endsPlan_61 ?_
  refine G_iadd (pc := 65) (z := 1) (by decide) dX12_endsPlan_65 ?_
  refine G_putI (pc := 66) (ci := 12) (j := 20) rfl lk_RX12_262 rfl rfl rfl trivial dX12_endsPlan_66 ?_
  refine G_aload_n (pc := 69) rfl dX12_endsPlan_69 ?_
  refine G_iconst (pc := 70) (v := 4) (by decide) dX12_endsPlan_70 ?_
  refine G_callV (pc := 71) (mc1 := 0) (ms1 := 0) (ci := 12) (mj := mX12_those) (vs := [_]) dX12_endsPlan_71 rfl rfl cm_X12_those wh_26 wh_28 wh_29 rfl (Nat.le_of_ble_eq_true rfl) (Nat.le_of_ble_eq_true rfl) (Nat.le_of_ble_eq_true rfl) (Nat.le_of_ble_eq_true rfl) (s10110_X12_those J d  ) ?_
  rintro _ _ ⟨rfl, rfl⟩
  dsimp only [Option.toList, List.cons_append, List.nil_append]
  refine G_istore (pc := 74) (L1 := [some (.ref 67), some (.int 2), some (.int 0), some (.int 0), some (.int 0), some (.int 0)]) rfl rfl (by decide) dX12_endsPlan_74 ?_
  refine G_aload_n (pc := 76) rfl dX12_endsPlan_76 ?_
  refine G_iload (pc := 77) rfl dX12_endsPlan_77 ?_
  refine G_iload (pc := 79) rfl dX12_endsPlan_79 ?_
  refine G_iconst (pc := 81) (v := (-1)) (by decide) dX12_endsPlan_81 ?_
  refine G_ixor (pc := 82) (z := (-1)) (by decide) dX12_endsPlan_82 ?_
  refine G_iand (pc := 83) (z := 0) (by decide) dX12_endsPlan_83 ?_
  refine G_if_ne (pc := 84) (tgt := 99) (by decide) dX12_endsPlan_84 (fun z => absurd (by decide) z) (fun _ => ?_)
  refine G_iload_n (pc := 87) rfl dX12_endsPlan_87 ?_
  refine G_aload_n (pc := 88) rfl dX12_endsPlan_88 ?_
  refine G_getI (pc := 89) (v := 5) (ci := 12) (j := 21) rfl rfl lk_RX12_265 rfl rfl dX12_endsPlan_89 ?_
  refine G_icmp_ge (pc := 92) (tgt := 99) (by decide) dX12_endsPlan_92 (fun z => absurd z (by decide)) (fun _ => ?_)
  refine G_iload_n (pc := 95) rfl dX12_endsPlan_95 ?_
  refine G_goto (pc := 96) (tgt := 103) (by decide) dX12_endsPlan_96 ?_
  refine G_putI (pc := 103) (ci := 12) (j := 21) rfl lk_RX12_265 rfl rfl rfl trivial dX12_endsPlan_103 ?_
  refine G_aload_n (pc := 106) rfl dX12_endsPlan_106 ?_
  refine G_dup (pc := 107) rfl dX12_endsPlan_107 ?_
  refine G_getI (pc := 108) (v := 0) (ci := 12) (j := 22) rfl rfl lk_RX12_268 rfl rfl dX12_endsPlan_108 ?_
  refine G_iload (pc := 111) rfl dX12_endsPlan_111 ?_
  refine G_ior (pc := 113) (z := 0) (by decide) dX12_endsPlan_113 ?_
  refine G_putI (pc := 114) (ci := 12) (j := 22) rfl lk_RX12_268 rfl rfl rfl trivial dX12_endsPlan_114 ?_
  exact G_vret (pc := 117) (Nat.le_of_ble_eq_true rfl) (Nat.le_of_ble_eq_true rfl) rfl dX12_endsPlan_117 ⟨rfl, rfl⟩
set_option maxRecDepth 100000 in
set_option maxHeartbeats 4000000 in
theorem s10108_X12_goesPlans (J : gI) (d : Nat)   : G (d + 2) mX12_goesPlans 0 0 0 0 0 (gent 8 [.ref 67, .int 2, .int 2, .int 0, .int 0, .int 0]) [] SH0 RF0 (gup (gup (gup (gcp (gup (gup (gup (gcp (gup (gup (gup (gup (gmx J) 67 19 (-1)) 67 20 0) 67 21 5) 67 22 0) 68 76 0 0 65) 77 0 0) 68 0 1) 68 2 0) 68 76 0 65 65) 77 1 0) 68 0 2) 68 2 0) (fun r h => r = none ∧ h = (SH0, RF0, (gup (gup (gup (gup (gup (gup (gup (gup (gup (gup (gcp (gup (gup (gup (gcp (gup (gup (gup (gup (gmx J) 67 19 (-1)) 67 20 0) 67 21 5) 67 22 0) 68 76 0 0 65) 77 0 0) 68 0 1) 68 2 0) 68 76 0 65 65) 77 1 0) 68 0 2) 68 2 0) 67 20 0) 67 19 0) 78 0 0) 78 1 0) 67 20 1) 67 21 0) 67 22 0))) := by
  refine G_iload_n (pc := 0) rfl dX12_goesPlans_0 ?_
  refine G_iload_n (pc := 1) rfl dX12_goesPlans_1 ?_
  refine G_icmp_ne (pc := 2) (tgt := 16) (by decide) dX12_goesPlans_2 (fun z => absurd (by decide) z) (fun _ => ?_)
  refine G_aload_n (pc := 5) rfl dX12_goesPlans_5 ?_
  refine G_iload_n (pc := 6) rfl dX12_goesPlans_6 ?_
  refine G_iload_n (pc := 7) rfl dX12_goesPlans_7 ?_
  refine G_iload (pc := 8) rfl dX12_goesPlans_8 ?_
  refine G_iload (pc := 10) rfl dX12_goesPlans_10 ?_
  refine G_callV (pc := 12) (mc1 := 0) (ms1 := 0) (ci := 12) (mj := mX12_endsPlan) (vs := [_, _, _, _]) dX12_goesPlans_12 rfl rfl cm_X12_endsPlan wh_95 wh_97 wh_98 rfl (Nat.le_of_ble_eq_true rfl) (Nat.le_of_ble_eq_true rfl) (Nat.le_of_ble_eq_true rfl) (Nat.le_of_ble_eq_true rfl) (s10109_X12_endsPlan J d  ) ?_
  rintro _ _ ⟨rfl, rfl⟩
  dsimp only [Option.toList, List.cons_append, List.nil_append]
  exact G_vret (pc := 15) (Nat.le_of_ble_eq_true rfl) (Nat.le_of_ble_eq_true rfl) rfl dX12_goesPlans_15 ⟨rfl, rfl⟩
set_option maxRecDepth 100000 in
set_option maxHeartbeats 4000000 in
theorem s10106_X12_goesPlans (J : gI) (d : Nat)   : G (d + 3) mX12_goesPlans 0 0 0 0 0 (gent 8 [.ref 67, .int 1, .int 2, .int 0, .int 0, .int 0]) [] SH0 RF0 (gup (gup (gup (gcp (gup (gup (gup (gup (gmx J) 67 19 (-1)) 67 20 0) 67 21 5) 67 22 0) 68 76 0 0 65) 77 0 0) 68 0 1) 68 2 0) (fun r h => r = none ∧ h = (SH0, RF0, (gcp (gup (gup (gup (gup (gup (gup (gup (gup (gup (gup (gcp (gup (gup (gup (gcp (gup (gup (gup (gup (gmx J) 67 19 (-1)) 67 20 0) 67 21 5) 67 22 0) 68 76 0 0 65) 77 0 0) 68 0 1) 68 2 0) 68 76 0 65 65) 77 1 0) 68 0 2) 68 2 0) 67 20 0) 67 19 0) 78 0 0) 78 1 0) 67 20 1) 67 21 0) 67 22 0) 76 68 65 0 65))) := by
  refine G_iload_n (pc := 0) rfl dX12_goesPlans_0 ?_
  refine G_iload_n (pc := 1) rfl dX12_goesPlans_1 ?_
  refine G_icmp_ne (pc := 2) (tgt := 16) (by decide) dX12_goesPlans_2 (fun _ => ?_) (fun z => absurd z (by decide))
  refine G_aload_n (pc := 16) rfl dX12_goesPlans_16 ?_
  refine G_iload_n (pc := 17) rfl dX12_goesPlans_17 ?_
  refine G_callV (pc := 18) (mc1 := 0) (ms1 := 0) (ci := 12) (mj := mX12_saves) (vs := [_]) dX12_goesPlans_18 rfl rfl cm_X12_saves wh_107 wh_109 wh_110 rfl (Nat.le_of_ble_eq_true rfl) (Nat.le_of_ble_eq_true rfl) (Nat.le_of_ble_eq_true rfl) (Nat.le_of_ble_eq_true rfl) (saves_1 (d + 2) (gup (gup (gup (gcp (gup (gup (gup (gup (gmx J) 67 19 (-1)) 67 20 0) 67 21 5) 67 22 0) 68 76 0 0 65) 77 0 0) 68 0 1) 68 2 0)) ?_
  rintro _ _ ⟨rfl, rfl⟩
  dsimp only [Option.toList, List.cons_append, List.nil_append]
  refine G_iconst (pc := 21) (v := 0) (by decide) dX12_goesPlans_21 ?_
  refine G_istore (pc := 22) (L1 := [some (.ref 67), some (.int 1), some (.int 2), some (.int 0), some (.int 0), some (.int 0), some (.int 0), none]) rfl rfl (by decide) dX12_goesPlans_22 ?_
  refine G_iload (pc := 24) rfl dX12_goesPlans_24 ?_
  refine G_aload_n (pc := 26) rfl dX12_goesPlans_26 ?_
  refine G_getR (pc := 27) (r := 68) (ci := 12) (j := 0) rfl lk_RX12_9 rfl rfl rfl dX12_goesPlans_27 ?_
  refine G_iconst (pc := 30) (v := 4) (by decide) dX12_goesPlans_30 ?_
  refine G_iald (pc := 31) (jj := 4) (v := 0) (by decide) rfl rfl (by unfold vp_in; decide) dX12_goesPlans_31 ?_
  refine G_icmp_gt (pc := 32) (tgt := 90) (by decide) dX12_goesPlans_32 (fun z => absurd z (by decide)) (fun _ => ?_)
  refine G_aload_n (pc := 35) rfl dX12_goesPlans_35 ?_
  refine G_getR (pc := 36) (r := 77) (ci := 12) (j := 17) rfl lk_RX12_38 rfl rfl rfl dX12_goesPlans_36 ?_
  refine G_iload_n (pc := 39) rfl dX12_goesPlans_39 ?_
  refine G_iload (pc := 40) rfl dX12_goesPlans_40 ?_
  refine G_iast (pc := 42) (jj := 1) (by decide) rfl (by unfold vp_in; decide) dX12_goesPlans_42 ?_
  refine G_aload_n (pc := 43) rfl dX12_goesPlans_43 ?_
  refine G_iload (pc := 44) rfl dX12_goesPlans_44 ?_
  refine G_callV (pc := 46) (mc1 := 0) (ms1 := 0) (ci := 12) (mj := mX12_goesBy) (vs := [_]) dX12_goesPlans_46 rfl rfl cm_X12_goesBy wh_72 wh_74 wh_75 rfl (Nat.le_of_ble_eq_true rfl) (Nat.le_of_ble_eq_true rfl) (Nat.le_of_ble_eq_true rfl) (Nat.le_of_ble_eq_true rfl) (s10107_X12_goesBy J (d + 2)  ) ?_
  rintro _ _ ⟨rfl, rfl⟩
  dsimp only [Option.toList, List.cons_append, List.nil_append]
  refine G_istore (pc := 49) (L1 := [some (.ref 67), some (.int 1), some (.int 2), some (.int 0), some (.int 0), some (.int 0), some (.int 0), some (.int 0)]) rfl rfl (by decide) dX12_goesPlans_49 ?_
  refine G_aload_n (pc := 51) rfl dX12_goesPlans_51 ?_
  refine G_iload_n (pc := 52) rfl dX12_goesPlans_52 ?_
  refine G_iconst (pc := 53) (v := 1) (by decide) dX12_goesPlans_53 ?_
  refine G_iadd (pc := 54) (z := 2) (by decide) dX12_goesPlans_54 ?_
  refine G_iload_n (pc := 55) rfl dX12_goesPlans_55 ?_
  refine G_iload_n (pc := 56) rfl dX12_goesPlans_56 ?_
  refine G_iload (pc := 57) rfl dX12_goesPlans_57 ?_
  refine G_iadd (pc := 59) (z := 0) (by decide) dX12_goesPlans_59 ?_
  refine G_iload (pc := 60) rfl dX12_goesPlans_60 ?_
  refine G_if_le (pc := 62) (tgt := 72) (by decide) dX12_goesPlans_62 (fun _ => ?_) (fun z => absurd (by decide) z)
  refine G_iload (pc := 72) rfl dX12_goesPlans_72 ?_
  refine G_iload (pc := 74) rfl dX12_goesPlans_74 ?_
  refine G_callV (pc := 76) (mc1 := 0) (ms1 := 0) (ci := 12) (mj := mX12_goesPlans) (vs := [_, _, _, _, _]) dX12_goesPlans_76 rfl rfl cm_X12_goesPlans wh_99 wh_101 wh_102 rfl (Nat.le_of_ble_eq_true rfl) (Nat.le_of_ble_eq_true rfl) (Nat.le_of_ble_eq_true rfl) (Nat.le_of_ble_eq_true rfl) (s10108_X12_goesPlans J d  ) ?_
  rintro _ _ ⟨rfl, rfl⟩
  dsimp only [Option.toList, List.cons_append, List.nil_append]
  refine G_aload_n (pc := 79) rfl dX12_goesPlans_79 ?_
  refine G_iload_n (pc := 80) rfl dX12_goesPlans_80 ?_
  refine G_callV (pc := 81) (mc1 := 0) (ms1 := 0) (ci := 12) (mj := mX12_restores) (vs := [_]) dX12_goesPlans_81 rfl rfl cm_X12_restores wh_111 wh_113 wh_114 rfl (Nat.le_of_ble_eq_true rfl) (Nat.le_of_ble_eq_true rfl) (Nat.le_of_ble_eq_true rfl) (Nat.le_of_ble_eq_true rfl) (restores_1 (d + 2) (gup (gup (gup (gup (gup (gup (gup (gup (gup (gup (gcp (gup (gup (gup (gcp (gup (gup (gup (gup (gmx J) 67 19 (-1)) 67 20 0) 67 21 5) 67 22 0) 68 76 0 0 65) 77 0 0) 68 0 1) 68 2 0) 68 76 0 65 65) 77 1 0) 68 0 2) 68 2 0) 67 20 0) 67 19 0) 78 0 0) 78 1 0) 67 20 1) 67 21 0) 67 22 0)) ?_
  rintro _ _ ⟨rfl, rfl⟩
  dsimp only [Option.toList, List.cons_append, List.nil_append]
  refine G_iinc (pc := 84) (v := 1) (w := 1) (L1 := [some (.ref 67), some (.int 1), some (.int 2), some (.int 0), some (.int 0), some (.int 0), some (.int 1), some (.int 0)]) (by decide) rfl rfl (by decide) rfl (by decide) dX12_goesPlans_84 ?_
  refine G_goto (pc := 87) (tgt := 24) (by decide) dX12_goesPlans_87 ?_
  refine G_iload (pc := 24) rfl dX12_goesPlans_24 ?_
  refine G_aload_n (pc := 26) rfl dX12_goesPlans_26 ?_
  refine G_getR (pc := 27) (r := 68) (ci := 12) (j := 0) rfl lk_RX12_9 rfl rfl rfl dX12_goesPlans_27 ?_
  refine G_iconst (pc := 30) (v := 4) (by decide) dX12_goesPlans_30 ?_
  refine G_iald (pc := 31) (jj := 4) (v := 0) (by decide) rfl rfl (by unfold vp_in; decide) dX12_goesPlans_31 ?_
  refine G_icmp_gt (pc := 32) (tgt := 90) (by decide) dX12_goesPlans_32 (fun _ => ?_) (fun z => absurd (by decide) z)
  exact G_vret (pc := 90) (Nat.le_of_ble_eq_true rfl) (Nat.le_of_ble_eq_true rfl) rfl dX12_goesPlans_90 ⟨rfl, rfl⟩
set_option maxRecDepth 100000 in
set_option maxHeartbeats 4000000 in
theorem s10105_X12_goesPlans (J : gI) (d : Nat)   : G (d + 4) mX12_goesPlans 0 0 0 0 0 (gent 8 [.ref 67, .int 0, .int 2, .int 0, .int 0, .int 0]) [] SH0 RF0 (gup (gup (gup (gup (gmx J) 67 19 (-1)) 67 20 0) 67 21 5) 67 22 0) (fun r h => r = none ∧ h = (SH0, RF0, (gcp (gcp (gup (gup (gup (gup (gup (gup (gup (gup (gup (gup (gcp (gup (gup (gup (gcp (gup (gup (gup (gup (gmx J) 67 19 (-1)) 67 20 0) 67 21 5) 67 22 0) 68 76 0 0 65) 77 0 0) 68 0 1) 68 2 0) 68 76 0 65 65) 77 1 0) 68 0 2) 68 2 0) 67 20 0) 67 19 0) 78 0 0) 78 1 0) 67 20 1) 67 21 0) 67 22 0) 76 68 65 0 65) 76 68 0 0 65))) := by
  refine G_iload_n (pc := 0) rfl dX12_goesPlans_0 ?_
  refine G_iload_n (pc := 1) rfl dX12_goesPlans_1 ?_
  refine G_icmp_ne (pc := 2) (tgt := 16) (by decide) dX12_goesPlans_2 (fun _ => ?_) (fun z => absurd z (by decide))
  refine G_aload_n (pc := 16) rfl dX12_goesPlans_16 ?_
  refine G_iload_n (pc := 17) rfl dX12_goesPlans_17 ?_
  refine G_callV (pc := 18) (mc1 := 0) (ms1 := 0) (ci := 12) (mj := mX12_saves) (vs := [_]) dX12_goesPlans_18 rfl rfl cm_X12_saves wh_107 wh_109 wh_110 rfl (Nat.le_of_ble_eq_true rfl) (Nat.le_of_ble_eq_true rfl) (Nat.le_of_ble_eq_true rfl) (Nat.le_of_ble_eq_true rfl) (saves_0 (d + 3) (gup (gup (gup (gup (gmx J) 67 19 (-1)) 67 20 0) 67 21 5) 67 22 0)) ?_
  rintro _ _ ⟨rfl, rfl⟩
  dsimp only [Option.toList, List.cons_append, List.nil_append]
  refine G_iconst (pc := 21) (v := 0) (by decide) dX12_goesPlans_21 ?_
  refine G_istore (pc := 22) (L1 := [some (.ref 67), some (.int 0), some (.int 2), some (.int 0), some (.int 0), some (.int 0), some (.int 0), none]) rfl rfl (by decide) dX12_goesPlans_22 ?_
  refine G_iload (pc := 24) rfl dX12_goesPlans_24 ?_
  refine G_aload_n (pc := 26) rfl dX12_goesPlans_26 ?_
  refine G_getR (pc := 27) (r := 68) (ci := 12) (j := 0) rfl lk_RX12_9 rfl rfl rfl dX12_goesPlans_27 ?_
  refine G_iconst (pc := 30) (v := 4) (by decide) dX12_goesPlans_30 ?_
  refine G_iald (pc := 31) (jj := 4) (v := 0) (by decide) rfl rfl (by unfold vp_in; decide) dX12_goesPlans_31 ?_
  refine G_icmp_gt (pc := 32) (tgt := 90) (by decide) dX12_goesPlans_32 (fun z => absurd z (by decide)) (fun _ => ?_)
  refine G_aload_n (pc := 35) rfl dX12_goesPlans_35 ?_
  refine G_getR (pc := 36) (r := 77) (ci := 12) (j := 17) rfl lk_RX12_38 rfl rfl rfl dX12_goesPlans_36 ?_
  refine G_iload_n (pc := 39) rfl dX12_goesPlans_39 ?_
  refine G_iload (pc := 40) rfl dX12_goesPlans_40 ?_
  refine G_iast (pc := 42) (jj := 0) (by decide) rfl (by unfold vp_in; decide) dX12_goesPlans_42 ?_
  refine G_aload_n (pc := 43) rfl dX12_goesPlans_43 ?_
  refine G_iload (pc := 44) rfl dX12_goesPlans_44 ?_
  refine G_callV (pc := 46) (mc1 := 0) (ms1 := 0) (ci := 12) (mj := mX12_goesBy) (vs := [_]) dX12_goesPlans_46 rfl rfl cm_X12_goesBy wh_72 wh_74 wh_75 rfl (Nat.le_of_ble_eq_true rfl) (Nat.le_of_ble_eq_true rfl) (Nat.le_of_ble_eq_true rfl) (Nat.le_of_ble_eq_true rfl) (s10099_X12_goesBy J (d + 3)  ) ?_
  rintro _ _ ⟨rfl, rfl⟩
  dsimp only [Option.toList, List.cons_append, List.nil_append]
  refine G_istore (pc := 49) (L1 := [some (.ref 67), some (.int 0), some (.int 2), some (.int 0), some (.int 0), some (.int 0), some (.int 0), some (.int 0)]) rfl rfl (by decide) dX12_goesPlans_49 ?_
  refine G_aload_n (pc := 51) rfl dX12_goesPlans_51 ?_
  refine G_iload_n (pc := 52) rfl dX12_goesPlans_52 ?_
  refine G_iconst (pc := 53) (v := 1) (by decide) dX12_goesPlans_53 ?_
  refine G_iadd (pc := 54) (z := 1) (by decide) dX12_goesPlans_54 ?_
  refine G_iload_n (pc := 55) rfl dX12_goesPlans_55 ?_
  refine G_iload_n (pc := 56) rfl dX12_goesPlans_56 ?_
  refine G_iload (pc := 57) rfl dX12_goesPlans_57 ?_
  refine G_iadd (pc := 59) (z := 0) (by decide) dX12_goesPlans_59 ?_
  refine G_iload (pc := 60) rfl dX12_goesPlans_60 ?_
  refine G_if_le (pc := 62) (tgt := 72) (by decide) dX12_goesPlans_62 (fun _ => ?_) (fun z => absurd (by decide) z)
  refine G_iload (pc := 72) rfl dX12_goesPlans_72 ?_
  refine G_iload (pc := 74) rfl dX12_goesPlans_74 ?_
  refine G_callV (pc := 76) (mc1 := 0) (ms1 := 0) (ci := 12) (mj := mX12_goesPlans) (vs := [_, _, _, _, _]) dX12_goesPlans_76 rfl rfl cm_X12_goesPlans wh_99 wh_101 wh_102 rfl (Nat.le_of_ble_eq_true rfl) (Nat.le_of_ble_eq_true rfl) (Nat.le_of_ble_eq_true rfl) (Nat.le_of_ble_eq_true rfl) (s10106_X12_goesPlans J d  ) ?_
  rintro _ _ ⟨rfl, rfl⟩
  dsimp only [Option.toList, List.cons_append, List.nil_append]
  refine G_aload_n (pc := 79) rfl dX12_goesPlans_79 ?_
  refine G_iload_n (pc := 80) rfl dX12_goesPlans_80 ?_
  refine G_callV (pc := 81) (mc1 := 0) (ms1 := 0) (ci := 12) (mj := mX12_restores) (vs := [_]) dX12_goesPlans_81 rfl rfl cm_X12_restores wh_111 wh_113 wh_114 rfl (Nat.le_of_ble_eq_true rfl) (Nat.le_of_ble_eq_true rfl) (Nat.le_of_ble_eq_true rfl) (Nat.le_of_ble_eq_true rfl) (restores_0 (d + 3) (gcp (gup (gup (gup (gup (gup (gup (gup (gup (gup (gup (gcp (gup (gup (gup (gcp (gup (gup (gup (gup (gmx J) 67 19 (-1)) 67 20 0) 67 21 5) 67 22 0) 68 76 0 0 65) 77 0 0) 68 0 1) 68 2 0) 68 76 0 65 65) 77 1 0) 68 0 2) 68 2 0) 67 20 0) 67 19 0) 78 0 0) 78 1 0) 67 20 1) 67 21 0) 67 22 0) 76 68 65 0 65)) ?_
  rintro _ _ ⟨rfl, rfl⟩
  dsimp only [Option.toList, List.cons_append, List.nil_append]
  refine G_iinc (pc := 84) (v := 1) (w := 1) (L1 := [some (.ref 67), some (.int 0), some (.int 2), some (.int 0), some (.int 0), some (.int 0), some (.int 1), some (.int 0)]) (by decide) rfl rfl (by decide) rfl (by decide) dX12_goesPlans_84 ?_
  refine G_goto (pc := 87) (tgt := 24) (by decide) dX12_goesPlans_87 ?_
  refine G_iload (pc := 24) rfl dX12_goesPlans_24 ?_
  refine G_aload_n (pc := 26) rfl dX12_goesPlans_26 ?_
  refine G_getR (pc := 27) (r := 68) (ci := 12) (j := 0) rfl lk_RX12_9 rfl rfl rfl dX12_goesPlans_27 ?_
  refine G_iconst (pc := 30) (v := 4) (by decide) dX12_goesPlans_30 ?_
  refine G_iald (pc := 31) (jj := 4) (v := 0) (by decide) rfl rfl (by unfold vp_in; decide) dX12_goesPlans_31 ?_
  refine G_icmp_gt (pc := 32) (tgt := 90) (by decide) dX12_goesPlans_32 (fun _ => ?_) (fun z => absurd (by decide) z)
  exact G_vret (pc := 90) (Nat.le_of_ble_eq_true rfl) (Nat.le_of_ble_eq_true rfl) rfl dX12_goesPlans_90 ⟨rfl, rfl⟩
set_option maxRecDepth 100000 in
set_option maxHeartbeats 4000000 in
theorem s10103_X12_triesAll (J : gI) (d : Nat)   : G (d + 5) mX12_triesAll 0 0 0 0 0 (gent 3 [.ref 67, .int 2, .int 0]) [] SH0 RF0 (gmx J) (fun r h => r = none ∧ h = (SH0, RF0, (gcp (gcp (gup (gup (gup (gup (gup (gup (gup (gup (gup (gup (gcp (gup (gup (gup (gcp (gup (gup (gup (gup (gmx J) 67 19 (-1)) 67 20 0) 67 21 5) 67 22 0) 68 76 0 0 65) 77 0 0) 68 0 1) 68 2 0) 68 76 0 65 65) 77 1 0) 68 0 2) 68 2 0) 67 20 0) 67 19 0) 78 0 0) 78 1 0) 67 20 1) 67 21 0) 67 22 0) 76 68 65 0 65) 76 68 0 0 65))) := by
  refine G_aload_n (pc := 0) rfl dX12_triesAll_0 ?_
  refine G_iconst (pc := 1) (v := (-1)) (by decide) dX12_triesAll_1 ?_
  refine G_putI (pc := 2) (ci := 12) (j := 19) rfl lk_RX12_259 rfl rfl rfl trivial dX12_triesAll_2 ?_
  refine G_aload_n (pc := 5) rfl dX12_triesAll_5 ?_
  refine G_iconst (pc := 6) (v := 0) (by decide) dX12_triesAll_6 ?_
  refine G_putI (pc := 7) (ci := 12) (j := 20) rfl lk_RX12_262 rfl rfl rfl trivial dX12_triesAll_7 ?_
  refine G_aload_n (pc := 10) rfl dX12_triesAll_10 ?_
  refine G_iconst (pc := 11) (v := 5) (by decide) dX12_triesAll_11 ?_
  refine G_putI (pc := 12) (ci := 12) (j := 21) rfl lk_RX12_265 rfl rfl rfl trivial dX12_triesAll_12 ?_
  refine G_aload_n (pc := 15) rfl dX12_triesAll_15 ?_
  refine G_iconst (pc := 16) (v := 0) (by decide) dX12_triesAll_16 ?_
  refine G_putI (pc := 17) (ci := 12) (j := 22) rfl lk_RX12_268 rfl rfl rfl trivial dX12_triesAll_17 ?_
  refine G_aload_n (pc := 20) rfl dX12_triesAll_20 ?_
  refine G_iconst (pc := 21) (v := 0) (by decide) dX12_triesAll_21 ?_
  refine G_aload_n (pc := 22) rfl dX12_triesAll_22 ?_
  refine G_iload_n (pc := 23) rfl dX12_triesAll_23 ?_
  refine G_callV (pc := 24) (mc1 := 0) (ms1 := 0) (ci := 12) (mj := mX12_daysOf) (vs := [_]) dX12_triesAll_24 rfl rfl cm_X12_daysOf wh_91 wh_93 wh_94 rfl (Nat.le_of_ble_eq_true rfl) (Nat.le_of_ble_eq_true rfl) (Nat.le_of_ble_eq_true rfl) (Nat.le_of_ble_eq_true rfl) (s10104_X12_daysOf J (d + 3)  ) ?_
  rintro _ _ ⟨rfl, rfl⟩
  dsimp only [Option.toList, List.cons_append, List.nil_append]
  refine G_iconst (pc := 27) (v := 0) (by decide) dX12_triesAll_27 ?_
  refine G_iconst (pc := 28) (v := 0) (by decide) dX12_triesAll_28 ?_
  refine G_iload_n (pc := 29) rfl dX12_triesAll_29 ?_
  refine G_callV (pc := 30) (mc1 := 0) (ms1 := 0) (ci := 12) (mj := mX12_goesPlans) (vs := [_, _, _, _, _]) dX12_triesAll_30 rfl rfl cm_X12_goesPlans wh_99 wh_101 wh_102 rfl (Nat.le_of_ble_eq_true rfl) (Nat.le_of_ble_eq_true rfl) (Nat.le_of_ble_eq_true rfl) (Nat.le_of_ble_eq_true rfl) (s10105_X12_goesPlans J d  ) ?_
  rintro _ _ ⟨rfl, rfl⟩
  dsimp only [Option.toList, List.cons_append, List.nil_append]
  exact G_vret (pc := 33) (Nat.le_of_ble_eq_true rfl) (Nat.le_of_ble_eq_true rfl) rfl dX12_triesAll_33 ⟨rfl, rfl⟩
set_option maxRecDepth 100000 in
set_option maxHeartbeats 4000000 in
theorem s10112_X12_daysOf (J : gI) (d : Nat)   : G (d + 1) mX12_daysOf 0 0 0 0 0 (gent 3 [.ref 67, .int 3]) [] SH0 RF0 (gup (gup (gup (gup (gmx J) 67 19 (-1)) 67 20 0) 67 21 5) 67 22 0) (fun r h => r = some (.int 3) ∧ h = (SH0, RF0, (gup (gup (gup (gup (gmx J) 67 19 (-1)) 67 20 0) 67 21 5) 67 22 0))) := by
  refine G_aload_n (pc := 0) rfl dX12_daysOf_0 ?_
  refine G_callV (pc := 1) (mc1 := 0) (ms1 := 0) (ci := 12) (mj := mX12_isOver) (vs := []) dX12_daysOf_1 rfl rfl cm_X12_isOver wh_22 wh_24 wh_25 rfl (Nat.le_of_ble_eq_true rfl) (Nat.le_of_ble_eq_true rfl) (Nat.le_of_ble_eq_true rfl) (Nat.le_of_ble_eq_true rfl) (s10090_X12_isOver J d  ) ?_
  rintro _ _ ⟨rfl, rfl⟩
  dsimp only [Option.toList, List.cons_append, List.nil_append]
  refine G_if_eq (pc := 4) (tgt := 11) (by decide) dX12_daysOf_4 (fun _ => ?_) (fun z => absurd (by decide) z)
  refine G_aload_n (pc := 11) rfl dX12_daysOf_11 ?_
  refine G_getR (pc := 12) (r := 68) (ci := 12) (j := 0) rfl lk_RX12_9 rfl rfl rfl dX12_daysOf_12 ?_
  refine G_iconst (pc := 15) (v := 1) (by decide) dX12_daysOf_15 ?_
  refine G_iald (pc := 16) (jj := 1) (v := 12) (by decide) rfl rfl (by unfold vp_in; decide) dX12_daysOf_16 ?_
  refine G_aload_n (pc := 17) rfl dX12_daysOf_17 ?_
  refine G_getR (pc := 18) (r := 68) (ci := 12) (j := 0) rfl lk_RX12_9 rfl rfl rfl dX12_daysOf_18 ?_
  refine G_iconst (pc := 21) (v := 0) (by decide) dX12_daysOf_21 ?_
  refine G_iald (pc := 22) (jj := 0) (v := 0) (by decide) rfl rfl (by unfold vp_in; decide) dX12_daysOf_22 ?_
  refine G_isub (pc := 23) (z := 12) (by decide) dX12_daysOf_23 ?_
  refine G_istore_n (pc := 24) (L1 := [some (.ref 67), some (.int 3), some (.int 12)]) rfl rfl (by decide) dX12_daysOf_24 ?_
  refine G_iload_n (pc := 25) rfl dX12_daysOf_25 ?_
  refine G_iload_n (pc := 26) rfl dX12_daysOf_26 ?_
  refine G_icmp_ge (pc := 27) (tgt := 34) (by decide) dX12_daysOf_27 (fun z => absurd z (by decide)) (fun _ => ?_)
  refine G_iload_n (pc := 30) rfl dX12_daysOf_30 ?_
  refine G_goto (pc := 31) (tgt := 35) (by decide) dX12_daysOf_31 ?_
  exact G_iret (pc := 35) (Nat.le_of_ble_eq_true rfl) (Nat.le_of_ble_eq_true rfl) rfl dX12_daysOf_35 ⟨rfl, rfl⟩
set_option maxRecDepth 100000 in
set_option maxHeartbeats 4000000 in
theorem s10116_X12_goesBy (J : gI) (d : Nat)   : G (d) mX12_goesBy 0 0 0 0 0 (gent 5 [.ref 67, .int 0]) [] SH0 RF0 (gup (gcp (gup (gup (gup (gcp (gup (gup (gup (gcp (gup (gup (gup (gup (gmx J) 67 19 (-1)) 67 20 0) 67 21 5) 67 22 0) 68 76 0 0 65) 77 0 0) 68 0 1) 68 2 0) 68 76 0 65 65) 77 1 0) 68 0 2) 68 2 0) 68 76 0 130 65) 77 2 0) (fun r h => r = some (.int 0) ∧ h = (SH0, RF0, (gup (gup (gup (gcp (gup (gup (gup (gcp (gup (gup (gup (gcp (gup (gup (gup (gup (gmx J) 67 19 (-1)) 67 20 0) 67 21 5) 67 22 0) 68 76 0 0 65) 77 0 0) 68 0 1) 68 2 0) 68 76 0 65 65) 77 1 0) 68 0 2) 68 2 0) 68 76 0 130 65) 77 2 0) 68 0 3) 68 2 0))) := by
  refine G_iload_n (pc := 0) rfl dX12_goesBy_0 ?_
  refine G_if_ge (pc := 1) (tgt := 11) (by decide) dX12_goesBy_1 (fun _ => ?_) (fun z => absurd (by decide) z)
  refine G_iload_n (pc := 11) rfl dX12_goesBy_11 ?_
  refine G_iconst (pc := 12) (v := 1) (by decide) dX12_goesBy_12 ?_
  refine G_isub (pc := 13) (z := (-1)) (by decide) dX12_goesBy_13 ?_
  refine G_istore_n (pc := 14) (L1 := [some (.ref 67), some (.int 0), some (.int (-1)), none, none]) rfl rfl (by decide) dX12_goesBy_14 ?_
  refine G_iload_n (pc := 15) rfl dX12_goesBy_15 ?_
  refine G_if_lt (pc := 16) (tgt := 27) (by decide) dX12_goesBy_16 (fun _ => ?_) (fun z => absurd (by decide) z)
  refine G_iconst (pc := 27) (v := 0) (by decide) dX12_goesBy_27 ?_
  refine G_istore_n (pc := 28) (L1 := [some (.ref 67), some (.int 0), some (.int (-1)), some (.int 0), none]) rfl rfl (by decide) dX12_goesBy_28 ?_
  refine G_iconst (pc := 29) (v := 0) (by decide) dX12_goesBy_29 ?_
  refine G_istore (pc := 30) (L1 := [some (.ref 67), some (.int 0), some (.int (-1)), some (.int 0), some (.int 0)]) rfl rfl (by decide) dX12_goesBy_30 ?_
  refine G_iload (pc := 32) rfl dX12_goesBy_32 ?_
  refine G_aload_n (pc := 34) rfl dX12_goesBy_34 ?_
  refine G_getR (pc := 35) (r := 68) (ci := 12) (j := 0) rfl lk_RX12_9 rfl rfl rfl dX12_goesBy_35 ?_
  refine G_iconst (pc := 38) (v := 4) (by decide) dX12_goesBy_38 ?_
  refine G_iald (pc := 39) (jj := 4) (v := 0) (by decide) rfl rfl (by unfold vp_in; decide) dX12_goesBy_39 ?_
  refine G_icmp_ge (pc := 40) (tgt := 104) (by decide) dX12_goesBy_40 (fun _ => ?_) (fun z => absurd (by decide) z)
  refine G_aload_n (pc := 104) rfl dX12_goesBy_104 ?_
  refine G_getR (pc := 105) (r := 68) (ci := 12) (j := 0) rfl lk_RX12_9 rfl rfl rfl dX12_goesBy_105 ?_
  refine G_iconst (pc := 108) (v := 0) (by decide) dX12_goesBy_108 ?_
  refine G_dup2 (pc := 109) rfl rfl dX12_goesBy_109 ?_
  refine G_iald (pc := 110) (jj := 0) (v := 2) (by decide) rfl rfl (by unfold vp_in; decide) dX12_goesBy_110 ?_
  refine G_iconst (pc := 111) (v := 1) (by decide) dX12_goesBy_111 ?_
  refine G_iadd (pc := 112) (z := 3) (by decide) dX12_goesBy_112 ?_
  refine G_iast (pc := 113) (jj := 0) (by decide) rfl (by unfold vp_in; decide) dX12_goesBy_113 ?_
  refine G_aload_n (pc := 114) rfl dX12_goesBy_114 ?_
  refine G_getR (pc := 115) (r := 68) (ci := 12) (j := 0) rfl lk_RX12_9 rfl rfl rfl dX12_goesBy_115 ?_
  refine G_iconst (pc := 118) (v := 2) (by decide) dX12_goesBy_118 ?_
  refine G_dup2 (pc := 119) rfl rfl dX12_goesBy_119 ?_
  refine G_iald (pc := 120) (jj := 2) (v := 0) (by decide) rfl rfl (by unfold vp_in; decide) dX12_goesBy_120 ?_
  refine G_iload_n (pc := 121) rfl dX12_goesBy_121 ?_
  refine G_iadd (pc := 122) (z := 0) (by decide) dX12_goesBy_122 ?_
  refine G_iast (pc := 123) (jj := 2) (by decide) rfl (by unfold vp_in; decide) dX12_goesBy_123 ?_
  refine G_iload_n (pc := 124) rfl dX12_goesBy_124 ?_
  exact G_iret (pc := 125) (Nat.le_of_ble_eq_true rfl) (Nat.le_of_ble_eq_true rfl) rfl dX12_goesBy_125 ⟨rfl, rfl⟩
set_option maxRecDepth 100000 in
set_option maxHeartbeats 4000000 in
theorem s10119_X12_those (J : gI) (d : Nat)   : G (d) mX12_those 0 0 0 0 0 (gent 4 [.ref 67, .int 4]) [] SH0 RF0 (gup (gup (gup (gup (gup (gup (gup (gup (gup (gcp (gup (gup (gup (gcp (gup (gup (gup (gcp (gup (gup (gup (gup (gmx J) 67 19 (-1)) 67 20 0) 67 21 5) 67 22 0) 68 76 0 0 65) 77 0 0) 68 0 1) 68 2 0) 68 76 0 65 65) 77 1 0) 68 0 2) 68 2 0) 68 76 0 130 65) 77 2 0) 68 0 3) 68 2 0) 67 20 0) 67 19 0) 78 0 0) 78 1 0) 78 2 0) 67 20 1) (fun r h => r = some (.int 0) ∧ h = (SH0, RF0, (gup (gup (gup (gup (gup (gup (gup (gup (gup (gcp (gup (gup (gup (gcp (gup (gup (gup (gcp (gup (gup (gup (gup (gmx J) 67 19 (-1)) 67 20 0) 67 21 5) 67 22 0) 68 76 0 0 65) 77 0 0) 68 0 1) 68 2 0) 68 76 0 65 65) 77 1 0) 68 0 2) 68 2 0) 68 76 0 130 65) 77 2 0) 68 0 3) 68 2 0) 67 20 0) 67 19 0) 78 0 0) 78 1 0) 78 2 0) 67 20 1))) := by
  refine G_iconst (pc := 0) (v := 0) (by decide) dX12_those_0 ?_
  refine G_istore_n (pc := 1) (L1 := [some (.ref 67), some (.int 4), some (.int 0), none]) rfl rfl (by decide) dX12_those_1 ?_
  refine G_iconst (pc := 2) (v := 0) (by decide) dX12_those_2 ?_
  refine G_istore_n (pc := 3) (L1 := [some (.ref 67), some (.int 4), some (.int 0), some (.int 0)]) rfl rfl (by decide) dX12_those_3 ?_
  refine G_iload_n (pc := 4) rfl dX12_those_4 ?_
  refine G_aload_n (pc := 5) rfl dX12_those_5 ?_
  refine G_getR (pc := 6) (r := 68) (ci := 12) (j := 0) rfl lk_RX12_9 rfl rfl rfl dX12_those_6 ?_
  refine G_iconst (pc := 9) (v := 4) (by decide) dX12_those_9 ?_
  refine G_iald (pc := 10) (jj := 4) (v := 0) (by decide) rfl rfl (by unfold vp_in; decide) dX12_those_10 ?_
  refine G_icmp_ge (pc := 11) (tgt := 39) (by decide) dX12_those_11 (fun _ => ?_) (fun z => absurd (by decide) z)
  refine G_iload_n (pc := 39) rfl dX12_those_39 ?_
  exact G_iret (pc := 40) (Nat.le_of_ble_eq_true rfl) (Nat.le_of_ble_eq_true rfl) rfl dX12_those_40 ⟨rfl, rfl⟩
set_option maxRecDepth 100000 in
set_option maxHeartbeats 4000000 in
theorem s10118_X12_endsPlan (J : gI) (d : Nat)   : G (d + 1) mX12_endsPlan 0 0 0 0 0 (gent 6 [.ref 67, .int 3, .int 0, .int 0, .int 0]) [] SH0 RF0 (gup (gup (gup (gcp (gup (gup (gup (gcp (gup (gup (gup (gcp (gup (gup (gup (gup (gmx J) 67 19 (-1)) 67 20 0) 67 21 5) 67 22 0) 68 76 0 0 65) 77 0 0) 68 0 1) 68 2 0) 68 76 0 65 65) 77 1 0) 68 0 2) 68 2 0) 68 76 0 130 65) 77 2 0) 68 0 3) 68 2 0) (fun r h => r = none ∧ h = (SH0, RF0, (gup (gup (gup (gup (gup (gup (gup (gup (gup (gup (gup (gcp (gup (gup (gup (gcp (gup (gup (gup (gcp (gup (gup (gup (gup (gmx J) 67 19 (-1)) 67 20 0) 67 21 5) 67 22 0) 68 76 0 0 65) 77 0 0) 68 0 1) 68 2 0) 68 76 0 65 65) 77 1 0) 68 0 2) 68 2 0) 68 76 0 130 65) 77 2 0) 68 0 3) 68 2 0) 67 20 0) 67 19 0) 78 0 0) 78 1 0) 78 2 0) 67 20 1) 67 21 0) 67 22 0))) := by
  refine G_iload_n (pc := 0) rfl dX12_endsPlan_0 ?_
  refine G_aload_n (pc := 1) rfl dX12_endsPlan_1 ?_
  refine G_getI (pc := 2) (v := (-1)) (ci := 12) (j := 19) rfl rfl lk_RX12_259 rfl rfl dX12_endsPlan_2 ?_
  refine G_icmp_le (pc := 5) (tgt := 47) (by decide) dX12_endsPlan_5 (fun z => absurd z (by decide)) (fun _ => ?_)
  refine G_aload_n (pc := 8) rfl dX12_endsPlan_8 ?_
  refine G_iconst (pc := 9) (v := 0) (by decide) dX12_endsPlan_9 ?_
  refine G_putI (pc := 10) (ci := 12) (j := 20) rfl lk_RX12_262 rfl rfl rfl trivial dX12_endsPlan_10 ?_
  refine G_aload_n (pc := 13) rfl dX12_endsPlan_13 ?_
  refine G_iload_n (pc := 14) rfl dX12_endsPlan_14 ?_
  refine G_putI (pc := 15) (ci := 12) (j := 19) rfl lk_RX12_259 rfl rfl rfl trivial dX12_endsPlan_15 ?_
  refine G_iconst (pc := 18) (v := 0) (by decide) dX12_endsPlan_18 ?_
  refine G_istore (pc := 19) (L1 := [some (.ref 67), some (.int 3), some (.int 0), some (.int 0), some (.int 0), some (.int 0)]) rfl rfl (by decide) dX12_endsPlan_19 ?_
  refine G_iload (pc := 21) rfl dX12_endsPlan_21 ?_
  refine G_iload_n (pc := 23) rfl dX12_endsPlan_23 ?_
  refine G_icmp_ge (pc := 24) (tgt := 47) (by decide) dX12_endsPlan_24 (fun z => absurd z (by decide)) (fun _ => ?_)
  refine G_aload_n (pc := 27) rfl dX12_endsPlan_27 ?_
  refine G_getR (pc := 28) (r := 78) (ci := 12) (j := 18) rfl lk_RX12_41 rfl rfl rfl dX12_endsPlan_28 ?_
  refine G_iload (pc := 31) rfl dX12_endsPlan_31 ?_
  refine G_aload_n (pc := 33) rfl dX12_endsPlan_33 ?_
  refine G_getR (pc := 34) (r := 77) (ci := 12) (j := 17) rfl lk_RX12_38 rfl rfl rfl dX12_endsPlan_34 ?_
  refine G_iload (pc := 37) rfl dX12_endsPlan_37 ?_
  refine G_iald (pc := 39) (jj := 0) (v := 0) (by decide) rfl rfl (by unfold vp_in; decide) dX12_endsPlan_39 ?_
  refine G_iast (pc := 40) (jj := 0) (by decide) rfl (by unfold vp_in; decide) dX12_endsPlan_40 ?_
  refine G_iinc (pc := 41) (v := 1) (w := 1) (L1 := [some (.ref 67), some (.int 3), some (.int 0), some (.int 0), some (.int 0), some (.int 1)]) (by decide) rfl rfl (by decide) rfl (by decide) dX12_endsPlan_41 ?_
  refine G_goto (pc := 44) (tgt := 21) (by decide) dX12_endsPlan_44 ?_
  refine G_iload (pc := 21) rfl dX12_endsPlan_21 ?_
  refine G_iload_n (pc := 23) rfl dX12_endsPlan_23 ?_
  refine G_icmp_ge (pc := 24) (tgt := 47) (by decide) dX12_endsPlan_24 (fun z => absurd z (by decide)) (fun _ => ?_)
  refine G_aload_n (pc := 27) rfl dX12_endsPlan_27 ?_
  refine G_getR (pc := 28) (r := 78) (ci := 12) (j := 18) rfl lk_RX12_41 rfl rfl rfl dX12_endsPlan_28 ?_
  refine G_iload (pc := 31) rfl dX12_endsPlan_31 ?_
  refine G_aload_n (pc := 33) rfl dX12_endsPlan_33 ?_
  refine G_getR (pc := 34) (r := 77) (ci := 12) (j := 17) rfl lk_RX12_38 rfl rfl rfl dX12_endsPlan_34 ?_
  refine G_iload (pc := 37) rfl dX12_endsPlan_37 ?_
  refine G_iald (pc := 39) (jj := 1) (v := 0) (by decide) rfl rfl (by unfold vp_in; decide) dX12_endsPlan_39 ?_
  refine G_iast (pc := 40) (jj := 1) (by decide) rfl (by unfold vp_in; decide) dX12_endsPlan_40 ?_
  refine G_iinc (pc := 41) (v := 1) (w := 2) (L1 := [some (.ref 67), some (.int 3), some (.int 0), some (.int 0), some (.int 0), some (.int 2)]) (by decide) rfl rfl (by decide) rfl (by decide) dX12_endsPlan_41 ?_
  refine G_goto (pc := 44) (tgt := 21) (by decide) dX12_endsPlan_44 ?_
  refine G_iload (pc := 21) rfl dX12_endsPlan_21 ?_
  refine G_iload_n (pc := 23) rfl dX12_endsPlan_23 ?_
  refine G_icmp_ge (pc := 24) (tgt := 47) (by decide) dX12_endsPlan_24 (fun z => absurd z (by decide)) (fun _ => ?_)
  refine G_aload_n (pc := 27) rfl dX12_endsPlan_27 ?_
  refine G_getR (pc := 28) (r := 78) (ci := 12) (j := 18) rfl lk_RX12_41 rfl rfl rfl dX12_endsPlan_28 ?_
  refine G_iload (pc := 31) rfl dX12_endsPlan_31 ?_
  refine G_aload_n (pc := 33) rfl dX12_endsPlan_33 ?_
  refine G_getR (pc := 34) (r := 77) (ci := 12) (j := 17) rfl lk_RX12_38 rfl rfl rfl dX12_endsPlan_34 ?_
  refine G_iload (pc := 37) rfl dX12_endsPlan_37 ?_
  refine G_iald (pc := 39) (jj := 2) (v := 0) (by decide) rfl rfl (by unfold vp_in; decide) dX12_endsPlan_39 ?_
  refine G_iast (pc := 40) (jj := 2) (by decide) rfl (by unfold vp_in; decide) dX12_endsPlan_40 ?_
  refine G_iinc (pc := 41) (v := 1) (w := 3) (L1 := [some (.ref 67), some (.int 3), some (.int 0), some (.int 0), some (.int 0), some (.int 3)]) (by decide) rfl rfl (by decide) rfl (by decide) dX12_endsPlan_41 ?_
  refine G_goto (pc := 44) (tgt := 21) (by decide) dX12_endsPlan_44 ?_
  refine G_iload (pc := 21) rfl dX12_endsPlan_21 ?_
  refine G_iload_n (pc := 23) rfl dX12_endsPlan_23 ?_
  refine G_icmp_ge (pc := 24) (tgt := 47) (by decide) dX12_endsPlan_24 (fun _ => ?_) (fun z => absurd (by decide) z)
  refine G_aload_n (pc := 47) rfl dX12_endsPlan_47 ?_
  refine G_dup (pc := 48) rfl dX12_endsPlan_48 ?_
  refine G_getI (pc := 49) (v := 0) (ci := 12) (j := 20) rfl rfl lk_RX12_262 rfl rfl dX12_endsPlan_49 ?_
  refine G_iload_n (pc := 52) rfl dX12_endsPlan_52 ?_
  refine G_aload_n (pc := 53) rfl dX12_endsPlan_53 ?_
  refine G_getI (pc := 54) (v := 0) (ci := 12) (j := 19) rfl rfl lk_RX12_259 rfl rfl dX12_endsPlan_54 ?_
  refine G_icmp_ne (pc := 57) (tgt := 64) (by decide) dX12_endsPlan_57 (fun z => absurd (by decide) z) (fun _ => ?_)
  refine G_iconst (pc := 60) (v := 1) (by decide) dX12_endsPlan_60 ?_
  refine G_goto (pc := 61) (tgt := 65) (by decide) dX12_endsPlan_61 ?_
  refine G_iadd (pc := 65) (z := 1) (by decide) dX12_endsPlan_65 ?_
  refine G_putI (pc := 66) (ci := 12) (j := 20) rfl lk_RX12_262 rfl rfl rfl trivial dX12_endsPlan_66 ?_
  refine G_aload_n (pc := 69) rfl dX12_endsPlan_69 ?_
  refine G_iconst (pc := 70) (v := 4) (by decide) dX12_endsPlan_70 ?_
  refine G_callV (pc := 71) (mc1 := 0) (ms1 := 0) (ci := 12) (mj := mX12_those) (vs := [_]) dX12_endsPlan_71 rfl rfl cm_X12_those wh_26 wh_28 wh_29 rfl (Nat.le_of_ble_eq_true rfl) (Nat.le_of_ble_eq_true rfl) (Nat.le_of_ble_eq_true rfl) (Nat.le_of_ble_eq_true rfl) (s10119_X12_those J d  ) ?_
  rintro _ _ ⟨rfl, rfl⟩
  dsimp only [Option.toList, List.cons_append, List.nil_append]
  refine G_istore (pc := 74) (L1 := [some (.ref 67), some (.int 3), some (.int 0), some (.int 0), some (.int 0), some (.int 0)]) rfl rfl (by decide) dX12_endsPlan_74 ?_
  refine G_aload_n (pc := 76) rfl dX12_endsPlan_76 ?_
  refine G_iload (pc := 77) rfl dX12_endsPlan_77 ?_
  refine G_iload (pc := 79) rfl dX12_endsPlan_79 ?_
  refine G_iconst (pc := 81) (v := (-1)) (by decide) dX12_endsPlan_81 ?_
  refine G_ixor (pc := 82) (z := (-1)) (by decide) dX12_endsPlan_82 ?_
  refine G_iand (pc := 83) (z := 0) (by decide) dX12_endsPlan_83 ?_
  refine G_if_ne (pc := 84) (tgt := 99) (by decide) dX12_endsPlan_84 (fun z => absurd (by decide) z) (fun _ => ?_)
  refine G_iload_n (pc := 87) rfl dX12_endsPlan_87 ?_
  refine G_aload_n (pc := 88) rfl dX12_endsPlan_88 ?_
  refine G_getI (pc := 89) (v := 5) (ci := 12) (j := 21) rfl rfl lk_RX12_265 rfl rfl dX12_endsPlan_89 ?_
  refine G_icmp_ge (pc := 92) (tgt := 99) (by decide) dX12_endsPlan_92 (fun z => absurd z (by decide)) (fun _ => ?_)
  refine G_iload_n (pc := 95) rfl dX12_endsPlan_95 ?_
  refine G_goto (pc := 96) (tgt := 103) (by decide) dX12_endsPlan_96 ?_
  refine G_putI (pc := 103) (ci := 12) (j := 21) rfl lk_RX12_265 rfl rfl rfl trivial dX12_endsPlan_103 ?_
  refine G_aload_n (pc := 106) rfl dX12_endsPlan_106 ?_
  refine G_dup (pc := 107) rfl dX12_endsPlan_107 ?_
  refine G_getI (pc := 108) (v := 0) (ci := 12) (j := 22) rfl rfl lk_RX12_268 rfl rfl dX12_endsPlan_108 ?_
  refine G_iload (pc := 111) rfl dX12_endsPlan_111 ?_
  refine G_ior (pc := 113) (z := 0) (by decide) dX12_endsPlan_113 ?_
  refine G_putI (pc := 114) (ci := 12) (j := 22) rfl lk_RX12_268 rfl rfl rfl trivial dX12_endsPlan_114 ?_
  exact G_vret (pc := 117) (Nat.le_of_ble_eq_true rfl) (Nat.le_of_ble_eq_true rfl) rfl dX12_endsPlan_117 ⟨rfl, rfl⟩
set_option maxRecDepth 100000 in
set_option maxHeartbeats 4000000 in
theorem s10117_X12_goesPlans (J : gI) (d : Nat)   : G (d + 2) mX12_goesPlans 0 0 0 0 0 (gent 8 [.ref 67, .int 3, .int 3, .int 0, .int 0, .int 0]) [] SH0 RF0 (gup (gup (gup (gcp (gup (gup (gup (gcp (gup (gup (gup (gcp (gup (gup (gup (gup (gmx J) 67 19 (-1)) 67 20 0) 67 21 5) 67 22 0) 68 76 0 0 65) 77 0 0) 68 0 1) 68 2 0) 68 76 0 65 65) 77 1 0) 68 0 2) 68 2 0) 68 76 0 130 65) 77 2 0) 68 0 3) 68 2 0) (fun r h => r = none ∧ h = (SH0, RF0, (gup (gup (gup (gup (gup (gup (gup (gup (gup (gup (gup (gcp (gup (gup (gup (gcp (gup (gup (gup (gcp (gup (gup (gup (gup (gmx J) 67 19 (-1)) 67 20 0) 67 21 5) 67 22 0) 68 76 0 0 65) 77 0 0) 68 0 1) 68 2 0) 68 76 0 65 65) 77 1 0) 68 0 2) 68 2 0) 68 76 0 130 65) 77 2 0) 68 0 3) 68 2 0) 67 20 0) 67 19 0) 78 0 0) 78 1 0) 78 2 0) 67 20 1) 67 21 0) 67 22 0))) := by
  refine G_iload_n (pc := 0) rfl dX12_goesPlans_0 ?_
  refine G_iload_n (pc := 1) rfl dX12_goesPlans_1 ?_
  refine G_icmp_ne (pc := 2) (tgt := 16) (by decide) dX12_goesPlans_2 (fun z => absurd (by decide) z) (fun _ => ?_)
  refine G_aload_n (pc := 5) rfl dX12_goesPlans_5 ?_
  refine G_iload_n (pc := 6) rfl dX12_goesPlans_6 ?_
  refine G_iload_n (pc := 7) rfl dX12_goesPlans_7 ?_
  refine G_iload (pc := 8) rfl dX12_goesPlans_8 ?_
  refine G_iload (pc := 10) rfl dX12_goesPlans_10 ?_
  refine G_callV (pc := 12) (mc1 := 0) (ms1 := 0) (ci := 12) (mj := mX12_endsPlan) (vs := [_, _, _, _]) dX12_goesPlans_12 rfl rfl cm_X12_endsPlan wh_95 wh_97 wh_98 rfl (Nat.le_of_ble_eq_true rfl) (Nat.le_of_ble_eq_true rfl) (Nat.le_of_ble_eq_true rfl) (Nat.le_of_ble_eq_true rfl) (s10118_X12_endsPlan J d  ) ?_
  rintro _ _ ⟨rfl, rfl⟩
  dsimp only [Option.toList, List.cons_append, List.nil_append]
  exact G_vret (pc := 15) (Nat.le_of_ble_eq_true rfl) (Nat.le_of_ble_eq_true rfl) rfl dX12_goesPlans_15 ⟨rfl, rfl⟩
set_option maxRecDepth 100000 in
set_option maxHeartbeats 4000000 in
theorem s10115_X12_goesPlans (J : gI) (d : Nat)   : G (d + 3) mX12_goesPlans 0 0 0 0 0 (gent 8 [.ref 67, .int 2, .int 3, .int 0, .int 0, .int 0]) [] SH0 RF0 (gup (gup (gup (gcp (gup (gup (gup (gcp (gup (gup (gup (gup (gmx J) 67 19 (-1)) 67 20 0) 67 21 5) 67 22 0) 68 76 0 0 65) 77 0 0) 68 0 1) 68 2 0) 68 76 0 65 65) 77 1 0) 68 0 2) 68 2 0) (fun r h => r = none ∧ h = (SH0, RF0, (gcp (gup (gup (gup (gup (gup (gup (gup (gup (gup (gup (gup (gcp (gup (gup (gup (gcp (gup (gup (gup (gcp (gup (gup (gup (gup (gmx J) 67 19 (-1)) 67 20 0) 67 21 5) 67 22 0) 68 76 0 0 65) 77 0 0) 68 0 1) 68 2 0) 68 76 0 65 65) 77 1 0) 68 0 2) 68 2 0) 68 76 0 130 65) 77 2 0) 68 0 3) 68 2 0) 67 20 0) 67 19 0) 78 0 0) 78 1 0) 78 2 0) 67 20 1) 67 21 0) 67 22 0) 76 68 130 0 65))) := by
  refine G_iload_n (pc := 0) rfl dX12_goesPlans_0 ?_
  refine G_iload_n (pc := 1) rfl dX12_goesPlans_1 ?_
  refine G_icmp_ne (pc := 2) (tgt := 16) (by decide) dX12_goesPlans_2 (fun _ => ?_) (fun z => absurd z (by decide))
  refine G_aload_n (pc := 16) rfl dX12_goesPlans_16 ?_
  refine G_iload_n (pc := 17) rfl dX12_goesPlans_17 ?_
  refine G_callV (pc := 18) (mc1 := 0) (ms1 := 0) (ci := 12) (mj := mX12_saves) (vs := [_]) dX12_goesPlans_18 rfl rfl cm_X12_saves wh_107 wh_109 wh_110 rfl (Nat.le_of_ble_eq_true rfl) (Nat.le_of_ble_eq_true rfl) (Nat.le_of_ble_eq_true rfl) (Nat.le_of_ble_eq_true rfl) (saves_2 (d + 2) (gup (gup (gup (gcp (gup (gup (gup (gcp (gup (gup (gup (gup (gmx J) 67 19 (-1)) 67 20 0) 67 21 5) 67 22 0) 68 76 0 0 65) 77 0 0) 68 0 1) 68 2 0) 68 76 0 65 65) 77 1 0) 68 0 2) 68 2 0)) ?_
  rintro _ _ ⟨rfl, rfl⟩
  dsimp only [Option.toList, List.cons_append, List.nil_append]
  refine G_iconst (pc := 21) (v := 0) (by decide) dX12_goesPlans_21 ?_
  refine G_istore (pc := 22) (L1 := [some (.ref 67), some (.int 2), some (.int 3), some (.int 0), some (.int 0), some (.int 0), some (.int 0), none]) rfl rfl (by decide) dX12_goesPlans_22 ?_
  refine G_iload (pc := 24) rfl dX12_goesPlans_24 ?_
  refine G_aload_n (pc := 26) rfl dX12_goesPlans_26 ?_
  refine G_getR (pc := 27) (r := 68) (ci := 12) (j := 0) rfl lk_RX12_9 rfl rfl rfl dX12_goesPlans_27 ?_
  refine G_iconst (pc := 30) (v := 4) (by decide) dX12_goesPlans_30 ?_
  refine G_iald (pc := 31) (jj := 4) (v := 0) (by decide) rfl rfl (by unfold vp_in; decide) dX12_goesPlans_31 ?_
  refine G_icmp_gt (pc := 32) (tgt := 90) (by decide) dX12_goesPlans_32 (fun z => absurd z (by decide)) (fun _ => ?_)
  refine G_aload_n (pc := 35) rfl dX12_goesPlans_35 ?_
  refine G_getR (pc := 36) (r := 77) (ci := 12) (j := 17) rfl lk_RX12_38 rfl rfl rfl dX12_goesPlans_36 ?_
  refine G_iload_n (pc := 39) rfl dX12_goesPlans_39 ?_
  refine G_iload (pc := 40) rfl dX12_goesPlans_40 ?_
  refine G_iast (pc := 42) (jj := 2) (by decide) rfl (by unfold vp_in; decide) dX12_goesPlans_42 ?_
  refine G_aload_n (pc := 43) rfl dX12_goesPlans_43 ?_
  refine G_iload (pc := 44) rfl dX12_goesPlans_44 ?_
  refine G_callV (pc := 46) (mc1 := 0) (ms1 := 0) (ci := 12) (mj := mX12_goesBy) (vs := [_]) dX12_goesPlans_46 rfl rfl cm_X12_goesBy wh_72 wh_74 wh_75 rfl (Nat.le_of_ble_eq_true rfl) (Nat.le_of_ble_eq_true rfl) (Nat.le_of_ble_eq_true rfl) (Nat.le_of_ble_eq_true rfl) (s10116_X12_goesBy J (d + 2)  ) ?_
  rintro _ _ ⟨rfl, rfl⟩
  dsimp only [Option.toList, List.cons_append, List.nil_append]
  refine G_istore (pc := 49) (L1 := [some (.ref 67), some (.int 2), some (.int 3), some (.int 0), some (.int 0), some (.int 0), some (.int 0), some (.int 0)]) rfl rfl (by decide) dX12_goesPlans_49 ?_
  refine G_aload_n (pc := 51) rfl dX12_goesPlans_51 ?_
  refine G_iload_n (pc := 52) rfl dX12_goesPlans_52 ?_
  refine G_iconst (pc := 53) (v := 1) (by decide) dX12_goesPlans_53 ?_
  refine G_iadd (pc := 54) (z := 3) (by decide) dX12_goesPlans_54 ?_
  refine G_iload_n (pc := 55) rfl dX12_goesPlans_55 ?_
  refine G_iload_n (pc := 56) rfl dX12_goesPlans_56 ?_
  refine G_iload (pc := 57) rfl dX12_goesPlans_57 ?_
  refine G_iadd (pc := 59) (z := 0) (by decide) dX12_goesPlans_59 ?_
  refine G_iload (pc := 60) rfl dX12_goesPlans_60 ?_
  refine G_if_le (pc := 62) (tgt := 72) (by decide) dX12_goesPlans_62 (fun _ => ?_) (fun z => absurd (by decide) z)
  refine G_iload (pc := 72) rfl dX12_goesPlans_72 ?_
  refine G_iload (pc := 74) rfl dX12_goesPlans_74 ?_
  refine G_callV (pc := 76) (mc1 := 0) (ms1 := 0) (ci := 12) (mj := mX12_goesPlans) (vs := [_, _, _, _, _]) dX12_goesPlans_76 rfl rfl cm_X12_goesPlans wh_99 wh_101 wh_102 rfl (Nat.le_of_ble_eq_true rfl) (Nat.le_of_ble_eq_true rfl) (Nat.le_of_ble_eq_true rfl) (Nat.le_of_ble_eq_true rfl) (s10117_X12_goesPlans J d  ) ?_
  rintro _ _ ⟨rfl, rfl⟩
  dsimp only [Option.toList, List.cons_append, List.nil_append]
  refine G_aload_n (pc := 79) rfl dX12_goesPlans_79 ?_
  refine G_iload_n (pc := 80) rfl dX12_goesPlans_80 ?_
  refine G_callV (pc := 81) (mc1 := 0) (ms1 := 0) (ci := 12) (mj := mX12_restores) (vs := [_]) dX12_goesPlans_81 rfl rfl cm_X12_restores wh_111 wh_113 wh_114 rfl (Nat.le_of_ble_eq_true rfl) (Nat.le_of_ble_eq_true rfl) (Nat.le_of_ble_eq_true rfl) (Nat.le_of_ble_eq_true rfl) (restores_2 (d + 2) (gup (gup (gup (gup (gup (gup (gup (gup (gup (gup (gup (gcp (gup (gup (gup (gcp (gup (gup (gup (gcp (gup (gup (gup (gup (gmx J) 67 19 (-1)) 67 20 0) 67 21 5) 67 22 0) 68 76 0 0 65) 77 0 0) 68 0 1) 68 2 0) 68 76 0 65 65) 77 1 0) 68 0 2) 68 2 0) 68 76 0 130 65) 77 2 0) 68 0 3) 68 2 0) 67 20 0) 67 19 0) 78 0 0) 78 1 0) 78 2 0) 67 20 1) 67 21 0) 67 22 0)) ?_
  rintro _ _ ⟨rfl, rfl⟩
  dsimp only [Option.toList, List.cons_append, List.nil_append]
  refine G_iinc (pc := 84) (v := 1) (w := 1) (L1 := [some (.ref 67), some (.int 2), some (.int 3), some (.int 0), some (.int 0), some (.int 0), some (.int 1), some (.int 0)]) (by decide) rfl rfl (by decide) rfl (by decide) dX12_goesPlans_84 ?_
  refine G_goto (pc := 87) (tgt := 24) (by decide) dX12_goesPlans_87 ?_
  refine G_iload (pc := 24) rfl dX12_goesPlans_24 ?_
  refine G_aload_n (pc := 26) rfl dX12_goesPlans_26 ?_
  refine G_getR (pc := 27) (r := 68) (ci := 12) (j := 0) rfl lk_RX12_9 rfl rfl rfl dX12_goesPlans_27 ?_
  refine G_iconst (pc := 30) (v := 4) (by decide) dX12_goesPlans_30 ?_
  refine G_iald (pc := 31) (jj := 4) (v := 0) (by decide) rfl rfl (by unfold vp_in; decide) dX12_goesPlans_31 ?_
  refine G_icmp_gt (pc := 32) (tgt := 90) (by decide) dX12_goesPlans_32 (fun _ => ?_) (fun z => absurd (by decide) z)
  exact G_vret (pc := 90) (Nat.le_of_ble_eq_true rfl) (Nat.le_of_ble_eq_true rfl) rfl dX12_goesPlans_90 ⟨rfl, rfl⟩
set_option maxRecDepth 100000 in
set_option maxHeartbeats 4000000 in
theorem s10114_X12_goesPlans (J : gI) (d : Nat)   : G (d + 4) mX12_goesPlans 0 0 0 0 0 (gent 8 [.ref 67, .int 1, .int 3, .int 0, .int 0, .int 0]) [] SH0 RF0 (gup (gup (gup (gcp (gup (gup (gup (gup (gmx J) 67 19 (-1)) 67 20 0) 67 21 5) 67 22 0) 68 76 0 0 65) 77 0 0) 68 0 1) 68 2 0) (fun r h => r = none ∧ h = (SH0, RF0, (gcp (gcp (gup (gup (gup (gup (gup (gup (gup (gup (gup (gup (gup (gcp (gup (gup (gup (gcp (gup (gup (gup (gcp (gup (gup (gup (gup (gmx J) 67 19 (-1)) 67 20 0) 67 21 5) 67 22 0) 68 76 0 0 65) 77 0 0) 68 0 1) 68 2 0) 68 76 0 65 65) 77 1 0) 68 0 2) 68 2 0) 68 76 0 130 65) 77 2 0) 68 0 3) 68 2 0) 67 20 0) 67 19 0) 78 0 0) 78 1 0) 78 2 0) 67 20 1) 67 21 0) 67 22 0) 76 68 130 0 65) 76 68 65 0 65))) := by
  refine G_iload_n (pc := 0) rfl dX12_goesPlans_0 ?_
  refine G_iload_n (pc := 1) rfl dX12_goesPlans_1 ?_
  refine G_icmp_ne (pc := 2) (tgt := 16) (by decide) dX12_goesPlans_2 (fun _ => ?_) (fun z => absurd z (by decide))
  refine G_aload_n (pc := 16) rfl dX12_goesPlans_16 ?_
  refine G_iload_n (pc := 17) rfl dX12_goesPlans_17 ?_
  refine G_callV (pc := 18) (mc1 := 0) (ms1 := 0) (ci := 12) (mj := mX12_saves) (vs := [_]) dX12_goesPlans_18 rfl rfl cm_X12_saves wh_107 wh_109 wh_110 rfl (Nat.le_of_ble_eq_true rfl) (Nat.le_of_ble_eq_true rfl) (Nat.le_of_ble_eq_true rfl) (Nat.le_of_ble_eq_true rfl) (saves_1 (d + 3) (gup (gup (gup (gcp (gup (gup (gup (gup (gmx J) 67 19 (-1)) 67 20 0) 67 21 5) 67 22 0) 68 76 0 0 65) 77 0 0) 68 0 1) 68 2 0)) ?_
  rintro _ _ ⟨rfl, rfl⟩
  dsimp only [Option.toList, List.cons_append, List.nil_append]
  refine G_iconst (pc := 21) (v := 0) (by decide) dX12_goesPlans_21 ?_
  refine G_istore (pc := 22) (L1 := [some (.ref 67), some (.int 1), some (.int 3), some (.int 0), some (.int 0), some (.int 0), some (.int 0), none]) rfl rfl (by decide) dX12_goesPlans_22 ?_
  refine G_iload (pc := 24) rfl dX12_goesPlans_24 ?_
  refine G_aload_n (pc := 26) rfl dX12_goesPlans_26 ?_
  refine G_getR (pc := 27) (r := 68) (ci := 12) (j := 0) rfl lk_RX12_9 rfl rfl rfl dX12_goesPlans_27 ?_
  refine G_iconst (pc := 30) (v := 4) (by decide) dX12_goesPlans_30 ?_
  refine G_iald (pc := 31) (jj := 4) (v := 0) (by decide) rfl rfl (by unfold vp_in; decide) dX12_goesPlans_31 ?_
  refine G_icmp_gt (pc := 32) (tgt := 90) (by decide) dX12_goesPlans_32 (fun z => absurd z (by decide)) (fun _ => ?_)
  refine G_aload_n (pc := 35) rfl dX12_goesPlans_35 ?_
  refine G_getR (pc := 36) (r := 77) (ci := 12) (j := 17) rfl lk_RX12_38 rfl rfl rfl dX12_goesPlans_36 ?_
  refine G_iload_n (pc := 39) rfl dX12_goesPlans_39 ?_
  refine G_iload (pc := 40) rfl dX12_goesPlans_40 ?_
  refine G_iast (pc := 42) (jj := 1) (by decide) rfl (by unfold vp_in; decide) dX12_goesPlans_42 ?_
  refine G_aload_n (pc := 43) rfl dX12_goesPlans_43 ?_
  refine G_iload (pc := 44) rfl dX12_goesPlans_44 ?_
  refine G_callV (pc := 46) (mc1 := 0) (ms1 := 0) (ci := 12) (mj := mX12_goesBy) (vs := [_]) dX12_goesPlans_46 rfl rfl cm_X12_goesBy wh_72 wh_74 wh_75 rfl (Nat.le_of_ble_eq_true rfl) (Nat.le_of_ble_eq_true rfl) (Nat.le_of_ble_eq_true rfl) (Nat.le_of_ble_eq_true rfl) (s10107_X12_goesBy J (d + 3)  ) ?_
  rintro _ _ ⟨rfl, rfl⟩
  dsimp only [Option.toList, List.cons_append, List.nil_append]
  refine G_istore (pc := 49) (L1 := [some (.ref 67), some (.int 1), some (.int 3), some (.int 0), some (.int 0), some (.int 0), some (.int 0), some (.int 0)]) rfl rfl (by decide) dX12_goesPlans_49 ?_
  refine G_aload_n (pc := 51) rfl dX12_goesPlans_51 ?_
  refine G_iload_n (pc := 52) rfl dX12_goesPlans_52 ?_
  refine G_iconst (pc := 53) (v := 1) (by decide) dX12_goesPlans_53 ?_
  refine G_iadd (pc := 54) (z := 2) (by decide) dX12_goesPlans_54 ?_
  refine G_iload_n (pc := 55) rfl dX12_goesPlans_55 ?_
  refine G_iload_n (pc := 56) rfl dX12_goesPlans_56 ?_
  refine G_iload (pc := 57) rfl dX12_goesPlans_57 ?_
  refine G_iadd (pc := 59) (z := 0) (by decide) dX12_goesPlans_59 ?_
  refine G_iload (pc := 60) rfl dX12_goesPlans_60 ?_
  refine G_if_le (pc := 62) (tgt := 72) (by decide) dX12_goesPlans_62 (fun _ => ?_) (fun z => absurd (by decide) z)
  refine G_iload (pc := 72) rfl dX12_goesPlans_72 ?_
  refine G_iload (pc := 74) rfl dX12_goesPlans_74 ?_
  refine G_callV (pc := 76) (mc1 := 0) (ms1 := 0) (ci := 12) (mj := mX12_goesPlans) (vs := [_, _, _, _, _]) dX12_goesPlans_76 rfl rfl cm_X12_goesPlans wh_99 wh_101 wh_102 rfl (Nat.le_of_ble_eq_true rfl) (Nat.le_of_ble_eq_true rfl) (Nat.le_of_ble_eq_true rfl) (Nat.le_of_ble_eq_true rfl) (s10115_X12_goesPlans J d  ) ?_
  rintro _ _ ⟨rfl, rfl⟩
  dsimp only [Option.toList, List.cons_append, List.nil_append]
  refine G_aload_n (pc := 79) rfl dX12_goesPlans_79 ?_
  refine G_iload_n (pc := 80) rfl dX12_goesPlans_80 ?_
  refine G_callV (pc := 81) (mc1 := 0) (ms1 := 0) (ci := 12) (mj := mX12_restores) (vs := [_]) dX12_goesPlans_81 rfl rfl cm_X12_restores wh_111 wh_113 wh_114 rfl (Nat.le_of_ble_eq_true rfl) (Nat.le_of_ble_eq_true rfl) (Nat.le_of_ble_eq_true rfl) (Nat.le_of_ble_eq_true rfl) (restores_1 (d + 3) (gcp (gup (gup (gup (gup (gup (gup (gup (gup (gup (gup (gup (gcp (gup (gup (gup (gcp (gup (gup (gup (gcp (gup (gup (gup (gup (gmx J) 67 19 (-1)) 67 20 0) 67 21 5) 67 22 0) 68 76 0 0 65) 77 0 0) 68 0 1) 68 2 0) 68 76 0 65 65) 77 1 0) 68 0 2) 68 2 0) 68 76 0 130 65) 77 2 0) 68 0 3) 68 2 0) 67 20 0) 67 19 0) 78 0 0) 78 1 0) 78 2 0) 67 20 1) 67 21 0) 67 22 0) 76 68 130 0 65)) ?_
  rintro _ _ ⟨rfl, rfl⟩
  dsimp only [Option.toList, List.cons_append, List.nil_append]
  refine G_iinc (pc := 84) (v := 1) (w := 1) (L1 := [some (.ref 67), some (.int 1), some (.int 3), some (.int 0), some (.int 0), some (.int 0), some (.int 1), some (.int 0)]) (by decide) rfl rfl (by decide) rfl (by decide) dX12_goesPlans_84 ?_
  refine G_goto (pc := 87) (tgt := 24) (by decide) dX12_goesPlans_87 ?_
  refine G_iload (pc := 24) rfl dX12_goesPlans_24 ?_
  refine G_aload_n (pc := 26) rfl dX12_goesPlans_26 ?_
  refine G_getR (pc := 27) (r := 68) (ci := 12) (j := 0) rfl lk_RX12_9 rfl rfl rfl dX12_goesPlans_27 ?_
  refine G_iconst (pc := 30) (v := 4) (by decide) dX12_goesPlans_30 ?_
  refine G_iald (pc := 31) (jj := 4) (v := 0) (by decide) rfl rfl (by unfold vp_in; decide) dX12_goesPlans_31 ?_
  refine G_icmp_gt (pc := 32) (tgt := 90) (by decide) dX12_goesPlans_32 (fun _ => ?_) (fun z => absurd (by decide) z)
  exact G_vret (pc := 90) (Nat.le_of_ble_eq_true rfl) (Nat.le_of_ble_eq_true rfl) rfl dX12_goesPlans_90 ⟨rfl, rfl⟩
set_option maxRecDepth 100000 in
set_option maxHeartbeats 4000000 in
theorem s10113_X12_goesPlans (J : gI) (d : Nat)   : G (d + 5) mX12_goesPlans 0 0 0 0 0 (gent 8 [.ref 67, .int 0, .int 3, .int 0, .int 0, .int 0]) [] SH0 RF0 (gup (gup (gup (gup (gmx J) 67 19 (-1)) 67 20 0) 67 21 5) 67 22 0) (fun r h => r = none ∧ h = (SH0, RF0, (gcp (gcp (gcp (gup (gup (gup (gup (gup (gup (gup (gup (gup (gup (gup (gcp (gup (gup (gup (gcp (gup (gup (gup (gcp (gup (gup (gup (gup (gmx J) 67 19 (-1)) 67 20 0) 67 21 5) 67 22 0) 68 76 0 0 65) 77 0 0) 68 0 1) 68 2 0) 68 76 0 65 65) 77 1 0) 68 0 2) 68 2 0) 68 76 0 130 65) 77 2 0) 68 0 3) 68 2 0) 67 20 0) 67 19 0) 78 0 0) 78 1 0) 78 2 0) 67 20 1) 67 21 0) 67 22 0) 76 68 130 0 65) 76 68 65 0 65) 76 68 0 0 65))) := by
  refine G_iload_n (pc := 0) rfl dX12_goesPlans_0 ?_
  refine G_iload_n (pc := 1) rfl dX12_goesPlans_1 ?_
  refine G_icmp_ne (pc := 2) (tgt := 16) (by decide) dX12_goesPlans_2 (fun _ => ?_) (fun z => absurd z (by decide))
  refine G_aload_n (pc := 16) rfl dX12_goesPlans_16 ?_
  refine G_iload_n (pc := 17) rfl dX12_goesPlans_17 ?_
  refine G_callV (pc := 18) (mc1 := 0) (ms1 := 0) (ci := 12) (mj := mX12_saves) (vs := [_]) dX12_goesPlans_18 rfl rfl cm_X12_saves wh_107 wh_109 wh_110 rfl (Nat.le_of_ble_eq_true rfl) (Nat.le_of_ble_eq_true rfl) (Nat.le_of_ble_eq_true rfl) (Nat.le_of_ble_eq_true rfl) (saves_0 (d + 4) (gup (gup (gup (gup (gmx J) 67 19 (-1)) 67 20 0) 67 21 5) 67 22 0)) ?_
  rintro _ _ ⟨rfl, rfl⟩
  dsimp only [Option.toList, List.cons_append, List.nil_append]
  refine G_iconst (pc := 21) (v := 0) (by decide) dX12_goesPlans_21 ?_
  refine G_istore (pc := 22) (L1 := [some (.ref 67), some (.int 0), some (.int 3), some (.int 0), some (.int 0), some (.int 0), some (.int 0), none]) rfl rfl (by decide) dX12_goesPlans_22 ?_
  refine G_iload (pc := 24) rfl dX12_goesPlans_24 ?_
  refine G_aload_n (pc := 26) rfl dX12_goesPlans_26 ?_
  refine G_getR (pc := 27) (r := 68) (ci := 12) (j := 0) rfl lk_RX12_9 rfl rfl rfl dX12_goesPlans_27 ?_
  refine G_iconst (pc := 30) (v := 4) (by decide) dX12_goesPlans_30 ?_
  refine G_iald (pc := 31) (jj := 4) (v := 0) (by decide) rfl rfl (by unfold vp_in; decide) dX12_goesPlans_31 ?_
  refine G_icmp_gt (pc := 32) (tgt := 90) (by decide) dX12_goesPlans_32 (fun z => absurd z (by decide)) (fun _ => ?_)
  refine G_aload_n (pc := 35) rfl dX12_goesPlans_35 ?_
  refine G_getR (pc := 36) (r := 77) (ci := 12) (j := 17) rfl lk_RX12_38 rfl rfl rfl dX12_goesPlans_36 ?_
  refine G_iload_n (pc := 39) rfl dX12_goesPlans_39 ?_
  refine G_iload (pc := 40) rfl dX12_goesPlans_40 ?_
  refine G_iast (pc := 42) (jj := 0) (by decide) rfl (by unfold vp_in; decide) dX12_goesPlans_42 ?_
  refine G_aload_n (pc := 43) rfl dX12_goesPlans_43 ?_
  refine G_iload (pc := 44) rfl dX12_goesPlans_44 ?_
  refine G_callV (pc := 46) (mc1 := 0) (ms1 := 0) (ci := 12) (mj := mX12_goesBy) (vs := [_]) dX12_goesPlans_46 rfl rfl cm_X12_goesBy wh_72 wh_74 wh_75 rfl (Nat.le_of_ble_eq_true rfl) (Nat.le_of_ble_eq_true rfl) (Nat.le_of_ble_eq_true rfl) (Nat.le_of_ble_eq_true rfl) (s10099_X12_goesBy J (d + 4)  ) ?_
  rintro _ _ ⟨rfl, rfl⟩
  dsimp only [Option.toList, List.cons_append, List.nil_append]
  refine G_istore (pc := 49) (L1 := [some (.ref 67), some (.int 0), some (.int 3), some (.int 0), some (.int 0), some (.int 0), some (.int 0), some (.int 0)]) rfl rfl (by decide) dX12_goesPlans_49 ?_
  refine G_aload_n (pc := 51) rfl dX12_goesPlans_51 ?_
  refine G_iload_n (pc := 52) rfl dX12_goesPlans_52 ?_
  refine G_iconst (pc := 53) (v := 1) (by decide) dX12_goesPlans_53 ?_
  refine G_iadd (pc := 54) (z := 1) (by decide) dX12_goesPlans_54 ?_
  refine G_iload_n (pc := 55) rfl dX12_goesPlans_55 ?_
  refine G_iload_n (pc := 56) rfl dX12_goesPlans_56 ?_
  refine G_iload (pc := 57) rfl dX12_goesPlans_57 ?_
  refine G_iadd (pc := 59) (z := 0) (by decide) dX12_goesPlans_59 ?_
  refine G_iload (pc := 60) rfl dX12_goesPlans_60 ?_
  refine G_if_le (pc := 62) (tgt := 72) (by decide) dX12_goesPlans_62 (fun _ => ?_) (fun z => absurd (by decide) z)
  refine G_iload (pc := 72) rfl dX12_goesPlans_72 ?_
  refine G_iload (pc := 74) rfl dX12_goesPlans_74 ?_
  refine G_callV (pc := 76) (mc1 := 0) (ms1 := 0) (ci := 12) (mj := mX12_goesPlans) (vs := [_, _, _, _, _]) dX12_goesPlans_76 rfl rfl cm_X12_goesPlans wh_99 wh_101 wh_102 rfl (Nat.le_of_ble_eq_true rfl) (Nat.le_of_ble_eq_true rfl) (Nat.le_of_ble_eq_true rfl) (Nat.le_of_ble_eq_true rfl) (s10114_X12_goesPlans J d  ) ?_
  rintro _ _ ⟨rfl, rfl⟩
  dsimp only [Option.toList, List.cons_append, List.nil_append]
  refine G_aload_n (pc := 79) rfl dX12_goesPlans_79 ?_
  refine G_iload_n (pc := 80) rfl dX12_goesPlans_80 ?_
  refine G_callV (pc := 81) (mc1 := 0) (ms1 := 0) (ci := 12) (mj := mX12_restores) (vs := [_]) dX12_goesPlans_81 rfl rfl cm_X12_restores wh_111 wh_113 wh_114 rfl (Nat.le_of_ble_eq_true rfl) (Nat.le_of_ble_eq_true rfl) (Nat.le_of_ble_eq_true rfl) (Nat.le_of_ble_eq_true rfl) (restores_0 (d + 4) (gcp (gcp (gup (gup (gup (gup (gup (gup (gup (gup (gup (gup (gup (gcp (gup (gup (gup (gcp (gup (gup (gup (gcp (gup (gup (gup (gup (gmx J) 67 19 (-1)) 67 20 0) 67 21 5) 67 22 0) 68 76 0 0 65) 77 0 0) 68 0 1) 68 2 0) 68 76 0 65 65) 77 1 0) 68 0 2) 68 2 0) 68 76 0 130 65) 77 2 0) 68 0 3) 68 2 0) 67 20 0) 67 19 0) 78 0 0) 78 1 0) 78 2 0) 67 20 1) 67 21 0) 67 22 0) 76 68 130 0 65) 76 68 65 0 65)) ?_
  rintro _ _ ⟨rfl, rfl⟩
  dsimp only [Option.toList, List.cons_append, List.nil_append]
  refine G_iinc (pc := 84) (v := 1) (w := 1) (L1 := [some (.ref 67), some (.int 0), some (.int 3), some (.int 0), some (.int 0), some (.int 0), some (.int 1), some (.int 0)]) (by decide) rfl rfl (by decide) rfl (by decide) dX12_goesPlans_84 ?_
  refine G_goto (pc := 87) (tgt := 24) (by decide) dX12_goesPlans_87 ?_
  refine G_iload (pc := 24) rfl dX12_goesPlans_24 ?_
  refine G_aload_n (pc := 26) rfl dX12_goesPlans_26 ?_
  refine G_getR (pc := 27) (r := 68) (ci := 12) (j := 0) rfl lk_RX12_9 rfl rfl rfl dX12_goesPlans_27 ?_
  refine G_iconst (pc := 30) (v := 4) (by decide) dX12_goesPlans_30 ?_
  refine G_iald (pc := 31) (jj := 4) (v := 0) (by decide) rfl rfl (by unfold vp_in; decide) dX12_goesPlans_31 ?_
  refine G_icmp_gt (pc := 32) (tgt := 90) (by decide) dX12_goesPlans_32 (fun _ => ?_) (fun z => absurd (by decide) z)
  exact G_vret (pc := 90) (Nat.le_of_ble_eq_true rfl) (Nat.le_of_ble_eq_true rfl) rfl dX12_goesPlans_90 ⟨rfl, rfl⟩
set_option maxRecDepth 100000 in
set_option maxHeartbeats 4000000 in
theorem s10111_X12_triesAll (J : gI) (d : Nat)   : G (d + 6) mX12_triesAll 0 0 0 0 0 (gent 3 [.ref 67, .int 3, .int 0]) [] SH0 RF0 (gmx J) (fun r h => r = none ∧ h = (SH0, RF0, (gcp (gcp (gcp (gup (gup (gup (gup (gup (gup (gup (gup (gup (gup (gup (gcp (gup (gup (gup (gcp (gup (gup (gup (gcp (gup (gup (gup (gup (gmx J) 67 19 (-1)) 67 20 0) 67 21 5) 67 22 0) 68 76 0 0 65) 77 0 0) 68 0 1) 68 2 0) 68 76 0 65 65) 77 1 0) 68 0 2) 68 2 0) 68 76 0 130 65) 77 2 0) 68 0 3) 68 2 0) 67 20 0) 67 19 0) 78 0 0) 78 1 0) 78 2 0) 67 20 1) 67 21 0) 67 22 0) 76 68 130 0 65) 76 68 65 0 65) 76 68 0 0 65))) := by
  refine G_aload_n (pc := 0) rfl dX12_triesAll_0 ?_
  refine G_iconst (pc := 1) (v := (-1)) (by decide) dX12_triesAll_1 ?_
  refine G_putI (pc := 2) (ci := 12) (j := 19) rfl lk_RX12_259 rfl rfl rfl trivial dX12_triesAll_2 ?_
  refine G_aload_n (pc := 5) rfl dX12_triesAll_5 ?_
  refine G_iconst (pc := 6) (v := 0) (by decide) dX12_triesAll_6 ?_
  refine G_putI (pc := 7) (ci := 12) (j := 20) rfl lk_RX12_262 rfl rfl rfl trivial dX12_triesAll_7 ?_
  refine G_aload_n (pc := 10) rfl dX12_triesAll_10 ?_
  refine G_iconst (pc := 11) (v := 5) (by decide) dX12_triesAll_11 ?_
  refine G_putI (pc := 12) (ci := 12) (j := 21) rfl lk_RX12_265 rfl rfl rfl trivial dX12_triesAll_12 ?_
  refine G_aload_n (pc := 15) rfl dX12_triesAll_15 ?_
  refine G_iconst (pc := 16) (v := 0) (by decide) dX12_triesAll_16 ?_
  refine G_putI (pc := 17) (ci := 12) (j := 22) rfl lk_RX12_268 rfl rfl rfl trivial dX12_triesAll_17 ?_
  refine G_aload_n (pc := 20) rfl dX12_triesAll_20 ?_
  refine G_iconst (pc := 21) (v := 0) (by decide) dX12_triesAll_21 ?_
  refine G_aload_n (pc := 22) rfl dX12_triesAll_22 ?_
  refine G_iload_n (pc := 23) rfl dX12_triesAll_23 ?_
  refine G_callV (pc := 24) (mc1 := 0) (ms1 := 0) (ci := 12) (mj := mX12_daysOf) (vs := [_]) dX12_triesAll_24 rfl rfl cm_X12_daysOf wh_91 wh_93 wh_94 rfl (Nat.le_of_ble_eq_true rfl) (Nat.le_of_ble_eq_true rfl) (Nat.le_of_ble_eq_true rfl) (Nat.le_of_ble_eq_true rfl) (s10112_X12_daysOf J (d + 4)  ) ?_
  rintro _ _ ⟨rfl, rfl⟩
  dsimp only [Option.toList, List.cons_append, List.nil_append]
  refine G_iconst (pc := 27) (v := 0) (by decide) dX12_triesAll_27 ?_
  refine G_iconst (pc := 28) (v := 0) (by decide) dX12_triesAll_28 ?_
  refine G_iload_n (pc := 29) rfl dX12_triesAll_29 ?_
  refine G_callV (pc := 30) (mc1 := 0) (ms1 := 0) (ci := 12) (mj := mX12_goesPlans) (vs := [_, _, _, _, _]) dX12_triesAll_30 rfl rfl cm_X12_goesPlans wh_99 wh_101 wh_102 rfl (Nat.le_of_ble_eq_true rfl) (Nat.le_of_ble_eq_true rfl) (Nat.le_of_ble_eq_true rfl) (Nat.le_of_ble_eq_true rfl) (s10113_X12_goesPlans J d  ) ?_
  rintro _ _ ⟨rfl, rfl⟩
  dsimp only [Option.toList, List.cons_append, List.nil_append]
  exact G_vret (pc := 33) (Nat.le_of_ble_eq_true rfl) (Nat.le_of_ble_eq_true rfl) rfl dX12_triesAll_33 ⟨rfl, rfl⟩
set_option maxRecDepth 100000 in
set_option maxHeartbeats 4000000 in
theorem s10121_X12_daysOf (J : gI) (d : Nat)   : G (d + 1) mX12_daysOf 0 0 0 0 0 (gent 3 [.ref 67, .int 4]) [] SH0 RF0 (gup (gup (gup (gup (gmx J) 67 19 (-1)) 67 20 0) 67 21 5) 67 22 0) (fun r h => r = some (.int 4) ∧ h = (SH0, RF0, (gup (gup (gup (gup (gmx J) 67 19 (-1)) 67 20 0) 67 21 5) 67 22 0))) := by
  refine G_aload_n (pc := 0) rfl dX12_daysOf_0 ?_
  refine G_callV (pc := 1) (mc1 := 0) (ms1 := 0) (ci := 12) (mj := mX12_isOver) (vs := []) dX12_daysOf_1 rfl rfl cm_X12_isOver wh_22 wh_24 wh_25 rfl (Nat.le_of_ble_eq_true rfl) (Nat.le_of_ble_eq_true rfl) (Nat.le_of_ble_eq_true rfl) (Nat.le_of_ble_eq_true rfl) (s10090_X12_isOver J d  ) ?_
  rintro _ _ ⟨rfl, rfl⟩
  dsimp only [Option.toList, List.cons_append, List.nil_append]
  refine G_if_eq (pc := 4) (tgt := 11) (by decide) dX12_daysOf_4 (fun _ => ?_) (fun z => absurd (by decide) z)
  refine G_aload_n (pc := 11) rfl dX12_daysOf_11 ?_
  refine G_getR (pc := 12) (r := 68) (ci := 12) (j := 0) rfl lk_RX12_9 rfl rfl rfl dX12_daysOf_12 ?_
  refine G_iconst (pc := 15) (v := 1) (by decide) dX12_daysOf_15 ?_
  refine G_iald (pc := 16) (jj := 1) (v := 12) (by decide) rfl rfl (by unfold vp_in; decide) dX12_daysOf_16 ?_
  refine G_aload_n (pc := 17) rfl dX12_daysOf_17 ?_
  refine G_getR (pc := 18) (r := 68) (ci := 12) (j := 0) rfl lk_RX12_9 rfl rfl rfl dX12_daysOf_18 ?_
  refine G_iconst (pc := 21) (v := 0) (by decide) dX12_daysOf_21 ?_
  refine G_iald (pc := 22) (jj := 0) (v := 0) (by decide) rfl rfl (by unfold vp_in; decide) dX12_daysOf_22 ?_
  refine G_isub (pc := 23) (z := 12) (by decide) dX12_daysOf_23 ?_
  refine G_istore_n (pc := 24) (L1 := [some (.ref 67), some (.int 4), some (.int 12)]) rfl rfl (by decide) dX12_daysOf_24 ?_
  refine G_iload_n (pc := 25) rfl dX12_daysOf_25 ?_
  refine G_iload_n (pc := 26) rfl dX12_daysOf_26 ?_
  refine G_icmp_ge (pc := 27) (tgt := 34) (by decide) dX12_daysOf_27 (fun z => absurd z (by decide)) (fun _ => ?_)
  refine G_iload_n (pc := 30) rfl dX12_daysOf_30 ?_
  refine G_goto (pc := 31) (tgt := 35) (by decide) dX12_daysOf_31 ?_
  exact G_iret (pc := 35) (Nat.le_of_ble_eq_true rfl) (Nat.le_of_ble_eq_true rfl) rfl dX12_daysOf_35 ⟨rfl, rfl⟩
set_option maxRecDepth 100000 in
set_option maxHeartbeats 4000000 in
theorem s10126_X12_goesBy (J : gI) (d : Nat)   : G (d) mX12_goesBy 0 0 0 0 0 (gent 5 [.ref 67, .int 0]) [] SH0 RF0 (gup (gcp (gup (gup (gup (gcp (gup (gup (gup (gcp (gup (gup (gup (gcp (gup (gup (gup (gup (gmx J) 67 19 (-1)) 67 20 0) 67 21 5) 67 22 0) 68 76 0 0 65) 77 0 0) 68 0 1) 68 2 0) 68 76 0 65 65) 77 1 0) 68 0 2) 68 2 0) 68 76 0 130 65) 77 2 0) 68 0 3) 68 2 0) 68 76 0 195 65) 77 3 0) (fun r h => r = some (.int 0) ∧ h = (SH0, RF0, (gup (gup (gup (gcp (gup (gup (gup (gcp (gup (gup (gup (gcp (gup (gup (gup (gcp (gup (gup (gup (gup (gmx J) 67 19 (-1)) 67 20 0) 67 21 5) 67 22 0) 68 76 0 0 65) 77 0 0) 68 0 1) 68 2 0) 68 76 0 65 65) 77 1 0) 68 0 2) 68 2 0) 68 76 0 130 65) 77 2 0) 68 0 3) 68 2 0) 68 76 0 195 65) 77 3 0) 68 0 4) 68 2 0))) := by
  refine G_iload_n (pc := 0) rfl dX12_goesBy_0 ?_
  refine G_if_ge (pc := 1) (tgt := 11) (by decide) dX12_goesBy_1 (fun _ => ?_) (fun z => absurd (by decide) z)
  refine G_iload_n (pc := 11) rfl dX12_goesBy_11 ?_
  refine G_iconst (pc := 12) (v := 1) (by decide) dX12_goesBy_12 ?_
  refine G_isub (pc := 13) (z := (-1)) (by decide) dX12_goesBy_13 ?_
  refine G_istore_n (pc := 14) (L1 := [some (.ref 67), some (.int 0), some (.int (-1)), none, none]) rfl rfl (by decide) dX12_goesBy_14 ?_
  refine G_iload_n (pc := 15) rfl dX12_goesBy_15 ?_
  refine G_if_lt (pc := 16) (tgt := 27) (by decide) dX12_goesBy_16 (fun _ => ?_) (fun z => absurd (by decide) z)
  refine G_iconst (pc := 27) (v := 0) (by decide) dX12_goesBy_27 ?_
  refine G_istore_n (pc := 28) (L1 := [some (.ref 67), some (.int 0), some (.int (-1)), some (.int 0), none]) rfl rfl (by decide) dX12_goesBy_28 ?_
  refine G_iconst (pc := 29) (v := 0) (by decide) dX12_goesBy_29 ?_
  refine G_istore (pc := 30) (L1 := [some (.ref 67), some (.int 0), some (.int (-1)), some (.int 0), some (.int 0)]) rfl rfl (by decide) dX12_goesBy_30 ?_
  refine G_iload (pc := 32) rfl dX12_goesBy_32 ?_
  refine G_aload_n (pc := 34) rfl dX12_goesBy_34 ?_
  refine G_getR (pc := 35) (r := 68) (ci := 12) (j := 0) rfl lk_RX12_9 rfl rfl rfl dX12_goesBy_35 ?_
  refine G_iconst (pc := 38) (v := 4) (by decide) dX12_goesBy_38 ?_
  refine G_iald (pc := 39) (jj := 4) (v := 0) (by decide) rfl rfl (by unfold vp_in; decide) dX12_goesBy_39 ?_
  refine G_icmp_ge (pc := 40) (tgt := 104) (by decide) dX12_goesBy_40 (fun _ => ?_) (fun z => absurd (by decide) z)
  refine G_aload_n (pc := 104) rfl dX12_goesBy_104 ?_
  refine G_getR (pc := 105) (r := 68) (ci := 12) (j := 0) rfl lk_RX12_9 rfl rfl rfl dX12_goesBy_105 ?_
  refine G_iconst (pc := 108) (v := 0) (by decide) dX12_goesBy_108 ?_
  refine G_dup2 (pc := 109) rfl rfl dX12_goesBy_109 ?_
  refine G_iald (pc := 110) (jj := 0) (v := 3) (by decide) rfl rfl (by unfold vp_in; decide) dX12_goesBy_110 ?_
  refine G_iconst (pc := 111) (v := 1) (by decide) dX12_goesBy_111 ?_
  refine G_iadd (pc := 112) (z := 4) (by decide) dX12_goesBy_112 ?_
  refine G_iast (pc := 113) (jj := 0) (by decide) rfl (by unfold vp_in; decide) dX12_goesBy_113 ?_
  refine G_aload_n (pc := 114) rfl dX12_goesBy_114 ?_
  refine G_getR (pc := 115) (r := 68) (ci := 12) (j := 0) rfl lk_RX12_9 rfl rfl rfl dX12_goesBy_115 ?_
  refine G_iconst (pc := 118) (v := 2) (by decide) dX12_goesBy_118 ?_
  refine G_dup2 (pc := 119) rfl rfl dX12_goesBy_119 ?_
  refine G_iald (pc := 120) (jj := 2) (v := 0) (by decide) rfl rfl (by unfold vp_in; decide) dX12_goesBy_120 ?_
  refine G_iload_n (pc := 121) rfl dX12_goesBy_121 ?_
  refine G_iadd (pc := 122) (z := 0) (by decide) dX12_goesBy_122 ?_
  refine G_iast (pc := 123) (jj := 2) (by decide) rfl (by unfold vp_in; decide) dX12_goesBy_123 ?_
  refine G_iload_n (pc := 124) rfl dX12_goesBy_124 ?_
  exact G_iret (pc := 125) (Nat.le_of_ble_eq_true rfl) (Nat.le_of_ble_eq_true rfl) rfl dX12_goesBy_125 ⟨rfl, rfl⟩
set_option maxRecDepth 100000 in
set_option maxHeartbeats 4000000 in
theorem s10129_X12_those (J : gI) (d : Nat)   : G (d) mX12_those 0 0 0 0 0 (gent 4 [.ref 67, .int 4]) [] SH0 RF0 (gup (gup (gup (gup (gup (gup (gup (gup (gup (gup (gcp (gup (gup (gup (gcp (gup (gup (gup (gcp (gup (gup (gup (gcp (gup (gup (gup (gup (gmx J) 67 19 (-1)) 67 20 0) 67 21 5) 67 22 0) 68 76 0 0 65) 77 0 0) 68 0 1) 68 2 0) 68 76 0 65 65) 77 1 0) 68 0 2) 68 2 0) 68 76 0 130 65) 77 2 0) 68 0 3) 68 2 0) 68 76 0 195 65) 77 3 0) 68 0 4) 68 2 0) 67 20 0) 67 19 0) 78 0 0) 78 1 0) 78 2 0) 78 3 0) 67 20 1) (fun r h => r = some (.int 0) ∧ h = (SH0, RF0, (gup (gup (gup (gup (gup (gup (gup (gup (gup (gup (gcp (gup (gup (gup (gcp (gup (gup (gup (gcp (gup (gup (gup (gcp (gup (gup (gup (gup (gmx J) 67 19 (-1)) 67 20 0) 67 21 5) 67 22 0) 68 76 0 0 65) 77 0 0) 68 0 1) 68 2 0) 68 76 0 65 65) 77 1 0) 68 0 2) 68 2 0) 68 76 0 130 65) 77 2 0) 68 0 3) 68 2 0) 68 76 0 195 65) 77 3 0) 68 0 4) 68 2 0) 67 20 0) 67 19 0) 78 0 0) 78 1 0) 78 2 0) 78 3 0) 67 20 1))) := by
  refine G_iconst (pc := 0) (v := 0) (by decide) dX12_those_0 ?_
  refine G_istore_n (pc := 1) (L1 := [some (.ref 67), some (.int 4), some (.int 0), none]) rfl rfl (by decide) dX12_those_1 ?_
  refine G_iconst (pc := 2) (v := 0) (by decide) dX12_those_2 ?_
  refine G_istore_n (pc := 3) (L1 := [some (.ref 67), some (.int 4), some (.int 0), some (.int 0)]) rfl rfl (by decide) dX12_those_3 ?_
  refine G_iload_n (pc := 4) rfl dX12_those_4 ?_
  refine G_aload_n (pc := 5) rfl dX12_those_5 ?_
  refine G_getR (pc := 6) (r := 68) (ci := 12) (j := 0) rfl lk_RX12_9 rfl rfl rfl dX12_those_6 ?_
  refine G_iconst (pc := 9) (v := 4) (by decide) dX12_those_9 ?_
  refine G_iald (pc := 10) (jj := 4) (v := 0) (by decide) rfl rfl (by unfold vp_in; decide) dX12_those_10 ?_
  refine G_icmp_ge (pc := 11) (tgt := 39) (by decide) dX12_those_11 (fun _ => ?_) (fun z => absurd (by decide) z)
  refine G_iload_n (pc := 39) rfl dX12_those_39 ?_
  exact G_iret (pc := 40) (Nat.le_of_ble_eq_true rfl) (Nat.le_of_ble_eq_true rfl) rfl dX12_those_40 ⟨rfl, rfl⟩
set_option maxRecDepth 100000 in
set_option maxHeartbeats 4000000 in
theorem s10128_X12_endsPlan (J : gI) (d : Nat)   : G (d + 1) mX12_endsPlan 0 0 0 0 0 (gent 6 [.ref 67, .int 4, .int 0, .int 0, .int 0]) [] SH0 RF0 (gup (gup (gup (gcp (gup (gup (gup (gcp (gup (gup (gup (gcp (gup (gup (gup (gcp (gup (gup (gup (gup (gmx J) 67 19 (-1)) 67 20 0) 67 21 5) 67 22 0) 68 76 0 0 65) 77 0 0) 68 0 1) 68 2 0) 68 76 0 65 65) 77 1 0) 68 0 2) 68 2 0) 68 76 0 130 65) 77 2 0) 68 0 3) 68 2 0) 68 76 0 195 65) 77 3 0) 68 0 4) 68 2 0) (fun r h => r = none ∧ h = (SH0, RF0, (gup (gup (gup (gup (gup (gup (gup (gup (gup (gup (gup (gup (gcp (gup (gup (gup (gcp (gup (gup (gup (gcp (gup (gup (gup (gcp (gup (gup (gup (gup (gmx J) 67 19 (-1)) 67 20 0) 67 21 5) 67 22 0) 68 76 0 0 65) 77 0 0) 68 0 1) 68 2 0) 68 76 0 65 65) 77 1 0) 68 0 2) 68 2 0) 68 76 0 130 65) 77 2 0) 68 0 3) 68 2 0) 68 76 0 195 65) 77 3 0) 68 0 4) 68 2 0) 67 20 0) 67 19 0) 78 0 0) 78 1 0) 78 2 0) 78 3 0) 67 20 1) 67 21 0) 67 22 0))) := by
  refine G_iload_n (pc := 0) rfl dX12_endsPlan_0 ?_
  refine G_aload_n (pc := 1) rfl dX12_endsPlan_1 ?_
  refine G_getI (pc := 2) (v := (-1)) (ci := 12) (j := 19) rfl rfl lk_RX12_259 rfl rfl dX12_endsPlan_2 ?_
  refine G_icmp_le (pc := 5) (tgt := 47) (by decide) dX12_endsPlan_5 (fun z => absurd z (by decide)) (fun _ => ?_)
  refine G_aload_n (pc := 8) rfl dX12_endsPlan_8 ?_
  refine G_iconst (pc := 9) (v := 0) (by decide) dX12_endsPlan_9 ?_
  refine G_putI (pc := 10) (ci := 12) (j := 20) rfl lk_RX12_262 rfl rfl rfl trivial dX12_endsPlan_10 ?_
  refine G_aload_n (pc := 13) rfl dX12_endsPlan_13 ?_
  refine G_iload_n (pc := 14) rfl dX12_endsPlan_14 ?_
  refine G_putI (pc := 15) (ci := 12) (j := 19) rfl lk_RX12_259 rfl rfl rfl trivial dX12_endsPlan_15 ?_
  refine G_iconst (pc := 18) (v := 0) (by decide) dX12_endsPlan_18 ?_
  refine G_istore (pc := 19) (L1 := [some (.ref 67), some (.int 4), some (.int 0), some (.int 0), some (.int 0), some (.int 0)]) rfl rfl (by decide) dX12_endsPlan_19 ?_
  refine G_iload (pc := 21) rfl dX12_endsPlan_21 ?_
  refine G_iload_n (pc := 23) rfl dX12_endsPlan_23 ?_
  refine G_icmp_ge (pc := 24) (tgt := 47) (by decide) dX12_endsPlan_24 (fun z => absurd z (by decide)) (fun _ => ?_)
  refine G_aload_n (pc := 27) rfl dX12_endsPlan_27 ?_
  refine G_getR (pc := 28) (r := 78) (ci := 12) (j := 18) rfl lk_RX12_41 rfl rfl rfl dX12_endsPlan_28 ?_
  refine G_iload (pc := 31) rfl dX12_endsPlan_31 ?_
  refine G_aload_n (pc := 33) rfl dX12_endsPlan_33 ?_
  refine G_getR (pc := 34) (r := 77) (ci := 12) (j := 17) rfl lk_RX12_38 rfl rfl rfl dX12_endsPlan_34 ?_
  refine G_iload (pc := 37) rfl dX12_endsPlan_37 ?_
  refine G_iald (pc := 39) (jj := 0) (v := 0) (by decide) rfl rfl (by unfold vp_in; decide) dX12_endsPlan_39 ?_
  refine G_iast (pc := 40) (jj := 0) (by decide) rfl (by unfold vp_in; decide) dX12_endsPlan_40 ?_
  refine G_iinc (pc := 41) (v := 1) (w := 1) (L1 := [some (.ref 67), some (.int 4), some (.int 0), some (.int 0), some (.int 0), some (.int 1)]) (by decide) rfl rfl (by decide) rfl (by decide) dX12_endsPlan_41 ?_
  refine G_goto (pc := 44) (tgt := 21) (by decide) dX12_endsPlan_44 ?_
  refine G_iload (pc := 21) rfl dX12_endsPlan_21 ?_
  refine G_iload_n (pc := 23) rfl dX12_endsPlan_23 ?_
  refine G_icmp_ge (pc := 24) (tgt := 47) (by decide) dX12_endsPlan_24 (fun z => absurd z (by decide)) (fun _ => ?_)
  refine G_aload_n (pc := 27) rfl dX12_endsPlan_27 ?_
  refine G_getR (pc := 28) (r := 78) (ci := 12) (j := 18) rfl lk_RX12_41 rfl rfl rfl dX12_endsPlan_28 ?_
  refine G_iload (pc := 31) rfl dX12_endsPlan_31 ?_
  refine G_aload_n (pc := 33) rfl dX12_endsPlan_33 ?_
  refine G_getR (pc := 34) (r := 77) (ci := 12) (j := 17) rfl lk_RX12_38 rfl rfl rfl dX12_endsPlan_34 ?_
  refine G_iload (pc := 37) rfl dX12_endsPlan_37 ?_
  refine G_iald (pc := 39) (jj := 1) (v := 0) (by decide) rfl rfl (by unfold vp_in; decide) dX12_endsPlan_39 ?_
  refine G_iast (pc := 40) (jj := 1) (by decide) rfl (by unfold vp_in; decide) dX12_endsPlan_40 ?_
  refine G_iinc (pc := 41) (v := 1) (w := 2) (L1 := [some (.ref 67), some (.int 4), some (.int 0), some (.int 0), some (.int 0), some (.int 2)]) (by decide) rfl rfl (by decide) rfl (by decide) dX12_endsPlan_41 ?_
  refine G_goto (pc := 44) (tgt := 21) (by decide) dX12_endsPlan_44 ?_
  refine G_iload (pc := 21) rfl dX12_endsPlan_21 ?_
  refine G_iload_n (pc := 23) rfl dX12_endsPlan_23 ?_
  refine G_icmp_ge (pc := 24) (tgt := 47) (by decide) dX12_endsPlan_24 (fun z => absurd z (by decide)) (fun _ => ?_)
  refine G_aload_n (pc := 27) rfl dX12_endsPlan_27 ?_
  refine G_getR (pc := 28) (r := 78) (ci := 12) (j := 18) rfl lk_RX12_41 rfl rfl rfl dX12_endsPlan_28 ?_
  refine G_iload (pc := 31) rfl dX12_endsPlan_31 ?_
  refine G_aload_n (pc := 33) rfl dX12_endsPlan_33 ?_
  refine G_getR (pc := 34) (r := 77) (ci := 12) (j := 17) rfl lk_RX12_38 rfl rfl rfl dX12_endsPlan_34 ?_
  refine G_iload (pc := 37) rfl dX12_endsPlan_37 ?_
  refine G_iald (pc := 39) (jj := 2) (v := 0) (by decide) rfl rfl (by unfold vp_in; decide) dX12_endsPlan_39 ?_
  refine G_iast (pc := 40) (jj := 2) (by decide) rfl (by unfold vp_in; decide) dX12_endsPlan_40 ?_
  refine G_iinc (pc := 41) (v := 1) (w := 3) (L1 := [some (.ref 67), some (.int 4), some (.int 0), some (.int 0), some (.int 0), some (.int 3)]) (by decide) rfl rfl (by decide) rfl (by decide) dX12_endsPlan_41 ?_
  refine G_goto (pc := 44) (tgt := 21) (by decide) dX12_endsPlan_44 ?_
  refine G_iload (pc := 21) rfl dX12_endsPlan_21 ?_
  refine G_iload_n (pc := 23) rfl dX12_endsPlan_23 ?_
  refine G_icmp_ge (pc := 24) (tgt := 47) (by decide) dX12_endsPlan_24 (fun z => absurd z (by decide)) (fun _ => ?_)
  refine G_aload_n (pc := 27) rfl dX12_endsPlan_27 ?_
  refine G_getR (pc := 28) (r := 78) (ci := 12) (j := 18) rfl lk_RX12_41 rfl rfl rfl dX12_endsPlan_28 ?_
  refine G_iload (pc := 31) rfl dX12_endsPlan_31 ?_
  refine G_aload_n (pc := 33) rfl dX12_endsPlan_33 ?_
  refine G_getR (pc := 34) (r := 77) (ci := 12) (j := 17) rfl lk_RX12_38 rfl rfl rfl dX12_endsPlan_34 ?_
  refine G_iload (pc := 37) rfl dX12_endsPlan_37 ?_
  refine G_iald (pc := 39) (jj := 3) (v := 0) (by decide) rfl rfl (by unfold vp_in; decide) dX12_endsPlan_39 ?_
  refine G_iast (pc := 40) (jj := 3) (by decide) rfl (by unfold vp_in; decide) dX12_endsPlan_40 ?_
  refine G_iinc (pc := 41) (v := 1) (w := 4) (L1 := [some (.ref 67), some (.int 4), some (.int 0), some (.int 0), some (.int 0), some (.int 4)]) (by decide) rfl rfl (by decide) rfl (by decide) dX12_endsPlan_41 ?_
  refine G_goto (pc := 44) (tgt := 21) (by decide) dX12_endsPlan_44 ?_
  refine G_iload (pc := 21) rfl dX12_endsPlan_21 ?_
  refine G_iload_n (pc := 23) rfl dX12_endsPlan_23 ?_
  refine G_icmp_ge (pc := 24) (tgt := 47) (by decide) dX12_endsPlan_24 (fun _ => ?_) (fun z => absurd (by decide) z)
  refine G_aload_n (pc := 47) rfl dX12_endsPlan_47 ?_
  refine G_dup (pc := 48) rfl dX12_endsPlan_48 ?_
  refine G_getI (pc := 49) (v := 0) (ci := 12) (j := 20) rfl rfl lk_RX12_262 rfl rfl dX12_endsPlan_49 ?_
  refine G_iload_n (pc := 52) rfl dX12_endsPlan_52 ?_
  refine G_aload_n (pc := 53) rfl dX12_endsPlan_53 ?_
  refine G_getI (pc := 54) (v := 0) (ci := 12) (j := 19) rfl rfl lk_RX12_259 rfl rfl dX12_endsPlan_54 ?_
  refine G_icmp_ne (pc := 57) (tgt := 64) (by decide) dX12_endsPlan_57 (fun z => absurd (by decide) z) (fun _ => ?_)
  refine G_iconst (pc := 60) (v := 1) (by decide) dX12_endsPlan_60 ?_
  refine G_goto (pc := 61) (tgt := 65) (by decide) dX12_endsPlan_61 ?_
  refine G_iadd (pc := 65) (z := 1) (by decide) dX12_endsPlan_65 ?_
  refine G_putI (pc := 66) (ci := 12) (j := 20) rfl lk_RX12_262 rfl rfl rfl trivial dX12_endsPlan_66 ?_
  refine G_aload_n (pc := 69) rfl dX12_endsPlan_69 ?_
  refine G_iconst (pc := 70) (v := 4) (by decide) dX12_endsPlan_70 ?_
  refine G_callV (pc := 71) (mc1 := 0) (ms1 := 0) (ci := 12) (mj := mX12_those) (vs := [_]) dX12_endsPlan_71 rfl rfl cm_X12_those wh_26 wh_28 wh_29 rfl (Nat.le_of_ble_eq_true rfl) (Nat.le_of_ble_eq_true rfl) (Nat.le_of_ble_eq_true rfl) (Nat.le_of_ble_eq_true rfl) (s10129_X12_those J d  ) ?_
  rintro _ _ ⟨rfl, rfl⟩
  dsimp only [Option.toList, List.cons_append, List.nil_append]
  refine G_istore (pc := 74) (L1 := [some (.ref 67), some (.int 4), some (.int 0), some (.int 0), some (.int 0), some (.int 0)]) rfl rfl (by decide) dX12_endsPlan_74 ?_
  refine G_aload_n (pc := 76) rfl dX12_endsPlan_76 ?_
  refine G_iload (pc := 77) rfl dX12_endsPlan_77 ?_
  refine G_iload (pc := 79) rfl dX12_endsPlan_79 ?_
  refine G_iconst (pc := 81) (v := (-1)) (by decide) dX12_endsPlan_81 ?_
  refine G_ixor (pc := 82) (z := (-1)) (by decide) dX12_endsPlan_82 ?_
  refine G_iand (pc := 83) (z := 0) (by decide) dX12_endsPlan_83 ?_
  refine G_if_ne (pc := 84) (tgt := 99) (by decide) dX12_endsPlan_84 (fun z => absurd (by decide) z) (fun _ => ?_)
  refine G_iload_n (pc := 87) rfl dX12_endsPlan_87 ?_
  refine G_aload_n (pc := 88) rfl dX12_endsPlan_88 ?_
  refine G_getI (pc := 89) (v := 5) (ci := 12) (j := 21) rfl rfl lk_RX12_265 rfl rfl dX12_endsPlan_89 ?_
  refine G_icmp_ge (pc := 92) (tgt := 99) (by decide) dX12_endsPlan_92 (fun z => absurd z (by decide)) (fun _ => ?_)
  refine G_iload_n (pc := 95) rfl dX12_endsPlan_95 ?_
  refine G_goto (pc := 96) (tgt := 103) (by decide) dX12_endsPlan_96 ?_
  refine G_putI (pc := 103) (ci := 12) (j := 21) rfl lk_RX12_265 rfl rfl rfl trivial dX12_endsPlan_103 ?_
  refine G_aload_n (pc := 106) rfl dX12_endsPlan_106 ?_
  refine G_dup (pc := 107) rfl dX12_endsPlan_107 ?_
  refine G_getI (pc := 108) (v := 0) (ci := 12) (j := 22) rfl rfl lk_RX12_268 rfl rfl dX12_endsPlan_108 ?_
  refine G_iload (pc := 111) rfl dX12_endsPlan_111 ?_
  refine G_ior (pc := 113) (z := 0) (by decide) dX12_endsPlan_113 ?_
  refine G_putI (pc := 114) (ci := 12) (j := 22) rfl lk_RX12_268 rfl rfl rfl trivial dX12_endsPlan_114 ?_
  exact G_vret (pc := 117) (Nat.le_of_ble_eq_true rfl) (Nat.le_of_ble_eq_true rfl) rfl dX12_endsPlan_117 ⟨rfl, rfl⟩
set_option maxRecDepth 100000 in
set_option maxHeartbeats 4000000 in
theorem s10127_X12_goesPlans (J : gI) (d : Nat)   : G (d + 2) mX12_goesPlans 0 0 0 0 0 (gent 8 [.ref 67, .int 4, .int 4, .int 0, .int 0, .int 0]) [] SH0 RF0 (gup (gup (gup (gcp (gup (gup (gup (gcp (gup (gup (gup (gcp (gup (gup (gup (gcp (gup (gup (gup (gup (gmx J) 67 19 (-1)) 67 20 0) 67 21 5) 67 22 0) 68 76 0 0 65) 77 0 0) 68 0 1) 68 2 0) 68 76 0 65 65) 77 1 0) 68 0 2) 68 2 0) 68 76 0 130 65) 77 2 0) 68 0 3) 68 2 0) 68 76 0 195 65) 77 3 0) 68 0 4) 68 2 0) (fun r h => r = none ∧ h = (SH0, RF0, (gup (gup (gup (gup (gup (gup (gup (gup (gup (gup (gup (gup (gcp (gup (gup (gup (gcp (gup (gup (gup (gcp (gup (gup (gup (gcp (gup (gup (gup (gup (gmx J) 67 19 (-1)) 67 20 0) 67 21 5) 67 22 0) 68 76 0 0 65) 77 0 0) 68 0 1) 68 2 0) 68 76 0 65 65) 77 1 0) 68 0 2) 68 2 0) 68 76 0 130 65) 77 2 0) 68 0 3) 68 2 0) 68 76 0 195 65) 77 3 0) 68 0 4) 68 2 0) 67 20 0) 67 19 0) 78 0 0) 78 1 0) 78 2 0) 78 3 0) 67 20 1) 67 21 0) 67 22 0))) := by
  refine G_iload_n (pc := 0) rfl dX12_goesPlans_0 ?_
  refine G_iload_n (pc := 1) rfl dX12_goesPlans_1 ?_
  refine G_icmp_ne (pc := 2) (tgt := 16) (by decide) dX12_goesPlans_2 (fun z => absurd (by decide) z) (fun _ => ?_)
  refine G_aload_n (pc := 5) rfl dX12_goesPlans_5 ?_
  refine G_iload_n (pc := 6) rfl dX12_goesPlans_6 ?_
  refine G_iload_n (pc := 7) rfl dX12_goesPlans_7 ?_
  refine G_iload (pc := 8) rfl dX12_goesPlans_8 ?_
  refine G_iload (pc := 10) rfl dX12_goesPlans_10 ?_
  refine G_callV (pc := 12) (mc1 := 0) (ms1 := 0) (ci := 12) (mj := mX12_endsPlan) (vs := [_, _, _, _]) dX12_goesPlans_12 rfl rfl cm_X12_endsPlan wh_95 wh_97 wh_98 rfl (Nat.le_of_ble_eq_true rfl) (Nat.le_of_ble_eq_true rfl) (Nat.le_of_ble_eq_true rfl) (Nat.le_of_ble_eq_true rfl) (s10128_X12_endsPlan J d  ) ?_
  rintro _ _ ⟨rfl, rfl⟩
  dsimp only [Option.toList, List.cons_append, List.nil_append]
  exact G_vret (pc := 15) (Nat.le_of_ble_eq_true rfl) (Nat.le_of_ble_eq_true rfl) rfl dX12_goesPlans_15 ⟨rfl, rfl⟩
set_option maxRecDepth 100000 in
set_option maxHeartbeats 4000000 in
theorem s10125_X12_goesPlans (J : gI) (d : Nat)   : G (d + 3) mX12_goesPlans 0 0 0 0 0 (gent 8 [.ref 67, .int 3, .int 4, .int 0, .int 0, .int 0]) [] SH0 RF0 (gup (gup (gup (gcp (gup (gup (gup (gcp (gup (gup (gup (gcp (gup (gup (gup (gup (gmx J) 67 19 (-1)) 67 20 0) 67 21 5) 67 22 0) 68 76 0 0 65) 77 0 0) 68 0 1) 68 2 0) 68 76 0 65 65) 77 1 0) 68 0 2) 68 2 0) 68 76 0 130 65) 77 2 0) 68 0 3) 68 2 0) (fun r h => r = none ∧ h = (SH0, RF0, (gcp (gup (gup (gup (gup (gup (gup (gup (gup (gup (gup (gup (gup (gcp (gup (gup (gup (gcp (gup (gup (gup (gcp (gup (gup (gup (gcp (gup (gup (gup (gup (gmx J) 67 19 (-1)) 67 20 0) 67 21 5) 67 22 0) 68 76 0 0 65) 77 0 0) 68 0 1) 68 2 0) 68 76 0 65 65) 77 1 0) 68 0 2) 68 2 0) 68 76 0 130 65) 77 2 0) 68 0 3) 68 2 0) 68 76 0 195 65) 77 3 0) 68 0 4) 68 2 0) 67 20 0) 67 19 0) 78 0 0) 78 1 0) 78 2 0) 78 3 0) 67 20 1) 67 21 0) 67 22 0) 76 68 195 0 65))) := by
  refine G_iload_n (pc := 0) rfl dX12_goesPlans_0 ?_
  refine G_iload_n (pc := 1) rfl dX12_goesPlans_1 ?_
  refine G_icmp_ne (pc := 2) (tgt := 16) (by decide) dX12_goesPlans_2 (fun _ => ?_) (fun z => absurd z (by decide))
  refine G_aload_n (pc := 16) rfl dX12_goesPlans_16 ?_
  refine G_iload_n (pc := 17) rfl dX12_goesPlans_17 ?_
  refine G_callV (pc := 18) (mc1 := 0) (ms1 := 0) (ci := 12) (mj := mX12_saves) (vs := [_]) dX12_goesPlans_18 rfl rfl cm_X12_saves wh_107 wh_109 wh_110 rfl (Nat.le_of_ble_eq_true rfl) (Nat.le_of_ble_eq_true rfl) (Nat.le_of_ble_eq_true rfl) (Nat.le_of_ble_eq_true rfl) (saves_3 (d + 2) (gup (gup (gup (gcp (gup (gup (gup (gcp (gup (gup (gup (gcp (gup (gup (gup (gup (gmx J) 67 19 (-1)) 67 20 0) 67 21 5) 67 22 0) 68 76 0 0 65) 77 0 0) 68 0 1) 68 2 0) 68 76 0 65 65) 77 1 0) 68 0 2) 68 2 0) 68 76 0 130 65) 77 2 0) 68 0 3) 68 2 0)) ?_
  rintro _ _ ⟨rfl, rfl⟩
  dsimp only [Option.toList, List.cons_append, List.nil_append]
  refine G_iconst (pc := 21) (v := 0) (by decide) dX12_goesPlans_21 ?_
  refine G_istore (pc := 22) (L1 := [some (.ref 67), some (.int 3), some (.int 4), some (.int 0), some (.int 0), some (.int 0), some (.int 0), none]) rfl rfl (by decide) dX12_goesPlans_22 ?_
  refine G_iload (pc := 24) rfl dX12_goesPlans_24 ?_
  refine G_aload_n (pc := 26) rfl dX12_goesPlans_26 ?_
  refine G_getR (pc := 27) (r := 68) (ci := 12) (j := 0) rfl lk_RX12_9 rfl rfl rfl dX12_goesPlans_27 ?_
  refine G_iconst (pc := 30) (v := 4) (by decide) dX12_goesPlans_30 ?_
  refine G_iald (pc := 31) (jj := 4) (v := 0) (by decide) rfl rfl (by unfold vp_in; decide) dX12_goesPlans_31 ?_
  refine G_icmp_gt (pc := 32) (tgt := 90) (by decide) dX12_goesPlans_32 (fun z => absurd z (by decide)) (fun _ => ?_)
  refine G_aload_n (pc := 35) rfl dX12_goesPlans_35 ?_
  refine G_getR (pc := 36) (r := 77) (ci := 12) (j := 17) rfl lk_RX12_38 rfl rfl rfl dX12_goesPlans_36 ?_
  refine G_iload_n (pc := 39) rfl dX12_goesPlans_39 ?_
  refine G_iload (pc := 40) rfl dX12_goesPlans_40 ?_
  refine G_iast (pc := 42) (jj := 3) (by decide) rfl (by unfold vp_in; decide) dX12_goesPlans_42 ?_
  refine G_aload_n (pc := 43) rfl dX12_goesPlans_43 ?_
  refine G_iload (pc := 44) rfl dX12_goesPlans_44 ?_
  refine G_callV (pc := 46) (mc1 := 0) (ms1 := 0) (ci := 12) (mj := mX12_goesBy) (vs := [_]) dX12_goesPlans_46 rfl rfl cm_X12_goesBy wh_72 wh_74 wh_75 rfl (Nat.le_of_ble_eq_true rfl) (Nat.le_of_ble_eq_true rfl) (Nat.le_of_ble_eq_true rfl) (Nat.le_of_ble_eq_true rfl) (s10126_X12_goesBy J (d + 2)  ) ?_
  rintro _ _ ⟨rfl, rfl⟩
  dsimp only [Option.toList, List.cons_append, List.nil_append]
  refine G_istore (pc := 49) (L1 := [some (.ref 67), some (.int 3), some (.int 4), some (.int 0), some (.int 0), some (.int 0), some (.int 0), some (.int 0)]) rfl rfl (by decide) dX12_goesPlans_49 ?_
  refine G_aload_n (pc := 51) rfl dX12_goesPlans_51 ?_
  refine G_iload_n (pc := 52) rfl dX12_goesPlans_52 ?_
  refine G_iconst (pc := 53) (v := 1) (by decide) dX12_goesPlans_53 ?_
  refine G_iadd (pc := 54) (z := 4) (by decide) dX12_goesPlans_54 ?_
  refine G_iload_n (pc := 55) rfl dX12_goesPlans_55 ?_
  refine G_iload_n (pc := 56) rfl dX12_goesPlans_56 ?_
  refine G_iload (pc := 57) rfl dX12_goesPlans_57 ?_
  refine G_iadd (pc := 59) (z := 0) (by decide) dX12_goesPlans_59 ?_
  refine G_iload (pc := 60) rfl dX12_goesPlans_60 ?_
  refine G_if_le (pc := 62) (tgt := 72) (by decide) dX12_goesPlans_62 (fun _ => ?_) (fun z => absurd (by decide) z)
  refine G_iload (pc := 72) rfl dX12_goesPlans_72 ?_
  refine G_iload (pc := 74) rfl dX12_goesPlans_74 ?_
  refine G_callV (pc := 76) (mc1 := 0) (ms1 := 0) (ci := 12) (mj := mX12_goesPlans) (vs := [_, _, _, _, _]) dX12_goesPlans_76 rfl rfl cm_X12_goesPlans wh_99 wh_101 wh_102 rfl (Nat.le_of_ble_eq_true rfl) (Nat.le_of_ble_eq_true rfl) (Nat.le_of_ble_eq_true rfl) (Nat.le_of_ble_eq_true rfl) (s10127_X12_goesPlans J d  ) ?_
  rintro _ _ ⟨rfl, rfl⟩
  dsimp only [Option.toList, List.cons_append, List.nil_append]
  refine G_aload_n (pc := 79) rfl dX12_goesPlans_79 ?_
  refine G_iload_n (pc := 80) rfl dX12_goesPlans_80 ?_
  refine G_callV (pc := 81) (mc1 := 0) (ms1 := 0) (ci := 12) (mj := mX12_restores) (vs := [_]) dX12_goesPlans_81 rfl rfl cm_X12_restores wh_111 wh_113 wh_114 rfl (Nat.le_of_ble_eq_true rfl) (Nat.le_of_ble_eq_true rfl) (Nat.le_of_ble_eq_true rfl) (Nat.le_of_ble_eq_true rfl) (restores_3 (d + 2) (gup (gup (gup (gup (gup (gup (gup (gup (gup (gup (gup (gup (gcp (gup (gup (gup (gcp (gup (gup (gup (gcp (gup (gup (gup (gcp (gup (gup (gup (gup (gmx J) 67 19 (-1)) 67 20 0) 67 21 5) 67 22 0) 68 76 0 0 65) 77 0 0) 68 0 1) 68 2 0) 68 76 0 65 65) 77 1 0) 68 0 2) 68 2 0) 68 76 0 130 65) 77 2 0) 68 0 3) 68 2 0) 68 76 0 195 65) 77 3 0) 68 0 4) 68 2 0) 67 20 0) 67 19 0) 78 0 0) 78 1 0) 78 2 0) 78 3 0) 67 20 1) 67 21 0) 67 22 0)) ?_
  rintro _ _ ⟨rfl, rfl⟩
  dsimp only [Option.toList, List.cons_append, List.nil_append]
  refine G_iinc (pc := 84) (v := 1) (w := 1) (L1 := [some (.ref 67), some (.int 3), some (.int 4), some (.int 0), some (.int 0), some (.int 0), some (.int 1), some (.int 0)]) (by decide) rfl rfl (by decide) rfl (by decide) dX12_goesPlans_84 ?_
  refine G_goto (pc := 87) (tgt := 24) (by decide) dX12_goesPlans_87 ?_
  refine G_iload (pc := 24) rfl dX12_goesPlans_24 ?_
  refine G_aload_n (pc := 26) rfl dX12_goesPlans_26 ?_
  refine G_getR (pc := 27) (r := 68) (ci := 12) (j := 0) rfl lk_RX12_9 rfl rfl rfl dX12_goesPlans_27 ?_
  refine G_iconst (pc := 30) (v := 4) (by decide) dX12_goesPlans_30 ?_
  refine G_iald (pc := 31) (jj := 4) (v := 0) (by decide) rfl rfl (by unfold vp_in; decide) dX12_goesPlans_31 ?_
  refine G_icmp_gt (pc := 32) (tgt := 90) (by decide) dX12_goesPlans_32 (fun _ => ?_) (fun z => absurd (by decide) z)
  exact G_vret (pc := 90) (Nat.le_of_ble_eq_true rfl) (Nat.le_of_ble_eq_true rfl) rfl dX12_goesPlans_90 ⟨rfl, rfl⟩
set_option maxRecDepth 100000 in
set_option maxHeartbeats 4000000 in
theorem s10124_X12_goesPlans (J : gI) (d : Nat)   : G (d + 4) mX12_goesPlans 0 0 0 0 0 (gent 8 [.ref 67, .int 2, .int 4, .int 0, .int 0, .int 0]) [] SH0 RF0 (gup (gup (gup (gcp (gup (gup (gup (gcp (gup (gup (gup (gup (gmx J) 67 19 (-1)) 67 20 0) 67 21 5) 67 22 0) 68 76 0 0 65) 77 0 0) 68 0 1) 68 2 0) 68 76 0 65 65) 77 1 0) 68 0 2) 68 2 0) (fun r h => r = none ∧ h = (SH0, RF0, (gcp (gcp (gup (gup (gup (gup (gup (gup (gup (gup (gup (gup (gup (gup (gcp (gup (gup (gup (gcp (gup (gup (gup (gcp (gup (gup (gup (gcp (gup (gup (gup (gup (gmx J) 67 19 (-1)) 67 20 0) 67 21 5) 67 22 0) 68 76 0 0 65) 77 0 0) 68 0 1) 68 2 0) 68 76 0 65 65) 77 1 0) 68 0 2) 68 2 0) 68 76 0 130 65) 77 2 0) 68 0 3) 68 2 0) 68 76 0 195 65) 77 3 0) 68 0 4) 68 2 0) 67 20 0) 67 19 0) 78 0 0) 78 1 0) 78 2 0) 78 3 0) 67 20 1) 67 21 0) 67 22 0) 76 68 195 0 65) 76 68 130 0 65))) := by
  refine G_iload_n (pc := 0) rfl dX12_goesPlans_0 ?_
  refine G_iload_n (pc := 1) rfl dX12_goesPlans_1 ?_
  refine G_icmp_ne (pc := 2) (tgt := 16) (by decide) dX12_goesPlans_2 (fun _ => ?_) (fun z => absurd z (by decide))
  refine G_aload_n (pc := 16) rfl dX12_goesPlans_16 ?_
  refine G_iload_n (pc := 17) rfl dX12_goesPlans_17 ?_
  refine G_callV (pc := 18) (mc1 := 0) (ms1 := 0) (ci := 12) (mj := mX12_saves) (vs := [_]) dX12_goesPlans_18 rfl rfl cm_X12_saves wh_107 wh_109 wh_110 rfl (Nat.le_of_ble_eq_true rfl) (Nat.le_of_ble_eq_true rfl) (Nat.le_of_ble_eq_true rfl) (Nat.le_of_ble_eq_true rfl) (saves_2 (d + 3) (gup (gup (gup (gcp (gup (gup (gup (gcp (gup (gup (gup (gup (gmx J) 67 19 (-1)) 67 20 0) 67 21 5) 67 22 0) 68 76 0 0 65) 77 0 0) 68 0 1) 68 2 0) 68 76 0 65 65) 77 1 0) 68 0 2) 68 2 0)) ?_
  rintro _ _ ⟨rfl, rfl⟩
  dsimp only [Option.toList, List.cons_append, List.nil_append]
  refine G_iconst (pc := 21) (v := 0) (by decide) dX12_goesPlans_21 ?_
  refine G_istore (pc := 22) (L1 := [some (.ref 67), some (.int 2), some (.int 4), some (.int 0), some (.int 0), some (.int 0), some (.int 0), none]) rfl rfl (by decide) dX12_goesPlans_22 ?_
  refine G_iload (pc := 24) rfl dX12_goesPlans_24 ?_
  refine G_aload_n (pc := 26) rfl dX12_goesPlans_26 ?_
  refine G_getR (pc := 27) (r := 68) (ci := 12) (j := 0) rfl lk_RX12_9 rfl rfl rfl dX12_goesPlans_27 ?_
  refine G_iconst (pc := 30) (v := 4) (by decide) dX12_goesPlans_30 ?_
  refine G_iald (pc := 31) (jj := 4) (v := 0) (by decide) rfl rfl (by unfold vp_in; decide) dX12_goesPlans_31 ?_
  refine G_icmp_gt (pc := 32) (tgt := 90) (by decide) dX12_goesPlans_32 (fun z => absurd z (by decide)) (fun _ => ?_)
  refine G_aload_n (pc := 35) rfl dX12_goesPlans_35 ?_
  refine G_getR (pc := 36) (r := 77) (ci := 12) (j := 17) rfl lk_RX12_38 rfl rfl rfl dX12_goesPlans_36 ?_
  refine G_iload_n (pc := 39) rfl dX12_goesPlans_39 ?_
  refine G_iload (pc := 40) rfl dX12_goesPlans_40 ?_
  refine G_iast (pc := 42) (jj := 2) (by decide) rfl (by unfold vp_in; decide) dX12_goesPlans_42 ?_
  refine G_aload_n (pc := 43) rfl dX12_goesPlans_43 ?_
  refine G_iload (pc := 44) rfl dX12_goesPlans_44 ?_
  refine G_callV (pc := 46) (mc1 := 0) (ms1 := 0) (ci := 12) (mj := mX12_goesBy) (vs := [_]) dX12_goesPlans_46 rfl rfl cm_X12_goesBy wh_72 wh_74 wh_75 rfl (Nat.le_of_ble_eq_true rfl) (Nat.le_of_ble_eq_true rfl) (Nat.le_of_ble_eq_true rfl) (Nat.le_of_ble_eq_true rfl) (s10116_X12_goesBy J (d + 3)  ) ?_
  rintro _ _ ⟨rfl, rfl⟩
  dsimp only [Option.toList, List.cons_append, List.nil_append]
  refine G_istore (pc := 49) (L1 := [some (.ref 67), some (.int 2), some (.int 4), some (.int 0), some (.int 0), some (.int 0), some (.int 0), some (.int 0)]) rfl rfl (by decide) dX12_goesPlans_49 ?_
  refine G_aload_n (pc := 51) rfl dX12_goesPlans_51 ?_
  refine G_iload_n (pc := 52) rfl dX12_goesPlans_52 ?_
  refine G_iconst (pc := 53) (v := 1) (by decide) dX12_goesPlans_53 ?_
  refine G_iadd (pc := 54) (z := 3) (by decide) dX12_goesPlans_54 ?_
  refine G_iload_n (pc := 55) rfl dX12_goesPlans_55 ?_
  refine G_iload_n (pc := 56) rfl dX12_goesPlans_56 ?_
  refine G_iload (pc := 57) rfl dX12_goesPlans_57 ?_
  refine G_iadd (pc := 59) (z := 0) (by decide) dX12_goesPlans_59 ?_
  refine G_iload (pc := 60) rfl dX12_goesPlans_60 ?_
  refine G_if_le (pc := 62) (tgt := 72) (by decide) dX12_goesPlans_62 (fun _ => ?_) (fun z => absurd (by decide) z)
  refine G_iload (pc := 72) rfl dX12_goesPlans_72 ?_
  refine G_iload (pc := 74) rfl dX12_goesPlans_74 ?_
  refine G_callV (pc := 76) (mc1 := 0) (ms1 := 0) (ci := 12) (mj := mX12_goesPlans) (vs := [_, _, _, _, _]) dX12_goesPlans_76 rfl rfl cm_X12_goesPlans wh_99 wh_101 wh_102 rfl (Nat.le_of_ble_eq_true rfl) (Nat.le_of_ble_eq_true rfl) (Nat.le_of_ble_eq_true rfl) (Nat.le_of_ble_eq_true rfl) (s10125_X12_goesPlans J d  ) ?_
  rintro _ _ ⟨rfl, rfl⟩
  dsimp only [Option.toList, List.cons_append, List.nil_append]
  refine G_aload_n (pc := 79) rfl dX12_goesPlans_79 ?_
  refine G_iload_n (pc := 80) rfl dX12_goesPlans_80 ?_
  refine G_callV (pc := 81) (mc1 := 0) (ms1 := 0) (ci := 12) (mj := mX12_restores) (vs := [_]) dX12_goesPlans_81 rfl rfl cm_X12_restores wh_111 wh_113 wh_114 rfl (Nat.le_of_ble_eq_true rfl) (Nat.le_of_ble_eq_true rfl) (Nat.le_of_ble_eq_true rfl) (Nat.le_of_ble_eq_true rfl) (restores_2 (d + 3) (gcp (gup (gup (gup (gup (gup (gup (gup (gup (gup (gup (gup (gup (gcp (gup (gup (gup (gcp (gup (gup (gup (gcp (gup (gup (gup (gcp (gup (gup (gup (gup (gmx J) 67 19 (-1)) 67 20 0) 67 21 5) 67 22 0) 68 76 0 0 65) 77 0 0) 68 0 1) 68 2 0) 68 76 0 65 65) 77 1 0) 68 0 2) 68 2 0) 68 76 0 130 65) 77 2 0) 68 0 3) 68 2 0) 68 76 0 195 65) 77 3 0) 68 0 4) 68 2 0) 67 20 0) 67 19 0) 78 0 0) 78 1 0) 78 2 0) 78 3 0) 67 20 1) 67 21 0) 67 22 0) 76 68 195 0 65)) ?_
  rintro _ _ ⟨rfl, rfl⟩
  dsimp only [Option.toList, List.cons_append, List.nil_append]
  refine G_iinc (pc := 84) (v := 1) (w := 1) (L1 := [some (.ref 67), some (.int 2), some (.int 4), some (.int 0), some (.int 0), some (.int 0), some (.int 1), some (.int 0)]) (by decide) rfl rfl (by decide) rfl (by decide) dX12_goesPlans_84 ?_
  refine G_goto (pc := 87) (tgt := 24) (by decide) dX12_goesPlans_87 ?_
  refine G_iload (pc := 24) rfl dX12_goesPlans_24 ?_
  refine G_aload_n (pc := 26) rfl dX12_goesPlans_26 ?_
  refine G_getR (pc := 27) (r := 68) (ci := 12) (j := 0) rfl lk_RX12_9 rfl rfl rfl dX12_goesPlans_27 ?_
  refine G_iconst (pc := 30) (v := 4) (by decide) dX12_goesPlans_30 ?_
  refine G_iald (pc := 31) (jj := 4) (v := 0) (by decide) rfl rfl (by unfold vp_in; decide) dX12_goesPlans_31 ?_
  refine G_icmp_gt (pc := 32) (tgt := 90) (by decide) dX12_goesPlans_32 (fun _ => ?_) (fun z => absurd (by decide) z)
  exact G_vret (pc := 90) (Nat.le_of_ble_eq_true rfl) (Nat.le_of_ble_eq_true rfl) rfl dX12_goesPlans_90 ⟨rfl, rfl⟩
set_option maxRecDepth 100000 in
set_option maxHeartbeats 4000000 in
theorem s10123_X12_goesPlans (J : gI) (d : Nat)   : G (d + 5) mX12_goesPlans 0 0 0 0 0 (gent 8 [.ref 67, .int 1, .int 4, .int 0, .int 0, .int 0]) [] SH0 RF0 (gup (gup (gup (gcp (gup (gup (gup (gup (gmx J) 67 19 (-1)) 67 20 0) 67 21 5) 67 22 0) 68 76 0 0 65) 77 0 0) 68 0 1) 68 2 0) (fun r h => r = none ∧ h = (SH0, RF0, (gcp (gcp (gcp (gup (gup (gup (gup (gup (gup (gup (gup (gup (gup (gup (gup (gcp (gup (gup (gup (gcp (gup (gup (gup (gcp (gup (gup (gup (gcp (gup (gup (gup (gup (gmx J) 67 19 (-1)) 67 20 0) 67 21 5) 67 22 0) 68 76 0 0 65) 77 0 0) 68 0 1) 68 2 0) 68 76 0 65 65) 77 1 0) 68 0 2) 68 2 0) 68 76 0 130 65) 77 2 0) 68 0 3) 68 2 0) 68 76 0 195 65) 77 3 0) 68 0 4) 68 2 0) 67 20 0) 67 19 0) 78 0 0) 78 1 0) 78 2 0) 78 3 0) 67 20 1) 67 21 0) 67 22 0) 76 68 195 0 65) 76 68 130 0 65) 76 68 65 0 65))) := by
  refine G_iload_n (pc := 0) rfl dX12_goesPlans_0 ?_
  refine G_iload_n (pc := 1) rfl dX12_goesPlans_1 ?_
  refine G_icmp_ne (pc := 2) (tgt := 16) (by decide) dX12_goesPlans_2 (fun _ => ?_) (fun z => absurd z (by decide))
  refine G_aload_n (pc := 16) rfl dX12_goesPlans_16 ?_
  refine G_iload_n (pc := 17) rfl dX12_goesPlans_17 ?_
  refine G_callV (pc := 18) (mc1 := 0) (ms1 := 0) (ci := 12) (mj := mX12_saves) (vs := [_]) dX12_goesPlans_18 rfl rfl cm_X12_saves wh_107 wh_109 wh_110 rfl (Nat.le_of_ble_eq_true rfl) (Nat.le_of_ble_eq_true rfl) (Nat.le_of_ble_eq_true rfl) (Nat.le_of_ble_eq_true rfl) (saves_1 (d + 4) (gup (gup (gup (gcp (gup (gup (gup (gup (gmx J) 67 19 (-1)) 67 20 0) 67 21 5) 67 22 0) 68 76 0 0 65) 77 0 0) 68 0 1) 68 2 0)) ?_
  rintro _ _ ⟨rfl, rfl⟩
  dsimp only [Option.toList, List.cons_append, List.nil_append]
  refine G_iconst (pc := 21) (v := 0) (by decide) dX12_goesPlans_21 ?_
  refine G_istore (pc := 22) (L1 := [some (.ref 67), some (.int 1), some (.int 4), some (.int 0), some (.int 0), some (.int 0), some (.int 0), none]) rfl rfl (by decide) dX12_goesPlans_22 ?_
  refine G_iload (pc := 24) rfl dX12_goesPlans_24 ?_
  refine G_aload_n (pc := 26) rfl dX12_goesPlans_26 ?_
  refine G_getR (pc := 27) (r := 68) (ci := 12) (j := 0) rfl lk_RX12_9 rfl rfl rfl dX12_goesPlans_27 ?_
  refine G_iconst (pc := 30) (v := 4) (by decide) dX12_goesPlans_30 ?_
  refine G_iald (pc := 31) (jj := 4) (v := 0) (by decide) rfl rfl (by unfold vp_in; decide) dX12_goesPlans_31 ?_
  refine G_icmp_gt (pc := 32) (tgt := 90) (by decide) dX12_goesPlans_32 (fun z => absurd z (by decide)) (fun _ => ?_)
  refine G_aload_n (pc := 35) rfl dX12_goesPlans_35 ?_
  refine G_getR (pc := 36) (r := 77) (ci := 12) (j := 17) rfl lk_RX12_38 rfl rfl rfl dX12_goesPlans_36 ?_
  refine G_iload_n (pc := 39) rfl dX12_goesPlans_39 ?_
  refine G_iload (pc := 40) rfl dX12_goesPlans_40 ?_
  refine G_iast (pc := 42) (jj := 1) (by decide) rfl (by unfold vp_in; decide) dX12_goesPlans_42 ?_
  refine G_aload_n (pc := 43) rfl dX12_goesPlans_43 ?_
  refine G_iload (pc := 44) rfl dX12_goesPlans_44 ?_
  refine G_callV (pc := 46) (mc1 := 0) (ms1 := 0) (ci := 12) (mj := mX12_goesBy) (vs := [_]) dX12_goesPlans_46 rfl rfl cm_X12_goesBy wh_72 wh_74 wh_75 rfl (Nat.le_of_ble_eq_true rfl) (Nat.le_of_ble_eq_true rfl) (Nat.le_of_ble_eq_true rfl) (Nat.le_of_ble_eq_true rfl) (s10107_X12_goesBy J (d + 4)  ) ?_
  rintro _ _ ⟨rfl, rfl⟩
  dsimp only [Option.toList, List.cons_append, List.nil_append]
  refine G_istore (pc := 49) (L1 := [some (.ref 67), some (.int 1), some (.int 4), some (.int 0), some (.int 0), some (.int 0), some (.int 0), some (.int 0)]) rfl rfl (by decide) dX12_goesPlans_49 ?_
  refine G_aload_n (pc := 51) rfl dX12_goesPlans_51 ?_
  refine G_iload_n (pc := 52) rfl dX12_goesPlans_52 ?_
  refine G_iconst (pc := 53) (v := 1) (by decide) dX12_goesPlans_53 ?_
  refine G_iadd (pc := 54) (z := 2) (by decide) dX12_goesPlans_54 ?_
  refine G_iload_n (pc := 55) rfl dX12_goesPlans_55 ?_
  refine G_iload_n (pc := 56) rfl dX12_goesPlans_56 ?_
  refine G_iload (pc := 57) rfl dX12_goesPlans_57 ?_
  refine G_iadd (pc := 59) (z := 0) (by decide) dX12_goesPlans_59 ?_
  refine G_iload (pc := 60) rfl dX12_goesPlans_60 ?_
  refine G_if_le (pc := 62) (tgt := 72) (by decide) dX12_goesPlans_62 (fun _ => ?_) (fun z => absurd (by decide) z)
  refine G_iload (pc := 72) rfl dX12_goesPlans_72 ?_
  refine G_iload (pc := 74) rfl dX12_goesPlans_74 ?_
  refine G_callV (pc := 76) (mc1 := 0) (ms1 := 0) (ci := 12) (mj := mX12_goesPlans) (vs := [_, _, _, _, _]) dX12_goesPlans_76 rfl rfl cm_X12_goesPlans wh_99 wh_101 wh_102 rfl (Nat.le_of_ble_eq_true rfl) (Nat.le_of_ble_eq_true rfl) (Nat.le_of_ble_eq_true rfl) (Nat.le_of_ble_eq_true rfl) (s10124_X12_goesPlans J d  ) ?_
  rintro _ _ ⟨rfl, rfl⟩
  dsimp only [Option.toList, List.cons_append, List.nil_append]
  refine G_aload_n (pc := 79) rfl dX12_goesPlans_79 ?_
  refine G_iload_n (pc := 80) rfl dX12_goesPlans_80 ?_
  refine G_callV (pc := 81) (mc1 := 0) (ms1 := 0) (ci := 12) (mj := mX12_restores) (vs := [_]) dX12_goesPlans_81 rfl rfl cm_X12_restores wh_111 wh_113 wh_114 rfl (Nat.le_of_ble_eq_true rfl) (Nat.le_of_ble_eq_true rfl) (Nat.le_of_ble_eq_true rfl) (Nat.le_of_ble_eq_true rfl) (restores_1 (d + 4) (gcp (gcp (gup (gup (gup (gup (gup (gup (gup (gup (gup (gup (gup (gup (gcp (gup (gup (gup (gcp (gup (gup (gup (gcp (gup (gup (gup (gcp (gup (gup (gup (gup (gmx J) 67 19 (-1)) 67 20 0) 67 21 5) 67 22 0) 68 76 0 0 65) 77 0 0) 68 0 1) 68 2 0) 68 76 0 65 65) 77 1 0) 68 0 2) 68 2 0) 68 76 0 130 65) 77 2 0) 68 0 3) 68 2 0) 68 76 0 195 65) 77 3 0) 68 0 4) 68 2 0) 67 20 0) 67 19 0) 78 0 0) 78 1 0) 78 2 0) 78 3 0) 67 20 1) 67 21 0) 67 22 0) 76 68 195 0 65) 76 68 130 0 65)) ?_
  rintro _ _ ⟨rfl, rfl⟩
  dsimp only [Option.toList, List.cons_append, List.nil_append]
  refine G_iinc (pc := 84) (v := 1) (w := 1) (L1 := [some (.ref 67), some (.int 1), some (.int 4), some (.int 0), some (.int 0), some (.int 0), some (.int 1), some (.int 0)]) (by decide) rfl rfl (by decide) rfl (by decide) dX12_goesPlans_84 ?_
  refine G_goto (pc := 87) (tgt := 24) (by decide) dX12_goesPlans_87 ?_
  refine G_iload (pc := 24) rfl dX12_goesPlans_24 ?_
  refine G_aload_n (pc := 26) rfl dX12_goesPlans_26 ?_
  refine G_getR (pc := 27) (r := 68) (ci := 12) (j := 0) rfl lk_RX12_9 rfl rfl rfl dX12_goesPlans_27 ?_
  refine G_iconst (pc := 30) (v := 4) (by decide) dX12_goesPlans_30 ?_
  refine G_iald (pc := 31) (jj := 4) (v := 0) (by decide) rfl rfl (by unfold vp_in; decide) dX12_goesPlans_31 ?_
  refine G_icmp_gt (pc := 32) (tgt := 90) (by decide) dX12_goesPlans_32 (fun _ => ?_) (fun z => absurd (by decide) z)
  exact G_vret (pc := 90) (Nat.le_of_ble_eq_true rfl) (Nat.le_of_ble_eq_true rfl) rfl dX12_goesPlans_90 ⟨rfl, rfl⟩
set_option maxRecDepth 100000 in
set_option maxHeartbeats 4000000 in
theorem s10122_X12_goesPlans (J : gI) (d : Nat)   : G (d + 6) mX12_goesPlans 0 0 0 0 0 (gent 8 [.ref 67, .int 0, .int 4, .int 0, .int 0, .int 0]) [] SH0 RF0 (gup (gup (gup (gup (gmx J) 67 19 (-1)) 67 20 0) 67 21 5) 67 22 0) (fun r h => r = none ∧ h = (SH0, RF0, (gcp (gcp (gcp (gcp (gup (gup (gup (gup (gup (gup (gup (gup (gup (gup (gup (gup (gcp (gup (gup (gup (gcp (gup (gup (gup (gcp (gup (gup (gup (gcp (gup (gup (gup (gup (gmx J) 67 19 (-1)) 67 20 0) 67 21 5) 67 22 0) 68 76 0 0 65) 77 0 0) 68 0 1) 68 2 0) 68 76 0 65 65) 77 1 0) 68 0 2) 68 2 0) 68 76 0 130 65) 77 2 0) 68 0 3) 68 2 0) 68 76 0 195 65) 77 3 0) 68 0 4) 68 2 0) 67 20 0) 67 19 0) 78 0 0) 78 1 0) 78 2 0) 78 3 0) 67 20 1) 67 21 0) 67 22 0) 76 68 195 0 65) 76 68 130 0 65) 76 68 65 0 65) 76 68 0 0 65))) := by
  refine G_iload_n (pc := 0) rfl dX12_goesPlans_0 ?_
  refine G_iload_n (pc := 1) rfl dX12_goesPlans_1 ?_
  refine G_icmp_ne (pc := 2) (tgt := 16) (by decide) dX12_goesPlans_2 (fun _ => ?_) (fun z => absurd z (by decide))
  refine G_aload_n (pc := 16) rfl dX12_goesPlans_16 ?_
  refine G_iload_n (pc := 17) rfl dX12_goesPlans_17 ?_
  refine G_callV (pc := 18) (mc1 := 0) (ms1 := 0) (ci := 12) (mj := mX12_saves) (vs := [_]) dX12_goesPlans_18 rfl rfl cm_X12_saves wh_107 wh_109 wh_110 rfl (Nat.le_of_ble_eq_true rfl) (Nat.le_of_ble_eq_true rfl) (Nat.le_of_ble_eq_true rfl) (Nat.le_of_ble_eq_true rfl) (saves_0 (d + 5) (gup (gup (gup (gup (gmx J) 67 19 (-1)) 67 20 0) 67 21 5) 67 22 0)) ?_
  rintro _ _ ⟨rfl, rfl⟩
  dsimp only [Option.toList, List.cons_append, List.nil_append]
  refine G_iconst (pc := 21) (v := 0) (by decide) dX12_goesPlans_21 ?_
  refine G_istore (pc := 22) (L1 := [some (.ref 67), some (.int 0), some (.int 4), some (.int 0), some (.int 0), some (.int 0), some (.int 0), none]) rfl rfl (by decide) dX12_goesPlans_22 ?_
  refine G_iload (pc := 24) rfl dX12_goesPlans_24 ?_
  refine G_aload_n (pc := 26) rfl dX12_goesPlans_26 ?_
  refine G_getR (pc := 27) (r := 68) (ci := 12) (j := 0) rfl lk_RX12_9 rfl rfl rfl dX12_goesPlans_27 ?_
  refine G_iconst (pc := 30) (v := 4) (by decide) dX12_goesPlans_30 ?_
  refine G_iald (pc := 31) (jj := 4) (v := 0) (by decide) rfl rfl (by unfold vp_in; decide) dX12_goesPlans_31 ?_
  refine G_icmp_gt (pc := 32) (tgt := 90) (by decide) dX12_goesPlans_32 (fun z => absurd z (by decide)) (fun _ => ?_)
  refine G_aload_n (pc := 35) rfl dX12_goesPlans_35 ?_
  refine G_getR (pc := 36) (r := 77) (ci := 12) (j := 17) rfl lk_RX12_38 rfl rfl rfl dX12_goesPlans_36 ?_
  refine G_iload_n (pc := 39) rfl dX12_goesPlans_39 ?_
  refine G_iload (pc := 40) rfl dX12_goesPlans_40 ?_
  refine G_iast (pc := 42) (jj := 0) (by decide) rfl (by unfold vp_in; decide) dX12_goesPlans_42 ?_
  refine G_aload_n (pc := 43) rfl dX12_goesPlans_43 ?_
  refine G_iload (pc := 44) rfl dX12_goesPlans_44 ?_
  refine G_callV (pc := 46) (mc1 := 0) (ms1 := 0) (ci := 12) (mj := mX12_goesBy) (vs := [_]) dX12_goesPlans_46 rfl rfl cm_X12_goesBy wh_72 wh_74 wh_75 rfl (Nat.le_of_ble_eq_true rfl) (Nat.le_of_ble_eq_true rfl) (Nat.le_of_ble_eq_true rfl) (Nat.le_of_ble_eq_true rfl) (s10099_X12_goesBy J (d + 5)  ) ?_
  rintro _ _ ⟨rfl, rfl⟩
  dsimp only [Option.toList, List.cons_append, List.nil_append]
  refine G_istore (pc := 49) (L1 := [some (.ref 67), some (.int 0), some (.int 4), some (.int 0), some (.int 0), some (.int 0), some (.int 0), some (.int 0)]) rfl rfl (by decide) dX12_goesPlans_49 ?_
  refine G_aload_n (pc := 51) rfl dX12_goesPlans_51 ?_
  refine G_iload_n (pc := 52) rfl dX12_goesPlans_52 ?_
  refine G_iconst (pc := 53) (v := 1) (by decide) dX12_goesPlans_53 ?_
  refine G_iadd (pc := 54) (z := 1) (by decide) dX12_goesPlans_54 ?_
  refine G_iload_n (pc := 55) rfl dX12_goesPlans_55 ?_
  refine G_iload_n (pc := 56) rfl dX12_goesPlans_56 ?_
  refine G_iload (pc := 57) rfl dX12_goesPlans_57 ?_
  refine G_iadd (pc := 59) (z := 0) (by decide) dX12_goesPlans_59 ?_
  refine G_iload (pc := 60) rfl dX12_goesPlans_60 ?_
  refine G_if_le (pc := 62) (tgt := 72) (by decide) dX12_goesPlans_62 (fun _ => ?_) (fun z => absurd (by decide) z)
  refine G_iload (pc := 72) rfl dX12_goesPlans_72 ?_
  refine G_iload (pc := 74) rfl dX12_goesPlans_74 ?_
  refine G_callV (pc := 76) (mc1 := 0) (ms1 := 0) (ci := 12) (mj := mX12_goesPlans) (vs := [_, _, _, _, _]) dX12_goesPlans_76 rfl rfl cm_X12_goesPlans wh_99 wh_101 wh_102 rfl (Nat.le_of_ble_eq_true rfl) (Nat.le_of_ble_eq_true rfl) (Nat.le_of_ble_eq_true rfl) (Nat.le_of_ble_eq_true rfl) (s10123_X12_goesPlans J d  ) ?_
  rintro _ _ ⟨rfl, rfl⟩
  dsimp only [Option.toList, List.cons_append, List.nil_append]
  refine G_aload_n (pc := 79) rfl dX12_goesPlans_79 ?_
  refine G_iload_n (pc := 80) rfl dX12_goesPlans_80 ?_
  refine G_callV (pc := 81) (mc1 := 0) (ms1 := 0) (ci := 12) (mj := mX12_restores) (vs := [_]) dX12_goesPlans_81 rfl rfl cm_X12_restores wh_111 wh_113 wh_114 rfl (Nat.le_of_ble_eq_true rfl) (Nat.le_of_ble_eq_true rfl) (Nat.le_of_ble_eq_true rfl) (Nat.le_of_ble_eq_true rfl) (restores_0 (d + 5) (gcp (gcp (gcp (gup (gup (gup (gup (gup (gup (gup (gup (gup (gup (gup (gup (gcp (gup (gup (gup (gcp (gup (gup (gup (gcp (gup (gup (gup (gcp (gup (gup (gup (gup (gmx J) 67 19 (-1)) 67 20 0) 67 21 5) 67 22 0) 68 76 0 0 65) 77 0 0) 68 0 1) 68 2 0) 68 76 0 65 65) 77 1 0) 68 0 2) 68 2 0) 68 76 0 130 65) 77 2 0) 68 0 3) 68 2 0) 68 76 0 195 65) 77 3 0) 68 0 4) 68 2 0) 67 20 0) 67 19 0) 78 0 0) 78 1 0) 78 2 0) 78 3 0) 67 20 1) 67 21 0) 67 22 0) 76 68 195 0 65) 76 68 130 0 65) 76 68 65 0 65)) ?_
  rintro _ _ ⟨rfl, rfl⟩
  dsimp only [Option.toList, List.cons_append, List.nil_append]
  refine G_iinc (pc := 84) (v := 1) (w := 1) (L1 := [some (.ref 67), some (.int 0), some (.int 4), some (.int 0), some (.int 0), some (.int 0), some (.int 1), some (.int 0)]) (by decide) rfl rfl (by decide) rfl (by decide) dX12_goesPlans_84 ?_
  refine G_goto (pc := 87) (tgt := 24) (by decide) dX12_goesPlans_87 ?_
  refine G_iload (pc := 24) rfl dX12_goesPlans_24 ?_
  refine G_aload_n (pc := 26) rfl dX12_goesPlans_26 ?_
  refine G_getR (pc := 27) (r := 68) (ci := 12) (j := 0) rfl lk_RX12_9 rfl rfl rfl dX12_goesPlans_27 ?_
  refine G_iconst (pc := 30) (v := 4) (by decide) dX12_goesPlans_30 ?_
  refine G_iald (pc := 31) (jj := 4) (v := 0) (by decide) rfl rfl (by unfold vp_in; decide) dX12_goesPlans_31 ?_
  refine G_icmp_gt (pc := 32) (tgt := 90) (by decide) dX12_goesPlans_32 (fun _ => ?_) (fun z => absurd (by decide) z)
  exact G_vret (pc := 90) (Nat.le_of_ble_eq_true rfl) (Nat.le_of_ble_eq_true rfl) rfl dX12_goesPlans_90 ⟨rfl, rfl⟩
set_option maxRecDepth 100000 in
set_option maxHeartbeats 4000000 in
theorem s10120_X12_triesAll (J : gI) (d : Nat)   : G (d + 7) mX12_triesAll 0 0 0 0 0 (gent 3 [.ref 67, .int 4, .int 0]) [] SH0 RF0 (gmx J) (fun r h => r = none ∧ h = (SH0, RF0, (gcp (gcp (gcp (gcp (gup (gup (gup (gup (gup (gup (gup (gup (gup (gup (gup (gup (gcp (gup (gup (gup (gcp (gup (gup (gup (gcp (gup (gup (gup (gcp (gup (gup (gup (gup (gmx J) 67 19 (-1)) 67 20 0) 67 21 5) 67 22 0) 68 76 0 0 65) 77 0 0) 68 0 1) 68 2 0) 68 76 0 65 65) 77 1 0) 68 0 2) 68 2 0) 68 76 0 130 65) 77 2 0) 68 0 3) 68 2 0) 68 76 0 195 65) 77 3 0) 68 0 4) 68 2 0) 67 20 0) 67 19 0) 78 0 0) 78 1 0) 78 2 0) 78 3 0) 67 20 1) 67 21 0) 67 22 0) 76 68 195 0 65) 76 68 130 0 65) 76 68 65 0 65) 76 68 0 0 65))) := by
  refine G_aload_n (pc := 0) rfl dX12_triesAll_0 ?_
  refine G_iconst (pc := 1) (v := (-1)) (by decide) dX12_triesAll_1 ?_
  refine G_putI (pc := 2) (ci := 12) (j := 19) rfl lk_RX12_259 rfl rfl rfl trivial dX12_triesAll_2 ?_
  refine G_aload_n (pc := 5) rfl dX12_triesAll_5 ?_
  refine G_iconst (pc := 6) (v := 0) (by decide) dX12_triesAll_6 ?_
  refine G_putI (pc := 7) (ci := 12) (j := 20) rfl lk_RX12_262 rfl rfl rfl trivial dX12_triesAll_7 ?_
  refine G_aload_n (pc := 10) rfl dX12_triesAll_10 ?_
  refine G_iconst (pc := 11) (v := 5) (by decide) dX12_triesAll_11 ?_
  refine G_putI (pc := 12) (ci := 12) (j := 21) rfl lk_RX12_265 rfl rfl rfl trivial dX12_triesAll_12 ?_
  refine G_aload_n (pc := 15) rfl dX12_triesAll_15 ?_
  refine G_iconst (pc := 16) (v := 0) (by decide) dX12_triesAll_16 ?_
  refine G_putI (pc := 17) (ci := 12) (j := 22) rfl lk_RX12_268 rfl rfl rfl trivial dX12_triesAll_17 ?_
  refine G_aload_n (pc := 20) rfl dX12_triesAll_20 ?_
  refine G_iconst (pc := 21) (v := 0) (by decide) dX12_triesAll_21 ?_
  refine G_aload_n (pc := 22) rfl dX12_triesAll_22 ?_
  refine G_iload_n (pc := 23) rfl dX12_triesAll_23 ?_
  refine G_callV (pc := 24) (mc1 := 0) (ms1 := 0) (ci := 12) (mj := mX12_daysOf) (vs := [_]) dX12_triesAll_24 rfl rfl cm_X12_daysOf wh_91 wh_93 wh_94 rfl (Nat.le_of_ble_eq_true rfl) (Nat.le_of_ble_eq_true rfl) (Nat.le_of_ble_eq_true rfl) (Nat.le_of_ble_eq_true rfl) (s10121_X12_daysOf J (d + 5)  ) ?_
  rintro _ _ ⟨rfl, rfl⟩
  dsimp only [Option.toList, List.cons_append, List.nil_append]
  refine G_iconst (pc := 27) (v := 0) (by decide) dX12_triesAll_27 ?_
  refine G_iconst (pc := 28) (v := 0) (by decide) dX12_triesAll_28 ?_
  refine G_iload_n (pc := 29) rfl dX12_triesAll_29 ?_
  refine G_callV (pc := 30) (mc1 := 0) (ms1 := 0) (ci := 12) (mj := mX12_goesPlans) (vs := [_, _, _, _, _]) dX12_triesAll_30 rfl rfl cm_X12_goesPlans wh_99 wh_101 wh_102 rfl (Nat.le_of_ble_eq_true rfl) (Nat.le_of_ble_eq_true rfl) (Nat.le_of_ble_eq_true rfl) (Nat.le_of_ble_eq_true rfl) (s10122_X12_goesPlans J d  ) ?_
  rintro _ _ ⟨rfl, rfl⟩
  dsimp only [Option.toList, List.cons_append, List.nil_append]
  exact G_vret (pc := 33) (Nat.le_of_ble_eq_true rfl) (Nat.le_of_ble_eq_true rfl) rfl dX12_triesAll_33 ⟨rfl, rfl⟩
set_option maxRecDepth 100000 in
set_option maxHeartbeats 4000000 in
theorem z_best (J : gI) (d : Nat) (n : Int32) : G (d + 8) mX12_best 0 0 0 0 0 (gent 2 [.ref 67, .int n]) [] SH0 RF0 (gmx J) (fun r _ => r = some (.int (F_best n))) := by
  refine G_iload_n (pc := 0) rfl dX12_best_0 ?_
  refine G_callS (pc := 1) (mc1 := 0) (ms1 := 0) (mj := mX12_isPlan) (vs := [_]) dX12_best_1 cm_X12_isPlan wh_88 wh_90 rfl (Nat.le_of_ble_eq_true rfl) (Nat.le_of_ble_eq_true rfl) (Nat.le_of_ble_eq_true rfl) (Nat.le_of_ble_eq_true rfl) (s10087_X12_isPlan J (d + 6)  _) ?_
  rintro _ _ ⟨rfl, rfl⟩
  dsimp only [Option.toList, List.cons_append, List.nil_append]
  refine G_if_ne (pc := 4) (tgt := 9) (by decide) dX12_best_4 (fun c228 => ?_) (fun c228 => ?_)
  · have c228 := gB_o c228
    refine G_aload_n (pc := 9) rfl dX12_best_9 ?_
    refine G_iload_n (pc := 10) rfl dX12_best_10 ?_
    refine G_iconst (pc := 11) (v := 0) (by decide) dX12_best_11 ?_
    by_cases c230 : n = 0
    · subst c230
      refine G_callV (pc := 12) (mc1 := 0) (ms1 := 0) (ci := 12) (mj := mX12_triesAll) (vs := [_, _]) dX12_best_12 rfl rfl cm_X12_triesAll wh_103 wh_105 wh_106 rfl (Nat.le_of_ble_eq_true rfl) (Nat.le_of_ble_eq_true rfl) (Nat.le_of_ble_eq_true rfl) (Nat.le_of_ble_eq_true rfl) (s10091_X12_triesAll J (d + 4)  ) ?_
      rintro _ _ ⟨rfl, rfl⟩
      dsimp only [Option.toList, List.cons_append, List.nil_append]
      refine G_aload_n (pc := 15) rfl dX12_best_15 ?_
      refine G_getI (pc := 16) (v := 0) (ci := 12) (j := 19) rfl rfl lk_RX12_259 rfl rfl dX12_best_16 ?_
      exact G_iret (pc := 19) (Nat.le_of_ble_eq_true rfl) (Nat.le_of_ble_eq_true rfl) rfl dX12_best_19 (by first | rfl | (simp [F_best, *]; done) | (simp only [F_best, Int32.le_iff_toInt_le, Int32.lt_iff_toInt_lt, ← Int32.toInt_inj]; simp; omega) | (simp only [F_best, Int32.le_iff_toInt_le, Int32.lt_iff_toInt_lt, ← Int32.toInt_inj]; split <;> first | rfl | (exfalso; simp at *; omega)) | (unfold F_best; (repeat' split) <;> first | rfl | (exfalso; (try simp only [Int32.le_iff_toInt_le, Int32.lt_iff_toInt_lt, ← Int32.toInt_inj] at *); first | omega | (simp at *; done) | (simp at *; omega))))
    by_cases c231 : n = 1
    · subst c231
      refine G_callV (pc := 12) (mc1 := 0) (ms1 := 0) (ci := 12) (mj := mX12_triesAll) (vs := [_, _]) dX12_best_12 rfl rfl cm_X12_triesAll wh_103 wh_105 wh_106 rfl (Nat.le_of_ble_eq_true rfl) (Nat.le_of_ble_eq_true rfl) (Nat.le_of_ble_eq_true rfl) (Nat.le_of_ble_eq_true rfl) (s10096_X12_triesAll J (d + 3)  ) ?_
      rintro _ _ ⟨rfl, rfl⟩
      dsimp only [Option.toList, List.cons_append, List.nil_append]
      refine G_aload_n (pc := 15) rfl dX12_best_15 ?_
      refine G_getI (pc := 16) (v := 0) (ci := 12) (j := 19) rfl rfl lk_RX12_259 rfl rfl dX12_best_16 ?_
      exact G_iret (pc := 19) (Nat.le_of_ble_eq_true rfl) (Nat.le_of_ble_eq_true rfl) rfl dX12_best_19 (by first | rfl | (simp [F_best, *]; done) | (simp only [F_best, Int32.le_iff_toInt_le, Int32.lt_iff_toInt_lt, ← Int32.toInt_inj]; simp; omega) | (simp only [F_best, Int32.le_iff_toInt_le, Int32.lt_iff_toInt_lt, ← Int32.toInt_inj]; split <;> first | rfl | (exfalso; simp at *; omega)) | (unfold F_best; (repeat' split) <;> first | rfl | (exfalso; (try simp only [Int32.le_iff_toInt_le, Int32.lt_iff_toInt_lt, ← Int32.toInt_inj] at *); first | omega | (simp at *; done) | (simp at *; omega))))
    by_cases c232 : n = 2
    · subst c232
      refine G_callV (pc := 12) (mc1 := 0) (ms1 := 0) (ci := 12) (mj := mX12_triesAll) (vs := [_, _]) dX12_best_12 rfl rfl cm_X12_triesAll wh_103 wh_105 wh_106 rfl (Nat.le_of_ble_eq_true rfl) (Nat.le_of_ble_eq_true rfl) (Nat.le_of_ble_eq_true rfl) (Nat.le_of_ble_eq_true rfl) (s10103_X12_triesAll J (d + 2)  ) ?_
      rintro _ _ ⟨rfl, rfl⟩
      dsimp only [Option.toList, List.cons_append, List.nil_append]
      refine G_aload_n (pc := 15) rfl dX12_best_15 ?_
      refine G_getI (pc := 16) (v := 0) (ci := 12) (j := 19) rfl rfl lk_RX12_259 rfl rfl dX12_best_16 ?_
      exact G_iret (pc := 19) (Nat.le_of_ble_eq_true rfl) (Nat.le_of_ble_eq_true rfl) rfl dX12_best_19 (by first | rfl | (simp [F_best, *]; done) | (simp only [F_best, Int32.le_iff_toInt_le, Int32.lt_iff_toInt_lt, ← Int32.toInt_inj]; simp; omega) | (simp only [F_best, Int32.le_iff_toInt_le, Int32.lt_iff_toInt_lt, ← Int32.toInt_inj]; split <;> first | rfl | (exfalso; simp at *; omega)) | (unfold F_best; (repeat' split) <;> first | rfl | (exfalso; (try simp only [Int32.le_iff_toInt_le, Int32.lt_iff_toInt_lt, ← Int32.toInt_inj] at *); first | omega | (simp at *; done) | (simp at *; omega))))
    by_cases c233 : n = 3
    · subst c233
      refine G_callV (pc := 12) (mc1 := 0) (ms1 := 0) (ci := 12) (mj := mX12_triesAll) (vs := [_, _]) dX12_best_12 rfl rfl cm_X12_triesAll wh_103 wh_105 wh_106 rfl (Nat.le_of_ble_eq_true rfl) (Nat.le_of_ble_eq_true rfl) (Nat.le_of_ble_eq_true rfl) (Nat.le_of_ble_eq_true rfl) (s10111_X12_triesAll J (d + 1)  ) ?_
      rintro _ _ ⟨rfl, rfl⟩
      dsimp only [Option.toList, List.cons_append, List.nil_append]
      refine G_aload_n (pc := 15) rfl dX12_best_15 ?_
      refine G_getI (pc := 16) (v := 0) (ci := 12) (j := 19) rfl rfl lk_RX12_259 rfl rfl dX12_best_16 ?_
      exact G_iret (pc := 19) (Nat.le_of_ble_eq_true rfl) (Nat.le_of_ble_eq_true rfl) rfl dX12_best_19 (by first | rfl | (simp [F_best, *]; done) | (simp only [F_best, Int32.le_iff_toInt_le, Int32.lt_iff_toInt_lt, ← Int32.toInt_inj]; simp; omega) | (simp only [F_best, Int32.le_iff_toInt_le, Int32.lt_iff_toInt_lt, ← Int32.toInt_inj]; split <;> first | rfl | (exfalso; simp at *; omega)) | (unfold F_best; (repeat' split) <;> first | rfl | (exfalso; (try simp only [Int32.le_iff_toInt_le, Int32.lt_iff_toInt_lt, ← Int32.toInt_inj] at *); first | omega | (simp at *; done) | (simp at *; omega))))
    by_cases c234 : n = 4
    · subst c234
      refine G_callV (pc := 12) (mc1 := 0) (ms1 := 0) (ci := 12) (mj := mX12_triesAll) (vs := [_, _]) dX12_best_12 rfl rfl cm_X12_triesAll wh_103 wh_105 wh_106 rfl (Nat.le_of_ble_eq_true rfl) (Nat.le_of_ble_eq_true rfl) (Nat.le_of_ble_eq_true rfl) (Nat.le_of_ble_eq_true rfl) (s10120_X12_triesAll J d  ) ?_
      rintro _ _ ⟨rfl, rfl⟩
      dsimp only [Option.toList, List.cons_append, List.nil_append]
      refine G_aload_n (pc := 15) rfl dX12_best_15 ?_
      refine G_getI (pc := 16) (v := 0) (ci := 12) (j := 19) rfl rfl lk_RX12_259 rfl rfl dX12_best_16 ?_
      exact G_iret (pc := 19) (Nat.le_of_ble_eq_true rfl) (Nat.le_of_ble_eq_true rfl) rfl dX12_best_19 (by first | rfl | (simp [F_best, *]; done) | (simp only [F_best, Int32.le_iff_toInt_le, Int32.lt_iff_toInt_lt, ← Int32.toInt_inj]; simp; omega) | (simp only [F_best, Int32.le_iff_toInt_le, Int32.lt_iff_toInt_lt, ← Int32.toInt_inj]; split <;> first | rfl | (exfalso; simp at *; omega)) | (unfold F_best; (repeat' split) <;> first | rfl | (exfalso; (try simp only [Int32.le_iff_toInt_le, Int32.lt_iff_toInt_lt, ← Int32.toInt_inj] at *); first | omega | (simp at *; done) | (simp at *; omega))))
    exfalso
    have : 0 ≤ (n).toInt := Int32.le_iff_toInt_le.mp (c228.1)
    have : (n).toInt ≤ 4 := Int32.le_iff_toInt_le.mp (c228.2)
    have : (n).toInt ≠ 0 := g_ne (c230)
    have : (n).toInt ≠ 1 := g_ne (c231)
    have : (n).toInt ≠ 2 := g_ne (c232)
    have : (n).toInt ≠ 3 := g_ne (c233)
    have : (n).toInt ≠ 4 := g_ne (c234)
    omega
  · have c228 := gB_z c228
    refine G_iconst (pc := 7) (v := (-1)) (by decide) dX12_best_7 ?_
    exact G_iret (pc := 8) (Nat.le_of_ble_eq_true rfl) (Nat.le_of_ble_eq_true rfl) rfl dX12_best_8 (by first | rfl | (simp [F_best, *]; done) | (have : ¬ (0 ≤ (n).toInt ∧ (n).toInt ≤ 4) := fun z => c228 ⟨Int32.le_iff_toInt_le.mpr z.1, Int32.le_iff_toInt_le.mpr z.2⟩; simp only [F_best, Int32.le_iff_toInt_le, Int32.lt_iff_toInt_lt, ← Int32.toInt_inj]; simp; omega) | (have : ¬ (0 ≤ (n).toInt ∧ (n).toInt ≤ 4) := fun z => c228 ⟨Int32.le_iff_toInt_le.mpr z.1, Int32.le_iff_toInt_le.mpr z.2⟩; simp only [F_best, Int32.le_iff_toInt_le, Int32.lt_iff_toInt_lt, ← Int32.toInt_inj]; split <;> first | rfl | (exfalso; simp at *; omega)) | (have : ¬ (0 ≤ (n).toInt ∧ (n).toInt ≤ 4) := fun z => c228 ⟨Int32.le_iff_toInt_le.mpr z.1, Int32.le_iff_toInt_le.mpr z.2⟩; unfold F_best; (repeat' split) <;> first | rfl | (exfalso; (try simp only [Int32.le_iff_toInt_le, Int32.lt_iff_toInt_lt, ← Int32.toInt_inj] at *); first | omega | (simp at *; done) | (simp at *; omega))))
set_option maxRecDepth 100000 in
set_option maxHeartbeats 4000000 in
theorem z_ways (J : gI) (d : Nat) (n : Int32) : G (d + 8) mX12_ways 0 0 0 0 0 (gent 2 [.ref 67, .int n]) [] SH0 RF0 (gmx J) (fun r _ => r = some (.int (F_ways n))) := by
  refine G_iload_n (pc := 0) rfl dX12_ways_0 ?_
  refine G_callS (pc := 1) (mc1 := 0) (ms1 := 0) (mj := mX12_isPlan) (vs := [_]) dX12_ways_1 cm_X12_isPlan wh_88 wh_90 rfl (Nat.le_of_ble_eq_true rfl) (Nat.le_of_ble_eq_true rfl) (Nat.le_of_ble_eq_true rfl) (Nat.le_of_ble_eq_true rfl) (s10087_X12_isPlan J (d + 6)  _) ?_
  rintro _ _ ⟨rfl, rfl⟩
  dsimp only [Option.toList, List.cons_append, List.nil_append]
  refine G_if_ne (pc := 4) (tgt := 9) (by decide) dX12_ways_4 (fun c235 => ?_) (fun c235 => ?_)
  · have c235 := gB_o c235
    refine G_aload_n (pc := 9) rfl dX12_ways_9 ?_
    refine G_iload_n (pc := 10) rfl dX12_ways_10 ?_
    refine G_iconst (pc := 11) (v := 0) (by decide) dX12_ways_11 ?_
    by_cases c237 : n = 0
    · subst c237
      refine G_callV (pc := 12) (mc1 := 0) (ms1 := 0) (ci := 12) (mj := mX12_triesAll) (vs := [_, _]) dX12_ways_12 rfl rfl cm_X12_triesAll wh_103 wh_105 wh_106 rfl (Nat.le_of_ble_eq_true rfl) (Nat.le_of_ble_eq_true rfl) (Nat.le_of_ble_eq_true rfl) (Nat.le_of_ble_eq_true rfl) (s10091_X12_triesAll J (d + 4)  ) ?_
      rintro _ _ ⟨rfl, rfl⟩
      dsimp only [Option.toList, List.cons_append, List.nil_append]
      refine G_aload_n (pc := 15) rfl dX12_ways_15 ?_
      refine G_getI (pc := 16) (v := 1) (ci := 12) (j := 20) rfl rfl lk_RX12_262 rfl rfl dX12_ways_16 ?_
      exact G_iret (pc := 19) (Nat.le_of_ble_eq_true rfl) (Nat.le_of_ble_eq_true rfl) rfl dX12_ways_19 (by first | rfl | (simp [F_ways, *]; done) | (simp only [F_ways, Int32.le_iff_toInt_le, Int32.lt_iff_toInt_lt, ← Int32.toInt_inj]; simp; omega) | (simp only [F_ways, Int32.le_iff_toInt_le, Int32.lt_iff_toInt_lt, ← Int32.toInt_inj]; split <;> first | rfl | (exfalso; simp at *; omega)) | (unfold F_ways; (repeat' split) <;> first | rfl | (exfalso; (try simp only [Int32.le_iff_toInt_le, Int32.lt_iff_toInt_lt, ← Int32.toInt_inj] at *); first | omega | (simp at *; done) | (simp at *; omega))))
    by_cases c238 : n = 1
    · subst c238
      refine G_callV (pc := 12) (mc1 := 0) (ms1 := 0) (ci := 12) (mj := mX12_triesAll) (vs := [_, _]) dX12_ways_12 rfl rfl cm_X12_triesAll wh_103 wh_105 wh_106 rfl (Nat.le_of_ble_eq_true rfl) (Nat.le_of_ble_eq_true rfl) (Nat.le_of_ble_eq_true rfl) (Nat.le_of_ble_eq_true rfl) (s10096_X12_triesAll J (d + 3)  ) ?_
      rintro _ _ ⟨rfl, rfl⟩
      dsimp only [Option.toList, List.cons_append, List.nil_append]
      refine G_aload_n (pc := 15) rfl dX12_ways_15 ?_
      refine G_getI (pc := 16) (v := 1) (ci := 12) (j := 20) rfl rfl lk_RX12_262 rfl rfl dX12_ways_16 ?_
      exact G_iret (pc := 19) (Nat.le_of_ble_eq_true rfl) (Nat.le_of_ble_eq_true rfl) rfl dX12_ways_19 (by first | rfl | (simp [F_ways, *]; done) | (simp only [F_ways, Int32.le_iff_toInt_le, Int32.lt_iff_toInt_lt, ← Int32.toInt_inj]; simp; omega) | (simp only [F_ways, Int32.le_iff_toInt_le, Int32.lt_iff_toInt_lt, ← Int32.toInt_inj]; split <;> first | rfl | (exfalso; simp at *; omega)) | (unfold F_ways; (repeat' split) <;> first | rfl | (exfalso; (try simp only [Int32.le_iff_toInt_le, Int32.lt_iff_toInt_lt, ← Int32.toInt_inj] at *); first | omega | (simp at *; done) | (simp at *; omega))))
    by_cases c239 : n = 2
    · subst c239
      refine G_callV (pc := 12) (mc1 := 0) (ms1 := 0) (ci := 12) (mj := mX12_triesAll) (vs := [_, _]) dX12_ways_12 rfl rfl cm_X12_triesAll wh_103 wh_105 wh_106 rfl (Nat.le_of_ble_eq_true rfl) (Nat.le_of_ble_eq_true rfl) (Nat.le_of_ble_eq_true rfl) (Nat.le_of_ble_eq_true rfl) (s10103_X12_triesAll J (d + 2)  ) ?_
      rintro _ _ ⟨rfl, rfl⟩
      dsimp only [Option.toList, List.cons_append, List.nil_append]
      refine G_aload_n (pc := 15) rfl dX12_ways_15 ?_
      refine G_getI (pc := 16) (v := 1) (ci := 12) (j := 20) rfl rfl lk_RX12_262 rfl rfl dX12_ways_16 ?_
      exact G_iret (pc := 19) (Nat.le_of_ble_eq_true rfl) (Nat.le_of_ble_eq_true rfl) rfl dX12_ways_19 (by first | rfl | (simp [F_ways, *]; done) | (simp only [F_ways, Int32.le_iff_toInt_le, Int32.lt_iff_toInt_lt, ← Int32.toInt_inj]; simp; omega) | (simp only [F_ways, Int32.le_iff_toInt_le, Int32.lt_iff_toInt_lt, ← Int32.toInt_inj]; split <;> first | rfl | (exfalso; simp at *; omega)) | (unfold F_ways; (repeat' split) <;> first | rfl | (exfalso; (try simp only [Int32.le_iff_toInt_le, Int32.lt_iff_toInt_lt, ← Int32.toInt_inj] at *); first | omega | (simp at *; done) | (simp at *; omega))))
    by_cases c240 : n = 3
    · subst c240
      refine G_callV (pc := 12) (mc1 := 0) (ms1 := 0) (ci := 12) (mj := mX12_triesAll) (vs := [_, _]) dX12_ways_12 rfl rfl cm_X12_triesAll wh_103 wh_105 wh_106 rfl (Nat.le_of_ble_eq_true rfl) (Nat.le_of_ble_eq_true rfl) (Nat.le_of_ble_eq_true rfl) (Nat.le_of_ble_eq_true rfl) (s10111_X12_triesAll J (d + 1)  ) ?_
      rintro _ _ ⟨rfl, rfl⟩
      dsimp only [Option.toList, List.cons_append, List.nil_append]
      refine G_aload_n (pc := 15) rfl dX12_ways_15 ?_
      refine G_getI (pc := 16) (v := 1) (ci := 12) (j := 20) rfl rfl lk_RX12_262 rfl rfl dX12_ways_16 ?_
      exact G_iret (pc := 19) (Nat.le_of_ble_eq_true rfl) (Nat.le_of_ble_eq_true rfl) rfl dX12_ways_19 (by first | rfl | (simp [F_ways, *]; done) | (simp only [F_ways, Int32.le_iff_toInt_le, Int32.lt_iff_toInt_lt, ← Int32.toInt_inj]; simp; omega) | (simp only [F_ways, Int32.le_iff_toInt_le, Int32.lt_iff_toInt_lt, ← Int32.toInt_inj]; split <;> first | rfl | (exfalso; simp at *; omega)) | (unfold F_ways; (repeat' split) <;> first | rfl | (exfalso; (try simp only [Int32.le_iff_toInt_le, Int32.lt_iff_toInt_lt, ← Int32.toInt_inj] at *); first | omega | (simp at *; done) | (simp at *; omega))))
    by_cases c241 : n = 4
    · subst c241
      refine G_callV (pc := 12) (mc1 := 0) (ms1 := 0) (ci := 12) (mj := mX12_triesAll) (vs := [_, _]) dX12_ways_12 rfl rfl cm_X12_triesAll wh_103 wh_105 wh_106 rfl (Nat.le_of_ble_eq_true rfl) (Nat.le_of_ble_eq_true rfl) (Nat.le_of_ble_eq_true rfl) (Nat.le_of_ble_eq_true rfl) (s10120_X12_triesAll J d  ) ?_
      rintro _ _ ⟨rfl, rfl⟩
      dsimp only [Option.toList, List.cons_append, List.nil_append]
      refine G_aload_n (pc := 15) rfl dX12_ways_15 ?_
      refine G_getI (pc := 16) (v := 1) (ci := 12) (j := 20) rfl rfl lk_RX12_262 rfl rfl dX12_ways_16 ?_
      exact G_iret (pc := 19) (Nat.le_of_ble_eq_true rfl) (Nat.le_of_ble_eq_true rfl) rfl dX12_ways_19 (by first | rfl | (simp [F_ways, *]; done) | (simp only [F_ways, Int32.le_iff_toInt_le, Int32.lt_iff_toInt_lt, ← Int32.toInt_inj]; simp; omega) | (simp only [F_ways, Int32.le_iff_toInt_le, Int32.lt_iff_toInt_lt, ← Int32.toInt_inj]; split <;> first | rfl | (exfalso; simp at *; omega)) | (unfold F_ways; (repeat' split) <;> first | rfl | (exfalso; (try simp only [Int32.le_iff_toInt_le, Int32.lt_iff_toInt_lt, ← Int32.toInt_inj] at *); first | omega | (simp at *; done) | (simp at *; omega))))
    exfalso
    have : 0 ≤ (n).toInt := Int32.le_iff_toInt_le.mp (c235.1)
    have : (n).toInt ≤ 4 := Int32.le_iff_toInt_le.mp (c235.2)
    have : (n).toInt ≠ 0 := g_ne (c237)
    have : (n).toInt ≠ 1 := g_ne (c238)
    have : (n).toInt ≠ 2 := g_ne (c239)
    have : (n).toInt ≠ 3 := g_ne (c240)
    have : (n).toInt ≠ 4 := g_ne (c241)
    omega
  · have c235 := gB_z c235
    refine G_iconst (pc := 7) (v := (-1)) (by decide) dX12_ways_7 ?_
    exact G_iret (pc := 8) (Nat.le_of_ble_eq_true rfl) (Nat.le_of_ble_eq_true rfl) rfl dX12_ways_8 (by first | rfl | (simp [F_ways, *]; done) | (have : ¬ (0 ≤ (n).toInt ∧ (n).toInt ≤ 4) := fun z => c235 ⟨Int32.le_iff_toInt_le.mpr z.1, Int32.le_iff_toInt_le.mpr z.2⟩; simp only [F_ways, Int32.le_iff_toInt_le, Int32.lt_iff_toInt_lt, ← Int32.toInt_inj]; simp; omega) | (have : ¬ (0 ≤ (n).toInt ∧ (n).toInt ≤ 4) := fun z => c235 ⟨Int32.le_iff_toInt_le.mpr z.1, Int32.le_iff_toInt_le.mpr z.2⟩; simp only [F_ways, Int32.le_iff_toInt_le, Int32.lt_iff_toInt_lt, ← Int32.toInt_inj]; split <;> first | rfl | (exfalso; simp at *; omega)) | (have : ¬ (0 ≤ (n).toInt ∧ (n).toInt ≤ 4) := fun z => c235 ⟨Int32.le_iff_toInt_le.mpr z.1, Int32.le_iff_toInt_le.mpr z.2⟩; unfold F_ways; (repeat' split) <;> first | rfl | (exfalso; (try simp only [Int32.le_iff_toInt_le, Int32.lt_iff_toInt_lt, ← Int32.toInt_inj] at *); first | omega | (simp at *; done) | (simp at *; omega))))
set_option maxRecDepth 100000 in
set_option maxHeartbeats 4000000 in
theorem s10133_X12_isOver (J : gI) (d : Nat)   : G (d) mX12_isOver 0 0 0 0 0 (gent 1 [.ref 67]) [] SH0 RF0 (gup (gup (gup (gup (gup (gup (gup (gup (gup (gmx J) 67 19 (-1)) 67 20 0) 67 21 5) 67 22 0) 67 20 0) 67 19 0) 67 20 1) 67 21 0) 67 22 0) (fun r h => r = some (.int 0) ∧ h = (SH0, RF0, (gup (gup (gup (gup (gup (gup (gup (gup (gup (gmx J) 67 19 (-1)) 67 20 0) 67 21 5) 67 22 0) 67 20 0) 67 19 0) 67 20 1) 67 21 0) 67 22 0))) := by
  refine G_aload_n (pc := 0) rfl dX12_isOver_0 ?_
  refine G_getR (pc := 1) (r := 68) (ci := 12) (j := 0) rfl lk_RX12_9 rfl rfl rfl dX12_isOver_1 ?_
  refine G_iconst (pc := 4) (v := 0) (by decide) dX12_isOver_4 ?_
  refine G_iald (pc := 5) (jj := 0) (v := 0) (by decide) rfl rfl (by unfold vp_in; decide) dX12_isOver_5 ?_
  refine G_aload_n (pc := 6) rfl dX12_isOver_6 ?_
  refine G_getR (pc := 7) (r := 68) (ci := 12) (j := 0) rfl lk_RX12_9 rfl rfl rfl dX12_isOver_7 ?_
  refine G_iconst (pc := 10) (v := 1) (by decide) dX12_isOver_10 ?_
  refine G_iald (pc := 11) (jj := 1) (v := 12) (by decide) rfl rfl (by unfold vp_in; decide) dX12_isOver_11 ?_
  refine G_icmp_lt (pc := 12) (tgt := 19) (by decide) dX12_isOver_12 (fun _ => ?_) (fun z => absurd (by decide) z)
  refine G_iconst (pc := 19) (v := 0) (by decide) dX12_isOver_19 ?_
  exact G_zret (pc := 20) (Nat.le_of_ble_eq_true rfl) (Nat.le_of_ble_eq_true rfl) rfl (by decide) dX12_isOver_20 ⟨rfl, rfl⟩
set_option maxRecDepth 100000 in
set_option maxHeartbeats 4000000 in
theorem s10132_X12_daysOf (J : gI) (d : Nat)   : G (d + 1) mX12_daysOf 0 0 0 0 0 (gent 3 [.ref 67, .int 0]) [] SH0 RF0 (gup (gup (gup (gup (gup (gup (gup (gup (gup (gmx J) 67 19 (-1)) 67 20 0) 67 21 5) 67 22 0) 67 20 0) 67 19 0) 67 20 1) 67 21 0) 67 22 0) (fun r h => r = some (.int 0) ∧ h = (SH0, RF0, (gup (gup (gup (gup (gup (gup (gup (gup (gup (gmx J) 67 19 (-1)) 67 20 0) 67 21 5) 67 22 0) 67 20 0) 67 19 0) 67 20 1) 67 21 0) 67 22 0))) := by
  refine G_aload_n (pc := 0) rfl dX12_daysOf_0 ?_
  refine G_callV (pc := 1) (mc1 := 0) (ms1 := 0) (ci := 12) (mj := mX12_isOver) (vs := []) dX12_daysOf_1 rfl rfl cm_X12_isOver wh_22 wh_24 wh_25 rfl (Nat.le_of_ble_eq_true rfl) (Nat.le_of_ble_eq_true rfl) (Nat.le_of_ble_eq_true rfl) (Nat.le_of_ble_eq_true rfl) (s10133_X12_isOver J d  ) ?_
  rintro _ _ ⟨rfl, rfl⟩
  dsimp only [Option.toList, List.cons_append, List.nil_append]
  refine G_if_eq (pc := 4) (tgt := 11) (by decide) dX12_daysOf_4 (fun _ => ?_) (fun z => absurd (by decide) z)
  refine G_aload_n (pc := 11) rfl dX12_daysOf_11 ?_
  refine G_getR (pc := 12) (r := 68) (ci := 12) (j := 0) rfl lk_RX12_9 rfl rfl rfl dX12_daysOf_12 ?_
  refine G_iconst (pc := 15) (v := 1) (by decide) dX12_daysOf_15 ?_
  refine G_iald (pc := 16) (jj := 1) (v := 12) (by decide) rfl rfl (by unfold vp_in; decide) dX12_daysOf_16 ?_
  refine G_aload_n (pc := 17) rfl dX12_daysOf_17 ?_
  refine G_getR (pc := 18) (r := 68) (ci := 12) (j := 0) rfl lk_RX12_9 rfl rfl rfl dX12_daysOf_18 ?_
  refine G_iconst (pc := 21) (v := 0) (by decide) dX12_daysOf_21 ?_
  refine G_iald (pc := 22) (jj := 0) (v := 0) (by decide) rfl rfl (by unfold vp_in; decide) dX12_daysOf_22 ?_
  refine G_isub (pc := 23) (z := 12) (by decide) dX12_daysOf_23 ?_
  refine G_istore_n (pc := 24) (L1 := [some (.ref 67), some (.int 0), some (.int 12)]) rfl rfl (by decide) dX12_daysOf_24 ?_
  refine G_iload_n (pc := 25) rfl dX12_daysOf_25 ?_
  refine G_iload_n (pc := 26) rfl dX12_daysOf_26 ?_
  refine G_icmp_ge (pc := 27) (tgt := 34) (by decide) dX12_daysOf_27 (fun z => absurd z (by decide)) (fun _ => ?_)
  refine G_iload_n (pc := 30) rfl dX12_daysOf_30 ?_
  refine G_goto (pc := 31) (tgt := 35) (by decide) dX12_daysOf_31 ?_
  exact G_iret (pc := 35) (Nat.le_of_ble_eq_true rfl) (Nat.le_of_ble_eq_true rfl) rfl dX12_daysOf_35 ⟨rfl, rfl⟩
set_option maxRecDepth 100000 in
set_option maxHeartbeats 4000000 in
theorem s10135_X12_isOver (J : gI) (d : Nat)   : G (d) mX12_isOver 0 0 0 0 0 (gent 1 [.ref 67]) [] SH0 RF0 (gcp (gup (gup (gup (gup (gup (gup (gup (gup (gup (gcp (gup (gup (gup (gup (gmx J) 67 19 (-1)) 67 20 0) 67 21 5) 67 22 0) 68 76 0 0 65) 77 0 0) 68 0 1) 68 2 0) 67 20 0) 67 19 0) 78 0 0) 67 20 1) 67 21 0) 67 22 0) 76 68 0 0 65) (fun r h => r = some (.int 0) ∧ h = (SH0, RF0, (gcp (gup (gup (gup (gup (gup (gup (gup (gup (gup (gcp (gup (gup (gup (gup (gmx J) 67 19 (-1)) 67 20 0) 67 21 5) 67 22 0) 68 76 0 0 65) 77 0 0) 68 0 1) 68 2 0) 67 20 0) 67 19 0) 78 0 0) 67 20 1) 67 21 0) 67 22 0) 76 68 0 0 65))) := by
  refine G_aload_n (pc := 0) rfl dX12_isOver_0 ?_
  refine G_getR (pc := 1) (r := 68) (ci := 12) (j := 0) rfl lk_RX12_9 rfl rfl rfl dX12_isOver_1 ?_
  refine G_iconst (pc := 4) (v := 0) (by decide) dX12_isOver_4 ?_
  refine G_iald (pc := 5) (jj := 0) (v := 0) (by decide) rfl rfl (by unfold vp_in; decide) dX12_isOver_5 ?_
  refine G_aload_n (pc := 6) rfl dX12_isOver_6 ?_
  refine G_getR (pc := 7) (r := 68) (ci := 12) (j := 0) rfl lk_RX12_9 rfl rfl rfl dX12_isOver_7 ?_
  refine G_iconst (pc := 10) (v := 1) (by decide) dX12_isOver_10 ?_
  refine G_iald (pc := 11) (jj := 1) (v := 12) (by decide) rfl rfl (by unfold vp_in; decide) dX12_isOver_11 ?_
  refine G_icmp_lt (pc := 12) (tgt := 19) (by decide) dX12_isOver_12 (fun _ => ?_) (fun z => absurd (by decide) z)
  refine G_iconst (pc := 19) (v := 0) (by decide) dX12_isOver_19 ?_
  exact G_zret (pc := 20) (Nat.le_of_ble_eq_true rfl) (Nat.le_of_ble_eq_true rfl) rfl (by decide) dX12_isOver_20 ⟨rfl, rfl⟩
set_option maxRecDepth 100000 in
set_option maxHeartbeats 4000000 in
theorem s10134_X12_daysOf (J : gI) (d : Nat)   : G (d + 1) mX12_daysOf 0 0 0 0 0 (gent 3 [.ref 67, .int 1]) [] SH0 RF0 (gcp (gup (gup (gup (gup (gup (gup (gup (gup (gup (gcp (gup (gup (gup (gup (gmx J) 67 19 (-1)) 67 20 0) 67 21 5) 67 22 0) 68 76 0 0 65) 77 0 0) 68 0 1) 68 2 0) 67 20 0) 67 19 0) 78 0 0) 67 20 1) 67 21 0) 67 22 0) 76 68 0 0 65) (fun r h => r = some (.int 1) ∧ h = (SH0, RF0, (gcp (gup (gup (gup (gup (gup (gup (gup (gup (gup (gcp (gup (gup (gup (gup (gmx J) 67 19 (-1)) 67 20 0) 67 21 5) 67 22 0) 68 76 0 0 65) 77 0 0) 68 0 1) 68 2 0) 67 20 0) 67 19 0) 78 0 0) 67 20 1) 67 21 0) 67 22 0) 76 68 0 0 65))) := by
  refine G_aload_n (pc := 0) rfl dX12_daysOf_0 ?_
  refine G_callV (pc := 1) (mc1 := 0) (ms1 := 0) (ci := 12) (mj := mX12_isOver) (vs := []) dX12_daysOf_1 rfl rfl cm_X12_isOver wh_22 wh_24 wh_25 rfl (Nat.le_of_ble_eq_true rfl) (Nat.le_of_ble_eq_true rfl) (Nat.le_of_ble_eq_true rfl) (Nat.le_of_ble_eq_true rfl) (s10135_X12_isOver J d  ) ?_
  rintro _ _ ⟨rfl, rfl⟩
  dsimp only [Option.toList, List.cons_append, List.nil_append]
  refine G_if_eq (pc := 4) (tgt := 11) (by decide) dX12_daysOf_4 (fun _ => ?_) (fun z => absurd (by decide) z)
  refine G_aload_n (pc := 11) rfl dX12_daysOf_11 ?_
  refine G_getR (pc := 12) (r := 68) (ci := 12) (j := 0) rfl lk_RX12_9 rfl rfl rfl dX12_daysOf_12 ?_
  refine G_iconst (pc := 15) (v := 1) (by decide) dX12_daysOf_15 ?_
  refine G_iald (pc := 16) (jj := 1) (v := 12) (by decide) rfl rfl (by unfold vp_in; decide) dX12_daysOf_16 ?_
  refine G_aload_n (pc := 17) rfl dX12_daysOf_17 ?_
  refine G_getR (pc := 18) (r := 68) (ci := 12) (j := 0) rfl lk_RX12_9 rfl rfl rfl dX12_daysOf_18 ?_
  refine G_iconst (pc := 21) (v := 0) (by decide) dX12_daysOf_21 ?_
  refine G_iald (pc := 22) (jj := 0) (v := 0) (by decide) rfl rfl (by unfold vp_in; decide) dX12_daysOf_22 ?_
  refine G_isub (pc := 23) (z := 12) (by decide) dX12_daysOf_23 ?_
  refine G_istore_n (pc := 24) (L1 := [some (.ref 67), some (.int 1), some (.int 12)]) rfl rfl (by decide) dX12_daysOf_24 ?_
  refine G_iload_n (pc := 25) rfl dX12_daysOf_25 ?_
  refine G_iload_n (pc := 26) rfl dX12_daysOf_26 ?_
  refine G_icmp_ge (pc := 27) (tgt := 34) (by decide) dX12_daysOf_27 (fun z => absurd z (by decide)) (fun _ => ?_)
  refine G_iload_n (pc := 30) rfl dX12_daysOf_30 ?_
  refine G_goto (pc := 31) (tgt := 35) (by decide) dX12_daysOf_31 ?_
  exact G_iret (pc := 35) (Nat.le_of_ble_eq_true rfl) (Nat.le_of_ble_eq_true rfl) rfl dX12_daysOf_35 ⟨rfl, rfl⟩
set_option maxRecDepth 100000 in
set_option maxHeartbeats 4000000 in
theorem s10137_X12_isOver (J : gI) (d : Nat)   : G (d) mX12_isOver 0 0 0 0 0 (gent 1 [.ref 67]) [] SH0 RF0 (gcp (gcp (gup (gup (gup (gup (gup (gup (gup (gup (gup (gup (gcp (gup (gup (gup (gcp (gup (gup (gup (gup (gmx J) 67 19 (-1)) 67 20 0) 67 21 5) 67 22 0) 68 76 0 0 65) 77 0 0) 68 0 1) 68 2 0) 68 76 0 65 65) 77 1 0) 68 0 2) 68 2 0) 67 20 0) 67 19 0) 78 0 0) 78 1 0) 67 20 1) 67 21 0) 67 22 0) 76 68 65 0 65) 76 68 0 0 65) (fun r h => r = some (.int 0) ∧ h = (SH0, RF0, (gcp (gcp (gup (gup (gup (gup (gup (gup (gup (gup (gup (gup (gcp (gup (gup (gup (gcp (gup (gup (gup (gup (gmx J) 67 19 (-1)) 67 20 0) 67 21 5) 67 22 0) 68 76 0 0 65) 77 0 0) 68 0 1) 68 2 0) 68 76 0 65 65) 77 1 0) 68 0 2) 68 2 0) 67 20 0) 67 19 0) 78 0 0) 78 1 0) 67 20 1) 67 21 0) 67 22 0) 76 68 65 0 65) 76 68 0 0 65))) := by
  refine G_aload_n (pc := 0) rfl dX12_isOver_0 ?_
  refine G_getR (pc := 1) (r := 68) (ci := 12) (j := 0) rfl lk_RX12_9 rfl rfl rfl dX12_isOver_1 ?_
  refine G_iconst (pc := 4) (v := 0) (by decide) dX12_isOver_4 ?_
  refine G_iald (pc := 5) (jj := 0) (v := 0) (by decide) rfl rfl (by unfold vp_in; decide) dX12_isOver_5 ?_
  refine G_aload_n (pc := 6) rfl dX12_isOver_6 ?_
  refine G_getR (pc := 7) (r := 68) (ci := 12) (j := 0) rfl lk_RX12_9 rfl rfl rfl dX12_isOver_7 ?_
  refine G_iconst (pc := 10) (v := 1) (by decide) dX12_isOver_10 ?_
  refine G_iald (pc := 11) (jj := 1) (v := 12) (by decide) rfl rfl (by unfold vp_in; decide) dX12_isOver_11 ?_
  refine G_icmp_lt (pc := 12) (tgt := 19) (by decide) dX12_isOver_12 (fun _ => ?_) (fun z => absurd (by decide) z)
  refine G_iconst (pc := 19) (v := 0) (by decide) dX12_isOver_19 ?_
  exact G_zret (pc := 20) (Nat.le_of_ble_eq_true rfl) (Nat.le_of_ble_eq_true rfl) rfl (by decide) dX12_isOver_20 ⟨rfl, rfl⟩
set_option maxRecDepth 100000 in
set_option maxHeartbeats 4000000 in
theorem s10136_X12_daysOf (J : gI) (d : Nat)   : G (d + 1) mX12_daysOf 0 0 0 0 0 (gent 3 [.ref 67, .int 2]) [] SH0 RF0 (gcp (gcp (gup (gup (gup (gup (gup (gup (gup (gup (gup (gup (gcp (gup (gup (gup (gcp (gup (gup (gup (gup (gmx J) 67 19 (-1)) 67 20 0) 67 21 5) 67 22 0) 68 76 0 0 65) 77 0 0) 68 0 1) 68 2 0) 68 76 0 65 65) 77 1 0) 68 0 2) 68 2 0) 67 20 0) 67 19 0) 78 0 0) 78 1 0) 67 20 1) 67 21 0) 67 22 0) 76 68 65 0 65) 76 68 0 0 65) (fun r h => r = some (.int 2) ∧ h = (SH0, RF0, (gcp (gcp (gup (gup (gup (gup (gup (gup (gup (gup (gup (gup (gcp (gup (gup (gup (gcp (gup (gup (gup (gup (gmx J) 67 19 (-1)) 67 20 0) 67 21 5) 67 22 0) 68 76 0 0 65) 77 0 0) 68 0 1) 68 2 0) 68 76 0 65 65) 77 1 0) 68 0 2) 68 2 0) 67 20 0) 67 19 0) 78 0 0) 78 1 0) 67 20 1) 67 21 0) 67 22 0) 76 68 65 0 65) 76 68 0 0 65))) := by
  refine G_aload_n (pc := 0) rfl dX12_daysOf_0 ?_
  refine G_callV (pc := 1) (mc1 := 0) (ms1 := 0) (ci := 12) (mj := mX12_isOver) (vs := []) dX12_daysOf_1 rfl rfl cm_X12_isOver wh_22 wh_24 wh_25 rfl (Nat.le_of_ble_eq_true rfl) (Nat.le_of_ble_eq_true rfl) (Nat.le_of_ble_eq_true rfl) (Nat.le_of_ble_eq_true rfl) (s10137_X12_isOver J d  ) ?_
  rintro _ _ ⟨rfl, rfl⟩
  dsimp only [Option.toList, List.cons_append, List.nil_append]
  refine G_if_eq (pc := 4) (tgt := 11) (by decide) dX12_daysOf_4 (fun _ => ?_) (fun z => absurd (by decide) z)
  refine G_aload_n (pc := 11) rfl dX12_daysOf_11 ?_
  refine G_getR (pc := 12) (r := 68) (ci := 12) (j := 0) rfl lk_RX12_9 rfl rfl rfl dX12_daysOf_12 ?_
  refine G_iconst (pc := 15) (v := 1) (by decide) dX12_daysOf_15 ?_
  refine G_iald (pc := 16) (jj := 1) (v := 12) (by decide) rfl rfl (by unfold vp_in; decide) dX12_daysOf_16 ?_
  refine G_aload_n (pc := 17) rfl dX12_daysOf_17 ?_
  refine G_getR (pc := 18) (r := 68) (ci := 12) (j := 0) rfl lk_RX12_9 rfl rfl rfl dX12_daysOf_18 ?_
  refine G_iconst (pc := 21) (v := 0) (by decide) dX12_daysOf_21 ?_
  refine G_iald (pc := 22) (jj := 0) (v := 0) (by decide) rfl rfl (by unfold vp_in; decide) dX12_daysOf_22 ?_
  refine G_isub (pc := 23) (z := 12) (by decide) dX12_daysOf_23 ?_
  refine G_istore_n (pc := 24) (L1 := [some (.ref 67), some (.int 2), some (.int 12)]) rfl rfl (by decide) dX12_daysOf_24 ?_
  refine G_iload_n (pc := 25) rfl dX12_daysOf_25 ?_
  refine G_iload_n (pc := 26) rfl dX12_daysOf_26 ?_
  refine G_icmp_ge (pc := 27) (tgt := 34) (by decide) dX12_daysOf_27 (fun z => absurd z (by decide)) (fun _ => ?_)
  refine G_iload_n (pc := 30) rfl dX12_daysOf_30 ?_
  refine G_goto (pc := 31) (tgt := 35) (by decide) dX12_daysOf_31 ?_
  exact G_iret (pc := 35) (Nat.le_of_ble_eq_true rfl) (Nat.le_of_ble_eq_true rfl) rfl dX12_daysOf_35 ⟨rfl, rfl⟩
set_option maxRecDepth 100000 in
set_option maxHeartbeats 4000000 in
theorem s10139_X12_isOver (J : gI) (d : Nat)   : G (d) mX12_isOver 0 0 0 0 0 (gent 1 [.ref 67]) [] SH0 RF0 (gcp (gcp (gcp (gup (gup (gup (gup (gup (gup (gup (gup (gup (gup (gup (gcp (gup (gup (gup (gcp (gup (gup (gup (gcp (gup (gup (gup (gup (gmx J) 67 19 (-1)) 67 20 0) 67 21 5) 67 22 0) 68 76 0 0 65) 77 0 0) 68 0 1) 68 2 0) 68 76 0 65 65) 77 1 0) 68 0 2) 68 2 0) 68 76 0 130 65) 77 2 0) 68 0 3) 68 2 0) 67 20 0) 67 19 0) 78 0 0) 78 1 0) 78 2 0) 67 20 1) 67 21 0) 67 22 0) 76 68 130 0 65) 76 68 65 0 65) 76 68 0 0 65) (fun r h => r = some (.int 0) ∧ h = (SH0, RF0, (gcp (gcp (gcp (gup (gup (gup (gup (gup (gup (gup (gup (gup (gup (gup (gcp (gup (gup (gup (gcp (gup (gup (gup (gcp (gup (gup (gup (gup (gmx J) 67 19 (-1)) 67 20 0) 67 21 5) 67 22 0) 68 76 0 0 65) 77 0 0) 68 0 1) 68 2 0) 68 76 0 65 65) 77 1 0) 68 0 2) 68 2 0) 68 76 0 130 65) 77 2 0) 68 0 3) 68 2 0) 67 20 0) 67 19 0) 78 0 0) 78 1 0) 78 2 0) 67 20 1) 67 21 0) 67 22 0) 76 68 130 0 65) 76 68 65 0 65) 76 68 0 0 65))) := by
  refine G_aload_n (pc := 0) rfl dX12_isOver_0 ?_
  refine G_getR (pc := 1) (r := 68) (ci := 12) (j := 0) rfl lk_RX12_9 rfl rfl rfl dX12_isOver_1 ?_
  refine G_iconst (pc := 4) (v := 0) (by decide) dX12_isOver_4 ?_
  refine G_iald (pc := 5) (jj := 0) (v := 0) (by decide) rfl rfl (by unfold vp_in; decide) dX12_isOver_5 ?_
  refine G_aload_n (pc := 6) rfl dX12_isOver_6 ?_
  refine G_getR (pc := 7) (r := 68) (ci := 12) (j := 0) rfl lk_RX12_9 rfl rfl rfl dX12_isOver_7 ?_
  refine G_iconst (pc := 10) (v := 1) (by decide) dX12_isOver_10 ?_
  refine G_iald (pc := 11) (jj := 1) (v := 12) (by decide) rfl rfl (by unfold vp_in; decide) dX12_isOver_11 ?_
  refine G_icmp_lt (pc := 12) (tgt := 19) (by decide) dX12_isOver_12 (fun _ => ?_) (fun z => absurd (by decide) z)
  refine G_iconst (pc := 19) (v := 0) (by decide) dX12_isOver_19 ?_
  exact G_zret (pc := 20) (Nat.le_of_ble_eq_true rfl) (Nat.le_of_ble_eq_true rfl) rfl (by decide) dX12_isOver_20 ⟨rfl, rfl⟩
set_option maxRecDepth 100000 in
set_option maxHeartbeats 4000000 in
theorem s10138_X12_daysOf (J : gI) (d : Nat)   : G (d + 1) mX12_daysOf 0 0 0 0 0 (gent 3 [.ref 67, .int 3]) [] SH0 RF0 (gcp (gcp (gcp (gup (gup (gup (gup (gup (gup (gup (gup (gup (gup (gup (gcp (gup (gup (gup (gcp (gup (gup (gup (gcp (gup (gup (gup (gup (gmx J) 67 19 (-1)) 67 20 0) 67 21 5) 67 22 0) 68 76 0 0 65) 77 0 0) 68 0 1) 68 2 0) 68 76 0 65 65) 77 1 0) 68 0 2) 68 2 0) 68 76 0 130 65) 77 2 0) 68 0 3) 68 2 0) 67 20 0) 67 19 0) 78 0 0) 78 1 0) 78 2 0) 67 20 1) 67 21 0) 67 22 0) 76 68 130 0 65) 76 68 65 0 65) 76 68 0 0 65) (fun r h => r = some (.int 3) ∧ h = (SH0, RF0, (gcp (gcp (gcp (gup (gup (gup (gup (gup (gup (gup (gup (gup (gup (gup (gcp (gup (gup (gup (gcp (gup (gup (gup (gcp (gup (gup (gup (gup (gmx J) 67 19 (-1)) 67 20 0) 67 21 5) 67 22 0) 68 76 0 0 65) 77 0 0) 68 0 1) 68 2 0) 68 76 0 65 65) 77 1 0) 68 0 2) 68 2 0) 68 76 0 130 65) 77 2 0) 68 0 3) 68 2 0) 67 20 0) 67 19 0) 78 0 0) 78 1 0) 78 2 0) 67 20 1) 67 21 0) 67 22 0) 76 68 130 0 65) 76 68 65 0 65) 76 68 0 0 65))) := by
  refine G_aload_n (pc := 0) rfl dX12_daysOf_0 ?_
  refine G_callV (pc := 1) (mc1 := 0) (ms1 := 0) (ci := 12) (mj := mX12_isOver) (vs := []) dX12_daysOf_1 rfl rfl cm_X12_isOver wh_22 wh_24 wh_25 rfl (Nat.le_of_ble_eq_true rfl) (Nat.le_of_ble_eq_true rfl) (Nat.le_of_ble_eq_true rfl) (Nat.le_of_ble_eq_true rfl) (s10139_X12_isOver J d  ) ?_
  rintro _ _ ⟨rfl, rfl⟩
  dsimp only [Option.toList, List.cons_append, List.nil_append]
  refine G_if_eq (pc := 4) (tgt := 11) (by decide) dX12_daysOf_4 (fun _ => ?_) (fun z => absurd (by decide) z)
  refine G_aload_n (pc := 11) rfl dX12_daysOf_11 ?_
  refine G_getR (pc := 12) (r := 68) (ci := 12) (j := 0) rfl lk_RX12_9 rfl rfl rfl dX12_daysOf_12 ?_
  refine G_iconst (pc := 15) (v := 1) (by decide) dX12_daysOf_15 ?_
  refine G_iald (pc := 16) (jj := 1) (v := 12) (by decide) rfl rfl (by unfold vp_in; decide) dX12_daysOf_16 ?_
  refine G_aload_n (pc := 17) rfl dX12_daysOf_17 ?_
  refine G_getR (pc := 18) (r := 68) (ci := 12) (j := 0) rfl lk_RX12_9 rfl rfl rfl dX12_daysOf_18 ?_
  refine G_iconst (pc := 21) (v := 0) (by decide) dX12_daysOf_21 ?_
  refine G_iald (pc := 22) (jj := 0) (v := 0) (by decide) rfl rfl (by unfold vp_in; decide) dX12_daysOf_22 ?_
  refine G_isub (pc := 23) (z := 12) (by decide) dX12_daysOf_23 ?_
  refine G_istore_n (pc := 24) (L1 := [some (.ref 67), some (.int 3), some (.int 12)]) rfl rfl (by decide) dX12_daysOf_24 ?_
  refine G_iload_n (pc := 25) rfl dX12_daysOf_25 ?_
  refine G_iload_n (pc := 26) rfl dX12_daysOf_26 ?_
  refine G_icmp_ge (pc := 27) (tgt := 34) (by decide) dX12_daysOf_27 (fun z => absurd z (by decide)) (fun _ => ?_)
  refine G_iload_n (pc := 30) rfl dX12_daysOf_30 ?_
  refine G_goto (pc := 31) (tgt := 35) (by decide) dX12_daysOf_31 ?_
  exact G_iret (pc := 35) (Nat.le_of_ble_eq_true rfl) (Nat.le_of_ble_eq_true rfl) rfl dX12_daysOf_35 ⟨rfl, rfl⟩
set_option maxRecDepth 100000 in
set_option maxHeartbeats 4000000 in
theorem s10141_X12_isOver (J : gI) (d : Nat)   : G (d) mX12_isOver 0 0 0 0 0 (gent 1 [.ref 67]) [] SH0 RF0 (gcp (gcp (gcp (gcp (gup (gup (gup (gup (gup (gup (gup (gup (gup (gup (gup (gup (gcp (gup (gup (gup (gcp (gup (gup (gup (gcp (gup (gup (gup (gcp (gup (gup (gup (gup (gmx J) 67 19 (-1)) 67 20 0) 67 21 5) 67 22 0) 68 76 0 0 65) 77 0 0) 68 0 1) 68 2 0) 68 76 0 65 65) 77 1 0) 68 0 2) 68 2 0) 68 76 0 130 65) 77 2 0) 68 0 3) 68 2 0) 68 76 0 195 65) 77 3 0) 68 0 4) 68 2 0) 67 20 0) 67 19 0) 78 0 0) 78 1 0) 78 2 0) 78 3 0) 67 20 1) 67 21 0) 67 22 0) 76 68 195 0 65) 76 68 130 0 65) 76 68 65 0 65) 76 68 0 0 65) (fun r h => r = some (.int 0) ∧ h = (SH0, RF0, (gcp (gcp (gcp (gcp (gup (gup (gup (gup (gup (gup (gup (gup (gup (gup (gup (gup (gcp (gup (gup (gup (gcp (gup (gup (gup (gcp (gup (gup (gup (gcp (gup (gup (gup (gup (gmx J) 67 19 (-1)) 67 20 0) 67 21 5) 67 22 0) 68 76 0 0 65) 77 0 0) 68 0 1) 68 2 0) 68 76 0 65 65) 77 1 0) 68 0 2) 68 2 0) 68 76 0 130 65) 77 2 0) 68 0 3) 68 2 0) 68 76 0 195 65) 77 3 0) 68 0 4) 68 2 0) 67 20 0) 67 19 0) 78 0 0) 78 1 0) 78 2 0) 78 3 0) 67 20 1) 67 21 0) 67 22 0) 76 68 195 0 65) 76 68 130 0 65) 76 68 65 0 65) 76 68 0 0 65))) := by
  refine G_aload_n (pc := 0) rfl dX12_isOver_0 ?_
  refine G_getR (pc := 1) (r := 68) (ci := 12) (j := 0) rfl lk_RX12_9 rfl rfl rfl dX12_isOver_1 ?_
  refine G_iconst (pc := 4) (v := 0) (by decide) dX12_isOver_4 ?_
  refine G_iald (pc := 5) (jj := 0) (v := 0) (by decide) rfl rfl (by unfold vp_in; decide) dX12_isOver_5 ?_
  refine G_aload_n (pc := 6) rfl dX12_isOver_6 ?_
  refine G_getR (pc := 7) (r := 68) (ci := 12) (j := 0) rfl lk_RX12_9 rfl rfl rfl dX12_isOver_7 ?_
  refine G_iconst (pc := 10) (v := 1) (by decide) dX12_isOver_10 ?_
  refine G_iald (pc := 11) (jj := 1) (v := 12) (by decide) rfl rfl (by unfold vp_in; decide) dX12_isOver_11 ?_
  refine G_icmp_lt (pc := 12) (tgt := 19) (by decide) dX12_isOver_12 (fun _ => ?_) (fun z => absurd (by decide) z)
  refine G_iconst (pc := 19) (v := 0) (by decide) dX12_isOver_19 ?_
  exact G_zret (pc := 20) (Nat.le_of_ble_eq_true rfl) (Nat.le_of_ble_eq_true rfl) rfl (by decide) dX12_isOver_20 ⟨rfl, rfl⟩
set_option maxRecDepth 100000 in
set_option maxHeartbeats 4000000 in
theorem s10140_X12_daysOf (J : gI) (d : Nat)   : G (d + 1) mX12_daysOf 0 0 0 0 0 (gent 3 [.ref 67, .int 4]) [] SH0 RF0 (gcp (gcp (gcp (gcp (gup (gup (gup (gup (gup (gup (gup (gup (gup (gup (gup (gup (gcp (gup (gup (gup (gcp (gup (gup (gup (gcp (gup (gup (gup (gcp (gup (gup (gup (gup (gmx J) 67 19 (-1)) 67 20 0) 67 21 5) 67 22 0) 68 76 0 0 65) 77 0 0) 68 0 1) 68 2 0) 68 76 0 65 65) 77 1 0) 68 0 2) 68 2 0) 68 76 0 130 65) 77 2 0) 68 0 3) 68 2 0) 68 76 0 195 65) 77 3 0) 68 0 4) 68 2 0) 67 20 0) 67 19 0) 78 0 0) 78 1 0) 78 2 0) 78 3 0) 67 20 1) 67 21 0) 67 22 0) 76 68 195 0 65) 76 68 130 0 65) 76 68 65 0 65) 76 68 0 0 65) (fun r h => r = some (.int 4) ∧ h = (SH0, RF0, (gcp (gcp (gcp (gcp (gup (gup (gup (gup (gup (gup (gup (gup (gup (gup (gup (gup (gcp (gup (gup (gup (gcp (gup (gup (gup (gcp (gup (gup (gup (gcp (gup (gup (gup (gup (gmx J) 67 19 (-1)) 67 20 0) 67 21 5) 67 22 0) 68 76 0 0 65) 77 0 0) 68 0 1) 68 2 0) 68 76 0 65 65) 77 1 0) 68 0 2) 68 2 0) 68 76 0 130 65) 77 2 0) 68 0 3) 68 2 0) 68 76 0 195 65) 77 3 0) 68 0 4) 68 2 0) 67 20 0) 67 19 0) 78 0 0) 78 1 0) 78 2 0) 78 3 0) 67 20 1) 67 21 0) 67 22 0) 76 68 195 0 65) 76 68 130 0 65) 76 68 65 0 65) 76 68 0 0 65))) := by
  refine G_aload_n (pc := 0) rfl dX12_daysOf_0 ?_
  refine G_callV (pc := 1) (mc1 := 0) (ms1 := 0) (ci := 12) (mj := mX12_isOver) (vs := []) dX12_daysOf_1 rfl rfl cm_X12_isOver wh_22 wh_24 wh_25 rfl (Nat.le_of_ble_eq_true rfl) (Nat.le_of_ble_eq_true rfl) (Nat.le_of_ble_eq_true rfl) (Nat.le_of_ble_eq_true rfl) (s10141_X12_isOver J d  ) ?_
  rintro _ _ ⟨rfl, rfl⟩
  dsimp only [Option.toList, List.cons_append, List.nil_append]
  refine G_if_eq (pc := 4) (tgt := 11) (by decide) dX12_daysOf_4 (fun _ => ?_) (fun z => absurd (by decide) z)
  refine G_aload_n (pc := 11) rfl dX12_daysOf_11 ?_
  refine G_getR (pc := 12) (r := 68) (ci := 12) (j := 0) rfl lk_RX12_9 rfl rfl rfl dX12_daysOf_12 ?_
  refine G_iconst (pc := 15) (v := 1) (by decide) dX12_daysOf_15 ?_
  refine G_iald (pc := 16) (jj := 1) (v := 12) (by decide) rfl rfl (by unfold vp_in; decide) dX12_daysOf_16 ?_
  refine G_aload_n (pc := 17) rfl dX12_daysOf_17 ?_
  refine G_getR (pc := 18) (r := 68) (ci := 12) (j := 0) rfl lk_RX12_9 rfl rfl rfl dX12_daysOf_18 ?_
  refine G_iconst (pc := 21) (v := 0) (by decide) dX12_daysOf_21 ?_
  refine G_iald (pc := 22) (jj := 0) (v := 0) (by decide) rfl rfl (by unfold vp_in; decide) dX12_daysOf_22 ?_
  refine G_isub (pc := 23) (z := 12) (by decide) dX12_daysOf_23 ?_
  refine G_istore_n (pc := 24) (L1 := [some (.ref 67), some (.int 4), some (.int 12)]) rfl rfl (by decide) dX12_daysOf_24 ?_
  refine G_iload_n (pc := 25) rfl dX12_daysOf_25 ?_
  refine G_iload_n (pc := 26) rfl dX12_daysOf_26 ?_
  refine G_icmp_ge (pc := 27) (tgt := 34) (by decide) dX12_daysOf_27 (fun z => absurd z (by decide)) (fun _ => ?_)
  refine G_iload_n (pc := 30) rfl dX12_daysOf_30 ?_
  refine G_goto (pc := 31) (tgt := 35) (by decide) dX12_daysOf_31 ?_
  exact G_iret (pc := 35) (Nat.le_of_ble_eq_true rfl) (Nat.le_of_ble_eq_true rfl) rfl dX12_daysOf_35 ⟨rfl, rfl⟩
set_option maxRecDepth 100000 in
set_option maxHeartbeats 4000000 in
theorem z_ith (J : gI) (d : Nat) (n : Int32) (i : Int32) : G (d + 8) mX12_ith 0 0 0 0 0 (gent 3 [.ref 67, .int n, .int i]) [] SH0 RF0 (gmx J) (fun r _ => r = some (.int (F_ith n i))) := by
  refine G_iload_n (pc := 0) rfl dX12_ith_0 ?_
  refine G_callS (pc := 1) (mc1 := 0) (ms1 := 0) (mj := mX12_isPlan) (vs := [_]) dX12_ith_1 cm_X12_isPlan wh_88 wh_90 rfl (Nat.le_of_ble_eq_true rfl) (Nat.le_of_ble_eq_true rfl) (Nat.le_of_ble_eq_true rfl) (Nat.le_of_ble_eq_true rfl) (s10087_X12_isPlan J (d + 6)  _) ?_
  rintro _ _ ⟨rfl, rfl⟩
  dsimp only [Option.toList, List.cons_append, List.nil_append]
  refine G_if_eq (pc := 4) (tgt := 16) (by decide) dX12_ith_4 (fun c242 => ?_) (fun c242 => ?_)
  · have c242 := gB_z c242
    refine G_iconst (pc := 16) (v := (-1)) (by decide) dX12_ith_16 ?_
    exact G_iret (pc := 17) (Nat.le_of_ble_eq_true rfl) (Nat.le_of_ble_eq_true rfl) rfl dX12_ith_17 (by first | rfl | (simp [F_ith, *]; done) | (have : ¬ (0 ≤ (n).toInt ∧ (n).toInt ≤ 4) := fun z => c242 ⟨Int32.le_iff_toInt_le.mpr z.1, Int32.le_iff_toInt_le.mpr z.2⟩; simp only [F_ith, Int32.le_iff_toInt_le, Int32.lt_iff_toInt_lt, ← Int32.toInt_inj]; simp; omega) | (have : ¬ (0 ≤ (n).toInt ∧ (n).toInt ≤ 4) := fun z => c242 ⟨Int32.le_iff_toInt_le.mpr z.1, Int32.le_iff_toInt_le.mpr z.2⟩; simp only [F_ith, Int32.le_iff_toInt_le, Int32.lt_iff_toInt_lt, ← Int32.toInt_inj]; split <;> first | rfl | (exfalso; simp at *; omega)) | (have : ¬ (0 ≤ (n).toInt ∧ (n).toInt ≤ 4) := fun z => c242 ⟨Int32.le_iff_toInt_le.mpr z.1, Int32.le_iff_toInt_le.mpr z.2⟩; unfold F_ith; (repeat' split) <;> first | rfl | (exfalso; (try simp only [Int32.le_iff_toInt_le, Int32.lt_iff_toInt_lt, ← Int32.toInt_inj] at *); first | omega | (simp at *; done) | (simp at *; omega))))
  · have c242 := gB_o c242
    refine G_iload_n (pc := 7) rfl dX12_ith_7 ?_
    refine G_iconst (pc := 8) (v := 0) (by decide) dX12_ith_8 ?_
    refine G_iconst (pc := 9) (v := 3) (by decide) dX12_ith_9 ?_
    refine G_callS (pc := 10) (mc1 := 0) (ms1 := 0) (mj := mX12_in1) (vs := [_, _, _]) dX12_ith_10 cm_X12_in1 wh_0 wh_3 rfl (Nat.le_of_ble_eq_true rfl) (Nat.le_of_ble_eq_true rfl) (Nat.le_of_ble_eq_true rfl) (Nat.le_of_ble_eq_true rfl) (in1_s (d + 7) i 0 3) ?_
    rintro _ _ ⟨rfl, rfl⟩
    dsimp only [Option.toList, List.cons_append, List.nil_append]
    refine G_if_ne (pc := 13) (tgt := 18) (by decide) dX12_ith_13 (fun c243 => ?_) (fun c243 => ?_)
    · have c243 := gB_o c243
      by_cases c244 : n = 0
      · subst c244
        by_cases c245 : i = 0
        · subst c245
          refine G_aload_n (pc := 18) rfl dX12_ith_18 ?_
          refine G_iload_n (pc := 19) rfl dX12_ith_19 ?_
          refine G_iconst (pc := 20) (v := 0) (by decide) dX12_ith_20 ?_
          refine G_callV (pc := 21) (mc1 := 0) (ms1 := 0) (ci := 12) (mj := mX12_triesAll) (vs := [_, _]) dX12_ith_21 rfl rfl cm_X12_triesAll wh_103 wh_105 wh_106 rfl (Nat.le_of_ble_eq_true rfl) (Nat.le_of_ble_eq_true rfl) (Nat.le_of_ble_eq_true rfl) (Nat.le_of_ble_eq_true rfl) (s10091_X12_triesAll J (d + 4)  ) ?_
          rintro _ _ ⟨rfl, rfl⟩
          dsimp only [Option.toList, List.cons_append, List.nil_append]
          refine G_iload_n (pc := 24) rfl dX12_ith_24 ?_
          refine G_aload_n (pc := 25) rfl dX12_ith_25 ?_
          refine G_iload_n (pc := 26) rfl dX12_ith_26 ?_
          refine G_callV (pc := 27) (mc1 := 0) (ms1 := 0) (ci := 12) (mj := mX12_daysOf) (vs := [_]) dX12_ith_27 rfl rfl cm_X12_daysOf wh_91 wh_93 wh_94 rfl (Nat.le_of_ble_eq_true rfl) (Nat.le_of_ble_eq_true rfl) (Nat.le_of_ble_eq_true rfl) (Nat.le_of_ble_eq_true rfl) (s10132_X12_daysOf J (d + 6)  ) ?_
          rintro _ _ ⟨rfl, rfl⟩
          dsimp only [Option.toList, List.cons_append, List.nil_append]
          refine G_icmp_ge (pc := 30) (tgt := 42) (by decide) dX12_ith_30 (fun _ => ?_) (fun z => absurd (by decide) z)
          refine G_bipush (pc := 42) (v := (-3)) (by decide) dX12_ith_42 ?_
          exact G_iret (pc := 44) (Nat.le_of_ble_eq_true rfl) (Nat.le_of_ble_eq_true rfl) rfl dX12_ith_44 (by first | rfl | (simp [F_ith, *]; done) | (simp only [F_ith, Int32.le_iff_toInt_le, Int32.lt_iff_toInt_lt, ← Int32.toInt_inj]; simp; omega) | (simp only [F_ith, Int32.le_iff_toInt_le, Int32.lt_iff_toInt_lt, ← Int32.toInt_inj]; split <;> first | rfl | (exfalso; simp at *; omega)) | (unfold F_ith; (repeat' split) <;> first | rfl | (exfalso; (try simp only [Int32.le_iff_toInt_le, Int32.lt_iff_toInt_lt, ← Int32.toInt_inj] at *); first | omega | (simp at *; done) | (simp at *; omega))))
        by_cases c246 : i = 1
        · subst c246
          refine G_aload_n (pc := 18) rfl dX12_ith_18 ?_
          refine G_iload_n (pc := 19) rfl dX12_ith_19 ?_
          refine G_iconst (pc := 20) (v := 0) (by decide) dX12_ith_20 ?_
          refine G_callV (pc := 21) (mc1 := 0) (ms1 := 0) (ci := 12) (mj := mX12_triesAll) (vs := [_, _]) dX12_ith_21 rfl rfl cm_X12_triesAll wh_103 wh_105 wh_106 rfl (Nat.le_of_ble_eq_true rfl) (Nat.le_of_ble_eq_true rfl) (Nat.le_of_ble_eq_true rfl) (Nat.le_of_ble_eq_true rfl) (s10091_X12_triesAll J (d + 4)  ) ?_
          rintro _ _ ⟨rfl, rfl⟩
          dsimp only [Option.toList, List.cons_append, List.nil_append]
          refine G_iload_n (pc := 24) rfl dX12_ith_24 ?_
          refine G_aload_n (pc := 25) rfl dX12_ith_25 ?_
          refine G_iload_n (pc := 26) rfl dX12_ith_26 ?_
          refine G_callV (pc := 27) (mc1 := 0) (ms1 := 0) (ci := 12) (mj := mX12_daysOf) (vs := [_]) dX12_ith_27 rfl rfl cm_X12_daysOf wh_91 wh_93 wh_94 rfl (Nat.le_of_ble_eq_true rfl) (Nat.le_of_ble_eq_true rfl) (Nat.le_of_ble_eq_true rfl) (Nat.le_of_ble_eq_true rfl) (s10132_X12_daysOf J (d + 6)  ) ?_
          rintro _ _ ⟨rfl, rfl⟩
          dsimp only [Option.toList, List.cons_append, List.nil_append]
          refine G_icmp_ge (pc := 30) (tgt := 42) (by decide) dX12_ith_30 (fun _ => ?_) (fun z => absurd (by decide) z)
          refine G_bipush (pc := 42) (v := (-3)) (by decide) dX12_ith_42 ?_
          exact G_iret (pc := 44) (Nat.le_of_ble_eq_true rfl) (Nat.le_of_ble_eq_true rfl) rfl dX12_ith_44 (by first | rfl | (simp [F_ith, *]; done) | (simp only [F_ith, Int32.le_iff_toInt_le, Int32.lt_iff_toInt_lt, ← Int32.toInt_inj]; simp; omega) | (simp only [F_ith, Int32.le_iff_toInt_le, Int32.lt_iff_toInt_lt, ← Int32.toInt_inj]; split <;> first | rfl | (exfalso; simp at *; omega)) | (unfold F_ith; (repeat' split) <;> first | rfl | (exfalso; (try simp only [Int32.le_iff_toInt_le, Int32.lt_iff_toInt_lt, ← Int32.toInt_inj] at *); first | omega | (simp at *; done) | (simp at *; omega))))
        by_cases c247 : i = 2
        · subst c247
          refine G_aload_n (pc := 18) rfl dX12_ith_18 ?_
          refine G_iload_n (pc := 19) rfl dX12_ith_19 ?_
          refine G_iconst (pc := 20) (v := 0) (by decide) dX12_ith_20 ?_
          refine G_callV (pc := 21) (mc1 := 0) (ms1 := 0) (ci := 12) (mj := mX12_triesAll) (vs := [_, _]) dX12_ith_21 rfl rfl cm_X12_triesAll wh_103 wh_105 wh_106 rfl (Nat.le_of_ble_eq_true rfl) (Nat.le_of_ble_eq_true rfl) (Nat.le_of_ble_eq_true rfl) (Nat.le_of_ble_eq_true rfl) (s10091_X12_triesAll J (d + 4)  ) ?_
          rintro _ _ ⟨rfl, rfl⟩
          dsimp only [Option.toList, List.cons_append, List.nil_append]
          refine G_iload_n (pc := 24) rfl dX12_ith_24 ?_
          refine G_aload_n (pc := 25) rfl dX12_ith_25 ?_
          refine G_iload_n (pc := 26) rfl dX12_ith_26 ?_
          refine G_callV (pc := 27) (mc1 := 0) (ms1 := 0) (ci := 12) (mj := mX12_daysOf) (vs := [_]) dX12_ith_27 rfl rfl cm_X12_daysOf wh_91 wh_93 wh_94 rfl (Nat.le_of_ble_eq_true rfl) (Nat.le_of_ble_eq_true rfl) (Nat.le_of_ble_eq_true rfl) (Nat.le_of_ble_eq_true rfl) (s10132_X12_daysOf J (d + 6)  ) ?_
          rintro _ _ ⟨rfl, rfl⟩
          dsimp only [Option.toList, List.cons_append, List.nil_append]
          refine G_icmp_ge (pc := 30) (tgt := 42) (by decide) dX12_ith_30 (fun _ => ?_) (fun z => absurd (by decide) z)
          refine G_bipush (pc := 42) (v := (-3)) (by decide) dX12_ith_42 ?_
          exact G_iret (pc := 44) (Nat.le_of_ble_eq_true rfl) (Nat.le_of_ble_eq_true rfl) rfl dX12_ith_44 (by first | rfl | (simp [F_ith, *]; done) | (simp only [F_ith, Int32.le_iff_toInt_le, Int32.lt_iff_toInt_lt, ← Int32.toInt_inj]; simp; omega) | (simp only [F_ith, Int32.le_iff_toInt_le, Int32.lt_iff_toInt_lt, ← Int32.toInt_inj]; split <;> first | rfl | (exfalso; simp at *; omega)) | (unfold F_ith; (repeat' split) <;> first | rfl | (exfalso; (try simp only [Int32.le_iff_toInt_le, Int32.lt_iff_toInt_lt, ← Int32.toInt_inj] at *); first | omega | (simp at *; done) | (simp at *; omega))))
        by_cases c248 : i = 3
        · subst c248
          refine G_aload_n (pc := 18) rfl dX12_ith_18 ?_
          refine G_iload_n (pc := 19) rfl dX12_ith_19 ?_
          refine G_iconst (pc := 20) (v := 0) (by decide) dX12_ith_20 ?_
          refine G_callV (pc := 21) (mc1 := 0) (ms1 := 0) (ci := 12) (mj := mX12_triesAll) (vs := [_, _]) dX12_ith_21 rfl rfl cm_X12_triesAll wh_103 wh_105 wh_106 rfl (Nat.le_of_ble_eq_true rfl) (Nat.le_of_ble_eq_true rfl) (Nat.le_of_ble_eq_true rfl) (Nat.le_of_ble_eq_true rfl) (s10091_X12_triesAll J (d + 4)  ) ?_
          rintro _ _ ⟨rfl, rfl⟩
          dsimp only [Option.toList, List.cons_append, List.nil_append]
          refine G_iload_n (pc := 24) rfl dX12_ith_24 ?_
          refine G_aload_n (pc := 25) rfl dX12_ith_25 ?_
          refine G_iload_n (pc := 26) rfl dX12_ith_26 ?_
          refine G_callV (pc := 27) (mc1 := 0) (ms1 := 0) (ci := 12) (mj := mX12_daysOf) (vs := [_]) dX12_ith_27 rfl rfl cm_X12_daysOf wh_91 wh_93 wh_94 rfl (Nat.le_of_ble_eq_true rfl) (Nat.le_of_ble_eq_true rfl) (Nat.le_of_ble_eq_true rfl) (Nat.le_of_ble_eq_true rfl) (s10132_X12_daysOf J (d + 6)  ) ?_
          rintro _ _ ⟨rfl, rfl⟩
          dsimp only [Option.toList, List.cons_append, List.nil_append]
          refine G_icmp_ge (pc := 30) (tgt := 42) (by decide) dX12_ith_30 (fun _ => ?_) (fun z => absurd (by decide) z)
          refine G_bipush (pc := 42) (v := (-3)) (by decide) dX12_ith_42 ?_
          exact G_iret (pc := 44) (Nat.le_of_ble_eq_true rfl) (Nat.le_of_ble_eq_true rfl) rfl dX12_ith_44 (by first | rfl | (simp [F_ith, *]; done) | (simp only [F_ith, Int32.le_iff_toInt_le, Int32.lt_iff_toInt_lt, ← Int32.toInt_inj]; simp; omega) | (simp only [F_ith, Int32.le_iff_toInt_le, Int32.lt_iff_toInt_lt, ← Int32.toInt_inj]; split <;> first | rfl | (exfalso; simp at *; omega)) | (unfold F_ith; (repeat' split) <;> first | rfl | (exfalso; (try simp only [Int32.le_iff_toInt_le, Int32.lt_iff_toInt_lt, ← Int32.toInt_inj] at *); first | omega | (simp at *; done) | (simp at *; omega))))
        exfalso
        have : 0 ≤ (i).toInt := Int32.le_iff_toInt_le.mp (c243.1)
        have : (i).toInt ≤ 3 := Int32.le_iff_toInt_le.mp (c243.2)
        have : (i).toInt ≠ 0 := g_ne (c245)
        have : (i).toInt ≠ 1 := g_ne (c246)
        have : (i).toInt ≠ 2 := g_ne (c247)
        have : (i).toInt ≠ 3 := g_ne (c248)
        omega
      by_cases c249 : n = 1
      · subst c249
        by_cases c250 : i = 0
        · subst c250
          refine G_aload_n (pc := 18) rfl dX12_ith_18 ?_
          refine G_iload_n (pc := 19) rfl dX12_ith_19 ?_
          refine G_iconst (pc := 20) (v := 0) (by decide) dX12_ith_20 ?_
          refine G_callV (pc := 21) (mc1 := 0) (ms1 := 0) (ci := 12) (mj := mX12_triesAll) (vs := [_, _]) dX12_ith_21 rfl rfl cm_X12_triesAll wh_103 wh_105 wh_106 rfl (Nat.le_of_ble_eq_true rfl) (Nat.le_of_ble_eq_true rfl) (Nat.le_of_ble_eq_true rfl) (Nat.le_of_ble_eq_true rfl) (s10096_X12_triesAll J (d + 3)  ) ?_
          rintro _ _ ⟨rfl, rfl⟩
          dsimp only [Option.toList, List.cons_append, List.nil_append]
          refine G_iload_n (pc := 24) rfl dX12_ith_24 ?_
          refine G_aload_n (pc := 25) rfl dX12_ith_25 ?_
          refine G_iload_n (pc := 26) rfl dX12_ith_26 ?_
          refine G_callV (pc := 27) (mc1 := 0) (ms1 := 0) (ci := 12) (mj := mX12_daysOf) (vs := [_]) dX12_ith_27 rfl rfl cm_X12_daysOf wh_91 wh_93 wh_94 rfl (Nat.le_of_ble_eq_true rfl) (Nat.le_of_ble_eq_true rfl) (Nat.le_of_ble_eq_true rfl) (Nat.le_of_ble_eq_true rfl) (s10134_X12_daysOf J (d + 6)  ) ?_
          rintro _ _ ⟨rfl, rfl⟩
          dsimp only [Option.toList, List.cons_append, List.nil_append]
          refine G_icmp_ge (pc := 30) (tgt := 42) (by decide) dX12_ith_30 (fun z => absurd z (by decide)) (fun _ => ?_)
          refine G_aload_n (pc := 33) rfl dX12_ith_33 ?_
          refine G_getR (pc := 34) (r := 78) (ci := 12) (j := 18) rfl lk_RX12_41 rfl rfl rfl dX12_ith_34 ?_
          refine G_iload_n (pc := 37) rfl dX12_ith_37 ?_
          refine G_iald (pc := 38) (jj := 0) (v := 0) (by decide) rfl rfl (by unfold vp_in; decide) dX12_ith_38 ?_
          refine G_goto (pc := 39) (tgt := 44) (by decide) dX12_ith_39 ?_
          exact G_iret (pc := 44) (Nat.le_of_ble_eq_true rfl) (Nat.le_of_ble_eq_true rfl) rfl dX12_ith_44 (by first | rfl | (simp [F_ith, *]; done) | (simp only [F_ith, Int32.le_iff_toInt_le, Int32.lt_iff_toInt_lt, ← Int32.toInt_inj]; simp; omega) | (simp only [F_ith, Int32.le_iff_toInt_le, Int32.lt_iff_toInt_lt, ← Int32.toInt_inj]; split <;> first | rfl | (exfalso; simp at *; omega)) | (unfold F_ith; (repeat' split) <;> first | rfl | (exfalso; (try simp only [Int32.le_iff_toInt_le, Int32.lt_iff_toInt_lt, ← Int32.toInt_inj] at *); first | omega | (simp at *; done) | (simp at *; omega))))
        by_cases c251 : i = 1
        · subst c251
          refine G_aload_n (pc := 18) rfl dX12_ith_18 ?_
          refine G_iload_n (pc := 19) rfl dX12_ith_19 ?_
          refine G_iconst (pc := 20) (v := 0) (by decide) dX12_ith_20 ?_
          refine G_callV (pc := 21) (mc1 := 0) (ms1 := 0) (ci := 12) (mj := mX12_triesAll) (vs := [_, _]) dX12_ith_21 rfl rfl cm_X12_triesAll wh_103 wh_105 wh_106 rfl (Nat.le_of_ble_eq_true rfl) (Nat.le_of_ble_eq_true rfl) (Nat.le_of_ble_eq_true rfl) (Nat.le_of_ble_eq_true rfl) (s10096_X12_triesAll J (d + 3)  ) ?_
          rintro _ _ ⟨rfl, rfl⟩
          dsimp only [Option.toList, List.cons_append, List.nil_append]
          refine G_iload_n (pc := 24) rfl dX12_ith_24 ?_
          refine G_aload_n (pc := 25) rfl dX12_ith_25 ?_
          refine G_iload_n (pc := 26) rfl dX12_ith_26 ?_
          refine G_callV (pc := 27) (mc1 := 0) (ms1 := 0) (ci := 12) (mj := mX12_daysOf) (vs := [_]) dX12_ith_27 rfl rfl cm_X12_daysOf wh_91 wh_93 wh_94 rfl (Nat.le_of_ble_eq_true rfl) (Nat.le_of_ble_eq_true rfl) (Nat.le_of_ble_eq_true rfl) (Nat.le_of_ble_eq_true rfl) (s10134_X12_daysOf J (d + 6)  ) ?_
          rintro _ _ ⟨rfl, rfl⟩
          dsimp only [Option.toList, List.cons_append, List.nil_append]
          refine G_icmp_ge (pc := 30) (tgt := 42) (by decide) dX12_ith_30 (fun _ => ?_) (fun z => absurd (by decide) z)
          refine G_bipush (pc := 42) (v := (-3)) (by decide) dX12_ith_42 ?_
          exact G_iret (pc := 44) (Nat.le_of_ble_eq_true rfl) (Nat.le_of_ble_eq_true rfl) rfl dX12_ith_44 (by first | rfl | (simp [F_ith, *]; done) | (simp only [F_ith, Int32.le_iff_toInt_le, Int32.lt_iff_toInt_lt, ← Int32.toInt_inj]; simp; omega) | (simp only [F_ith, Int32.le_iff_toInt_le, Int32.lt_iff_toInt_lt, ← Int32.toInt_inj]; split <;> first | rfl | (exfalso; simp at *; omega)) | (unfold F_ith; (repeat' split) <;> first | rfl | (exfalso; (try simp only [Int32.le_iff_toInt_le, Int32.lt_iff_toInt_lt, ← Int32.toInt_inj] at *); first | omega | (simp at *; done) | (simp at *; omega))))
        by_cases c252 : i = 2
        · subst c252
          refine G_aload_n (pc := 18) rfl dX12_ith_18 ?_
          refine G_iload_n (pc := 19) rfl dX12_ith_19 ?_
          refine G_iconst (pc := 20) (v := 0) (by decide) dX12_ith_20 ?_
          refine G_callV (pc := 21) (mc1 := 0) (ms1 := 0) (ci := 12) (mj := mX12_triesAll) (vs := [_, _]) dX12_ith_21 rfl rfl cm_X12_triesAll wh_103 wh_105 wh_106 rfl (Nat.le_of_ble_eq_true rfl) (Nat.le_of_ble_eq_true rfl) (Nat.le_of_ble_eq_true rfl) (Nat.le_of_ble_eq_true rfl) (s10096_X12_triesAll J (d + 3)  ) ?_
          rintro _ _ ⟨rfl, rfl⟩
          dsimp only [Option.toList, List.cons_append, List.nil_append]
          refine G_iload_n (pc := 24) rfl dX12_ith_24 ?_
          refine G_aload_n (pc := 25) rfl dX12_ith_25 ?_
          refine G_iload_n (pc := 26) rfl dX12_ith_26 ?_
          refine G_callV (pc := 27) (mc1 := 0) (ms1 := 0) (ci := 12) (mj := mX12_daysOf) (vs := [_]) dX12_ith_27 rfl rfl cm_X12_daysOf wh_91 wh_93 wh_94 rfl (Nat.le_of_ble_eq_true rfl) (Nat.le_of_ble_eq_true rfl) (Nat.le_of_ble_eq_true rfl) (Nat.le_of_ble_eq_true rfl) (s10134_X12_daysOf J (d + 6)  ) ?_
          rintro _ _ ⟨rfl, rfl⟩
          dsimp only [Option.toList, List.cons_append, List.nil_append]
          refine G_icmp_ge (pc := 30) (tgt := 42) (by decide) dX12_ith_30 (fun _ => ?_) (fun z => absurd (by decide) z)
          refine G_bipush (pc := 42) (v := (-3)) (by decide) dX12_ith_42 ?_
          exact G_iret (pc := 44) (Nat.le_of_ble_eq_true rfl) (Nat.le_of_ble_eq_true rfl) rfl dX12_ith_44 (by first | rfl | (simp [F_ith, *]; done) | (simp only [F_ith, Int32.le_iff_toInt_le, Int32.lt_iff_toInt_lt, ← Int32.toInt_inj]; simp; omega) | (simp only [F_ith, Int32.le_iff_toInt_le, Int32.lt_iff_toInt_lt, ← Int32.toInt_inj]; split <;> first | rfl | (exfalso; simp at *; omega)) | (unfold F_ith; (repeat' split) <;> first | rfl | (exfalso; (try simp only [Int32.le_iff_toInt_le, Int32.lt_iff_toInt_lt, ← Int32.toInt_inj] at *); first | omega | (simp at *; done) | (simp at *; omega))))
        by_cases c253 : i = 3
        · subst c253
          refine G_aload_n (pc := 18) rfl dX12_ith_18 ?_
          refine G_iload_n (pc := 19) rfl dX12_ith_19 ?_
          refine G_iconst (pc := 20) (v := 0) (by decide) dX12_ith_20 ?_
          refine G_callV (pc := 21) (mc1 := 0) (ms1 := 0) (ci := 12) (mj := mX12_triesAll) (vs := [_, _]) dX12_ith_21 rfl rfl cm_X12_triesAll wh_103 wh_105 wh_106 rfl (Nat.le_of_ble_eq_true rfl) (Nat.le_of_ble_eq_true rfl) (Nat.le_of_ble_eq_true rfl) (Nat.le_of_ble_eq_true rfl) (s10096_X12_triesAll J (d + 3)  ) ?_
          rintro _ _ ⟨rfl, rfl⟩
          dsimp only [Option.toList, List.cons_append, List.nil_append]
          refine G_iload_n (pc := 24) rfl dX12_ith_24 ?_
          refine G_aload_n (pc := 25) rfl dX12_ith_25 ?_
          refine G_iload_n (pc := 26) rfl dX12_ith_26 ?_
          refine G_callV (pc := 27) (mc1 := 0) (ms1 := 0) (ci := 12) (mj := mX12_daysOf) (vs := [_]) dX12_ith_27 rfl rfl cm_X12_daysOf wh_91 wh_93 wh_94 rfl (Nat.le_of_ble_eq_true rfl) (Nat.le_of_ble_eq_true rfl) (Nat.le_of_ble_eq_true rfl) (Nat.le_of_ble_eq_true rfl) (s10134_X12_daysOf J (d + 6)  ) ?_
          rintro _ _ ⟨rfl, rfl⟩
          dsimp only [Option.toList, List.cons_append, List.nil_append]
          refine G_icmp_ge (pc := 30) (tgt := 42) (by decide) dX12_ith_30 (fun _ => ?_) (fun z => absurd (by decide) z)
          refine G_bipush (pc := 42) (v := (-3)) (by decide) dX12_ith_42 ?_
          exact G_iret (pc := 44) (Nat.le_of_ble_eq_true rfl) (Nat.le_of_ble_eq_true rfl) rfl dX12_ith_44 (by first | rfl | (simp [F_ith, *]; done) | (simp only [F_ith, Int32.le_iff_toInt_le, Int32.lt_iff_toInt_lt, ← Int32.toInt_inj]; simp; omega) | (simp only [F_ith, Int32.le_iff_toInt_le, Int32.lt_iff_toInt_lt, ← Int32.toInt_inj]; split <;> first | rfl | (exfalso; simp at *; omega)) | (unfold F_ith; (repeat' split) <;> first | rfl | (exfalso; (try simp only [Int32.le_iff_toInt_le, Int32.lt_iff_toInt_lt, ← Int32.toInt_inj] at *); first | omega | (simp at *; done) | (simp at *; omega))))
        exfalso
        have : 0 ≤ (i).toInt := Int32.le_iff_toInt_le.mp (c243.1)
        have : (i).toInt ≤ 3 := Int32.le_iff_toInt_le.mp (c243.2)
        have : (i).toInt ≠ 0 := g_ne (c250)
        have : (i).toInt ≠ 1 := g_ne (c251)
        have : (i).toInt ≠ 2 := g_ne (c252)
        have : (i).toInt ≠ 3 := g_ne (c253)
        omega
      by_cases c254 : n = 2
      · subst c254
        by_cases c255 : i = 0
        · subst c255
          refine G_aload_n (pc := 18) rfl dX12_ith_18 ?_
          refine G_iload_n (pc := 19) rfl dX12_ith_19 ?_
          refine G_iconst (pc := 20) (v := 0) (by decide) dX12_ith_20 ?_
          refine G_callV (pc := 21) (mc1 := 0) (ms1 := 0) (ci := 12) (mj := mX12_triesAll) (vs := [_, _]) dX12_ith_21 rfl rfl cm_X12_triesAll wh_103 wh_105 wh_106 rfl (Nat.le_of_ble_eq_true rfl) (Nat.le_of_ble_eq_true rfl) (Nat.le_of_ble_eq_true rfl) (Nat.le_of_ble_eq_true rfl) (s10103_X12_triesAll J (d + 2)  ) ?_
          rintro _ _ ⟨rfl, rfl⟩
          dsimp only [Option.toList, List.cons_append, List.nil_append]
          refine G_iload_n (pc := 24) rfl dX12_ith_24 ?_
          refine G_aload_n (pc := 25) rfl dX12_ith_25 ?_
          refine G_iload_n (pc := 26) rfl dX12_ith_26 ?_
          refine G_callV (pc := 27) (mc1 := 0) (ms1 := 0) (ci := 12) (mj := mX12_daysOf) (vs := [_]) dX12_ith_27 rfl rfl cm_X12_daysOf wh_91 wh_93 wh_94 rfl (Nat.le_of_ble_eq_true rfl) (Nat.le_of_ble_eq_true rfl) (Nat.le_of_ble_eq_true rfl) (Nat.le_of_ble_eq_true rfl) (s10136_X12_daysOf J (d + 6)  ) ?_
          rintro _ _ ⟨rfl, rfl⟩
          dsimp only [Option.toList, List.cons_append, List.nil_append]
          refine G_icmp_ge (pc := 30) (tgt := 42) (by decide) dX12_ith_30 (fun z => absurd z (by decide)) (fun _ => ?_)
          refine G_aload_n (pc := 33) rfl dX12_ith_33 ?_
          refine G_getR (pc := 34) (r := 78) (ci := 12) (j := 18) rfl lk_RX12_41 rfl rfl rfl dX12_ith_34 ?_
          refine G_iload_n (pc := 37) rfl dX12_ith_37 ?_
          refine G_iald (pc := 38) (jj := 0) (v := 0) (by decide) rfl rfl (by unfold vp_in; decide) dX12_ith_38 ?_
          refine G_goto (pc := 39) (tgt := 44) (by decide) dX12_ith_39 ?_
          exact G_iret (pc := 44) (Nat.le_of_ble_eq_true rfl) (Nat.le_of_ble_eq_true rfl) rfl dX12_ith_44 (by first | rfl | (simp [F_ith, *]; done) | (simp only [F_ith, Int32.le_iff_toInt_le, Int32.lt_iff_toInt_lt, ← Int32.toInt_inj]; simp; omega) | (simp only [F_ith, Int32.le_iff_toInt_le, Int32.lt_iff_toInt_lt, ← Int32.toInt_inj]; split <;> first | rfl | (exfalso; simp at *; omega)) | (unfold F_ith; (repeat' split) <;> first | rfl | (exfalso; (try simp only [Int32.le_iff_toInt_le, Int32.lt_iff_toInt_lt, ← Int32.toInt_inj] at *); first | omega | (simp at *; done) | (simp at *; omega))))
        by_cases c256 : i = 1
        · subst c256
          refine G_aload_n (pc := 18) rfl dX12_ith_18 ?_
          refine G_iload_n (pc := 19) rfl dX12_ith_19 ?_
          refine G_iconst (pc := 20) (v := 0) (by decide) dX12_ith_20 ?_
          refine G_callV (pc := 21) (mc1 := 0) (ms1 := 0) (ci := 12) (mj := mX12_triesAll) (vs := [_, _]) dX12_ith_21 rfl rfl cm_X12_triesAll wh_103 wh_105 wh_106 rfl (Nat.le_of_ble_eq_true rfl) (Nat.le_of_ble_eq_true rfl) (Nat.le_of_ble_eq_true rfl) (Nat.le_of_ble_eq_true rfl) (s10103_X12_triesAll J (d + 2)  ) ?_
          rintro _ _ ⟨rfl, rfl⟩
          dsimp only [Option.toList, List.cons_append, List.nil_append]
          refine G_iload_n (pc := 24) rfl dX12_ith_24 ?_
          refine G_aload_n (pc := 25) rfl dX12_ith_25 ?_
          refine G_iload_n (pc := 26) rfl dX12_ith_26 ?_
          refine G_callV (pc := 27) (mc1 := 0) (ms1 := 0) (ci := 12) (mj := mX12_daysOf) (vs := [_]) dX12_ith_27 rfl rfl cm_X12_daysOf wh_91 wh_93 wh_94 rfl (Nat.le_of_ble_eq_true rfl) (Nat.le_of_ble_eq_true rfl) (Nat.le_of_ble_eq_true rfl) (Nat.le_of_ble_eq_true rfl) (s10136_X12_daysOf J (d + 6)  ) ?_
          rintro _ _ ⟨rfl, rfl⟩
          dsimp only [Option.toList, List.cons_append, List.nil_append]
          refine G_icmp_ge (pc := 30) (tgt := 42) (by decide) dX12_ith_30 (fun z => absurd z (by decide)) (fun _ => ?_)
          refine G_aload_n (pc := 33) rfl dX12_ith_33 ?_
          refine G_getR (pc := 34) (r := 78) (ci := 12) (j := 18) rfl lk_RX12_41 rfl rfl rfl dX12_ith_34 ?_
          refine G_iload_n (pc := 37) rfl dX12_ith_37 ?_
          refine G_iald (pc := 38) (jj := 1) (v := 0) (by decide) rfl rfl (by unfold vp_in; decide) dX12_ith_38 ?_
          refine G_goto (pc := 39) (tgt := 44) (by decide) dX12_ith_39 ?_
          exact G_iret (pc := 44) (Nat.le_of_ble_eq_true rfl) (Nat.le_of_ble_eq_true rfl) rfl dX12_ith_44 (by first | rfl | (simp [F_ith, *]; done) | (simp only [F_ith, Int32.le_iff_toInt_le, Int32.lt_iff_toInt_lt, ← Int32.toInt_inj]; simp; omega) | (simp only [F_ith, Int32.le_iff_toInt_le, Int32.lt_iff_toInt_lt, ← Int32.toInt_inj]; split <;> first | rfl | (exfalso; simp at *; omega)) | (unfold F_ith; (repeat' split) <;> first | rfl | (exfalso; (try simp only [Int32.le_iff_toInt_le, Int32.lt_iff_toInt_lt, ← Int32.toInt_inj] at *); first | omega | (simp at *; done) | (simp at *; omega))))
        by_cases c257 : i = 2
        · subst c257
          refine G_aload_n (pc := 18) rfl dX12_ith_18 ?_
          refine G_iload_n (pc := 19) rfl dX12_ith_19 ?_
          refine G_iconst (pc := 20) (v := 0) (by decide) dX12_ith_20 ?_
          refine G_callV (pc := 21) (mc1 := 0) (ms1 := 0) (ci := 12) (mj := mX12_triesAll) (vs := [_, _]) dX12_ith_21 rfl rfl cm_X12_triesAll wh_103 wh_105 wh_106 rfl (Nat.le_of_ble_eq_true rfl) (Nat.le_of_ble_eq_true rfl) (Nat.le_of_ble_eq_true rfl) (Nat.le_of_ble_eq_true rfl) (s10103_X12_triesAll J (d + 2)  ) ?_
          rintro _ _ ⟨rfl, rfl⟩
          dsimp only [Option.toList, List.cons_append, List.nil_append]
          refine G_iload_n (pc := 24) rfl dX12_ith_24 ?_
          refine G_aload_n (pc := 25) rfl dX12_ith_25 ?_
          refine G_iload_n (pc := 26) rfl dX12_ith_26 ?_
          refine G_callV (pc := 27) (mc1 := 0) (ms1 := 0) (ci := 12) (mj := mX12_daysOf) (vs := [_]) dX12_ith_27 rfl rfl cm_X12_daysOf wh_91 wh_93 wh_94 rfl (Nat.le_of_ble_eq_true rfl) (Nat.le_of_ble_eq_true rfl) (Nat.le_of_ble_eq_true rfl) (Nat.le_of_ble_eq_true rfl) (s10136_X12_daysOf J (d + 6)  ) ?_
          rintro _ _ ⟨rfl, rfl⟩
          dsimp only [Option.toList, List.cons_append, List.nil_append]
          refine G_icmp_ge (pc := 30) (tgt := 42) (by decide) dX12_ith_30 (fun _ => ?_) (fun z => absurd (by decide) z)
          refine G_bipush (pc := 42) (v := (-3)) (by decide) dX12_ith_42 ?_
          exact G_iret (pc := 44) (Nat.le_of_ble_eq_true rfl) (Nat.le_of_ble_eq_true rfl) rfl dX12_ith_44 (by first | rfl | (simp [F_ith, *]; done) | (simp only [F_ith, Int32.le_iff_toInt_le, Int32.lt_iff_toInt_lt, ← Int32.toInt_inj]; simp; omega) | (simp only [F_ith, Int32.le_iff_toInt_le, Int32.lt_iff_toInt_lt, ← Int32.toInt_inj]; split <;> first | rfl | (exfalso; simp at *; omega)) | (unfold F_ith; (repeat' split) <;> first | rfl | (exfalso; (try simp only [Int32.le_iff_toInt_le, Int32.lt_iff_toInt_lt, ← Int32.toInt_inj] at *); first | omega | (simp at *; done) | (simp at *; omega))))
        by_cases c258 : i = 3
        · subst c258
          refine G_aload_n (pc := 18) rfl dX12_ith_18 ?_
          refine G_iload_n (pc := 19) rfl dX12_ith_19 ?_
          refine G_iconst (pc := 20) (v := 0) (by decide) dX12_ith_20 ?_
          refine G_callV (pc := 21) (mc1 := 0) (ms1 := 0) (ci := 12) (mj := mX12_triesAll) (vs := [_, _]) dX12_ith_21 rfl rfl cm_X12_triesAll wh_103 wh_105 wh_106 rfl (Nat.le_of_ble_eq_true rfl) (Nat.le_of_ble_eq_true rfl) (Nat.le_of_ble_eq_true rfl) (Nat.le_of_ble_eq_true rfl) (s10103_X12_triesAll J (d + 2)  ) ?_
          rintro _ _ ⟨rfl, rfl⟩
          dsimp only [Option.toList, List.cons_append, List.nil_append]
          refine G_iload_n (pc := 24) rfl dX12_ith_24 ?_
          refine G_aload_n (pc := 25) rfl dX12_ith_25 ?_
          refine G_iload_n (pc := 26) rfl dX12_ith_26 ?_
          refine G_callV (pc := 27) (mc1 := 0) (ms1 := 0) (ci := 12) (mj := mX12_daysOf) (vs := [_]) dX12_ith_27 rfl rfl cm_X12_daysOf wh_91 wh_93 wh_94 rfl (Nat.le_of_ble_eq_true rfl) (Nat.le_of_ble_eq_true rfl) (Nat.le_of_ble_eq_true rfl) (Nat.le_of_ble_eq_true rfl) (s10136_X12_daysOf J (d + 6)  ) ?_
          rintro _ _ ⟨rfl, rfl⟩
          dsimp only [Option.toList, List.cons_append, List.nil_append]
          refine G_icmp_ge (pc := 30) (tgt := 42) (by decide) dX12_ith_30 (fun _ => ?_) (fun z => absurd (by decide) z)
          refine G_bipush (pc := 42) (v := (-3)) (by decide) dX12_ith_42 ?_
          exact G_iret (pc := 44) (Nat.le_of_ble_eq_true rfl) (Nat.le_of_ble_eq_true rfl) rfl dX12_ith_44 (by first | rfl | (simp [F_ith, *]; done) | (simp only [F_ith, Int32.le_iff_toInt_le, Int32.lt_iff_toInt_lt, ← Int32.toInt_inj]; simp; omega) | (simp only [F_ith, Int32.le_iff_toInt_le, Int32.lt_iff_toInt_lt, ← Int32.toInt_inj]; split <;> first | rfl | (exfalso; simp at *; omega)) | (unfold F_ith; (repeat' split) <;> first | rfl | (exfalso; (try simp only [Int32.le_iff_toInt_le, Int32.lt_iff_toInt_lt, ← Int32.toInt_inj] at *); first | omega | (simp at *; done) | (simp at *; omega))))
        exfalso
        have : 0 ≤ (i).toInt := Int32.le_iff_toInt_le.mp (c243.1)
        have : (i).toInt ≤ 3 := Int32.le_iff_toInt_le.mp (c243.2)
        have : (i).toInt ≠ 0 := g_ne (c255)
        have : (i).toInt ≠ 1 := g_ne (c256)
        have : (i).toInt ≠ 2 := g_ne (c257)
        have : (i).toInt ≠ 3 := g_ne (c258)
        omega
      by_cases c259 : n = 3
      · subst c259
        by_cases c260 : i = 0
        · subst c260
          refine G_aload_n (pc := 18) rfl dX12_ith_18 ?_
          refine G_iload_n (pc := 19) rfl dX12_ith_19 ?_
          refine G_iconst (pc := 20) (v := 0) (by decide) dX12_ith_20 ?_
          refine G_callV (pc := 21) (mc1 := 0) (ms1 := 0) (ci := 12) (mj := mX12_triesAll) (vs := [_, _]) dX12_ith_21 rfl rfl cm_X12_triesAll wh_103 wh_105 wh_106 rfl (Nat.le_of_ble_eq_true rfl) (Nat.le_of_ble_eq_true rfl) (Nat.le_of_ble_eq_true rfl) (Nat.le_of_ble_eq_true rfl) (s10111_X12_triesAll J (d + 1)  ) ?_
          rintro _ _ ⟨rfl, rfl⟩
          dsimp only [Option.toList, List.cons_append, List.nil_append]
          refine G_iload_n (pc := 24) rfl dX12_ith_24 ?_
          refine G_aload_n (pc := 25) rfl dX12_ith_25 ?_
          refine G_iload_n (pc := 26) rfl dX12_ith_26 ?_
          refine G_callV (pc := 27) (mc1 := 0) (ms1 := 0) (ci := 12) (mj := mX12_daysOf) (vs := [_]) dX12_ith_27 rfl rfl cm_X12_daysOf wh_91 wh_93 wh_94 rfl (Nat.le_of_ble_eq_true rfl) (Nat.le_of_ble_eq_true rfl) (Nat.le_of_ble_eq_true rfl) (Nat.le_of_ble_eq_true rfl) (s10138_X12_daysOf J (d + 6)  ) ?_
          rintro _ _ ⟨rfl, rfl⟩
          dsimp only [Option.toList, List.cons_append, List.nil_append]
          refine G_icmp_ge (pc := 30) (tgt := 42) (by decide) dX12_ith_30 (fun z => absurd z (by decide)) (fun _ => ?_)
          refine G_aload_n (pc := 33) rfl dX12_ith_33 ?_
          refine G_getR (pc := 34) (r := 78) (ci := 12) (j := 18) rfl lk_RX12_41 rfl rfl rfl dX12_ith_34 ?_
          refine G_iload_n (pc := 37) rfl dX12_ith_37 ?_
          refine G_iald (pc := 38) (jj := 0) (v := 0) (by decide) rfl rfl (by unfold vp_in; decide) dX12_ith_38 ?_
          refine G_goto (pc := 39) (tgt := 44) (by decide) dX12_ith_39 ?_
          exact G_iret (pc := 44) (Nat.le_of_ble_eq_true rfl) (Nat.le_of_ble_eq_true rfl) rfl dX12_ith_44 (by first | rfl | (simp [F_ith, *]; done) | (simp only [F_ith, Int32.le_iff_toInt_le, Int32.lt_iff_toInt_lt, ← Int32.toInt_inj]; simp; omega) | (simp only [F_ith, Int32.le_iff_toInt_le, Int32.lt_iff_toInt_lt, ← Int32.toInt_inj]; split <;> first | rfl | (exfalso; simp at *; omega)) | (unfold F_ith; (repeat' split) <;> first | rfl | (exfalso; (try simp only [Int32.le_iff_toInt_le, Int32.lt_iff_toInt_lt, ← Int32.toInt_inj] at *); first | omega | (simp at *; done) | (simp at *; omega))))
        by_cases c261 : i = 1
        · subst c261
          refine G_aload_n (pc := 18) rfl dX12_ith_18 ?_
          refine G_iload_n (pc := 19) rfl dX12_ith_19 ?_
          refine G_iconst (pc := 20) (v := 0) (by decide) dX12_ith_20 ?_
          refine G_callV (pc := 21) (mc1 := 0) (ms1 := 0) (ci := 12) (mj := mX12_triesAll) (vs := [_, _]) dX12_ith_21 rfl rfl cm_X12_triesAll wh_103 wh_105 wh_106 rfl (Nat.le_of_ble_eq_true rfl) (Nat.le_of_ble_eq_true rfl) (Nat.le_of_ble_eq_true rfl) (Nat.le_of_ble_eq_true rfl) (s10111_X12_triesAll J (d + 1)  ) ?_
          rintro _ _ ⟨rfl, rfl⟩
          dsimp only [Option.toList, List.cons_append, List.nil_append]
          refine G_iload_n (pc := 24) rfl dX12_ith_24 ?_
          refine G_aload_n (pc := 25) rfl dX12_ith_25 ?_
          refine G_iload_n (pc := 26) rfl dX12_ith_26 ?_
          refine G_callV (pc := 27) (mc1 := 0) (ms1 := 0) (ci := 12) (mj := mX12_daysOf) (vs := [_]) dX12_ith_27 rfl rfl cm_X12_daysOf wh_91 wh_93 wh_94 rfl (Nat.le_of_ble_eq_true rfl) (Nat.le_of_ble_eq_true rfl) (Nat.le_of_ble_eq_true rfl) (Nat.le_of_ble_eq_true rfl) (s10138_X12_daysOf J (d + 6)  ) ?_
          rintro _ _ ⟨rfl, rfl⟩
          dsimp only [Option.toList, List.cons_append, List.nil_append]
          refine G_icmp_ge (pc := 30) (tgt := 42) (by decide) dX12_ith_30 (fun z => absurd z (by decide)) (fun _ => ?_)
          refine G_aload_n (pc := 33) rfl dX12_ith_33 ?_
          refine G_getR (pc := 34) (r := 78) (ci := 12) (j := 18) rfl lk_RX12_41 rfl rfl rfl dX12_ith_34 ?_
          refine G_iload_n (pc := 37) rfl dX12_ith_37 ?_
          refine G_iald (pc := 38) (jj := 1) (v := 0) (by decide) rfl rfl (by unfold vp_in; decide) dX12_ith_38 ?_
          refine G_goto (pc := 39) (tgt := 44) (by decide) dX12_ith_39 ?_
          exact G_iret (pc := 44) (Nat.le_of_ble_eq_true rfl) (Nat.le_of_ble_eq_true rfl) rfl dX12_ith_44 (by first | rfl | (simp [F_ith, *]; done) | (simp only [F_ith, Int32.le_iff_toInt_le, Int32.lt_iff_toInt_lt, ← Int32.toInt_inj]; simp; omega) | (simp only [F_ith, Int32.le_iff_toInt_le, Int32.lt_iff_toInt_lt, ← Int32.toInt_inj]; split <;> first | rfl | (exfalso; simp at *; omega)) | (unfold F_ith; (repeat' split) <;> first | rfl | (exfalso; (try simp only [Int32.le_iff_toInt_le, Int32.lt_iff_toInt_lt, ← Int32.toInt_inj] at *); first | omega | (simp at *; done) | (simp at *; omega))))
        by_cases c262 : i = 2
        · subst c262
          refine G_aload_n (pc := 18) rfl dX12_ith_18 ?_
          refine G_iload_n (pc := 19) rfl dX12_ith_19 ?_
          refine G_iconst (pc := 20) (v := 0) (by decide) dX12_ith_20 ?_
          refine G_callV (pc := 21) (mc1 := 0) (ms1 := 0) (ci := 12) (mj := mX12_triesAll) (vs := [_, _]) dX12_ith_21 rfl rfl cm_X12_triesAll wh_103 wh_105 wh_106 rfl (Nat.le_of_ble_eq_true rfl) (Nat.le_of_ble_eq_true rfl) (Nat.le_of_ble_eq_true rfl) (Nat.le_of_ble_eq_true rfl) (s10111_X12_triesAll J (d + 1)  ) ?_
          rintro _ _ ⟨rfl, rfl⟩
          dsimp only [Option.toList, List.cons_append, List.nil_append]
          refine G_iload_n (pc := 24) rfl dX12_ith_24 ?_
          refine G_aload_n (pc := 25) rfl dX12_ith_25 ?_
          refine G_iload_n (pc := 26) rfl dX12_ith_26 ?_
          refine G_callV (pc := 27) (mc1 := 0) (ms1 := 0) (ci := 12) (mj := mX12_daysOf) (vs := [_]) dX12_ith_27 rfl rfl cm_X12_daysOf wh_91 wh_93 wh_94 rfl (Nat.le_of_ble_eq_true rfl) (Nat.le_of_ble_eq_true rfl) (Nat.le_of_ble_eq_true rfl) (Nat.le_of_ble_eq_true rfl) (s10138_X12_daysOf J (d + 6)  ) ?_
          rintro _ _ ⟨rfl, rfl⟩
          dsimp only [Option.toList, List.cons_append, List.nil_append]
          refine G_icmp_ge (pc := 30) (tgt := 42) (by decide) dX12_ith_30 (fun z => absurd z (by decide)) (fun _ => ?_)
          refine G_aload_n (pc := 33) rfl dX12_ith_33 ?_
          refine G_getR (pc := 34) (r := 78) (ci := 12) (j := 18) rfl lk_RX12_41 rfl rfl rfl dX12_ith_34 ?_
          refine G_iload_n (pc := 37) rfl dX12_ith_37 ?_
          refine G_iald (pc := 38) (jj := 2) (v := 0) (by decide) rfl rfl (by unfold vp_in; decide) dX12_ith_38 ?_
          refine G_goto (pc := 39) (tgt := 44) (by decide) dX12_ith_39 ?_
          exact G_iret (pc := 44) (Nat.le_of_ble_eq_true rfl) (Nat.le_of_ble_eq_true rfl) rfl dX12_ith_44 (by first | rfl | (simp [F_ith, *]; done) | (simp only [F_ith, Int32.le_iff_toInt_le, Int32.lt_iff_toInt_lt, ← Int32.toInt_inj]; simp; omega) | (simp only [F_ith, Int32.le_iff_toInt_le, Int32.lt_iff_toInt_lt, ← Int32.toInt_inj]; split <;> first | rfl | (exfalso; simp at *; omega)) | (unfold F_ith; (repeat' split) <;> first | rfl | (exfalso; (try simp only [Int32.le_iff_toInt_le, Int32.lt_iff_toInt_lt, ← Int32.toInt_inj] at *); first | omega | (simp at *; done) | (simp at *; omega))))
        by_cases c263 : i = 3
        · subst c263
          refine G_aload_n (pc := 18) rfl dX12_ith_18 ?_
          refine G_iload_n (pc := 19) rfl dX12_ith_19 ?_
          refine G_iconst (pc := 20) (v := 0) (by decide) dX12_ith_20 ?_
          refine G_callV (pc := 21) (mc1 := 0) (ms1 := 0) (ci := 12) (mj := mX12_triesAll) (vs := [_, _]) dX12_ith_21 rfl rfl cm_X12_triesAll wh_103 wh_105 wh_106 rfl (Nat.le_of_ble_eq_true rfl) (Nat.le_of_ble_eq_true rfl) (Nat.le_of_ble_eq_true rfl) (Nat.le_of_ble_eq_true rfl) (s10111_X12_triesAll J (d + 1)  ) ?_
          rintro _ _ ⟨rfl, rfl⟩
          dsimp only [Option.toList, List.cons_append, List.nil_append]
          refine G_iload_n (pc := 24) rfl dX12_ith_24 ?_
          refine G_aload_n (pc := 25) rfl dX12_ith_25 ?_
          refine G_iload_n (pc := 26) rfl dX12_ith_26 ?_
          refine G_callV (pc := 27) (mc1 := 0) (ms1 := 0) (ci := 12) (mj := mX12_daysOf) (vs := [_]) dX12_ith_27 rfl rfl cm_X12_daysOf wh_91 wh_93 wh_94 rfl (Nat.le_of_ble_eq_true rfl) (Nat.le_of_ble_eq_true rfl) (Nat.le_of_ble_eq_true rfl) (Nat.le_of_ble_eq_true rfl) (s10138_X12_daysOf J (d + 6)  ) ?_
          rintro _ _ ⟨rfl, rfl⟩
          dsimp only [Option.toList, List.cons_append, List.nil_append]
          refine G_icmp_ge (pc := 30) (tgt := 42) (by decide) dX12_ith_30 (fun _ => ?_) (fun z => absurd (by decide) z)
          refine G_bipush (pc := 42) (v := (-3)) (by decide) dX12_ith_42 ?_
          exact G_iret (pc := 44) (Nat.le_of_ble_eq_true rfl) (Nat.le_of_ble_eq_true rfl) rfl dX12_ith_44 (by first | rfl | (simp [F_ith, *]; done) | (simp only [F_ith, Int32.le_iff_toInt_le, Int32.lt_iff_toInt_lt, ← Int32.toInt_inj]; simp; omega) | (simp only [F_ith, Int32.le_iff_toInt_le, Int32.lt_iff_toInt_lt, ← Int32.toInt_inj]; split <;> first | rfl | (exfalso; simp at *; omega)) | (unfold F_ith; (repeat' split) <;> first | rfl | (exfalso; (try simp only [Int32.le_iff_toInt_le, Int32.lt_iff_toInt_lt, ← Int32.toInt_inj] at *); first | omega | (simp at *; done) | (simp at *; omega))))
        exfalso
        have : 0 ≤ (i).toInt := Int32.le_iff_toInt_le.mp (c243.1)
        have : (i).toInt ≤ 3 := Int32.le_iff_toInt_le.mp (c243.2)
        have : (i).toInt ≠ 0 := g_ne (c260)
        have : (i).toInt ≠ 1 := g_ne (c261)
        have : (i).toInt ≠ 2 := g_ne (c262)
        have : (i).toInt ≠ 3 := g_ne (c263)
        omega
      by_cases c264 : n = 4
      · subst c264
        by_cases c265 : i = 0
        · subst c265
          refine G_aload_n (pc := 18) rfl dX12_ith_18 ?_
          refine G_iload_n (pc := 19) rfl dX12_ith_19 ?_
          refine G_iconst (pc := 20) (v := 0) (by decide) dX12_ith_20 ?_
          refine G_callV (pc := 21) (mc1 := 0) (ms1 := 0) (ci := 12) (mj := mX12_triesAll) (vs := [_, _]) dX12_ith_21 rfl rfl cm_X12_triesAll wh_103 wh_105 wh_106 rfl (Nat.le_of_ble_eq_true rfl) (Nat.le_of_ble_eq_true rfl) (Nat.le_of_ble_eq_true rfl) (Nat.le_of_ble_eq_true rfl) (s10120_X12_triesAll J d  ) ?_
          rintro _ _ ⟨rfl, rfl⟩
          dsimp only [Option.toList, List.cons_append, List.nil_append]
          refine G_iload_n (pc := 24) rfl dX12_ith_24 ?_
          refine G_aload_n (pc := 25) rfl dX12_ith_25 ?_
          refine G_iload_n (pc := 26) rfl dX12_ith_26 ?_
          refine G_callV (pc := 27) (mc1 := 0) (ms1 := 0) (ci := 12) (mj := mX12_daysOf) (vs := [_]) dX12_ith_27 rfl rfl cm_X12_daysOf wh_91 wh_93 wh_94 rfl (Nat.le_of_ble_eq_true rfl) (Nat.le_of_ble_eq_true rfl) (Nat.le_of_ble_eq_true rfl) (Nat.le_of_ble_eq_true rfl) (s10140_X12_daysOf J (d + 6)  ) ?_
          rintro _ _ ⟨rfl, rfl⟩
          dsimp only [Option.toList, List.cons_append, List.nil_append]
          refine G_icmp_ge (pc := 30) (tgt := 42) (by decide) dX12_ith_30 (fun z => absurd z (by decide)) (fun _ => ?_)
          refine G_aload_n (pc := 33) rfl dX12_ith_33 ?_
          refine G_getR (pc := 34) (r := 78) (ci := 12) (j := 18) rfl lk_RX12_41 rfl rfl rfl dX12_ith_34 ?_
          refine G_iload_n (pc := 37) rfl dX12_ith_37 ?_
          refine G_iald (pc := 38) (jj := 0) (v := 0) (by decide) rfl rfl (by unfold vp_in; decide) dX12_ith_38 ?_
          refine G_goto (pc := 39) (tgt := 44) (by decide) dX12_ith_39 ?_
          exact G_iret (pc := 44) (Nat.le_of_ble_eq_true rfl) (Nat.le_of_ble_eq_true rfl) rfl dX12_ith_44 (by first | rfl | (simp [F_ith, *]; done) | (simp only [F_ith, Int32.le_iff_toInt_le, Int32.lt_iff_toInt_lt, ← Int32.toInt_inj]; simp; omega) | (simp only [F_ith, Int32.le_iff_toInt_le, Int32.lt_iff_toInt_lt, ← Int32.toInt_inj]; split <;> first | rfl | (exfalso; simp at *; omega)) | (unfold F_ith; (repeat' split) <;> first | rfl | (exfalso; (try simp only [Int32.le_iff_toInt_le, Int32.lt_iff_toInt_lt, ← Int32.toInt_inj] at *); first | omega | (simp at *; done) | (simp at *; omega))))
        by_cases c266 : i = 1
        · subst c266
          refine G_aload_n (pc := 18) rfl dX12_ith_18 ?_
          refine G_iload_n (pc := 19) rfl dX12_ith_19 ?_
          refine G_iconst (pc := 20) (v := 0) (by decide) dX12_ith_20 ?_
          refine G_callV (pc := 21) (mc1 := 0) (ms1 := 0) (ci := 12) (mj := mX12_triesAll) (vs := [_, _]) dX12_ith_21 rfl rfl cm_X12_triesAll wh_103 wh_105 wh_106 rfl (Nat.le_of_ble_eq_true rfl) (Nat.le_of_ble_eq_true rfl) (Nat.le_of_ble_eq_true rfl) (Nat.le_of_ble_eq_true rfl) (s10120_X12_triesAll J d  ) ?_
          rintro _ _ ⟨rfl, rfl⟩
          dsimp only [Option.toList, List.cons_append, List.nil_append]
          refine G_iload_n (pc := 24) rfl dX12_ith_24 ?_
          refine G_aload_n (pc := 25) rfl dX12_ith_25 ?_
          refine G_iload_n (pc := 26) rfl dX12_ith_26 ?_
          refine G_callV (pc := 27) (mc1 := 0) (ms1 := 0) (ci := 12) (mj := mX12_daysOf) (vs := [_]) dX12_ith_27 rfl rfl cm_X12_daysOf wh_91 wh_93 wh_94 rfl (Nat.le_of_ble_eq_true rfl) (Nat.le_of_ble_eq_true rfl) (Nat.le_of_ble_eq_true rfl) (Nat.le_of_ble_eq_true rfl) (s10140_X12_daysOf J (d + 6)  ) ?_
          rintro _ _ ⟨rfl, rfl⟩
          dsimp only [Option.toList, List.cons_append, List.nil_append]
          refine G_icmp_ge (pc := 30) (tgt := 42) (by decide) dX12_ith_30 (fun z => absurd z (by decide)) (fun _ => ?_)
          refine G_aload_n (pc := 33) rfl dX12_ith_33 ?_
          refine G_getR (pc := 34) (r := 78) (ci := 12) (j := 18) rfl lk_RX12_41 rfl rfl rfl dX12_ith_34 ?_
          refine G_iload_n (pc := 37) rfl dX12_ith_37 ?_
          refine G_iald (pc := 38) (jj := 1) (v := 0) (by decide) rfl rfl (by unfold vp_in; decide) dX12_ith_38 ?_
          refine G_goto (pc := 39) (tgt := 44) (by decide) dX12_ith_39 ?_
          exact G_iret (pc := 44) (Nat.le_of_ble_eq_true rfl) (Nat.le_of_ble_eq_true rfl) rfl dX12_ith_44 (by first | rfl | (simp [F_ith, *]; done) | (simp only [F_ith, Int32.le_iff_toInt_le, Int32.lt_iff_toInt_lt, ← Int32.toInt_inj]; simp; omega) | (simp only [F_ith, Int32.le_iff_toInt_le, Int32.lt_iff_toInt_lt, ← Int32.toInt_inj]; split <;> first | rfl | (exfalso; simp at *; omega)) | (unfold F_ith; (repeat' split) <;> first | rfl | (exfalso; (try simp only [Int32.le_iff_toInt_le, Int32.lt_iff_toInt_lt, ← Int32.toInt_inj] at *); first | omega | (simp at *; done) | (simp at *; omega))))
        by_cases c267 : i = 2
        · subst c267
          refine G_aload_n (pc := 18) rfl dX12_ith_18 ?_
          refine G_iload_n (pc := 19) rfl dX12_ith_19 ?_
          refine G_iconst (pc := 20) (v := 0) (by decide) dX12_ith_20 ?_
          refine G_callV (pc := 21) (mc1 := 0) (ms1 := 0) (ci := 12) (mj := mX12_triesAll) (vs := [_, _]) dX12_ith_21 rfl rfl cm_X12_triesAll wh_103 wh_105 wh_106 rfl (Nat.le_of_ble_eq_true rfl) (Nat.le_of_ble_eq_true rfl) (Nat.le_of_ble_eq_true rfl) (Nat.le_of_ble_eq_true rfl) (s10120_X12_triesAll J d  ) ?_
          rintro _ _ ⟨rfl, rfl⟩
          dsimp only [Option.toList, List.cons_append, List.nil_append]
          refine G_iload_n (pc := 24) rfl dX12_ith_24 ?_
          refine G_aload_n (pc := 25) rfl dX12_ith_25 ?_
          refine G_iload_n (pc := 26) rfl dX12_ith_26 ?_
          refine G_callV (pc := 27) (mc1 := 0) (ms1 := 0) (ci := 12) (mj := mX12_daysOf) (vs := [_]) dX12_ith_27 rfl rfl cm_X12_daysOf wh_91 wh_93 wh_94 rfl (Nat.le_of_ble_eq_true rfl) (Nat.le_of_ble_eq_true rfl) (Nat.le_of_ble_eq_true rfl) (Nat.le_of_ble_eq_true rfl) (s10140_X12_daysOf J (d + 6)  ) ?_
          rintro _ _ ⟨rfl, rfl⟩
          dsimp only [Option.toList, List.cons_append, List.nil_append]
          refine G_icmp_ge (pc := 30) (tgt := 42) (by decide) dX12_ith_30 (fun z => absurd z (by decide)) (fun _ => ?_)
          refine G_aload_n (pc := 33) rfl dX12_ith_33 ?_
          refine G_getR (pc := 34) (r := 78) (ci := 12) (j := 18) rfl lk_RX12_41 rfl rfl rfl dX12_ith_34 ?_
          refine G_iload_n (pc := 37) rfl dX12_ith_37 ?_
          refine G_iald (pc := 38) (jj := 2) (v := 0) (by decide) rfl rfl (by unfold vp_in; decide) dX12_ith_38 ?_
          refine G_goto (pc := 39) (tgt := 44) (by decide) dX12_ith_39 ?_
          exact G_iret (pc := 44) (Nat.le_of_ble_eq_true rfl) (Nat.le_of_ble_eq_true rfl) rfl dX12_ith_44 (by first | rfl | (simp [F_ith, *]; done) | (simp only [F_ith, Int32.le_iff_toInt_le, Int32.lt_iff_toInt_lt, ← Int32.toInt_inj]; simp; omega) | (simp only [F_ith, Int32.le_iff_toInt_le, Int32.lt_iff_toInt_lt, ← Int32.toInt_inj]; split <;> first | rfl | (exfalso; simp at *; omega)) | (unfold F_ith; (repeat' split) <;> first | rfl | (exfalso; (try simp only [Int32.le_iff_toInt_le, Int32.lt_iff_toInt_lt, ← Int32.toInt_inj] at *); first | omega | (simp at *; done) | (simp at *; omega))))
        by_cases c268 : i = 3
        · subst c268
          refine G_aload_n (pc := 18) rfl dX12_ith_18 ?_
          refine G_iload_n (pc := 19) rfl dX12_ith_19 ?_
          refine G_iconst (pc := 20) (v := 0) (by decide) dX12_ith_20 ?_
          refine G_callV (pc := 21) (mc1 := 0) (ms1 := 0) (ci := 12) (mj := mX12_triesAll) (vs := [_, _]) dX12_ith_21 rfl rfl cm_X12_triesAll wh_103 wh_105 wh_106 rfl (Nat.le_of_ble_eq_true rfl) (Nat.le_of_ble_eq_true rfl) (Nat.le_of_ble_eq_true rfl) (Nat.le_of_ble_eq_true rfl) (s10120_X12_triesAll J d  ) ?_
          rintro _ _ ⟨rfl, rfl⟩
          dsimp only [Option.toList, List.cons_append, List.nil_append]
          refine G_iload_n (pc := 24) rfl dX12_ith_24 ?_
          refine G_aload_n (pc := 25) rfl dX12_ith_25 ?_
          refine G_iload_n (pc := 26) rfl dX12_ith_26 ?_
          refine G_callV (pc := 27) (mc1 := 0) (ms1 := 0) (ci := 12) (mj := mX12_daysOf) (vs := [_]) dX12_ith_27 rfl rfl cm_X12_daysOf wh_91 wh_93 wh_94 rfl (Nat.le_of_ble_eq_true rfl) (Nat.le_of_ble_eq_true rfl) (Nat.le_of_ble_eq_true rfl) (Nat.le_of_ble_eq_true rfl) (s10140_X12_daysOf J (d + 6)  ) ?_
          rintro _ _ ⟨rfl, rfl⟩
          dsimp only [Option.toList, List.cons_append, List.nil_append]
          refine G_icmp_ge (pc := 30) (tgt := 42) (by decide) dX12_ith_30 (fun z => absurd z (by decide)) (fun _ => ?_)
          refine G_aload_n (pc := 33) rfl dX12_ith_33 ?_
          refine G_getR (pc := 34) (r := 78) (ci := 12) (j := 18) rfl lk_RX12_41 rfl rfl rfl dX12_ith_34 ?_
          refine G_iload_n (pc := 37) rfl dX12_ith_37 ?_
          refine G_iald (pc := 38) (jj := 3) (v := 0) (by decide) rfl rfl (by unfold vp_in; decide) dX12_ith_38 ?_
          refine G_goto (pc := 39) (tgt := 44) (by decide) dX12_ith_39 ?_
          exact G_iret (pc := 44) (Nat.le_of_ble_eq_true rfl) (Nat.le_of_ble_eq_true rfl) rfl dX12_ith_44 (by first | rfl | (simp [F_ith, *]; done) | (simp only [F_ith, Int32.le_iff_toInt_le, Int32.lt_iff_toInt_lt, ← Int32.toInt_inj]; simp; omega) | (simp only [F_ith, Int32.le_iff_toInt_le, Int32.lt_iff_toInt_lt, ← Int32.toInt_inj]; split <;> first | rfl | (exfalso; simp at *; omega)) | (unfold F_ith; (repeat' split) <;> first | rfl | (exfalso; (try simp only [Int32.le_iff_toInt_le, Int32.lt_iff_toInt_lt, ← Int32.toInt_inj] at *); first | omega | (simp at *; done) | (simp at *; omega))))
        exfalso
        have : 0 ≤ (i).toInt := Int32.le_iff_toInt_le.mp (c243.1)
        have : (i).toInt ≤ 3 := Int32.le_iff_toInt_le.mp (c243.2)
        have : (i).toInt ≠ 0 := g_ne (c265)
        have : (i).toInt ≠ 1 := g_ne (c266)
        have : (i).toInt ≠ 2 := g_ne (c267)
        have : (i).toInt ≠ 3 := g_ne (c268)
        omega
      exfalso
      have : 0 ≤ (n).toInt := Int32.le_iff_toInt_le.mp (c242.1)
      have : (n).toInt ≤ 4 := Int32.le_iff_toInt_le.mp (c242.2)
      have : (n).toInt ≠ 0 := g_ne (c244)
      have : (n).toInt ≠ 1 := g_ne (c249)
      have : (n).toInt ≠ 2 := g_ne (c254)
      have : (n).toInt ≠ 3 := g_ne (c259)
      have : (n).toInt ≠ 4 := g_ne (c264)
      omega
    · have c243 := gB_z c243
      refine G_iconst (pc := 16) (v := (-1)) (by decide) dX12_ith_16 ?_
      exact G_iret (pc := 17) (Nat.le_of_ble_eq_true rfl) (Nat.le_of_ble_eq_true rfl) rfl dX12_ith_17 (by first | rfl | (simp [F_ith, *]; done) | (have : 0 ≤ (n).toInt := Int32.le_iff_toInt_le.mp (c242.1); have : (n).toInt ≤ 4 := Int32.le_iff_toInt_le.mp (c242.2); have : ¬ (0 ≤ (i).toInt ∧ (i).toInt ≤ 3) := fun z => c243 ⟨Int32.le_iff_toInt_le.mpr z.1, Int32.le_iff_toInt_le.mpr z.2⟩; simp only [F_ith, Int32.le_iff_toInt_le, Int32.lt_iff_toInt_lt, ← Int32.toInt_inj]; simp; omega) | (have : 0 ≤ (n).toInt := Int32.le_iff_toInt_le.mp (c242.1); have : (n).toInt ≤ 4 := Int32.le_iff_toInt_le.mp (c242.2); have : ¬ (0 ≤ (i).toInt ∧ (i).toInt ≤ 3) := fun z => c243 ⟨Int32.le_iff_toInt_le.mpr z.1, Int32.le_iff_toInt_le.mpr z.2⟩; simp only [F_ith, Int32.le_iff_toInt_le, Int32.lt_iff_toInt_lt, ← Int32.toInt_inj]; split <;> first | rfl | (exfalso; simp at *; omega)) | (have : 0 ≤ (n).toInt := Int32.le_iff_toInt_le.mp (c242.1); have : (n).toInt ≤ 4 := Int32.le_iff_toInt_le.mp (c242.2); have : ¬ (0 ≤ (i).toInt ∧ (i).toInt ≤ 3) := fun z => c243 ⟨Int32.le_iff_toInt_le.mpr z.1, Int32.le_iff_toInt_le.mpr z.2⟩; unfold F_ith; (repeat' split) <;> first | rfl | (exfalso; (try simp only [Int32.le_iff_toInt_le, Int32.lt_iff_toInt_lt, ← Int32.toInt_inj] at *); first | omega | (simp at *; done) | (simp at *; omega))))
set_option maxRecDepth 100000 in
set_option maxHeartbeats 4000000 in
theorem s10142_X12_isSet (J : gI) (d : Nat)  (a0 : Int32) : G (d + 1) mX12_isSet 0 0 0 0 0 (gent 2 [.ref 67, .int a0]) [] SH0 RF0 (gmx J) (fun r h => r = some (.int (gB (0 ≤ a0 ∧ a0 ≤ 0))) ∧ h = (SH0, RF0, (gmx J))) := by
  refine G_iload_n (pc := 0) rfl dX12_isSet_0 ?_
  refine G_iconst (pc := 1) (v := 0) (by decide) dX12_isSet_1 ?_
  refine G_iconst (pc := 2) (v := 1) (by decide) dX12_isSet_2 ?_
  refine G_aload_n (pc := 3) rfl dX12_isSet_3 ?_
  refine G_getR (pc := 4) (r := 68) (ci := 12) (j := 0) rfl lk_RX12_9 rfl rfl rfl dX12_isSet_4 ?_
  refine G_iconst (pc := 7) (v := 4) (by decide) dX12_isSet_7 ?_
  refine G_iald (pc := 8) (jj := 4) (v := 0) (by decide) rfl rfl (by unfold vp_in; decide) dX12_isSet_8 ?_
  refine G_ishl (pc := 9) (z := 1) (by decide) dX12_isSet_9 ?_
  refine G_iconst (pc := 10) (v := 1) (by decide) dX12_isSet_10 ?_
  refine G_isub (pc := 11) (z := 0) (by decide) dX12_isSet_11 ?_
  refine G_callS (pc := 12) (mc1 := 0) (ms1 := 0) (mj := mX12_in1) (vs := [_, _, _]) dX12_isSet_12 cm_X12_in1 wh_0 wh_3 rfl (Nat.le_of_ble_eq_true rfl) (Nat.le_of_ble_eq_true rfl) (Nat.le_of_ble_eq_true rfl) (Nat.le_of_ble_eq_true rfl) (in1_s d a0 0 0) ?_
  rintro _ _ ⟨rfl, rfl⟩
  dsimp only [Option.toList, List.cons_append, List.nil_append]
  exact G_zret (pc := 15) (Nat.le_of_ble_eq_true rfl) (Nat.le_of_ble_eq_true rfl) rfl gB_01 dX12_isSet_15 ⟨rfl, rfl⟩
set_option maxRecDepth 100000 in
set_option maxHeartbeats 4000000 in
theorem z_order (J : gI) (d : Nat) (n : Int32) (keys : Int32) : G (d + 8) mX12_order 0 0 0 0 0 (gent 3 [.ref 67, .int n, .int keys]) [] SH0 RF0 (gmx J) (fun r _ => r = some (.int (F_order n keys))) := by
  refine G_iload_n (pc := 0) rfl dX12_order_0 ?_
  refine G_callS (pc := 1) (mc1 := 0) (ms1 := 0) (mj := mX12_isPlan) (vs := [_]) dX12_order_1 cm_X12_isPlan wh_88 wh_90 rfl (Nat.le_of_ble_eq_true rfl) (Nat.le_of_ble_eq_true rfl) (Nat.le_of_ble_eq_true rfl) (Nat.le_of_ble_eq_true rfl) (s10087_X12_isPlan J (d + 6)  _) ?_
  rintro _ _ ⟨rfl, rfl⟩
  dsimp only [Option.toList, List.cons_append, List.nil_append]
  refine G_if_eq (pc := 4) (tgt := 15) (by decide) dX12_order_4 (fun c269 => ?_) (fun c269 => ?_)
  · have c269 := gB_z c269
    refine G_iconst (pc := 15) (v := (-1)) (by decide) dX12_order_15 ?_
    exact G_iret (pc := 16) (Nat.le_of_ble_eq_true rfl) (Nat.le_of_ble_eq_true rfl) rfl dX12_order_16 (by first | rfl | (simp [F_order, *]; done) | (have : ¬ (0 ≤ (n).toInt ∧ (n).toInt ≤ 4) := fun z => c269 ⟨Int32.le_iff_toInt_le.mpr z.1, Int32.le_iff_toInt_le.mpr z.2⟩; simp only [F_order, Int32.le_iff_toInt_le, Int32.lt_iff_toInt_lt, ← Int32.toInt_inj]; simp; omega) | (have : ¬ (0 ≤ (n).toInt ∧ (n).toInt ≤ 4) := fun z => c269 ⟨Int32.le_iff_toInt_le.mpr z.1, Int32.le_iff_toInt_le.mpr z.2⟩; simp only [F_order, Int32.le_iff_toInt_le, Int32.lt_iff_toInt_lt, ← Int32.toInt_inj]; split <;> first | rfl | (exfalso; simp at *; omega)) | (have : ¬ (0 ≤ (n).toInt ∧ (n).toInt ≤ 4) := fun z => c269 ⟨Int32.le_iff_toInt_le.mpr z.1, Int32.le_iff_toInt_le.mpr z.2⟩; unfold F_order; (repeat' split) <;> first | rfl | (exfalso; (try simp only [Int32.le_iff_toInt_le, Int32.lt_iff_toInt_lt, ← Int32.toInt_inj] at *); first | omega | (simp at *; done) | (simp at *; omega))))
  · have c269 := gB_o c269
    refine G_aload_n (pc := 7) rfl dX12_order_7 ?_
    refine G_iload_n (pc := 8) rfl dX12_order_8 ?_
    refine G_callV (pc := 9) (mc1 := 0) (ms1 := 0) (ci := 12) (mj := mX12_isSet) (vs := [_]) dX12_order_9 rfl rfl cm_X12_isSet wh_115 wh_117 wh_118 rfl (Nat.le_of_ble_eq_true rfl) (Nat.le_of_ble_eq_true rfl) (Nat.le_of_ble_eq_true rfl) (Nat.le_of_ble_eq_true rfl) (s10142_X12_isSet J (d + 6)  _) ?_
    rintro _ _ ⟨rfl, rfl⟩
    dsimp only [Option.toList, List.cons_append, List.nil_append]
    refine G_if_ne (pc := 12) (tgt := 17) (by decide) dX12_order_12 (fun c270 => ?_) (fun c270 => ?_)
    · have c270 := gB_o c270
      refine G_aload_n (pc := 17) rfl dX12_order_17 ?_
      refine G_iload_n (pc := 18) rfl dX12_order_18 ?_
      refine G_iload_n (pc := 19) rfl dX12_order_19 ?_
      by_cases c272 : n = 0
      · subst c272
        by_cases c274 : keys = 0
        · subst c274
          refine G_callV (pc := 20) (mc1 := 0) (ms1 := 0) (ci := 12) (mj := mX12_triesAll) (vs := [_, _]) dX12_order_20 rfl rfl cm_X12_triesAll wh_103 wh_105 wh_106 rfl (Nat.le_of_ble_eq_true rfl) (Nat.le_of_ble_eq_true rfl) (Nat.le_of_ble_eq_true rfl) (Nat.le_of_ble_eq_true rfl) (s10091_X12_triesAll J (d + 4)  ) ?_
          rintro _ _ ⟨rfl, rfl⟩
          dsimp only [Option.toList, List.cons_append, List.nil_append]
          refine G_aload_n (pc := 23) rfl dX12_order_23 ?_
          refine G_getI (pc := 24) (v := 0) (ci := 12) (j := 21) rfl rfl lk_RX12_265 rfl rfl dX12_order_24 ?_
          refine G_iconst (pc := 27) (v := 4) (by decide) dX12_order_27 ?_
          refine G_icmp_le (pc := 28) (tgt := 36) (by decide) dX12_order_28 (fun _ => ?_) (fun z => absurd (by decide) z)
          refine G_aload_n (pc := 36) rfl dX12_order_36 ?_
          refine G_getI (pc := 37) (v := 0) (ci := 12) (j := 21) rfl rfl lk_RX12_265 rfl rfl dX12_order_37 ?_
          exact G_iret (pc := 40) (Nat.le_of_ble_eq_true rfl) (Nat.le_of_ble_eq_true rfl) rfl dX12_order_40 (by first | rfl | (simp [F_order, *]; done) | (simp only [F_order, Int32.le_iff_toInt_le, Int32.lt_iff_toInt_lt, ← Int32.toInt_inj]; simp; omega) | (simp only [F_order, Int32.le_iff_toInt_le, Int32.lt_iff_toInt_lt, ← Int32.toInt_inj]; split <;> first | rfl | (exfalso; simp at *; omega)) | (unfold F_order; (repeat' split) <;> first | rfl | (exfalso; (try simp only [Int32.le_iff_toInt_le, Int32.lt_iff_toInt_lt, ← Int32.toInt_inj] at *); first | omega | (simp at *; done) | (simp at *; omega))))
        exfalso
        have : 0 ≤ (keys).toInt := Int32.le_iff_toInt_le.mp (c270.1)
        have : (keys).toInt ≤ 0 := Int32.le_iff_toInt_le.mp (c270.2)
        have : (keys).toInt ≠ 0 := g_ne (c274)
        omega
      by_cases c275 : n = 1
      · subst c275
        by_cases c277 : keys = 0
        · subst c277
          refine G_callV (pc := 20) (mc1 := 0) (ms1 := 0) (ci := 12) (mj := mX12_triesAll) (vs := [_, _]) dX12_order_20 rfl rfl cm_X12_triesAll wh_103 wh_105 wh_106 rfl (Nat.le_of_ble_eq_true rfl) (Nat.le_of_ble_eq_true rfl) (Nat.le_of_ble_eq_true rfl) (Nat.le_of_ble_eq_true rfl) (s10096_X12_triesAll J (d + 3)  ) ?_
          rintro _ _ ⟨rfl, rfl⟩
          dsimp only [Option.toList, List.cons_append, List.nil_append]
          refine G_aload_n (pc := 23) rfl dX12_order_23 ?_
          refine G_getI (pc := 24) (v := 0) (ci := 12) (j := 21) rfl rfl lk_RX12_265 rfl rfl dX12_order_24 ?_
          refine G_iconst (pc := 27) (v := 4) (by decide) dX12_order_27 ?_
          refine G_icmp_le (pc := 28) (tgt := 36) (by decide) dX12_order_28 (fun _ => ?_) (fun z => absurd (by decide) z)
          refine G_aload_n (pc := 36) rfl dX12_order_36 ?_
          refine G_getI (pc := 37) (v := 0) (ci := 12) (j := 21) rfl rfl lk_RX12_265 rfl rfl dX12_order_37 ?_
          exact G_iret (pc := 40) (Nat.le_of_ble_eq_true rfl) (Nat.le_of_ble_eq_true rfl) rfl dX12_order_40 (by first | rfl | (simp [F_order, *]; done) | (simp only [F_order, Int32.le_iff_toInt_le, Int32.lt_iff_toInt_lt, ← Int32.toInt_inj]; simp; omega) | (simp only [F_order, Int32.le_iff_toInt_le, Int32.lt_iff_toInt_lt, ← Int32.toInt_inj]; split <;> first | rfl | (exfalso; simp at *; omega)) | (unfold F_order; (repeat' split) <;> first | rfl | (exfalso; (try simp only [Int32.le_iff_toInt_le, Int32.lt_iff_toInt_lt, ← Int32.toInt_inj] at *); first | omega | (simp at *; done) | (simp at *; omega))))
        exfalso
        have : 0 ≤ (keys).toInt := Int32.le_iff_toInt_le.mp (c270.1)
        have : (keys).toInt ≤ 0 := Int32.le_iff_toInt_le.mp (c270.2)
        have : (keys).toInt ≠ 0 := g_ne (c277)
        omega
      by_cases c278 : n = 2
      · subst c278
        by_cases c280 : keys = 0
        · subst c280
          refine G_callV (pc := 20) (mc1 := 0) (ms1 := 0) (ci := 12) (mj := mX12_triesAll) (vs := [_, _]) dX12_order_20 rfl rfl cm_X12_triesAll wh_103 wh_105 wh_106 rfl (Nat.le_of_ble_eq_true rfl) (Nat.le_of_ble_eq_true rfl) (Nat.le_of_ble_eq_true rfl) (Nat.le_of_ble_eq_true rfl) (s10103_X12_triesAll J (d + 2)  ) ?_
          rintro _ _ ⟨rfl, rfl⟩
          dsimp only [Option.toList, List.cons_append, List.nil_append]
          refine G_aload_n (pc := 23) rfl dX12_order_23 ?_
          refine G_getI (pc := 24) (v := 0) (ci := 12) (j := 21) rfl rfl lk_RX12_265 rfl rfl dX12_order_24 ?_
          refine G_iconst (pc := 27) (v := 4) (by decide) dX12_order_27 ?_
          refine G_icmp_le (pc := 28) (tgt := 36) (by decide) dX12_order_28 (fun _ => ?_) (fun z => absurd (by decide) z)
          refine G_aload_n (pc := 36) rfl dX12_order_36 ?_
          refine G_getI (pc := 37) (v := 0) (ci := 12) (j := 21) rfl rfl lk_RX12_265 rfl rfl dX12_order_37 ?_
          exact G_iret (pc := 40) (Nat.le_of_ble_eq_true rfl) (Nat.le_of_ble_eq_true rfl) rfl dX12_order_40 (by first | rfl | (simp [F_order, *]; done) | (simp only [F_order, Int32.le_iff_toInt_le, Int32.lt_iff_toInt_lt, ← Int32.toInt_inj]; simp; omega) | (simp only [F_order, Int32.le_iff_toInt_le, Int32.lt_iff_toInt_lt, ← Int32.toInt_inj]; split <;> first | rfl | (exfalso; simp at *; omega)) | (unfold F_order; (repeat' split) <;> first | rfl | (exfalso; (try simp only [Int32.le_iff_toInt_le, Int32.lt_iff_toInt_lt, ← Int32.toInt_inj] at *); first | omega | (simp at *; done) | (simp at *; omega))))
        exfalso
        have : 0 ≤ (keys).toInt := Int32.le_iff_toInt_le.mp (c270.1)
        have : (keys).toInt ≤ 0 := Int32.le_iff_toInt_le.mp (c270.2)
        have : (keys).toInt ≠ 0 := g_ne (c280)
        omega
      by_cases c281 : n = 3
      · subst c281
        by_cases c283 : keys = 0
        · subst c283
          refine G_callV (pc := 20) (mc1 := 0) (ms1 := 0) (ci := 12) (mj := mX12_triesAll) (vs := [_, _]) dX12_order_20 rfl rfl cm_X12_triesAll wh_103 wh_105 wh_106 rfl (Nat.le_of_ble_eq_true rfl) (Nat.le_of_ble_eq_true rfl) (Nat.le_of_ble_eq_true rfl) (Nat.le_of_ble_eq_true rfl) (s10111_X12_triesAll J (d + 1)  ) ?_
          rintro _ _ ⟨rfl, rfl⟩
          dsimp only [Option.toList, List.cons_append, List.nil_append]
          refine G_aload_n (pc := 23) rfl dX12_order_23 ?_
          refine G_getI (pc := 24) (v := 0) (ci := 12) (j := 21) rfl rfl lk_RX12_265 rfl rfl dX12_order_24 ?_
          refine G_iconst (pc := 27) (v := 4) (by decide) dX12_order_27 ?_
          refine G_icmp_le (pc := 28) (tgt := 36) (by decide) dX12_order_28 (fun _ => ?_) (fun z => absurd (by decide) z)
          refine G_aload_n (pc := 36) rfl dX12_order_36 ?_
          refine G_getI (pc := 37) (v := 0) (ci := 12) (j := 21) rfl rfl lk_RX12_265 rfl rfl dX12_order_37 ?_
          exact G_iret (pc := 40) (Nat.le_of_ble_eq_true rfl) (Nat.le_of_ble_eq_true rfl) rfl dX12_order_40 (by first | rfl | (simp [F_order, *]; done) | (simp only [F_order, Int32.le_iff_toInt_le, Int32.lt_iff_toInt_lt, ← Int32.toInt_inj]; simp; omega) | (simp only [F_order, Int32.le_iff_toInt_le, Int32.lt_iff_toInt_lt, ← Int32.toInt_inj]; split <;> first | rfl | (exfalso; simp at *; omega)) | (unfold F_order; (repeat' split) <;> first | rfl | (exfalso; (try simp only [Int32.le_iff_toInt_le, Int32.lt_iff_toInt_lt, ← Int32.toInt_inj] at *); first | omega | (simp at *; done) | (simp at *; omega))))
        exfalso
        have : 0 ≤ (keys).toInt := Int32.le_iff_toInt_le.mp (c270.1)
        have : (keys).toInt ≤ 0 := Int32.le_iff_toInt_le.mp (c270.2)
        have : (keys).toInt ≠ 0 := g_ne (c283)
        omega
      by_cases c284 : n = 4
      · subst c284
        by_cases c286 : keys = 0
        · subst c286
          refine G_callV (pc := 20) (mc1 := 0) (ms1 := 0) (ci := 12) (mj := mX12_triesAll) (vs := [_, _]) dX12_order_20 rfl rfl cm_X12_triesAll wh_103 wh_105 wh_106 rfl (Nat.le_of_ble_eq_true rfl) (Nat.le_of_ble_eq_true rfl) (Nat.le_of_ble_eq_true rfl) (Nat.le_of_ble_eq_true rfl) (s10120_X12_triesAll J d  ) ?_
          rintro _ _ ⟨rfl, rfl⟩
          dsimp only [Option.toList, List.cons_append, List.nil_append]
          refine G_aload_n (pc := 23) rfl dX12_order_23 ?_
          refine G_getI (pc := 24) (v := 0) (ci := 12) (j := 21) rfl rfl lk_RX12_265 rfl rfl dX12_order_24 ?_
          refine G_iconst (pc := 27) (v := 4) (by decide) dX12_order_27 ?_
          refine G_icmp_le (pc := 28) (tgt := 36) (by decide) dX12_order_28 (fun _ => ?_) (fun z => absurd (by decide) z)
          refine G_aload_n (pc := 36) rfl dX12_order_36 ?_
          refine G_getI (pc := 37) (v := 0) (ci := 12) (j := 21) rfl rfl lk_RX12_265 rfl rfl dX12_order_37 ?_
          exact G_iret (pc := 40) (Nat.le_of_ble_eq_true rfl) (Nat.le_of_ble_eq_true rfl) rfl dX12_order_40 (by first | rfl | (simp [F_order, *]; done) | (simp only [F_order, Int32.le_iff_toInt_le, Int32.lt_iff_toInt_lt, ← Int32.toInt_inj]; simp; omega) | (simp only [F_order, Int32.le_iff_toInt_le, Int32.lt_iff_toInt_lt, ← Int32.toInt_inj]; split <;> first | rfl | (exfalso; simp at *; omega)) | (unfold F_order; (repeat' split) <;> first | rfl | (exfalso; (try simp only [Int32.le_iff_toInt_le, Int32.lt_iff_toInt_lt, ← Int32.toInt_inj] at *); first | omega | (simp at *; done) | (simp at *; omega))))
        exfalso
        have : 0 ≤ (keys).toInt := Int32.le_iff_toInt_le.mp (c270.1)
        have : (keys).toInt ≤ 0 := Int32.le_iff_toInt_le.mp (c270.2)
        have : (keys).toInt ≠ 0 := g_ne (c286)
        omega
      exfalso
      have : 0 ≤ (n).toInt := Int32.le_iff_toInt_le.mp (c269.1)
      have : (n).toInt ≤ 4 := Int32.le_iff_toInt_le.mp (c269.2)
      have : (n).toInt ≠ 0 := g_ne (c272)
      have : (n).toInt ≠ 1 := g_ne (c275)
      have : (n).toInt ≠ 2 := g_ne (c278)
      have : (n).toInt ≠ 3 := g_ne (c281)
      have : (n).toInt ≠ 4 := g_ne (c284)
      omega
    · have c270 := gB_z c270
      refine G_iconst (pc := 15) (v := (-1)) (by decide) dX12_order_15 ?_
      exact G_iret (pc := 16) (Nat.le_of_ble_eq_true rfl) (Nat.le_of_ble_eq_true rfl) rfl dX12_order_16 (by first | rfl | (simp [F_order, *]; done) | (have : 0 ≤ (n).toInt := Int32.le_iff_toInt_le.mp (c269.1); have : (n).toInt ≤ 4 := Int32.le_iff_toInt_le.mp (c269.2); have : ¬ (0 ≤ (keys).toInt ∧ (keys).toInt ≤ 0) := fun z => c270 ⟨Int32.le_iff_toInt_le.mpr z.1, Int32.le_iff_toInt_le.mpr z.2⟩; simp only [F_order, Int32.le_iff_toInt_le, Int32.lt_iff_toInt_lt, ← Int32.toInt_inj]; simp; omega) | (have : 0 ≤ (n).toInt := Int32.le_iff_toInt_le.mp (c269.1); have : (n).toInt ≤ 4 := Int32.le_iff_toInt_le.mp (c269.2); have : ¬ (0 ≤ (keys).toInt ∧ (keys).toInt ≤ 0) := fun z => c270 ⟨Int32.le_iff_toInt_le.mpr z.1, Int32.le_iff_toInt_le.mpr z.2⟩; simp only [F_order, Int32.le_iff_toInt_le, Int32.lt_iff_toInt_lt, ← Int32.toInt_inj]; split <;> first | rfl | (exfalso; simp at *; omega)) | (have : 0 ≤ (n).toInt := Int32.le_iff_toInt_le.mp (c269.1); have : (n).toInt ≤ 4 := Int32.le_iff_toInt_le.mp (c269.2); have : ¬ (0 ≤ (keys).toInt ∧ (keys).toInt ≤ 0) := fun z => c270 ⟨Int32.le_iff_toInt_le.mpr z.1, Int32.le_iff_toInt_le.mpr z.2⟩; unfold F_order; (repeat' split) <;> first | rfl | (exfalso; (try simp only [Int32.le_iff_toInt_le, Int32.lt_iff_toInt_lt, ← Int32.toInt_inj] at *); first | omega | (simp at *; done) | (simp at *; omega))))
set_option maxRecDepth 100000 in
set_option maxHeartbeats 4000000 in
theorem z_bars (J : gI) (d : Nat) (n : Int32) (keys : Int32) : G (d + 8) mX12_bars 0 0 0 0 0 (gent 5 [.ref 67, .int n, .int keys]) [] SH0 RF0 (gmx J) (fun r _ => r = some (.int (F_bars n keys))) := by
  refine G_iload_n (pc := 0) rfl dX12_bars_0 ?_
  refine G_callS (pc := 1) (mc1 := 0) (ms1 := 0) (mj := mX12_isPlan) (vs := [_]) dX12_bars_1 cm_X12_isPlan wh_88 wh_90 rfl (Nat.le_of_ble_eq_true rfl) (Nat.le_of_ble_eq_true rfl) (Nat.le_of_ble_eq_true rfl) (Nat.le_of_ble_eq_true rfl) (s10087_X12_isPlan J (d + 6)  _) ?_
  rintro _ _ ⟨rfl, rfl⟩
  dsimp only [Option.toList, List.cons_append, List.nil_append]
  refine G_if_eq (pc := 4) (tgt := 15) (by decide) dX12_bars_4 (fun c287 => ?_) (fun c287 => ?_)
  · have c287 := gB_z c287
    refine G_iconst (pc := 15) (v := (-1)) (by decide) dX12_bars_15 ?_
    exact G_iret (pc := 16) (Nat.le_of_ble_eq_true rfl) (Nat.le_of_ble_eq_true rfl) rfl dX12_bars_16 (by first | rfl | (simp [F_bars, *]; done) | (have : ¬ (0 ≤ (n).toInt ∧ (n).toInt ≤ 4) := fun z => c287 ⟨Int32.le_iff_toInt_le.mpr z.1, Int32.le_iff_toInt_le.mpr z.2⟩; simp only [F_bars, Int32.le_iff_toInt_le, Int32.lt_iff_toInt_lt, ← Int32.toInt_inj]; simp; omega) | (have : ¬ (0 ≤ (n).toInt ∧ (n).toInt ≤ 4) := fun z => c287 ⟨Int32.le_iff_toInt_le.mpr z.1, Int32.le_iff_toInt_le.mpr z.2⟩; simp only [F_bars, Int32.le_iff_toInt_le, Int32.lt_iff_toInt_lt, ← Int32.toInt_inj]; split <;> first | rfl | (exfalso; simp at *; omega)) | (have : ¬ (0 ≤ (n).toInt ∧ (n).toInt ≤ 4) := fun z => c287 ⟨Int32.le_iff_toInt_le.mpr z.1, Int32.le_iff_toInt_le.mpr z.2⟩; unfold F_bars; (repeat' split) <;> first | rfl | (exfalso; (try simp only [Int32.le_iff_toInt_le, Int32.lt_iff_toInt_lt, ← Int32.toInt_inj] at *); first | omega | (simp at *; done) | (simp at *; omega))))
  · have c287 := gB_o c287
    refine G_aload_n (pc := 7) rfl dX12_bars_7 ?_
    refine G_iload_n (pc := 8) rfl dX12_bars_8 ?_
    refine G_callV (pc := 9) (mc1 := 0) (ms1 := 0) (ci := 12) (mj := mX12_isSet) (vs := [_]) dX12_bars_9 rfl rfl cm_X12_isSet wh_115 wh_117 wh_118 rfl (Nat.le_of_ble_eq_true rfl) (Nat.le_of_ble_eq_true rfl) (Nat.le_of_ble_eq_true rfl) (Nat.le_of_ble_eq_true rfl) (s10142_X12_isSet J (d + 6)  _) ?_
    rintro _ _ ⟨rfl, rfl⟩
    dsimp only [Option.toList, List.cons_append, List.nil_append]
    refine G_if_ne (pc := 12) (tgt := 17) (by decide) dX12_bars_12 (fun c288 => ?_) (fun c288 => ?_)
    · have c288 := gB_o c288
      refine G_aload_n (pc := 17) rfl dX12_bars_17 ?_
      refine G_iload_n (pc := 18) rfl dX12_bars_18 ?_
      refine G_iload_n (pc := 19) rfl dX12_bars_19 ?_
      by_cases c290 : n = 0
      · subst c290
        by_cases c292 : keys = 0
        · subst c292
          refine G_callV (pc := 20) (mc1 := 0) (ms1 := 0) (ci := 12) (mj := mX12_triesAll) (vs := [_, _]) dX12_bars_20 rfl rfl cm_X12_triesAll wh_103 wh_105 wh_106 rfl (Nat.le_of_ble_eq_true rfl) (Nat.le_of_ble_eq_true rfl) (Nat.le_of_ble_eq_true rfl) (Nat.le_of_ble_eq_true rfl) (s10091_X12_triesAll J (d + 4)  ) ?_
          rintro _ _ ⟨rfl, rfl⟩
          dsimp only [Option.toList, List.cons_append, List.nil_append]
          refine G_iload_n (pc := 23) rfl dX12_bars_23 ?_
          refine G_aload_n (pc := 24) rfl dX12_bars_24 ?_
          refine G_getI (pc := 25) (v := 0) (ci := 12) (j := 22) rfl rfl lk_RX12_268 rfl rfl dX12_bars_25 ?_
          refine G_iconst (pc := 28) (v := (-1)) (by decide) dX12_bars_28 ?_
          refine G_ixor (pc := 29) (z := (-1)) (by decide) dX12_bars_29 ?_
          refine G_iand (pc := 30) (z := 0) (by decide) dX12_bars_30 ?_
          refine G_istore_n (pc := 31) (L1 := [some (.ref 67), some (.int 0), some (.int 0), some (.int 0), none]) rfl rfl (by decide) dX12_bars_31 ?_
          refine G_iconst (pc := 32) (v := 0) (by decide) dX12_bars_32 ?_
          refine G_istore (pc := 33) (L1 := [some (.ref 67), some (.int 0), some (.int 0), some (.int 0), some (.int 0)]) rfl rfl (by decide) dX12_bars_33 ?_
          refine G_iload (pc := 35) rfl dX12_bars_35 ?_
          refine G_aload_n (pc := 37) rfl dX12_bars_37 ?_
          refine G_getR (pc := 38) (r := 68) (ci := 12) (j := 0) rfl lk_RX12_9 rfl rfl rfl dX12_bars_38 ?_
          refine G_iconst (pc := 41) (v := 4) (by decide) dX12_bars_41 ?_
          refine G_iald (pc := 42) (jj := 4) (v := 0) (by decide) rfl rfl (by unfold vp_in; decide) dX12_bars_42 ?_
          refine G_icmp_ge (pc := 43) (tgt := 61) (by decide) dX12_bars_43 (fun _ => ?_) (fun z => absurd (by decide) z)
          refine G_iload (pc := 61) rfl dX12_bars_61 ?_
          refine G_aload_n (pc := 63) rfl dX12_bars_63 ?_
          refine G_getR (pc := 64) (r := 68) (ci := 12) (j := 0) rfl lk_RX12_9 rfl rfl rfl dX12_bars_64 ?_
          refine G_iconst (pc := 67) (v := 4) (by decide) dX12_bars_67 ?_
          refine G_iald (pc := 68) (jj := 4) (v := 0) (by decide) rfl rfl (by unfold vp_in; decide) dX12_bars_68 ?_
          refine G_icmp_ge (pc := 69) (tgt := 77) (by decide) dX12_bars_69 (fun _ => ?_) (fun z => absurd (by decide) z)
          refine G_bipush (pc := 77) (v := (-3)) (by decide) dX12_bars_77 ?_
          exact G_iret (pc := 79) (Nat.le_of_ble_eq_true rfl) (Nat.le_of_ble_eq_true rfl) rfl dX12_bars_79 (by first | rfl | (simp [F_bars, *]; done) | (simp only [F_bars, Int32.le_iff_toInt_le, Int32.lt_iff_toInt_lt, ← Int32.toInt_inj]; simp; omega) | (simp only [F_bars, Int32.le_iff_toInt_le, Int32.lt_iff_toInt_lt, ← Int32.toInt_inj]; split <;> first | rfl | (exfalso; simp at *; omega)) | (unfold F_bars; (repeat' split) <;> first | rfl | (exfalso; (try simp only [Int32.le_iff_toInt_le, Int32.lt_iff_toInt_lt, ← Int32.toInt_inj] at *); first | omega | (simp at *; done) | (simp at *; omega))))
        exfalso
        have : 0 ≤ (keys).toInt := Int32.le_iff_toInt_le.mp (c288.1)
        have : (keys).toInt ≤ 0 := Int32.le_iff_toInt_le.mp (c288.2)
        have : (keys).toInt ≠ 0 := g_ne (c292)
        omega
      by_cases c293 : n = 1
      · subst c293
        by_cases c295 : keys = 0
        · subst c295
          refine G_callV (pc := 20) (mc1 := 0) (ms1 := 0) (ci := 12) (mj := mX12_triesAll) (vs := [_, _]) dX12_bars_20 rfl rfl cm_X12_triesAll wh_103 wh_105 wh_106 rfl (Nat.le_of_ble_eq_true rfl) (Nat.le_of_ble_eq_true rfl) (Nat.le_of_ble_eq_true rfl) (Nat.le_of_ble_eq_true rfl) (s10096_X12_triesAll J (d + 3)  ) ?_
          rintro _ _ ⟨rfl, rfl⟩
          dsimp only [Option.toList, List.cons_append, List.nil_append]
          refine G_iload_n (pc := 23) rfl dX12_bars_23 ?_
          refine G_aload_n (pc := 24) rfl dX12_bars_24 ?_
          refine G_getI (pc := 25) (v := 0) (ci := 12) (j := 22) rfl rfl lk_RX12_268 rfl rfl dX12_bars_25 ?_
          refine G_iconst (pc := 28) (v := (-1)) (by decide) dX12_bars_28 ?_
          refine G_ixor (pc := 29) (z := (-1)) (by decide) dX12_bars_29 ?_
          refine G_iand (pc := 30) (z := 0) (by decide) dX12_bars_30 ?_
          refine G_istore_n (pc := 31) (L1 := [some (.ref 67), some (.int 1), some (.int 0), some (.int 0), none]) rfl rfl (by decide) dX12_bars_31 ?_
          refine G_iconst (pc := 32) (v := 0) (by decide) dX12_bars_32 ?_
          refine G_istore (pc := 33) (L1 := [some (.ref 67), some (.int 1), some (.int 0), some (.int 0), some (.int 0)]) rfl rfl (by decide) dX12_bars_33 ?_
          refine G_iload (pc := 35) rfl dX12_bars_35 ?_
          refine G_aload_n (pc := 37) rfl dX12_bars_37 ?_
          refine G_getR (pc := 38) (r := 68) (ci := 12) (j := 0) rfl lk_RX12_9 rfl rfl rfl dX12_bars_38 ?_
          refine G_iconst (pc := 41) (v := 4) (by decide) dX12_bars_41 ?_
          refine G_iald (pc := 42) (jj := 4) (v := 0) (by decide) rfl rfl (by unfold vp_in; decide) dX12_bars_42 ?_
          refine G_icmp_ge (pc := 43) (tgt := 61) (by decide) dX12_bars_43 (fun _ => ?_) (fun z => absurd (by decide) z)
          refine G_iload (pc := 61) rfl dX12_bars_61 ?_
          refine G_aload_n (pc := 63) rfl dX12_bars_63 ?_
          refine G_getR (pc := 64) (r := 68) (ci := 12) (j := 0) rfl lk_RX12_9 rfl rfl rfl dX12_bars_64 ?_
          refine G_iconst (pc := 67) (v := 4) (by decide) dX12_bars_67 ?_
          refine G_iald (pc := 68) (jj := 4) (v := 0) (by decide) rfl rfl (by unfold vp_in; decide) dX12_bars_68 ?_
          refine G_icmp_ge (pc := 69) (tgt := 77) (by decide) dX12_bars_69 (fun _ => ?_) (fun z => absurd (by decide) z)
          refine G_bipush (pc := 77) (v := (-3)) (by decide) dX12_bars_77 ?_
          exact G_iret (pc := 79) (Nat.le_of_ble_eq_true rfl) (Nat.le_of_ble_eq_true rfl) rfl dX12_bars_79 (by first | rfl | (simp [F_bars, *]; done) | (simp only [F_bars, Int32.le_iff_toInt_le, Int32.lt_iff_toInt_lt, ← Int32.toInt_inj]; simp; omega) | (simp only [F_bars, Int32.le_iff_toInt_le, Int32.lt_iff_toInt_lt, ← Int32.toInt_inj]; split <;> first | rfl | (exfalso; simp at *; omega)) | (unfold F_bars; (repeat' split) <;> first | rfl | (exfalso; (try simp only [Int32.le_iff_toInt_le, Int32.lt_iff_toInt_lt, ← Int32.toInt_inj] at *); first | omega | (simp at *; done) | (simp at *; omega))))
        exfalso
        have : 0 ≤ (keys).toInt := Int32.le_iff_toInt_le.mp (c288.1)
        have : (keys).toInt ≤ 0 := Int32.le_iff_toInt_le.mp (c288.2)
        have : (keys).toInt ≠ 0 := g_ne (c295)
        omega
      by_cases c296 : n = 2
      · subst c296
        by_cases c298 : keys = 0
        · subst c298
          refine G_callV (pc := 20) (mc1 := 0) (ms1 := 0) (ci := 12) (mj := mX12_triesAll) (vs := [_, _]) dX12_bars_20 rfl rfl cm_X12_triesAll wh_103 wh_105 wh_106 rfl (Nat.le_of_ble_eq_true rfl) (Nat.le_of_ble_eq_true rfl) (Nat.le_of_ble_eq_true rfl) (Nat.le_of_ble_eq_true rfl) (s10103_X12_triesAll J (d + 2)  ) ?_
          rintro _ _ ⟨rfl, rfl⟩
          dsimp only [Option.toList, List.cons_append, List.nil_append]
          refine G_iload_n (pc := 23) rfl dX12_bars_23 ?_
          refine G_aload_n (pc := 24) rfl dX12_bars_24 ?_
          refine G_getI (pc := 25) (v := 0) (ci := 12) (j := 22) rfl rfl lk_RX12_268 rfl rfl dX12_bars_25 ?_
          refine G_iconst (pc := 28) (v := (-1)) (by decide) dX12_bars_28 ?_
          refine G_ixor (pc := 29) (z := (-1)) (by decide) dX12_bars_29 ?_
          refine G_iand (pc := 30) (z := 0) (by decide) dX12_bars_30 ?_
          refine G_istore_n (pc := 31) (L1 := [some (.ref 67), some (.int 2), some (.int 0), some (.int 0), none]) rfl rfl (by decide) dX12_bars_31 ?_
          refine G_iconst (pc := 32) (v := 0) (by decide) dX12_bars_32 ?_
          refine G_istore (pc := 33) (L1 := [some (.ref 67), some (.int 2), some (.int 0), some (.int 0), some (.int 0)]) rfl rfl (by decide) dX12_bars_33 ?_
          refine G_iload (pc := 35) rfl dX12_bars_35 ?_
          refine G_aload_n (pc := 37) rfl dX12_bars_37 ?_
          refine G_getR (pc := 38) (r := 68) (ci := 12) (j := 0) rfl lk_RX12_9 rfl rfl rfl dX12_bars_38 ?_
          refine G_iconst (pc := 41) (v := 4) (by decide) dX12_bars_41 ?_
          refine G_iald (pc := 42) (jj := 4) (v := 0) (by decide) rfl rfl (by unfold vp_in; decide) dX12_bars_42 ?_
          refine G_icmp_ge (pc := 43) (tgt := 61) (by decide) dX12_bars_43 (fun _ => ?_) (fun z => absurd (by decide) z)
          refine G_iload (pc := 61) rfl dX12_bars_61 ?_
          refine G_aload_n (pc := 63) rfl dX12_bars_63 ?_
          refine G_getR (pc := 64) (r := 68) (ci := 12) (j := 0) rfl lk_RX12_9 rfl rfl rfl dX12_bars_64 ?_
          refine G_iconst (pc := 67) (v := 4) (by decide) dX12_bars_67 ?_
          refine G_iald (pc := 68) (jj := 4) (v := 0) (by decide) rfl rfl (by unfold vp_in; decide) dX12_bars_68 ?_
          refine G_icmp_ge (pc := 69) (tgt := 77) (by decide) dX12_bars_69 (fun _ => ?_) (fun z => absurd (by decide) z)
          refine G_bipush (pc := 77) (v := (-3)) (by decide) dX12_bars_77 ?_
          exact G_iret (pc := 79) (Nat.le_of_ble_eq_true rfl) (Nat.le_of_ble_eq_true rfl) rfl dX12_bars_79 (by first | rfl | (simp [F_bars, *]; done) | (simp only [F_bars, Int32.le_iff_toInt_le, Int32.lt_iff_toInt_lt, ← Int32.toInt_inj]; simp; omega) | (simp only [F_bars, Int32.le_iff_toInt_le, Int32.lt_iff_toInt_lt, ← Int32.toInt_inj]; split <;> first | rfl | (exfalso; simp at *; omega)) | (unfold F_bars; (repeat' split) <;> first | rfl | (exfalso; (try simp only [Int32.le_iff_toInt_le, Int32.lt_iff_toInt_lt, ← Int32.toInt_inj] at *); first | omega | (simp at *; done) | (simp at *; omega))))
        exfalso
        have : 0 ≤ (keys).toInt := Int32.le_iff_toInt_le.mp (c288.1)
        have : (keys).toInt ≤ 0 := Int32.le_iff_toInt_le.mp (c288.2)
        have : (keys).toInt ≠ 0 := g_ne (c298)
        omega
      by_cases c299 : n = 3
      · subst c299
        by_cases c301 : keys = 0
        · subst c301
          refine G_callV (pc := 20) (mc1 := 0) (ms1 := 0) (ci := 12) (mj := mX12_triesAll) (vs := [_, _]) dX12_bars_20 rfl rfl cm_X12_triesAll wh_103 wh_105 wh_106 rfl (Nat.le_of_ble_eq_true rfl) (Nat.le_of_ble_eq_true rfl) (Nat.le_of_ble_eq_true rfl) (Nat.le_of_ble_eq_true rfl) (s10111_X12_triesAll J (d + 1)  ) ?_
          rintro _ _ ⟨rfl, rfl⟩
          dsimp only [Option.toList, List.cons_append, List.nil_append]
          refine G_iload_n (pc := 23) rfl dX12_bars_23 ?_
          refine G_aload_n (pc := 24) rfl dX12_bars_24 ?_
          refine G_getI (pc := 25) (v := 0) (ci := 12) (j := 22) rfl rfl lk_RX12_268 rfl rfl dX12_bars_25 ?_
          refine G_iconst (pc := 28) (v := (-1)) (by decide) dX12_bars_28 ?_
          refine G_ixor (pc := 29) (z := (-1)) (by decide) dX12_bars_29 ?_
          refine G_iand (pc := 30) (z := 0) (by decide) dX12_bars_30 ?_
          refine G_istore_n (pc := 31) (L1 := [some (.ref 67), some (.int 3), some (.int 0), some (.int 0), none]) rfl rfl (by decide) dX12_bars_31 ?_
          refine G_iconst (pc := 32) (v := 0) (by decide) dX12_bars_32 ?_
          refine G_istore (pc := 33) (L1 := [some (.ref 67), some (.int 3), some (.int 0), some (.int 0), some (.int 0)]) rfl rfl (by decide) dX12_bars_33 ?_
          refine G_iload (pc := 35) rfl dX12_bars_35 ?_
          refine G_aload_n (pc := 37) rfl dX12_bars_37 ?_
          refine G_getR (pc := 38) (r := 68) (ci := 12) (j := 0) rfl lk_RX12_9 rfl rfl rfl dX12_bars_38 ?_
          refine G_iconst (pc := 41) (v := 4) (by decide) dX12_bars_41 ?_
          refine G_iald (pc := 42) (jj := 4) (v := 0) (by decide) rfl rfl (by unfold vp_in; decide) dX12_bars_42 ?_
          refine G_icmp_ge (pc := 43) (tgt := 61) (by decide) dX12_bars_43 (fun _ => ?_) (fun z => absurd (by decide) z)
          refine G_iload (pc := 61) rfl dX12_bars_61 ?_
          refine G_aload_n (pc := 63) rfl dX12_bars_63 ?_
          refine G_getR (pc := 64) (r := 68) (ci := 12) (j := 0) rfl lk_RX12_9 rfl rfl rfl dX12_bars_64 ?_
          refine G_iconst (pc := 67) (v := 4) (by decide) dX12_bars_67 ?_
          refine G_iald (pc := 68) (jj := 4) (v := 0) (by decide) rfl rfl (by unfold vp_in; decide) dX12_bars_68 ?_
          refine G_icmp_ge (pc := 69) (tgt := 77) (by decide) dX12_bars_69 (fun _ => ?_) (fun z => absurd (by decide) z)
          refine G_bipush (pc := 77) (v := (-3)) (by decide) dX12_bars_77 ?_
          exact G_iret (pc := 79) (Nat.le_of_ble_eq_true rfl) (Nat.le_of_ble_eq_true rfl) rfl dX12_bars_79 (by first | rfl | (simp [F_bars, *]; done) | (simp only [F_bars, Int32.le_iff_toInt_le, Int32.lt_iff_toInt_lt, ← Int32.toInt_inj]; simp; omega) | (simp only [F_bars, Int32.le_iff_toInt_le, Int32.lt_iff_toInt_lt, ← Int32.toInt_inj]; split <;> first | rfl | (exfalso; simp at *; omega)) | (unfold F_bars; (repeat' split) <;> first | rfl | (exfalso; (try simp only [Int32.le_iff_toInt_le, Int32.lt_iff_toInt_lt, ← Int32.toInt_inj] at *); first | omega | (simp at *; done) | (simp at *; omega))))
        exfalso
        have : 0 ≤ (keys).toInt := Int32.le_iff_toInt_le.mp (c288.1)
        have : (keys).toInt ≤ 0 := Int32.le_iff_toInt_le.mp (c288.2)
        have : (keys).toInt ≠ 0 := g_ne (c301)
        omega
      by_cases c302 : n = 4
      · subst c302
        by_cases c304 : keys = 0
        · subst c304
          refine G_callV (pc := 20) (mc1 := 0) (ms1 := 0) (ci := 12) (mj := mX12_triesAll) (vs := [_, _]) dX12_bars_20 rfl rfl cm_X12_triesAll wh_103 wh_105 wh_106 rfl (Nat.le_of_ble_eq_true rfl) (Nat.le_of_ble_eq_true rfl) (Nat.le_of_ble_eq_true rfl) (Nat.le_of_ble_eq_true rfl) (s10120_X12_triesAll J d  ) ?_
          rintro _ _ ⟨rfl, rfl⟩
          dsimp only [Option.toList, List.cons_append, List.nil_append]
          refine G_iload_n (pc := 23) rfl dX12_bars_23 ?_
          refine G_aload_n (pc := 24) rfl dX12_bars_24 ?_
          refine G_getI (pc := 25) (v := 0) (ci := 12) (j := 22) rfl rfl lk_RX12_268 rfl rfl dX12_bars_25 ?_
          refine G_iconst (pc := 28) (v := (-1)) (by decide) dX12_bars_28 ?_
          refine G_ixor (pc := 29) (z := (-1)) (by decide) dX12_bars_29 ?_
          refine G_iand (pc := 30) (z := 0) (by decide) dX12_bars_30 ?_
          refine G_istore_n (pc := 31) (L1 := [some (.ref 67), some (.int 4), some (.int 0), some (.int 0), none]) rfl rfl (by decide) dX12_bars_31 ?_
          refine G_iconst (pc := 32) (v := 0) (by decide) dX12_bars_32 ?_
          refine G_istore (pc := 33) (L1 := [some (.ref 67), some (.int 4), some (.int 0), some (.int 0), some (.int 0)]) rfl rfl (by decide) dX12_bars_33 ?_
          refine G_iload (pc := 35) rfl dX12_bars_35 ?_
          refine G_aload_n (pc := 37) rfl dX12_bars_37 ?_
          refine G_getR (pc := 38) (r := 68) (ci := 12) (j := 0) rfl lk_RX12_9 rfl rfl rfl dX12_bars_38 ?_
          refine G_iconst (pc := 41) (v := 4) (by decide) dX12_bars_41 ?_
          refine G_iald (pc := 42) (jj := 4) (v := 0) (by decide) rfl rfl (by unfold vp_in; decide) dX12_bars_42 ?_
          refine G_icmp_ge (pc := 43) (tgt := 61) (by decide) dX12_bars_43 (fun _ => ?_) (fun z => absurd (by decide) z)
          refine G_iload (pc := 61) rfl dX12_bars_61 ?_
          refine G_aload_n (pc := 63) rfl dX12_bars_63 ?_
          refine G_getR (pc := 64) (r := 68) (ci := 12) (j := 0) rfl lk_RX12_9 rfl rfl rfl dX12_bars_64 ?_
          refine G_iconst (pc := 67) (v := 4) (by decide) dX12_bars_67 ?_
          refine G_iald (pc := 68) (jj := 4) (v := 0) (by decide) rfl rfl (by unfold vp_in; decide) dX12_bars_68 ?_
          refine G_icmp_ge (pc := 69) (tgt := 77) (by decide) dX12_bars_69 (fun _ => ?_) (fun z => absurd (by decide) z)
          refine G_bipush (pc := 77) (v := (-3)) (by decide) dX12_bars_77 ?_
          exact G_iret (pc := 79) (Nat.le_of_ble_eq_true rfl) (Nat.le_of_ble_eq_true rfl) rfl dX12_bars_79 (by first | rfl | (simp [F_bars, *]; done) | (simp only [F_bars, Int32.le_iff_toInt_le, Int32.lt_iff_toInt_lt, ← Int32.toInt_inj]; simp; omega) | (simp only [F_bars, Int32.le_iff_toInt_le, Int32.lt_iff_toInt_lt, ← Int32.toInt_inj]; split <;> first | rfl | (exfalso; simp at *; omega)) | (unfold F_bars; (repeat' split) <;> first | rfl | (exfalso; (try simp only [Int32.le_iff_toInt_le, Int32.lt_iff_toInt_lt, ← Int32.toInt_inj] at *); first | omega | (simp at *; done) | (simp at *; omega))))
        exfalso
        have : 0 ≤ (keys).toInt := Int32.le_iff_toInt_le.mp (c288.1)
        have : (keys).toInt ≤ 0 := Int32.le_iff_toInt_le.mp (c288.2)
        have : (keys).toInt ≠ 0 := g_ne (c304)
        omega
      exfalso
      have : 0 ≤ (n).toInt := Int32.le_iff_toInt_le.mp (c287.1)
      have : (n).toInt ≤ 4 := Int32.le_iff_toInt_le.mp (c287.2)
      have : (n).toInt ≠ 0 := g_ne (c290)
      have : (n).toInt ≠ 1 := g_ne (c293)
      have : (n).toInt ≠ 2 := g_ne (c296)
      have : (n).toInt ≠ 3 := g_ne (c299)
      have : (n).toInt ≠ 4 := g_ne (c302)
      omega
    · have c288 := gB_z c288
      refine G_iconst (pc := 15) (v := (-1)) (by decide) dX12_bars_15 ?_
      exact G_iret (pc := 16) (Nat.le_of_ble_eq_true rfl) (Nat.le_of_ble_eq_true rfl) rfl dX12_bars_16 (by first | rfl | (simp [F_bars, *]; done) | (have : 0 ≤ (n).toInt := Int32.le_iff_toInt_le.mp (c287.1); have : (n).toInt ≤ 4 := Int32.le_iff_toInt_le.mp (c287.2); have : ¬ (0 ≤ (keys).toInt ∧ (keys).toInt ≤ 0) := fun z => c288 ⟨Int32.le_iff_toInt_le.mpr z.1, Int32.le_iff_toInt_le.mpr z.2⟩; simp only [F_bars, Int32.le_iff_toInt_le, Int32.lt_iff_toInt_lt, ← Int32.toInt_inj]; simp; omega) | (have : 0 ≤ (n).toInt := Int32.le_iff_toInt_le.mp (c287.1); have : (n).toInt ≤ 4 := Int32.le_iff_toInt_le.mp (c287.2); have : ¬ (0 ≤ (keys).toInt ∧ (keys).toInt ≤ 0) := fun z => c288 ⟨Int32.le_iff_toInt_le.mpr z.1, Int32.le_iff_toInt_le.mpr z.2⟩; simp only [F_bars, Int32.le_iff_toInt_le, Int32.lt_iff_toInt_lt, ← Int32.toInt_inj]; split <;> first | rfl | (exfalso; simp at *; omega)) | (have : 0 ≤ (n).toInt := Int32.le_iff_toInt_le.mp (c287.1); have : (n).toInt ≤ 4 := Int32.le_iff_toInt_le.mp (c287.2); have : ¬ (0 ≤ (keys).toInt ∧ (keys).toInt ≤ 0) := fun z => c288 ⟨Int32.le_iff_toInt_le.mpr z.1, Int32.le_iff_toInt_le.mpr z.2⟩; unfold F_bars; (repeat' split) <;> first | rfl | (exfalso; (try simp only [Int32.le_iff_toInt_le, Int32.lt_iff_toInt_lt, ← Int32.toInt_inj] at *); first | omega | (simp at *; done) | (simp at *; omega))))
set_option maxRecDepth 100000 in
set_option maxHeartbeats 4000000 in
theorem s10198_X12_daysOf (J : gI) (d : Nat)   : G (d + 1) mX12_daysOf 0 0 0 0 0 (gent 3 [.ref 67, .int 1]) [] SH0 RF0 (gmx J) (fun r h => r = some (.int 1) ∧ h = (SH0, RF0, (gmx J))) := by
  refine G_aload_n (pc := 0) rfl dX12_daysOf_0 ?_
  refine G_callV (pc := 1) (mc1 := 0) (ms1 := 0) (ci := 12) (mj := mX12_isOver) (vs := []) dX12_daysOf_1 rfl rfl cm_X12_isOver wh_22 wh_24 wh_25 rfl (Nat.le_of_ble_eq_true rfl) (Nat.le_of_ble_eq_true rfl) (Nat.le_of_ble_eq_true rfl) (Nat.le_of_ble_eq_true rfl) (s10011_X12_isOver J d  ) ?_
  rintro _ _ ⟨rfl, rfl⟩
  dsimp only [Option.toList, List.cons_append, List.nil_append]
  refine G_if_eq (pc := 4) (tgt := 11) (by decide) dX12_daysOf_4 (fun _ => ?_) (fun z => absurd (by decide) z)
  refine G_aload_n (pc := 11) rfl dX12_daysOf_11 ?_
  refine G_getR (pc := 12) (r := 68) (ci := 12) (j := 0) rfl lk_RX12_9 rfl rfl rfl dX12_daysOf_12 ?_
  refine G_iconst (pc := 15) (v := 1) (by decide) dX12_daysOf_15 ?_
  refine G_iald (pc := 16) (jj := 1) (v := 12) (by decide) rfl rfl (by unfold vp_in; decide) dX12_daysOf_16 ?_
  refine G_aload_n (pc := 17) rfl dX12_daysOf_17 ?_
  refine G_getR (pc := 18) (r := 68) (ci := 12) (j := 0) rfl lk_RX12_9 rfl rfl rfl dX12_daysOf_18 ?_
  refine G_iconst (pc := 21) (v := 0) (by decide) dX12_daysOf_21 ?_
  refine G_iald (pc := 22) (jj := 0) (v := 0) (by decide) rfl rfl (by unfold vp_in; decide) dX12_daysOf_22 ?_
  refine G_isub (pc := 23) (z := 12) (by decide) dX12_daysOf_23 ?_
  refine G_istore_n (pc := 24) (L1 := [some (.ref 67), some (.int 1), some (.int 12)]) rfl rfl (by decide) dX12_daysOf_24 ?_
  refine G_iload_n (pc := 25) rfl dX12_daysOf_25 ?_
  refine G_iload_n (pc := 26) rfl dX12_daysOf_26 ?_
  refine G_icmp_ge (pc := 27) (tgt := 34) (by decide) dX12_daysOf_27 (fun z => absurd z (by decide)) (fun _ => ?_)
  refine G_iload_n (pc := 30) rfl dX12_daysOf_30 ?_
  refine G_goto (pc := 31) (tgt := 35) (by decide) dX12_daysOf_31 ?_
  exact G_iret (pc := 35) (Nat.le_of_ble_eq_true rfl) (Nat.le_of_ble_eq_true rfl) rfl dX12_daysOf_35 ⟨rfl, rfl⟩
set_option maxRecDepth 100000 in
set_option maxHeartbeats 4000000 in
theorem s10200_X12_goesBy (J : gI) (d : Nat)   : G (d) mX12_goesBy 0 0 0 0 0 (gent 5 [.ref 67, .int 0]) [] SH0 RF0 (gcp (gmx J) 68 76 0 0 65) (fun r h => r = some (.int 0) ∧ h = (SH0, RF0, (gup (gup (gcp (gmx J) 68 76 0 0 65) 68 0 1) 68 2 0))) := by
  refine G_iload_n (pc := 0) rfl dX12_goesBy_0 ?_
  refine G_if_ge (pc := 1) (tgt := 11) (by decide) dX12_goesBy_1 (fun _ => ?_) (fun z => absurd (by decide) z)
  refine G_iload_n (pc := 11) rfl dX12_goesBy_11 ?_
  refine G_iconst (pc := 12) (v := 1) (by decide) dX12_goesBy_12 ?_
  refine G_isub (pc := 13) (z := (-1)) (by decide) dX12_goesBy_13 ?_
  refine G_istore_n (pc := 14) (L1 := [some (.ref 67), some (.int 0), some (.int (-1)), none, none]) rfl rfl (by decide) dX12_goesBy_14 ?_
  refine G_iload_n (pc := 15) rfl dX12_goesBy_15 ?_
  refine G_if_lt (pc := 16) (tgt := 27) (by decide) dX12_goesBy_16 (fun _ => ?_) (fun z => absurd (by decide) z)
  refine G_iconst (pc := 27) (v := 0) (by decide) dX12_goesBy_27 ?_
  refine G_istore_n (pc := 28) (L1 := [some (.ref 67), some (.int 0), some (.int (-1)), some (.int 0), none]) rfl rfl (by decide) dX12_goesBy_28 ?_
  refine G_iconst (pc := 29) (v := 0) (by decide) dX12_goesBy_29 ?_
  refine G_istore (pc := 30) (L1 := [some (.ref 67), some (.int 0), some (.int (-1)), some (.int 0), some (.int 0)]) rfl rfl (by decide) dX12_goesBy_30 ?_
  refine G_iload (pc := 32) rfl dX12_goesBy_32 ?_
  refine G_aload_n (pc := 34) rfl dX12_goesBy_34 ?_
  refine G_getR (pc := 35) (r := 68) (ci := 12) (j := 0) rfl lk_RX12_9 rfl rfl rfl dX12_goesBy_35 ?_
  refine G_iconst (pc := 38) (v := 4) (by decide) dX12_goesBy_38 ?_
  refine G_iald (pc := 39) (jj := 4) (v := 0) (by decide) rfl rfl (by unfold vp_in; decide) dX12_goesBy_39 ?_
  refine G_icmp_ge (pc := 40) (tgt := 104) (by decide) dX12_goesBy_40 (fun _ => ?_) (fun z => absurd (by decide) z)
  refine G_aload_n (pc := 104) rfl dX12_goesBy_104 ?_
  refine G_getR (pc := 105) (r := 68) (ci := 12) (j := 0) rfl lk_RX12_9 rfl rfl rfl dX12_goesBy_105 ?_
  refine G_iconst (pc := 108) (v := 0) (by decide) dX12_goesBy_108 ?_
  refine G_dup2 (pc := 109) rfl rfl dX12_goesBy_109 ?_
  refine G_iald (pc := 110) (jj := 0) (v := 0) (by decide) rfl rfl (by unfold vp_in; decide) dX12_goesBy_110 ?_
  refine G_iconst (pc := 111) (v := 1) (by decide) dX12_goesBy_111 ?_
  refine G_iadd (pc := 112) (z := 1) (by decide) dX12_goesBy_112 ?_
  refine G_iast (pc := 113) (jj := 0) (by decide) rfl (by unfold vp_in; decide) dX12_goesBy_113 ?_
  refine G_aload_n (pc := 114) rfl dX12_goesBy_114 ?_
  refine G_getR (pc := 115) (r := 68) (ci := 12) (j := 0) rfl lk_RX12_9 rfl rfl rfl dX12_goesBy_115 ?_
  refine G_iconst (pc := 118) (v := 2) (by decide) dX12_goesBy_118 ?_
  refine G_dup2 (pc := 119) rfl rfl dX12_goesBy_119 ?_
  refine G_iald (pc := 120) (jj := 2) (v := 0) (by decide) rfl rfl (by unfold vp_in; decide) dX12_goesBy_120 ?_
  refine G_iload_n (pc := 121) rfl dX12_goesBy_121 ?_
  refine G_iadd (pc := 122) (z := 0) (by decide) dX12_goesBy_122 ?_
  refine G_iast (pc := 123) (jj := 2) (by decide) rfl (by unfold vp_in; decide) dX12_goesBy_123 ?_
  refine G_iload_n (pc := 124) rfl dX12_goesBy_124 ?_
  exact G_iret (pc := 125) (Nat.le_of_ble_eq_true rfl) (Nat.le_of_ble_eq_true rfl) rfl dX12_goesBy_125 ⟨rfl, rfl⟩
set_option maxRecDepth 100000 in
set_option maxHeartbeats 4000000 in
theorem s10201_X12_playedFrom (J : gI) (d : Nat)   : G (d) mX12_playedFrom 0 0 0 0 0 (gent 9 [.ref 67, .int 1, .int 1]) [] SH0 RF0 (gup (gup (gcp (gmx J) 68 76 0 0 65) 68 0 1) 68 2 0) (fun r h => r = some (.int 0) ∧ h = (SH0, RF0, (gup (gup (gcp (gmx J) 68 76 0 0 65) 68 0 1) 68 2 0))) := by
  refine G_iload_n (pc := 0) rfl dX12_playedFrom_0 ?_
  refine G_iload_n (pc := 1) rfl dX12_playedFrom_1 ?_
  refine G_icmp_ne (pc := 2) (tgt := 7) (by decide) dX12_playedFrom_2 (fun z => absurd (by decide) z) (fun _ => ?_)
  refine G_iconst (pc := 5) (v := 0) (by decide) dX12_playedFrom_5 ?_
  exact G_iret (pc := 6) (Nat.le_of_ble_eq_true rfl) (Nat.le_of_ble_eq_true rfl) rfl dX12_playedFrom_6 ⟨rfl, rfl⟩
set_option maxRecDepth 100000 in
set_option maxHeartbeats 4000000 in
theorem s10199_X12_playedFrom (J : gI) (d : Nat)   : G (d + 1) mX12_playedFrom 0 0 0 0 0 (gent 9 [.ref 67, .int 0, .int 1]) [] SH0 RF0 (gmx J) (fun r h => r = some (.int 0) ∧ h = (SH0, RF0, (gup (gcp (gup (gup (gcp (gmx J) 68 76 0 0 65) 68 0 1) 68 2 0) 76 68 0 0 65) 77 0 0))) := by
  refine G_iload_n (pc := 0) rfl dX12_playedFrom_0 ?_
  refine G_iload_n (pc := 1) rfl dX12_playedFrom_1 ?_
  refine G_icmp_ne (pc := 2) (tgt := 7) (by decide) dX12_playedFrom_2 (fun _ => ?_) (fun z => absurd z (by decide))
  refine G_aload_n (pc := 7) rfl dX12_playedFrom_7 ?_
  refine G_iload_n (pc := 8) rfl dX12_playedFrom_8 ?_
  refine G_callV (pc := 9) (mc1 := 0) (ms1 := 0) (ci := 12) (mj := mX12_saves) (vs := [_]) dX12_playedFrom_9 rfl rfl cm_X12_saves wh_107 wh_109 wh_110 rfl (Nat.le_of_ble_eq_true rfl) (Nat.le_of_ble_eq_true rfl) (Nat.le_of_ble_eq_true rfl) (Nat.le_of_ble_eq_true rfl) (saves_0 d (gmx J)) ?_
  rintro _ _ ⟨rfl, rfl⟩
  dsimp only [Option.toList, List.cons_append, List.nil_append]
  refine G_iconst (pc := 12) (v := 0) (by decide) dX12_playedFrom_12 ?_
  refine G_istore_n (pc := 13) (L1 := [some (.ref 67), some (.int 0), some (.int 1), some (.int 0), none, none, none, none, none]) rfl rfl (by decide) dX12_playedFrom_13 ?_
  refine G_iconst (pc := 14) (v := (-1)) (by decide) dX12_playedFrom_14 ?_
  refine G_istore (pc := 15) (L1 := [some (.ref 67), some (.int 0), some (.int 1), some (.int 0), some (.int (-1)), none, none, none, none]) rfl rfl (by decide) dX12_playedFrom_15 ?_
  refine G_iconst (pc := 17) (v := 0) (by decide) dX12_playedFrom_17 ?_
  refine G_istore (pc := 18) (L1 := [some (.ref 67), some (.int 0), some (.int 1), some (.int 0), some (.int (-1)), some (.int 0), none, none, none]) rfl rfl (by decide) dX12_playedFrom_18 ?_
  refine G_iload (pc := 20) rfl dX12_playedFrom_20 ?_
  refine G_aload_n (pc := 22) rfl dX12_playedFrom_22 ?_
  refine G_getR (pc := 23) (r := 68) (ci := 12) (j := 0) rfl lk_RX12_9 rfl rfl rfl dX12_playedFrom_23 ?_
  refine G_iconst (pc := 26) (v := 4) (by decide) dX12_playedFrom_26 ?_
  refine G_iald (pc := 27) (jj := 4) (v := 0) (by decide) rfl rfl (by unfold vp_in; decide) dX12_playedFrom_27 ?_
  refine G_icmp_gt (pc := 28) (tgt := 122) (by decide) dX12_playedFrom_28 (fun z => absurd z (by decide)) (fun _ => ?_)
  refine G_aload_n (pc := 31) rfl dX12_playedFrom_31 ?_
  refine G_iload (pc := 32) rfl dX12_playedFrom_32 ?_
  refine G_callV (pc := 34) (mc1 := 0) (ms1 := 0) (ci := 12) (mj := mX12_goesBy) (vs := [_]) dX12_playedFrom_34 rfl rfl cm_X12_goesBy wh_72 wh_74 wh_75 rfl (Nat.le_of_ble_eq_true rfl) (Nat.le_of_ble_eq_true rfl) (Nat.le_of_ble_eq_true rfl) (Nat.le_of_ble_eq_true rfl) (s10200_X12_goesBy J d  ) ?_
  rintro _ _ ⟨rfl, rfl⟩
  dsimp only [Option.toList, List.cons_append, List.nil_append]
  refine G_istore (pc := 37) (L1 := [some (.ref 67), some (.int 0), some (.int 1), some (.int 0), some (.int (-1)), some (.int 0), some (.int 0), none, none]) rfl rfl (by decide) dX12_playedFrom_37 ?_
  refine G_iload (pc := 39) rfl dX12_playedFrom_39 ?_
  refine G_aload_n (pc := 41) rfl dX12_playedFrom_41 ?_
  refine G_iload_n (pc := 42) rfl dX12_playedFrom_42 ?_
  refine G_iconst (pc := 43) (v := 1) (by decide) dX12_playedFrom_43 ?_
  refine G_iadd (pc := 44) (z := 1) (by decide) dX12_playedFrom_44 ?_
  refine G_iload_n (pc := 45) rfl dX12_playedFrom_45 ?_
  refine G_callV (pc := 46) (mc1 := 0) (ms1 := 0) (ci := 12) (mj := mX12_playedFrom) (vs := [_, _]) dX12_playedFrom_46 rfl rfl cm_X12_playedFrom wh_119 wh_121 wh_122 rfl (Nat.le_of_ble_eq_true rfl) (Nat.le_of_ble_eq_true rfl) (Nat.le_of_ble_eq_true rfl) (Nat.le_of_ble_eq_true rfl) (s10201_X12_playedFrom J d  ) ?_
  rintro _ _ ⟨rfl, rfl⟩
  dsimp only [Option.toList, List.cons_append, List.nil_append]
  refine G_iadd (pc := 49) (z := 0) (by decide) dX12_playedFrom_49 ?_
  refine G_istore (pc := 50) (L1 := [some (.ref 67), some (.int 0), some (.int 1), some (.int 0), some (.int (-1)), some (.int 0), some (.int 0), some (.int 0), none]) rfl rfl (by decide) dX12_playedFrom_50 ?_
  refine G_aload_n (pc := 52) rfl dX12_playedFrom_52 ?_
  refine G_iload_n (pc := 53) rfl dX12_playedFrom_53 ?_
  refine G_callV (pc := 54) (mc1 := 0) (ms1 := 0) (ci := 12) (mj := mX12_restores) (vs := [_]) dX12_playedFrom_54 rfl rfl cm_X12_restores wh_111 wh_113 wh_114 rfl (Nat.le_of_ble_eq_true rfl) (Nat.le_of_ble_eq_true rfl) (Nat.le_of_ble_eq_true rfl) (Nat.le_of_ble_eq_true rfl) (restores_0 d (gup (gup (gcp (gmx J) 68 76 0 0 65) 68 0 1) 68 2 0)) ?_
  rintro _ _ ⟨rfl, rfl⟩
  dsimp only [Option.toList, List.cons_append, List.nil_append]
  refine G_iload (pc := 57) rfl dX12_playedFrom_57 ?_
  refine G_if_lt (pc := 59) (tgt := 83) (by decide) dX12_playedFrom_59 (fun _ => ?_) (fun z => absurd (by decide) z)
  refine G_iconst (pc := 83) (v := 1) (by decide) dX12_playedFrom_83 ?_
  refine G_goto (pc := 84) (tgt := 88) (by decide) dX12_playedFrom_84 ?_
  refine G_istore (pc := 88) (L1 := [some (.ref 67), some (.int 0), some (.int 1), some (.int 0), some (.int (-1)), some (.int 0), some (.int 0), some (.int 0), some (.int 1)]) rfl rfl (by decide) dX12_playedFrom_88 ?_
  refine G_iload (pc := 90) rfl dX12_playedFrom_90 ?_
  refine G_if_eq (pc := 92) (tgt := 100) (by decide) dX12_playedFrom_92 (fun z => absurd z (by decide)) (fun _ => ?_)
  refine G_iload (pc := 95) rfl dX12_playedFrom_95 ?_
  refine G_goto (pc := 97) (tgt := 102) (by decide) dX12_playedFrom_97 ?_
  refine G_istore (pc := 102) (L1 := [some (.ref 67), some (.int 0), some (.int 1), some (.int 0), some (.int 0), some (.int 0), some (.int 0), some (.int 0), some (.int 1)]) rfl rfl (by decide) dX12_playedFrom_102 ?_
  refine G_iload (pc := 104) rfl dX12_playedFrom_104 ?_
  refine G_if_eq (pc := 106) (tgt := 114) (by decide) dX12_playedFrom_106 (fun z => absurd z (by decide)) (fun _ => ?_)
  refine G_iload (pc := 109) rfl dX12_playedFrom_109 ?_
  refine G_goto (pc := 111) (tgt := 115) (by decide) dX12_playedFrom_111 ?_
  refine G_istore_n (pc := 115) (L1 := [some (.ref 67), some (.int 0), some (.int 1), some (.int 0), some (.int 0), some (.int 0), some (.int 0), some (.int 0), some (.int 1)]) rfl rfl (by decide) dX12_playedFrom_115 ?_
  refine G_iinc (pc := 116) (v := 1) (w := 1) (L1 := [some (.ref 67), some (.int 0), some (.int 1), some (.int 0), some (.int 0), some (.int 1), some (.int 0), some (.int 0), some (.int 1)]) (by decide) rfl rfl (by decide) rfl (by decide) dX12_playedFrom_116 ?_
  refine G_goto (pc := 119) (tgt := 20) (by decide) dX12_playedFrom_119 ?_
  refine G_iload (pc := 20) rfl dX12_playedFrom_20 ?_
  refine G_aload_n (pc := 22) rfl dX12_playedFrom_22 ?_
  refine G_getR (pc := 23) (r := 68) (ci := 12) (j := 0) rfl lk_RX12_9 rfl rfl rfl dX12_playedFrom_23 ?_
  refine G_iconst (pc := 26) (v := 4) (by decide) dX12_playedFrom_26 ?_
  refine G_iald (pc := 27) (jj := 4) (v := 0) (by decide) rfl rfl (by unfold vp_in; decide) dX12_playedFrom_27 ?_
  refine G_icmp_gt (pc := 28) (tgt := 122) (by decide) dX12_playedFrom_28 (fun _ => ?_) (fun z => absurd (by decide) z)
  refine G_aload_n (pc := 122) rfl dX12_playedFrom_122 ?_
  refine G_getR (pc := 123) (r := 77) (ci := 12) (j := 17) rfl lk_RX12_38 rfl rfl rfl dX12_playedFrom_123 ?_
  refine G_iload_n (pc := 126) rfl dX12_playedFrom_126 ?_
  refine G_iload (pc := 127) rfl dX12_playedFrom_127 ?_
  refine G_iast (pc := 129) (jj := 0) (by decide) rfl (by unfold vp_in; decide) dX12_playedFrom_129 ?_
  refine G_iload_n (pc := 130) rfl dX12_playedFrom_130 ?_
  exact G_iret (pc := 131) (Nat.le_of_ble_eq_true rfl) (Nat.le_of_ble_eq_true rfl) rfl dX12_playedFrom_131 ⟨rfl, rfl⟩
set_option maxRecDepth 100000 in
set_option maxHeartbeats 4000000 in
theorem s10202_X12_daysOf (J : gI) (d : Nat)   : G (d + 1) mX12_daysOf 0 0 0 0 0 (gent 3 [.ref 67, .int 2]) [] SH0 RF0 (gmx J) (fun r h => r = some (.int 2) ∧ h = (SH0, RF0, (gmx J))) := by
  refine G_aload_n (pc := 0) rfl dX12_daysOf_0 ?_
  refine G_callV (pc := 1) (mc1 := 0) (ms1 := 0) (ci := 12) (mj := mX12_isOver) (vs := []) dX12_daysOf_1 rfl rfl cm_X12_isOver wh_22 wh_24 wh_25 rfl (Nat.le_of_ble_eq_true rfl) (Nat.le_of_ble_eq_true rfl) (Nat.le_of_ble_eq_true rfl) (Nat.le_of_ble_eq_true rfl) (s10011_X12_isOver J d  ) ?_
  rintro _ _ ⟨rfl, rfl⟩
  dsimp only [Option.toList, List.cons_append, List.nil_append]
  refine G_if_eq (pc := 4) (tgt := 11) (by decide) dX12_daysOf_4 (fun _ => ?_) (fun z => absurd (by decide) z)
  refine G_aload_n (pc := 11) rfl dX12_daysOf_11 ?_
  refine G_getR (pc := 12) (r := 68) (ci := 12) (j := 0) rfl lk_RX12_9 rfl rfl rfl dX12_daysOf_12 ?_
  refine G_iconst (pc := 15) (v := 1) (by decide) dX12_daysOf_15 ?_
  refine G_iald (pc := 16) (jj := 1) (v := 12) (by decide) rfl rfl (by unfold vp_in; decide) dX12_daysOf_16 ?_
  refine G_aload_n (pc := 17) rfl dX12_daysOf_17 ?_
  refine G_getR (pc := 18) (r := 68) (ci := 12) (j := 0) rfl lk_RX12_9 rfl rfl rfl dX12_daysOf_18 ?_
  refine G_iconst (pc := 21) (v := 0) (by decide) dX12_daysOf_21 ?_
  refine G_iald (pc := 22) (jj := 0) (v := 0) (by decide) rfl rfl (by unfold vp_in; decide) dX12_daysOf_22 ?_
  refine G_isub (pc := 23) (z := 12) (by decide) dX12_daysOf_23 ?_
  refine G_istore_n (pc := 24) (L1 := [some (.ref 67), some (.int 2), some (.int 12)]) rfl rfl (by decide) dX12_daysOf_24 ?_
  refine G_iload_n (pc := 25) rfl dX12_daysOf_25 ?_
  refine G_iload_n (pc := 26) rfl dX12_daysOf_26 ?_
  refine G_icmp_ge (pc := 27) (tgt := 34) (by decide) dX12_daysOf_27 (fun z => absurd z (by decide)) (fun _ => ?_)
  refine G_iload_n (pc := 30) rfl dX12_daysOf_30 ?_
  refine G_goto (pc := 31) (tgt := 35) (by decide) dX12_daysOf_31 ?_
  exact G_iret (pc := 35) (Nat.le_of_ble_eq_true rfl) (Nat.le_of_ble_eq_true rfl) rfl dX12_daysOf_35 ⟨rfl, rfl⟩
set_option maxRecDepth 100000 in
set_option maxHeartbeats 4000000 in
theorem s10205_X12_goesBy (J : gI) (d : Nat)   : G (d) mX12_goesBy 0 0 0 0 0 (gent 5 [.ref 67, .int 0]) [] SH0 RF0 (gcp (gup (gup (gcp (gmx J) 68 76 0 0 65) 68 0 1) 68 2 0) 68 76 0 65 65) (fun r h => r = some (.int 0) ∧ h = (SH0, RF0, (gup (gup (gcp (gup (gup (gcp (gmx J) 68 76 0 0 65) 68 0 1) 68 2 0) 68 76 0 65 65) 68 0 2) 68 2 0))) := by
  refine G_iload_n (pc := 0) rfl dX12_goesBy_0 ?_
  refine G_if_ge (pc := 1) (tgt := 11) (by decide) dX12_goesBy_1 (fun _ => ?_) (fun z => absurd (by decide) z)
  refine G_iload_n (pc := 11) rfl dX12_goesBy_11 ?_
  refine G_iconst (pc := 12) (v := 1) (by decide) dX12_goesBy_12 ?_
  refine G_isub (pc := 13) (z := (-1)) (by decide) dX12_goesBy_13 ?_
  refine G_istore_n (pc := 14) (L1 := [some (.ref 67), some (.int 0), some (.int (-1)), none, none]) rfl rfl (by decide) dX12_goesBy_14 ?_
  refine G_iload_n (pc := 15) rfl dX12_goesBy_15 ?_
  refine G_if_lt (pc := 16) (tgt := 27) (by decide) dX12_goesBy_16 (fun _ => ?_) (fun z => absurd (by decide) z)
  refine G_iconst (pc := 27) (v := 0) (by decide) dX12_goesBy_27 ?_
  refine G_istore_n (pc := 28) (L1 := [some (.ref 67), some (.int 0), some (.int (-1)), some (.int 0), none]) rfl rfl (by decide) dX12_goesBy_28 ?_
  refine G_iconst (pc := 29) (v := 0) (by decide) dX12_goesBy_29 ?_
  refine G_istore (pc := 30) (L1 := [some (.ref 67), some (.int 0), some (.int (-1)), some (.int 0), some (.int 0)]) rfl rfl (by decide) dX12_goesBy_30 ?_
  refine G_iload (pc := 32) rfl dX12_goesBy_32 ?_
  refine G_aload_n (pc := 34) rfl dX12_goesBy_34 ?_
  refine G_getR (pc := 35) (r := 68) (ci := 12) (j := 0) rfl lk_RX12_9 rfl rfl rfl dX12_goesBy_35 ?_
  refine G_iconst (pc := 38) (v := 4) (by decide) dX12_goesBy_38 ?_
  refine G_iald (pc := 39) (jj := 4) (v := 0) (by decide) rfl rfl (by unfold vp_in; decide) dX12_goesBy_39 ?_
  refine G_icmp_ge (pc := 40) (tgt := 104) (by decide) dX12_goesBy_40 (fun _ => ?_) (fun z => absurd (by decide) z)
  refine G_aload_n (pc := 104) rfl dX12_goesBy_104 ?_
  refine G_getR (pc := 105) (r := 68) (ci := 12) (j := 0) rfl lk_RX12_9 rfl rfl rfl dX12_goesBy_105 ?_
  refine G_iconst (pc := 108) (v := 0) (by decide) dX12_goesBy_108 ?_
  refine G_dup2 (pc := 109) rfl rfl dX12_goesBy_109 ?_
  refine G_iald (pc := 110) (jj := 0) (v := 1) (by decide) rfl rfl (by unfold vp_in; decide) dX12_goesBy_110 ?_
  refine G_iconst (pc := 111) (v := 1) (by decide) dX12_goesBy_111 ?_
  refine G_iadd (pc := 112) (z := 2) (by decide) dX12_goesBy_112 ?_
  refine G_iast (pc := 113) (jj := 0) (by decide) rfl (by unfold vp_in; decide) dX12_goesBy_113 ?_
  refine G_aload_n (pc := 114) rfl dX12_goesBy_114 ?_
  refine G_getR (pc := 115) (r := 68) (ci := 12) (j := 0) rfl lk_RX12_9 rfl rfl rfl dX12_goesBy_115 ?_
  refine G_iconst (pc := 118) (v := 2) (by decide) dX12_goesBy_118 ?_
  refine G_dup2 (pc := 119) rfl rfl dX12_goesBy_119 ?_
  refine G_iald (pc := 120) (jj := 2) (v := 0) (by decide) rfl rfl (by unfold vp_in; decide) dX12_goesBy_120 ?_
  refine G_iload_n (pc := 121) rfl dX12_goesBy_121 ?_
  refine G_iadd (pc := 122) (z := 0) (by decide) dX12_goesBy_122 ?_
  refine G_iast (pc := 123) (jj := 2) (by decide) rfl (by unfold vp_in; decide) dX12_goesBy_123 ?_
  refine G_iload_n (pc := 124) rfl dX12_goesBy_124 ?_
  exact G_iret (pc := 125) (Nat.le_of_ble_eq_true rfl) (Nat.le_of_ble_eq_true rfl) rfl dX12_goesBy_125 ⟨rfl, rfl⟩
set_option maxRecDepth 100000 in
set_option maxHeartbeats 4000000 in
theorem s10206_X12_playedFrom (J : gI) (d : Nat)   : G (d) mX12_playedFrom 0 0 0 0 0 (gent 9 [.ref 67, .int 2, .int 2]) [] SH0 RF0 (gup (gup (gcp (gup (gup (gcp (gmx J) 68 76 0 0 65) 68 0 1) 68 2 0) 68 76 0 65 65) 68 0 2) 68 2 0) (fun r h => r = some (.int 0) ∧ h = (SH0, RF0, (gup (gup (gcp (gup (gup (gcp (gmx J) 68 76 0 0 65) 68 0 1) 68 2 0) 68 76 0 65 65) 68 0 2) 68 2 0))) := by
  refine G_iload_n (pc := 0) rfl dX12_playedFrom_0 ?_
  refine G_iload_n (pc := 1) rfl dX12_playedFrom_1 ?_
  refine G_icmp_ne (pc := 2) (tgt := 7) (by decide) dX12_playedFrom_2 (fun z => absurd (by decide) z) (fun _ => ?_)
  refine G_iconst (pc := 5) (v := 0) (by decide) dX12_playedFrom_5 ?_
  exact G_iret (pc := 6) (Nat.le_of_ble_eq_true rfl) (Nat.le_of_ble_eq_true rfl) rfl dX12_playedFrom_6 ⟨rfl, rfl⟩
set_option maxRecDepth 100000 in
set_option maxHeartbeats 4000000 in
theorem s10204_X12_playedFrom (J : gI) (d : Nat)   : G (d + 1) mX12_playedFrom 0 0 0 0 0 (gent 9 [.ref 67, .int 1, .int 2]) [] SH0 RF0 (gup (gup (gcp (gmx J) 68 76 0 0 65) 68 0 1) 68 2 0) (fun r h => r = some (.int 0) ∧ h = (SH0, RF0, (gup (gcp (gup (gup (gcp (gup (gup (gcp (gmx J) 68 76 0 0 65) 68 0 1) 68 2 0) 68 76 0 65 65) 68 0 2) 68 2 0) 76 68 65 0 65) 77 1 0))) := by
  refine G_iload_n (pc := 0) rfl dX12_playedFrom_0 ?_
  refine G_iload_n (pc := 1) rfl dX12_playedFrom_1 ?_
  refine G_icmp_ne (pc := 2) (tgt := 7) (by decide) dX12_playedFrom_2 (fun _ => ?_) (fun z => absurd z (by decide))
  refine G_aload_n (pc := 7) rfl dX12_playedFrom_7 ?_
  refine G_iload_n (pc := 8) rfl dX12_playedFrom_8 ?_
  refine G_callV (pc := 9) (mc1 := 0) (ms1 := 0) (ci := 12) (mj := mX12_saves) (vs := [_]) dX12_playedFrom_9 rfl rfl cm_X12_saves wh_107 wh_109 wh_110 rfl (Nat.le_of_ble_eq_true rfl) (Nat.le_of_ble_eq_true rfl) (Nat.le_of_ble_eq_true rfl) (Nat.le_of_ble_eq_true rfl) (saves_1 d (gup (gup (gcp (gmx J) 68 76 0 0 65) 68 0 1) 68 2 0)) ?_
  rintro _ _ ⟨rfl, rfl⟩
  dsimp only [Option.toList, List.cons_append, List.nil_append]
  refine G_iconst (pc := 12) (v := 0) (by decide) dX12_playedFrom_12 ?_
  refine G_istore_n (pc := 13) (L1 := [some (.ref 67), some (.int 1), some (.int 2), some (.int 0), none, none, none, none, none]) rfl rfl (by decide) dX12_playedFrom_13 ?_
  refine G_iconst (pc := 14) (v := (-1)) (by decide) dX12_playedFrom_14 ?_
  refine G_istore (pc := 15) (L1 := [some (.ref 67), some (.int 1), some (.int 2), some (.int 0), some (.int (-1)), none, none, none, none]) rfl rfl (by decide) dX12_playedFrom_15 ?_
  refine G_iconst (pc := 17) (v := 0) (by decide) dX12_playedFrom_17 ?_
  refine G_istore (pc := 18) (L1 := [some (.ref 67), some (.int 1), some (.int 2), some (.int 0), some (.int (-1)), some (.int 0), none, none, none]) rfl rfl (by decide) dX12_playedFrom_18 ?_
  refine G_iload (pc := 20) rfl dX12_playedFrom_20 ?_
  refine G_aload_n (pc := 22) rfl dX12_playedFrom_22 ?_
  refine G_getR (pc := 23) (r := 68) (ci := 12) (j := 0) rfl lk_RX12_9 rfl rfl rfl dX12_playedFrom_23 ?_
  refine G_iconst (pc := 26) (v := 4) (by decide) dX12_playedFrom_26 ?_
  refine G_iald (pc := 27) (jj := 4) (v := 0) (by decide) rfl rfl (by unfold vp_in; decide) dX12_playedFrom_27 ?_
  refine G_icmp_gt (pc := 28) (tgt := 122) (by decide) dX12_playedFrom_28 (fun z => absurd z (by decide)) (fun _ => ?_)
  refine G_aload_n (pc := 31) rfl dX12_playedFrom_31 ?_
  refine G_iload (pc := 32) rfl dX12_playedFrom_32 ?_
  refine G_callV (pc := 34) (mc1 := 0) (ms1 := 0) (ci := 12) (mj := mX12_goesBy) (vs := [_]) dX12_playedFrom_34 rfl rfl cm_X12_goesBy wh_72 wh_74 wh_75 rfl (Nat.le_of_ble_eq_true rfl) (Nat.le_of_ble_eq_true rfl) (Nat.le_of_ble_eq_true rfl) (Nat.le_of_ble_eq_true rfl) (s10205_X12_goesBy J d  ) ?_
  rintro _ _ ⟨rfl, rfl⟩
  dsimp only [Option.toList, List.cons_append, List.nil_append]
  refine G_istore (pc := 37) (L1 := [some (.ref 67), some (.int 1), some (.int 2), some (.int 0), some (.int (-1)), some (.int 0), some (.int 0), none, none]) rfl rfl (by decide) dX12_playedFrom_37 ?_
  refine G_iload (pc := 39) rfl dX12_playedFrom_39 ?_
  refine G_aload_n (pc := 41) rfl dX12_playedFrom_41 ?_
  refine G_iload_n (pc := 42) rfl dX12_playedFrom_42 ?_
  refine G_iconst (pc := 43) (v := 1) (by decide) dX12_playedFrom_43 ?_
  refine G_iadd (pc := 44) (z := 2) (by decide) dX12_playedFrom_44 ?_
  refine G_iload_n (pc := 45) rfl dX12_playedFrom_45 ?_
  refine G_callV (pc := 46) (mc1 := 0) (ms1 := 0) (ci := 12) (mj := mX12_playedFrom) (vs := [_, _]) dX12_playedFrom_46 rfl rfl cm_X12_playedFrom wh_119 wh_121 wh_122 rfl (Nat.le_of_ble_eq_true rfl) (Nat.le_of_ble_eq_true rfl) (Nat.le_of_ble_eq_true rfl) (Nat.le_of_ble_eq_true rfl) (s10206_X12_playedFrom J d  ) ?_
  rintro _ _ ⟨rfl, rfl⟩
  dsimp only [Option.toList, List.cons_append, List.nil_append]
  refine G_iadd (pc := 49) (z := 0) (by decide) dX12_playedFrom_49 ?_
  refine G_istore (pc := 50) (L1 := [some (.ref 67), some (.int 1), some (.int 2), some (.int 0), some (.int (-1)), some (.int 0), some (.int 0), some (.int 0), none]) rfl rfl (by decide) dX12_playedFrom_50 ?_
  refine G_aload_n (pc := 52) rfl dX12_playedFrom_52 ?_
  refine G_iload_n (pc := 53) rfl dX12_playedFrom_53 ?_
  refine G_callV (pc := 54) (mc1 := 0) (ms1 := 0) (ci := 12) (mj := mX12_restores) (vs := [_]) dX12_playedFrom_54 rfl rfl cm_X12_restores wh_111 wh_113 wh_114 rfl (Nat.le_of_ble_eq_true rfl) (Nat.le_of_ble_eq_true rfl) (Nat.le_of_ble_eq_true rfl) (Nat.le_of_ble_eq_true rfl) (restores_1 d (gup (gup (gcp (gup (gup (gcp (gmx J) 68 76 0 0 65) 68 0 1) 68 2 0) 68 76 0 65 65) 68 0 2) 68 2 0)) ?_
  rintro _ _ ⟨rfl, rfl⟩
  dsimp only [Option.toList, List.cons_append, List.nil_append]
  refine G_iload (pc := 57) rfl dX12_playedFrom_57 ?_
  refine G_if_lt (pc := 59) (tgt := 83) (by decide) dX12_playedFrom_59 (fun _ => ?_) (fun z => absurd (by decide) z)
  refine G_iconst (pc := 83) (v := 1) (by decide) dX12_playedFrom_83 ?_
  refine G_goto (pc := 84) (tgt := 88) (by decide) dX12_playedFrom_84 ?_
  refine G_istore (pc := 88) (L1 := [some (.ref 67), some (.int 1), some (.int 2), some (.int 0), some (.int (-1)), some (.int 0), some (.int 0), some (.int 0), some (.int 1)]) rfl rfl (by decide) dX12_playedFrom_88 ?_
  refine G_iload (pc := 90) rfl dX12_playedFrom_90 ?_
  refine G_if_eq (pc := 92) (tgt := 100) (by decide) dX12_playedFrom_92 (fun z => absurd z (by decide)) (fun _ => ?_)
  refine G_iload (pc := 95) rfl dX12_playedFrom_95 ?_
  refine G_goto (pc := 97) (tgt := 102) (by decide) dX12_playedFrom_97 ?_
  refine G_istore (pc := 102) (L1 := [some (.ref 67), some (.int 1), some (.int 2), some (.int 0), some (.int 0), some (.int 0), some (.int 0), some (.int 0), some (.int 1)]) rfl rfl (by decide) dX12_playedFrom_102 ?_
  refine G_iload (pc := 104) rfl dX12_playedFrom_104 ?_
  refine G_if_eq (pc := 106) (tgt := 114) (by decide) dX12_playedFrom_106 (fun z => absurd z (by decide)) (fun _ => ?_)
  refine G_iload (pc := 109) rfl dX12_playedFrom_109 ?_
  refine G_goto (pc := 111) (tgt := 115) (by decide) dX12_playedFrom_111 ?_
  refine G_istore_n (pc := 115) (L1 := [some (.ref 67), some (.int 1), some (.int 2), some (.int 0), some (.int 0), some (.int 0), some (.int 0), some (.int 0), some (.int 1)]) rfl rfl (by decide) dX12_playedFrom_115 ?_
  refine G_iinc (pc := 116) (v := 1) (w := 1) (L1 := [some (.ref 67), some (.int 1), some (.int 2), some (.int 0), some (.int 0), some (.int 1), some (.int 0), some (.int 0), some (.int 1)]) (by decide) rfl rfl (by decide) rfl (by decide) dX12_playedFrom_116 ?_
  refine G_goto (pc := 119) (tgt := 20) (by decide) dX12_playedFrom_119 ?_
  refine G_iload (pc := 20) rfl dX12_playedFrom_20 ?_
  refine G_aload_n (pc := 22) rfl dX12_playedFrom_22 ?_
  refine G_getR (pc := 23) (r := 68) (ci := 12) (j := 0) rfl lk_RX12_9 rfl rfl rfl dX12_playedFrom_23 ?_
  refine G_iconst (pc := 26) (v := 4) (by decide) dX12_playedFrom_26 ?_
  refine G_iald (pc := 27) (jj := 4) (v := 0) (by decide) rfl rfl (by unfold vp_in; decide) dX12_playedFrom_27 ?_
  refine G_icmp_gt (pc := 28) (tgt := 122) (by decide) dX12_playedFrom_28 (fun _ => ?_) (fun z => absurd (by decide) z)
  refine G_aload_n (pc := 122) rfl dX12_playedFrom_122 ?_
  refine G_getR (pc := 123) (r := 77) (ci := 12) (j := 17) rfl lk_RX12_38 rfl rfl rfl dX12_playedFrom_123 ?_
  refine G_iload_n (pc := 126) rfl dX12_playedFrom_126 ?_
  refine G_iload (pc := 127) rfl dX12_playedFrom_127 ?_
  refine G_iast (pc := 129) (jj := 1) (by decide) rfl (by unfold vp_in; decide) dX12_playedFrom_129 ?_
  refine G_iload_n (pc := 130) rfl dX12_playedFrom_130 ?_
  exact G_iret (pc := 131) (Nat.le_of_ble_eq_true rfl) (Nat.le_of_ble_eq_true rfl) rfl dX12_playedFrom_131 ⟨rfl, rfl⟩
set_option maxRecDepth 100000 in
set_option maxHeartbeats 4000000 in
theorem s10203_X12_playedFrom (J : gI) (d : Nat)   : G (d + 2) mX12_playedFrom 0 0 0 0 0 (gent 9 [.ref 67, .int 0, .int 2]) [] SH0 RF0 (gmx J) (fun r h => r = some (.int 0) ∧ h = (SH0, RF0, (gup (gcp (gup (gcp (gup (gup (gcp (gup (gup (gcp (gmx J) 68 76 0 0 65) 68 0 1) 68 2 0) 68 76 0 65 65) 68 0 2) 68 2 0) 76 68 65 0 65) 77 1 0) 76 68 0 0 65) 77 0 0))) := by
  refine G_iload_n (pc := 0) rfl dX12_playedFrom_0 ?_
  refine G_iload_n (pc := 1) rfl dX12_playedFrom_1 ?_
  refine G_icmp_ne (pc := 2) (tgt := 7) (by decide) dX12_playedFrom_2 (fun _ => ?_) (fun z => absurd z (by decide))
  refine G_aload_n (pc := 7) rfl dX12_playedFrom_7 ?_
  refine G_iload_n (pc := 8) rfl dX12_playedFrom_8 ?_
  refine G_callV (pc := 9) (mc1 := 0) (ms1 := 0) (ci := 12) (mj := mX12_saves) (vs := [_]) dX12_playedFrom_9 rfl rfl cm_X12_saves wh_107 wh_109 wh_110 rfl (Nat.le_of_ble_eq_true rfl) (Nat.le_of_ble_eq_true rfl) (Nat.le_of_ble_eq_true rfl) (Nat.le_of_ble_eq_true rfl) (saves_0 (d + 1) (gmx J)) ?_
  rintro _ _ ⟨rfl, rfl⟩
  dsimp only [Option.toList, List.cons_append, List.nil_append]
  refine G_iconst (pc := 12) (v := 0) (by decide) dX12_playedFrom_12 ?_
  refine G_istore_n (pc := 13) (L1 := [some (.ref 67), some (.int 0), some (.int 2), some (.int 0), none, none, none, none, none]) rfl rfl (by decide) dX12_playedFrom_13 ?_
  refine G_iconst (pc := 14) (v := (-1)) (by decide) dX12_playedFrom_14 ?_
  refine G_istore (pc := 15) (L1 := [some (.ref 67), some (.int 0), some (.int 2), some (.int 0), some (.int (-1)), none, none, none, none]) rfl rfl (by decide) dX12_playedFrom_15 ?_
  refine G_iconst (pc := 17) (v := 0) (by decide) dX12_playedFrom_17 ?_
  refine G_istore (pc := 18) (L1 := [some (.ref 67), some (.int 0), some (.int 2), some (.int 0), some (.int (-1)), some (.int 0), none, none, none]) rfl rfl (by decide) dX12_playedFrom_18 ?_
  refine G_iload (pc := 20) rfl dX12_playedFrom_20 ?_
  refine G_aload_n (pc := 22) rfl dX12_playedFrom_22 ?_
  refine G_getR (pc := 23) (r := 68) (ci := 12) (j := 0) rfl lk_RX12_9 rfl rfl rfl dX12_playedFrom_23 ?_
  refine G_iconst (pc := 26) (v := 4) (by decide) dX12_playedFrom_26 ?_
  refine G_iald (pc := 27) (jj := 4) (v := 0) (by decide) rfl rfl (by unfold vp_in; decide) dX12_playedFrom_27 ?_
  refine G_icmp_gt (pc := 28) (tgt := 122) (by decide) dX12_playedFrom_28 (fun z => absurd z (by decide)) (fun _ => ?_)
  refine G_aload_n (pc := 31) rfl dX12_playedFrom_31 ?_
  refine G_iload (pc := 32) rfl dX12_playedFrom_32 ?_
  refine G_callV (pc := 34) (mc1 := 0) (ms1 := 0) (ci := 12) (mj := mX12_goesBy) (vs := [_]) dX12_playedFrom_34 rfl rfl cm_X12_goesBy wh_72 wh_74 wh_75 rfl (Nat.le_of_ble_eq_true rfl) (Nat.le_of_ble_eq_true rfl) (Nat.le_of_ble_eq_true rfl) (Nat.le_of_ble_eq_true rfl) (s10200_X12_goesBy J (d + 1)  ) ?_
  rintro _ _ ⟨rfl, rfl⟩
  dsimp only [Option.toList, List.cons_append, List.nil_append]
  refine G_istore (pc := 37) (L1 := [some (.ref 67), some (.int 0), some (.int 2), some (.int 0), some (.int (-1)), some (.int 0), some (.int 0), none, none]) rfl rfl (by decide) dX12_playedFrom_37 ?_
  refine G_iload (pc := 39) rfl dX12_playedFrom_39 ?_
  refine G_aload_n (pc := 41) rfl dX12_playedFrom_41 ?_
  refine G_iload_n (pc := 42) rfl dX12_playedFrom_42 ?_
  refine G_iconst (pc := 43) (v := 1) (by decide) dX12_playedFrom_43 ?_
  refine G_iadd (pc := 44) (z := 1) (by decide) dX12_playedFrom_44 ?_
  refine G_iload_n (pc := 45) rfl dX12_playedFrom_45 ?_
  refine G_callV (pc := 46) (mc1 := 0) (ms1 := 0) (ci := 12) (mj := mX12_playedFrom) (vs := [_, _]) dX12_playedFrom_46 rfl rfl cm_X12_playedFrom wh_119 wh_121 wh_122 rfl (Nat.le_of_ble_eq_true rfl) (Nat.le_of_ble_eq_true rfl) (Nat.le_of_ble_eq_true rfl) (Nat.le_of_ble_eq_true rfl) (s10204_X12_playedFrom J d  ) ?_
  rintro _ _ ⟨rfl, rfl⟩
  dsimp only [Option.toList, List.cons_append, List.nil_append]
  refine G_iadd (pc := 49) (z := 0) (by decide) dX12_playedFrom_49 ?_
  refine G_istore (pc := 50) (L1 := [some (.ref 67), some (.int 0), some (.int 2), some (.int 0), some (.int (-1)), some (.int 0), some (.int 0), some (.int 0), none]) rfl rfl (by decide) dX12_playedFrom_50 ?_
  refine G_aload_n (pc := 52) rfl dX12_playedFrom_52 ?_
  refine G_iload_n (pc := 53) rfl dX12_playedFrom_53 ?_
  refine G_callV (pc := 54) (mc1 := 0) (ms1 := 0) (ci := 12) (mj := mX12_restores) (vs := [_]) dX12_playedFrom_54 rfl rfl cm_X12_restores wh_111 wh_113 wh_114 rfl (Nat.le_of_ble_eq_true rfl) (Nat.le_of_ble_eq_true rfl) (Nat.le_of_ble_eq_true rfl) (Nat.le_of_ble_eq_true rfl) (restores_0 (d + 1) (gup (gcp (gup (gup (gcp (gup (gup (gcp (gmx J) 68 76 0 0 65) 68 0 1) 68 2 0) 68 76 0 65 65) 68 0 2) 68 2 0) 76 68 65 0 65) 77 1 0)) ?_
  rintro _ _ ⟨rfl, rfl⟩
  dsimp only [Option.toList, List.cons_append, List.nil_append]
  refine G_iload (pc := 57) rfl dX12_playedFrom_57 ?_
  refine G_if_lt (pc := 59) (tgt := 83) (by decide) dX12_playedFrom_59 (fun _ => ?_) (fun z => absurd (by decide) z)
  refine G_iconst (pc := 83) (v := 1) (by decide) dX12_playedFrom_83 ?_
  refine G_goto (pc := 84) (tgt := 88) (by decide) dX12_playedFrom_84 ?_
  refine G_istore (pc := 88) (L1 := [some (.ref 67), some (.int 0), some (.int 2), some (.int 0), some (.int (-1)), some (.int 0), some (.int 0), some (.int 0), some (.int 1)]) rfl rfl (by decide) dX12_playedFrom_88 ?_
  refine G_iload (pc := 90) rfl dX12_playedFrom_90 ?_
  refine G_if_eq (pc := 92) (tgt := 100) (by decide) dX12_playedFrom_92 (fun z => absurd z (by decide)) (fun _ => ?_)
  refine G_iload (pc := 95) rfl dX12_playedFrom_95 ?_
  refine G_goto (pc := 97) (tgt := 102) (by decide) dX12_playedFrom_97 ?_
  refine G_istore (pc := 102) (L1 := [some (.ref 67), some (.int 0), some (.int 2), some (.int 0), some (.int 0), some (.int 0), some (.int 0), some (.int 0), some (.int 1)]) rfl rfl (by decide) dX12_playedFrom_102 ?_
  refine G_iload (pc := 104) rfl dX12_playedFrom_104 ?_
  refine G_if_eq (pc := 106) (tgt := 114) (by decide) dX12_playedFrom_106 (fun z => absurd z (by decide)) (fun _ => ?_)
  refine G_iload (pc := 109) rfl dX12_playedFrom_109 ?_
  refine G_goto (pc := 111) (tgt := 115) (by decide) dX12_playedFrom_111 ?_
  refine G_istore_n (pc := 115) (L1 := [some (.ref 67), some (.int 0), some (.int 2), some (.int 0), some (.int 0), some (.int 0), some (.int 0), some (.int 0), some (.int 1)]) rfl rfl (by decide) dX12_playedFrom_115 ?_
  refine G_iinc (pc := 116) (v := 1) (w := 1) (L1 := [some (.ref 67), some (.int 0), some (.int 2), some (.int 0), some (.int 0), some (.int 1), some (.int 0), some (.int 0), some (.int 1)]) (by decide) rfl rfl (by decide) rfl (by decide) dX12_playedFrom_116 ?_
  refine G_goto (pc := 119) (tgt := 20) (by decide) dX12_playedFrom_119 ?_
  refine G_iload (pc := 20) rfl dX12_playedFrom_20 ?_
  refine G_aload_n (pc := 22) rfl dX12_playedFrom_22 ?_
  refine G_getR (pc := 23) (r := 68) (ci := 12) (j := 0) rfl lk_RX12_9 rfl rfl rfl dX12_playedFrom_23 ?_
  refine G_iconst (pc := 26) (v := 4) (by decide) dX12_playedFrom_26 ?_
  refine G_iald (pc := 27) (jj := 4) (v := 0) (by decide) rfl rfl (by unfold vp_in; decide) dX12_playedFrom_27 ?_
  refine G_icmp_gt (pc := 28) (tgt := 122) (by decide) dX12_playedFrom_28 (fun _ => ?_) (fun z => absurd (by decide) z)
  refine G_aload_n (pc := 122) rfl dX12_playedFrom_122 ?_
  refine G_getR (pc := 123) (r := 77) (ci := 12) (j := 17) rfl lk_RX12_38 rfl rfl rfl dX12_playedFrom_123 ?_
  refine G_iload_n (pc := 126) rfl dX12_playedFrom_126 ?_
  refine G_iload (pc := 127) rfl dX12_playedFrom_127 ?_
  refine G_iast (pc := 129) (jj := 0) (by decide) rfl (by unfold vp_in; decide) dX12_playedFrom_129 ?_
  refine G_iload_n (pc := 130) rfl dX12_playedFrom_130 ?_
  exact G_iret (pc := 131) (Nat.le_of_ble_eq_true rfl) (Nat.le_of_ble_eq_true rfl) rfl dX12_playedFrom_131 ⟨rfl, rfl⟩
set_option maxRecDepth 100000 in
set_option maxHeartbeats 4000000 in
theorem s10207_X12_daysOf (J : gI) (d : Nat)   : G (d + 1) mX12_daysOf 0 0 0 0 0 (gent 3 [.ref 67, .int 3]) [] SH0 RF0 (gmx J) (fun r h => r = some (.int 3) ∧ h = (SH0, RF0, (gmx J))) := by
  refine G_aload_n (pc := 0) rfl dX12_daysOf_0 ?_
  refine G_callV (pc := 1) (mc1 := 0) (ms1 := 0) (ci := 12) (mj := mX12_isOver) (vs := []) dX12_daysOf_1 rfl rfl cm_X12_isOver wh_22 wh_24 wh_25 rfl (Nat.le_of_ble_eq_true rfl) (Nat.le_of_ble_eq_true rfl) (Nat.le_of_ble_eq_true rfl) (Nat.le_of_ble_eq_true rfl) (s10011_X12_isOver J d  ) ?_
  rintro _ _ ⟨rfl, rfl⟩
  dsimp only [Option.toList, List.cons_append, List.nil_append]
  refine G_if_eq (pc := 4) (tgt := 11) (by decide) dX12_daysOf_4 (fun _ => ?_) (fun z => absurd (by decide) z)
  refine G_aload_n (pc := 11) rfl dX12_daysOf_11 ?_
  refine G_getR (pc := 12) (r := 68) (ci := 12) (j := 0) rfl lk_RX12_9 rfl rfl rfl dX12_daysOf_12 ?_
  refine G_iconst (pc := 15) (v := 1) (by decide) dX12_daysOf_15 ?_
  refine G_iald (pc := 16) (jj := 1) (v := 12) (by decide) rfl rfl (by unfold vp_in; decide) dX12_daysOf_16 ?_
  refine G_aload_n (pc := 17) rfl dX12_daysOf_17 ?_
  refine G_getR (pc := 18) (r := 68) (ci := 12) (j := 0) rfl lk_RX12_9 rfl rfl rfl dX12_daysOf_18 ?_
  refine G_iconst (pc := 21) (v := 0) (by decide) dX12_daysOf_21 ?_
  refine G_iald (pc := 22) (jj := 0) (v := 0) (by decide) rfl rfl (by unfold vp_in; decide) dX12_daysOf_22 ?_
  refine G_isub (pc := 23) (z := 12) (by decide) dX12_daysOf_23 ?_
  refine G_istore_n (pc := 24) (L1 := [some (.ref 67), some (.int 3), some (.int 12)]) rfl rfl (by decide) dX12_daysOf_24 ?_
  refine G_iload_n (pc := 25) rfl dX12_daysOf_25 ?_
  refine G_iload_n (pc := 26) rfl dX12_daysOf_26 ?_
  refine G_icmp_ge (pc := 27) (tgt := 34) (by decide) dX12_daysOf_27 (fun z => absurd z (by decide)) (fun _ => ?_)
  refine G_iload_n (pc := 30) rfl dX12_daysOf_30 ?_
  refine G_goto (pc := 31) (tgt := 35) (by decide) dX12_daysOf_31 ?_
  exact G_iret (pc := 35) (Nat.le_of_ble_eq_true rfl) (Nat.le_of_ble_eq_true rfl) rfl dX12_daysOf_35 ⟨rfl, rfl⟩
set_option maxRecDepth 100000 in
set_option maxHeartbeats 4000000 in
theorem s10211_X12_goesBy (J : gI) (d : Nat)   : G (d) mX12_goesBy 0 0 0 0 0 (gent 5 [.ref 67, .int 0]) [] SH0 RF0 (gcp (gup (gup (gcp (gup (gup (gcp (gmx J) 68 76 0 0 65) 68 0 1) 68 2 0) 68 76 0 65 65) 68 0 2) 68 2 0) 68 76 0 130 65) (fun r h => r = some (.int 0) ∧ h = (SH0, RF0, (gup (gup (gcp (gup (gup (gcp (gup (gup (gcp (gmx J) 68 76 0 0 65) 68 0 1) 68 2 0) 68 76 0 65 65) 68 0 2) 68 2 0) 68 76 0 130 65) 68 0 3) 68 2 0))) := by
  refine G_iload_n (pc := 0) rfl dX12_goesBy_0 ?_
  refine G_if_ge (pc := 1) (tgt := 11) (by decide) dX12_goesBy_1 (fun _ => ?_) (fun z => absurd (by decide) z)
  refine G_iload_n (pc := 11) rfl dX12_goesBy_11 ?_
  refine G_iconst (pc := 12) (v := 1) (by decide) dX12_goesBy_12 ?_
  refine G_isub (pc := 13) (z := (-1)) (by decide) dX12_goesBy_13 ?_
  refine G_istore_n (pc := 14) (L1 := [some (.ref 67), some (.int 0), some (.int (-1)), none, none]) rfl rfl (by decide) dX12_goesBy_14 ?_
  refine G_iload_n (pc := 15) rfl dX12_goesBy_15 ?_
  refine G_if_lt (pc := 16) (tgt := 27) (by decide) dX12_goesBy_16 (fun _ => ?_) (fun z => absurd (by decide) z)
  refine G_iconst (pc := 27) (v := 0) (by decide) dX12_goesBy_27 ?_
  refine G_istore_n (pc := 28) (L1 := [some (.ref 67), some (.int 0), some (.int (-1)), some (.int 0), none]) rfl rfl (by decide) dX12_goesBy_28 ?_
  refine G_iconst (pc := 29) (v := 0) (by decide) dX12_goesBy_29 ?_
  refine G_istore (pc := 30) (L1 := [some (.ref 67), some (.int 0), some (.int (-1)), some (.int 0), some (.int 0)]) rfl rfl (by decide) dX12_goesBy_30 ?_
  refine G_iload (pc := 32) rfl dX12_goesBy_32 ?_
  refine G_aload_n (pc := 34) rfl dX12_goesBy_34 ?_
  refine G_getR (pc := 35) (r := 68) (ci := 12) (j := 0) rfl lk_RX12_9 rfl rfl rfl dX12_goesBy_35 ?_
  refine G_iconst (pc := 38) (v := 4) (by decide) dX12_goesBy_38 ?_
  refine G_iald (pc := 39) (jj := 4) (v := 0) (by decide) rfl rfl (by unfold vp_in; decide) dX12_goesBy_39 ?_
  refine G_icmp_ge (pc := 40) (tgt := 104) (by decide) dX12_goesBy_40 (fun _ => ?_) (fun z => absurd (by decide) z)
  refine G_aload_n (pc := 104) rfl dX12_goesBy_104 ?_
  refine G_getR (pc := 105) (r := 68) (ci := 12) (j := 0) rfl lk_RX12_9 rfl rfl rfl dX12_goesBy_105 ?_
  refine G_iconst (pc := 108) (v := 0) (by decide) dX12_goesBy_108 ?_
  refine G_dup2 (pc := 109) rfl rfl dX12_goesBy_109 ?_
  refine G_iald (pc := 110) (jj := 0) (v := 2) (by decide) rfl rfl (by unfold vp_in; decide) dX12_goesBy_110 ?_
  refine G_iconst (pc := 111) (v := 1) (by decide) dX12_goesBy_111 ?_
  refine G_iadd (pc := 112) (z := 3) (by decide) dX12_goesBy_112 ?_
  refine G_iast (pc := 113) (jj := 0) (by decide) rfl (by unfold vp_in; decide) dX12_goesBy_113 ?_
  refine G_aload_n (pc := 114) rfl dX12_goesBy_114 ?_
  refine G_getR (pc := 115) (r := 68) (ci := 12) (j := 0) rfl lk_RX12_9 rfl rfl rfl dX12_goesBy_115 ?_
  refine G_iconst (pc := 118) (v := 2) (by decide) dX12_goesBy_118 ?_
  refine G_dup2 (pc := 119) rfl rfl dX12_goesBy_119 ?_
  refine G_iald (pc := 120) (jj := 2) (v := 0) (by decide) rfl rfl (by unfold vp_in; decide) dX12_goesBy_120 ?_
  refine G_iload_n (pc := 121) rfl dX12_goesBy_121 ?_
  refine G_iadd (pc := 122) (z := 0) (by decide) dX12_goesBy_122 ?_
  refine G_iast (pc := 123) (jj := 2) (by decide) rfl (by unfold vp_in; decide) dX12_goesBy_123 ?_
  refine G_iload_n (pc := 124) rfl dX12_goesBy_124 ?_
  exact G_iret (pc := 125) (Nat.le_of_ble_eq_true rfl) (Nat.le_of_ble_eq_true rfl) rfl dX12_goesBy_125 ⟨rfl, rfl⟩
set_option maxRecDepth 100000 in
set_option maxHeartbeats 4000000 in
theorem s10212_X12_playedFrom (J : gI) (d : Nat)   : G (d) mX12_playedFrom 0 0 0 0 0 (gent 9 [.ref 67, .int 3, .int 3]) [] SH0 RF0 (gup (gup (gcp (gup (gup (gcp (gup (gup (gcp (gmx J) 68 76 0 0 65) 68 0 1) 68 2 0) 68 76 0 65 65) 68 0 2) 68 2 0) 68 76 0 130 65) 68 0 3) 68 2 0) (fun r h => r = some (.int 0) ∧ h = (SH0, RF0, (gup (gup (gcp (gup (gup (gcp (gup (gup (gcp (gmx J) 68 76 0 0 65) 68 0 1) 68 2 0) 68 76 0 65 65) 68 0 2) 68 2 0) 68 76 0 130 65) 68 0 3) 68 2 0))) := by
  refine G_iload_n (pc := 0) rfl dX12_playedFrom_0 ?_
  refine G_iload_n (pc := 1) rfl dX12_playedFrom_1 ?_
  refine G_icmp_ne (pc := 2) (tgt := 7) (by decide) dX12_playedFrom_2 (fun z => absurd (by decide) z) (fun _ => ?_)
  refine G_iconst (pc := 5) (v := 0) (by decide) dX12_playedFrom_5 ?_
  exact G_iret (pc := 6) (Nat.le_of_ble_eq_true rfl) (Nat.le_of_ble_eq_true rfl) rfl dX12_playedFrom_6 ⟨rfl, rfl⟩
set_option maxRecDepth 100000 in
set_option maxHeartbeats 4000000 in
theorem s10210_X12_playedFrom (J : gI) (d : Nat)   : G (d + 1) mX12_playedFrom 0 0 0 0 0 (gent 9 [.ref 67, .int 2, .int 3]) [] SH0 RF0 (gup (gup (gcp (gup (gup (gcp (gmx J) 68 76 0 0 65) 68 0 1) 68 2 0) 68 76 0 65 65) 68 0 2) 68 2 0) (fun r h => r = some (.int 0) ∧ h = (SH0, RF0, (gup (gcp (gup (gup (gcp (gup (gup (gcp (gup (gup (gcp (gmx J) 68 76 0 0 65) 68 0 1) 68 2 0) 68 76 0 65 65) 68 0 2) 68 2 0) 68 76 0 130 65) 68 0 3) 68 2 0) 76 68 130 0 65) 77 2 0))) := by
  refine G_iload_n (pc := 0) rfl dX12_playedFrom_0 ?_
  refine G_iload_n (pc := 1) rfl dX12_playedFrom_1 ?_
  refine G_icmp_ne (pc := 2) (tgt := 7) (by decide) dX12_playedFrom_2 (fun _ => ?_) (fun z => absurd z (by decide))
  refine G_aload_n (pc := 7) rfl dX12_playedFrom_7 ?_
  refine G_iload_n (pc := 8) rfl dX12_playedFrom_8 ?_
  refine G_callV (pc := 9) (mc1 := 0) (ms1 := 0) (ci := 12) (mj := mX12_saves) (vs := [_]) dX12_playedFrom_9 rfl rfl cm_X12_saves wh_107 wh_109 wh_110 rfl (Nat.le_of_ble_eq_true rfl) (Nat.le_of_ble_eq_true rfl) (Nat.le_of_ble_eq_true rfl) (Nat.le_of_ble_eq_true rfl) (saves_2 d (gup (gup (gcp (gup (gup (gcp (gmx J) 68 76 0 0 65) 68 0 1) 68 2 0) 68 76 0 65 65) 68 0 2) 68 2 0)) ?_
  rintro _ _ ⟨rfl, rfl⟩
  dsimp only [Option.toList, List.cons_append, List.nil_append]
  refine G_iconst (pc := 12) (v := 0) (by decide) dX12_playedFrom_12 ?_
  refine G_istore_n (pc := 13) (L1 := [some (.ref 67), some (.int 2), some (.int 3), some (.int 0), none, none, none, none, none]) rfl rfl (by decide) dX12_playedFrom_13 ?_
  refine G_iconst (pc := 14) (v := (-1)) (by decide) dX12_playedFrom_14 ?_
  refine G_istore (pc := 15) (L1 := [some (.ref 67), some (.int 2), some (.int 3), some (.int 0), some (.int (-1)), none, none, none, none]) rfl rfl (by decide) dX12_playedFrom_15 ?_
  refine G_iconst (pc := 17) (v := 0) (by decide) dX12_playedFrom_17 ?_
  refine G_istore (pc := 18) (L1 := [some (.ref 67), some (.int 2), some (.int 3), some (.int 0), some (.int (-1)), some (.int 0), none, none, none]) rfl rfl (by decide) dX12_playedFrom_18 ?_
  refine G_iload (pc := 20) rfl dX12_playedFrom_20 ?_
  refine G_aload_n (pc := 22) rfl dX12_playedFrom_22 ?_
  refine G_getR (pc := 23) (r := 68) (ci := 12) (j := 0) rfl lk_RX12_9 rfl rfl rfl dX12_playedFrom_23 ?_
  refine G_iconst (pc := 26) (v := 4) (by decide) dX12_playedFrom_26 ?_
  refine G_iald (pc := 27) (jj := 4) (v := 0) (by decide) rfl rfl (by unfold vp_in; decide) dX12_playedFrom_27 ?_
  refine G_icmp_gt (pc := 28) (tgt := 122) (by decide) dX12_playedFrom_28 (fun z => absurd z (by decide)) (fun _ => ?_)
  refine G_aload_n (pc := 31) rfl dX12_playedFrom_31 ?_
  refine G_iload (pc := 32) rfl dX12_playedFrom_32 ?_
  refine G_callV (pc := 34) (mc1 := 0) (ms1 := 0) (ci := 12) (mj := mX12_goesBy) (vs := [_]) dX12_playedFrom_34 rfl rfl cm_X12_goesBy wh_72 wh_74 wh_75 rfl (Nat.le_of_ble_eq_true rfl) (Nat.le_of_ble_eq_true rfl) (Nat.le_of_ble_eq_true rfl) (Nat.le_of_ble_eq_true rfl) (s10211_X12_goesBy J d  ) ?_
  rintro _ _ ⟨rfl, rfl⟩
  dsimp only [Option.toList, List.cons_append, List.nil_append]
  refine G_istore (pc := 37) (L1 := [some (.ref 67), some (.int 2), some (.int 3), some (.int 0), some (.int (-1)), some (.int 0), some (.int 0), none, none]) rfl rfl (by decide) dX12_playedFrom_37 ?_
  refine G_iload (pc := 39) rfl dX12_playedFrom_39 ?_
  refine G_aload_n (pc := 41) rfl dX12_playedFrom_41 ?_
  refine G_iload_n (pc := 42) rfl dX12_playedFrom_42 ?_
  refine G_iconst (pc := 43) (v := 1) (by decide) dX12_playedFrom_43 ?_
  refine G_iadd (pc := 44) (z := 3) (by decide) dX12_playedFrom_44 ?_
  refine G_iload_n (pc := 45) rfl dX12_playedFrom_45 ?_
  refine G_callV (pc := 46) (mc1 := 0) (ms1 := 0) (ci := 12) (mj := mX12_playedFrom) (vs := [_, _]) dX12_playedFrom_46 rfl rfl cm_X12_playedFrom wh_119 wh_121 wh_122 rfl (Nat.le_of_ble_eq_true rfl) (Nat.le_of_ble_eq_true rfl) (Nat.le_of_ble_eq_true rfl) (Nat.le_of_ble_eq_true rfl) (s10212_X12_playedFrom J d  ) ?_
  rintro _ _ ⟨rfl, rfl⟩
  dsimp only [Option.toList, List.cons_append, List.nil_append]
  refine G_iadd (pc := 49) (z := 0) (by decide) dX12_playedFrom_49 ?_
  refine G_istore (pc := 50) (L1 := [some (.ref 67), some (.int 2), some (.int 3), some (.int 0), some (.int (-1)), some (.int 0), some (.int 0), some (.int 0), none]) rfl rfl (by decide) dX12_playedFrom_50 ?_
  refine G_aload_n (pc := 52) rfl dX12_playedFrom_52 ?_
  refine G_iload_n (pc := 53) rfl dX12_playedFrom_53 ?_
  refine G_callV (pc := 54) (mc1 := 0) (ms1 := 0) (ci := 12) (mj := mX12_restores) (vs := [_]) dX12_playedFrom_54 rfl rfl cm_X12_restores wh_111 wh_113 wh_114 rfl (Nat.le_of_ble_eq_true rfl) (Nat.le_of_ble_eq_true rfl) (Nat.le_of_ble_eq_true rfl) (Nat.le_of_ble_eq_true rfl) (restores_2 d (gup (gup (gcp (gup (gup (gcp (gup (gup (gcp (gmx J) 68 76 0 0 65) 68 0 1) 68 2 0) 68 76 0 65 65) 68 0 2) 68 2 0) 68 76 0 130 65) 68 0 3) 68 2 0)) ?_
  rintro _ _ ⟨rfl, rfl⟩
  dsimp only [Option.toList, List.cons_append, List.nil_append]
  refine G_iload (pc := 57) rfl dX12_playedFrom_57 ?_
  refine G_if_lt (pc := 59) (tgt := 83) (by decide) dX12_playedFrom_59 (fun _ => ?_) (fun z => absurd (by decide) z)
  refine G_iconst (pc := 83) (v := 1) (by decide) dX12_playedFrom_83 ?_
  refine G_goto (pc := 84) (tgt := 88) (by decide) dX12_playedFrom_84 ?_
  refine G_istore (pc := 88) (L1 := [some (.ref 67), some (.int 2), some (.int 3), some (.int 0), some (.int (-1)), some (.int 0), some (.int 0), some (.int 0), some (.int 1)]) rfl rfl (by decide) dX12_playedFrom_88 ?_
  refine G_iload (pc := 90) rfl dX12_playedFrom_90 ?_
  refine G_if_eq (pc := 92) (tgt := 100) (by decide) dX12_playedFrom_92 (fun z => absurd z (by decide)) (fun _ => ?_)
  refine G_iload (pc := 95) rfl dX12_playedFrom_95 ?_
  refine G_goto (pc := 97) (tgt := 102) (by decide) dX12_playedFrom_97 ?_
  refine G_istore (pc := 102) (L1 := [some (.ref 67), some (.int 2), some (.int 3), some (.int 0), some (.int 0), some (.int 0), some (.int 0), some (.int 0), some (.int 1)]) rfl rfl (by decide) dX12_playedFrom_102 ?_
  refine G_iload (pc := 104) rfl dX12_playedFrom_104 ?_
  refine G_if_eq (pc := 106) (tgt := 114) (by decide) dX12_playedFrom_106 (fun z => absurd z (by decide)) (fun _ => ?_)
  refine G_iload (pc := 109) rfl dX12_playedFrom_109 ?_
  refine G_goto (pc := 111) (tgt := 115) (by decide) dX12_playedFrom_111 ?_
  refine G_istore_n (pc := 115) (L1 := [some (.ref 67), some (.int 2), some (.int 3), some (.int 0), some (.int 0), some (.int 0), some (.int 0), some (.int 0), some (.int 1)]) rfl rfl (by decide) dX12_playedFrom_115 ?_
  refine G_iinc (pc := 116) (v := 1) (w := 1) (L1 := [some (.ref 67), some (.int 2), some (.int 3), some (.int 0), some (.int 0), some (.int 1), some (.int 0), some (.int 0), some (.int 1)]) (by decide) rfl rfl (by decide) rfl (by decide) dX12_playedFrom_116 ?_
  refine G_goto (pc := 119) (tgt := 20) (by decide) dX12_playedFrom_119 ?_
  refine G_iload (pc := 20) rfl dX12_playedFrom_20 ?_
  refine G_aload_n (pc := 22) rfl dX12_playedFrom_22 ?_
  refine G_getR (pc := 23) (r := 68) (ci := 12) (j := 0) rfl lk_RX12_9 rfl rfl rfl dX12_playedFrom_23 ?_
  refine G_iconst (pc := 26) (v := 4) (by decide) dX12_playedFrom_26 ?_
  refine G_iald (pc := 27) (jj := 4) (v := 0) (by decide) rfl rfl (by unfold vp_in; decide) dX12_playedFrom_27 ?_
  refine G_icmp_gt (pc := 28) (tgt := 122) (by decide) dX12_playedFrom_28 (fun _ => ?_) (fun z => absurd (by decide) z)
  refine G_aload_n (pc := 122) rfl dX12_playedFrom_122 ?_
  refine G_getR (pc := 123) (r := 77) (ci := 12) (j := 17) rfl lk_RX12_38 rfl rfl rfl dX12_playedFrom_123 ?_
  refine G_iload_n (pc := 126) rfl dX12_playedFrom_126 ?_
  refine G_iload (pc := 127) rfl dX12_playedFrom_127 ?_
  refine G_iast (pc := 129) (jj := 2) (by decide) rfl (by unfold vp_in; decide) dX12_playedFrom_129 ?_
  refine G_iload_n (pc := 130) rfl dX12_playedFrom_130 ?_
  exact G_iret (pc := 131) (Nat.le_of_ble_eq_true rfl) (Nat.le_of_ble_eq_true rfl) rfl dX12_playedFrom_131 ⟨rfl, rfl⟩
set_option maxRecDepth 100000 in
set_option maxHeartbeats 4000000 in
theorem s10209_X12_playedFrom (J : gI) (d : Nat)   : G (d + 2) mX12_playedFrom 0 0 0 0 0 (gent 9 [.ref 67, .int 1, .int 3]) [] SH0 RF0 (gup (gup (gcp (gmx J) 68 76 0 0 65) 68 0 1) 68 2 0) (fun r h => r = some (.int 0) ∧ h = (SH0, RF0, (gup (gcp (gup (gcp (gup (gup (gcp (gup (gup (gcp (gup (gup (gcp (gmx J) 68 76 0 0 65) 68 0 1) 68 2 0) 68 76 0 65 65) 68 0 2) 68 2 0) 68 76 0 130 65) 68 0 3) 68 2 0) 76 68 130 0 65) 77 2 0) 76 68 65 0 65) 77 1 0))) := by
  refine G_iload_n (pc := 0) rfl dX12_playedFrom_0 ?_
  refine G_iload_n (pc := 1) rfl dX12_playedFrom_1 ?_
  refine G_icmp_ne (pc := 2) (tgt := 7) (by decide) dX12_playedFrom_2 (fun _ => ?_) (fun z => absurd z (by decide))
  refine G_aload_n (pc := 7) rfl dX12_playedFrom_7 ?_
  refine G_iload_n (pc := 8) rfl dX12_playedFrom_8 ?_
  refine G_callV (pc := 9) (mc1 := 0) (ms1 := 0) (ci := 12) (mj := mX12_saves) (vs := [_]) dX12_playedFrom_9 rfl rfl cm_X12_saves wh_107 wh_109 wh_110 rfl (Nat.le_of_ble_eq_true rfl) (Nat.le_of_ble_eq_true rfl) (Nat.le_of_ble_eq_true rfl) (Nat.le_of_ble_eq_true rfl) (saves_1 (d + 1) (gup (gup (gcp (gmx J) 68 76 0 0 65) 68 0 1) 68 2 0)) ?_
  rintro _ _ ⟨rfl, rfl⟩
  dsimp only [Option.toList, List.cons_append, List.nil_append]
  refine G_iconst (pc := 12) (v := 0) (by decide) dX12_playedFrom_12 ?_
  refine G_istore_n (pc := 13) (L1 := [some (.ref 67), some (.int 1), some (.int 3), some (.int 0), none, none, none, none, none]) rfl rfl (by decide) dX12_playedFrom_13 ?_
  refine G_iconst (pc := 14) (v := (-1)) (by decide) dX12_playedFrom_14 ?_
  refine G_istore (pc := 15) (L1 := [some (.ref 67), some (.int 1), some (.int 3), some (.int 0), some (.int (-1)), none, none, none, none]) rfl rfl (by decide) dX12_playedFrom_15 ?_
  refine G_iconst (pc := 17) (v := 0) (by decide) dX12_playedFrom_17 ?_
  refine G_istore (pc := 18) (L1 := [some (.ref 67), some (.int 1), some (.int 3), some (.int 0), some (.int (-1)), some (.int 0), none, none, none]) rfl rfl (by decide) dX12_playedFrom_18 ?_
  refine G_iload (pc := 20) rfl dX12_playedFrom_20 ?_
  refine G_aload_n (pc := 22) rfl dX12_playedFrom_22 ?_
  refine G_getR (pc := 23) (r := 68) (ci := 12) (j := 0) rfl lk_RX12_9 rfl rfl rfl dX12_playedFrom_23 ?_
  refine G_iconst (pc := 26) (v := 4) (by decide) dX12_playedFrom_26 ?_
  refine G_iald (pc := 27) (jj := 4) (v := 0) (by decide) rfl rfl (by unfold vp_in; decide) dX12_playedFrom_27 ?_
  refine G_icmp_gt (pc := 28) (tgt := 122) (by decide) dX12_playedFrom_28 (fun z => absurd z (by decide)) (fun _ => ?_)
  refine G_aload_n (pc := 31) rfl dX12_playedFrom_31 ?_
  refine G_iload (pc := 32) rfl dX12_playedFrom_32 ?_
  refine G_callV (pc := 34) (mc1 := 0) (ms1 := 0) (ci := 12) (mj := mX12_goesBy) (vs := [_]) dX12_playedFrom_34 rfl rfl cm_X12_goesBy wh_72 wh_74 wh_75 rfl (Nat.le_of_ble_eq_true rfl) (Nat.le_of_ble_eq_true rfl) (Nat.le_of_ble_eq_true rfl) (Nat.le_of_ble_eq_true rfl) (s10205_X12_goesBy J (d + 1)  ) ?_
  rintro _ _ ⟨rfl, rfl⟩
  dsimp only [Option.toList, List.cons_append, List.nil_append]
  refine G_istore (pc := 37) (L1 := [some (.ref 67), some (.int 1), some (.int 3), some (.int 0), some (.int (-1)), some (.int 0), some (.int 0), none, none]) rfl rfl (by decide) dX12_playedFrom_37 ?_
  refine G_iload (pc := 39) rfl dX12_playedFrom_39 ?_
  refine G_aload_n (pc := 41) rfl dX12_playedFrom_41 ?_
  refine G_iload_n (pc := 42) rfl dX12_playedFrom_42 ?_
  refine G_iconst (pc := 43) (v := 1) (by decide) dX12_playedFrom_43 ?_
  refine G_iadd (pc := 44) (z := 2) (by decide) dX12_playedFrom_44 ?_
  refine G_iload_n (pc := 45) rfl dX12_playedFrom_45 ?_
  refine G_callV (pc := 46) (mc1 := 0) (ms1 := 0) (ci := 12) (mj := mX12_playedFrom) (vs := [_, _]) dX12_playedFrom_46 rfl rfl cm_X12_playedFrom wh_119 wh_121 wh_122 rfl (Nat.le_of_ble_eq_true rfl) (Nat.le_of_ble_eq_true rfl) (Nat.le_of_ble_eq_true rfl) (Nat.le_of_ble_eq_true rfl) (s10210_X12_playedFrom J d  ) ?_
  rintro _ _ ⟨rfl, rfl⟩
  dsimp only [Option.toList, List.cons_append, List.nil_append]
  refine G_iadd (pc := 49) (z := 0) (by decide) dX12_playedFrom_49 ?_
  refine G_istore (pc := 50) (L1 := [some (.ref 67), some (.int 1), some (.int 3), some (.int 0), some (.int (-1)), some (.int 0), some (.int 0), some (.int 0), none]) rfl rfl (by decide) dX12_playedFrom_50 ?_
  refine G_aload_n (pc := 52) rfl dX12_playedFrom_52 ?_
  refine G_iload_n (pc := 53) rfl dX12_playedFrom_53 ?_
  refine G_callV (pc := 54) (mc1 := 0) (ms1 := 0) (ci := 12) (mj := mX12_restores) (vs := [_]) dX12_playedFrom_54 rfl rfl cm_X12_restores wh_111 wh_113 wh_114 rfl (Nat.le_of_ble_eq_true rfl) (Nat.le_of_ble_eq_true rfl) (Nat.le_of_ble_eq_true rfl) (Nat.le_of_ble_eq_true rfl) (restores_1 (d + 1) (gup (gcp (gup (gup (gcp (gup (gup (gcp (gup (gup (gcp (gmx J) 68 76 0 0 65) 68 0 1) 68 2 0) 68 76 0 65 65) 68 0 2) 68 2 0) 68 76 0 130 65) 68 0 3) 68 2 0) 76 68 130 0 65) 77 2 0)) ?_
  rintro _ _ ⟨rfl, rfl⟩
  dsimp only [Option.toList, List.cons_append, List.nil_append]
  refine G_iload (pc := 57) rfl dX12_playedFrom_57 ?_
  refine G_if_lt (pc := 59) (tgt := 83) (by decide) dX12_playedFrom_59 (fun _ => ?_) (fun z => absurd (by decide) z)
  refine G_iconst (pc := 83) (v := 1) (by decide) dX12_playedFrom_83 ?_
  refine G_goto (pc := 84) (tgt := 88) (by decide) dX12_playedFrom_84 ?_
  refine G_istore (pc := 88) (L1 := [some (.ref 67), some (.int 1), some (.int 3), some (.int 0), some (.int (-1)), some (.int 0), some (.int 0), some (.int 0), some (.int 1)]) rfl rfl (by decide) dX12_playedFrom_88 ?_
  refine G_iload (pc := 90) rfl dX12_playedFrom_90 ?_
  refine G_if_eq (pc := 92) (tgt := 100) (by decide) dX12_playedFrom_92 (fun z => absurd z (by decide)) (fun _ => ?_)
  refine G_iload (pc := 95) rfl dX12_playedFrom_95 ?_
  refine G_goto (pc := 97) (tgt := 102) (by decide) dX12_playedFrom_97 ?_
  refine G_istore (pc := 102) (L1 := [some (.ref 67), some (.int 1), some (.int 3), some (.int 0), some (.int 0), some (.int 0), some (.int 0), some (.int 0), some (.int 1)]) rfl rfl (by decide) dX12_playedFrom_102 ?_
  refine G_iload (pc := 104) rfl dX12_playedFrom_104 ?_
  refine G_if_eq (pc := 106) (tgt := 114) (by decide) dX12_playedFrom_106 (fun z => absurd z (by decide)) (fun _ => ?_)
  refine G_iload (pc := 109) rfl dX12_playedFrom_109 ?_
  refine G_goto (pc := 111) (tgt := 115) (by decide) dX12_playedFrom_111 ?_
  refine G_istore_n (pc := 115) (L1 := [some (.ref 67), some (.int 1), some (.int 3), some (.int 0), some (.int 0), some (.int 0), some (.int 0), some (.int 0), some (.int 1)]) rfl rfl (by decide) dX12_playedFrom_115 ?_
  refine G_iinc (pc := 116) (v := 1) (w := 1) (L1 := [some (.ref 67), some (.int 1), some (.int 3), some (.int 0), some (.int 0), some (.int 1), some (.int 0), some (.int 0), some (.int 1)]) (by decide) rfl rfl (by decide) rfl (by decide) dX12_playedFrom_116 ?_
  refine G_goto (pc := 119) (tgt := 20) (by decide) dX12_playedFrom_119 ?_
  refine G_iload (pc := 20) rfl dX12_playedFrom_20 ?_
  refine G_aload_n (pc := 22) rfl dX12_playedFrom_22 ?_
  refine G_getR (pc := 23) (r := 68) (ci := 12) (j := 0) rfl lk_RX12_9 rfl rfl rfl dX12_playedFrom_23 ?_
  refine G_iconst (pc := 26) (v := 4) (by decide) dX12_playedFrom_26 ?_
  refine G_iald (pc := 27) (jj := 4) (v := 0) (by decide) rfl rfl (by unfold vp_in; decide) dX12_playedFrom_27 ?_
  refine G_icmp_gt (pc := 28) (tgt := 122) (by decide) dX12_playedFrom_28 (fun _ => ?_) (fun z => absurd (by decide) z)
  refine G_aload_n (pc := 122) rfl dX12_playedFrom_122 ?_
  refine G_getR (pc := 123) (r := 77) (ci := 12) (j := 17) rfl lk_RX12_38 rfl rfl rfl dX12_playedFrom_123 ?_
  refine G_iload_n (pc := 126) rfl dX12_playedFrom_126 ?_
  refine G_iload (pc := 127) rfl dX12_playedFrom_127 ?_
  refine G_iast (pc := 129) (jj := 1) (by decide) rfl (by unfold vp_in; decide) dX12_playedFrom_129 ?_
  refine G_iload_n (pc := 130) rfl dX12_playedFrom_130 ?_
  exact G_iret (pc := 131) (Nat.le_of_ble_eq_true rfl) (Nat.le_of_ble_eq_true rfl) rfl dX12_playedFrom_131 ⟨rfl, rfl⟩
set_option maxRecDepth 100000 in
set_option maxHeartbeats 4000000 in
theorem s10208_X12_playedFrom (J : gI) (d : Nat)   : G (d + 3) mX12_playedFrom 0 0 0 0 0 (gent 9 [.ref 67, .int 0, .int 3]) [] SH0 RF0 (gmx J) (fun r h => r = some (.int 0) ∧ h = (SH0, RF0, (gup (gcp (gup (gcp (gup (gcp (gup (gup (gcp (gup (gup (gcp (gup (gup (gcp (gmx J) 68 76 0 0 65) 68 0 1) 68 2 0) 68 76 0 65 65) 68 0 2) 68 2 0) 68 76 0 130 65) 68 0 3) 68 2 0) 76 68 130 0 65) 77 2 0) 76 68 65 0 65) 77 1 0) 76 68 0 0 65) 77 0 0))) := by
  refine G_iload_n (pc := 0) rfl dX12_playedFrom_0 ?_
  refine G_iload_n (pc := 1) rfl dX12_playedFrom_1 ?_
  refine G_icmp_ne (pc := 2) (tgt := 7) (by decide) dX12_playedFrom_2 (fun _ => ?_) (fun z => absurd z (by decide))
  refine G_aload_n (pc := 7) rfl dX12_playedFrom_7 ?_
  refine G_iload_n (pc := 8) rfl dX12_playedFrom_8 ?_
  refine G_callV (pc := 9) (mc1 := 0) (ms1 := 0) (ci := 12) (mj := mX12_saves) (vs := [_]) dX12_playedFrom_9 rfl rfl cm_X12_saves wh_107 wh_109 wh_110 rfl (Nat.le_of_ble_eq_true rfl) (Nat.le_of_ble_eq_true rfl) (Nat.le_of_ble_eq_true rfl) (Nat.le_of_ble_eq_true rfl) (saves_0 (d + 2) (gmx J)) ?_
  rintro _ _ ⟨rfl, rfl⟩
  dsimp only [Option.toList, List.cons_append, List.nil_append]
  refine G_iconst (pc := 12) (v := 0) (by decide) dX12_playedFrom_12 ?_
  refine G_istore_n (pc := 13) (L1 := [some (.ref 67), some (.int 0), some (.int 3), some (.int 0), none, none, none, none, none]) rfl rfl (by decide) dX12_playedFrom_13 ?_
  refine G_iconst (pc := 14) (v := (-1)) (by decide) dX12_playedFrom_14 ?_
  refine G_istore (pc := 15) (L1 := [some (.ref 67), some (.int 0), some (.int 3), some (.int 0), some (.int (-1)), none, none, none, none]) rfl rfl (by decide) dX12_playedFrom_15 ?_
  refine G_iconst (pc := 17) (v := 0) (by decide) dX12_playedFrom_17 ?_
  refine G_istore (pc := 18) (L1 := [some (.ref 67), some (.int 0), some (.int 3), some (.int 0), some (.int (-1)), some (.int 0), none, none, none]) rfl rfl (by decide) dX12_playedFrom_18 ?_
  refine G_iload (pc := 20) rfl dX12_playedFrom_20 ?_
  refine G_aload_n (pc := 22) rfl dX12_playedFrom_22 ?_
  refine G_getR (pc := 23) (r := 68) (ci := 12) (j := 0) rfl lk_RX12_9 rfl rfl rfl dX12_playedFrom_23 ?_
  refine G_iconst (pc := 26) (v := 4) (by decide) dX12_playedFrom_26 ?_
  refine G_iald (pc := 27) (jj := 4) (v := 0) (by decide) rfl rfl (by unfold vp_in; decide) dX12_playedFrom_27 ?_
  refine G_icmp_gt (pc := 28) (tgt := 122) (by decide) dX12_playedFrom_28 (fun z => absurd z (by decide)) (fun _ => ?_)
  refine G_aload_n (pc := 31) rfl dX12_playedFrom_31 ?_
  refine G_iload (pc := 32) rfl dX12_playedFrom_32 ?_
  refine G_callV (pc := 34) (mc1 := 0) (ms1 := 0) (ci := 12) (mj := mX12_goesBy) (vs := [_]) dX12_playedFrom_34 rfl rfl cm_X12_goesBy wh_72 wh_74 wh_75 rfl (Nat.le_of_ble_eq_true rfl) (Nat.le_of_ble_eq_true rfl) (Nat.le_of_ble_eq_true rfl) (Nat.le_of_ble_eq_true rfl) (s10200_X12_goesBy J (d + 2)  ) ?_
  rintro _ _ ⟨rfl, rfl⟩
  dsimp only [Option.toList, List.cons_append, List.nil_append]
  refine G_istore (pc := 37) (L1 := [some (.ref 67), some (.int 0), some (.int 3), some (.int 0), some (.int (-1)), some (.int 0), some (.int 0), none, none]) rfl rfl (by decide) dX12_playedFrom_37 ?_
  refine G_iload (pc := 39) rfl dX12_playedFrom_39 ?_
  refine G_aload_n (pc := 41) rfl dX12_playedFrom_41 ?_
  refine G_iload_n (pc := 42) rfl dX12_playedFrom_42 ?_
  refine G_iconst (pc := 43) (v := 1) (by decide) dX12_playedFrom_43 ?_
  refine G_iadd (pc := 44) (z := 1) (by decide) dX12_playedFrom_44 ?_
  refine G_iload_n (pc := 45) rfl dX12_playedFrom_45 ?_
  refine G_callV (pc := 46) (mc1 := 0) (ms1 := 0) (ci := 12) (mj := mX12_playedFrom) (vs := [_, _]) dX12_playedFrom_46 rfl rfl cm_X12_playedFrom wh_119 wh_121 wh_122 rfl (Nat.le_of_ble_eq_true rfl) (Nat.le_of_ble_eq_true rfl) (Nat.le_of_ble_eq_true rfl) (Nat.le_of_ble_eq_true rfl) (s10209_X12_playedFrom J d  ) ?_
  rintro _ _ ⟨rfl, rfl⟩
  dsimp only [Option.toList, List.cons_append, List.nil_append]
  refine G_iadd (pc := 49) (z := 0) (by decide) dX12_playedFrom_49 ?_
  refine G_istore (pc := 50) (L1 := [some (.ref 67), some (.int 0), some (.int 3), some (.int 0), some (.int (-1)), some (.int 0), some (.int 0), some (.int 0), none]) rfl rfl (by decide) dX12_playedFrom_50 ?_
  refine G_aload_n (pc := 52) rfl dX12_playedFrom_52 ?_
  refine G_iload_n (pc := 53) rfl dX12_playedFrom_53 ?_
  refine G_callV (pc := 54) (mc1 := 0) (ms1 := 0) (ci := 12) (mj := mX12_restores) (vs := [_]) dX12_playedFrom_54 rfl rfl cm_X12_restores wh_111 wh_113 wh_114 rfl (Nat.le_of_ble_eq_true rfl) (Nat.le_of_ble_eq_true rfl) (Nat.le_of_ble_eq_true rfl) (Nat.le_of_ble_eq_true rfl) (restores_0 (d + 2) (gup (gcp (gup (gcp (gup (gup (gcp (gup (gup (gcp (gup (gup (gcp (gmx J) 68 76 0 0 65) 68 0 1) 68 2 0) 68 76 0 65 65) 68 0 2) 68 2 0) 68 76 0 130 65) 68 0 3) 68 2 0) 76 68 130 0 65) 77 2 0) 76 68 65 0 65) 77 1 0)) ?_
  rintro _ _ ⟨rfl, rfl⟩
  dsimp only [Option.toList, List.cons_append, List.nil_append]
  refine G_iload (pc := 57) rfl dX12_playedFrom_57 ?_
  refine G_if_lt (pc := 59) (tgt := 83) (by decide) dX12_playedFrom_59 (fun _ => ?_) (fun z => absurd (by decide) z)
  refine G_iconst (pc := 83) (v := 1) (by decide) dX12_playedFrom_83 ?_
  refine G_goto (pc := 84) (tgt := 88) (by decide) dX12_playedFrom_84 ?_
  refine G_istore (pc := 88) (L1 := [some (.ref 67), some (.int 0), some (.int 3), some (.int 0), some (.int (-1)), some (.int 0), some (.int 0), some (.int 0), some (.int 1)]) rfl rfl (by decide) dX12_playedFrom_88 ?_
  refine G_iload (pc := 90) rfl dX12_playedFrom_90 ?_
  refine G_if_eq (pc := 92) (tgt := 100) (by decide) dX12_playedFrom_92 (fun z => absurd z (by decide)) (fun _ => ?_)
  refine G_iload (pc := 95) rfl dX12_playedFrom_95 ?_
  refine G_goto (pc := 97) (tgt := 102) (by decide) dX12_playedFrom_97 ?_
  refine G_istore (pc := 102) (L1 := [some (.ref 67), some (.int 0), some (.int 3), some (.int 0), some (.int 0), some (.int 0), some (.int 0), some (.int 0), some (.int 1)]) rfl rfl (by decide) dX12_playedFrom_102 ?_
  refine G_iload (pc := 104) rfl dX12_playedFrom_104 ?_
  refine G_if_eq (pc := 106) (tgt := 114) (by decide) dX12_playedFrom_106 (fun z => absurd z (by decide)) (fun _ => ?_)
  refine G_iload (pc := 109) rfl dX12_playedFrom_109 ?_
  refine G_goto (pc := 111) (tgt := 115) (by decide) dX12_playedFrom_111 ?_
  refine G_istore_n (pc := 115) (L1 := [some (.ref 67), some (.int 0), some (.int 3), some (.int 0), some (.int 0), some (.int 0), some (.int 0), some (.int 0), some (.int 1)]) rfl rfl (by decide) dX12_playedFrom_115 ?_
  refine G_iinc (pc := 116) (v := 1) (w := 1) (L1 := [some (.ref 67), some (.int 0), some (.int 3), some (.int 0), some (.int 0), some (.int 1), some (.int 0), some (.int 0), some (.int 1)]) (by decide) rfl rfl (by decide) rfl (by decide) dX12_playedFrom_116 ?_
  refine G_goto (pc := 119) (tgt := 20) (by decide) dX12_playedFrom_119 ?_
  refine G_iload (pc := 20) rfl dX12_playedFrom_20 ?_
  refine G_aload_n (pc := 22) rfl dX12_playedFrom_22 ?_
  refine G_getR (pc := 23) (r := 68) (ci := 12) (j := 0) rfl lk_RX12_9 rfl rfl rfl dX12_playedFrom_23 ?_
  refine G_iconst (pc := 26) (v := 4) (by decide) dX12_playedFrom_26 ?_
  refine G_iald (pc := 27) (jj := 4) (v := 0) (by decide) rfl rfl (by unfold vp_in; decide) dX12_playedFrom_27 ?_
  refine G_icmp_gt (pc := 28) (tgt := 122) (by decide) dX12_playedFrom_28 (fun _ => ?_) (fun z => absurd (by decide) z)
  refine G_aload_n (pc := 122) rfl dX12_playedFrom_122 ?_
  refine G_getR (pc := 123) (r := 77) (ci := 12) (j := 17) rfl lk_RX12_38 rfl rfl rfl dX12_playedFrom_123 ?_
  refine G_iload_n (pc := 126) rfl dX12_playedFrom_126 ?_
  refine G_iload (pc := 127) rfl dX12_playedFrom_127 ?_
  refine G_iast (pc := 129) (jj := 0) (by decide) rfl (by unfold vp_in; decide) dX12_playedFrom_129 ?_
  refine G_iload_n (pc := 130) rfl dX12_playedFrom_130 ?_
  exact G_iret (pc := 131) (Nat.le_of_ble_eq_true rfl) (Nat.le_of_ble_eq_true rfl) rfl dX12_playedFrom_131 ⟨rfl, rfl⟩
set_option maxRecDepth 100000 in
set_option maxHeartbeats 4000000 in
theorem s10213_X12_daysOf (J : gI) (d : Nat)   : G (d + 1) mX12_daysOf 0 0 0 0 0 (gent 3 [.ref 67, .int 4]) [] SH0 RF0 (gmx J) (fun r h => r = some (.int 4) ∧ h = (SH0, RF0, (gmx J))) := by
  refine G_aload_n (pc := 0) rfl dX12_daysOf_0 ?_
  refine G_callV (pc := 1) (mc1 := 0) (ms1 := 0) (ci := 12) (mj := mX12_isOver) (vs := []) dX12_daysOf_1 rfl rfl cm_X12_isOver wh_22 wh_24 wh_25 rfl (Nat.le_of_ble_eq_true rfl) (Nat.le_of_ble_eq_true rfl) (Nat.le_of_ble_eq_true rfl) (Nat.le_of_ble_eq_true rfl) (s10011_X12_isOver J d  ) ?_
  rintro _ _ ⟨rfl, rfl⟩
  dsimp only [Option.toList, List.cons_append, List.nil_append]
  refine G_if_eq (pc := 4) (tgt := 11) (by decide) dX12_daysOf_4 (fun _ => ?_) (fun z => absurd (by decide) z)
  refine G_aload_n (pc := 11) rfl dX12_daysOf_11 ?_
  refine G_getR (pc := 12) (r := 68) (ci := 12) (j := 0) rfl lk_RX12_9 rfl rfl rfl dX12_daysOf_12 ?_
  refine G_iconst (pc := 15) (v := 1) (by decide) dX12_daysOf_15 ?_
  refine G_iald (pc := 16) (jj := 1) (v := 12) (by decide) rfl rfl (by unfold vp_in; decide) dX12_daysOf_16 ?_
  refine G_aload_n (pc := 17) rfl dX12_daysOf_17 ?_
  refine G_getR (pc := 18) (r := 68) (ci := 12) (j := 0) rfl lk_RX12_9 rfl rfl rfl dX12_daysOf_18 ?_
  refine G_iconst (pc := 21) (v := 0) (by decide) dX12_daysOf_21 ?_
  refine G_iald (pc := 22) (jj := 0) (v := 0) (by decide) rfl rfl (by unfold vp_in; decide) dX12_daysOf_22 ?_
  refine G_isub (pc := 23) (z := 12) (by decide) dX12_daysOf_23 ?_
  refine G_istore_n (pc := 24) (L1 := [some (.ref 67), some (.int 4), some (.int 12)]) rfl rfl (by decide) dX12_daysOf_24 ?_
  refine G_iload_n (pc := 25) rfl dX12_daysOf_25 ?_
  refine G_iload_n (pc := 26) rfl dX12_daysOf_26 ?_
  refine G_icmp_ge (pc := 27) (tgt := 34) (by decide) dX12_daysOf_27 (fun z => absurd z (by decide)) (fun _ => ?_)
  refine G_iload_n (pc := 30) rfl dX12_daysOf_30 ?_
  refine G_goto (pc := 31) (tgt := 35) (by decide) dX12_daysOf_31 ?_
  exact G_iret (pc := 35) (Nat.le_of_ble_eq_true rfl) (Nat.le_of_ble_eq_true rfl) rfl dX12_daysOf_35 ⟨rfl, rfl⟩
set_option maxRecDepth 100000 in
set_option maxHeartbeats 4000000 in
theorem s10218_X12_goesBy (J : gI) (d : Nat)   : G (d) mX12_goesBy 0 0 0 0 0 (gent 5 [.ref 67, .int 0]) [] SH0 RF0 (gcp (gup (gup (gcp (gup (gup (gcp (gup (gup (gcp (gmx J) 68 76 0 0 65) 68 0 1) 68 2 0) 68 76 0 65 65) 68 0 2) 68 2 0) 68 76 0 130 65) 68 0 3) 68 2 0) 68 76 0 195 65) (fun r h => r = some (.int 0) ∧ h = (SH0, RF0, (gup (gup (gcp (gup (gup (gcp (gup (gup (gcp (gup (gup (gcp (gmx J) 68 76 0 0 65) 68 0 1) 68 2 0) 68 76 0 65 65) 68 0 2) 68 2 0) 68 76 0 130 65) 68 0 3) 68 2 0) 68 76 0 195 65) 68 0 4) 68 2 0))) := by
  refine G_iload_n (pc := 0) rfl dX12_goesBy_0 ?_
  refine G_if_ge (pc := 1) (tgt := 11) (by decide) dX12_goesBy_1 (fun _ => ?_) (fun z => absurd (by decide) z)
  refine G_iload_n (pc := 11) rfl dX12_goesBy_11 ?_
  refine G_iconst (pc := 12) (v := 1) (by decide) dX12_goesBy_12 ?_
  refine G_isub (pc := 13) (z := (-1)) (by decide) dX12_goesBy_13 ?_
  refine G_istore_n (pc := 14) (L1 := [some (.ref 67), some (.int 0), some (.int (-1)), none, none]) rfl rfl (by decide) dX12_goesBy_14 ?_
  refine G_iload_n (pc := 15) rfl dX12_goesBy_15 ?_
  refine G_if_lt (pc := 16) (tgt := 27) (by decide) dX12_goesBy_16 (fun _ => ?_) (fun z => absurd (by decide) z)
  refine G_iconst (pc := 27) (v := 0) (by decide) dX12_goesBy_27 ?_
  refine G_istore_n (pc := 28) (L1 := [some (.ref 67), some (.int 0), some (.int (-1)), some (.int 0), none]) rfl rfl (by decide) dX12_goesBy_28 ?_
  refine G_iconst (pc := 29) (v := 0) (by decide) dX12_goesBy_29 ?_
  refine G_istore (pc := 30) (L1 := [some (.ref 67), some (.int 0), some (.int (-1)), some (.int 0), some (.int 0)]) rfl rfl (by decide) dX12_goesBy_30 ?_
  refine G_iload (pc := 32) rfl dX12_goesBy_32 ?_
  refine G_aload_n (pc := 34) rfl dX12_goesBy_34 ?_
  refine G_getR (pc := 35) (r := 68) (ci := 12) (j := 0) rfl lk_RX12_9 rfl rfl rfl dX12_goesBy_35 ?_
  refine G_iconst (pc := 38) (v := 4) (by decide) dX12_goesBy_38 ?_
  refine G_iald (pc := 39) (jj := 4) (v := 0) (by decide) rfl rfl (by unfold vp_in; decide) dX12_goesBy_39 ?_
  refine G_icmp_ge (pc := 40) (tgt := 104) (by decide) dX12_goesBy_40 (fun _ => ?_) (fun z => absurd (by decide) z)
  refine G_aload_n (pc := 104) rfl dX12_goesBy_104 ?_
  refine G_getR (pc := 105) (r := 68) (ci := 12) (j := 0) rfl lk_RX12_9 rfl rfl rfl dX12_goesBy_105 ?_
  refine G_iconst (pc := 108) (v := 0) (by decide) dX12_goesBy_108 ?_
  refine G_dup2 (pc := 109) rfl rfl dX12_goesBy_109 ?_
  refine G_iald (pc := 110) (jj := 0) (v := 3) (by decide) rfl rfl (by unfold vp_in; decide) dX12_goesBy_110 ?_
  refine G_iconst (pc := 111) (v := 1) (by decide) dX12_goesBy_111 ?_
  refine G_iadd (pc := 112) (z := 4) (by decide) dX12_goesBy_112 ?_
  refine G_iast (pc := 113) (jj := 0) (by decide) rfl (by unfold vp_in; decide) dX12_goesBy_113 ?_
  refine G_aload_n (pc := 114) rfl dX12_goesBy_114 ?_
  refine G_getR (pc := 115) (r := 68) (ci := 12) (j := 0) rfl lk_RX12_9 rfl rfl rfl dX12_goesBy_115 ?_
  refine G_iconst (pc := 118) (v := 2) (by decide) dX12_goesBy_118 ?_
  refine G_dup2 (pc := 119) rfl rfl dX12_goesBy_119 ?_
  refine G_iald (pc := 120) (jj := 2) (v := 0) (by decide) rfl rfl (by unfold vp_in; decide) dX12_goesBy_120 ?_
  refine G_iload_n (pc := 121) rfl dX12_goesBy_121 ?_
  refine G_iadd (pc := 122) (z := 0) (by decide) dX12_goesBy_122 ?_
  refine G_iast (pc := 123) (jj := 2) (by decide) rfl (by unfold vp_in; decide) dX12_goesBy_123 ?_
  refine G_iload_n (pc := 124) rfl dX12_goesBy_124 ?_
  exact G_iret (pc := 125) (Nat.le_of_ble_eq_true rfl) (Nat.le_of_ble_eq_true rfl) rfl dX12_goesBy_125 ⟨rfl, rfl⟩
set_option maxRecDepth 100000 in
set_option maxHeartbeats 4000000 in
theorem s10219_X12_playedFrom (J : gI) (d : Nat)   : G (d) mX12_playedFrom 0 0 0 0 0 (gent 9 [.ref 67, .int 4, .int 4]) [] SH0 RF0 (gup (gup (gcp (gup (gup (gcp (gup (gup (gcp (gup (gup (gcp (gmx J) 68 76 0 0 65) 68 0 1) 68 2 0) 68 76 0 65 65) 68 0 2) 68 2 0) 68 76 0 130 65) 68 0 3) 68 2 0) 68 76 0 195 65) 68 0 4) 68 2 0) (fun r h => r = some (.int 0) ∧ h = (SH0, RF0, (gup (gup (gcp (gup (gup (gcp (gup (gup (gcp (gup (gup (gcp (gmx J) 68 76 0 0 65) 68 0 1) 68 2 0) 68 76 0 65 65) 68 0 2) 68 2 0) 68 76 0 130 65) 68 0 3) 68 2 0) 68 76 0 195 65) 68 0 4) 68 2 0))) := by
  refine G_iload_n (pc := 0) rfl dX12_playedFrom_0 ?_
  refine G_iload_n (pc := 1) rfl dX12_playedFrom_1 ?_
  refine G_icmp_ne (pc := 2) (tgt := 7) (by decide) dX12_playedFrom_2 (fun z => absurd (by decide) z) (fun _ => ?_)
  refine G_iconst (pc := 5) (v := 0) (by decide) dX12_playedFrom_5 ?_
  exact G_iret (pc := 6) (Nat.le_of_ble_eq_true rfl) (Nat.le_of_ble_eq_true rfl) rfl dX12_playedFrom_6 ⟨rfl, rfl⟩
set_option maxRecDepth 100000 in
set_option maxHeartbeats 4000000 in
theorem s10217_X12_playedFrom (J : gI) (d : Nat)   : G (d + 1) mX12_playedFrom 0 0 0 0 0 (gent 9 [.ref 67, .int 3, .int 4]) [] SH0 RF0 (gup (gup (gcp (gup (gup (gcp (gup (gup (gcp (gmx J) 68 76 0 0 65) 68 0 1) 68 2 0) 68 76 0 65 65) 68 0 2) 68 2 0) 68 76 0 130 65) 68 0 3) 68 2 0) (fun r h => r = some (.int 0) ∧ h = (SH0, RF0, (gup (gcp (gup (gup (gcp (gup (gup (gcp (gup (gup (gcp (gup (gup (gcp (gmx J) 68 76 0 0 65) 68 0 1) 68 2 0) 68 76 0 65 65) 68 0 2) 68 2 0) 68 76 0 130 65) 68 0 3) 68 2 0) 68 76 0 195 65) 68 0 4) 68 2 0) 76 68 195 0 65) 77 3 0))) := by
  refine G_iload_n (pc := 0) rfl dX12_playedFrom_0 ?_
  refine G_iload_n (pc := 1) rfl dX12_playedFrom_1 ?_
  refine G_icmp_ne (pc := 2) (tgt := 7) (by decide) dX12_playedFrom_2 (fun _ => ?_) (fun z => absurd z (by decide))
  refine G_aload_n (pc := 7) rfl dX12_playedFrom_7 ?_
  refine G_iload_n (pc := 8) rfl dX12_playedFrom_8 ?_
  refine G_callV (pc := 9) (mc1 := 0) (ms1 := 0) (ci := 12) (mj := mX12_saves) (vs := [_]) dX12_playedFrom_9 rfl rfl cm_X12_saves wh_107 wh_109 wh_110 rfl (Nat.le_of_ble_eq_true rfl) (Nat.le_of_ble_eq_true rfl) (Nat.le_of_ble_eq_true rfl) (Nat.le_of_ble_eq_true rfl) (saves_3 d (gup (gup (gcp (gup (gup (gcp (gup (gup (gcp (gmx J) 68 76 0 0 65) 68 0 1) 68 2 0) 68 76 0 65 65) 68 0 2) 68 2 0) 68 76 0 130 65) 68 0 3) 68 2 0)) ?_
  rintro _ _ ⟨rfl, rfl⟩
  dsimp only [Option.toList, List.cons_append, List.nil_append]
  refine G_iconst (pc := 12) (v := 0) (by decide) dX12_playedFrom_12 ?_
  refine G_istore_n (pc := 13) (L1 := [some (.ref 67), some (.int 3), some (.int 4), some (.int 0), none, none, none, none, none]) rfl rfl (by decide) dX12_playedFrom_13 ?_
  refine G_iconst (pc := 14) (v := (-1)) (by decide) dX12_playedFrom_14 ?_
  refine G_istore (pc := 15) (L1 := [some (.ref 67), some (.int 3), some (.int 4), some (.int 0), some (.int (-1)), none, none, none, none]) rfl rfl (by decide) dX12_playedFrom_15 ?_
  refine G_iconst (pc := 17) (v := 0) (by decide) dX12_playedFrom_17 ?_
  refine G_istore (pc := 18) (L1 := [some (.ref 67), some (.int 3), some (.int 4), some (.int 0), some (.int (-1)), some (.int 0), none, none, none]) rfl rfl (by decide) dX12_playedFrom_18 ?_
  refine G_iload (pc := 20) rfl dX12_playedFrom_20 ?_
  refine G_aload_n (pc := 22) rfl dX12_playedFrom_22 ?_
  refine G_getR (pc := 23) (r := 68) (ci := 12) (j := 0) rfl lk_RX12_9 rfl rfl rfl dX12_playedFrom_23 ?_
  refine G_iconst (pc := 26) (v := 4) (by decide) dX12_playedFrom_26 ?_
  refine G_iald (pc := 27) (jj := 4) (v := 0) (by decide) rfl rfl (by unfold vp_in; decide) dX12_playedFrom_27 ?_
  refine G_icmp_gt (pc := 28) (tgt := 122) (by decide) dX12_playedFrom_28 (fun z => absurd z (by decide)) (fun _ => ?_)
  refine G_aload_n (pc := 31) rfl dX12_playedFrom_31 ?_
  refine G_iload (pc := 32) rfl dX12_playedFrom_32 ?_
  refine G_callV (pc := 34) (mc1 := 0) (ms1 := 0) (ci := 12) (mj := mX12_goesBy) (vs := [_]) dX12_playedFrom_34 rfl rfl cm_X12_goesBy wh_72 wh_74 wh_75 rfl (Nat.le_of_ble_eq_true rfl) (Nat.le_of_ble_eq_true rfl) (Nat.le_of_ble_eq_true rfl) (Nat.le_of_ble_eq_true rfl) (s10218_X12_goesBy J d  ) ?_
  rintro _ _ ⟨rfl, rfl⟩
  dsimp only [Option.toList, List.cons_append, List.nil_append]
  refine G_istore (pc := 37) (L1 := [some (.ref 67), some (.int 3), some (.int 4), some (.int 0), some (.int (-1)), some (.int 0), some (.int 0), none, none]) rfl rfl (by decide) dX12_playedFrom_37 ?_
  refine G_iload (pc := 39) rfl dX12_playedFrom_39 ?_
  refine G_aload_n (pc := 41) rfl dX12_playedFrom_41 ?_
  refine G_iload_n (pc := 42) rfl dX12_playedFrom_42 ?_
  refine G_iconst (pc := 43) (v := 1) (by decide) dX12_playedFrom_43 ?_
  refine G_iadd (pc := 44) (z := 4) (by decide) dX12_playedFrom_44 ?_
  refine G_iload_n (pc := 45) rfl dX12_playedFrom_45 ?_
  refine G_callV (pc := 46) (mc1 := 0) (ms1 := 0) (ci := 12) (mj := mX12_playedFrom) (vs := [_, _]) dX12_playedFrom_46 rfl rfl cm_X12_playedFrom wh_119 wh_121 wh_122 rfl (Nat.le_of_ble_eq_true rfl) (Nat.le_of_ble_eq_true rfl) (Nat.le_of_ble_eq_true rfl) (Nat.le_of_ble_eq_true rfl) (s10219_X12_playedFrom J d  ) ?_
  rintro _ _ ⟨rfl, rfl⟩
  dsimp only [Option.toList, List.cons_append, List.nil_append]
  refine G_iadd (pc := 49) (z := 0) (by decide) dX12_playedFrom_49 ?_
  refine G_istore (pc := 50) (L1 := [some (.ref 67), some (.int 3), some (.int 4), some (.int 0), some (.int (-1)), some (.int 0), some (.int 0), some (.int 0), none]) rfl rfl (by decide) dX12_playedFrom_50 ?_
  refine G_aload_n (pc := 52) rfl dX12_playedFrom_52 ?_
  refine G_iload_n (pc := 53) rfl dX12_playedFrom_53 ?_
  refine G_callV (pc := 54) (mc1 := 0) (ms1 := 0) (ci := 12) (mj := mX12_restores) (vs := [_]) dX12_playedFrom_54 rfl rfl cm_X12_restores wh_111 wh_113 wh_114 rfl (Nat.le_of_ble_eq_true rfl) (Nat.le_of_ble_eq_true rfl) (Nat.le_of_ble_eq_true rfl) (Nat.le_of_ble_eq_true rfl) (restores_3 d (gup (gup (gcp (gup (gup (gcp (gup (gup (gcp (gup (gup (gcp (gmx J) 68 76 0 0 65) 68 0 1) 68 2 0) 68 76 0 65 65) 68 0 2) 68 2 0) 68 76 0 130 65) 68 0 3) 68 2 0) 68 76 0 195 65) 68 0 4) 68 2 0)) ?_
  rintro _ _ ⟨rfl, rfl⟩
  dsimp only [Option.toList, List.cons_append, List.nil_append]
  refine G_iload (pc := 57) rfl dX12_playedFrom_57 ?_
  refine G_if_lt (pc := 59) (tgt := 83) (by decide) dX12_playedFrom_59 (fun _ => ?_) (fun z => absurd (by decide) z)
  refine G_iconst (pc := 83) (v := 1) (by decide) dX12_playedFrom_83 ?_
  refine G_goto (pc := 84) (tgt := 88) (by decide) dX12_playedFrom_84 ?_
  refine G_istore (pc := 88) (L1 := [some (.ref 67), some (.int 3), some (.int 4), some (.int 0), some (.int (-1)), some (.int 0), some (.int 0), some (.int 0), some (.int 1)]) rfl rfl (by decide) dX12_playedFrom_88 ?_
  refine G_iload (pc := 90) rfl dX12_playedFrom_90 ?_
  refine G_if_eq (pc := 92) (tgt := 100) (by decide) dX12_playedFrom_92 (fun z => absurd z (by decide)) (fun _ => ?_)
  refine G_iload (pc := 95) rfl dX12_playedFrom_95 ?_
  refine G_goto (pc := 97) (tgt := 102) (by decide) dX12_playedFrom_97 ?_
  refine G_istore (pc := 102) (L1 := [some (.ref 67), some (.int 3), some (.int 4), some (.int 0), some (.int 0), some (.int 0), some (.int 0), some (.int 0), some (.int 1)]) rfl rfl (by decide) dX12_playedFrom_102 ?_
  refine G_iload (pc := 104) rfl dX12_playedFrom_104 ?_
  refine G_if_eq (pc := 106) (tgt := 114) (by decide) dX12_playedFrom_106 (fun z => absurd z (by decide)) (fun _ => ?_)
  refine G_iload (pc := 109) rfl dX12_playedFrom_109 ?_
  refine G_goto (pc := 111) (tgt := 115) (by decide) dX12_playedFrom_111 ?_
  refine G_istore_n (pc := 115) (L1 := [some (.ref 67), some (.int 3), some (.int 4), some (.int 0), some (.int 0), some (.int 0), some (.int 0), some (.int 0), some (.int 1)]) rfl rfl (by decide) dX12_playedFrom_115 ?_
  refine G_iinc (pc := 116) (v := 1) (w := 1) (L1 := [some (.ref 67), some (.int 3), some (.int 4), some (.int 0), some (.int 0), some (.int 1), some (.int 0), some (.int 0), some (.int 1)]) (by decide) rfl rfl (by decide) rfl (by decide) dX12_playedFrom_116 ?_
  refine G_goto (pc := 119) (tgt := 20) (by decide) dX12_playedFrom_119 ?_
  refine G_iload (pc := 20) rfl dX12_playedFrom_20 ?_
  refine G_aload_n (pc := 22) rfl dX12_playedFrom_22 ?_
  refine G_getR (pc := 23) (r := 68) (ci := 12) (j := 0) rfl lk_RX12_9 rfl rfl rfl dX12_playedFrom_23 ?_
  refine G_iconst (pc := 26) (v := 4) (by decide) dX12_playedFrom_26 ?_
  refine G_iald (pc := 27) (jj := 4) (v := 0) (by decide) rfl rfl (by unfold vp_in; decide) dX12_playedFrom_27 ?_
  refine G_icmp_gt (pc := 28) (tgt := 122) (by decide) dX12_playedFrom_28 (fun _ => ?_) (fun z => absurd (by decide) z)
  refine G_aload_n (pc := 122) rfl dX12_playedFrom_122 ?_
  refine G_getR (pc := 123) (r := 77) (ci := 12) (j := 17) rfl lk_RX12_38 rfl rfl rfl dX12_playedFrom_123 ?_
  refine G_iload_n (pc := 126) rfl dX12_playedFrom_126 ?_
  refine G_iload (pc := 127) rfl dX12_playedFrom_127 ?_
  refine G_iast (pc := 129) (jj := 3) (by decide) rfl (by unfold vp_in; decide) dX12_playedFrom_129 ?_
  refine G_iload_n (pc := 130) rfl dX12_playedFrom_130 ?_
  exact G_iret (pc := 131) (Nat.le_of_ble_eq_true rfl) (Nat.le_of_ble_eq_true rfl) rfl dX12_playedFrom_131 ⟨rfl, rfl⟩
set_option maxRecDepth 100000 in
set_option maxHeartbeats 4000000 in
theorem s10216_X12_playedFrom (J : gI) (d : Nat)   : G (d + 2) mX12_playedFrom 0 0 0 0 0 (gent 9 [.ref 67, .int 2, .int 4]) [] SH0 RF0 (gup (gup (gcp (gup (gup (gcp (gmx J) 68 76 0 0 65) 68 0 1) 68 2 0) 68 76 0 65 65) 68 0 2) 68 2 0) (fun r h => r = some (.int 0) ∧ h = (SH0, RF0, (gup (gcp (gup (gcp (gup (gup (gcp (gup (gup (gcp (gup (gup (gcp (gup (gup (gcp (gmx J) 68 76 0 0 65) 68 0 1) 68 2 0) 68 76 0 65 65) 68 0 2) 68 2 0) 68 76 0 130 65) 68 0 3) 68 2 0) 68 76 0 195 65) 68 0 4) 68 2 0) 76 68 195 0 65) 77 3 0) 76 68 130 0 65) 77 2 0))) := by
  refine G_iload_n (pc := 0) rfl dX12_playedFrom_0 ?_
  refine G_iload_n (pc := 1) rfl dX12_playedFrom_1 ?_
  refine G_icmp_ne (pc := 2) (tgt := 7) (by decide) dX12_playedFrom_2 (fun _ => ?_) (fun z => absurd z (by decide))
  refine G_aload_n (pc := 7) rfl dX12_playedFrom_7 ?_
  refine G_iload_n (pc := 8) rfl dX12_playedFrom_8 ?_
  refine G_callV (pc := 9) (mc1 := 0) (ms1 := 0) (ci := 12) (mj := mX12_saves) (vs := [_]) dX12_playedFrom_9 rfl rfl cm_X12_saves wh_107 wh_109 wh_110 rfl (Nat.le_of_ble_eq_true rfl) (Nat.le_of_ble_eq_true rfl) (Nat.le_of_ble_eq_true rfl) (Nat.le_of_ble_eq_true rfl) (saves_2 (d + 1) (gup (gup (gcp (gup (gup (gcp (gmx J) 68 76 0 0 65) 68 0 1) 68 2 0) 68 76 0 65 65) 68 0 2) 68 2 0)) ?_
  rintro _ _ ⟨rfl, rfl⟩
  dsimp only [Option.toList, List.cons_append, List.nil_append]
  refine G_iconst (pc := 12) (v := 0) (by decide) dX12_playedFrom_12 ?_
  refine G_istore_n (pc := 13) (L1 := [some (.ref 67), some (.int 2), some (.int 4), some (.int 0), none, none, none, none, none]) rfl rfl (by decide) dX12_playedFrom_13 ?_
  refine G_iconst (pc := 14) (v := (-1)) (by decide) dX12_playedFrom_14 ?_
  refine G_istore (pc := 15) (L1 := [some (.ref 67), some (.int 2), some (.int 4), some (.int 0), some (.int (-1)), none, none, none, none]) rfl rfl (by decide) dX12_playedFrom_15 ?_
  refine G_iconst (pc := 17) (v := 0) (by decide) dX12_playedFrom_17 ?_
  refine G_istore (pc := 18) (L1 := [some (.ref 67), some (.int 2), some (.int 4), some (.int 0), some (.int (-1)), some (.int 0), none, none, none]) rfl rfl (by decide) dX12_playedFrom_18 ?_
  refine G_iload (pc := 20) rfl dX12_playedFrom_20 ?_
  refine G_aload_n (pc := 22) rfl dX12_playedFrom_22 ?_
  refine G_getR (pc := 23) (r := 68) (ci := 12) (j := 0) rfl lk_RX12_9 rfl rfl rfl dX12_playedFrom_23 ?_
  refine G_iconst (pc := 26) (v := 4) (by decide) dX12_playedFrom_26 ?_
  refine G_iald (pc := 27) (jj := 4) (v := 0) (by decide) rfl rfl (by unfold vp_in; decide) dX12_playedFrom_27 ?_
  refine G_icmp_gt (pc := 28) (tgt := 122) (by decide) dX12_playedFrom_28 (fun z => absurd z (by decide)) (fun _ => ?_)
  refine G_aload_n (pc := 31) rfl dX12_playedFrom_31 ?_
  refine G_iload (pc := 32) rfl dX12_playedFrom_32 ?_
  refine G_callV (pc := 34) (mc1 := 0) (ms1 := 0) (ci := 12) (mj := mX12_goesBy) (vs := [_]) dX12_playedFrom_34 rfl rfl cm_X12_goesBy wh_72 wh_74 wh_75 rfl (Nat.le_of_ble_eq_true rfl) (Nat.le_of_ble_eq_true rfl) (Nat.le_of_ble_eq_true rfl) (Nat.le_of_ble_eq_true rfl) (s10211_X12_goesBy J (d + 1)  ) ?_
  rintro _ _ ⟨rfl, rfl⟩
  dsimp only [Option.toList, List.cons_append, List.nil_append]
  refine G_istore (pc := 37) (L1 := [some (.ref 67), some (.int 2), some (.int 4), some (.int 0), some (.int (-1)), some (.int 0), some (.int 0), none, none]) rfl rfl (by decide) dX12_playedFrom_37 ?_
  refine G_iload (pc := 39) rfl dX12_playedFrom_39 ?_
  refine G_aload_n (pc := 41) rfl dX12_playedFrom_41 ?_
  refine G_iload_n (pc := 42) rfl dX12_playedFrom_42 ?_
  refine G_iconst (pc := 43) (v := 1) (by decide) dX12_playedFrom_43 ?_
  refine G_iadd (pc := 44) (z := 3) (by decide) dX12_playedFrom_44 ?_
  refine G_iload_n (pc := 45) rfl dX12_playedFrom_45 ?_
  refine G_callV (pc := 46) (mc1 := 0) (ms1 := 0) (ci := 12) (mj := mX12_playedFrom) (vs := [_, _]) dX12_playedFrom_46 rfl rfl cm_X12_playedFrom wh_119 wh_121 wh_122 rfl (Nat.le_of_ble_eq_true rfl) (Nat.le_of_ble_eq_true rfl) (Nat.le_of_ble_eq_true rfl) (Nat.le_of_ble_eq_true rfl) (s10217_X12_playedFrom J d  ) ?_
  rintro _ _ ⟨rfl, rfl⟩
  dsimp only [Option.toList, List.cons_append, List.nil_append]
  refine G_iadd (pc := 49) (z := 0) (by decide) dX12_playedFrom_49 ?_
  refine G_istore (pc := 50) (L1 := [some (.ref 67), some (.int 2), some (.int 4), some (.int 0), some (.int (-1)), some (.int 0), some (.int 0), some (.int 0), none]) rfl rfl (by decide) dX12_playedFrom_50 ?_
  refine G_aload_n (pc := 52) rfl dX12_playedFrom_52 ?_
  refine G_iload_n (pc := 53) rfl dX12_playedFrom_53 ?_
  refine G_callV (pc := 54) (mc1 := 0) (ms1 := 0) (ci := 12) (mj := mX12_restores) (vs := [_]) dX12_playedFrom_54 rfl rfl cm_X12_restores wh_111 wh_113 wh_114 rfl (Nat.le_of_ble_eq_true rfl) (Nat.le_of_ble_eq_true rfl) (Nat.le_of_ble_eq_true rfl) (Nat.le_of_ble_eq_true rfl) (restores_2 (d + 1) (gup (gcp (gup (gup (gcp (gup (gup (gcp (gup (gup (gcp (gup (gup (gcp (gmx J) 68 76 0 0 65) 68 0 1) 68 2 0) 68 76 0 65 65) 68 0 2) 68 2 0) 68 76 0 130 65) 68 0 3) 68 2 0) 68 76 0 195 65) 68 0 4) 68 2 0) 76 68 195 0 65) 77 3 0)) ?_
  rintro _ _ ⟨rfl, rfl⟩
  dsimp only [Option.toList, List.cons_append, List.nil_append]
  refine G_iload (pc := 57) rfl dX12_playedFrom_57 ?_
  refine G_if_lt (pc := 59) (tgt := 83) (by decide) dX12_playedFrom_59 (fun _ => ?_) (fun z => absurd (by decide) z)
  refine G_iconst (pc := 83) (v := 1) (by decide) dX12_playedFrom_83 ?_
  refine G_goto (pc := 84) (tgt := 88) (by decide) dX12_playedFrom_84 ?_
  refine G_istore (pc := 88) (L1 := [some (.ref 67), some (.int 2), some (.int 4), some (.int 0), some (.int (-1)), some (.int 0), some (.int 0), some (.int 0), some (.int 1)]) rfl rfl (by decide) dX12_playedFrom_88 ?_
  refine G_iload (pc := 90) rfl dX12_playedFrom_90 ?_
  refine G_if_eq (pc := 92) (tgt := 100) (by decide) dX12_playedFrom_92 (fun z => absurd z (by decide)) (fun _ => ?_)
  refine G_iload (pc := 95) rfl dX12_playedFrom_95 ?_
  refine G_goto (pc := 97) (tgt := 102) (by decide) dX12_playedFrom_97 ?_
  refine G_istore (pc := 102) (L1 := [some (.ref 67), some (.int 2), some (.int 4), some (.int 0), some (.int 0), some (.int 0), some (.int 0), some (.int 0), some (.int 1)]) rfl rfl (by decide) dX12_playedFrom_102 ?_
  refine G_iload (pc := 104) rfl dX12_playedFrom_104 ?_
  refine G_if_eq (pc := 106) (tgt := 114) (by decide) dX12_playedFrom_106 (fun z => absurd z (by decide)) (fun _ => ?_)
  refine G_iload (pc := 109) rfl dX12_playedFrom_109 ?_
  refine G_goto (pc := 111) (tgt := 115) (by decide) dX12_playedFrom_111 ?_
  refine G_istore_n (pc := 115) (L1 := [some (.ref 67), some (.int 2), some (.int 4), some (.int 0), some (.int 0), some (.int 0), some (.int 0), some (.int 0), some (.int 1)]) rfl rfl (by decide) dX12_playedFrom_115 ?_
  refine G_iinc (pc := 116) (v := 1) (w := 1) (L1 := [some (.ref 67), some (.int 2), some (.int 4), some (.int 0), some (.int 0), some (.int 1), some (.int 0), some (.int 0), some (.int 1)]) (by decide) rfl rfl (by decide) rfl (by decide) dX12_playedFrom_116 ?_
  refine G_goto (pc := 119) (tgt := 20) (by decide) dX12_playedFrom_119 ?_
  refine G_iload (pc := 20) rfl dX12_playedFrom_20 ?_
  refine G_aload_n (pc := 22) rfl dX12_playedFrom_22 ?_
  refine G_getR (pc := 23) (r := 68) (ci := 12) (j := 0) rfl lk_RX12_9 rfl rfl rfl dX12_playedFrom_23 ?_
  refine G_iconst (pc := 26) (v := 4) (by decide) dX12_playedFrom_26 ?_
  refine G_iald (pc := 27) (jj := 4) (v := 0) (by decide) rfl rfl (by unfold vp_in; decide) dX12_playedFrom_27 ?_
  refine G_icmp_gt (pc := 28) (tgt := 122) (by decide) dX12_playedFrom_28 (fun _ => ?_) (fun z => absurd (by decide) z)
  refine G_aload_n (pc := 122) rfl dX12_playedFrom_122 ?_
  refine G_getR (pc := 123) (r := 77) (ci := 12) (j := 17) rfl lk_RX12_38 rfl rfl rfl dX12_playedFrom_123 ?_
  refine G_iload_n (pc := 126) rfl dX12_playedFrom_126 ?_
  refine G_iload (pc := 127) rfl dX12_playedFrom_127 ?_
  refine G_iast (pc := 129) (jj := 2) (by decide) rfl (by unfold vp_in; decide) dX12_playedFrom_129 ?_
  refine G_iload_n (pc := 130) rfl dX12_playedFrom_130 ?_
  exact G_iret (pc := 131) (Nat.le_of_ble_eq_true rfl) (Nat.le_of_ble_eq_true rfl) rfl dX12_playedFrom_131 ⟨rfl, rfl⟩
set_option maxRecDepth 100000 in
set_option maxHeartbeats 4000000 in
theorem s10215_X12_playedFrom (J : gI) (d : Nat)   : G (d + 3) mX12_playedFrom 0 0 0 0 0 (gent 9 [.ref 67, .int 1, .int 4]) [] SH0 RF0 (gup (gup (gcp (gmx J) 68 76 0 0 65) 68 0 1) 68 2 0) (fun r h => r = some (.int 0) ∧ h = (SH0, RF0, (gup (gcp (gup (gcp (gup (gcp (gup (gup (gcp (gup (gup (gcp (gup (gup (gcp (gup (gup (gcp (gmx J) 68 76 0 0 65) 68 0 1) 68 2 0) 68 76 0 65 65) 68 0 2) 68 2 0) 68 76 0 130 65) 68 0 3) 68 2 0) 68 76 0 195 65) 68 0 4) 68 2 0) 76 68 195 0 65) 77 3 0) 76 68 130 0 65) 77 2 0) 76 68 65 0 65) 77 1 0))) := by
  refine G_iload_n (pc := 0) rfl dX12_playedFrom_0 ?_
  refine G_iload_n (pc := 1) rfl dX12_playedFrom_1 ?_
  refine G_icmp_ne (pc := 2) (tgt := 7) (by decide) dX12_playedFrom_2 (fun _ => ?_) (fun z => absurd z (by decide))
  refine G_aload_n (pc := 7) rfl dX12_playedFrom_7 ?_
  refine G_iload_n (pc := 8) rfl dX12_playedFrom_8 ?_
  refine G_callV (pc := 9) (mc1 := 0) (ms1 := 0) (ci := 12) (mj := mX12_saves) (vs := [_]) dX12_playedFrom_9 rfl rfl cm_X12_saves wh_107 wh_109 wh_110 rfl (Nat.le_of_ble_eq_true rfl) (Nat.le_of_ble_eq_true rfl) (Nat.le_of_ble_eq_true rfl) (Nat.le_of_ble_eq_true rfl) (saves_1 (d + 2) (gup (gup (gcp (gmx J) 68 76 0 0 65) 68 0 1) 68 2 0)) ?_
  rintro _ _ ⟨rfl, rfl⟩
  dsimp only [Option.toList, List.cons_append, List.nil_append]
  refine G_iconst (pc := 12) (v := 0) (by decide) dX12_playedFrom_12 ?_
  refine G_istore_n (pc := 13) (L1 := [some (.ref 67), some (.int 1), some (.int 4), some (.int 0), none, none, none, none, none]) rfl rfl (by decide) dX12_playedFrom_13 ?_
  refine G_iconst (pc := 14) (v := (-1)) (by decide) dX12_playedFrom_14 ?_
  refine G_istore (pc := 15) (L1 := [some (.ref 67), some (.int 1), some (.int 4), some (.int 0), some (.int (-1)), none, none, none, none]) rfl rfl (by decide) dX12_playedFrom_15 ?_
  refine G_iconst (pc := 17) (v := 0) (by decide) dX12_playedFrom_17 ?_
  refine G_istore (pc := 18) (L1 := [some (.ref 67), some (.int 1), some (.int 4), some (.int 0), some (.int (-1)), some (.int 0), none, none, none]) rfl rfl (by decide) dX12_playedFrom_18 ?_
  refine G_iload (pc := 20) rfl dX12_playedFrom_20 ?_
  refine G_aload_n (pc := 22) rfl dX12_playedFrom_22 ?_
  refine G_getR (pc := 23) (r := 68) (ci := 12) (j := 0) rfl lk_RX12_9 rfl rfl rfl dX12_playedFrom_23 ?_
  refine G_iconst (pc := 26) (v := 4) (by decide) dX12_playedFrom_26 ?_
  refine G_iald (pc := 27) (jj := 4) (v := 0) (by decide) rfl rfl (by unfold vp_in; decide) dX12_playedFrom_27 ?_
  refine G_icmp_gt (pc := 28) (tgt := 122) (by decide) dX12_playedFrom_28 (fun z => absurd z (by decide)) (fun _ => ?_)
  refine G_aload_n (pc := 31) rfl dX12_playedFrom_31 ?_
  refine G_iload (pc := 32) rfl dX12_playedFrom_32 ?_
  refine G_callV (pc := 34) (mc1 := 0) (ms1 := 0) (ci := 12) (mj := mX12_goesBy) (vs := [_]) dX12_playedFrom_34 rfl rfl cm_X12_goesBy wh_72 wh_74 wh_75 rfl (Nat.le_of_ble_eq_true rfl) (Nat.le_of_ble_eq_true rfl) (Nat.le_of_ble_eq_true rfl) (Nat.le_of_ble_eq_true rfl) (s10205_X12_goesBy J (d + 2)  ) ?_
  rintro _ _ ⟨rfl, rfl⟩
  dsimp only [Option.toList, List.cons_append, List.nil_append]
  refine G_istore (pc := 37) (L1 := [some (.ref 67), some (.int 1), some (.int 4), some (.int 0), some (.int (-1)), some (.int 0), some (.int 0), none, none]) rfl rfl (by decide) dX12_playedFrom_37 ?_
  refine G_iload (pc := 39) rfl dX12_playedFrom_39 ?_
  refine G_aload_n (pc := 41) rfl dX12_playedFrom_41 ?_
  refine G_iload_n (pc := 42) rfl dX12_playedFrom_42 ?_
  refine G_iconst (pc := 43) (v := 1) (by decide) dX12_playedFrom_43 ?_
  refine G_iadd (pc := 44) (z := 2) (by decide) dX12_playedFrom_44 ?_
  refine G_iload_n (pc := 45) rfl dX12_playedFrom_45 ?_
  refine G_callV (pc := 46) (mc1 := 0) (ms1 := 0) (ci := 12) (mj := mX12_playedFrom) (vs := [_, _]) dX12_playedFrom_46 rfl rfl cm_X12_playedFrom wh_119 wh_121 wh_122 rfl (Nat.le_of_ble_eq_true rfl) (Nat.le_of_ble_eq_true rfl) (Nat.le_of_ble_eq_true rfl) (Nat.le_of_ble_eq_true rfl) (s10216_X12_playedFrom J d  ) ?_
  rintro _ _ ⟨rfl, rfl⟩
  dsimp only [Option.toList, List.cons_append, List.nil_append]
  refine G_iadd (pc := 49) (z := 0) (by decide) dX12_playedFrom_49 ?_
  refine G_istore (pc := 50) (L1 := [some (.ref 67), some (.int 1), some (.int 4), some (.int 0), some (.int (-1)), some (.int 0), some (.int 0), some (.int 0), none]) rfl rfl (by decide) dX12_playedFrom_50 ?_
  refine G_aload_n (pc := 52) rfl dX12_playedFrom_52 ?_
  refine G_iload_n (pc := 53) rfl dX12_playedFrom_53 ?_
  refine G_callV (pc := 54) (mc1 := 0) (ms1 := 0) (ci := 12) (mj := mX12_restores) (vs := [_]) dX12_playedFrom_54 rfl rfl cm_X12_restores wh_111 wh_113 wh_114 rfl (Nat.le_of_ble_eq_true rfl) (Nat.le_of_ble_eq_true rfl) (Nat.le_of_ble_eq_true rfl) (Nat.le_of_ble_eq_true rfl) (restores_1 (d + 2) (gup (gcp (gup (gcp (gup (gup (gcp (gup (gup (gcp (gup (gup (gcp (gup (gup (gcp (gmx J) 68 76 0 0 65) 68 0 1) 68 2 0) 68 76 0 65 65) 68 0 2) 68 2 0) 68 76 0 130 65) 68 0 3) 68 2 0) 68 76 0 195 65) 68 0 4) 68 2 0) 76 68 195 0 65) 77 3 0) 76 68 130 0 65) 77 2 0)) ?_
  rintro _ _ ⟨rfl, rfl⟩
  dsimp only [Option.toList, List.cons_append, List.nil_append]
  refine G_iload (pc := 57) rfl dX12_playedFrom_57 ?_
  refine G_if_lt (pc := 59) (tgt := 83) (by decide) dX12_playedFrom_59 (fun _ => ?_) (fun z => absurd (by decide) z)
  refine G_iconst (pc := 83) (v := 1) (by decide) dX12_playedFrom_83 ?_
  refine G_goto (pc := 84) (tgt := 88) (by decide) dX12_playedFrom_84 ?_
  refine G_istore (pc := 88) (L1 := [some (.ref 67), some (.int 1), some (.int 4), some (.int 0), some (.int (-1)), some (.int 0), some (.int 0), some (.int 0), some (.int 1)]) rfl rfl (by decide) dX12_playedFrom_88 ?_
  refine G_iload (pc := 90) rfl dX12_playedFrom_90 ?_
  refine G_if_eq (pc := 92) (tgt := 100) (by decide) dX12_playedFrom_92 (fun z => absurd z (by decide)) (fun _ => ?_)
  refine G_iload (pc := 95) rfl dX12_playedFrom_95 ?_
  refine G_goto (pc := 97) (tgt := 102) (by decide) dX12_playedFrom_97 ?_
  refine G_istore (pc := 102) (L1 := [some (.ref 67), some (.int 1), some (.int 4), some (.int 0), some (.int 0), some (.int 0), some (.int 0), some (.int 0), some (.int 1)]) rfl rfl (by decide) dX12_playedFrom_102 ?_
  refine G_iload (pc := 104) rfl dX12_playedFrom_104 ?_
  refine G_if_eq (pc := 106) (tgt := 114) (by decide) dX12_playedFrom_106 (fun z => absurd z (by decide)) (fun _ => ?_)
  refine G_iload (pc := 109) rfl dX12_playedFrom_109 ?_
  refine G_goto (pc := 111) (tgt := 115) (by decide) dX12_playedFrom_111 ?_
  refine G_istore_n (pc := 115) (L1 := [some (.ref 67), some (.int 1), some (.int 4), some (.int 0), some (.int 0), some (.int 0), some (.int 0), some (.int 0), some (.int 1)]) rfl rfl (by decide) dX12_playedFrom_115 ?_
  refine G_iinc (pc := 116) (v := 1) (w := 1) (L1 := [some (.ref 67), some (.int 1), some (.int 4), some (.int 0), some (.int 0), some (.int 1), some (.int 0), some (.int 0), some (.int 1)]) (by decide) rfl rfl (by decide) rfl (by decide) dX12_playedFrom_116 ?_
  refine G_goto (pc := 119) (tgt := 20) (by decide) dX12_playedFrom_119 ?_
  refine G_iload (pc := 20) rfl dX12_playedFrom_20 ?_
  refine G_aload_n (pc := 22) rfl dX12_playedFrom_22 ?_
  refine G_getR (pc := 23) (r := 68) (ci := 12) (j := 0) rfl lk_RX12_9 rfl rfl rfl dX12_playedFrom_23 ?_
  refine G_iconst (pc := 26) (v := 4) (by decide) dX12_playedFrom_26 ?_
  refine G_iald (pc := 27) (jj := 4) (v := 0) (by decide) rfl rfl (by unfold vp_in; decide) dX12_playedFrom_27 ?_
  refine G_icmp_gt (pc := 28) (tgt := 122) (by decide) dX12_playedFrom_28 (fun _ => ?_) (fun z => absurd (by decide) z)
  refine G_aload_n (pc := 122) rfl dX12_playedFrom_122 ?_
  refine G_getR (pc := 123) (r := 77) (ci := 12) (j := 17) rfl lk_RX12_38 rfl rfl rfl dX12_playedFrom_123 ?_
  refine G_iload_n (pc := 126) rfl dX12_playedFrom_126 ?_
  refine G_iload (pc := 127) rfl dX12_playedFrom_127 ?_
  refine G_iast (pc := 129) (jj := 1) (by decide) rfl (by unfold vp_in; decide) dX12_playedFrom_129 ?_
  refine G_iload_n (pc := 130) rfl dX12_playedFrom_130 ?_
  exact G_iret (pc := 131) (Nat.le_of_ble_eq_true rfl) (Nat.le_of_ble_eq_true rfl) rfl dX12_playedFrom_131 ⟨rfl, rfl⟩
set_option maxRecDepth 100000 in
set_option maxHeartbeats 4000000 in
theorem s10214_X12_playedFrom (J : gI) (d : Nat)   : G (d + 4) mX12_playedFrom 0 0 0 0 0 (gent 9 [.ref 67, .int 0, .int 4]) [] SH0 RF0 (gmx J) (fun r h => r = some (.int 0) ∧ h = (SH0, RF0, (gup (gcp (gup (gcp (gup (gcp (gup (gcp (gup (gup (gcp (gup (gup (gcp (gup (gup (gcp (gup (gup (gcp (gmx J) 68 76 0 0 65) 68 0 1) 68 2 0) 68 76 0 65 65) 68 0 2) 68 2 0) 68 76 0 130 65) 68 0 3) 68 2 0) 68 76 0 195 65) 68 0 4) 68 2 0) 76 68 195 0 65) 77 3 0) 76 68 130 0 65) 77 2 0) 76 68 65 0 65) 77 1 0) 76 68 0 0 65) 77 0 0))) := by
  refine G_iload_n (pc := 0) rfl dX12_playedFrom_0 ?_
  refine G_iload_n (pc := 1) rfl dX12_playedFrom_1 ?_
  refine G_icmp_ne (pc := 2) (tgt := 7) (by decide) dX12_playedFrom_2 (fun _ => ?_) (fun z => absurd z (by decide))
  refine G_aload_n (pc := 7) rfl dX12_playedFrom_7 ?_
  refine G_iload_n (pc := 8) rfl dX12_playedFrom_8 ?_
  refine G_callV (pc := 9) (mc1 := 0) (ms1 := 0) (ci := 12) (mj := mX12_saves) (vs := [_]) dX12_playedFrom_9 rfl rfl cm_X12_saves wh_107 wh_109 wh_110 rfl (Nat.le_of_ble_eq_true rfl) (Nat.le_of_ble_eq_true rfl) (Nat.le_of_ble_eq_true rfl) (Nat.le_of_ble_eq_true rfl) (saves_0 (d + 3) (gmx J)) ?_
  rintro _ _ ⟨rfl, rfl⟩
  dsimp only [Option.toList, List.cons_append, List.nil_append]
  refine G_iconst (pc := 12) (v := 0) (by decide) dX12_playedFrom_12 ?_
  refine G_istore_n (pc := 13) (L1 := [some (.ref 67), some (.int 0), some (.int 4), some (.int 0), none, none, none, none, none]) rfl rfl (by decide) dX12_playedFrom_13 ?_
  refine G_iconst (pc := 14) (v := (-1)) (by decide) dX12_playedFrom_14 ?_
  refine G_istore (pc := 15) (L1 := [some (.ref 67), some (.int 0), some (.int 4), some (.int 0), some (.int (-1)), none, none, none, none]) rfl rfl (by decide) dX12_playedFrom_15 ?_
  refine G_iconst (pc := 17) (v := 0) (by decide) dX12_playedFrom_17 ?_
  refine G_istore (pc := 18) (L1 := [some (.ref 67), some (.int 0), some (.int 4), some (.int 0), some (.int (-1)), some (.int 0), none, none, none]) rfl rfl (by decide) dX12_playedFrom_18 ?_
  refine G_iload (pc := 20) rfl dX12_playedFrom_20 ?_
  refine G_aload_n (pc := 22) rfl dX12_playedFrom_22 ?_
  refine G_getR (pc := 23) (r := 68) (ci := 12) (j := 0) rfl lk_RX12_9 rfl rfl rfl dX12_playedFrom_23 ?_
  refine G_iconst (pc := 26) (v := 4) (by decide) dX12_playedFrom_26 ?_
  refine G_iald (pc := 27) (jj := 4) (v := 0) (by decide) rfl rfl (by unfold vp_in; decide) dX12_playedFrom_27 ?_
  refine G_icmp_gt (pc := 28) (tgt := 122) (by decide) dX12_playedFrom_28 (fun z => absurd z (by decide)) (fun _ => ?_)
  refine G_aload_n (pc := 31) rfl dX12_playedFrom_31 ?_
  refine G_iload (pc := 32) rfl dX12_playedFrom_32 ?_
  refine G_callV (pc := 34) (mc1 := 0) (ms1 := 0) (ci := 12) (mj := mX12_goesBy) (vs := [_]) dX12_playedFrom_34 rfl rfl cm_X12_goesBy wh_72 wh_74 wh_75 rfl (Nat.le_of_ble_eq_true rfl) (Nat.le_of_ble_eq_true rfl) (Nat.le_of_ble_eq_true rfl) (Nat.le_of_ble_eq_true rfl) (s10200_X12_goesBy J (d + 3)  ) ?_
  rintro _ _ ⟨rfl, rfl⟩
  dsimp only [Option.toList, List.cons_append, List.nil_append]
  refine G_istore (pc := 37) (L1 := [some (.ref 67), some (.int 0), some (.int 4), some (.int 0), some (.int (-1)), some (.int 0), some (.int 0), none, none]) rfl rfl (by decide) dX12_playedFrom_37 ?_
  refine G_iload (pc := 39) rfl dX12_playedFrom_39 ?_
  refine G_aload_n (pc := 41) rfl dX12_playedFrom_41 ?_
  refine G_iload_n (pc := 42) rfl dX12_playedFrom_42 ?_
  refine G_iconst (pc := 43) (v := 1) (by decide) dX12_playedFrom_43 ?_
  refine G_iadd (pc := 44) (z := 1) (by decide) dX12_playedFrom_44 ?_
  refine G_iload_n (pc := 45) rfl dX12_playedFrom_45 ?_
  refine G_callV (pc := 46) (mc1 := 0) (ms1 := 0) (ci := 12) (mj := mX12_playedFrom) (vs := [_, _]) dX12_playedFrom_46 rfl rfl cm_X12_playedFrom wh_119 wh_121 wh_122 rfl (Nat.le_of_ble_eq_true rfl) (Nat.le_of_ble_eq_true rfl) (Nat.le_of_ble_eq_true rfl) (Nat.le_of_ble_eq_true rfl) (s10215_X12_playedFrom J d  ) ?_
  rintro _ _ ⟨rfl, rfl⟩
  dsimp only [Option.toList, List.cons_append, List.nil_append]
  refine G_iadd (pc := 49) (z := 0) (by decide) dX12_playedFrom_49 ?_
  refine G_istore (pc := 50) (L1 := [some (.ref 67), some (.int 0), some (.int 4), some (.int 0), some (.int (-1)), some (.int 0), some (.int 0), some (.int 0), none]) rfl rfl (by decide) dX12_playedFrom_50 ?_
  refine G_aload_n (pc := 52) rfl dX12_playedFrom_52 ?_
  refine G_iload_n (pc := 53) rfl dX12_playedFrom_53 ?_
  refine G_callV (pc := 54) (mc1 := 0) (ms1 := 0) (ci := 12) (mj := mX12_restores) (vs := [_]) dX12_playedFrom_54 rfl rfl cm_X12_restores wh_111 wh_113 wh_114 rfl (Nat.le_of_ble_eq_true rfl) (Nat.le_of_ble_eq_true rfl) (Nat.le_of_ble_eq_true rfl) (Nat.le_of_ble_eq_true rfl) (restores_0 (d + 3) (gup (gcp (gup (gcp (gup (gcp (gup (gup (gcp (gup (gup (gcp (gup (gup (gcp (gup (gup (gcp (gmx J) 68 76 0 0 65) 68 0 1) 68 2 0) 68 76 0 65 65) 68 0 2) 68 2 0) 68 76 0 130 65) 68 0 3) 68 2 0) 68 76 0 195 65) 68 0 4) 68 2 0) 76 68 195 0 65) 77 3 0) 76 68 130 0 65) 77 2 0) 76 68 65 0 65) 77 1 0)) ?_
  rintro _ _ ⟨rfl, rfl⟩
  dsimp only [Option.toList, List.cons_append, List.nil_append]
  refine G_iload (pc := 57) rfl dX12_playedFrom_57 ?_
  refine G_if_lt (pc := 59) (tgt := 83) (by decide) dX12_playedFrom_59 (fun _ => ?_) (fun z => absurd (by decide) z)
  refine G_iconst (pc := 83) (v := 1) (by decide) dX12_playedFrom_83 ?_
  refine G_goto (pc := 84) (tgt := 88) (by decide) dX12_playedFrom_84 ?_
  refine G_istore (pc := 88) (L1 := [some (.ref 67), some (.int 0), some (.int 4), some (.int 0), some (.int (-1)), some (.int 0), some (.int 0), some (.int 0), some (.int 1)]) rfl rfl (by decide) dX12_playedFrom_88 ?_
  refine G_iload (pc := 90) rfl dX12_playedFrom_90 ?_
  refine G_if_eq (pc := 92) (tgt := 100) (by decide) dX12_playedFrom_92 (fun z => absurd z (by decide)) (fun _ => ?_)
  refine G_iload (pc := 95) rfl dX12_playedFrom_95 ?_
  refine G_goto (pc := 97) (tgt := 102) (by decide) dX12_playedFrom_97 ?_
  refine G_istore (pc := 102) (L1 := [some (.ref 67), some (.int 0), some (.int 4), some (.int 0), some (.int 0), some (.int 0), some (.int 0), some (.int 0), some (.int 1)]) rfl rfl (by decide) dX12_playedFrom_102 ?_
  refine G_iload (pc := 104) rfl dX12_playedFrom_104 ?_
  refine G_if_eq (pc := 106) (tgt := 114) (by decide) dX12_playedFrom_106 (fun z => absurd z (by decide)) (fun _ => ?_)
  refine G_iload (pc := 109) rfl dX12_playedFrom_109 ?_
  refine G_goto (pc := 111) (tgt := 115) (by decide) dX12_playedFrom_111 ?_
  refine G_istore_n (pc := 115) (L1 := [some (.ref 67), some (.int 0), some (.int 4), some (.int 0), some (.int 0), some (.int 0), some (.int 0), some (.int 0), some (.int 1)]) rfl rfl (by decide) dX12_playedFrom_115 ?_
  refine G_iinc (pc := 116) (v := 1) (w := 1) (L1 := [some (.ref 67), some (.int 0), some (.int 4), some (.int 0), some (.int 0), some (.int 1), some (.int 0), some (.int 0), some (.int 1)]) (by decide) rfl rfl (by decide) rfl (by decide) dX12_playedFrom_116 ?_
  refine G_goto (pc := 119) (tgt := 20) (by decide) dX12_playedFrom_119 ?_
  refine G_iload (pc := 20) rfl dX12_playedFrom_20 ?_
  refine G_aload_n (pc := 22) rfl dX12_playedFrom_22 ?_
  refine G_getR (pc := 23) (r := 68) (ci := 12) (j := 0) rfl lk_RX12_9 rfl rfl rfl dX12_playedFrom_23 ?_
  refine G_iconst (pc := 26) (v := 4) (by decide) dX12_playedFrom_26 ?_
  refine G_iald (pc := 27) (jj := 4) (v := 0) (by decide) rfl rfl (by unfold vp_in; decide) dX12_playedFrom_27 ?_
  refine G_icmp_gt (pc := 28) (tgt := 122) (by decide) dX12_playedFrom_28 (fun _ => ?_) (fun z => absurd (by decide) z)
  refine G_aload_n (pc := 122) rfl dX12_playedFrom_122 ?_
  refine G_getR (pc := 123) (r := 77) (ci := 12) (j := 17) rfl lk_RX12_38 rfl rfl rfl dX12_playedFrom_123 ?_
  refine G_iload_n (pc := 126) rfl dX12_playedFrom_126 ?_
  refine G_iload (pc := 127) rfl dX12_playedFrom_127 ?_
  refine G_iast (pc := 129) (jj := 0) (by decide) rfl (by unfold vp_in; decide) dX12_playedFrom_129 ?_
  refine G_iload_n (pc := 130) rfl dX12_playedFrom_130 ?_
  exact G_iret (pc := 131) (Nat.le_of_ble_eq_true rfl) (Nat.le_of_ble_eq_true rfl) rfl dX12_playedFrom_131 ⟨rfl, rfl⟩
set_option maxRecDepth 100000 in
set_option maxHeartbeats 4000000 in
theorem z_game (J : gI) (d : Nat) (n : Int32) : G (d + 5) mX12_game 0 0 0 0 0 (gent 2 [.ref 67, .int n]) [] SH0 RF0 (gmx J) (fun r _ => r = some (.int (F_game n))) := by
  refine G_iload_n (pc := 0) rfl dX12_game_0 ?_
  refine G_iconst (pc := 1) (v := 1) (by decide) dX12_game_1 ?_
  refine G_iconst (pc := 2) (v := 4) (by decide) dX12_game_2 ?_
  refine G_callS (pc := 3) (mc1 := 0) (ms1 := 0) (mj := mX12_in1) (vs := [_, _, _]) dX12_game_3 cm_X12_in1 wh_0 wh_3 rfl (Nat.le_of_ble_eq_true rfl) (Nat.le_of_ble_eq_true rfl) (Nat.le_of_ble_eq_true rfl) (Nat.le_of_ble_eq_true rfl) (in1_s (d + 4) n 1 4) ?_
  rintro _ _ ⟨rfl, rfl⟩
  dsimp only [Option.toList, List.cons_append, List.nil_append]
  refine G_if_eq (pc := 6) (tgt := 22) (by decide) dX12_game_6 (fun c305 => ?_) (fun c305 => ?_)
  · have c305 := gB_z c305
    refine G_iconst (pc := 22) (v := (-1)) (by decide) dX12_game_22 ?_
    exact G_iret (pc := 23) (Nat.le_of_ble_eq_true rfl) (Nat.le_of_ble_eq_true rfl) rfl dX12_game_23 (by first | rfl | (simp [F_game, *]; done) | (have : ¬ (1 ≤ (n).toInt ∧ (n).toInt ≤ 4) := fun z => c305 ⟨Int32.le_iff_toInt_le.mpr z.1, Int32.le_iff_toInt_le.mpr z.2⟩; simp only [F_game, Int32.le_iff_toInt_le, Int32.lt_iff_toInt_lt, ← Int32.toInt_inj]; simp; omega) | (have : ¬ (1 ≤ (n).toInt ∧ (n).toInt ≤ 4) := fun z => c305 ⟨Int32.le_iff_toInt_le.mpr z.1, Int32.le_iff_toInt_le.mpr z.2⟩; simp only [F_game, Int32.le_iff_toInt_le, Int32.lt_iff_toInt_lt, ← Int32.toInt_inj]; split <;> first | rfl | (exfalso; simp at *; omega)) | (have : ¬ (1 ≤ (n).toInt ∧ (n).toInt ≤ 4) := fun z => c305 ⟨Int32.le_iff_toInt_le.mpr z.1, Int32.le_iff_toInt_le.mpr z.2⟩; unfold F_game; (repeat' split) <;> first | rfl | (exfalso; (try simp only [Int32.le_iff_toInt_le, Int32.lt_iff_toInt_lt, ← Int32.toInt_inj] at *); first | omega | (simp at *; done) | (simp at *; omega))))
  · have c305 := gB_o c305
    refine G_aload_n (pc := 9) rfl dX12_game_9 ?_
    refine G_iconst (pc := 10) (v := 0) (by decide) dX12_game_10 ?_
    refine G_aload_n (pc := 11) rfl dX12_game_11 ?_
    refine G_iload_n (pc := 12) rfl dX12_game_12 ?_
    by_cases c307 : n = 1
    · subst c307
      refine G_callV (pc := 13) (mc1 := 0) (ms1 := 0) (ci := 12) (mj := mX12_daysOf) (vs := [_]) dX12_game_13 rfl rfl cm_X12_daysOf wh_91 wh_93 wh_94 rfl (Nat.le_of_ble_eq_true rfl) (Nat.le_of_ble_eq_true rfl) (Nat.le_of_ble_eq_true rfl) (Nat.le_of_ble_eq_true rfl) (s10198_X12_daysOf J (d + 3)  ) ?_
      rintro _ _ ⟨rfl, rfl⟩
      dsimp only [Option.toList, List.cons_append, List.nil_append]
      refine G_callV (pc := 16) (mc1 := 0) (ms1 := 0) (ci := 12) (mj := mX12_playedFrom) (vs := [_, _]) dX12_game_16 rfl rfl cm_X12_playedFrom wh_119 wh_121 wh_122 rfl (Nat.le_of_ble_eq_true rfl) (Nat.le_of_ble_eq_true rfl) (Nat.le_of_ble_eq_true rfl) (Nat.le_of_ble_eq_true rfl) (s10199_X12_playedFrom J (d + 3)  ) ?_
      rintro _ _ ⟨rfl, rfl⟩
      dsimp only [Option.toList, List.cons_append, List.nil_append]
      refine G_goto (pc := 19) (tgt := 23) (by decide) dX12_game_19 ?_
      exact G_iret (pc := 23) (Nat.le_of_ble_eq_true rfl) (Nat.le_of_ble_eq_true rfl) rfl dX12_game_23 (by first | rfl | (simp [F_game, *]; done) | (simp only [F_game, Int32.le_iff_toInt_le, Int32.lt_iff_toInt_lt, ← Int32.toInt_inj]; simp; omega) | (simp only [F_game, Int32.le_iff_toInt_le, Int32.lt_iff_toInt_lt, ← Int32.toInt_inj]; split <;> first | rfl | (exfalso; simp at *; omega)) | (unfold F_game; (repeat' split) <;> first | rfl | (exfalso; (try simp only [Int32.le_iff_toInt_le, Int32.lt_iff_toInt_lt, ← Int32.toInt_inj] at *); first | omega | (simp at *; done) | (simp at *; omega))))
    by_cases c308 : n = 2
    · subst c308
      refine G_callV (pc := 13) (mc1 := 0) (ms1 := 0) (ci := 12) (mj := mX12_daysOf) (vs := [_]) dX12_game_13 rfl rfl cm_X12_daysOf wh_91 wh_93 wh_94 rfl (Nat.le_of_ble_eq_true rfl) (Nat.le_of_ble_eq_true rfl) (Nat.le_of_ble_eq_true rfl) (Nat.le_of_ble_eq_true rfl) (s10202_X12_daysOf J (d + 3)  ) ?_
      rintro _ _ ⟨rfl, rfl⟩
      dsimp only [Option.toList, List.cons_append, List.nil_append]
      refine G_callV (pc := 16) (mc1 := 0) (ms1 := 0) (ci := 12) (mj := mX12_playedFrom) (vs := [_, _]) dX12_game_16 rfl rfl cm_X12_playedFrom wh_119 wh_121 wh_122 rfl (Nat.le_of_ble_eq_true rfl) (Nat.le_of_ble_eq_true rfl) (Nat.le_of_ble_eq_true rfl) (Nat.le_of_ble_eq_true rfl) (s10203_X12_playedFrom J (d + 2)  ) ?_
      rintro _ _ ⟨rfl, rfl⟩
      dsimp only [Option.toList, List.cons_append, List.nil_append]
      refine G_goto (pc := 19) (tgt := 23) (by decide) dX12_game_19 ?_
      exact G_iret (pc := 23) (Nat.le_of_ble_eq_true rfl) (Nat.le_of_ble_eq_true rfl) rfl dX12_game_23 (by first | rfl | (simp [F_game, *]; done) | (simp only [F_game, Int32.le_iff_toInt_le, Int32.lt_iff_toInt_lt, ← Int32.toInt_inj]; simp; omega) | (simp only [F_game, Int32.le_iff_toInt_le, Int32.lt_iff_toInt_lt, ← Int32.toInt_inj]; split <;> first | rfl | (exfalso; simp at *; omega)) | (unfold F_game; (repeat' split) <;> first | rfl | (exfalso; (try simp only [Int32.le_iff_toInt_le, Int32.lt_iff_toInt_lt, ← Int32.toInt_inj] at *); first | omega | (simp at *; done) | (simp at *; omega))))
    by_cases c309 : n = 3
    · subst c309
      refine G_callV (pc := 13) (mc1 := 0) (ms1 := 0) (ci := 12) (mj := mX12_daysOf) (vs := [_]) dX12_game_13 rfl rfl cm_X12_daysOf wh_91 wh_93 wh_94 rfl (Nat.le_of_ble_eq_true rfl) (Nat.le_of_ble_eq_true rfl) (Nat.le_of_ble_eq_true rfl) (Nat.le_of_ble_eq_true rfl) (s10207_X12_daysOf J (d + 3)  ) ?_
      rintro _ _ ⟨rfl, rfl⟩
      dsimp only [Option.toList, List.cons_append, List.nil_append]
      refine G_callV (pc := 16) (mc1 := 0) (ms1 := 0) (ci := 12) (mj := mX12_playedFrom) (vs := [_, _]) dX12_game_16 rfl rfl cm_X12_playedFrom wh_119 wh_121 wh_122 rfl (Nat.le_of_ble_eq_true rfl) (Nat.le_of_ble_eq_true rfl) (Nat.le_of_ble_eq_true rfl) (Nat.le_of_ble_eq_true rfl) (s10208_X12_playedFrom J (d + 1)  ) ?_
      rintro _ _ ⟨rfl, rfl⟩
      dsimp only [Option.toList, List.cons_append, List.nil_append]
      refine G_goto (pc := 19) (tgt := 23) (by decide) dX12_game_19 ?_
      exact G_iret (pc := 23) (Nat.le_of_ble_eq_true rfl) (Nat.le_of_ble_eq_true rfl) rfl dX12_game_23 (by first | rfl | (simp [F_game, *]; done) | (simp only [F_game, Int32.le_iff_toInt_le, Int32.lt_iff_toInt_lt, ← Int32.toInt_inj]; simp; omega) | (simp only [F_game, Int32.le_iff_toInt_le, Int32.lt_iff_toInt_lt, ← Int32.toInt_inj]; split <;> first | rfl | (exfalso; simp at *; omega)) | (unfold F_game; (repeat' split) <;> first | rfl | (exfalso; (try simp only [Int32.le_iff_toInt_le, Int32.lt_iff_toInt_lt, ← Int32.toInt_inj] at *); first | omega | (simp at *; done) | (simp at *; omega))))
    by_cases c310 : n = 4
    · subst c310
      refine G_callV (pc := 13) (mc1 := 0) (ms1 := 0) (ci := 12) (mj := mX12_daysOf) (vs := [_]) dX12_game_13 rfl rfl cm_X12_daysOf wh_91 wh_93 wh_94 rfl (Nat.le_of_ble_eq_true rfl) (Nat.le_of_ble_eq_true rfl) (Nat.le_of_ble_eq_true rfl) (Nat.le_of_ble_eq_true rfl) (s10213_X12_daysOf J (d + 3)  ) ?_
      rintro _ _ ⟨rfl, rfl⟩
      dsimp only [Option.toList, List.cons_append, List.nil_append]
      refine G_callV (pc := 16) (mc1 := 0) (ms1 := 0) (ci := 12) (mj := mX12_playedFrom) (vs := [_, _]) dX12_game_16 rfl rfl cm_X12_playedFrom wh_119 wh_121 wh_122 rfl (Nat.le_of_ble_eq_true rfl) (Nat.le_of_ble_eq_true rfl) (Nat.le_of_ble_eq_true rfl) (Nat.le_of_ble_eq_true rfl) (s10214_X12_playedFrom J d  ) ?_
      rintro _ _ ⟨rfl, rfl⟩
      dsimp only [Option.toList, List.cons_append, List.nil_append]
      refine G_goto (pc := 19) (tgt := 23) (by decide) dX12_game_19 ?_
      exact G_iret (pc := 23) (Nat.le_of_ble_eq_true rfl) (Nat.le_of_ble_eq_true rfl) rfl dX12_game_23 (by first | rfl | (simp [F_game, *]; done) | (simp only [F_game, Int32.le_iff_toInt_le, Int32.lt_iff_toInt_lt, ← Int32.toInt_inj]; simp; omega) | (simp only [F_game, Int32.le_iff_toInt_le, Int32.lt_iff_toInt_lt, ← Int32.toInt_inj]; split <;> first | rfl | (exfalso; simp at *; omega)) | (unfold F_game; (repeat' split) <;> first | rfl | (exfalso; (try simp only [Int32.le_iff_toInt_le, Int32.lt_iff_toInt_lt, ← Int32.toInt_inj] at *); first | omega | (simp at *; done) | (simp at *; omega))))
    exfalso
    have : 1 ≤ (n).toInt := Int32.le_iff_toInt_le.mp (c305.1)
    have : (n).toInt ≤ 4 := Int32.le_iff_toInt_le.mp (c305.2)
    have : (n).toInt ≠ 1 := g_ne (c307)
    have : (n).toInt ≠ 2 := g_ne (c308)
    have : (n).toInt ≠ 3 := g_ne (c309)
    have : (n).toInt ≠ 4 := g_ne (c310)
    omega
set_option maxRecDepth 100000 in
set_option maxHeartbeats 4000000 in
theorem z_play (J : gI) (d : Nat) (n : Int32) : G (d + 5) mX12_play 0 0 0 0 0 (gent 3 [.ref 67, .int n]) [] SH0 RF0 (gmx J) (fun r _ => r = some (.int (F_play n))) := by
  refine G_iload_n (pc := 0) rfl dX12_play_0 ?_
  refine G_iconst (pc := 1) (v := 1) (by decide) dX12_play_1 ?_
  refine G_iconst (pc := 2) (v := 4) (by decide) dX12_play_2 ?_
  refine G_callS (pc := 3) (mc1 := 0) (ms1 := 0) (mj := mX12_in1) (vs := [_, _, _]) dX12_play_3 cm_X12_in1 wh_0 wh_3 rfl (Nat.le_of_ble_eq_true rfl) (Nat.le_of_ble_eq_true rfl) (Nat.le_of_ble_eq_true rfl) (Nat.le_of_ble_eq_true rfl) (in1_s (d + 4) n 1 4) ?_
  rintro _ _ ⟨rfl, rfl⟩
  dsimp only [Option.toList, List.cons_append, List.nil_append]
  refine G_if_ne (pc := 6) (tgt := 11) (by decide) dX12_play_6 (fun c311 => ?_) (fun c311 => ?_)
  · have c311 := gB_o c311
    refine G_aload_n (pc := 11) rfl dX12_play_11 ?_
    refine G_callV (pc := 12) (mc1 := 0) (ms1 := 0) (ci := 12) (mj := mX12_isOver) (vs := []) dX12_play_12 rfl rfl cm_X12_isOver wh_22 wh_24 wh_25 rfl (Nat.le_of_ble_eq_true rfl) (Nat.le_of_ble_eq_true rfl) (Nat.le_of_ble_eq_true rfl) (Nat.le_of_ble_eq_true rfl) (s10011_X12_isOver J (d + 4)  ) ?_
    rintro _ _ ⟨rfl, rfl⟩
    dsimp only [Option.toList, List.cons_append, List.nil_append]
    refine G_if_eq (pc := 15) (tgt := 21) (by decide) dX12_play_15 (fun _ => ?_) (fun z => absurd (by decide) z)
    refine G_aload_n (pc := 21) rfl dX12_play_21 ?_
    refine G_iconst (pc := 22) (v := 0) (by decide) dX12_play_22 ?_
    refine G_aload_n (pc := 23) rfl dX12_play_23 ?_
    refine G_iload_n (pc := 24) rfl dX12_play_24 ?_
    by_cases c313 : n = 1
    · subst c313
      refine G_callV (pc := 25) (mc1 := 0) (ms1 := 0) (ci := 12) (mj := mX12_daysOf) (vs := [_]) dX12_play_25 rfl rfl cm_X12_daysOf wh_91 wh_93 wh_94 rfl (Nat.le_of_ble_eq_true rfl) (Nat.le_of_ble_eq_true rfl) (Nat.le_of_ble_eq_true rfl) (Nat.le_of_ble_eq_true rfl) (s10198_X12_daysOf J (d + 3)  ) ?_
      rintro _ _ ⟨rfl, rfl⟩
      dsimp only [Option.toList, List.cons_append, List.nil_append]
      refine G_callV (pc := 28) (mc1 := 0) (ms1 := 0) (ci := 12) (mj := mX12_playedFrom) (vs := [_, _]) dX12_play_28 rfl rfl cm_X12_playedFrom wh_119 wh_121 wh_122 rfl (Nat.le_of_ble_eq_true rfl) (Nat.le_of_ble_eq_true rfl) (Nat.le_of_ble_eq_true rfl) (Nat.le_of_ble_eq_true rfl) (s10199_X12_playedFrom J (d + 3)  ) ?_
      rintro _ _ ⟨rfl, rfl⟩
      dsimp only [Option.toList, List.cons_append, List.nil_append]
      refine G_istore_n (pc := 31) (L1 := [some (.ref 67), some (.int 1), some (.int 0)]) rfl rfl (by decide) dX12_play_31 ?_
      refine G_iload_n (pc := 32) rfl dX12_play_32 ?_
      refine G_if_ge (pc := 33) (tgt := 41) (by decide) dX12_play_33 (fun _ => ?_) (fun z => absurd (by decide) z)
      refine G_aload_n (pc := 41) rfl dX12_play_41 ?_
      refine G_getR (pc := 42) (r := 77) (ci := 12) (j := 17) rfl lk_RX12_38 rfl rfl rfl dX12_play_42 ?_
      refine G_iconst (pc := 45) (v := 0) (by decide) dX12_play_45 ?_
      refine G_iald (pc := 46) (jj := 0) (v := 0) (by decide) rfl rfl (by unfold vp_in; decide) dX12_play_46 ?_
      exact G_iret (pc := 47) (Nat.le_of_ble_eq_true rfl) (Nat.le_of_ble_eq_true rfl) rfl dX12_play_47 (by first | rfl | (simp [F_play, *]; done) | (simp only [F_play, Int32.le_iff_toInt_le, Int32.lt_iff_toInt_lt, ← Int32.toInt_inj]; simp; omega) | (simp only [F_play, Int32.le_iff_toInt_le, Int32.lt_iff_toInt_lt, ← Int32.toInt_inj]; split <;> first | rfl | (exfalso; simp at *; omega)) | (unfold F_play; (repeat' split) <;> first | rfl | (exfalso; (try simp only [Int32.le_iff_toInt_le, Int32.lt_iff_toInt_lt, ← Int32.toInt_inj] at *); first | omega | (simp at *; done) | (simp at *; omega))))
    by_cases c314 : n = 2
    · subst c314
      refine G_callV (pc := 25) (mc1 := 0) (ms1 := 0) (ci := 12) (mj := mX12_daysOf) (vs := [_]) dX12_play_25 rfl rfl cm_X12_daysOf wh_91 wh_93 wh_94 rfl (Nat.le_of_ble_eq_true rfl) (Nat.le_of_ble_eq_true rfl) (Nat.le_of_ble_eq_true rfl) (Nat.le_of_ble_eq_true rfl) (s10202_X12_daysOf J (d + 3)  ) ?_
      rintro _ _ ⟨rfl, rfl⟩
      dsimp only [Option.toList, List.cons_append, List.nil_append]
      refine G_callV (pc := 28) (mc1 := 0) (ms1 := 0) (ci := 12) (mj := mX12_playedFrom) (vs := [_, _]) dX12_play_28 rfl rfl cm_X12_playedFrom wh_119 wh_121 wh_122 rfl (Nat.le_of_ble_eq_true rfl) (Nat.le_of_ble_eq_true rfl) (Nat.le_of_ble_eq_true rfl) (Nat.le_of_ble_eq_true rfl) (s10203_X12_playedFrom J (d + 2)  ) ?_
      rintro _ _ ⟨rfl, rfl⟩
      dsimp only [Option.toList, List.cons_append, List.nil_append]
      refine G_istore_n (pc := 31) (L1 := [some (.ref 67), some (.int 2), some (.int 0)]) rfl rfl (by decide) dX12_play_31 ?_
      refine G_iload_n (pc := 32) rfl dX12_play_32 ?_
      refine G_if_ge (pc := 33) (tgt := 41) (by decide) dX12_play_33 (fun _ => ?_) (fun z => absurd (by decide) z)
      refine G_aload_n (pc := 41) rfl dX12_play_41 ?_
      refine G_getR (pc := 42) (r := 77) (ci := 12) (j := 17) rfl lk_RX12_38 rfl rfl rfl dX12_play_42 ?_
      refine G_iconst (pc := 45) (v := 0) (by decide) dX12_play_45 ?_
      refine G_iald (pc := 46) (jj := 0) (v := 0) (by decide) rfl rfl (by unfold vp_in; decide) dX12_play_46 ?_
      exact G_iret (pc := 47) (Nat.le_of_ble_eq_true rfl) (Nat.le_of_ble_eq_true rfl) rfl dX12_play_47 (by first | rfl | (simp [F_play, *]; done) | (simp only [F_play, Int32.le_iff_toInt_le, Int32.lt_iff_toInt_lt, ← Int32.toInt_inj]; simp; omega) | (simp only [F_play, Int32.le_iff_toInt_le, Int32.lt_iff_toInt_lt, ← Int32.toInt_inj]; split <;> first | rfl | (exfalso; simp at *; omega)) | (unfold F_play; (repeat' split) <;> first | rfl | (exfalso; (try simp only [Int32.le_iff_toInt_le, Int32.lt_iff_toInt_lt, ← Int32.toInt_inj] at *); first | omega | (simp at *; done) | (simp at *; omega))))
    by_cases c315 : n = 3
    · subst c315
      refine G_callV (pc := 25) (mc1 := 0) (ms1 := 0) (ci := 12) (mj := mX12_daysOf) (vs := [_]) dX12_play_25 rfl rfl cm_X12_daysOf wh_91 wh_93 wh_94 rfl (Nat.le_of_ble_eq_true rfl) (Nat.le_of_ble_eq_true rfl) (Nat.le_of_ble_eq_true rfl) (Nat.le_of_ble_eq_true rfl) (s10207_X12_daysOf J (d + 3)  ) ?_
      rintro _ _ ⟨rfl, rfl⟩
      dsimp only [Option.toList, List.cons_append, List.nil_append]
      refine G_callV (pc := 28) (mc1 := 0) (ms1 := 0) (ci := 12) (mj := mX12_playedFrom) (vs := [_, _]) dX12_play_28 rfl rfl cm_X12_playedFrom wh_119 wh_121 wh_122 rfl (Nat.le_of_ble_eq_true rfl) (Nat.le_of_ble_eq_true rfl) (Nat.le_of_ble_eq_true rfl) (Nat.le_of_ble_eq_true rfl) (s10208_X12_playedFrom J (d + 1)  ) ?_
      rintro _ _ ⟨rfl, rfl⟩
      dsimp only [Option.toList, List.cons_append, List.nil_append]
      refine G_istore_n (pc := 31) (L1 := [some (.ref 67), some (.int 3), some (.int 0)]) rfl rfl (by decide) dX12_play_31 ?_
      refine G_iload_n (pc := 32) rfl dX12_play_32 ?_
      refine G_if_ge (pc := 33) (tgt := 41) (by decide) dX12_play_33 (fun _ => ?_) (fun z => absurd (by decide) z)
      refine G_aload_n (pc := 41) rfl dX12_play_41 ?_
      refine G_getR (pc := 42) (r := 77) (ci := 12) (j := 17) rfl lk_RX12_38 rfl rfl rfl dX12_play_42 ?_
      refine G_iconst (pc := 45) (v := 0) (by decide) dX12_play_45 ?_
      refine G_iald (pc := 46) (jj := 0) (v := 0) (by decide) rfl rfl (by unfold vp_in; decide) dX12_play_46 ?_
      exact G_iret (pc := 47) (Nat.le_of_ble_eq_true rfl) (Nat.le_of_ble_eq_true rfl) rfl dX12_play_47 (by first | rfl | (simp [F_play, *]; done) | (simp only [F_play, Int32.le_iff_toInt_le, Int32.lt_iff_toInt_lt, ← Int32.toInt_inj]; simp; omega) | (simp only [F_play, Int32.le_iff_toInt_le, Int32.lt_iff_toInt_lt, ← Int32.toInt_inj]; split <;> first | rfl | (exfalso; simp at *; omega)) | (unfold F_play; (repeat' split) <;> first | rfl | (exfalso; (try simp only [Int32.le_iff_toInt_le, Int32.lt_iff_toInt_lt, ← Int32.toInt_inj] at *); first | omega | (simp at *; done) | (simp at *; omega))))
    by_cases c316 : n = 4
    · subst c316
      refine G_callV (pc := 25) (mc1 := 0) (ms1 := 0) (ci := 12) (mj := mX12_daysOf) (vs := [_]) dX12_play_25 rfl rfl cm_X12_daysOf wh_91 wh_93 wh_94 rfl (Nat.le_of_ble_eq_true rfl) (Nat.le_of_ble_eq_true rfl) (Nat.le_of_ble_eq_true rfl) (Nat.le_of_ble_eq_true rfl) (s10213_X12_daysOf J (d + 3)  ) ?_
      rintro _ _ ⟨rfl, rfl⟩
      dsimp only [Option.toList, List.cons_append, List.nil_append]
      refine G_callV (pc := 28) (mc1 := 0) (ms1 := 0) (ci := 12) (mj := mX12_playedFrom) (vs := [_, _]) dX12_play_28 rfl rfl cm_X12_playedFrom wh_119 wh_121 wh_122 rfl (Nat.le_of_ble_eq_true rfl) (Nat.le_of_ble_eq_true rfl) (Nat.le_of_ble_eq_true rfl) (Nat.le_of_ble_eq_true rfl) (s10214_X12_playedFrom J d  ) ?_
      rintro _ _ ⟨rfl, rfl⟩
      dsimp only [Option.toList, List.cons_append, List.nil_append]
      refine G_istore_n (pc := 31) (L1 := [some (.ref 67), some (.int 4), some (.int 0)]) rfl rfl (by decide) dX12_play_31 ?_
      refine G_iload_n (pc := 32) rfl dX12_play_32 ?_
      refine G_if_ge (pc := 33) (tgt := 41) (by decide) dX12_play_33 (fun _ => ?_) (fun z => absurd (by decide) z)
      refine G_aload_n (pc := 41) rfl dX12_play_41 ?_
      refine G_getR (pc := 42) (r := 77) (ci := 12) (j := 17) rfl lk_RX12_38 rfl rfl rfl dX12_play_42 ?_
      refine G_iconst (pc := 45) (v := 0) (by decide) dX12_play_45 ?_
      refine G_iald (pc := 46) (jj := 0) (v := 0) (by decide) rfl rfl (by unfold vp_in; decide) dX12_play_46 ?_
      exact G_iret (pc := 47) (Nat.le_of_ble_eq_true rfl) (Nat.le_of_ble_eq_true rfl) rfl dX12_play_47 (by first | rfl | (simp [F_play, *]; done) | (simp only [F_play, Int32.le_iff_toInt_le, Int32.lt_iff_toInt_lt, ← Int32.toInt_inj]; simp; omega) | (simp only [F_play, Int32.le_iff_toInt_le, Int32.lt_iff_toInt_lt, ← Int32.toInt_inj]; split <;> first | rfl | (exfalso; simp at *; omega)) | (unfold F_play; (repeat' split) <;> first | rfl | (exfalso; (try simp only [Int32.le_iff_toInt_le, Int32.lt_iff_toInt_lt, ← Int32.toInt_inj] at *); first | omega | (simp at *; done) | (simp at *; omega))))
    exfalso
    have : 1 ≤ (n).toInt := Int32.le_iff_toInt_le.mp (c311.1)
    have : (n).toInt ≤ 4 := Int32.le_iff_toInt_le.mp (c311.2)
    have : (n).toInt ≠ 1 := g_ne (c313)
    have : (n).toInt ≠ 2 := g_ne (c314)
    have : (n).toInt ≠ 3 := g_ne (c315)
    have : (n).toInt ≠ 4 := g_ne (c316)
    omega
  · have c311 := gB_z c311
    refine G_iconst (pc := 9) (v := (-1)) (by decide) dX12_play_9 ?_
    exact G_iret (pc := 10) (Nat.le_of_ble_eq_true rfl) (Nat.le_of_ble_eq_true rfl) rfl dX12_play_10 (by first | rfl | (simp [F_play, *]; done) | (have : ¬ (1 ≤ (n).toInt ∧ (n).toInt ≤ 4) := fun z => c311 ⟨Int32.le_iff_toInt_le.mpr z.1, Int32.le_iff_toInt_le.mpr z.2⟩; simp only [F_play, Int32.le_iff_toInt_le, Int32.lt_iff_toInt_lt, ← Int32.toInt_inj]; simp; omega) | (have : ¬ (1 ≤ (n).toInt ∧ (n).toInt ≤ 4) := fun z => c311 ⟨Int32.le_iff_toInt_le.mpr z.1, Int32.le_iff_toInt_le.mpr z.2⟩; simp only [F_play, Int32.le_iff_toInt_le, Int32.lt_iff_toInt_lt, ← Int32.toInt_inj]; split <;> first | rfl | (exfalso; simp at *; omega)) | (have : ¬ (1 ≤ (n).toInt ∧ (n).toInt ≤ 4) := fun z => c311 ⟨Int32.le_iff_toInt_le.mpr z.1, Int32.le_iff_toInt_le.mpr z.2⟩; unfold F_play; (repeat' split) <;> first | rfl | (exfalso; (try simp only [Int32.le_iff_toInt_le, Int32.lt_iff_toInt_lt, ← Int32.toInt_inj] at *); first | omega | (simp at *; done) | (simp at *; omega))))
set_option maxRecDepth 100000 in
set_option maxHeartbeats 4000000 in
theorem s10223_X12_goesBy (J : gI) (d : Nat)   : G (d) mX12_goesBy 0 0 0 0 0 (gent 5 [.ref 67, .int 0]) [] SH0 RF0 (gup (gcp (gup (gcp (gup (gup (gup (gup (gup (gup (gup (gup (gup (gcp (gup (gup (gup (gup (gmx J) 67 19 (-1)) 67 20 0) 67 21 5) 67 22 0) 68 76 0 0 65) 77 0 0) 68 0 1) 68 2 0) 67 20 0) 67 19 0) 78 0 0) 67 20 1) 67 21 0) 67 22 0) 76 68 0 0 65) 67 27 1) 68 70 0 0 65) 81 0 0) (fun r h => r = some (.int 0) ∧ h = (SH0, RF0, (gup (gup (gup (gcp (gup (gcp (gup (gup (gup (gup (gup (gup (gup (gup (gup (gcp (gup (gup (gup (gup (gmx J) 67 19 (-1)) 67 20 0) 67 21 5) 67 22 0) 68 76 0 0 65) 77 0 0) 68 0 1) 68 2 0) 67 20 0) 67 19 0) 78 0 0) 67 20 1) 67 21 0) 67 22 0) 76 68 0 0 65) 67 27 1) 68 70 0 0 65) 81 0 0) 68 0 1) 68 2 0))) := by
  refine G_iload_n (pc := 0) rfl dX12_goesBy_0 ?_
  refine G_if_ge (pc := 1) (tgt := 11) (by decide) dX12_goesBy_1 (fun _ => ?_) (fun z => absurd (by decide) z)
  refine G_iload_n (pc := 11) rfl dX12_goesBy_11 ?_
  refine G_iconst (pc := 12) (v := 1) (by decide) dX12_goesBy_12 ?_
  refine G_isub (pc := 13) (z := (-1)) (by decide) dX12_goesBy_13 ?_
  refine G_istore_n (pc := 14) (L1 := [some (.ref 67), some (.int 0), some (.int (-1)), none, none]) rfl rfl (by decide) dX12_goesBy_14 ?_
  refine G_iload_n (pc := 15) rfl dX12_goesBy_15 ?_
  refine G_if_lt (pc := 16) (tgt := 27) (by decide) dX12_goesBy_16 (fun _ => ?_) (fun z => absurd (by decide) z)
  refine G_iconst (pc := 27) (v := 0) (by decide) dX12_goesBy_27 ?_
  refine G_istore_n (pc := 28) (L1 := [some (.ref 67), some (.int 0), some (.int (-1)), some (.int 0), none]) rfl rfl (by decide) dX12_goesBy_28 ?_
  refine G_iconst (pc := 29) (v := 0) (by decide) dX12_goesBy_29 ?_
  refine G_istore (pc := 30) (L1 := [some (.ref 67), some (.int 0), some (.int (-1)), some (.int 0), some (.int 0)]) rfl rfl (by decide) dX12_goesBy_30 ?_
  refine G_iload (pc := 32) rfl dX12_goesBy_32 ?_
  refine G_aload_n (pc := 34) rfl dX12_goesBy_34 ?_
  refine G_getR (pc := 35) (r := 68) (ci := 12) (j := 0) rfl lk_RX12_9 rfl rfl rfl dX12_goesBy_35 ?_
  refine G_iconst (pc := 38) (v := 4) (by decide) dX12_goesBy_38 ?_
  refine G_iald (pc := 39) (jj := 4) (v := 0) (by decide) rfl rfl (by unfold vp_in; decide) dX12_goesBy_39 ?_
  refine G_icmp_ge (pc := 40) (tgt := 104) (by decide) dX12_goesBy_40 (fun _ => ?_) (fun z => absurd (by decide) z)
  refine G_aload_n (pc := 104) rfl dX12_goesBy_104 ?_
  refine G_getR (pc := 105) (r := 68) (ci := 12) (j := 0) rfl lk_RX12_9 rfl rfl rfl dX12_goesBy_105 ?_
  refine G_iconst (pc := 108) (v := 0) (by decide) dX12_goesBy_108 ?_
  refine G_dup2 (pc := 109) rfl rfl dX12_goesBy_109 ?_
  refine G_iald (pc := 110) (jj := 0) (v := 0) (by decide) rfl rfl (by unfold vp_in; decide) dX12_goesBy_110 ?_
  refine G_iconst (pc := 111) (v := 1) (by decide) dX12_goesBy_111 ?_
  refine G_iadd (pc := 112) (z := 1) (by decide) dX12_goesBy_112 ?_
  refine G_iast (pc := 113) (jj := 0) (by decide) rfl (by unfold vp_in; decide) dX12_goesBy_113 ?_
  refine G_aload_n (pc := 114) rfl dX12_goesBy_114 ?_
  refine G_getR (pc := 115) (r := 68) (ci := 12) (j := 0) rfl lk_RX12_9 rfl rfl rfl dX12_goesBy_115 ?_
  refine G_iconst (pc := 118) (v := 2) (by decide) dX12_goesBy_118 ?_
  refine G_dup2 (pc := 119) rfl rfl dX12_goesBy_119 ?_
  refine G_iald (pc := 120) (jj := 2) (v := 0) (by decide) rfl rfl (by unfold vp_in; decide) dX12_goesBy_120 ?_
  refine G_iload_n (pc := 121) rfl dX12_goesBy_121 ?_
  refine G_iadd (pc := 122) (z := 0) (by decide) dX12_goesBy_122 ?_
  refine G_iast (pc := 123) (jj := 2) (by decide) rfl (by unfold vp_in; decide) dX12_goesBy_123 ?_
  refine G_iload_n (pc := 124) rfl dX12_goesBy_124 ?_
  exact G_iret (pc := 125) (Nat.le_of_ble_eq_true rfl) (Nat.le_of_ble_eq_true rfl) rfl dX12_goesBy_125 ⟨rfl, rfl⟩
set_option maxRecDepth 100000 in
set_option maxHeartbeats 4000000 in
theorem s10224_X12_those (J : gI) (d : Nat)   : G (d) mX12_those 0 0 0 0 0 (gent 4 [.ref 67, .int 4]) [] SH0 RF0 (gup (gup (gup (gup (gcp (gup (gcp (gup (gup (gup (gup (gup (gup (gup (gup (gup (gcp (gup (gup (gup (gup (gmx J) 67 19 (-1)) 67 20 0) 67 21 5) 67 22 0) 68 76 0 0 65) 77 0 0) 68 0 1) 68 2 0) 67 20 0) 67 19 0) 78 0 0) 67 20 1) 67 21 0) 67 22 0) 76 68 0 0 65) 67 27 1) 68 70 0 0 65) 81 0 0) 68 0 1) 68 2 0) 81 1 0) (fun r h => r = some (.int 0) ∧ h = (SH0, RF0, (gup (gup (gup (gup (gcp (gup (gcp (gup (gup (gup (gup (gup (gup (gup (gup (gup (gcp (gup (gup (gup (gup (gmx J) 67 19 (-1)) 67 20 0) 67 21 5) 67 22 0) 68 76 0 0 65) 77 0 0) 68 0 1) 68 2 0) 67 20 0) 67 19 0) 78 0 0) 67 20 1) 67 21 0) 67 22 0) 76 68 0 0 65) 67 27 1) 68 70 0 0 65) 81 0 0) 68 0 1) 68 2 0) 81 1 0))) := by
  refine G_iconst (pc := 0) (v := 0) (by decide) dX12_those_0 ?_
  refine G_istore_n (pc := 1) (L1 := [some (.ref 67), some (.int 4), some (.int 0), none]) rfl rfl (by decide) dX12_those_1 ?_
  refine G_iconst (pc := 2) (v := 0) (by decide) dX12_those_2 ?_
  refine G_istore_n (pc := 3) (L1 := [some (.ref 67), some (.int 4), some (.int 0), some (.int 0)]) rfl rfl (by decide) dX12_those_3 ?_
  refine G_iload_n (pc := 4) rfl dX12_those_4 ?_
  refine G_aload_n (pc := 5) rfl dX12_those_5 ?_
  refine G_getR (pc := 6) (r := 68) (ci := 12) (j := 0) rfl lk_RX12_9 rfl rfl rfl dX12_those_6 ?_
  refine G_iconst (pc := 9) (v := 4) (by decide) dX12_those_9 ?_
  refine G_iald (pc := 10) (jj := 4) (v := 0) (by decide) rfl rfl (by unfold vp_in; decide) dX12_those_10 ?_
  refine G_icmp_ge (pc := 11) (tgt := 39) (by decide) dX12_those_11 (fun _ => ?_) (fun z => absurd (by decide) z)
  refine G_iload_n (pc := 39) rfl dX12_those_39 ?_
  exact G_iret (pc := 40) (Nat.le_of_ble_eq_true rfl) (Nat.le_of_ble_eq_true rfl) rfl dX12_those_40 ⟨rfl, rfl⟩
set_option maxRecDepth 100000 in
set_option maxHeartbeats 4000000 in
theorem s10225_X12_goesBy (J : gI) (d : Nat)   : G (d) mX12_goesBy 0 0 0 0 0 (gent 5 [.ref 67, .int 0]) [] SH0 RF0 (gup (gcp (gup (gcp (gcp (gup (gup (gup (gup (gup (gup (gup (gup (gup (gup (gcp (gup (gup (gup (gcp (gup (gup (gup (gup (gmx J) 67 19 (-1)) 67 20 0) 67 21 5) 67 22 0) 68 76 0 0 65) 77 0 0) 68 0 1) 68 2 0) 68 76 0 65 65) 77 1 0) 68 0 2) 68 2 0) 67 20 0) 67 19 0) 78 0 0) 78 1 0) 67 20 1) 67 21 0) 67 22 0) 76 68 65 0 65) 76 68 0 0 65) 67 27 2) 68 70 0 0 65) 81 0 0) (fun r h => r = some (.int 0) ∧ h = (SH0, RF0, (gup (gup (gup (gcp (gup (gcp (gcp (gup (gup (gup (gup (gup (gup (gup (gup (gup (gup (gcp (gup (gup (gup (gcp (gup (gup (gup (gup (gmx J) 67 19 (-1)) 67 20 0) 67 21 5) 67 22 0) 68 76 0 0 65) 77 0 0) 68 0 1) 68 2 0) 68 76 0 65 65) 77 1 0) 68 0 2) 68 2 0) 67 20 0) 67 19 0) 78 0 0) 78 1 0) 67 20 1) 67 21 0) 67 22 0) 76 68 65 0 65) 76 68 0 0 65) 67 27 2) 68 70 0 0 65) 81 0 0) 68 0 1) 68 2 0))) := by
  refine G_iload_n (pc := 0) rfl dX12_goesBy_0 ?_
  refine G_if_ge (pc := 1) (tgt := 11) (by decide) dX12_goesBy_1 (fun _ => ?_) (fun z => absurd (by decide) z)
  refine G_iload_n (pc := 11) rfl dX12_goesBy_11 ?_
  refine G_iconst (pc := 12) (v := 1) (by decide) dX12_goesBy_12 ?_
  refine G_isub (pc := 13) (z := (-1)) (by decide) dX12_goesBy_13 ?_
  refine G_istore_n (pc := 14) (L1 := [some (.ref 67), some (.int 0), some (.int (-1)), none, none]) rfl rfl (by decide) dX12_goesBy_14 ?_
  refine G_iload_n (pc := 15) rfl dX12_goesBy_15 ?_
  refine G_if_lt (pc := 16) (tgt := 27) (by decide) dX12_goesBy_16 (fun _ => ?_) (fun z => absurd (by decide) z)
  refine G_iconst (pc := 27) (v := 0) (by decide) dX12_goesBy_27 ?_
  refine G_istore_n (pc := 28) (L1 := [some (.ref 67), some (.int 0), some (.int (-1)), some (.int 0), none]) rfl rfl (by decide) dX12_goesBy_28 ?_
  refine G_iconst (pc := 29) (v := 0) (by decide) dX12_goesBy_29 ?_
  refine G_istore (pc := 30) (L1 := [some (.ref 67), some (.int 0), some (.int (-1)), some (.int 0), some (.int 0)]) rfl rfl (by decide) dX12_goesBy_30 ?_
  refine G_iload (pc := 32) rfl dX12_goesBy_32 ?_
  refine G_aload_n (pc := 34) rfl dX12_goesBy_34 ?_
  refine G_getR (pc := 35) (r := 68) (ci := 12) (j := 0) rfl lk_RX12_9 rfl rfl rfl dX12_goesBy_35 ?_
  refine G_iconst (pc := 38) (v := 4) (by decide) dX12_goesBy_38 ?_
  refine G_iald (pc := 39) (jj := 4) (v := 0) (by decide) rfl rfl (by unfold vp_in; decide) dX12_goesBy_39 ?_
  refine G_icmp_ge (pc := 40) (tgt := 104) (by decide) dX12_goesBy_40 (fun _ => ?_) (fun z => absurd (by decide) z)
  refine G_aload_n (pc := 104) rfl dX12_goesBy_104 ?_
  refine G_getR (pc := 105) (r := 68) (ci := 12) (j := 0) rfl lk_RX12_9 rfl rfl rfl dX12_goesBy_105 ?_
  refine G_iconst (pc := 108) (v := 0) (by decide) dX12_goesBy_108 ?_
  refine G_dup2 (pc := 109) rfl rfl dX12_goesBy_109 ?_
  refine G_iald (pc := 110) (jj := 0) (v := 0) (by decide) rfl rfl (by unfold vp_in; decide) dX12_goesBy_110 ?_
  refine G_iconst (pc := 111) (v := 1) (by decide) dX12_goesBy_111 ?_
  refine G_iadd (pc := 112) (z := 1) (by decide) dX12_goesBy_112 ?_
  refine G_iast (pc := 113) (jj := 0) (by decide) rfl (by unfold vp_in; decide) dX12_goesBy_113 ?_
  refine G_aload_n (pc := 114) rfl dX12_goesBy_114 ?_
  refine G_getR (pc := 115) (r := 68) (ci := 12) (j := 0) rfl lk_RX12_9 rfl rfl rfl dX12_goesBy_115 ?_
  refine G_iconst (pc := 118) (v := 2) (by decide) dX12_goesBy_118 ?_
  refine G_dup2 (pc := 119) rfl rfl dX12_goesBy_119 ?_
  refine G_iald (pc := 120) (jj := 2) (v := 0) (by decide) rfl rfl (by unfold vp_in; decide) dX12_goesBy_120 ?_
  refine G_iload_n (pc := 121) rfl dX12_goesBy_121 ?_
  refine G_iadd (pc := 122) (z := 0) (by decide) dX12_goesBy_122 ?_
  refine G_iast (pc := 123) (jj := 2) (by decide) rfl (by unfold vp_in; decide) dX12_goesBy_123 ?_
  refine G_iload_n (pc := 124) rfl dX12_goesBy_124 ?_
  exact G_iret (pc := 125) (Nat.le_of_ble_eq_true rfl) (Nat.le_of_ble_eq_true rfl) rfl dX12_goesBy_125 ⟨rfl, rfl⟩
