set_option maxRecDepth 100000 in
set_option maxHeartbeats 4000000 in
theorem s428_X1_restore  (d : Nat)   : G (d + 1) mX1_restore 0 0 0 0 0 (gent 3 [.ref 19, .int 0]) [] SH0 RF0 (gup (gup (gup (gup (gup (gup (gup (gup (gup (gup (gup (gup (gup (gcp I0 24 34 (0 : Int32).toNatClampNeg (0 : Int32).toNatClampNeg (6 : Int32).toNatClampNeg) 34 6 0) 34 7 0) 19 1 1) 19 1 2) 19 1 3) 19 1 4) 19 1 5) 19 1 6) 19 1 7) 19 1 8) 19 1 9) 19 1 10) 19 1 11) (fun r h => r = none ∧ h = (SH0, RF0, (gup (gup (gcp (gup (gup (gup (gup (gup (gup (gup (gup (gup (gup (gup (gup (gup (gcp I0 24 34 (0 : Int32).toNatClampNeg (0 : Int32).toNatClampNeg (6 : Int32).toNatClampNeg) 34 6 0) 34 7 0) 19 1 1) 19 1 2) 19 1 3) 19 1 4) 19 1 5) 19 1 6) 19 1 7) 19 1 8) 19 1 9) 19 1 10) 19 1 11) 34 24 (0 : Int32).toNatClampNeg (0 : Int32).toNatClampNeg (6 : Int32).toNatClampNeg) 19 9 0) 19 1 0))) := by
  refine G_iload_n (pc := 0) rfl dX1_restore_0 ?_
  refine G_bipush (pc := 1) (v := 8) (by decide) dX1_restore_1 ?_
  refine G_imul (pc := 3) (z := 0) (by decide) dX1_restore_3 ?_
  refine G_istore_n (pc := 4) (L1 := [some (.ref 19), some (.int 0), some (.int 0)]) rfl rfl (by decide) dX1_restore_4 ?_
  refine G_aload_n (pc := 5) rfl dX1_restore_5 ?_
  refine G_getR (pc := 6) (r := 34) (ci := 1) (j := 18) rfl lk_RX1_53 rfl rfl rfl dX1_restore_6 ?_
  refine G_iload_n (pc := 9) rfl dX1_restore_9 ?_
  refine G_aload_n (pc := 10) rfl dX1_restore_10 ?_
  refine G_getR (pc := 11) (r := 24) (ci := 1) (j := 11) rfl lk_RX1_31 rfl rfl rfl dX1_restore_11 ?_
  refine G_iconst (pc := 14) (v := 0) (by decide) dX1_restore_14 ?_
  refine G_bipush (pc := 15) (v := 6) (by decide) dX1_restore_15 ?_
  refine G_copy (pc := 17) (x := 34) (y := 24) rfl rfl (by decide) (by decide) (by decide) (by decide) (by decide) wf_50 wf_51 wf_52 wf_53 (Nat.le_of_ble_eq_true rfl) dX1_restore_17 ?_
  refine G_aload_n (pc := 20) rfl dX1_restore_20 ?_
  refine G_aload_n (pc := 21) rfl dX1_restore_21 ?_
  refine G_getR (pc := 22) (r := 34) (ci := 1) (j := 18) rfl lk_RX1_53 rfl rfl rfl dX1_restore_22 ?_
  refine G_iload_n (pc := 25) rfl dX1_restore_25 ?_
  refine G_bipush (pc := 26) (v := 6) (by decide) dX1_restore_26 ?_
  refine G_iadd (pc := 28) (z := 6) (by decide) dX1_restore_28 ?_
  refine G_iald (pc := 29) (jj := 6) (v := 0) (by decide) rfl rfl (by unfold vp_in; decide) dX1_restore_29 ?_
  refine G_putI (pc := 30) (ci := 1) (j := 9) rfl lk_RX1_75 rfl rfl rfl trivial dX1_restore_30 ?_
  refine G_aload_n (pc := 33) rfl dX1_restore_33 ?_
  refine G_aload_n (pc := 34) rfl dX1_restore_34 ?_
  refine G_getR (pc := 35) (r := 34) (ci := 1) (j := 18) rfl lk_RX1_53 rfl rfl rfl dX1_restore_35 ?_
  refine G_iload_n (pc := 38) rfl dX1_restore_38 ?_
  refine G_bipush (pc := 39) (v := 6) (by decide) dX1_restore_39 ?_
  refine G_iadd (pc := 41) (z := 6) (by decide) dX1_restore_41 ?_
  refine G_iconst (pc := 42) (v := 1) (by decide) dX1_restore_42 ?_
  refine G_iadd (pc := 43) (z := 7) (by decide) dX1_restore_43 ?_
  refine G_iald (pc := 44) (jj := 7) (v := 0) (by decide) rfl rfl (by unfold vp_in; decide) dX1_restore_44 ?_
  refine G_putI (pc := 45) (ci := 1) (j := 1) rfl lk_RX1_60 rfl rfl rfl trivial dX1_restore_45 ?_
  exact G_vret (pc := 48) (Nat.le_of_ble_eq_true rfl) (Nat.le_of_ble_eq_true rfl) rfl dX1_restore_48 ⟨rfl, rfl⟩
set_option maxRecDepth 100000 in
set_option maxHeartbeats 4000000 in
theorem s429_X1_goRest  (d : Nat)   : G (d + 2) mX1_goRest 0 0 0 0 0 (gent 4 [.ref 19, .int 12]) [] SH0 RF0 (gup (gup (gcp I0 24 34 (0 : Int32).toNatClampNeg (0 : Int32).toNatClampNeg (6 : Int32).toNatClampNeg) 34 6 0) 34 7 0) (fun r h => r = some (.int 0) ∧ h = (SH0, RF0, (gup (gup (gup (gup (gup (gup (gup (gup (gup (gup (gup (gup (gup (gup (gcp I0 24 34 (0 : Int32).toNatClampNeg (0 : Int32).toNatClampNeg (6 : Int32).toNatClampNeg) 34 6 0) 34 7 0) 19 1 1) 19 1 2) 19 1 3) 19 1 4) 19 1 5) 19 1 6) 19 1 7) 19 1 8) 19 1 9) 19 1 10) 19 1 11) 19 1 12))) := by
  refine G_iconst (pc := 0) (v := 0) (by decide) dX1_goRest_0 ?_
  refine G_istore_n (pc := 1) (L1 := [some (.ref 19), some (.int 12), some (.int 0), none]) rfl rfl (by decide) dX1_goRest_1 ?_
  refine G_iconst (pc := 2) (v := 0) (by decide) dX1_goRest_2 ?_
  refine G_istore_n (pc := 3) (L1 := [some (.ref 19), some (.int 12), some (.int 0), some (.int 0)]) rfl rfl (by decide) dX1_goRest_3 ?_
  refine G_iload_n (pc := 4) rfl dX1_goRest_4 ?_
  refine G_iload_n (pc := 5) rfl dX1_goRest_5 ?_
  refine G_icmp_ge (pc := 6) (tgt := 38) (by decide) dX1_goRest_6 (fun z => absurd z (by decide)) (fun _ => ?_)
  refine G_aload_n (pc := 9) rfl dX1_goRest_9 ?_
  refine G_callV (pc := 10) (mc1 := 0) (ms1 := 0) (ci := 1) (mj := mX1_isOver) (vs := []) dX1_goRest_10 rfl rfl cm_X1_isOver wf_172 wf_17 wf_18 rfl (Nat.le_of_ble_eq_true rfl) (Nat.le_of_ble_eq_true rfl) (Nat.le_of_ble_eq_true rfl) (Nat.le_of_ble_eq_true rfl) (s350_X1_isOver  (d + 1)  ) ?_
  rintro _ _ ⟨rfl, rfl⟩
  dsimp only [Option.toList, List.cons_append, List.nil_append]
  refine G_if_ne (pc := 13) (tgt := 38) (by decide) dX1_goRest_13 (fun z => absurd (by decide) z) (fun _ => ?_)
  refine G_iload_n (pc := 16) rfl dX1_goRest_16 ?_
  refine G_aload_n (pc := 17) rfl dX1_goRest_17 ?_
  refine G_aload_n (pc := 18) rfl dX1_goRest_18 ?_
  refine G_callV (pc := 19) (mc1 := 0) (ms1 := 0) (ci := 1) (mj := mX1_restAct) (vs := []) dX1_goRest_19 rfl rfl cm_X1_restAct wf_173 wf_66 wf_67 rfl (Nat.le_of_ble_eq_true rfl) (Nat.le_of_ble_eq_true rfl) (Nat.le_of_ble_eq_true rfl) (Nat.le_of_ble_eq_true rfl) (s351_X1_restAct  (d + 1)  ) ?_
  rintro _ _ ⟨rfl, rfl⟩
  dsimp only [Option.toList, List.cons_append, List.nil_append]
  refine G_callV (pc := 22) (mc1 := 0) (ms1 := 0) (ci := 1) (mj := mX1_tell) (vs := [_]) dX1_goRest_22 rfl rfl cm_X1_tell wf_69 wf_71 wf_72 rfl (Nat.le_of_ble_eq_true rfl) (Nat.le_of_ble_eq_true rfl) (Nat.le_of_ble_eq_true rfl) (Nat.le_of_ble_eq_true rfl) (s145_X1_tell  d  ) ?_
  rintro _ _ ⟨rfl, rfl⟩
  dsimp only [Option.toList, List.cons_append, List.nil_append]
  refine G_aload_n (pc := 25) rfl dX1_goRest_25 ?_
  refine G_callV (pc := 26) (mc1 := 0) (ms1 := 0) (ci := 1) (mj := mX1_melt) (vs := []) dX1_goRest_26 rfl rfl cm_X1_melt wf_73 wf_75 wf_76 rfl (Nat.le_of_ble_eq_true rfl) (Nat.le_of_ble_eq_true rfl) (Nat.le_of_ble_eq_true rfl) (Nat.le_of_ble_eq_true rfl) (s147_X1_melt  (d + 1)  ) ?_
  rintro _ _ ⟨rfl, rfl⟩
  dsimp only [Option.toList, List.cons_append, List.nil_append]
  refine G_iadd (pc := 29) (z := 0) (by decide) dX1_goRest_29 ?_
  refine G_iadd (pc := 30) (z := 0) (by decide) dX1_goRest_30 ?_
  refine G_istore_n (pc := 31) (L1 := [some (.ref 19), some (.int 12), some (.int 0), some (.int 0)]) rfl rfl (by decide) dX1_goRest_31 ?_
  refine G_iinc (pc := 32) (v := 1) (w := 1) (L1 := [some (.ref 19), some (.int 12), some (.int 0), some (.int 1)]) (by decide) rfl rfl (by decide) rfl (by decide) dX1_goRest_32 ?_
  refine G_goto (pc := 35) (tgt := 4) (by decide) dX1_goRest_35 ?_
  refine G_iload_n (pc := 4) rfl dX1_goRest_4 ?_
  refine G_iload_n (pc := 5) rfl dX1_goRest_5 ?_
  refine G_icmp_ge (pc := 6) (tgt := 38) (by decide) dX1_goRest_6 (fun z => absurd z (by decide)) (fun _ => ?_)
  refine G_aload_n (pc := 9) rfl dX1_goRest_9 ?_
  refine G_callV (pc := 10) (mc1 := 0) (ms1 := 0) (ci := 1) (mj := mX1_isOver) (vs := []) dX1_goRest_10 rfl rfl cm_X1_isOver wf_172 wf_17 wf_18 rfl (Nat.le_of_ble_eq_true rfl) (Nat.le_of_ble_eq_true rfl) (Nat.le_of_ble_eq_true rfl) (Nat.le_of_ble_eq_true rfl) (s155_X1_isOver  (d + 1)  ) ?_
  rintro _ _ ⟨rfl, rfl⟩
  dsimp only [Option.toList, List.cons_append, List.nil_append]
  refine G_if_ne (pc := 13) (tgt := 38) (by decide) dX1_goRest_13 (fun z => absurd (by decide) z) (fun _ => ?_)
  refine G_iload_n (pc := 16) rfl dX1_goRest_16 ?_
  refine G_aload_n (pc := 17) rfl dX1_goRest_17 ?_
  refine G_aload_n (pc := 18) rfl dX1_goRest_18 ?_
  refine G_callV (pc := 19) (mc1 := 0) (ms1 := 0) (ci := 1) (mj := mX1_restAct) (vs := []) dX1_goRest_19 rfl rfl cm_X1_restAct wf_173 wf_66 wf_67 rfl (Nat.le_of_ble_eq_true rfl) (Nat.le_of_ble_eq_true rfl) (Nat.le_of_ble_eq_true rfl) (Nat.le_of_ble_eq_true rfl) (s352_X1_restAct  (d + 1)  ) ?_
  rintro _ _ ⟨rfl, rfl⟩
  dsimp only [Option.toList, List.cons_append, List.nil_append]
  refine G_callV (pc := 22) (mc1 := 0) (ms1 := 0) (ci := 1) (mj := mX1_tell) (vs := [_]) dX1_goRest_22 rfl rfl cm_X1_tell wf_69 wf_71 wf_72 rfl (Nat.le_of_ble_eq_true rfl) (Nat.le_of_ble_eq_true rfl) (Nat.le_of_ble_eq_true rfl) (Nat.le_of_ble_eq_true rfl) (s353_X1_tell  d  ) ?_
  rintro _ _ ⟨rfl, rfl⟩
  dsimp only [Option.toList, List.cons_append, List.nil_append]
  refine G_aload_n (pc := 25) rfl dX1_goRest_25 ?_
  refine G_callV (pc := 26) (mc1 := 0) (ms1 := 0) (ci := 1) (mj := mX1_melt) (vs := []) dX1_goRest_26 rfl rfl cm_X1_melt wf_73 wf_75 wf_76 rfl (Nat.le_of_ble_eq_true rfl) (Nat.le_of_ble_eq_true rfl) (Nat.le_of_ble_eq_true rfl) (Nat.le_of_ble_eq_true rfl) (s355_X1_melt  (d + 1)  ) ?_
  rintro _ _ ⟨rfl, rfl⟩
  dsimp only [Option.toList, List.cons_append, List.nil_append]
  refine G_iadd (pc := 29) (z := 0) (by decide) dX1_goRest_29 ?_
  refine G_iadd (pc := 30) (z := 0) (by decide) dX1_goRest_30 ?_
  refine G_istore_n (pc := 31) (L1 := [some (.ref 19), some (.int 12), some (.int 0), some (.int 1)]) rfl rfl (by decide) dX1_goRest_31 ?_
  refine G_iinc (pc := 32) (v := 1) (w := 2) (L1 := [some (.ref 19), some (.int 12), some (.int 0), some (.int 2)]) (by decide) rfl rfl (by decide) rfl (by decide) dX1_goRest_32 ?_
  refine G_goto (pc := 35) (tgt := 4) (by decide) dX1_goRest_35 ?_
  refine G_iload_n (pc := 4) rfl dX1_goRest_4 ?_
  refine G_iload_n (pc := 5) rfl dX1_goRest_5 ?_
  refine G_icmp_ge (pc := 6) (tgt := 38) (by decide) dX1_goRest_6 (fun z => absurd z (by decide)) (fun _ => ?_)
  refine G_aload_n (pc := 9) rfl dX1_goRest_9 ?_
  refine G_callV (pc := 10) (mc1 := 0) (ms1 := 0) (ci := 1) (mj := mX1_isOver) (vs := []) dX1_goRest_10 rfl rfl cm_X1_isOver wf_172 wf_17 wf_18 rfl (Nat.le_of_ble_eq_true rfl) (Nat.le_of_ble_eq_true rfl) (Nat.le_of_ble_eq_true rfl) (Nat.le_of_ble_eq_true rfl) (s356_X1_isOver  (d + 1)  ) ?_
  rintro _ _ ⟨rfl, rfl⟩
  dsimp only [Option.toList, List.cons_append, List.nil_append]
  refine G_if_ne (pc := 13) (tgt := 38) (by decide) dX1_goRest_13 (fun z => absurd (by decide) z) (fun _ => ?_)
  refine G_iload_n (pc := 16) rfl dX1_goRest_16 ?_
  refine G_aload_n (pc := 17) rfl dX1_goRest_17 ?_
  refine G_aload_n (pc := 18) rfl dX1_goRest_18 ?_
  refine G_callV (pc := 19) (mc1 := 0) (ms1 := 0) (ci := 1) (mj := mX1_restAct) (vs := []) dX1_goRest_19 rfl rfl cm_X1_restAct wf_173 wf_66 wf_67 rfl (Nat.le_of_ble_eq_true rfl) (Nat.le_of_ble_eq_true rfl) (Nat.le_of_ble_eq_true rfl) (Nat.le_of_ble_eq_true rfl) (s357_X1_restAct  (d + 1)  ) ?_
  rintro _ _ ⟨rfl, rfl⟩
  dsimp only [Option.toList, List.cons_append, List.nil_append]
  refine G_callV (pc := 22) (mc1 := 0) (ms1 := 0) (ci := 1) (mj := mX1_tell) (vs := [_]) dX1_goRest_22 rfl rfl cm_X1_tell wf_69 wf_71 wf_72 rfl (Nat.le_of_ble_eq_true rfl) (Nat.le_of_ble_eq_true rfl) (Nat.le_of_ble_eq_true rfl) (Nat.le_of_ble_eq_true rfl) (s358_X1_tell  d  ) ?_
  rintro _ _ ⟨rfl, rfl⟩
  dsimp only [Option.toList, List.cons_append, List.nil_append]
  refine G_aload_n (pc := 25) rfl dX1_goRest_25 ?_
  refine G_callV (pc := 26) (mc1 := 0) (ms1 := 0) (ci := 1) (mj := mX1_melt) (vs := []) dX1_goRest_26 rfl rfl cm_X1_melt wf_73 wf_75 wf_76 rfl (Nat.le_of_ble_eq_true rfl) (Nat.le_of_ble_eq_true rfl) (Nat.le_of_ble_eq_true rfl) (Nat.le_of_ble_eq_true rfl) (s360_X1_melt  (d + 1)  ) ?_
  rintro _ _ ⟨rfl, rfl⟩
  dsimp only [Option.toList, List.cons_append, List.nil_append]
  refine G_iadd (pc := 29) (z := 0) (by decide) dX1_goRest_29 ?_
  refine G_iadd (pc := 30) (z := 0) (by decide) dX1_goRest_30 ?_
  refine G_istore_n (pc := 31) (L1 := [some (.ref 19), some (.int 12), some (.int 0), some (.int 2)]) rfl rfl (by decide) dX1_goRest_31 ?_
  refine G_iinc (pc := 32) (v := 1) (w := 3) (L1 := [some (.ref 19), some (.int 12), some (.int 0), some (.int 3)]) (by decide) rfl rfl (by decide) rfl (by decide) dX1_goRest_32 ?_
  refine G_goto (pc := 35) (tgt := 4) (by decide) dX1_goRest_35 ?_
  refine G_iload_n (pc := 4) rfl dX1_goRest_4 ?_
  refine G_iload_n (pc := 5) rfl dX1_goRest_5 ?_
  refine G_icmp_ge (pc := 6) (tgt := 38) (by decide) dX1_goRest_6 (fun z => absurd z (by decide)) (fun _ => ?_)
  refine G_aload_n (pc := 9) rfl dX1_goRest_9 ?_
  refine G_callV (pc := 10) (mc1 := 0) (ms1 := 0) (ci := 1) (mj := mX1_isOver) (vs := []) dX1_goRest_10 rfl rfl cm_X1_isOver wf_172 wf_17 wf_18 rfl (Nat.le_of_ble_eq_true rfl) (Nat.le_of_ble_eq_true rfl) (Nat.le_of_ble_eq_true rfl) (Nat.le_of_ble_eq_true rfl) (s361_X1_isOver  (d + 1)  ) ?_
  rintro _ _ ⟨rfl, rfl⟩
  dsimp only [Option.toList, List.cons_append, List.nil_append]
  refine G_if_ne (pc := 13) (tgt := 38) (by decide) dX1_goRest_13 (fun z => absurd (by decide) z) (fun _ => ?_)
  refine G_iload_n (pc := 16) rfl dX1_goRest_16 ?_
  refine G_aload_n (pc := 17) rfl dX1_goRest_17 ?_
  refine G_aload_n (pc := 18) rfl dX1_goRest_18 ?_
  refine G_callV (pc := 19) (mc1 := 0) (ms1 := 0) (ci := 1) (mj := mX1_restAct) (vs := []) dX1_goRest_19 rfl rfl cm_X1_restAct wf_173 wf_66 wf_67 rfl (Nat.le_of_ble_eq_true rfl) (Nat.le_of_ble_eq_true rfl) (Nat.le_of_ble_eq_true rfl) (Nat.le_of_ble_eq_true rfl) (s362_X1_restAct  (d + 1)  ) ?_
  rintro _ _ ⟨rfl, rfl⟩
  dsimp only [Option.toList, List.cons_append, List.nil_append]
  refine G_callV (pc := 22) (mc1 := 0) (ms1 := 0) (ci := 1) (mj := mX1_tell) (vs := [_]) dX1_goRest_22 rfl rfl cm_X1_tell wf_69 wf_71 wf_72 rfl (Nat.le_of_ble_eq_true rfl) (Nat.le_of_ble_eq_true rfl) (Nat.le_of_ble_eq_true rfl) (Nat.le_of_ble_eq_true rfl) (s363_X1_tell  d  ) ?_
  rintro _ _ ⟨rfl, rfl⟩
  dsimp only [Option.toList, List.cons_append, List.nil_append]
  refine G_aload_n (pc := 25) rfl dX1_goRest_25 ?_
  refine G_callV (pc := 26) (mc1 := 0) (ms1 := 0) (ci := 1) (mj := mX1_melt) (vs := []) dX1_goRest_26 rfl rfl cm_X1_melt wf_73 wf_75 wf_76 rfl (Nat.le_of_ble_eq_true rfl) (Nat.le_of_ble_eq_true rfl) (Nat.le_of_ble_eq_true rfl) (Nat.le_of_ble_eq_true rfl) (s365_X1_melt  (d + 1)  ) ?_
  rintro _ _ ⟨rfl, rfl⟩
  dsimp only [Option.toList, List.cons_append, List.nil_append]
  refine G_iadd (pc := 29) (z := 0) (by decide) dX1_goRest_29 ?_
  refine G_iadd (pc := 30) (z := 0) (by decide) dX1_goRest_30 ?_
  refine G_istore_n (pc := 31) (L1 := [some (.ref 19), some (.int 12), some (.int 0), some (.int 3)]) rfl rfl (by decide) dX1_goRest_31 ?_
  refine G_iinc (pc := 32) (v := 1) (w := 4) (L1 := [some (.ref 19), some (.int 12), some (.int 0), some (.int 4)]) (by decide) rfl rfl (by decide) rfl (by decide) dX1_goRest_32 ?_
  refine G_goto (pc := 35) (tgt := 4) (by decide) dX1_goRest_35 ?_
  refine G_iload_n (pc := 4) rfl dX1_goRest_4 ?_
  refine G_iload_n (pc := 5) rfl dX1_goRest_5 ?_
  refine G_icmp_ge (pc := 6) (tgt := 38) (by decide) dX1_goRest_6 (fun z => absurd z (by decide)) (fun _ => ?_)
  refine G_aload_n (pc := 9) rfl dX1_goRest_9 ?_
  refine G_callV (pc := 10) (mc1 := 0) (ms1 := 0) (ci := 1) (mj := mX1_isOver) (vs := []) dX1_goRest_10 rfl rfl cm_X1_isOver wf_172 wf_17 wf_18 rfl (Nat.le_of_ble_eq_true rfl) (Nat.le_of_ble_eq_true rfl) (Nat.le_of_ble_eq_true rfl) (Nat.le_of_ble_eq_true rfl) (s366_X1_isOver  (d + 1)  ) ?_
  rintro _ _ ⟨rfl, rfl⟩
  dsimp only [Option.toList, List.cons_append, List.nil_append]
  refine G_if_ne (pc := 13) (tgt := 38) (by decide) dX1_goRest_13 (fun z => absurd (by decide) z) (fun _ => ?_)
  refine G_iload_n (pc := 16) rfl dX1_goRest_16 ?_
  refine G_aload_n (pc := 17) rfl dX1_goRest_17 ?_
  refine G_aload_n (pc := 18) rfl dX1_goRest_18 ?_
  refine G_callV (pc := 19) (mc1 := 0) (ms1 := 0) (ci := 1) (mj := mX1_restAct) (vs := []) dX1_goRest_19 rfl rfl cm_X1_restAct wf_173 wf_66 wf_67 rfl (Nat.le_of_ble_eq_true rfl) (Nat.le_of_ble_eq_true rfl) (Nat.le_of_ble_eq_true rfl) (Nat.le_of_ble_eq_true rfl) (s367_X1_restAct  (d + 1)  ) ?_
  rintro _ _ ⟨rfl, rfl⟩
  dsimp only [Option.toList, List.cons_append, List.nil_append]
  refine G_callV (pc := 22) (mc1 := 0) (ms1 := 0) (ci := 1) (mj := mX1_tell) (vs := [_]) dX1_goRest_22 rfl rfl cm_X1_tell wf_69 wf_71 wf_72 rfl (Nat.le_of_ble_eq_true rfl) (Nat.le_of_ble_eq_true rfl) (Nat.le_of_ble_eq_true rfl) (Nat.le_of_ble_eq_true rfl) (s368_X1_tell  d  ) ?_
  rintro _ _ ⟨rfl, rfl⟩
  dsimp only [Option.toList, List.cons_append, List.nil_append]
  refine G_aload_n (pc := 25) rfl dX1_goRest_25 ?_
  refine G_callV (pc := 26) (mc1 := 0) (ms1 := 0) (ci := 1) (mj := mX1_melt) (vs := []) dX1_goRest_26 rfl rfl cm_X1_melt wf_73 wf_75 wf_76 rfl (Nat.le_of_ble_eq_true rfl) (Nat.le_of_ble_eq_true rfl) (Nat.le_of_ble_eq_true rfl) (Nat.le_of_ble_eq_true rfl) (s370_X1_melt  (d + 1)  ) ?_
  rintro _ _ ⟨rfl, rfl⟩
  dsimp only [Option.toList, List.cons_append, List.nil_append]
  refine G_iadd (pc := 29) (z := 0) (by decide) dX1_goRest_29 ?_
  refine G_iadd (pc := 30) (z := 0) (by decide) dX1_goRest_30 ?_
  refine G_istore_n (pc := 31) (L1 := [some (.ref 19), some (.int 12), some (.int 0), some (.int 4)]) rfl rfl (by decide) dX1_goRest_31 ?_
  refine G_iinc (pc := 32) (v := 1) (w := 5) (L1 := [some (.ref 19), some (.int 12), some (.int 0), some (.int 5)]) (by decide) rfl rfl (by decide) rfl (by decide) dX1_goRest_32 ?_
  refine G_goto (pc := 35) (tgt := 4) (by decide) dX1_goRest_35 ?_
  refine G_iload_n (pc := 4) rfl dX1_goRest_4 ?_
  refine G_iload_n (pc := 5) rfl dX1_goRest_5 ?_
  refine G_icmp_ge (pc := 6) (tgt := 38) (by decide) dX1_goRest_6 (fun z => absurd z (by decide)) (fun _ => ?_)
  refine G_aload_n (pc := 9) rfl dX1_goRest_9 ?_
  refine G_callV (pc := 10) (mc1 := 0) (ms1 := 0) (ci := 1) (mj := mX1_isOver) (vs := []) dX1_goRest_10 rfl rfl cm_X1_isOver wf_172 wf_17 wf_18 rfl (Nat.le_of_ble_eq_true rfl) (Nat.le_of_ble_eq_true rfl) (Nat.le_of_ble_eq_true rfl) (Nat.le_of_ble_eq_true rfl) (s371_X1_isOver  (d + 1)  ) ?_
  rintro _ _ ⟨rfl, rfl⟩
  dsimp only [Option.toList, List.cons_append, List.nil_append]
  refine G_if_ne (pc := 13) (tgt := 38) (by decide) dX1_goRest_13 (fun z => absurd (by decide) z) (fun _ => ?_)
  refine G_iload_n (pc := 16) rfl dX1_goRest_16 ?_
  refine G_aload_n (pc := 17) rfl dX1_goRest_17 ?_
  refine G_aload_n (pc := 18) rfl dX1_goRest_18 ?_
  refine G_callV (pc := 19) (mc1 := 0) (ms1 := 0) (ci := 1) (mj := mX1_restAct) (vs := []) dX1_goRest_19 rfl rfl cm_X1_restAct wf_173 wf_66 wf_67 rfl (Nat.le_of_ble_eq_true rfl) (Nat.le_of_ble_eq_true rfl) (Nat.le_of_ble_eq_true rfl) (Nat.le_of_ble_eq_true rfl) (s372_X1_restAct  (d + 1)  ) ?_
  rintro _ _ ⟨rfl, rfl⟩
  dsimp only [Option.toList, List.cons_append, List.nil_append]
  refine G_callV (pc := 22) (mc1 := 0) (ms1 := 0) (ci := 1) (mj := mX1_tell) (vs := [_]) dX1_goRest_22 rfl rfl cm_X1_tell wf_69 wf_71 wf_72 rfl (Nat.le_of_ble_eq_true rfl) (Nat.le_of_ble_eq_true rfl) (Nat.le_of_ble_eq_true rfl) (Nat.le_of_ble_eq_true rfl) (s373_X1_tell  d  ) ?_
  rintro _ _ ⟨rfl, rfl⟩
  dsimp only [Option.toList, List.cons_append, List.nil_append]
  refine G_aload_n (pc := 25) rfl dX1_goRest_25 ?_
  refine G_callV (pc := 26) (mc1 := 0) (ms1 := 0) (ci := 1) (mj := mX1_melt) (vs := []) dX1_goRest_26 rfl rfl cm_X1_melt wf_73 wf_75 wf_76 rfl (Nat.le_of_ble_eq_true rfl) (Nat.le_of_ble_eq_true rfl) (Nat.le_of_ble_eq_true rfl) (Nat.le_of_ble_eq_true rfl) (s375_X1_melt  (d + 1)  ) ?_
  rintro _ _ ⟨rfl, rfl⟩
  dsimp only [Option.toList, List.cons_append, List.nil_append]
  refine G_iadd (pc := 29) (z := 0) (by decide) dX1_goRest_29 ?_
  refine G_iadd (pc := 30) (z := 0) (by decide) dX1_goRest_30 ?_
  refine G_istore_n (pc := 31) (L1 := [some (.ref 19), some (.int 12), some (.int 0), some (.int 5)]) rfl rfl (by decide) dX1_goRest_31 ?_
  refine G_iinc (pc := 32) (v := 1) (w := 6) (L1 := [some (.ref 19), some (.int 12), some (.int 0), some (.int 6)]) (by decide) rfl rfl (by decide) rfl (by decide) dX1_goRest_32 ?_
  refine G_goto (pc := 35) (tgt := 4) (by decide) dX1_goRest_35 ?_
  refine G_iload_n (pc := 4) rfl dX1_goRest_4 ?_
  refine G_iload_n (pc := 5) rfl dX1_goRest_5 ?_
  refine G_icmp_ge (pc := 6) (tgt := 38) (by decide) dX1_goRest_6 (fun z => absurd z (by decide)) (fun _ => ?_)
  refine G_aload_n (pc := 9) rfl dX1_goRest_9 ?_
  refine G_callV (pc := 10) (mc1 := 0) (ms1 := 0) (ci := 1) (mj := mX1_isOver) (vs := []) dX1_goRest_10 rfl rfl cm_X1_isOver wf_172 wf_17 wf_18 rfl (Nat.le_of_ble_eq_true rfl) (Nat.le_of_ble_eq_true rfl) (Nat.le_of_ble_eq_true rfl) (Nat.le_of_ble_eq_true rfl) (s376_X1_isOver  (d + 1)  ) ?_
  rintro _ _ ⟨rfl, rfl⟩
  dsimp only [Option.toList, List.cons_append, List.nil_append]
  refine G_if_ne (pc := 13) (tgt := 38) (by decide) dX1_goRest_13 (fun z => absurd (by decide) z) (fun _ => ?_)
  refine G_iload_n (pc := 16) rfl dX1_goRest_16 ?_
  refine G_aload_n (pc := 17) rfl dX1_goRest_17 ?_
  refine G_aload_n (pc := 18) rfl dX1_goRest_18 ?_
  refine G_callV (pc := 19) (mc1 := 0) (ms1 := 0) (ci := 1) (mj := mX1_restAct) (vs := []) dX1_goRest_19 rfl rfl cm_X1_restAct wf_173 wf_66 wf_67 rfl (Nat.le_of_ble_eq_true rfl) (Nat.le_of_ble_eq_true rfl) (Nat.le_of_ble_eq_true rfl) (Nat.le_of_ble_eq_true rfl) (s377_X1_restAct  (d + 1)  ) ?_
  rintro _ _ ⟨rfl, rfl⟩
  dsimp only [Option.toList, List.cons_append, List.nil_append]
  refine G_callV (pc := 22) (mc1 := 0) (ms1 := 0) (ci := 1) (mj := mX1_tell) (vs := [_]) dX1_goRest_22 rfl rfl cm_X1_tell wf_69 wf_71 wf_72 rfl (Nat.le_of_ble_eq_true rfl) (Nat.le_of_ble_eq_true rfl) (Nat.le_of_ble_eq_true rfl) (Nat.le_of_ble_eq_true rfl) (s378_X1_tell  d  ) ?_
  rintro _ _ ⟨rfl, rfl⟩
  dsimp only [Option.toList, List.cons_append, List.nil_append]
  refine G_aload_n (pc := 25) rfl dX1_goRest_25 ?_
  refine G_callV (pc := 26) (mc1 := 0) (ms1 := 0) (ci := 1) (mj := mX1_melt) (vs := []) dX1_goRest_26 rfl rfl cm_X1_melt wf_73 wf_75 wf_76 rfl (Nat.le_of_ble_eq_true rfl) (Nat.le_of_ble_eq_true rfl) (Nat.le_of_ble_eq_true rfl) (Nat.le_of_ble_eq_true rfl) (s380_X1_melt  (d + 1)  ) ?_
  rintro _ _ ⟨rfl, rfl⟩
  dsimp only [Option.toList, List.cons_append, List.nil_append]
  refine G_iadd (pc := 29) (z := 0) (by decide) dX1_goRest_29 ?_
  refine G_iadd (pc := 30) (z := 0) (by decide) dX1_goRest_30 ?_
  refine G_istore_n (pc := 31) (L1 := [some (.ref 19), some (.int 12), some (.int 0), some (.int 6)]) rfl rfl (by decide) dX1_goRest_31 ?_
  refine G_iinc (pc := 32) (v := 1) (w := 7) (L1 := [some (.ref 19), some (.int 12), some (.int 0), some (.int 7)]) (by decide) rfl rfl (by decide) rfl (by decide) dX1_goRest_32 ?_
  refine G_goto (pc := 35) (tgt := 4) (by decide) dX1_goRest_35 ?_
  refine G_iload_n (pc := 4) rfl dX1_goRest_4 ?_
  refine G_iload_n (pc := 5) rfl dX1_goRest_5 ?_
  refine G_icmp_ge (pc := 6) (tgt := 38) (by decide) dX1_goRest_6 (fun z => absurd z (by decide)) (fun _ => ?_)
  refine G_aload_n (pc := 9) rfl dX1_goRest_9 ?_
  refine G_callV (pc := 10) (mc1 := 0) (ms1 := 0) (ci := 1) (mj := mX1_isOver) (vs := []) dX1_goRest_10 rfl rfl cm_X1_isOver wf_172 wf_17 wf_18 rfl (Nat.le_of_ble_eq_true rfl) (Nat.le_of_ble_eq_true rfl) (Nat.le_of_ble_eq_true rfl) (Nat.le_of_ble_eq_true rfl) (s381_X1_isOver  (d + 1)  ) ?_
  rintro _ _ ⟨rfl, rfl⟩
  dsimp only [Option.toList, List.cons_append, List.nil_append]
  refine G_if_ne (pc := 13) (tgt := 38) (by decide) dX1_goRest_13 (fun z => absurd (by decide) z) (fun _ => ?_)
  refine G_iload_n (pc := 16) rfl dX1_goRest_16 ?_
  refine G_aload_n (pc := 17) rfl dX1_goRest_17 ?_
  refine G_aload_n (pc := 18) rfl dX1_goRest_18 ?_
  refine G_callV (pc := 19) (mc1 := 0) (ms1 := 0) (ci := 1) (mj := mX1_restAct) (vs := []) dX1_goRest_19 rfl rfl cm_X1_restAct wf_173 wf_66 wf_67 rfl (Nat.le_of_ble_eq_true rfl) (Nat.le_of_ble_eq_true rfl) (Nat.le_of_ble_eq_true rfl) (Nat.le_of_ble_eq_true rfl) (s382_X1_restAct  (d + 1)  ) ?_
  rintro _ _ ⟨rfl, rfl⟩
  dsimp only [Option.toList, List.cons_append, List.nil_append]
  refine G_callV (pc := 22) (mc1 := 0) (ms1 := 0) (ci := 1) (mj := mX1_tell) (vs := [_]) dX1_goRest_22 rfl rfl cm_X1_tell wf_69 wf_71 wf_72 rfl (Nat.le_of_ble_eq_true rfl) (Nat.le_of_ble_eq_true rfl) (Nat.le_of_ble_eq_true rfl) (Nat.le_of_ble_eq_true rfl) (s383_X1_tell  d  ) ?_
  rintro _ _ ⟨rfl, rfl⟩
  dsimp only [Option.toList, List.cons_append, List.nil_append]
  refine G_aload_n (pc := 25) rfl dX1_goRest_25 ?_
  refine G_callV (pc := 26) (mc1 := 0) (ms1 := 0) (ci := 1) (mj := mX1_melt) (vs := []) dX1_goRest_26 rfl rfl cm_X1_melt wf_73 wf_75 wf_76 rfl (Nat.le_of_ble_eq_true rfl) (Nat.le_of_ble_eq_true rfl) (Nat.le_of_ble_eq_true rfl) (Nat.le_of_ble_eq_true rfl) (s385_X1_melt  (d + 1)  ) ?_
  rintro _ _ ⟨rfl, rfl⟩
  dsimp only [Option.toList, List.cons_append, List.nil_append]
  refine G_iadd (pc := 29) (z := 0) (by decide) dX1_goRest_29 ?_
  refine G_iadd (pc := 30) (z := 0) (by decide) dX1_goRest_30 ?_
  refine G_istore_n (pc := 31) (L1 := [some (.ref 19), some (.int 12), some (.int 0), some (.int 7)]) rfl rfl (by decide) dX1_goRest_31 ?_
  refine G_iinc (pc := 32) (v := 1) (w := 8) (L1 := [some (.ref 19), some (.int 12), some (.int 0), some (.int 8)]) (by decide) rfl rfl (by decide) rfl (by decide) dX1_goRest_32 ?_
  refine G_goto (pc := 35) (tgt := 4) (by decide) dX1_goRest_35 ?_
  refine G_iload_n (pc := 4) rfl dX1_goRest_4 ?_
  refine G_iload_n (pc := 5) rfl dX1_goRest_5 ?_
  refine G_icmp_ge (pc := 6) (tgt := 38) (by decide) dX1_goRest_6 (fun z => absurd z (by decide)) (fun _ => ?_)
  refine G_aload_n (pc := 9) rfl dX1_goRest_9 ?_
  refine G_callV (pc := 10) (mc1 := 0) (ms1 := 0) (ci := 1) (mj := mX1_isOver) (vs := []) dX1_goRest_10 rfl rfl cm_X1_isOver wf_172 wf_17 wf_18 rfl (Nat.le_of_ble_eq_true rfl) (Nat.le_of_ble_eq_true rfl) (Nat.le_of_ble_eq_true rfl) (Nat.le_of_ble_eq_true rfl) (s386_X1_isOver  (d + 1)  ) ?_
  rintro _ _ ⟨rfl, rfl⟩
  dsimp only [Option.toList, List.cons_append, List.nil_append]
  refine G_if_ne (pc := 13) (tgt := 38) (by decide) dX1_goRest_13 (fun z => absurd (by decide) z) (fun _ => ?_)
  refine G_iload_n (pc := 16) rfl dX1_goRest_16 ?_
  refine G_aload_n (pc := 17) rfl dX1_goRest_17 ?_
  refine G_aload_n (pc := 18) rfl dX1_goRest_18 ?_
  refine G_callV (pc := 19) (mc1 := 0) (ms1 := 0) (ci := 1) (mj := mX1_restAct) (vs := []) dX1_goRest_19 rfl rfl cm_X1_restAct wf_173 wf_66 wf_67 rfl (Nat.le_of_ble_eq_true rfl) (Nat.le_of_ble_eq_true rfl) (Nat.le_of_ble_eq_true rfl) (Nat.le_of_ble_eq_true rfl) (s387_X1_restAct  (d + 1)  ) ?_
  rintro _ _ ⟨rfl, rfl⟩
  dsimp only [Option.toList, List.cons_append, List.nil_append]
  refine G_callV (pc := 22) (mc1 := 0) (ms1 := 0) (ci := 1) (mj := mX1_tell) (vs := [_]) dX1_goRest_22 rfl rfl cm_X1_tell wf_69 wf_71 wf_72 rfl (Nat.le_of_ble_eq_true rfl) (Nat.le_of_ble_eq_true rfl) (Nat.le_of_ble_eq_true rfl) (Nat.le_of_ble_eq_true rfl) (s388_X1_tell  d  ) ?_
  rintro _ _ ⟨rfl, rfl⟩
  dsimp only [Option.toList, List.cons_append, List.nil_append]
  refine G_aload_n (pc := 25) rfl dX1_goRest_25 ?_
  refine G_callV (pc := 26) (mc1 := 0) (ms1 := 0) (ci := 1) (mj := mX1_melt) (vs := []) dX1_goRest_26 rfl rfl cm_X1_melt wf_73 wf_75 wf_76 rfl (Nat.le_of_ble_eq_true rfl) (Nat.le_of_ble_eq_true rfl) (Nat.le_of_ble_eq_true rfl) (Nat.le_of_ble_eq_true rfl) (s390_X1_melt  (d + 1)  ) ?_
  rintro _ _ ⟨rfl, rfl⟩
  dsimp only [Option.toList, List.cons_append, List.nil_append]
  refine G_iadd (pc := 29) (z := 0) (by decide) dX1_goRest_29 ?_
  refine G_iadd (pc := 30) (z := 0) (by decide) dX1_goRest_30 ?_
  refine G_istore_n (pc := 31) (L1 := [some (.ref 19), some (.int 12), some (.int 0), some (.int 8)]) rfl rfl (by decide) dX1_goRest_31 ?_
  refine G_iinc (pc := 32) (v := 1) (w := 9) (L1 := [some (.ref 19), some (.int 12), some (.int 0), some (.int 9)]) (by decide) rfl rfl (by decide) rfl (by decide) dX1_goRest_32 ?_
  refine G_goto (pc := 35) (tgt := 4) (by decide) dX1_goRest_35 ?_
  refine G_iload_n (pc := 4) rfl dX1_goRest_4 ?_
  refine G_iload_n (pc := 5) rfl dX1_goRest_5 ?_
  refine G_icmp_ge (pc := 6) (tgt := 38) (by decide) dX1_goRest_6 (fun z => absurd z (by decide)) (fun _ => ?_)
  refine G_aload_n (pc := 9) rfl dX1_goRest_9 ?_
  refine G_callV (pc := 10) (mc1 := 0) (ms1 := 0) (ci := 1) (mj := mX1_isOver) (vs := []) dX1_goRest_10 rfl rfl cm_X1_isOver wf_172 wf_17 wf_18 rfl (Nat.le_of_ble_eq_true rfl) (Nat.le_of_ble_eq_true rfl) (Nat.le_of_ble_eq_true rfl) (Nat.le_of_ble_eq_true rfl) (s391_X1_isOver  (d + 1)  ) ?_
  rintro _ _ ⟨rfl, rfl⟩
  dsimp only [Option.toList, List.cons_append, List.nil_append]
  refine G_if_ne (pc := 13) (tgt := 38) (by decide) dX1_goRest_13 (fun z => absurd (by decide) z) (fun _ => ?_)
  refine G_iload_n (pc := 16) rfl dX1_goRest_16 ?_
  refine G_aload_n (pc := 17) rfl dX1_goRest_17 ?_
  refine G_aload_n (pc := 18) rfl dX1_goRest_18 ?_
  refine G_callV (pc := 19) (mc1 := 0) (ms1 := 0) (ci := 1) (mj := mX1_restAct) (vs := []) dX1_goRest_19 rfl rfl cm_X1_restAct wf_173 wf_66 wf_67 rfl (Nat.le_of_ble_eq_true rfl) (Nat.le_of_ble_eq_true rfl) (Nat.le_of_ble_eq_true rfl) (Nat.le_of_ble_eq_true rfl) (s392_X1_restAct  (d + 1)  ) ?_
  rintro _ _ ⟨rfl, rfl⟩
  dsimp only [Option.toList, List.cons_append, List.nil_append]
  refine G_callV (pc := 22) (mc1 := 0) (ms1 := 0) (ci := 1) (mj := mX1_tell) (vs := [_]) dX1_goRest_22 rfl rfl cm_X1_tell wf_69 wf_71 wf_72 rfl (Nat.le_of_ble_eq_true rfl) (Nat.le_of_ble_eq_true rfl) (Nat.le_of_ble_eq_true rfl) (Nat.le_of_ble_eq_true rfl) (s393_X1_tell  d  ) ?_
  rintro _ _ ⟨rfl, rfl⟩
  dsimp only [Option.toList, List.cons_append, List.nil_append]
  refine G_aload_n (pc := 25) rfl dX1_goRest_25 ?_
  refine G_callV (pc := 26) (mc1 := 0) (ms1 := 0) (ci := 1) (mj := mX1_melt) (vs := []) dX1_goRest_26 rfl rfl cm_X1_melt wf_73 wf_75 wf_76 rfl (Nat.le_of_ble_eq_true rfl) (Nat.le_of_ble_eq_true rfl) (Nat.le_of_ble_eq_true rfl) (Nat.le_of_ble_eq_true rfl) (s395_X1_melt  (d + 1)  ) ?_
  rintro _ _ ⟨rfl, rfl⟩
  dsimp only [Option.toList, List.cons_append, List.nil_append]
  refine G_iadd (pc := 29) (z := 0) (by decide) dX1_goRest_29 ?_
  refine G_iadd (pc := 30) (z := 0) (by decide) dX1_goRest_30 ?_
  refine G_istore_n (pc := 31) (L1 := [some (.ref 19), some (.int 12), some (.int 0), some (.int 9)]) rfl rfl (by decide) dX1_goRest_31 ?_
  refine G_iinc (pc := 32) (v := 1) (w := 10) (L1 := [some (.ref 19), some (.int 12), some (.int 0), some (.int 10)]) (by decide) rfl rfl (by decide) rfl (by decide) dX1_goRest_32 ?_
  refine G_goto (pc := 35) (tgt := 4) (by decide) dX1_goRest_35 ?_
  refine G_iload_n (pc := 4) rfl dX1_goRest_4 ?_
  refine G_iload_n (pc := 5) rfl dX1_goRest_5 ?_
  refine G_icmp_ge (pc := 6) (tgt := 38) (by decide) dX1_goRest_6 (fun z => absurd z (by decide)) (fun _ => ?_)
  refine G_aload_n (pc := 9) rfl dX1_goRest_9 ?_
  refine G_callV (pc := 10) (mc1 := 0) (ms1 := 0) (ci := 1) (mj := mX1_isOver) (vs := []) dX1_goRest_10 rfl rfl cm_X1_isOver wf_172 wf_17 wf_18 rfl (Nat.le_of_ble_eq_true rfl) (Nat.le_of_ble_eq_true rfl) (Nat.le_of_ble_eq_true rfl) (Nat.le_of_ble_eq_true rfl) (s396_X1_isOver  (d + 1)  ) ?_
  rintro _ _ ⟨rfl, rfl⟩
  dsimp only [Option.toList, List.cons_append, List.nil_append]
  refine G_if_ne (pc := 13) (tgt := 38) (by decide) dX1_goRest_13 (fun z => absurd (by decide) z) (fun _ => ?_)
  refine G_iload_n (pc := 16) rfl dX1_goRest_16 ?_
  refine G_aload_n (pc := 17) rfl dX1_goRest_17 ?_
  refine G_aload_n (pc := 18) rfl dX1_goRest_18 ?_
  refine G_callV (pc := 19) (mc1 := 0) (ms1 := 0) (ci := 1) (mj := mX1_restAct) (vs := []) dX1_goRest_19 rfl rfl cm_X1_restAct wf_173 wf_66 wf_67 rfl (Nat.le_of_ble_eq_true rfl) (Nat.le_of_ble_eq_true rfl) (Nat.le_of_ble_eq_true rfl) (Nat.le_of_ble_eq_true rfl) (s397_X1_restAct  (d + 1)  ) ?_
  rintro _ _ ⟨rfl, rfl⟩
  dsimp only [Option.toList, List.cons_append, List.nil_append]
  refine G_callV (pc := 22) (mc1 := 0) (ms1 := 0) (ci := 1) (mj := mX1_tell) (vs := [_]) dX1_goRest_22 rfl rfl cm_X1_tell wf_69 wf_71 wf_72 rfl (Nat.le_of_ble_eq_true rfl) (Nat.le_of_ble_eq_true rfl) (Nat.le_of_ble_eq_true rfl) (Nat.le_of_ble_eq_true rfl) (s398_X1_tell  d  ) ?_
  rintro _ _ ⟨rfl, rfl⟩
  dsimp only [Option.toList, List.cons_append, List.nil_append]
  refine G_aload_n (pc := 25) rfl dX1_goRest_25 ?_
  refine G_callV (pc := 26) (mc1 := 0) (ms1 := 0) (ci := 1) (mj := mX1_melt) (vs := []) dX1_goRest_26 rfl rfl cm_X1_melt wf_73 wf_75 wf_76 rfl (Nat.le_of_ble_eq_true rfl) (Nat.le_of_ble_eq_true rfl) (Nat.le_of_ble_eq_true rfl) (Nat.le_of_ble_eq_true rfl) (s400_X1_melt  (d + 1)  ) ?_
  rintro _ _ ⟨rfl, rfl⟩
  dsimp only [Option.toList, List.cons_append, List.nil_append]
  refine G_iadd (pc := 29) (z := 0) (by decide) dX1_goRest_29 ?_
  refine G_iadd (pc := 30) (z := 0) (by decide) dX1_goRest_30 ?_
  refine G_istore_n (pc := 31) (L1 := [some (.ref 19), some (.int 12), some (.int 0), some (.int 10)]) rfl rfl (by decide) dX1_goRest_31 ?_
  refine G_iinc (pc := 32) (v := 1) (w := 11) (L1 := [some (.ref 19), some (.int 12), some (.int 0), some (.int 11)]) (by decide) rfl rfl (by decide) rfl (by decide) dX1_goRest_32 ?_
  refine G_goto (pc := 35) (tgt := 4) (by decide) dX1_goRest_35 ?_
  refine G_iload_n (pc := 4) rfl dX1_goRest_4 ?_
  refine G_iload_n (pc := 5) rfl dX1_goRest_5 ?_
  refine G_icmp_ge (pc := 6) (tgt := 38) (by decide) dX1_goRest_6 (fun z => absurd z (by decide)) (fun _ => ?_)
  refine G_aload_n (pc := 9) rfl dX1_goRest_9 ?_
  refine G_callV (pc := 10) (mc1 := 0) (ms1 := 0) (ci := 1) (mj := mX1_isOver) (vs := []) dX1_goRest_10 rfl rfl cm_X1_isOver wf_172 wf_17 wf_18 rfl (Nat.le_of_ble_eq_true rfl) (Nat.le_of_ble_eq_true rfl) (Nat.le_of_ble_eq_true rfl) (Nat.le_of_ble_eq_true rfl) (s401_X1_isOver  (d + 1)  ) ?_
  rintro _ _ ⟨rfl, rfl⟩
  dsimp only [Option.toList, List.cons_append, List.nil_append]
  refine G_if_ne (pc := 13) (tgt := 38) (by decide) dX1_goRest_13 (fun z => absurd (by decide) z) (fun _ => ?_)
  refine G_iload_n (pc := 16) rfl dX1_goRest_16 ?_
  refine G_aload_n (pc := 17) rfl dX1_goRest_17 ?_
  refine G_aload_n (pc := 18) rfl dX1_goRest_18 ?_
  refine G_callV (pc := 19) (mc1 := 0) (ms1 := 0) (ci := 1) (mj := mX1_restAct) (vs := []) dX1_goRest_19 rfl rfl cm_X1_restAct wf_173 wf_66 wf_67 rfl (Nat.le_of_ble_eq_true rfl) (Nat.le_of_ble_eq_true rfl) (Nat.le_of_ble_eq_true rfl) (Nat.le_of_ble_eq_true rfl) (s402_X1_restAct  (d + 1)  ) ?_
  rintro _ _ ⟨rfl, rfl⟩
  dsimp only [Option.toList, List.cons_append, List.nil_append]
  refine G_callV (pc := 22) (mc1 := 0) (ms1 := 0) (ci := 1) (mj := mX1_tell) (vs := [_]) dX1_goRest_22 rfl rfl cm_X1_tell wf_69 wf_71 wf_72 rfl (Nat.le_of_ble_eq_true rfl) (Nat.le_of_ble_eq_true rfl) (Nat.le_of_ble_eq_true rfl) (Nat.le_of_ble_eq_true rfl) (s403_X1_tell  d  ) ?_
  rintro _ _ ⟨rfl, rfl⟩
  dsimp only [Option.toList, List.cons_append, List.nil_append]
  refine G_aload_n (pc := 25) rfl dX1_goRest_25 ?_
  refine G_callV (pc := 26) (mc1 := 0) (ms1 := 0) (ci := 1) (mj := mX1_melt) (vs := []) dX1_goRest_26 rfl rfl cm_X1_melt wf_73 wf_75 wf_76 rfl (Nat.le_of_ble_eq_true rfl) (Nat.le_of_ble_eq_true rfl) (Nat.le_of_ble_eq_true rfl) (Nat.le_of_ble_eq_true rfl) (s405_X1_melt  (d + 1)  ) ?_
  rintro _ _ ⟨rfl, rfl⟩
  dsimp only [Option.toList, List.cons_append, List.nil_append]
  refine G_iadd (pc := 29) (z := 0) (by decide) dX1_goRest_29 ?_
  refine G_iadd (pc := 30) (z := 0) (by decide) dX1_goRest_30 ?_
  refine G_istore_n (pc := 31) (L1 := [some (.ref 19), some (.int 12), some (.int 0), some (.int 11)]) rfl rfl (by decide) dX1_goRest_31 ?_
  refine G_iinc (pc := 32) (v := 1) (w := 12) (L1 := [some (.ref 19), some (.int 12), some (.int 0), some (.int 12)]) (by decide) rfl rfl (by decide) rfl (by decide) dX1_goRest_32 ?_
  refine G_goto (pc := 35) (tgt := 4) (by decide) dX1_goRest_35 ?_
  refine G_iload_n (pc := 4) rfl dX1_goRest_4 ?_
  refine G_iload_n (pc := 5) rfl dX1_goRest_5 ?_
  refine G_icmp_ge (pc := 6) (tgt := 38) (by decide) dX1_goRest_6 (fun _ => ?_) (fun z => absurd (by decide) z)
  refine G_iload_n (pc := 38) rfl dX1_goRest_38 ?_
  exact G_iret (pc := 39) (Nat.le_of_ble_eq_true rfl) (Nat.le_of_ble_eq_true rfl) rfl dX1_goRest_39 ⟨rfl, rfl⟩
set_option maxRecDepth 100000 in
set_option maxHeartbeats 4000000 in
theorem s430_X1_restore  (d : Nat)   : G (d + 1) mX1_restore 0 0 0 0 0 (gent 3 [.ref 19, .int 0]) [] SH0 RF0 (gup (gup (gup (gup (gup (gup (gup (gup (gup (gup (gup (gup (gup (gup (gcp I0 24 34 (0 : Int32).toNatClampNeg (0 : Int32).toNatClampNeg (6 : Int32).toNatClampNeg) 34 6 0) 34 7 0) 19 1 1) 19 1 2) 19 1 3) 19 1 4) 19 1 5) 19 1 6) 19 1 7) 19 1 8) 19 1 9) 19 1 10) 19 1 11) 19 1 12) (fun r h => r = none ∧ h = (SH0, RF0, (gup (gup (gcp (gup (gup (gup (gup (gup (gup (gup (gup (gup (gup (gup (gup (gup (gup (gcp I0 24 34 (0 : Int32).toNatClampNeg (0 : Int32).toNatClampNeg (6 : Int32).toNatClampNeg) 34 6 0) 34 7 0) 19 1 1) 19 1 2) 19 1 3) 19 1 4) 19 1 5) 19 1 6) 19 1 7) 19 1 8) 19 1 9) 19 1 10) 19 1 11) 19 1 12) 34 24 (0 : Int32).toNatClampNeg (0 : Int32).toNatClampNeg (6 : Int32).toNatClampNeg) 19 9 0) 19 1 0))) := by
  refine G_iload_n (pc := 0) rfl dX1_restore_0 ?_
  refine G_bipush (pc := 1) (v := 8) (by decide) dX1_restore_1 ?_
  refine G_imul (pc := 3) (z := 0) (by decide) dX1_restore_3 ?_
  refine G_istore_n (pc := 4) (L1 := [some (.ref 19), some (.int 0), some (.int 0)]) rfl rfl (by decide) dX1_restore_4 ?_
  refine G_aload_n (pc := 5) rfl dX1_restore_5 ?_
  refine G_getR (pc := 6) (r := 34) (ci := 1) (j := 18) rfl lk_RX1_53 rfl rfl rfl dX1_restore_6 ?_
  refine G_iload_n (pc := 9) rfl dX1_restore_9 ?_
  refine G_aload_n (pc := 10) rfl dX1_restore_10 ?_
  refine G_getR (pc := 11) (r := 24) (ci := 1) (j := 11) rfl lk_RX1_31 rfl rfl rfl dX1_restore_11 ?_
  refine G_iconst (pc := 14) (v := 0) (by decide) dX1_restore_14 ?_
  refine G_bipush (pc := 15) (v := 6) (by decide) dX1_restore_15 ?_
  refine G_copy (pc := 17) (x := 34) (y := 24) rfl rfl (by decide) (by decide) (by decide) (by decide) (by decide) wf_50 wf_51 wf_52 wf_53 (Nat.le_of_ble_eq_true rfl) dX1_restore_17 ?_
  refine G_aload_n (pc := 20) rfl dX1_restore_20 ?_
  refine G_aload_n (pc := 21) rfl dX1_restore_21 ?_
  refine G_getR (pc := 22) (r := 34) (ci := 1) (j := 18) rfl lk_RX1_53 rfl rfl rfl dX1_restore_22 ?_
  refine G_iload_n (pc := 25) rfl dX1_restore_25 ?_
  refine G_bipush (pc := 26) (v := 6) (by decide) dX1_restore_26 ?_
  refine G_iadd (pc := 28) (z := 6) (by decide) dX1_restore_28 ?_
  refine G_iald (pc := 29) (jj := 6) (v := 0) (by decide) rfl rfl (by unfold vp_in; decide) dX1_restore_29 ?_
  refine G_putI (pc := 30) (ci := 1) (j := 9) rfl lk_RX1_75 rfl rfl rfl trivial dX1_restore_30 ?_
  refine G_aload_n (pc := 33) rfl dX1_restore_33 ?_
  refine G_aload_n (pc := 34) rfl dX1_restore_34 ?_
  refine G_getR (pc := 35) (r := 34) (ci := 1) (j := 18) rfl lk_RX1_53 rfl rfl rfl dX1_restore_35 ?_
  refine G_iload_n (pc := 38) rfl dX1_restore_38 ?_
  refine G_bipush (pc := 39) (v := 6) (by decide) dX1_restore_39 ?_
  refine G_iadd (pc := 41) (z := 6) (by decide) dX1_restore_41 ?_
  refine G_iconst (pc := 42) (v := 1) (by decide) dX1_restore_42 ?_
  refine G_iadd (pc := 43) (z := 7) (by decide) dX1_restore_43 ?_
  refine G_iald (pc := 44) (jj := 7) (v := 0) (by decide) rfl rfl (by unfold vp_in; decide) dX1_restore_44 ?_
  refine G_putI (pc := 45) (ci := 1) (j := 1) rfl lk_RX1_60 rfl rfl rfl trivial dX1_restore_45 ?_
  exact G_vret (pc := 48) (Nat.le_of_ble_eq_true rfl) (Nat.le_of_ble_eq_true rfl) rfl dX1_restore_48 ⟨rfl, rfl⟩
set_option maxRecDepth 100000 in
set_option maxHeartbeats 4000000 in
theorem s431_X1_goRest  (d : Nat)   : G (d + 2) mX1_goRest 0 0 0 0 0 (gent 4 [.ref 19, .int 13]) [] SH0 RF0 (gup (gup (gcp I0 24 34 (0 : Int32).toNatClampNeg (0 : Int32).toNatClampNeg (6 : Int32).toNatClampNeg) 34 6 0) 34 7 0) (fun r h => r = some (.int 0) ∧ h = (SH0, RF0, (gup (gup (gup (gup (gup (gup (gup (gup (gup (gup (gup (gup (gup (gup (gcp I0 24 34 (0 : Int32).toNatClampNeg (0 : Int32).toNatClampNeg (6 : Int32).toNatClampNeg) 34 6 0) 34 7 0) 19 1 1) 19 1 2) 19 1 3) 19 1 4) 19 1 5) 19 1 6) 19 1 7) 19 1 8) 19 1 9) 19 1 10) 19 1 11) 19 1 12))) := by
  refine G_iconst (pc := 0) (v := 0) (by decide) dX1_goRest_0 ?_
  refine G_istore_n (pc := 1) (L1 := [some (.ref 19), some (.int 13), some (.int 0), none]) rfl rfl (by decide) dX1_goRest_1 ?_
  refine G_iconst (pc := 2) (v := 0) (by decide) dX1_goRest_2 ?_
  refine G_istore_n (pc := 3) (L1 := [some (.ref 19), some (.int 13), some (.int 0), some (.int 0)]) rfl rfl (by decide) dX1_goRest_3 ?_
  refine G_iload_n (pc := 4) rfl dX1_goRest_4 ?_
  refine G_iload_n (pc := 5) rfl dX1_goRest_5 ?_
  refine G_icmp_ge (pc := 6) (tgt := 38) (by decide) dX1_goRest_6 (fun z => absurd z (by decide)) (fun _ => ?_)
  refine G_aload_n (pc := 9) rfl dX1_goRest_9 ?_
  refine G_callV (pc := 10) (mc1 := 0) (ms1 := 0) (ci := 1) (mj := mX1_isOver) (vs := []) dX1_goRest_10 rfl rfl cm_X1_isOver wf_172 wf_17 wf_18 rfl (Nat.le_of_ble_eq_true rfl) (Nat.le_of_ble_eq_true rfl) (Nat.le_of_ble_eq_true rfl) (Nat.le_of_ble_eq_true rfl) (s350_X1_isOver  (d + 1)  ) ?_
  rintro _ _ ⟨rfl, rfl⟩
  dsimp only [Option.toList, List.cons_append, List.nil_append]
  refine G_if_ne (pc := 13) (tgt := 38) (by decide) dX1_goRest_13 (fun z => absurd (by decide) z) (fun _ => ?_)
  refine G_iload_n (pc := 16) rfl dX1_goRest_16 ?_
  refine G_aload_n (pc := 17) rfl dX1_goRest_17 ?_
  refine G_aload_n (pc := 18) rfl dX1_goRest_18 ?_
  refine G_callV (pc := 19) (mc1 := 0) (ms1 := 0) (ci := 1) (mj := mX1_restAct) (vs := []) dX1_goRest_19 rfl rfl cm_X1_restAct wf_173 wf_66 wf_67 rfl (Nat.le_of_ble_eq_true rfl) (Nat.le_of_ble_eq_true rfl) (Nat.le_of_ble_eq_true rfl) (Nat.le_of_ble_eq_true rfl) (s351_X1_restAct  (d + 1)  ) ?_
  rintro _ _ ⟨rfl, rfl⟩
  dsimp only [Option.toList, List.cons_append, List.nil_append]
  refine G_callV (pc := 22) (mc1 := 0) (ms1 := 0) (ci := 1) (mj := mX1_tell) (vs := [_]) dX1_goRest_22 rfl rfl cm_X1_tell wf_69 wf_71 wf_72 rfl (Nat.le_of_ble_eq_true rfl) (Nat.le_of_ble_eq_true rfl) (Nat.le_of_ble_eq_true rfl) (Nat.le_of_ble_eq_true rfl) (s145_X1_tell  d  ) ?_
  rintro _ _ ⟨rfl, rfl⟩
  dsimp only [Option.toList, List.cons_append, List.nil_append]
  refine G_aload_n (pc := 25) rfl dX1_goRest_25 ?_
  refine G_callV (pc := 26) (mc1 := 0) (ms1 := 0) (ci := 1) (mj := mX1_melt) (vs := []) dX1_goRest_26 rfl rfl cm_X1_melt wf_73 wf_75 wf_76 rfl (Nat.le_of_ble_eq_true rfl) (Nat.le_of_ble_eq_true rfl) (Nat.le_of_ble_eq_true rfl) (Nat.le_of_ble_eq_true rfl) (s147_X1_melt  (d + 1)  ) ?_
  rintro _ _ ⟨rfl, rfl⟩
  dsimp only [Option.toList, List.cons_append, List.nil_append]
  refine G_iadd (pc := 29) (z := 0) (by decide) dX1_goRest_29 ?_
  refine G_iadd (pc := 30) (z := 0) (by decide) dX1_goRest_30 ?_
  refine G_istore_n (pc := 31) (L1 := [some (.ref 19), some (.int 13), some (.int 0), some (.int 0)]) rfl rfl (by decide) dX1_goRest_31 ?_
  refine G_iinc (pc := 32) (v := 1) (w := 1) (L1 := [some (.ref 19), some (.int 13), some (.int 0), some (.int 1)]) (by decide) rfl rfl (by decide) rfl (by decide) dX1_goRest_32 ?_
  refine G_goto (pc := 35) (tgt := 4) (by decide) dX1_goRest_35 ?_
  refine G_iload_n (pc := 4) rfl dX1_goRest_4 ?_
  refine G_iload_n (pc := 5) rfl dX1_goRest_5 ?_
  refine G_icmp_ge (pc := 6) (tgt := 38) (by decide) dX1_goRest_6 (fun z => absurd z (by decide)) (fun _ => ?_)
  refine G_aload_n (pc := 9) rfl dX1_goRest_9 ?_
  refine G_callV (pc := 10) (mc1 := 0) (ms1 := 0) (ci := 1) (mj := mX1_isOver) (vs := []) dX1_goRest_10 rfl rfl cm_X1_isOver wf_172 wf_17 wf_18 rfl (Nat.le_of_ble_eq_true rfl) (Nat.le_of_ble_eq_true rfl) (Nat.le_of_ble_eq_true rfl) (Nat.le_of_ble_eq_true rfl) (s155_X1_isOver  (d + 1)  ) ?_
  rintro _ _ ⟨rfl, rfl⟩
  dsimp only [Option.toList, List.cons_append, List.nil_append]
  refine G_if_ne (pc := 13) (tgt := 38) (by decide) dX1_goRest_13 (fun z => absurd (by decide) z) (fun _ => ?_)
  refine G_iload_n (pc := 16) rfl dX1_goRest_16 ?_
  refine G_aload_n (pc := 17) rfl dX1_goRest_17 ?_
  refine G_aload_n (pc := 18) rfl dX1_goRest_18 ?_
  refine G_callV (pc := 19) (mc1 := 0) (ms1 := 0) (ci := 1) (mj := mX1_restAct) (vs := []) dX1_goRest_19 rfl rfl cm_X1_restAct wf_173 wf_66 wf_67 rfl (Nat.le_of_ble_eq_true rfl) (Nat.le_of_ble_eq_true rfl) (Nat.le_of_ble_eq_true rfl) (Nat.le_of_ble_eq_true rfl) (s352_X1_restAct  (d + 1)  ) ?_
  rintro _ _ ⟨rfl, rfl⟩
  dsimp only [Option.toList, List.cons_append, List.nil_append]
  refine G_callV (pc := 22) (mc1 := 0) (ms1 := 0) (ci := 1) (mj := mX1_tell) (vs := [_]) dX1_goRest_22 rfl rfl cm_X1_tell wf_69 wf_71 wf_72 rfl (Nat.le_of_ble_eq_true rfl) (Nat.le_of_ble_eq_true rfl) (Nat.le_of_ble_eq_true rfl) (Nat.le_of_ble_eq_true rfl) (s353_X1_tell  d  ) ?_
  rintro _ _ ⟨rfl, rfl⟩
  dsimp only [Option.toList, List.cons_append, List.nil_append]
  refine G_aload_n (pc := 25) rfl dX1_goRest_25 ?_
  refine G_callV (pc := 26) (mc1 := 0) (ms1 := 0) (ci := 1) (mj := mX1_melt) (vs := []) dX1_goRest_26 rfl rfl cm_X1_melt wf_73 wf_75 wf_76 rfl (Nat.le_of_ble_eq_true rfl) (Nat.le_of_ble_eq_true rfl) (Nat.le_of_ble_eq_true rfl) (Nat.le_of_ble_eq_true rfl) (s355_X1_melt  (d + 1)  ) ?_
  rintro _ _ ⟨rfl, rfl⟩
  dsimp only [Option.toList, List.cons_append, List.nil_append]
  refine G_iadd (pc := 29) (z := 0) (by decide) dX1_goRest_29 ?_
  refine G_iadd (pc := 30) (z := 0) (by decide) dX1_goRest_30 ?_
  refine G_istore_n (pc := 31) (L1 := [some (.ref 19), some (.int 13), some (.int 0), some (.int 1)]) rfl rfl (by decide) dX1_goRest_31 ?_
  refine G_iinc (pc := 32) (v := 1) (w := 2) (L1 := [some (.ref 19), some (.int 13), some (.int 0), some (.int 2)]) (by decide) rfl rfl (by decide) rfl (by decide) dX1_goRest_32 ?_
  refine G_goto (pc := 35) (tgt := 4) (by decide) dX1_goRest_35 ?_
  refine G_iload_n (pc := 4) rfl dX1_goRest_4 ?_
  refine G_iload_n (pc := 5) rfl dX1_goRest_5 ?_
  refine G_icmp_ge (pc := 6) (tgt := 38) (by decide) dX1_goRest_6 (fun z => absurd z (by decide)) (fun _ => ?_)
  refine G_aload_n (pc := 9) rfl dX1_goRest_9 ?_
  refine G_callV (pc := 10) (mc1 := 0) (ms1 := 0) (ci := 1) (mj := mX1_isOver) (vs := []) dX1_goRest_10 rfl rfl cm_X1_isOver wf_172 wf_17 wf_18 rfl (Nat.le_of_ble_eq_true rfl) (Nat.le_of_ble_eq_true rfl) (Nat.le_of_ble_eq_true rfl) (Nat.le_of_ble_eq_true rfl) (s356_X1_isOver  (d + 1)  ) ?_
  rintro _ _ ⟨rfl, rfl⟩
  dsimp only [Option.toList, List.cons_append, List.nil_append]
  refine G_if_ne (pc := 13) (tgt := 38) (by decide) dX1_goRest_13 (fun z => absurd (by decide) z) (fun _ => ?_)
  refine G_iload_n (pc := 16) rfl dX1_goRest_16 ?_
  refine G_aload_n (pc := 17) rfl dX1_goRest_17 ?_
  refine G_aload_n (pc := 18) rfl dX1_goRest_18 ?_
  refine G_callV (pc := 19) (mc1 := 0) (ms1 := 0) (ci := 1) (mj := mX1_restAct) (vs := []) dX1_goRest_19 rfl rfl cm_X1_restAct wf_173 wf_66 wf_67 rfl (Nat.le_of_ble_eq_true rfl) (Nat.le_of_ble_eq_true rfl) (Nat.le_of_ble_eq_true rfl) (Nat.le_of_ble_eq_true rfl) (s357_X1_restAct  (d + 1)  ) ?_
  rintro _ _ ⟨rfl, rfl⟩
  dsimp only [Option.toList, List.cons_append, List.nil_append]
  refine G_callV (pc := 22) (mc1 := 0) (ms1 := 0) (ci := 1) (mj := mX1_tell) (vs := [_]) dX1_goRest_22 rfl rfl cm_X1_tell wf_69 wf_71 wf_72 rfl (Nat.le_of_ble_eq_true rfl) (Nat.le_of_ble_eq_true rfl) (Nat.le_of_ble_eq_true rfl) (Nat.le_of_ble_eq_true rfl) (s358_X1_tell  d  ) ?_
  rintro _ _ ⟨rfl, rfl⟩
  dsimp only [Option.toList, List.cons_append, List.nil_append]
  refine G_aload_n (pc := 25) rfl dX1_goRest_25 ?_
  refine G_callV (pc := 26) (mc1 := 0) (ms1 := 0) (ci := 1) (mj := mX1_melt) (vs := []) dX1_goRest_26 rfl rfl cm_X1_melt wf_73 wf_75 wf_76 rfl (Nat.le_of_ble_eq_true rfl) (Nat.le_of_ble_eq_true rfl) (Nat.le_of_ble_eq_true rfl) (Nat.le_of_ble_eq_true rfl) (s360_X1_melt  (d + 1)  ) ?_
  rintro _ _ ⟨rfl, rfl⟩
  dsimp only [Option.toList, List.cons_append, List.nil_append]
  refine G_iadd (pc := 29) (z := 0) (by decide) dX1_goRest_29 ?_
  refine G_iadd (pc := 30) (z := 0) (by decide) dX1_goRest_30 ?_
  refine G_istore_n (pc := 31) (L1 := [some (.ref 19), some (.int 13), some (.int 0), some (.int 2)]) rfl rfl (by decide) dX1_goRest_31 ?_
  refine G_iinc (pc := 32) (v := 1) (w := 3) (L1 := [some (.ref 19), some (.int 13), some (.int 0), some (.int 3)]) (by decide) rfl rfl (by decide) rfl (by decide) dX1_goRest_32 ?_
  refine G_goto (pc := 35) (tgt := 4) (by decide) dX1_goRest_35 ?_
  refine G_iload_n (pc := 4) rfl dX1_goRest_4 ?_
  refine G_iload_n (pc := 5) rfl dX1_goRest_5 ?_
  refine G_icmp_ge (pc := 6) (tgt := 38) (by decide) dX1_goRest_6 (fun z => absurd z (by decide)) (fun _ => ?_)
  refine G_aload_n (pc := 9) rfl dX1_goRest_9 ?_
  refine G_callV (pc := 10) (mc1 := 0) (ms1 := 0) (ci := 1) (mj := mX1_isOver) (vs := []) dX1_goRest_10 rfl rfl cm_X1_isOver wf_172 wf_17 wf_18 rfl (Nat.le_of_ble_eq_true rfl) (Nat.le_of_ble_eq_true rfl) (Nat.le_of_ble_eq_true rfl) (Nat.le_of_ble_eq_true rfl) (s361_X1_isOver  (d + 1)  ) ?_
  rintro _ _ ⟨rfl, rfl⟩
  dsimp only [Option.toList, List.cons_append, List.nil_append]
  refine G_if_ne (pc := 13) (tgt := 38) (by decide) dX1_goRest_13 (fun z => absurd (by decide) z) (fun _ => ?_)
  refine G_iload_n (pc := 16) rfl dX1_goRest_16 ?_
  refine G_aload_n (pc := 17) rfl dX1_goRest_17 ?_
  refine G_aload_n (pc := 18) rfl dX1_goRest_18 ?_
  refine G_callV (pc := 19) (mc1 := 0) (ms1 := 0) (ci := 1) (mj := mX1_restAct) (vs := []) dX1_goRest_19 rfl rfl cm_X1_restAct wf_173 wf_66 wf_67 rfl (Nat.le_of_ble_eq_true rfl) (Nat.le_of_ble_eq_true rfl) (Nat.le_of_ble_eq_true rfl) (Nat.le_of_ble_eq_true rfl) (s362_X1_restAct  (d + 1)  ) ?_
  rintro _ _ ⟨rfl, rfl⟩
  dsimp only [Option.toList, List.cons_append, List.nil_append]
  refine G_callV (pc := 22) (mc1 := 0) (ms1 := 0) (ci := 1) (mj := mX1_tell) (vs := [_]) dX1_goRest_22 rfl rfl cm_X1_tell wf_69 wf_71 wf_72 rfl (Nat.le_of_ble_eq_true rfl) (Nat.le_of_ble_eq_true rfl) (Nat.le_of_ble_eq_true rfl) (Nat.le_of_ble_eq_true rfl) (s363_X1_tell  d  ) ?_
  rintro _ _ ⟨rfl, rfl⟩
  dsimp only [Option.toList, List.cons_append, List.nil_append]
  refine G_aload_n (pc := 25) rfl dX1_goRest_25 ?_
  refine G_callV (pc := 26) (mc1 := 0) (ms1 := 0) (ci := 1) (mj := mX1_melt) (vs := []) dX1_goRest_26 rfl rfl cm_X1_melt wf_73 wf_75 wf_76 rfl (Nat.le_of_ble_eq_true rfl) (Nat.le_of_ble_eq_true rfl) (Nat.le_of_ble_eq_true rfl) (Nat.le_of_ble_eq_true rfl) (s365_X1_melt  (d + 1)  ) ?_
  rintro _ _ ⟨rfl, rfl⟩
  dsimp only [Option.toList, List.cons_append, List.nil_append]
  refine G_iadd (pc := 29) (z := 0) (by decide) dX1_goRest_29 ?_
  refine G_iadd (pc := 30) (z := 0) (by decide) dX1_goRest_30 ?_
  refine G_istore_n (pc := 31) (L1 := [some (.ref 19), some (.int 13), some (.int 0), some (.int 3)]) rfl rfl (by decide) dX1_goRest_31 ?_
  refine G_iinc (pc := 32) (v := 1) (w := 4) (L1 := [some (.ref 19), some (.int 13), some (.int 0), some (.int 4)]) (by decide) rfl rfl (by decide) rfl (by decide) dX1_goRest_32 ?_
  refine G_goto (pc := 35) (tgt := 4) (by decide) dX1_goRest_35 ?_
  refine G_iload_n (pc := 4) rfl dX1_goRest_4 ?_
  refine G_iload_n (pc := 5) rfl dX1_goRest_5 ?_
  refine G_icmp_ge (pc := 6) (tgt := 38) (by decide) dX1_goRest_6 (fun z => absurd z (by decide)) (fun _ => ?_)
  refine G_aload_n (pc := 9) rfl dX1_goRest_9 ?_
  refine G_callV (pc := 10) (mc1 := 0) (ms1 := 0) (ci := 1) (mj := mX1_isOver) (vs := []) dX1_goRest_10 rfl rfl cm_X1_isOver wf_172 wf_17 wf_18 rfl (Nat.le_of_ble_eq_true rfl) (Nat.le_of_ble_eq_true rfl) (Nat.le_of_ble_eq_true rfl) (Nat.le_of_ble_eq_true rfl) (s366_X1_isOver  (d + 1)  ) ?_
  rintro _ _ ⟨rfl, rfl⟩
  dsimp only [Option.toList, List.cons_append, List.nil_append]
  refine G_if_ne (pc := 13) (tgt := 38) (by decide) dX1_goRest_13 (fun z => absurd (by decide) z) (fun _ => ?_)
  refine G_iload_n (pc := 16) rfl dX1_goRest_16 ?_
  refine G_aload_n (pc := 17) rfl dX1_goRest_17 ?_
  refine G_aload_n (pc := 18) rfl dX1_goRest_18 ?_
  refine G_callV (pc := 19) (mc1 := 0) (ms1 := 0) (ci := 1) (mj := mX1_restAct) (vs := []) dX1_goRest_19 rfl rfl cm_X1_restAct wf_173 wf_66 wf_67 rfl (Nat.le_of_ble_eq_true rfl) (Nat.le_of_ble_eq_true rfl) (Nat.le_of_ble_eq_true rfl) (Nat.le_of_ble_eq_true rfl) (s367_X1_restAct  (d + 1)  ) ?_
  rintro _ _ ⟨rfl, rfl⟩
  dsimp only [Option.toList, List.cons_append, List.nil_append]
  refine G_callV (pc := 22) (mc1 := 0) (ms1 := 0) (ci := 1) (mj := mX1_tell) (vs := [_]) dX1_goRest_22 rfl rfl cm_X1_tell wf_69 wf_71 wf_72 rfl (Nat.le_of_ble_eq_true rfl) (Nat.le_of_ble_eq_true rfl) (Nat.le_of_ble_eq_true rfl) (Nat.le_of_ble_eq_true rfl) (s368_X1_tell  d  ) ?_
  rintro _ _ ⟨rfl, rfl⟩
  dsimp only [Option.toList, List.cons_append, List.nil_append]
  refine G_aload_n (pc := 25) rfl dX1_goRest_25 ?_
  refine G_callV (pc := 26) (mc1 := 0) (ms1 := 0) (ci := 1) (mj := mX1_melt) (vs := []) dX1_goRest_26 rfl rfl cm_X1_melt wf_73 wf_75 wf_76 rfl (Nat.le_of_ble_eq_true rfl) (Nat.le_of_ble_eq_true rfl) (Nat.le_of_ble_eq_true rfl) (Nat.le_of_ble_eq_true rfl) (s370_X1_melt  (d + 1)  ) ?_
  rintro _ _ ⟨rfl, rfl⟩
  dsimp only [Option.toList, List.cons_append, List.nil_append]
  refine G_iadd (pc := 29) (z := 0) (by decide) dX1_goRest_29 ?_
  refine G_iadd (pc := 30) (z := 0) (by decide) dX1_goRest_30 ?_
  refine G_istore_n (pc := 31) (L1 := [some (.ref 19), some (.int 13), some (.int 0), some (.int 4)]) rfl rfl (by decide) dX1_goRest_31 ?_
  refine G_iinc (pc := 32) (v := 1) (w := 5) (L1 := [some (.ref 19), some (.int 13), some (.int 0), some (.int 5)]) (by decide) rfl rfl (by decide) rfl (by decide) dX1_goRest_32 ?_
  refine G_goto (pc := 35) (tgt := 4) (by decide) dX1_goRest_35 ?_
  refine G_iload_n (pc := 4) rfl dX1_goRest_4 ?_
  refine G_iload_n (pc := 5) rfl dX1_goRest_5 ?_
  refine G_icmp_ge (pc := 6) (tgt := 38) (by decide) dX1_goRest_6 (fun z => absurd z (by decide)) (fun _ => ?_)
  refine G_aload_n (pc := 9) rfl dX1_goRest_9 ?_
  refine G_callV (pc := 10) (mc1 := 0) (ms1 := 0) (ci := 1) (mj := mX1_isOver) (vs := []) dX1_goRest_10 rfl rfl cm_X1_isOver wf_172 wf_17 wf_18 rfl (Nat.le_of_ble_eq_true rfl) (Nat.le_of_ble_eq_true rfl) (Nat.le_of_ble_eq_true rfl) (Nat.le_of_ble_eq_true rfl) (s371_X1_isOver  (d + 1)  ) ?_
  rintro _ _ ⟨rfl, rfl⟩
  dsimp only [Option.toList, List.cons_append, List.nil_append]
  refine G_if_ne (pc := 13) (tgt := 38) (by decide) dX1_goRest_13 (fun z => absurd (by decide) z) (fun _ => ?_)
  refine G_iload_n (pc := 16) rfl dX1_goRest_16 ?_
  refine G_aload_n (pc := 17) rfl dX1_goRest_17 ?_
  refine G_aload_n (pc := 18) rfl dX1_goRest_18 ?_
  refine G_callV (pc := 19) (mc1 := 0) (ms1 := 0) (ci := 1) (mj := mX1_restAct) (vs := []) dX1_goRest_19 rfl rfl cm_X1_restAct wf_173 wf_66 wf_67 rfl (Nat.le_of_ble_eq_true rfl) (Nat.le_of_ble_eq_true rfl) (Nat.le_of_ble_eq_true rfl) (Nat.le_of_ble_eq_true rfl) (s372_X1_restAct  (d + 1)  ) ?_
  rintro _ _ ⟨rfl, rfl⟩
  dsimp only [Option.toList, List.cons_append, List.nil_append]
  refine G_callV (pc := 22) (mc1 := 0) (ms1 := 0) (ci := 1) (mj := mX1_tell) (vs := [_]) dX1_goRest_22 rfl rfl cm_X1_tell wf_69 wf_71 wf_72 rfl (Nat.le_of_ble_eq_true rfl) (Nat.le_of_ble_eq_true rfl) (Nat.le_of_ble_eq_true rfl) (Nat.le_of_ble_eq_true rfl) (s373_X1_tell  d  ) ?_
  rintro _ _ ⟨rfl, rfl⟩
  dsimp only [Option.toList, List.cons_append, List.nil_append]
  refine G_aload_n (pc := 25) rfl dX1_goRest_25 ?_
  refine G_callV (pc := 26) (mc1 := 0) (ms1 := 0) (ci := 1) (mj := mX1_melt) (vs := []) dX1_goRest_26 rfl rfl cm_X1_melt wf_73 wf_75 wf_76 rfl (Nat.le_of_ble_eq_true rfl) (Nat.le_of_ble_eq_true rfl) (Nat.le_of_ble_eq_true rfl) (Nat.le_of_ble_eq_true rfl) (s375_X1_melt  (d + 1)  ) ?_
  rintro _ _ ⟨rfl, rfl⟩
  dsimp only [Option.toList, List.cons_append, List.nil_append]
  refine G_iadd (pc := 29) (z := 0) (by decide) dX1_goRest_29 ?_
  refine G_iadd (pc := 30) (z := 0) (by decide) dX1_goRest_30 ?_
  refine G_istore_n (pc := 31) (L1 := [some (.ref 19), some (.int 13), some (.int 0), some (.int 5)]) rfl rfl (by decide) dX1_goRest_31 ?_
  refine G_iinc (pc := 32) (v := 1) (w := 6) (L1 := [some (.ref 19), some (.int 13), some (.int 0), some (.int 6)]) (by decide) rfl rfl (by decide) rfl (by decide) dX1_goRest_32 ?_
  refine G_goto (pc := 35) (tgt := 4) (by decide) dX1_goRest_35 ?_
  refine G_iload_n (pc := 4) rfl dX1_goRest_4 ?_
  refine G_iload_n (pc := 5) rfl dX1_goRest_5 ?_
  refine G_icmp_ge (pc := 6) (tgt := 38) (by decide) dX1_goRest_6 (fun z => absurd z (by decide)) (fun _ => ?_)
  refine G_aload_n (pc := 9) rfl dX1_goRest_9 ?_
  refine G_callV (pc := 10) (mc1 := 0) (ms1 := 0) (ci := 1) (mj := mX1_isOver) (vs := []) dX1_goRest_10 rfl rfl cm_X1_isOver wf_172 wf_17 wf_18 rfl (Nat.le_of_ble_eq_true rfl) (Nat.le_of_ble_eq_true rfl) (Nat.le_of_ble_eq_true rfl) (Nat.le_of_ble_eq_true rfl) (s376_X1_isOver  (d + 1)  ) ?_
  rintro _ _ ⟨rfl, rfl⟩
  dsimp only [Option.toList, List.cons_append, List.nil_append]
  refine G_if_ne (pc := 13) (tgt := 38) (by decide) dX1_goRest_13 (fun z => absurd (by decide) z) (fun _ => ?_)
  refine G_iload_n (pc := 16) rfl dX1_goRest_16 ?_
  refine G_aload_n (pc := 17) rfl dX1_goRest_17 ?_
  refine G_aload_n (pc := 18) rfl dX1_goRest_18 ?_
  refine G_callV (pc := 19) (mc1 := 0) (ms1 := 0) (ci := 1) (mj := mX1_restAct) (vs := []) dX1_goRest_19 rfl rfl cm_X1_restAct wf_173 wf_66 wf_67 rfl (Nat.le_of_ble_eq_true rfl) (Nat.le_of_ble_eq_true rfl) (Nat.le_of_ble_eq_true rfl) (Nat.le_of_ble_eq_true rfl) (s377_X1_restAct  (d + 1)  ) ?_
  rintro _ _ ⟨rfl, rfl⟩
  dsimp only [Option.toList, List.cons_append, List.nil_append]
  refine G_callV (pc := 22) (mc1 := 0) (ms1 := 0) (ci := 1) (mj := mX1_tell) (vs := [_]) dX1_goRest_22 rfl rfl cm_X1_tell wf_69 wf_71 wf_72 rfl (Nat.le_of_ble_eq_true rfl) (Nat.le_of_ble_eq_true rfl) (Nat.le_of_ble_eq_true rfl) (Nat.le_of_ble_eq_true rfl) (s378_X1_tell  d  ) ?_
  rintro _ _ ⟨rfl, rfl⟩
  dsimp only [Option.toList, List.cons_append, List.nil_append]
  refine G_aload_n (pc := 25) rfl dX1_goRest_25 ?_
  refine G_callV (pc := 26) (mc1 := 0) (ms1 := 0) (ci := 1) (mj := mX1_melt) (vs := []) dX1_goRest_26 rfl rfl cm_X1_melt wf_73 wf_75 wf_76 rfl (Nat.le_of_ble_eq_true rfl) (Nat.le_of_ble_eq_true rfl) (Nat.le_of_ble_eq_true rfl) (Nat.le_of_ble_eq_true rfl) (s380_X1_melt  (d + 1)  ) ?_
  rintro _ _ ⟨rfl, rfl⟩
  dsimp only [Option.toList, List.cons_append, List.nil_append]
  refine G_iadd (pc := 29) (z := 0) (by decide) dX1_goRest_29 ?_
  refine G_iadd (pc := 30) (z := 0) (by decide) dX1_goRest_30 ?_
  refine G_istore_n (pc := 31) (L1 := [some (.ref 19), some (.int 13), some (.int 0), some (.int 6)]) rfl rfl (by decide) dX1_goRest_31 ?_
  refine G_iinc (pc := 32) (v := 1) (w := 7) (L1 := [some (.ref 19), some (.int 13), some (.int 0), some (.int 7)]) (by decide) rfl rfl (by decide) rfl (by decide) dX1_goRest_32 ?_
  refine G_goto (pc := 35) (tgt := 4) (by decide) dX1_goRest_35 ?_
  refine G_iload_n (pc := 4) rfl dX1_goRest_4 ?_
  refine G_iload_n (pc := 5) rfl dX1_goRest_5 ?_
  refine G_icmp_ge (pc := 6) (tgt := 38) (by decide) dX1_goRest_6 (fun z => absurd z (by decide)) (fun _ => ?_)
  refine G_aload_n (pc := 9) rfl dX1_goRest_9 ?_
  refine G_callV (pc := 10) (mc1 := 0) (ms1 := 0) (ci := 1) (mj := mX1_isOver) (vs := []) dX1_goRest_10 rfl rfl cm_X1_isOver wf_172 wf_17 wf_18 rfl (Nat.le_of_ble_eq_true rfl) (Nat.le_of_ble_eq_true rfl) (Nat.le_of_ble_eq_true rfl) (Nat.le_of_ble_eq_true rfl) (s381_X1_isOver  (d + 1)  ) ?_
  rintro _ _ ⟨rfl, rfl⟩
  dsimp only [Option.toList, List.cons_append, List.nil_append]
  refine G_if_ne (pc := 13) (tgt := 38) (by decide) dX1_goRest_13 (fun z => absurd (by decide) z) (fun _ => ?_)
  refine G_iload_n (pc := 16) rfl dX1_goRest_16 ?_
  refine G_aload_n (pc := 17) rfl dX1_goRest_17 ?_
  refine G_aload_n (pc := 18) rfl dX1_goRest_18 ?_
  refine G_callV (pc := 19) (mc1 := 0) (ms1 := 0) (ci := 1) (mj := mX1_restAct) (vs := []) dX1_goRest_19 rfl rfl cm_X1_restAct wf_173 wf_66 wf_67 rfl (Nat.le_of_ble_eq_true rfl) (Nat.le_of_ble_eq_true rfl) (Nat.le_of_ble_eq_true rfl) (Nat.le_of_ble_eq_true rfl) (s382_X1_restAct  (d + 1)  ) ?_
  rintro _ _ ⟨rfl, rfl⟩
  dsimp only [Option.toList, List.cons_append, List.nil_append]
  refine G_callV (pc := 22) (mc1 := 0) (ms1 := 0) (ci := 1) (mj := mX1_tell) (vs := [_]) dX1_goRest_22 rfl rfl cm_X1_tell wf_69 wf_71 wf_72 rfl (Nat.le_of_ble_eq_true rfl) (Nat.le_of_ble_eq_true rfl) (Nat.le_of_ble_eq_true rfl) (Nat.le_of_ble_eq_true rfl) (s383_X1_tell  d  ) ?_
  rintro _ _ ⟨rfl, rfl⟩
  dsimp only [Option.toList, List.cons_append, List.nil_append]
  refine G_aload_n (pc := 25) rfl dX1_goRest_25 ?_
  refine G_callV (pc := 26) (mc1 := 0) (ms1 := 0) (ci := 1) (mj := mX1_melt) (vs := []) dX1_goRest_26 rfl rfl cm_X1_melt wf_73 wf_75 wf_76 rfl (Nat.le_of_ble_eq_true rfl) (Nat.le_of_ble_eq_true rfl) (Nat.le_of_ble_eq_true rfl) (Nat.le_of_ble_eq_true rfl) (s385_X1_melt  (d + 1)  ) ?_
  rintro _ _ ⟨rfl, rfl⟩
  dsimp only [Option.toList, List.cons_append, List.nil_append]
  refine G_iadd (pc := 29) (z := 0) (by decide) dX1_goRest_29 ?_
  refine G_iadd (pc := 30) (z := 0) (by decide) dX1_goRest_30 ?_
  refine G_istore_n (pc := 31) (L1 := [some (.ref 19), some (.int 13), some (.int 0), some (.int 7)]) rfl rfl (by decide) dX1_goRest_31 ?_
  refine G_iinc (pc := 32) (v := 1) (w := 8) (L1 := [some (.ref 19), some (.int 13), some (.int 0), some (.int 8)]) (by decide) rfl rfl (by decide) rfl (by decide) dX1_goRest_32 ?_
  refine G_goto (pc := 35) (tgt := 4) (by decide) dX1_goRest_35 ?_
  refine G_iload_n (pc := 4) rfl dX1_goRest_4 ?_
  refine G_iload_n (pc := 5) rfl dX1_goRest_5 ?_
  refine G_icmp_ge (pc := 6) (tgt := 38) (by decide) dX1_goRest_6 (fun z => absurd z (by decide)) (fun _ => ?_)
  refine G_aload_n (pc := 9) rfl dX1_goRest_9 ?_
  refine G_callV (pc := 10) (mc1 := 0) (ms1 := 0) (ci := 1) (mj := mX1_isOver) (vs := []) dX1_goRest_10 rfl rfl cm_X1_isOver wf_172 wf_17 wf_18 rfl (Nat.le_of_ble_eq_true rfl) (Nat.le_of_ble_eq_true rfl) (Nat.le_of_ble_eq_true rfl) (Nat.le_of_ble_eq_true rfl) (s386_X1_isOver  (d + 1)  ) ?_
  rintro _ _ ⟨rfl, rfl⟩
  dsimp only [Option.toList, List.cons_append, List.nil_append]
  refine G_if_ne (pc := 13) (tgt := 38) (by decide) dX1_goRest_13 (fun z => absurd (by decide) z) (fun _ => ?_)
  refine G_iload_n (pc := 16) rfl dX1_goRest_16 ?_
  refine G_aload_n (pc := 17) rfl dX1_goRest_17 ?_
  refine G_aload_n (pc := 18) rfl dX1_goRest_18 ?_
  refine G_callV (pc := 19) (mc1 := 0) (ms1 := 0) (ci := 1) (mj := mX1_restAct) (vs := []) dX1_goRest_19 rfl rfl cm_X1_restAct wf_173 wf_66 wf_67 rfl (Nat.le_of_ble_eq_true rfl) (Nat.le_of_ble_eq_true rfl) (Nat.le_of_ble_eq_true rfl) (Nat.le_of_ble_eq_true rfl) (s387_X1_restAct  (d + 1)  ) ?_
  rintro _ _ ⟨rfl, rfl⟩
  dsimp only [Option.toList, List.cons_append, List.nil_append]
  refine G_callV (pc := 22) (mc1 := 0) (ms1 := 0) (ci := 1) (mj := mX1_tell) (vs := [_]) dX1_goRest_22 rfl rfl cm_X1_tell wf_69 wf_71 wf_72 rfl (Nat.le_of_ble_eq_true rfl) (Nat.le_of_ble_eq_true rfl) (Nat.le_of_ble_eq_true rfl) (Nat.le_of_ble_eq_true rfl) (s388_X1_tell  d  ) ?_
  rintro _ _ ⟨rfl, rfl⟩
  dsimp only [Option.toList, List.cons_append, List.nil_append]
  refine G_aload_n (pc := 25) rfl dX1_goRest_25 ?_
  refine G_callV (pc := 26) (mc1 := 0) (ms1 := 0) (ci := 1) (mj := mX1_melt) (vs := []) dX1_goRest_26 rfl rfl cm_X1_melt wf_73 wf_75 wf_76 rfl (Nat.le_of_ble_eq_true rfl) (Nat.le_of_ble_eq_true rfl) (Nat.le_of_ble_eq_true rfl) (Nat.le_of_ble_eq_true rfl) (s390_X1_melt  (d + 1)  ) ?_
  rintro _ _ ⟨rfl, rfl⟩
  dsimp only [Option.toList, List.cons_append, List.nil_append]
  refine G_iadd (pc := 29) (z := 0) (by decide) dX1_goRest_29 ?_
  refine G_iadd (pc := 30) (z := 0) (by decide) dX1_goRest_30 ?_
  refine G_istore_n (pc := 31) (L1 := [some (.ref 19), some (.int 13), some (.int 0), some (.int 8)]) rfl rfl (by decide) dX1_goRest_31 ?_
  refine G_iinc (pc := 32) (v := 1) (w := 9) (L1 := [some (.ref 19), some (.int 13), some (.int 0), some (.int 9)]) (by decide) rfl rfl (by decide) rfl (by decide) dX1_goRest_32 ?_
  refine G_goto (pc := 35) (tgt := 4) (by decide) dX1_goRest_35 ?_
  refine G_iload_n (pc := 4) rfl dX1_goRest_4 ?_
  refine G_iload_n (pc := 5) rfl dX1_goRest_5 ?_
  refine G_icmp_ge (pc := 6) (tgt := 38) (by decide) dX1_goRest_6 (fun z => absurd z (by decide)) (fun _ => ?_)
  refine G_aload_n (pc := 9) rfl dX1_goRest_9 ?_
  refine G_callV (pc := 10) (mc1 := 0) (ms1 := 0) (ci := 1) (mj := mX1_isOver) (vs := []) dX1_goRest_10 rfl rfl cm_X1_isOver wf_172 wf_17 wf_18 rfl (Nat.le_of_ble_eq_true rfl) (Nat.le_of_ble_eq_true rfl) (Nat.le_of_ble_eq_true rfl) (Nat.le_of_ble_eq_true rfl) (s391_X1_isOver  (d + 1)  ) ?_
  rintro _ _ ⟨rfl, rfl⟩
  dsimp only [Option.toList, List.cons_append, List.nil_append]
  refine G_if_ne (pc := 13) (tgt := 38) (by decide) dX1_goRest_13 (fun z => absurd (by decide) z) (fun _ => ?_)
  refine G_iload_n (pc := 16) rfl dX1_goRest_16 ?_
  refine G_aload_n (pc := 17) rfl dX1_goRest_17 ?_
  refine G_aload_n (pc := 18) rfl dX1_goRest_18 ?_
  refine G_callV (pc := 19) (mc1 := 0) (ms1 := 0) (ci := 1) (mj := mX1_restAct) (vs := []) dX1_goRest_19 rfl rfl cm_X1_restAct wf_173 wf_66 wf_67 rfl (Nat.le_of_ble_eq_true rfl) (Nat.le_of_ble_eq_true rfl) (Nat.le_of_ble_eq_true rfl) (Nat.le_of_ble_eq_true rfl) (s392_X1_restAct  (d + 1)  ) ?_
  rintro _ _ ⟨rfl, rfl⟩
  dsimp only [Option.toList, List.cons_append, List.nil_append]
  refine G_callV (pc := 22) (mc1 := 0) (ms1 := 0) (ci := 1) (mj := mX1_tell) (vs := [_]) dX1_goRest_22 rfl rfl cm_X1_tell wf_69 wf_71 wf_72 rfl (Nat.le_of_ble_eq_true rfl) (Nat.le_of_ble_eq_true rfl) (Nat.le_of_ble_eq_true rfl) (Nat.le_of_ble_eq_true rfl) (s393_X1_tell  d  ) ?_
  rintro _ _ ⟨rfl, rfl⟩
  dsimp only [Option.toList, List.cons_append, List.nil_append]
  refine G_aload_n (pc := 25) rfl dX1_goRest_25 ?_
  refine G_callV (pc := 26) (mc1 := 0) (ms1 := 0) (ci := 1) (mj := mX1_melt) (vs := []) dX1_goRest_26 rfl rfl cm_X1_melt wf_73 wf_75 wf_76 rfl (Nat.le_of_ble_eq_true rfl) (Nat.le_of_ble_eq_true rfl) (Nat.le_of_ble_eq_true rfl) (Nat.le_of_ble_eq_true rfl) (s395_X1_melt  (d + 1)  ) ?_
  rintro _ _ ⟨rfl, rfl⟩
  dsimp only [Option.toList, List.cons_append, List.nil_append]
  refine G_iadd (pc := 29) (z := 0) (by decide) dX1_goRest_29 ?_
  refine G_iadd (pc := 30) (z := 0) (by decide) dX1_goRest_30 ?_
  refine G_istore_n (pc := 31) (L1 := [some (.ref 19), some (.int 13), some (.int 0), some (.int 9)]) rfl rfl (by decide) dX1_goRest_31 ?_
  refine G_iinc (pc := 32) (v := 1) (w := 10) (L1 := [some (.ref 19), some (.int 13), some (.int 0), some (.int 10)]) (by decide) rfl rfl (by decide) rfl (by decide) dX1_goRest_32 ?_
  refine G_goto (pc := 35) (tgt := 4) (by decide) dX1_goRest_35 ?_
  refine G_iload_n (pc := 4) rfl dX1_goRest_4 ?_
  refine G_iload_n (pc := 5) rfl dX1_goRest_5 ?_
  refine G_icmp_ge (pc := 6) (tgt := 38) (by decide) dX1_goRest_6 (fun z => absurd z (by decide)) (fun _ => ?_)
  refine G_aload_n (pc := 9) rfl dX1_goRest_9 ?_
  refine G_callV (pc := 10) (mc1 := 0) (ms1 := 0) (ci := 1) (mj := mX1_isOver) (vs := []) dX1_goRest_10 rfl rfl cm_X1_isOver wf_172 wf_17 wf_18 rfl (Nat.le_of_ble_eq_true rfl) (Nat.le_of_ble_eq_true rfl) (Nat.le_of_ble_eq_true rfl) (Nat.le_of_ble_eq_true rfl) (s396_X1_isOver  (d + 1)  ) ?_
  rintro _ _ ⟨rfl, rfl⟩
  dsimp only [Option.toList, List.cons_append, List.nil_append]
  refine G_if_ne (pc := 13) (tgt := 38) (by decide) dX1_goRest_13 (fun z => absurd (by decide) z) (fun _ => ?_)
  refine G_iload_n (pc := 16) rfl dX1_goRest_16 ?_
  refine G_aload_n (pc := 17) rfl dX1_goRest_17 ?_
  refine G_aload_n (pc := 18) rfl dX1_goRest_18 ?_
  refine G_callV (pc := 19) (mc1 := 0) (ms1 := 0) (ci := 1) (mj := mX1_restAct) (vs := []) dX1_goRest_19 rfl rfl cm_X1_restAct wf_173 wf_66 wf_67 rfl (Nat.le_of_ble_eq_true rfl) (Nat.le_of_ble_eq_true rfl) (Nat.le_of_ble_eq_true rfl) (Nat.le_of_ble_eq_true rfl) (s397_X1_restAct  (d + 1)  ) ?_
  rintro _ _ ⟨rfl, rfl⟩
  dsimp only [Option.toList, List.cons_append, List.nil_append]
  refine G_callV (pc := 22) (mc1 := 0) (ms1 := 0) (ci := 1) (mj := mX1_tell) (vs := [_]) dX1_goRest_22 rfl rfl cm_X1_tell wf_69 wf_71 wf_72 rfl (Nat.le_of_ble_eq_true rfl) (Nat.le_of_ble_eq_true rfl) (Nat.le_of_ble_eq_true rfl) (Nat.le_of_ble_eq_true rfl) (s398_X1_tell  d  ) ?_
  rintro _ _ ⟨rfl, rfl⟩
  dsimp only [Option.toList, List.cons_append, List.nil_append]
  refine G_aload_n (pc := 25) rfl dX1_goRest_25 ?_
  refine G_callV (pc := 26) (mc1 := 0) (ms1 := 0) (ci := 1) (mj := mX1_melt) (vs := []) dX1_goRest_26 rfl rfl cm_X1_melt wf_73 wf_75 wf_76 rfl (Nat.le_of_ble_eq_true rfl) (Nat.le_of_ble_eq_true rfl) (Nat.le_of_ble_eq_true rfl) (Nat.le_of_ble_eq_true rfl) (s400_X1_melt  (d + 1)  ) ?_
  rintro _ _ ⟨rfl, rfl⟩
  dsimp only [Option.toList, List.cons_append, List.nil_append]
  refine G_iadd (pc := 29) (z := 0) (by decide) dX1_goRest_29 ?_
  refine G_iadd (pc := 30) (z := 0) (by decide) dX1_goRest_30 ?_
  refine G_istore_n (pc := 31) (L1 := [some (.ref 19), some (.int 13), some (.int 0), some (.int 10)]) rfl rfl (by decide) dX1_goRest_31 ?_
  refine G_iinc (pc := 32) (v := 1) (w := 11) (L1 := [some (.ref 19), some (.int 13), some (.int 0), some (.int 11)]) (by decide) rfl rfl (by decide) rfl (by decide) dX1_goRest_32 ?_
  refine G_goto (pc := 35) (tgt := 4) (by decide) dX1_goRest_35 ?_
  refine G_iload_n (pc := 4) rfl dX1_goRest_4 ?_
  refine G_iload_n (pc := 5) rfl dX1_goRest_5 ?_
  refine G_icmp_ge (pc := 6) (tgt := 38) (by decide) dX1_goRest_6 (fun z => absurd z (by decide)) (fun _ => ?_)
  refine G_aload_n (pc := 9) rfl dX1_goRest_9 ?_
  refine G_callV (pc := 10) (mc1 := 0) (ms1 := 0) (ci := 1) (mj := mX1_isOver) (vs := []) dX1_goRest_10 rfl rfl cm_X1_isOver wf_172 wf_17 wf_18 rfl (Nat.le_of_ble_eq_true rfl) (Nat.le_of_ble_eq_true rfl) (Nat.le_of_ble_eq_true rfl) (Nat.le_of_ble_eq_true rfl) (s401_X1_isOver  (d + 1)  ) ?_
  rintro _ _ ⟨rfl, rfl⟩
  dsimp only [Option.toList, List.cons_append, List.nil_append]
  refine G_if_ne (pc := 13) (tgt := 38) (by decide) dX1_goRest_13 (fun z => absurd (by decide) z) (fun _ => ?_)
  refine G_iload_n (pc := 16) rfl dX1_goRest_16 ?_
  refine G_aload_n (pc := 17) rfl dX1_goRest_17 ?_
  refine G_aload_n (pc := 18) rfl dX1_goRest_18 ?_
  refine G_callV (pc := 19) (mc1 := 0) (ms1 := 0) (ci := 1) (mj := mX1_restAct) (vs := []) dX1_goRest_19 rfl rfl cm_X1_restAct wf_173 wf_66 wf_67 rfl (Nat.le_of_ble_eq_true rfl) (Nat.le_of_ble_eq_true rfl) (Nat.le_of_ble_eq_true rfl) (Nat.le_of_ble_eq_true rfl) (s402_X1_restAct  (d + 1)  ) ?_
  rintro _ _ ⟨rfl, rfl⟩
  dsimp only [Option.toList, List.cons_append, List.nil_append]
  refine G_callV (pc := 22) (mc1 := 0) (ms1 := 0) (ci := 1) (mj := mX1_tell) (vs := [_]) dX1_goRest_22 rfl rfl cm_X1_tell wf_69 wf_71 wf_72 rfl (Nat.le_of_ble_eq_true rfl) (Nat.le_of_ble_eq_true rfl) (Nat.le_of_ble_eq_true rfl) (Nat.le_of_ble_eq_true rfl) (s403_X1_tell  d  ) ?_
  rintro _ _ ⟨rfl, rfl⟩
  dsimp only [Option.toList, List.cons_append, List.nil_append]
  refine G_aload_n (pc := 25) rfl dX1_goRest_25 ?_
  refine G_callV (pc := 26) (mc1 := 0) (ms1 := 0) (ci := 1) (mj := mX1_melt) (vs := []) dX1_goRest_26 rfl rfl cm_X1_melt wf_73 wf_75 wf_76 rfl (Nat.le_of_ble_eq_true rfl) (Nat.le_of_ble_eq_true rfl) (Nat.le_of_ble_eq_true rfl) (Nat.le_of_ble_eq_true rfl) (s405_X1_melt  (d + 1)  ) ?_
  rintro _ _ ⟨rfl, rfl⟩
  dsimp only [Option.toList, List.cons_append, List.nil_append]
  refine G_iadd (pc := 29) (z := 0) (by decide) dX1_goRest_29 ?_
  refine G_iadd (pc := 30) (z := 0) (by decide) dX1_goRest_30 ?_
  refine G_istore_n (pc := 31) (L1 := [some (.ref 19), some (.int 13), some (.int 0), some (.int 11)]) rfl rfl (by decide) dX1_goRest_31 ?_
  refine G_iinc (pc := 32) (v := 1) (w := 12) (L1 := [some (.ref 19), some (.int 13), some (.int 0), some (.int 12)]) (by decide) rfl rfl (by decide) rfl (by decide) dX1_goRest_32 ?_
  refine G_goto (pc := 35) (tgt := 4) (by decide) dX1_goRest_35 ?_
  refine G_iload_n (pc := 4) rfl dX1_goRest_4 ?_
  refine G_iload_n (pc := 5) rfl dX1_goRest_5 ?_
  refine G_icmp_ge (pc := 6) (tgt := 38) (by decide) dX1_goRest_6 (fun z => absurd z (by decide)) (fun _ => ?_)
  refine G_aload_n (pc := 9) rfl dX1_goRest_9 ?_
  refine G_callV (pc := 10) (mc1 := 0) (ms1 := 0) (ci := 1) (mj := mX1_isOver) (vs := []) dX1_goRest_10 rfl rfl cm_X1_isOver wf_172 wf_17 wf_18 rfl (Nat.le_of_ble_eq_true rfl) (Nat.le_of_ble_eq_true rfl) (Nat.le_of_ble_eq_true rfl) (Nat.le_of_ble_eq_true rfl) (s406_X1_isOver  (d + 1)  ) ?_
  rintro _ _ ⟨rfl, rfl⟩
  dsimp only [Option.toList, List.cons_append, List.nil_append]
  refine G_if_ne (pc := 13) (tgt := 38) (by decide) dX1_goRest_13 (fun _ => ?_) (fun z => absurd z (by decide))
  refine G_iload_n (pc := 38) rfl dX1_goRest_38 ?_
  exact G_iret (pc := 39) (Nat.le_of_ble_eq_true rfl) (Nat.le_of_ble_eq_true rfl) rfl dX1_goRest_39 ⟨rfl, rfl⟩
set_option maxRecDepth 100000 in
set_option maxHeartbeats 4000000 in
theorem s432_X1_goRest  (d : Nat)   : G (d + 2) mX1_goRest 0 0 0 0 0 (gent 4 [.ref 19, .int 14]) [] SH0 RF0 (gup (gup (gcp I0 24 34 (0 : Int32).toNatClampNeg (0 : Int32).toNatClampNeg (6 : Int32).toNatClampNeg) 34 6 0) 34 7 0) (fun r h => r = some (.int 0) ∧ h = (SH0, RF0, (gup (gup (gup (gup (gup (gup (gup (gup (gup (gup (gup (gup (gup (gup (gcp I0 24 34 (0 : Int32).toNatClampNeg (0 : Int32).toNatClampNeg (6 : Int32).toNatClampNeg) 34 6 0) 34 7 0) 19 1 1) 19 1 2) 19 1 3) 19 1 4) 19 1 5) 19 1 6) 19 1 7) 19 1 8) 19 1 9) 19 1 10) 19 1 11) 19 1 12))) := by
  refine G_iconst (pc := 0) (v := 0) (by decide) dX1_goRest_0 ?_
  refine G_istore_n (pc := 1) (L1 := [some (.ref 19), some (.int 14), some (.int 0), none]) rfl rfl (by decide) dX1_goRest_1 ?_
  refine G_iconst (pc := 2) (v := 0) (by decide) dX1_goRest_2 ?_
  refine G_istore_n (pc := 3) (L1 := [some (.ref 19), some (.int 14), some (.int 0), some (.int 0)]) rfl rfl (by decide) dX1_goRest_3 ?_
  refine G_iload_n (pc := 4) rfl dX1_goRest_4 ?_
  refine G_iload_n (pc := 5) rfl dX1_goRest_5 ?_
  refine G_icmp_ge (pc := 6) (tgt := 38) (by decide) dX1_goRest_6 (fun z => absurd z (by decide)) (fun _ => ?_)
  refine G_aload_n (pc := 9) rfl dX1_goRest_9 ?_
  refine G_callV (pc := 10) (mc1 := 0) (ms1 := 0) (ci := 1) (mj := mX1_isOver) (vs := []) dX1_goRest_10 rfl rfl cm_X1_isOver wf_172 wf_17 wf_18 rfl (Nat.le_of_ble_eq_true rfl) (Nat.le_of_ble_eq_true rfl) (Nat.le_of_ble_eq_true rfl) (Nat.le_of_ble_eq_true rfl) (s350_X1_isOver  (d + 1)  ) ?_
  rintro _ _ ⟨rfl, rfl⟩
  dsimp only [Option.toList, List.cons_append, List.nil_append]
  refine G_if_ne (pc := 13) (tgt := 38) (by decide) dX1_goRest_13 (fun z => absurd (by decide) z) (fun _ => ?_)
  refine G_iload_n (pc := 16) rfl dX1_goRest_16 ?_
  refine G_aload_n (pc := 17) rfl dX1_goRest_17 ?_
  refine G_aload_n (pc := 18) rfl dX1_goRest_18 ?_
  refine G_callV (pc := 19) (mc1 := 0) (ms1 := 0) (ci := 1) (mj := mX1_restAct) (vs := []) dX1_goRest_19 rfl rfl cm_X1_restAct wf_173 wf_66 wf_67 rfl (Nat.le_of_ble_eq_true rfl) (Nat.le_of_ble_eq_true rfl) (Nat.le_of_ble_eq_true rfl) (Nat.le_of_ble_eq_true rfl) (s351_X1_restAct  (d + 1)  ) ?_
  rintro _ _ ⟨rfl, rfl⟩
  dsimp only [Option.toList, List.cons_append, List.nil_append]
  refine G_callV (pc := 22) (mc1 := 0) (ms1 := 0) (ci := 1) (mj := mX1_tell) (vs := [_]) dX1_goRest_22 rfl rfl cm_X1_tell wf_69 wf_71 wf_72 rfl (Nat.le_of_ble_eq_true rfl) (Nat.le_of_ble_eq_true rfl) (Nat.le_of_ble_eq_true rfl) (Nat.le_of_ble_eq_true rfl) (s145_X1_tell  d  ) ?_
  rintro _ _ ⟨rfl, rfl⟩
  dsimp only [Option.toList, List.cons_append, List.nil_append]
  refine G_aload_n (pc := 25) rfl dX1_goRest_25 ?_
  refine G_callV (pc := 26) (mc1 := 0) (ms1 := 0) (ci := 1) (mj := mX1_melt) (vs := []) dX1_goRest_26 rfl rfl cm_X1_melt wf_73 wf_75 wf_76 rfl (Nat.le_of_ble_eq_true rfl) (Nat.le_of_ble_eq_true rfl) (Nat.le_of_ble_eq_true rfl) (Nat.le_of_ble_eq_true rfl) (s147_X1_melt  (d + 1)  ) ?_
  rintro _ _ ⟨rfl, rfl⟩
  dsimp only [Option.toList, List.cons_append, List.nil_append]
  refine G_iadd (pc := 29) (z := 0) (by decide) dX1_goRest_29 ?_
  refine G_iadd (pc := 30) (z := 0) (by decide) dX1_goRest_30 ?_
  refine G_istore_n (pc := 31) (L1 := [some (.ref 19), some (.int 14), some (.int 0), some (.int 0)]) rfl rfl (by decide) dX1_goRest_31 ?_
  refine G_iinc (pc := 32) (v := 1) (w := 1) (L1 := [some (.ref 19), some (.int 14), some (.int 0), some (.int 1)]) (by decide) rfl rfl (by decide) rfl (by decide) dX1_goRest_32 ?_
  refine G_goto (pc := 35) (tgt := 4) (by decide) dX1_goRest_35 ?_
  refine G_iload_n (pc := 4) rfl dX1_goRest_4 ?_
  refine G_iload_n (pc := 5) rfl dX1_goRest_5 ?_
  refine G_icmp_ge (pc := 6) (tgt := 38) (by decide) dX1_goRest_6 (fun z => absurd z (by decide)) (fun _ => ?_)
  refine G_aload_n (pc := 9) rfl dX1_goRest_9 ?_
  refine G_callV (pc := 10) (mc1 := 0) (ms1 := 0) (ci := 1) (mj := mX1_isOver) (vs := []) dX1_goRest_10 rfl rfl cm_X1_isOver wf_172 wf_17 wf_18 rfl (Nat.le_of_ble_eq_true rfl) (Nat.le_of_ble_eq_true rfl) (Nat.le_of_ble_eq_true rfl) (Nat.le_of_ble_eq_true rfl) (s155_X1_isOver  (d + 1)  ) ?_
  rintro _ _ ⟨rfl, rfl⟩
  dsimp only [Option.toList, List.cons_append, List.nil_append]
  refine G_if_ne (pc := 13) (tgt := 38) (by decide) dX1_goRest_13 (fun z => absurd (by decide) z) (fun _ => ?_)
  refine G_iload_n (pc := 16) rfl dX1_goRest_16 ?_
  refine G_aload_n (pc := 17) rfl dX1_goRest_17 ?_
  refine G_aload_n (pc := 18) rfl dX1_goRest_18 ?_
  refine G_callV (pc := 19) (mc1 := 0) (ms1 := 0) (ci := 1) (mj := mX1_restAct) (vs := []) dX1_goRest_19 rfl rfl cm_X1_restAct wf_173 wf_66 wf_67 rfl (Nat.le_of_ble_eq_true rfl) (Nat.le_of_ble_eq_true rfl) (Nat.le_of_ble_eq_true rfl) (Nat.le_of_ble_eq_true rfl) (s352_X1_restAct  (d + 1)  ) ?_
  rintro _ _ ⟨rfl, rfl⟩
  dsimp only [Option.toList, List.cons_append, List.nil_append]
  refine G_callV (pc := 22) (mc1 := 0) (ms1 := 0) (ci := 1) (mj := mX1_tell) (vs := [_]) dX1_goRest_22 rfl rfl cm_X1_tell wf_69 wf_71 wf_72 rfl (Nat.le_of_ble_eq_true rfl) (Nat.le_of_ble_eq_true rfl) (Nat.le_of_ble_eq_true rfl) (Nat.le_of_ble_eq_true rfl) (s353_X1_tell  d  ) ?_
  rintro _ _ ⟨rfl, rfl⟩
  dsimp only [Option.toList, List.cons_append, List.nil_append]
  refine G_aload_n (pc := 25) rfl dX1_goRest_25 ?_
  refine G_callV (pc := 26) (mc1 := 0) (ms1 := 0) (ci := 1) (mj := mX1_melt) (vs := []) dX1_goRest_26 rfl rfl cm_X1_melt wf_73 wf_75 wf_76 rfl (Nat.le_of_ble_eq_true rfl) (Nat.le_of_ble_eq_true rfl) (Nat.le_of_ble_eq_true rfl) (Nat.le_of_ble_eq_true rfl) (s355_X1_melt  (d + 1)  ) ?_
  rintro _ _ ⟨rfl, rfl⟩
  dsimp only [Option.toList, List.cons_append, List.nil_append]
  refine G_iadd (pc := 29) (z := 0) (by decide) dX1_goRest_29 ?_
  refine G_iadd (pc := 30) (z := 0) (by decide) dX1_goRest_30 ?_
  refine G_istore_n (pc := 31) (L1 := [some (.ref 19), some (.int 14), some (.int 0), some (.int 1)]) rfl rfl (by decide) dX1_goRest_31 ?_
  refine G_iinc (pc := 32) (v := 1) (w := 2) (L1 := [some (.ref 19), some (.int 14), some (.int 0), some (.int 2)]) (by decide) rfl rfl (by decide) rfl (by decide) dX1_goRest_32 ?_
  refine G_goto (pc := 35) (tgt := 4) (by decide) dX1_goRest_35 ?_
  refine G_iload_n (pc := 4) rfl dX1_goRest_4 ?_
  refine G_iload_n (pc := 5) rfl dX1_goRest_5 ?_
  refine G_icmp_ge (pc := 6) (tgt := 38) (by decide) dX1_goRest_6 (fun z => absurd z (by decide)) (fun _ => ?_)
  refine G_aload_n (pc := 9) rfl dX1_goRest_9 ?_
  refine G_callV (pc := 10) (mc1 := 0) (ms1 := 0) (ci := 1) (mj := mX1_isOver) (vs := []) dX1_goRest_10 rfl rfl cm_X1_isOver wf_172 wf_17 wf_18 rfl (Nat.le_of_ble_eq_true rfl) (Nat.le_of_ble_eq_true rfl) (Nat.le_of_ble_eq_true rfl) (Nat.le_of_ble_eq_true rfl) (s356_X1_isOver  (d + 1)  ) ?_
  rintro _ _ ⟨rfl, rfl⟩
  dsimp only [Option.toList, List.cons_append, List.nil_append]
  refine G_if_ne (pc := 13) (tgt := 38) (by decide) dX1_goRest_13 (fun z => absurd (by decide) z) (fun _ => ?_)
  refine G_iload_n (pc := 16) rfl dX1_goRest_16 ?_
  refine G_aload_n (pc := 17) rfl dX1_goRest_17 ?_
  refine G_aload_n (pc := 18) rfl dX1_goRest_18 ?_
  refine G_callV (pc := 19) (mc1 := 0) (ms1 := 0) (ci := 1) (mj := mX1_restAct) (vs := []) dX1_goRest_19 rfl rfl cm_X1_restAct wf_173 wf_66 wf_67 rfl (Nat.le_of_ble_eq_true rfl) (Nat.le_of_ble_eq_true rfl) (Nat.le_of_ble_eq_true rfl) (Nat.le_of_ble_eq_true rfl) (s357_X1_restAct  (d + 1)  ) ?_
  rintro _ _ ⟨rfl, rfl⟩
  dsimp only [Option.toList, List.cons_append, List.nil_append]
  refine G_callV (pc := 22) (mc1 := 0) (ms1 := 0) (ci := 1) (mj := mX1_tell) (vs := [_]) dX1_goRest_22 rfl rfl cm_X1_tell wf_69 wf_71 wf_72 rfl (Nat.le_of_ble_eq_true rfl) (Nat.le_of_ble_eq_true rfl) (Nat.le_of_ble_eq_true rfl) (Nat.le_of_ble_eq_true rfl) (s358_X1_tell  d  ) ?_
  rintro _ _ ⟨rfl, rfl⟩
  dsimp only [Option.toList, List.cons_append, List.nil_append]
  refine G_aload_n (pc := 25) rfl dX1_goRest_25 ?_
  refine G_callV (pc := 26) (mc1 := 0) (ms1 := 0) (ci := 1) (mj := mX1_melt) (vs := []) dX1_goRest_26 rfl rfl cm_X1_melt wf_73 wf_75 wf_76 rfl (Nat.le_of_ble_eq_true rfl) (Nat.le_of_ble_eq_true rfl) (Nat.le_of_ble_eq_true rfl) (Nat.le_of_ble_eq_true rfl) (s360_X1_melt  (d + 1)  ) ?_
  rintro _ _ ⟨rfl, rfl⟩
  dsimp only [Option.toList, List.cons_append, List.nil_append]
  refine G_iadd (pc := 29) (z := 0) (by decide) dX1_goRest_29 ?_
  refine G_iadd (pc := 30) (z := 0) (by decide) dX1_goRest_30 ?_
  refine G_istore_n (pc := 31) (L1 := [some (.ref 19), some (.int 14), some (.int 0), some (.int 2)]) rfl rfl (by decide) dX1_goRest_31 ?_
  refine G_iinc (pc := 32) (v := 1) (w := 3) (L1 := [some (.ref 19), some (.int 14), some (.int 0), some (.int 3)]) (by decide) rfl rfl (by decide) rfl (by decide) dX1_goRest_32 ?_
  refine G_goto (pc := 35) (tgt := 4) (by decide) dX1_goRest_35 ?_
  refine G_iload_n (pc := 4) rfl dX1_goRest_4 ?_
  refine G_iload_n (pc := 5) rfl dX1_goRest_5 ?_
  refine G_icmp_ge (pc := 6) (tgt := 38) (by decide) dX1_goRest_6 (fun z => absurd z (by decide)) (fun _ => ?_)
  refine G_aload_n (pc := 9) rfl dX1_goRest_9 ?_
  refine G_callV (pc := 10) (mc1 := 0) (ms1 := 0) (ci := 1) (mj := mX1_isOver) (vs := []) dX1_goRest_10 rfl rfl cm_X1_isOver wf_172 wf_17 wf_18 rfl (Nat.le_of_ble_eq_true rfl) (Nat.le_of_ble_eq_true rfl) (Nat.le_of_ble_eq_true rfl) (Nat.le_of_ble_eq_true rfl) (s361_X1_isOver  (d + 1)  ) ?_
  rintro _ _ ⟨rfl, rfl⟩
  dsimp only [Option.toList, List.cons_append, List.nil_append]
  refine G_if_ne (pc := 13) (tgt := 38) (by decide) dX1_goRest_13 (fun z => absurd (by decide) z) (fun _ => ?_)
  refine G_iload_n (pc := 16) rfl dX1_goRest_16 ?_
  refine G_aload_n (pc := 17) rfl dX1_goRest_17 ?_
  refine G_aload_n (pc := 18) rfl dX1_goRest_18 ?_
  refine G_callV (pc := 19) (mc1 := 0) (ms1 := 0) (ci := 1) (mj := mX1_restAct) (vs := []) dX1_goRest_19 rfl rfl cm_X1_restAct wf_173 wf_66 wf_67 rfl (Nat.le_of_ble_eq_true rfl) (Nat.le_of_ble_eq_true rfl) (Nat.le_of_ble_eq_true rfl) (Nat.le_of_ble_eq_true rfl) (s362_X1_restAct  (d + 1)  ) ?_
  rintro _ _ ⟨rfl, rfl⟩
  dsimp only [Option.toList, List.cons_append, List.nil_append]
  refine G_callV (pc := 22) (mc1 := 0) (ms1 := 0) (ci := 1) (mj := mX1_tell) (vs := [_]) dX1_goRest_22 rfl rfl cm_X1_tell wf_69 wf_71 wf_72 rfl (Nat.le_of_ble_eq_true rfl) (Nat.le_of_ble_eq_true rfl) (Nat.le_of_ble_eq_true rfl) (Nat.le_of_ble_eq_true rfl) (s363_X1_tell  d  ) ?_
  rintro _ _ ⟨rfl, rfl⟩
  dsimp only [Option.toList, List.cons_append, List.nil_append]
  refine G_aload_n (pc := 25) rfl dX1_goRest_25 ?_
  refine G_callV (pc := 26) (mc1 := 0) (ms1 := 0) (ci := 1) (mj := mX1_melt) (vs := []) dX1_goRest_26 rfl rfl cm_X1_melt wf_73 wf_75 wf_76 rfl (Nat.le_of_ble_eq_true rfl) (Nat.le_of_ble_eq_true rfl) (Nat.le_of_ble_eq_true rfl) (Nat.le_of_ble_eq_true rfl) (s365_X1_melt  (d + 1)  ) ?_
  rintro _ _ ⟨rfl, rfl⟩
  dsimp only [Option.toList, List.cons_append, List.nil_append]
  refine G_iadd (pc := 29) (z := 0) (by decide) dX1_goRest_29 ?_
  refine G_iadd (pc := 30) (z := 0) (by decide) dX1_goRest_30 ?_
  refine G_istore_n (pc := 31) (L1 := [some (.ref 19), some (.int 14), some (.int 0), some (.int 3)]) rfl rfl (by decide) dX1_goRest_31 ?_
  refine G_iinc (pc := 32) (v := 1) (w := 4) (L1 := [some (.ref 19), some (.int 14), some (.int 0), some (.int 4)]) (by decide) rfl rfl (by decide) rfl (by decide) dX1_goRest_32 ?_
  refine G_goto (pc := 35) (tgt := 4) (by decide) dX1_goRest_35 ?_
  refine G_iload_n (pc := 4) rfl dX1_goRest_4 ?_
  refine G_iload_n (pc := 5) rfl dX1_goRest_5 ?_
  refine G_icmp_ge (pc := 6) (tgt := 38) (by decide) dX1_goRest_6 (fun z => absurd z (by decide)) (fun _ => ?_)
  refine G_aload_n (pc := 9) rfl dX1_goRest_9 ?_
  refine G_callV (pc := 10) (mc1 := 0) (ms1 := 0) (ci := 1) (mj := mX1_isOver) (vs := []) dX1_goRest_10 rfl rfl cm_X1_isOver wf_172 wf_17 wf_18 rfl (Nat.le_of_ble_eq_true rfl) (Nat.le_of_ble_eq_true rfl) (Nat.le_of_ble_eq_true rfl) (Nat.le_of_ble_eq_true rfl) (s366_X1_isOver  (d + 1)  ) ?_
  rintro _ _ ⟨rfl, rfl⟩
  dsimp only [Option.toList, List.cons_append, List.nil_append]
  refine G_if_ne (pc := 13) (tgt := 38) (by decide) dX1_goRest_13 (fun z => absurd (by decide) z) (fun _ => ?_)
  refine G_iload_n (pc := 16) rfl dX1_goRest_16 ?_
  refine G_aload_n (pc := 17) rfl dX1_goRest_17 ?_
  refine G_aload_n (pc := 18) rfl dX1_goRest_18 ?_
  refine G_callV (pc := 19) (mc1 := 0) (ms1 := 0) (ci := 1) (mj := mX1_restAct) (vs := []) dX1_goRest_19 rfl rfl cm_X1_restAct wf_173 wf_66 wf_67 rfl (Nat.le_of_ble_eq_true rfl) (Nat.le_of_ble_eq_true rfl) (Nat.le_of_ble_eq_true rfl) (Nat.le_of_ble_eq_true rfl) (s367_X1_restAct  (d + 1)  ) ?_
  rintro _ _ ⟨rfl, rfl⟩
  dsimp only [Option.toList, List.cons_append, List.nil_append]
  refine G_callV (pc := 22) (mc1 := 0) (ms1 := 0) (ci := 1) (mj := mX1_tell) (vs := [_]) dX1_goRest_22 rfl rfl cm_X1_tell wf_69 wf_71 wf_72 rfl (Nat.le_of_ble_eq_true rfl) (Nat.le_of_ble_eq_true rfl) (Nat.le_of_ble_eq_true rfl) (Nat.le_of_ble_eq_true rfl) (s368_X1_tell  d  ) ?_
  rintro _ _ ⟨rfl, rfl⟩
  dsimp only [Option.toList, List.cons_append, List.nil_append]
  refine G_aload_n (pc := 25) rfl dX1_goRest_25 ?_
  refine G_callV (pc := 26) (mc1 := 0) (ms1 := 0) (ci := 1) (mj := mX1_melt) (vs := []) dX1_goRest_26 rfl rfl cm_X1_melt wf_73 wf_75 wf_76 rfl (Nat.le_of_ble_eq_true rfl) (Nat.le_of_ble_eq_true rfl) (Nat.le_of_ble_eq_true rfl) (Nat.le_of_ble_eq_true rfl) (s370_X1_melt  (d + 1)  ) ?_
  rintro _ _ ⟨rfl, rfl⟩
  dsimp only [Option.toList, List.cons_append, List.nil_append]
  refine G_iadd (pc := 29) (z := 0) (by decide) dX1_goRest_29 ?_
  refine G_iadd (pc := 30) (z := 0) (by decide) dX1_goRest_30 ?_
  refine G_istore_n (pc := 31) (L1 := [some (.ref 19), some (.int 14), some (.int 0), some (.int 4)]) rfl rfl (by decide) dX1_goRest_31 ?_
  refine G_iinc (pc := 32) (v := 1) (w := 5) (L1 := [some (.ref 19), some (.int 14), some (.int 0), some (.int 5)]) (by decide) rfl rfl (by decide) rfl (by decide) dX1_goRest_32 ?_
  refine G_goto (pc := 35) (tgt := 4) (by decide) dX1_goRest_35 ?_
  refine G_iload_n (pc := 4) rfl dX1_goRest_4 ?_
  refine G_iload_n (pc := 5) rfl dX1_goRest_5 ?_
  refine G_icmp_ge (pc := 6) (tgt := 38) (by decide) dX1_goRest_6 (fun z => absurd z (by decide)) (fun _ => ?_)
  refine G_aload_n (pc := 9) rfl dX1_goRest_9 ?_
  refine G_callV (pc := 10) (mc1 := 0) (ms1 := 0) (ci := 1) (mj := mX1_isOver) (vs := []) dX1_goRest_10 rfl rfl cm_X1_isOver wf_172 wf_17 wf_18 rfl (Nat.le_of_ble_eq_true rfl) (Nat.le_of_ble_eq_true rfl) (Nat.le_of_ble_eq_true rfl) (Nat.le_of_ble_eq_true rfl) (s371_X1_isOver  (d + 1)  ) ?_
  rintro _ _ ⟨rfl, rfl⟩
  dsimp only [Option.toList, List.cons_append, List.nil_append]
  refine G_if_ne (pc := 13) (tgt := 38) (by decide) dX1_goRest_13 (fun z => absurd (by decide) z) (fun _ => ?_)
  refine G_iload_n (pc := 16) rfl dX1_goRest_16 ?_
  refine G_aload_n (pc := 17) rfl dX1_goRest_17 ?_
  refine G_aload_n (pc := 18) rfl dX1_goRest_18 ?_
  refine G_callV (pc := 19) (mc1 := 0) (ms1 := 0) (ci := 1) (mj := mX1_restAct) (vs := []) dX1_goRest_19 rfl rfl cm_X1_restAct wf_173 wf_66 wf_67 rfl (Nat.le_of_ble_eq_true rfl) (Nat.le_of_ble_eq_true rfl) (Nat.le_of_ble_eq_true rfl) (Nat.le_of_ble_eq_true rfl) (s372_X1_restAct  (d + 1)  ) ?_
  rintro _ _ ⟨rfl, rfl⟩
  dsimp only [Option.toList, List.cons_append, List.nil_append]
  refine G_callV (pc := 22) (mc1 := 0) (ms1 := 0) (ci := 1) (mj := mX1_tell) (vs := [_]) dX1_goRest_22 rfl rfl cm_X1_tell wf_69 wf_71 wf_72 rfl (Nat.le_of_ble_eq_true rfl) (Nat.le_of_ble_eq_true rfl) (Nat.le_of_ble_eq_true rfl) (Nat.le_of_ble_eq_true rfl) (s373_X1_tell  d  ) ?_
  rintro _ _ ⟨rfl, rfl⟩
  dsimp only [Option.toList, List.cons_append, List.nil_append]
  refine G_aload_n (pc := 25) rfl dX1_goRest_25 ?_
  refine G_callV (pc := 26) (mc1 := 0) (ms1 := 0) (ci := 1) (mj := mX1_melt) (vs := []) dX1_goRest_26 rfl rfl cm_X1_melt wf_73 wf_75 wf_76 rfl (Nat.le_of_ble_eq_true rfl) (Nat.le_of_ble_eq_true rfl) (Nat.le_of_ble_eq_true rfl) (Nat.le_of_ble_eq_true rfl) (s375_X1_melt  (d + 1)  ) ?_
  rintro _ _ ⟨rfl, rfl⟩
  dsimp only [Option.toList, List.cons_append, List.nil_append]
  refine G_iadd (pc := 29) (z := 0) (by decide) dX1_goRest_29 ?_
  refine G_iadd (pc := 30) (z := 0) (by decide) dX1_goRest_30 ?_
  refine G_istore_n (pc := 31) (L1 := [some (.ref 19), some (.int 14), some (.int 0), some (.int 5)]) rfl rfl (by decide) dX1_goRest_31 ?_
  refine G_iinc (pc := 32) (v := 1) (w := 6) (L1 := [some (.ref 19), some (.int 14), some (.int 0), some (.int 6)]) (by decide) rfl rfl (by decide) rfl (by decide) dX1_goRest_32 ?_
  refine G_goto (pc := 35) (tgt := 4) (by decide) dX1_goRest_35 ?_
  refine G_iload_n (pc := 4) rfl dX1_goRest_4 ?_
  refine G_iload_n (pc := 5) rfl dX1_goRest_5 ?_
  refine G_icmp_ge (pc := 6) (tgt := 38) (by decide) dX1_goRest_6 (fun z => absurd z (by decide)) (fun _ => ?_)
  refine G_aload_n (pc := 9) rfl dX1_goRest_9 ?_
  refine G_callV (pc := 10) (mc1 := 0) (ms1 := 0) (ci := 1) (mj := mX1_isOver) (vs := []) dX1_goRest_10 rfl rfl cm_X1_isOver wf_172 wf_17 wf_18 rfl (Nat.le_of_ble_eq_true rfl) (Nat.le_of_ble_eq_true rfl) (Nat.le_of_ble_eq_true rfl) (Nat.le_of_ble_eq_true rfl) (s376_X1_isOver  (d + 1)  ) ?_
  rintro _ _ ⟨rfl, rfl⟩
  dsimp only [Option.toList, List.cons_append, List.nil_append]
  refine G_if_ne (pc := 13) (tgt := 38) (by decide) dX1_goRest_13 (fun z => absurd (by decide) z) (fun _ => ?_)
  refine G_iload_n (pc := 16) rfl dX1_goRest_16 ?_
  refine G_aload_n (pc := 17) rfl dX1_goRest_17 ?_
  refine G_aload_n (pc := 18) rfl dX1_goRest_18 ?_
  refine G_callV (pc := 19) (mc1 := 0) (ms1 := 0) (ci := 1) (mj := mX1_restAct) (vs := []) dX1_goRest_19 rfl rfl cm_X1_restAct wf_173 wf_66 wf_67 rfl (Nat.le_of_ble_eq_true rfl) (Nat.le_of_ble_eq_true rfl) (Nat.le_of_ble_eq_true rfl) (Nat.le_of_ble_eq_true rfl) (s377_X1_restAct  (d + 1)  ) ?_
  rintro _ _ ⟨rfl, rfl⟩
  dsimp only [Option.toList, List.cons_append, List.nil_append]
  refine G_callV (pc := 22) (mc1 := 0) (ms1 := 0) (ci := 1) (mj := mX1_tell) (vs := [_]) dX1_goRest_22 rfl rfl cm_X1_tell wf_69 wf_71 wf_72 rfl (Nat.le_of_ble_eq_true rfl) (Nat.le_of_ble_eq_true rfl) (Nat.le_of_ble_eq_true rfl) (Nat.le_of_ble_eq_true rfl) (s378_X1_tell  d  ) ?_
  rintro _ _ ⟨rfl, rfl⟩
  dsimp only [Option.toList, List.cons_append, List.nil_append]
  refine G_aload_n (pc := 25) rfl dX1_goRest_25 ?_
  refine G_callV (pc := 26) (mc1 := 0) (ms1 := 0) (ci := 1) (mj := mX1_melt) (vs := []) dX1_goRest_26 rfl rfl cm_X1_melt wf_73 wf_75 wf_76 rfl (Nat.le_of_ble_eq_true rfl) (Nat.le_of_ble_eq_true rfl) (Nat.le_of_ble_eq_true rfl) (Nat.le_of_ble_eq_true rfl) (s380_X1_melt  (d + 1)  ) ?_
  rintro _ _ ⟨rfl, rfl⟩
  dsimp only [Option.toList, List.cons_append, List.nil_append]
  refine G_iadd (pc := 29) (z := 0) (by decide) dX1_goRest_29 ?_
  refine G_iadd (pc := 30) (z := 0) (by decide) dX1_goRest_30 ?_
  refine G_istore_n (pc := 31) (L1 := [some (.ref 19), some (.int 14), some (.int 0), some (.int 6)]) rfl rfl (by decide) dX1_goRest_31 ?_
  refine G_iinc (pc := 32) (v := 1) (w := 7) (L1 := [some (.ref 19), some (.int 14), some (.int 0), some (.int 7)]) (by decide) rfl rfl (by decide) rfl (by decide) dX1_goRest_32 ?_
  refine G_goto (pc := 35) (tgt := 4) (by decide) dX1_goRest_35 ?_
  refine G_iload_n (pc := 4) rfl dX1_goRest_4 ?_
  refine G_iload_n (pc := 5) rfl dX1_goRest_5 ?_
  refine G_icmp_ge (pc := 6) (tgt := 38) (by decide) dX1_goRest_6 (fun z => absurd z (by decide)) (fun _ => ?_)
  refine G_aload_n (pc := 9) rfl dX1_goRest_9 ?_
  refine G_callV (pc := 10) (mc1 := 0) (ms1 := 0) (ci := 1) (mj := mX1_isOver) (vs := []) dX1_goRest_10 rfl rfl cm_X1_isOver wf_172 wf_17 wf_18 rfl (Nat.le_of_ble_eq_true rfl) (Nat.le_of_ble_eq_true rfl) (Nat.le_of_ble_eq_true rfl) (Nat.le_of_ble_eq_true rfl) (s381_X1_isOver  (d + 1)  ) ?_
  rintro _ _ ⟨rfl, rfl⟩
  dsimp only [Option.toList, List.cons_append, List.nil_append]
  refine G_if_ne (pc := 13) (tgt := 38) (by decide) dX1_goRest_13 (fun z => absurd (by decide) z) (fun _ => ?_)
  refine G_iload_n (pc := 16) rfl dX1_goRest_16 ?_
  refine G_aload_n (pc := 17) rfl dX1_goRest_17 ?_
  refine G_aload_n (pc := 18) rfl dX1_goRest_18 ?_
  refine G_callV (pc := 19) (mc1 := 0) (ms1 := 0) (ci := 1) (mj := mX1_restAct) (vs := []) dX1_goRest_19 rfl rfl cm_X1_restAct wf_173 wf_66 wf_67 rfl (Nat.le_of_ble_eq_true rfl) (Nat.le_of_ble_eq_true rfl) (Nat.le_of_ble_eq_true rfl) (Nat.le_of_ble_eq_true rfl) (s382_X1_restAct  (d + 1)  ) ?_
  rintro _ _ ⟨rfl, rfl⟩
  dsimp only [Option.toList, List.cons_append, List.nil_append]
  refine G_callV (pc := 22) (mc1 := 0) (ms1 := 0) (ci := 1) (mj := mX1_tell) (vs := [_]) dX1_goRest_22 rfl rfl cm_X1_tell wf_69 wf_71 wf_72 rfl (Nat.le_of_ble_eq_true rfl) (Nat.le_of_ble_eq_true rfl) (Nat.le_of_ble_eq_true rfl) (Nat.le_of_ble_eq_true rfl) (s383_X1_tell  d  ) ?_
  rintro _ _ ⟨rfl, rfl⟩
  dsimp only [Option.toList, List.cons_append, List.nil_append]
  refine G_aload_n (pc := 25) rfl dX1_goRest_25 ?_
  refine G_callV (pc := 26) (mc1 := 0) (ms1 := 0) (ci := 1) (mj := mX1_melt) (vs := []) dX1_goRest_26 rfl rfl cm_X1_melt wf_73 wf_75 wf_76 rfl (Nat.le_of_ble_eq_true rfl) (Nat.le_of_ble_eq_true rfl) (Nat.le_of_ble_eq_true rfl) (Nat.le_of_ble_eq_true rfl) (s385_X1_melt  (d + 1)  ) ?_
  rintro _ _ ⟨rfl, rfl⟩
  dsimp only [Option.toList, List.cons_append, List.nil_append]
  refine G_iadd (pc := 29) (z := 0) (by decide) dX1_goRest_29 ?_
  refine G_iadd (pc := 30) (z := 0) (by decide) dX1_goRest_30 ?_
  refine G_istore_n (pc := 31) (L1 := [some (.ref 19), some (.int 14), some (.int 0), some (.int 7)]) rfl rfl (by decide) dX1_goRest_31 ?_
  refine G_iinc (pc := 32) (v := 1) (w := 8) (L1 := [some (.ref 19), some (.int 14), some (.int 0), some (.int 8)]) (by decide) rfl rfl (by decide) rfl (by decide) dX1_goRest_32 ?_
  refine G_goto (pc := 35) (tgt := 4) (by decide) dX1_goRest_35 ?_
  refine G_iload_n (pc := 4) rfl dX1_goRest_4 ?_
  refine G_iload_n (pc := 5) rfl dX1_goRest_5 ?_
  refine G_icmp_ge (pc := 6) (tgt := 38) (by decide) dX1_goRest_6 (fun z => absurd z (by decide)) (fun _ => ?_)
  refine G_aload_n (pc := 9) rfl dX1_goRest_9 ?_
  refine G_callV (pc := 10) (mc1 := 0) (ms1 := 0) (ci := 1) (mj := mX1_isOver) (vs := []) dX1_goRest_10 rfl rfl cm_X1_isOver wf_172 wf_17 wf_18 rfl (Nat.le_of_ble_eq_true rfl) (Nat.le_of_ble_eq_true rfl) (Nat.le_of_ble_eq_true rfl) (Nat.le_of_ble_eq_true rfl) (s386_X1_isOver  (d + 1)  ) ?_
  rintro _ _ ⟨rfl, rfl⟩
  dsimp only [Option.toList, List.cons_append, List.nil_append]
  refine G_if_ne (pc := 13) (tgt := 38) (by decide) dX1_goRest_13 (fun z => absurd (by decide) z) (fun _ => ?_)
  refine G_iload_n (pc := 16) rfl dX1_goRest_16 ?_
  refine G_aload_n (pc := 17) rfl dX1_goRest_17 ?_
  refine G_aload_n (pc := 18) rfl dX1_goRest_18 ?_
  refine G_callV (pc := 19) (mc1 := 0) (ms1 := 0) (ci := 1) (mj := mX1_restAct) (vs := []) dX1_goRest_19 rfl rfl cm_X1_restAct wf_173 wf_66 wf_67 rfl (Nat.le_of_ble_eq_true rfl) (Nat.le_of_ble_eq_true rfl) (Nat.le_of_ble_eq_true rfl) (Nat.le_of_ble_eq_true rfl) (s387_X1_restAct  (d + 1)  ) ?_
  rintro _ _ ⟨rfl, rfl⟩
  dsimp only [Option.toList, List.cons_append, List.nil_append]
  refine G_callV (pc := 22) (mc1 := 0) (ms1 := 0) (ci := 1) (mj := mX1_tell) (vs := [_]) dX1_goRest_22 rfl rfl cm_X1_tell wf_69 wf_71 wf_72 rfl (Nat.le_of_ble_eq_true rfl) (Nat.le_of_ble_eq_true rfl) (Nat.le_of_ble_eq_true rfl) (Nat.le_of_ble_eq_true rfl) (s388_X1_tell  d  ) ?_
  rintro _ _ ⟨rfl, rfl⟩
  dsimp only [Option.toList, List.cons_append, List.nil_append]
  refine G_aload_n (pc := 25) rfl dX1_goRest_25 ?_
  refine G_callV (pc := 26) (mc1 := 0) (ms1 := 0) (ci := 1) (mj := mX1_melt) (vs := []) dX1_goRest_26 rfl rfl cm_X1_melt wf_73 wf_75 wf_76 rfl (Nat.le_of_ble_eq_true rfl) (Nat.le_of_ble_eq_true rfl) (Nat.le_of_ble_eq_true rfl) (Nat.le_of_ble_eq_true rfl) (s390_X1_melt  (d + 1)  ) ?_
  rintro _ _ ⟨rfl, rfl⟩
  dsimp only [Option.toList, List.cons_append, List.nil_append]
  refine G_iadd (pc := 29) (z := 0) (by decide) dX1_goRest_29 ?_
  refine G_iadd (pc := 30) (z := 0) (by decide) dX1_goRest_30 ?_
  refine G_istore_n (pc := 31) (L1 := [some (.ref 19), some (.int 14), some (.int 0), some (.int 8)]) rfl rfl (by decide) dX1_goRest_31 ?_
  refine G_iinc (pc := 32) (v := 1) (w := 9) (L1 := [some (.ref 19), some (.int 14), some (.int 0), some (.int 9)]) (by decide) rfl rfl (by decide) rfl (by decide) dX1_goRest_32 ?_
  refine G_goto (pc := 35) (tgt := 4) (by decide) dX1_goRest_35 ?_
  refine G_iload_n (pc := 4) rfl dX1_goRest_4 ?_
  refine G_iload_n (pc := 5) rfl dX1_goRest_5 ?_
  refine G_icmp_ge (pc := 6) (tgt := 38) (by decide) dX1_goRest_6 (fun z => absurd z (by decide)) (fun _ => ?_)
  refine G_aload_n (pc := 9) rfl dX1_goRest_9 ?_
  refine G_callV (pc := 10) (mc1 := 0) (ms1 := 0) (ci := 1) (mj := mX1_isOver) (vs := []) dX1_goRest_10 rfl rfl cm_X1_isOver wf_172 wf_17 wf_18 rfl (Nat.le_of_ble_eq_true rfl) (Nat.le_of_ble_eq_true rfl) (Nat.le_of_ble_eq_true rfl) (Nat.le_of_ble_eq_true rfl) (s391_X1_isOver  (d + 1)  ) ?_
  rintro _ _ ⟨rfl, rfl⟩
  dsimp only [Option.toList, List.cons_append, List.nil_append]
  refine G_if_ne (pc := 13) (tgt := 38) (by decide) dX1_goRest_13 (fun z => absurd (by decide) z) (fun _ => ?_)
  refine G_iload_n (pc := 16) rfl dX1_goRest_16 ?_
  refine G_aload_n (pc := 17) rfl dX1_goRest_17 ?_
  refine G_aload_n (pc := 18) rfl dX1_goRest_18 ?_
  refine G_callV (pc := 19) (mc1 := 0) (ms1 := 0) (ci := 1) (mj := mX1_restAct) (vs := []) dX1_goRest_19 rfl rfl cm_X1_restAct wf_173 wf_66 wf_67 rfl (Nat.le_of_ble_eq_true rfl) (Nat.le_of_ble_eq_true rfl) (Nat.le_of_ble_eq_true rfl) (Nat.le_of_ble_eq_true rfl) (s392_X1_restAct  (d + 1)  ) ?_
  rintro _ _ ⟨rfl, rfl⟩
  dsimp only [Option.toList, List.cons_append, List.nil_append]
  refine G_callV (pc := 22) (mc1 := 0) (ms1 := 0) (ci := 1) (mj := mX1_tell) (vs := [_]) dX1_goRest_22 rfl rfl cm_X1_tell wf_69 wf_71 wf_72 rfl (Nat.le_of_ble_eq_true rfl) (Nat.le_of_ble_eq_true rfl) (Nat.le_of_ble_eq_true rfl) (Nat.le_of_ble_eq_true rfl) (s393_X1_tell  d  ) ?_
  rintro _ _ ⟨rfl, rfl⟩
  dsimp only [Option.toList, List.cons_append, List.nil_append]
  refine G_aload_n (pc := 25) rfl dX1_goRest_25 ?_
  refine G_callV (pc := 26) (mc1 := 0) (ms1 := 0) (ci := 1) (mj := mX1_melt) (vs := []) dX1_goRest_26 rfl rfl cm_X1_melt wf_73 wf_75 wf_76 rfl (Nat.le_of_ble_eq_true rfl) (Nat.le_of_ble_eq_true rfl) (Nat.le_of_ble_eq_true rfl) (Nat.le_of_ble_eq_true rfl) (s395_X1_melt  (d + 1)  ) ?_
  rintro _ _ ⟨rfl, rfl⟩
  dsimp only [Option.toList, List.cons_append, List.nil_append]
  refine G_iadd (pc := 29) (z := 0) (by decide) dX1_goRest_29 ?_
  refine G_iadd (pc := 30) (z := 0) (by decide) dX1_goRest_30 ?_
  refine G_istore_n (pc := 31) (L1 := [some (.ref 19), some (.int 14), some (.int 0), some (.int 9)]) rfl rfl (by decide) dX1_goRest_31 ?_
  refine G_iinc (pc := 32) (v := 1) (w := 10) (L1 := [some (.ref 19), some (.int 14), some (.int 0), some (.int 10)]) (by decide) rfl rfl (by decide) rfl (by decide) dX1_goRest_32 ?_
  refine G_goto (pc := 35) (tgt := 4) (by decide) dX1_goRest_35 ?_
  refine G_iload_n (pc := 4) rfl dX1_goRest_4 ?_
  refine G_iload_n (pc := 5) rfl dX1_goRest_5 ?_
  refine G_icmp_ge (pc := 6) (tgt := 38) (by decide) dX1_goRest_6 (fun z => absurd z (by decide)) (fun _ => ?_)
  refine G_aload_n (pc := 9) rfl dX1_goRest_9 ?_
  refine G_callV (pc := 10) (mc1 := 0) (ms1 := 0) (ci := 1) (mj := mX1_isOver) (vs := []) dX1_goRest_10 rfl rfl cm_X1_isOver wf_172 wf_17 wf_18 rfl (Nat.le_of_ble_eq_true rfl) (Nat.le_of_ble_eq_true rfl) (Nat.le_of_ble_eq_true rfl) (Nat.le_of_ble_eq_true rfl) (s396_X1_isOver  (d + 1)  ) ?_
  rintro _ _ ⟨rfl, rfl⟩
  dsimp only [Option.toList, List.cons_append, List.nil_append]
  refine G_if_ne (pc := 13) (tgt := 38) (by decide) dX1_goRest_13 (fun z => absurd (by decide) z) (fun _ => ?_)
  refine G_iload_n (pc := 16) rfl dX1_goRest_16 ?_
  refine G_aload_n (pc := 17) rfl dX1_goRest_17 ?_
  refine G_aload_n (pc := 18) rfl dX1_goRest_18 ?_
  refine G_callV (pc := 19) (mc1 := 0) (ms1 := 0) (ci := 1) (mj := mX1_restAct) (vs := []) dX1_goRest_19 rfl rfl cm_X1_restAct wf_173 wf_66 wf_67 rfl (Nat.le_of_ble_eq_true rfl) (Nat.le_of_ble_eq_true rfl) (Nat.le_of_ble_eq_true rfl) (Nat.le_of_ble_eq_true rfl) (s397_X1_restAct  (d + 1)  ) ?_
  rintro _ _ ⟨rfl, rfl⟩
  dsimp only [Option.toList, List.cons_append, List.nil_append]
  refine G_callV (pc := 22) (mc1 := 0) (ms1 := 0) (ci := 1) (mj := mX1_tell) (vs := [_]) dX1_goRest_22 rfl rfl cm_X1_tell wf_69 wf_71 wf_72 rfl (Nat.le_of_ble_eq_true rfl) (Nat.le_of_ble_eq_true rfl) (Nat.le_of_ble_eq_true rfl) (Nat.le_of_ble_eq_true rfl) (s398_X1_tell  d  ) ?_
  rintro _ _ ⟨rfl, rfl⟩
  dsimp only [Option.toList, List.cons_append, List.nil_append]
  refine G_aload_n (pc := 25) rfl dX1_goRest_25 ?_
  refine G_callV (pc := 26) (mc1 := 0) (ms1 := 0) (ci := 1) (mj := mX1_melt) (vs := []) dX1_goRest_26 rfl rfl cm_X1_melt wf_73 wf_75 wf_76 rfl (Nat.le_of_ble_eq_true rfl) (Nat.le_of_ble_eq_true rfl) (Nat.le_of_ble_eq_true rfl) (Nat.le_of_ble_eq_true rfl) (s400_X1_melt  (d + 1)  ) ?_
  rintro _ _ ⟨rfl, rfl⟩
  dsimp only [Option.toList, List.cons_append, List.nil_append]
  refine G_iadd (pc := 29) (z := 0) (by decide) dX1_goRest_29 ?_
  refine G_iadd (pc := 30) (z := 0) (by decide) dX1_goRest_30 ?_
  refine G_istore_n (pc := 31) (L1 := [some (.ref 19), some (.int 14), some (.int 0), some (.int 10)]) rfl rfl (by decide) dX1_goRest_31 ?_
  refine G_iinc (pc := 32) (v := 1) (w := 11) (L1 := [some (.ref 19), some (.int 14), some (.int 0), some (.int 11)]) (by decide) rfl rfl (by decide) rfl (by decide) dX1_goRest_32 ?_
  refine G_goto (pc := 35) (tgt := 4) (by decide) dX1_goRest_35 ?_
  refine G_iload_n (pc := 4) rfl dX1_goRest_4 ?_
  refine G_iload_n (pc := 5) rfl dX1_goRest_5 ?_
  refine G_icmp_ge (pc := 6) (tgt := 38) (by decide) dX1_goRest_6 (fun z => absurd z (by decide)) (fun _ => ?_)
  refine G_aload_n (pc := 9) rfl dX1_goRest_9 ?_
  refine G_callV (pc := 10) (mc1 := 0) (ms1 := 0) (ci := 1) (mj := mX1_isOver) (vs := []) dX1_goRest_10 rfl rfl cm_X1_isOver wf_172 wf_17 wf_18 rfl (Nat.le_of_ble_eq_true rfl) (Nat.le_of_ble_eq_true rfl) (Nat.le_of_ble_eq_true rfl) (Nat.le_of_ble_eq_true rfl) (s401_X1_isOver  (d + 1)  ) ?_
  rintro _ _ ⟨rfl, rfl⟩
  dsimp only [Option.toList, List.cons_append, List.nil_append]
  refine G_if_ne (pc := 13) (tgt := 38) (by decide) dX1_goRest_13 (fun z => absurd (by decide) z) (fun _ => ?_)
  refine G_iload_n (pc := 16) rfl dX1_goRest_16 ?_
  refine G_aload_n (pc := 17) rfl dX1_goRest_17 ?_
  refine G_aload_n (pc := 18) rfl dX1_goRest_18 ?_
  refine G_callV (pc := 19) (mc1 := 0) (ms1 := 0) (ci := 1) (mj := mX1_restAct) (vs := []) dX1_goRest_19 rfl rfl cm_X1_restAct wf_173 wf_66 wf_67 rfl (Nat.le_of_ble_eq_true rfl) (Nat.le_of_ble_eq_true rfl) (Nat.le_of_ble_eq_true rfl) (Nat.le_of_ble_eq_true rfl) (s402_X1_restAct  (d + 1)  ) ?_
  rintro _ _ ⟨rfl, rfl⟩
  dsimp only [Option.toList, List.cons_append, List.nil_append]
  refine G_callV (pc := 22) (mc1 := 0) (ms1 := 0) (ci := 1) (mj := mX1_tell) (vs := [_]) dX1_goRest_22 rfl rfl cm_X1_tell wf_69 wf_71 wf_72 rfl (Nat.le_of_ble_eq_true rfl) (Nat.le_of_ble_eq_true rfl) (Nat.le_of_ble_eq_true rfl) (Nat.le_of_ble_eq_true rfl) (s403_X1_tell  d  ) ?_
  rintro _ _ ⟨rfl, rfl⟩
  dsimp only [Option.toList, List.cons_append, List.nil_append]
  refine G_aload_n (pc := 25) rfl dX1_goRest_25 ?_
  refine G_callV (pc := 26) (mc1 := 0) (ms1 := 0) (ci := 1) (mj := mX1_melt) (vs := []) dX1_goRest_26 rfl rfl cm_X1_melt wf_73 wf_75 wf_76 rfl (Nat.le_of_ble_eq_true rfl) (Nat.le_of_ble_eq_true rfl) (Nat.le_of_ble_eq_true rfl) (Nat.le_of_ble_eq_true rfl) (s405_X1_melt  (d + 1)  ) ?_
  rintro _ _ ⟨rfl, rfl⟩
  dsimp only [Option.toList, List.cons_append, List.nil_append]
  refine G_iadd (pc := 29) (z := 0) (by decide) dX1_goRest_29 ?_
  refine G_iadd (pc := 30) (z := 0) (by decide) dX1_goRest_30 ?_
  refine G_istore_n (pc := 31) (L1 := [some (.ref 19), some (.int 14), some (.int 0), some (.int 11)]) rfl rfl (by decide) dX1_goRest_31 ?_
  refine G_iinc (pc := 32) (v := 1) (w := 12) (L1 := [some (.ref 19), some (.int 14), some (.int 0), some (.int 12)]) (by decide) rfl rfl (by decide) rfl (by decide) dX1_goRest_32 ?_
  refine G_goto (pc := 35) (tgt := 4) (by decide) dX1_goRest_35 ?_
  refine G_iload_n (pc := 4) rfl dX1_goRest_4 ?_
  refine G_iload_n (pc := 5) rfl dX1_goRest_5 ?_
  refine G_icmp_ge (pc := 6) (tgt := 38) (by decide) dX1_goRest_6 (fun z => absurd z (by decide)) (fun _ => ?_)
  refine G_aload_n (pc := 9) rfl dX1_goRest_9 ?_
  refine G_callV (pc := 10) (mc1 := 0) (ms1 := 0) (ci := 1) (mj := mX1_isOver) (vs := []) dX1_goRest_10 rfl rfl cm_X1_isOver wf_172 wf_17 wf_18 rfl (Nat.le_of_ble_eq_true rfl) (Nat.le_of_ble_eq_true rfl) (Nat.le_of_ble_eq_true rfl) (Nat.le_of_ble_eq_true rfl) (s406_X1_isOver  (d + 1)  ) ?_
  rintro _ _ ⟨rfl, rfl⟩
  dsimp only [Option.toList, List.cons_append, List.nil_append]
  refine G_if_ne (pc := 13) (tgt := 38) (by decide) dX1_goRest_13 (fun _ => ?_) (fun z => absurd z (by decide))
  refine G_iload_n (pc := 38) rfl dX1_goRest_38 ?_
  exact G_iret (pc := 39) (Nat.le_of_ble_eq_true rfl) (Nat.le_of_ble_eq_true rfl) rfl dX1_goRest_39 ⟨rfl, rfl⟩
set_option maxRecDepth 100000 in
set_option maxHeartbeats 4000000 in
theorem s433_X1_goRest  (d : Nat)   : G (d + 2) mX1_goRest 0 0 0 0 0 (gent 4 [.ref 19, .int 15]) [] SH0 RF0 (gup (gup (gcp I0 24 34 (0 : Int32).toNatClampNeg (0 : Int32).toNatClampNeg (6 : Int32).toNatClampNeg) 34 6 0) 34 7 0) (fun r h => r = some (.int 0) ∧ h = (SH0, RF0, (gup (gup (gup (gup (gup (gup (gup (gup (gup (gup (gup (gup (gup (gup (gcp I0 24 34 (0 : Int32).toNatClampNeg (0 : Int32).toNatClampNeg (6 : Int32).toNatClampNeg) 34 6 0) 34 7 0) 19 1 1) 19 1 2) 19 1 3) 19 1 4) 19 1 5) 19 1 6) 19 1 7) 19 1 8) 19 1 9) 19 1 10) 19 1 11) 19 1 12))) := by
  refine G_iconst (pc := 0) (v := 0) (by decide) dX1_goRest_0 ?_
  refine G_istore_n (pc := 1) (L1 := [some (.ref 19), some (.int 15), some (.int 0), none]) rfl rfl (by decide) dX1_goRest_1 ?_
  refine G_iconst (pc := 2) (v := 0) (by decide) dX1_goRest_2 ?_
  refine G_istore_n (pc := 3) (L1 := [some (.ref 19), some (.int 15), some (.int 0), some (.int 0)]) rfl rfl (by decide) dX1_goRest_3 ?_
  refine G_iload_n (pc := 4) rfl dX1_goRest_4 ?_
  refine G_iload_n (pc := 5) rfl dX1_goRest_5 ?_
  refine G_icmp_ge (pc := 6) (tgt := 38) (by decide) dX1_goRest_6 (fun z => absurd z (by decide)) (fun _ => ?_)
  refine G_aload_n (pc := 9) rfl dX1_goRest_9 ?_
  refine G_callV (pc := 10) (mc1 := 0) (ms1 := 0) (ci := 1) (mj := mX1_isOver) (vs := []) dX1_goRest_10 rfl rfl cm_X1_isOver wf_172 wf_17 wf_18 rfl (Nat.le_of_ble_eq_true rfl) (Nat.le_of_ble_eq_true rfl) (Nat.le_of_ble_eq_true rfl) (Nat.le_of_ble_eq_true rfl) (s350_X1_isOver  (d + 1)  ) ?_
  rintro _ _ ⟨rfl, rfl⟩
  dsimp only [Option.toList, List.cons_append, List.nil_append]
  refine G_if_ne (pc := 13) (tgt := 38) (by decide) dX1_goRest_13 (fun z => absurd (by decide) z) (fun _ => ?_)
  refine G_iload_n (pc := 16) rfl dX1_goRest_16 ?_
  refine G_aload_n (pc := 17) rfl dX1_goRest_17 ?_
  refine G_aload_n (pc := 18) rfl dX1_goRest_18 ?_
  refine G_callV (pc := 19) (mc1 := 0) (ms1 := 0) (ci := 1) (mj := mX1_restAct) (vs := []) dX1_goRest_19 rfl rfl cm_X1_restAct wf_173 wf_66 wf_67 rfl (Nat.le_of_ble_eq_true rfl) (Nat.le_of_ble_eq_true rfl) (Nat.le_of_ble_eq_true rfl) (Nat.le_of_ble_eq_true rfl) (s351_X1_restAct  (d + 1)  ) ?_
  rintro _ _ ⟨rfl, rfl⟩
  dsimp only [Option.toList, List.cons_append, List.nil_append]
  refine G_callV (pc := 22) (mc1 := 0) (ms1 := 0) (ci := 1) (mj := mX1_tell) (vs := [_]) dX1_goRest_22 rfl rfl cm_X1_tell wf_69 wf_71 wf_72 rfl (Nat.le_of_ble_eq_true rfl) (Nat.le_of_ble_eq_true rfl) (Nat.le_of_ble_eq_true rfl) (Nat.le_of_ble_eq_true rfl) (s145_X1_tell  d  ) ?_
  rintro _ _ ⟨rfl, rfl⟩
  dsimp only [Option.toList, List.cons_append, List.nil_append]
  refine G_aload_n (pc := 25) rfl dX1_goRest_25 ?_
  refine G_callV (pc := 26) (mc1 := 0) (ms1 := 0) (ci := 1) (mj := mX1_melt) (vs := []) dX1_goRest_26 rfl rfl cm_X1_melt wf_73 wf_75 wf_76 rfl (Nat.le_of_ble_eq_true rfl) (Nat.le_of_ble_eq_true rfl) (Nat.le_of_ble_eq_true rfl) (Nat.le_of_ble_eq_true rfl) (s147_X1_melt  (d + 1)  ) ?_
  rintro _ _ ⟨rfl, rfl⟩
  dsimp only [Option.toList, List.cons_append, List.nil_append]
  refine G_iadd (pc := 29) (z := 0) (by decide) dX1_goRest_29 ?_
  refine G_iadd (pc := 30) (z := 0) (by decide) dX1_goRest_30 ?_
  refine G_istore_n (pc := 31) (L1 := [some (.ref 19), some (.int 15), some (.int 0), some (.int 0)]) rfl rfl (by decide) dX1_goRest_31 ?_
  refine G_iinc (pc := 32) (v := 1) (w := 1) (L1 := [some (.ref 19), some (.int 15), some (.int 0), some (.int 1)]) (by decide) rfl rfl (by decide) rfl (by decide) dX1_goRest_32 ?_
  refine G_goto (pc := 35) (tgt := 4) (by decide) dX1_goRest_35 ?_
  refine G_iload_n (pc := 4) rfl dX1_goRest_4 ?_
  refine G_iload_n (pc := 5) rfl dX1_goRest_5 ?_
  refine G_icmp_ge (pc := 6) (tgt := 38) (by decide) dX1_goRest_6 (fun z => absurd z (by decide)) (fun _ => ?_)
  refine G_aload_n (pc := 9) rfl dX1_goRest_9 ?_
  refine G_callV (pc := 10) (mc1 := 0) (ms1 := 0) (ci := 1) (mj := mX1_isOver) (vs := []) dX1_goRest_10 rfl rfl cm_X1_isOver wf_172 wf_17 wf_18 rfl (Nat.le_of_ble_eq_true rfl) (Nat.le_of_ble_eq_true rfl) (Nat.le_of_ble_eq_true rfl) (Nat.le_of_ble_eq_true rfl) (s155_X1_isOver  (d + 1)  ) ?_
  rintro _ _ ⟨rfl, rfl⟩
  dsimp only [Option.toList, List.cons_append, List.nil_append]
  refine G_if_ne (pc := 13) (tgt := 38) (by decide) dX1_goRest_13 (fun z => absurd (by decide) z) (fun _ => ?_)
  refine G_iload_n (pc := 16) rfl dX1_goRest_16 ?_
  refine G_aload_n (pc := 17) rfl dX1_goRest_17 ?_
  refine G_aload_n (pc := 18) rfl dX1_goRest_18 ?_
  refine G_callV (pc := 19) (mc1 := 0) (ms1 := 0) (ci := 1) (mj := mX1_restAct) (vs := []) dX1_goRest_19 rfl rfl cm_X1_restAct wf_173 wf_66 wf_67 rfl (Nat.le_of_ble_eq_true rfl) (Nat.le_of_ble_eq_true rfl) (Nat.le_of_ble_eq_true rfl) (Nat.le_of_ble_eq_true rfl) (s352_X1_restAct  (d + 1)  ) ?_
  rintro _ _ ⟨rfl, rfl⟩
  dsimp only [Option.toList, List.cons_append, List.nil_append]
  refine G_callV (pc := 22) (mc1 := 0) (ms1 := 0) (ci := 1) (mj := mX1_tell) (vs := [_]) dX1_goRest_22 rfl rfl cm_X1_tell wf_69 wf_71 wf_72 rfl (Nat.le_of_ble_eq_true rfl) (Nat.le_of_ble_eq_true rfl) (Nat.le_of_ble_eq_true rfl) (Nat.le_of_ble_eq_true rfl) (s353_X1_tell  d  ) ?_
  rintro _ _ ⟨rfl, rfl⟩
  dsimp only [Option.toList, List.cons_append, List.nil_append]
  refine G_aload_n (pc := 25) rfl dX1_goRest_25 ?_
  refine G_callV (pc := 26) (mc1 := 0) (ms1 := 0) (ci := 1) (mj := mX1_melt) (vs := []) dX1_goRest_26 rfl rfl cm_X1_melt wf_73 wf_75 wf_76 rfl (Nat.le_of_ble_eq_true rfl) (Nat.le_of_ble_eq_true rfl) (Nat.le_of_ble_eq_true rfl) (Nat.le_of_ble_eq_true rfl) (s355_X1_melt  (d + 1)  ) ?_
  rintro _ _ ⟨rfl, rfl⟩
  dsimp only [Option.toList, List.cons_append, List.nil_append]
  refine G_iadd (pc := 29) (z := 0) (by decide) dX1_goRest_29 ?_
  refine G_iadd (pc := 30) (z := 0) (by decide) dX1_goRest_30 ?_
  refine G_istore_n (pc := 31) (L1 := [some (.ref 19), some (.int 15), some (.int 0), some (.int 1)]) rfl rfl (by decide) dX1_goRest_31 ?_
  refine G_iinc (pc := 32) (v := 1) (w := 2) (L1 := [some (.ref 19), some (.int 15), some (.int 0), some (.int 2)]) (by decide) rfl rfl (by decide) rfl (by decide) dX1_goRest_32 ?_
  refine G_goto (pc := 35) (tgt := 4) (by decide) dX1_goRest_35 ?_
  refine G_iload_n (pc := 4) rfl dX1_goRest_4 ?_
  refine G_iload_n (pc := 5) rfl dX1_goRest_5 ?_
  refine G_icmp_ge (pc := 6) (tgt := 38) (by decide) dX1_goRest_6 (fun z => absurd z (by decide)) (fun _ => ?_)
  refine G_aload_n (pc := 9) rfl dX1_goRest_9 ?_
  refine G_callV (pc := 10) (mc1 := 0) (ms1 := 0) (ci := 1) (mj := mX1_isOver) (vs := []) dX1_goRest_10 rfl rfl cm_X1_isOver wf_172 wf_17 wf_18 rfl (Nat.le_of_ble_eq_true rfl) (Nat.le_of_ble_eq_true rfl) (Nat.le_of_ble_eq_true rfl) (Nat.le_of_ble_eq_true rfl) (s356_X1_isOver  (d + 1)  ) ?_
  rintro _ _ ⟨rfl, rfl⟩
  dsimp only [Option.toList, List.cons_append, List.nil_append]
  refine G_if_ne (pc := 13) (tgt := 38) (by decide) dX1_goRest_13 (fun z => absurd (by decide) z) (fun _ => ?_)
  refine G_iload_n (pc := 16) rfl dX1_goRest_16 ?_
  refine G_aload_n (pc := 17) rfl dX1_goRest_17 ?_
  refine G_aload_n (pc := 18) rfl dX1_goRest_18 ?_
  refine G_callV (pc := 19) (mc1 := 0) (ms1 := 0) (ci := 1) (mj := mX1_restAct) (vs := []) dX1_goRest_19 rfl rfl cm_X1_restAct wf_173 wf_66 wf_67 rfl (Nat.le_of_ble_eq_true rfl) (Nat.le_of_ble_eq_true rfl) (Nat.le_of_ble_eq_true rfl) (Nat.le_of_ble_eq_true rfl) (s357_X1_restAct  (d + 1)  ) ?_
  rintro _ _ ⟨rfl, rfl⟩
  dsimp only [Option.toList, List.cons_append, List.nil_append]
  refine G_callV (pc := 22) (mc1 := 0) (ms1 := 0) (ci := 1) (mj := mX1_tell) (vs := [_]) dX1_goRest_22 rfl rfl cm_X1_tell wf_69 wf_71 wf_72 rfl (Nat.le_of_ble_eq_true rfl) (Nat.le_of_ble_eq_true rfl) (Nat.le_of_ble_eq_true rfl) (Nat.le_of_ble_eq_true rfl) (s358_X1_tell  d  ) ?_
  rintro _ _ ⟨rfl, rfl⟩
  dsimp only [Option.toList, List.cons_append, List.nil_append]
  refine G_aload_n (pc := 25) rfl dX1_goRest_25 ?_
  refine G_callV (pc := 26) (mc1 := 0) (ms1 := 0) (ci := 1) (mj := mX1_melt) (vs := []) dX1_goRest_26 rfl rfl cm_X1_melt wf_73 wf_75 wf_76 rfl (Nat.le_of_ble_eq_true rfl) (Nat.le_of_ble_eq_true rfl) (Nat.le_of_ble_eq_true rfl) (Nat.le_of_ble_eq_true rfl) (s360_X1_melt  (d + 1)  ) ?_
  rintro _ _ ⟨rfl, rfl⟩
  dsimp only [Option.toList, List.cons_append, List.nil_append]
  refine G_iadd (pc := 29) (z := 0) (by decide) dX1_goRest_29 ?_
  refine G_iadd (pc := 30) (z := 0) (by decide) dX1_goRest_30 ?_
  refine G_istore_n (pc := 31) (L1 := [some (.ref 19), some (.int 15), some (.int 0), some (.int 2)]) rfl rfl (by decide) dX1_goRest_31 ?_
  refine G_iinc (pc := 32) (v := 1) (w := 3) (L1 := [some (.ref 19), some (.int 15), some (.int 0), some (.int 3)]) (by decide) rfl rfl (by decide) rfl (by decide) dX1_goRest_32 ?_
  refine G_goto (pc := 35) (tgt := 4) (by decide) dX1_goRest_35 ?_
  refine G_iload_n (pc := 4) rfl dX1_goRest_4 ?_
  refine G_iload_n (pc := 5) rfl dX1_goRest_5 ?_
  refine G_icmp_ge (pc := 6) (tgt := 38) (by decide) dX1_goRest_6 (fun z => absurd z (by decide)) (fun _ => ?_)
  refine G_aload_n (pc := 9) rfl dX1_goRest_9 ?_
  refine G_callV (pc := 10) (mc1 := 0) (ms1 := 0) (ci := 1) (mj := mX1_isOver) (vs := []) dX1_goRest_10 rfl rfl cm_X1_isOver wf_172 wf_17 wf_18 rfl (Nat.le_of_ble_eq_true rfl) (Nat.le_of_ble_eq_true rfl) (Nat.le_of_ble_eq_true rfl) (Nat.le_of_ble_eq_true rfl) (s361_X1_isOver  (d + 1)  ) ?_
  rintro _ _ ⟨rfl, rfl⟩
  dsimp only [Option.toList, List.cons_append, List.nil_append]
  refine G_if_ne (pc := 13) (tgt := 38) (by decide) dX1_goRest_13 (fun z => absurd (by decide) z) (fun _ => ?_)
  refine G_iload_n (pc := 16) rfl dX1_goRest_16 ?_
  refine G_aload_n (pc := 17) rfl dX1_goRest_17 ?_
  refine G_aload_n (pc := 18) rfl dX1_goRest_18 ?_
  refine G_callV (pc := 19) (mc1 := 0) (ms1 := 0) (ci := 1) (mj := mX1_restAct) (vs := []) dX1_goRest_19 rfl rfl cm_X1_restAct wf_173 wf_66 wf_67 rfl (Nat.le_of_ble_eq_true rfl) (Nat.le_of_ble_eq_true rfl) (Nat.le_of_ble_eq_true rfl) (Nat.le_of_ble_eq_true rfl) (s362_X1_restAct  (d + 1)  ) ?_
  rintro _ _ ⟨rfl, rfl⟩
  dsimp only [Option.toList, List.cons_append, List.nil_append]
  refine G_callV (pc := 22) (mc1 := 0) (ms1 := 0) (ci := 1) (mj := mX1_tell) (vs := [_]) dX1_goRest_22 rfl rfl cm_X1_tell wf_69 wf_71 wf_72 rfl (Nat.le_of_ble_eq_true rfl) (Nat.le_of_ble_eq_true rfl) (Nat.le_of_ble_eq_true rfl) (Nat.le_of_ble_eq_true rfl) (s363_X1_tell  d  ) ?_
  rintro _ _ ⟨rfl, rfl⟩
  dsimp only [Option.toList, List.cons_append, List.nil_append]
  refine G_aload_n (pc := 25) rfl dX1_goRest_25 ?_
  refine G_callV (pc := 26) (mc1 := 0) (ms1 := 0) (ci := 1) (mj := mX1_melt) (vs := []) dX1_goRest_26 rfl rfl cm_X1_melt wf_73 wf_75 wf_76 rfl (Nat.le_of_ble_eq_true rfl) (Nat.le_of_ble_eq_true rfl) (Nat.le_of_ble_eq_true rfl) (Nat.le_of_ble_eq_true rfl) (s365_X1_melt  (d + 1)  ) ?_
  rintro _ _ ⟨rfl, rfl⟩
  dsimp only [Option.toList, List.cons_append, List.nil_append]
  refine G_iadd (pc := 29) (z := 0) (by decide) dX1_goRest_29 ?_
  refine G_iadd (pc := 30) (z := 0) (by decide) dX1_goRest_30 ?_
  refine G_istore_n (pc := 31) (L1 := [some (.ref 19), some (.int 15), some (.int 0), some (.int 3)]) rfl rfl (by decide) dX1_goRest_31 ?_
  refine G_iinc (pc := 32) (v := 1) (w := 4) (L1 := [some (.ref 19), some (.int 15), some (.int 0), some (.int 4)]) (by decide) rfl rfl (by decide) rfl (by decide) dX1_goRest_32 ?_
  refine G_goto (pc := 35) (tgt := 4) (by decide) dX1_goRest_35 ?_
  refine G_iload_n (pc := 4) rfl dX1_goRest_4 ?_
  refine G_iload_n (pc := 5) rfl dX1_goRest_5 ?_
  refine G_icmp_ge (pc := 6) (tgt := 38) (by decide) dX1_goRest_6 (fun z => absurd z (by decide)) (fun _ => ?_)
  refine G_aload_n (pc := 9) rfl dX1_goRest_9 ?_
  refine G_callV (pc := 10) (mc1 := 0) (ms1 := 0) (ci := 1) (mj := mX1_isOver) (vs := []) dX1_goRest_10 rfl rfl cm_X1_isOver wf_172 wf_17 wf_18 rfl (Nat.le_of_ble_eq_true rfl) (Nat.le_of_ble_eq_true rfl) (Nat.le_of_ble_eq_true rfl) (Nat.le_of_ble_eq_true rfl) (s366_X1_isOver  (d + 1)  ) ?_
  rintro _ _ ⟨rfl, rfl⟩
  dsimp only [Option.toList, List.cons_append, List.nil_append]
  refine G_if_ne (pc := 13) (tgt := 38) (by decide) dX1_goRest_13 (fun z => absurd (by decide) z) (fun _ => ?_)
  refine G_iload_n (pc := 16) rfl dX1_goRest_16 ?_
  refine G_aload_n (pc := 17) rfl dX1_goRest_17 ?_
  refine G_aload_n (pc := 18) rfl dX1_goRest_18 ?_
  refine G_callV (pc := 19) (mc1 := 0) (ms1 := 0) (ci := 1) (mj := mX1_restAct) (vs := []) dX1_goRest_19 rfl rfl cm_X1_restAct wf_173 wf_66 wf_67 rfl (Nat.le_of_ble_eq_true rfl) (Nat.le_of_ble_eq_true rfl) (Nat.le_of_ble_eq_true rfl) (Nat.le_of_ble_eq_true rfl) (s367_X1_restAct  (d + 1)  ) ?_
  rintro _ _ ⟨rfl, rfl⟩
  dsimp only [Option.toList, List.cons_append, List.nil_append]
  refine G_callV (pc := 22) (mc1 := 0) (ms1 := 0) (ci := 1) (mj := mX1_tell) (vs := [_]) dX1_goRest_22 rfl rfl cm_X1_tell wf_69 wf_71 wf_72 rfl (Nat.le_of_ble_eq_true rfl) (Nat.le_of_ble_eq_true rfl) (Nat.le_of_ble_eq_true rfl) (Nat.le_of_ble_eq_true rfl) (s368_X1_tell  d  ) ?_
  rintro _ _ ⟨rfl, rfl⟩
  dsimp only [Option.toList, List.cons_append, List.nil_append]
  refine G_aload_n (pc := 25) rfl dX1_goRest_25 ?_
  refine G_callV (pc := 26) (mc1 := 0) (ms1 := 0) (ci := 1) (mj := mX1_melt) (vs := []) dX1_goRest_26 rfl rfl cm_X1_melt wf_73 wf_75 wf_76 rfl (Nat.le_of_ble_eq_true rfl) (Nat.le_of_ble_eq_true rfl) (Nat.le_of_ble_eq_true rfl) (Nat.le_of_ble_eq_true rfl) (s370_X1_melt  (d + 1)  ) ?_
  rintro _ _ ⟨rfl, rfl⟩
  dsimp only [Option.toList, List.cons_append, List.nil_append]
  refine G_iadd (pc := 29) (z := 0) (by decide) dX1_goRest_29 ?_
  refine G_iadd (pc := 30) (z := 0) (by decide) dX1_goRest_30 ?_
  refine G_istore_n (pc := 31) (L1 := [some (.ref 19), some (.int 15), some (.int 0), some (.int 4)]) rfl rfl (by decide) dX1_goRest_31 ?_
  refine G_iinc (pc := 32) (v := 1) (w := 5) (L1 := [some (.ref 19), some (.int 15), some (.int 0), some (.int 5)]) (by decide) rfl rfl (by decide) rfl (by decide) dX1_goRest_32 ?_
  refine G_goto (pc := 35) (tgt := 4) (by decide) dX1_goRest_35 ?_
  refine G_iload_n (pc := 4) rfl dX1_goRest_4 ?_
  refine G_iload_n (pc := 5) rfl dX1_goRest_5 ?_
  refine G_icmp_ge (pc := 6) (tgt := 38) (by decide) dX1_goRest_6 (fun z => absurd z (by decide)) (fun _ => ?_)
  refine G_aload_n (pc := 9) rfl dX1_goRest_9 ?_
  refine G_callV (pc := 10) (mc1 := 0) (ms1 := 0) (ci := 1) (mj := mX1_isOver) (vs := []) dX1_goRest_10 rfl rfl cm_X1_isOver wf_172 wf_17 wf_18 rfl (Nat.le_of_ble_eq_true rfl) (Nat.le_of_ble_eq_true rfl) (Nat.le_of_ble_eq_true rfl) (Nat.le_of_ble_eq_true rfl) (s371_X1_isOver  (d + 1)  ) ?_
  rintro _ _ ⟨rfl, rfl⟩
  dsimp only [Option.toList, List.cons_append, List.nil_append]
  refine G_if_ne (pc := 13) (tgt := 38) (by decide) dX1_goRest_13 (fun z => absurd (by decide) z) (fun _ => ?_)
  refine G_iload_n (pc := 16) rfl dX1_goRest_16 ?_
  refine G_aload_n (pc := 17) rfl dX1_goRest_17 ?_
  refine G_aload_n (pc := 18) rfl dX1_goRest_18 ?_
  refine G_callV (pc := 19) (mc1 := 0) (ms1 := 0) (ci := 1) (mj := mX1_restAct) (vs := []) dX1_goRest_19 rfl rfl cm_X1_restAct wf_173 wf_66 wf_67 rfl (Nat.le_of_ble_eq_true rfl) (Nat.le_of_ble_eq_true rfl) (Nat.le_of_ble_eq_true rfl) (Nat.le_of_ble_eq_true rfl) (s372_X1_restAct  (d + 1)  ) ?_
  rintro _ _ ⟨rfl, rfl⟩
  dsimp only [Option.toList, List.cons_append, List.nil_append]
  refine G_callV (pc := 22) (mc1 := 0) (ms1 := 0) (ci := 1) (mj := mX1_tell) (vs := [_]) dX1_goRest_22 rfl rfl cm_X1_tell wf_69 wf_71 wf_72 rfl (Nat.le_of_ble_eq_true rfl) (Nat.le_of_ble_eq_true rfl) (Nat.le_of_ble_eq_true rfl) (Nat.le_of_ble_eq_true rfl) (s373_X1_tell  d  ) ?_
  rintro _ _ ⟨rfl, rfl⟩
  dsimp only [Option.toList, List.cons_append, List.nil_append]
  refine G_aload_n (pc := 25) rfl dX1_goRest_25 ?_
  refine G_callV (pc := 26) (mc1 := 0) (ms1 := 0) (ci := 1) (mj := mX1_melt) (vs := []) dX1_goRest_26 rfl rfl cm_X1_melt wf_73 wf_75 wf_76 rfl (Nat.le_of_ble_eq_true rfl) (Nat.le_of_ble_eq_true rfl) (Nat.le_of_ble_eq_true rfl) (Nat.le_of_ble_eq_true rfl) (s375_X1_melt  (d + 1)  ) ?_
  rintro _ _ ⟨rfl, rfl⟩
  dsimp only [Option.toList, List.cons_append, List.nil_append]
  refine G_iadd (pc := 29) (z := 0) (by decide) dX1_goRest_29 ?_
  refine G_iadd (pc := 30) (z := 0) (by decide) dX1_goRest_30 ?_
  refine G_istore_n (pc := 31) (L1 := [some (.ref 19), some (.int 15), some (.int 0), some (.int 5)]) rfl rfl (by decide) dX1_goRest_31 ?_
  refine G_iinc (pc := 32) (v := 1) (w := 6) (L1 := [some (.ref 19), some (.int 15), some (.int 0), some (.int 6)]) (by decide) rfl rfl (by decide) rfl (by decide) dX1_goRest_32 ?_
  refine G_goto (pc := 35) (tgt := 4) (by decide) dX1_goRest_35 ?_
  refine G_iload_n (pc := 4) rfl dX1_goRest_4 ?_
  refine G_iload_n (pc := 5) rfl dX1_goRest_5 ?_
  refine G_icmp_ge (pc := 6) (tgt := 38) (by decide) dX1_goRest_6 (fun z => absurd z (by decide)) (fun _ => ?_)
  refine G_aload_n (pc := 9) rfl dX1_goRest_9 ?_
  refine G_callV (pc := 10) (mc1 := 0) (ms1 := 0) (ci := 1) (mj := mX1_isOver) (vs := []) dX1_goRest_10 rfl rfl cm_X1_isOver wf_172 wf_17 wf_18 rfl (Nat.le_of_ble_eq_true rfl) (Nat.le_of_ble_eq_true rfl) (Nat.le_of_ble_eq_true rfl) (Nat.le_of_ble_eq_true rfl) (s376_X1_isOver  (d + 1)  ) ?_
  rintro _ _ ⟨rfl, rfl⟩
  dsimp only [Option.toList, List.cons_append, List.nil_append]
  refine G_if_ne (pc := 13) (tgt := 38) (by decide) dX1_goRest_13 (fun z => absurd (by decide) z) (fun _ => ?_)
  refine G_iload_n (pc := 16) rfl dX1_goRest_16 ?_
  refine G_aload_n (pc := 17) rfl dX1_goRest_17 ?_
  refine G_aload_n (pc := 18) rfl dX1_goRest_18 ?_
  refine G_callV (pc := 19) (mc1 := 0) (ms1 := 0) (ci := 1) (mj := mX1_restAct) (vs := []) dX1_goRest_19 rfl rfl cm_X1_restAct wf_173 wf_66 wf_67 rfl (Nat.le_of_ble_eq_true rfl) (Nat.le_of_ble_eq_true rfl) (Nat.le_of_ble_eq_true rfl) (Nat.le_of_ble_eq_true rfl) (s377_X1_restAct  (d + 1)  ) ?_
  rintro _ _ ⟨rfl, rfl⟩
  dsimp only [Option.toList, List.cons_append, List.nil_append]
  refine G_callV (pc := 22) (mc1 := 0) (ms1 := 0) (ci := 1) (mj := mX1_tell) (vs := [_]) dX1_goRest_22 rfl rfl cm_X1_tell wf_69 wf_71 wf_72 rfl (Nat.le_of_ble_eq_true rfl) (Nat.le_of_ble_eq_true rfl) (Nat.le_of_ble_eq_true rfl) (Nat.le_of_ble_eq_true rfl) (s378_X1_tell  d  ) ?_
  rintro _ _ ⟨rfl, rfl⟩
  dsimp only [Option.toList, List.cons_append, List.nil_append]
  refine G_aload_n (pc := 25) rfl dX1_goRest_25 ?_
  refine G_callV (pc := 26) (mc1 := 0) (ms1 := 0) (ci := 1) (mj := mX1_melt) (vs := []) dX1_goRest_26 rfl rfl cm_X1_melt wf_73 wf_75 wf_76 rfl (Nat.le_of_ble_eq_true rfl) (Nat.le_of_ble_eq_true rfl) (Nat.le_of_ble_eq_true rfl) (Nat.le_of_ble_eq_true rfl) (s380_X1_melt  (d + 1)  ) ?_
  rintro _ _ ⟨rfl, rfl⟩
  dsimp only [Option.toList, List.cons_append, List.nil_append]
  refine G_iadd (pc := 29) (z := 0) (by decide) dX1_goRest_29 ?_
  refine G_iadd (pc := 30) (z := 0) (by decide) dX1_goRest_30 ?_
  refine G_istore_n (pc := 31) (L1 := [some (.ref 19), some (.int 15), some (.int 0), some (.int 6)]) rfl rfl (by decide) dX1_goRest_31 ?_
  refine G_iinc (pc := 32) (v := 1) (w := 7) (L1 := [some (.ref 19), some (.int 15), some (.int 0), some (.int 7)]) (by decide) rfl rfl (by decide) rfl (by decide) dX1_goRest_32 ?_
  refine G_goto (pc := 35) (tgt := 4) (by decide) dX1_goRest_35 ?_
  refine G_iload_n (pc := 4) rfl dX1_goRest_4 ?_
  refine G_iload_n (pc := 5) rfl dX1_goRest_5 ?_
  refine G_icmp_ge (pc := 6) (tgt := 38) (by decide) dX1_goRest_6 (fun z => absurd z (by decide)) (fun _ => ?_)
  refine G_aload_n (pc := 9) rfl dX1_goRest_9 ?_
  refine G_callV (pc := 10) (mc1 := 0) (ms1 := 0) (ci := 1) (mj := mX1_isOver) (vs := []) dX1_goRest_10 rfl rfl cm_X1_isOver wf_172 wf_17 wf_18 rfl (Nat.le_of_ble_eq_true rfl) (Nat.le_of_ble_eq_true rfl) (Nat.le_of_ble_eq_true rfl) (Nat.le_of_ble_eq_true rfl) (s381_X1_isOver  (d + 1)  ) ?_
  rintro _ _ ⟨rfl, rfl⟩
  dsimp only [Option.toList, List.cons_append, List.nil_append]
  refine G_if_ne (pc := 13) (tgt := 38) (by decide) dX1_goRest_13 (fun z => absurd (by decide) z) (fun _ => ?_)
  refine G_iload_n (pc := 16) rfl dX1_goRest_16 ?_
  refine G_aload_n (pc := 17) rfl dX1_goRest_17 ?_
  refine G_aload_n (pc := 18) rfl dX1_goRest_18 ?_
  refine G_callV (pc := 19) (mc1 := 0) (ms1 := 0) (ci := 1) (mj := mX1_restAct) (vs := []) dX1_goRest_19 rfl rfl cm_X1_restAct wf_173 wf_66 wf_67 rfl (Nat.le_of_ble_eq_true rfl) (Nat.le_of_ble_eq_true rfl) (Nat.le_of_ble_eq_true rfl) (Nat.le_of_ble_eq_true rfl) (s382_X1_restAct  (d + 1)  ) ?_
  rintro _ _ ⟨rfl, rfl⟩
  dsimp only [Option.toList, List.cons_append, List.nil_append]
  refine G_callV (pc := 22) (mc1 := 0) (ms1 := 0) (ci := 1) (mj := mX1_tell) (vs := [_]) dX1_goRest_22 rfl rfl cm_X1_tell wf_69 wf_71 wf_72 rfl (Nat.le_of_ble_eq_true rfl) (Nat.le_of_ble_eq_true rfl) (Nat.le_of_ble_eq_true rfl) (Nat.le_of_ble_eq_true rfl) (s383_X1_tell  d  ) ?_
  rintro _ _ ⟨rfl, rfl⟩
  dsimp only [Option.toList, List.cons_append, List.nil_append]
  refine G_aload_n (pc := 25) rfl dX1_goRest_25 ?_
  refine G_callV (pc := 26) (mc1 := 0) (ms1 := 0) (ci := 1) (mj := mX1_melt) (vs := []) dX1_goRest_26 rfl rfl cm_X1_melt wf_73 wf_75 wf_76 rfl (Nat.le_of_ble_eq_true rfl) (Nat.le_of_ble_eq_true rfl) (Nat.le_of_ble_eq_true rfl) (Nat.le_of_ble_eq_true rfl) (s385_X1_melt  (d + 1)  ) ?_
  rintro _ _ ⟨rfl, rfl⟩
  dsimp only [Option.toList, List.cons_append, List.nil_append]
  refine G_iadd (pc := 29) (z := 0) (by decide) dX1_goRest_29 ?_
  refine G_iadd (pc := 30) (z := 0) (by decide) dX1_goRest_30 ?_
  refine G_istore_n (pc := 31) (L1 := [some (.ref 19), some (.int 15), some (.int 0), some (.int 7)]) rfl rfl (by decide) dX1_goRest_31 ?_
  refine G_iinc (pc := 32) (v := 1) (w := 8) (L1 := [some (.ref 19), some (.int 15), some (.int 0), some (.int 8)]) (by decide) rfl rfl (by decide) rfl (by decide) dX1_goRest_32 ?_
  refine G_goto (pc := 35) (tgt := 4) (by decide) dX1_goRest_35 ?_
  refine G_iload_n (pc := 4) rfl dX1_goRest_4 ?_
  refine G_iload_n (pc := 5) rfl dX1_goRest_5 ?_
  refine G_icmp_ge (pc := 6) (tgt := 38) (by decide) dX1_goRest_6 (fun z => absurd z (by decide)) (fun _ => ?_)
  refine G_aload_n (pc := 9) rfl dX1_goRest_9 ?_
  refine G_callV (pc := 10) (mc1 := 0) (ms1 := 0) (ci := 1) (mj := mX1_isOver) (vs := []) dX1_goRest_10 rfl rfl cm_X1_isOver wf_172 wf_17 wf_18 rfl (Nat.le_of_ble_eq_true rfl) (Nat.le_of_ble_eq_true rfl) (Nat.le_of_ble_eq_true rfl) (Nat.le_of_ble_eq_true rfl) (s386_X1_isOver  (d + 1)  ) ?_
  rintro _ _ ⟨rfl, rfl⟩
  dsimp only [Option.toList, List.cons_append, List.nil_append]
  refine G_if_ne (pc := 13) (tgt := 38) (by decide) dX1_goRest_13 (fun z => absurd (by decide) z) (fun _ => ?_)
  refine G_iload_n (pc := 16) rfl dX1_goRest_16 ?_
  refine G_aload_n (pc := 17) rfl dX1_goRest_17 ?_
  refine G_aload_n (pc := 18) rfl dX1_goRest_18 ?_
  refine G_callV (pc := 19) (mc1 := 0) (ms1 := 0) (ci := 1) (mj := mX1_restAct) (vs := []) dX1_goRest_19 rfl rfl cm_X1_restAct wf_173 wf_66 wf_67 rfl (Nat.le_of_ble_eq_true rfl) (Nat.le_of_ble_eq_true rfl) (Nat.le_of_ble_eq_true rfl) (Nat.le_of_ble_eq_true rfl) (s387_X1_restAct  (d + 1)  ) ?_
  rintro _ _ ⟨rfl, rfl⟩
  dsimp only [Option.toList, List.cons_append, List.nil_append]
  refine G_callV (pc := 22) (mc1 := 0) (ms1 := 0) (ci := 1) (mj := mX1_tell) (vs := [_]) dX1_goRest_22 rfl rfl cm_X1_tell wf_69 wf_71 wf_72 rfl (Nat.le_of_ble_eq_true rfl) (Nat.le_of_ble_eq_true rfl) (Nat.le_of_ble_eq_true rfl) (Nat.le_of_ble_eq_true rfl) (s388_X1_tell  d  ) ?_
  rintro _ _ ⟨rfl, rfl⟩
  dsimp only [Option.toList, List.cons_append, List.nil_append]
  refine G_aload_n (pc := 25) rfl dX1_goRest_25 ?_
  refine G_callV (pc := 26) (mc1 := 0) (ms1 := 0) (ci := 1) (mj := mX1_melt) (vs := []) dX1_goRest_26 rfl rfl cm_X1_melt wf_73 wf_75 wf_76 rfl (Nat.le_of_ble_eq_true rfl) (Nat.le_of_ble_eq_true rfl) (Nat.le_of_ble_eq_true rfl) (Nat.le_of_ble_eq_true rfl) (s390_X1_melt  (d + 1)  ) ?_
  rintro _ _ ⟨rfl, rfl⟩
  dsimp only [Option.toList, List.cons_append, List.nil_append]
  refine G_iadd (pc := 29) (z := 0) (by decide) dX1_goRest_29 ?_
  refine G_iadd (pc := 30) (z := 0) (by decide) dX1_goRest_30 ?_
  refine G_istore_n (pc := 31) (L1 := [some (.ref 19), some (.int 15), some (.int 0), some (.int 8)]) rfl rfl (by decide) dX1_goRest_31 ?_
  refine G_iinc (pc := 32) (v := 1) (w := 9) (L1 := [some (.ref 19), some (.int 15), some (.int 0), some (.int 9)]) (by decide) rfl rfl (by decide) rfl (by decide) dX1_goRest_32 ?_
  refine G_goto (pc := 35) (tgt := 4) (by decide) dX1_goRest_35 ?_
  refine G_iload_n (pc := 4) rfl dX1_goRest_4 ?_
  refine G_iload_n (pc := 5) rfl dX1_goRest_5 ?_
  refine G_icmp_ge (pc := 6) (tgt := 38) (by decide) dX1_goRest_6 (fun z => absurd z (by decide)) (fun _ => ?_)
  refine G_aload_n (pc := 9) rfl dX1_goRest_9 ?_
  refine G_callV (pc := 10) (mc1 := 0) (ms1 := 0) (ci := 1) (mj := mX1_isOver) (vs := []) dX1_goRest_10 rfl rfl cm_X1_isOver wf_172 wf_17 wf_18 rfl (Nat.le_of_ble_eq_true rfl) (Nat.le_of_ble_eq_true rfl) (Nat.le_of_ble_eq_true rfl) (Nat.le_of_ble_eq_true rfl) (s391_X1_isOver  (d + 1)  ) ?_
  rintro _ _ ⟨rfl, rfl⟩
  dsimp only [Option.toList, List.cons_append, List.nil_append]
  refine G_if_ne (pc := 13) (tgt := 38) (by decide) dX1_goRest_13 (fun z => absurd (by decide) z) (fun _ => ?_)
  refine G_iload_n (pc := 16) rfl dX1_goRest_16 ?_
  refine G_aload_n (pc := 17) rfl dX1_goRest_17 ?_
  refine G_aload_n (pc := 18) rfl dX1_goRest_18 ?_
  refine G_callV (pc := 19) (mc1 := 0) (ms1 := 0) (ci := 1) (mj := mX1_restAct) (vs := []) dX1_goRest_19 rfl rfl cm_X1_restAct wf_173 wf_66 wf_67 rfl (Nat.le_of_ble_eq_true rfl) (Nat.le_of_ble_eq_true rfl) (Nat.le_of_ble_eq_true rfl) (Nat.le_of_ble_eq_true rfl) (s392_X1_restAct  (d + 1)  ) ?_
  rintro _ _ ⟨rfl, rfl⟩
  dsimp only [Option.toList, List.cons_append, List.nil_append]
  refine G_callV (pc := 22) (mc1 := 0) (ms1 := 0) (ci := 1) (mj := mX1_tell) (vs := [_]) dX1_goRest_22 rfl rfl cm_X1_tell wf_69 wf_71 wf_72 rfl (Nat.le_of_ble_eq_true rfl) (Nat.le_of_ble_eq_true rfl) (Nat.le_of_ble_eq_true rfl) (Nat.le_of_ble_eq_true rfl) (s393_X1_tell  d  ) ?_
  rintro _ _ ⟨rfl, rfl⟩
  dsimp only [Option.toList, List.cons_append, List.nil_append]
  refine G_aload_n (pc := 25) rfl dX1_goRest_25 ?_
  refine G_callV (pc := 26) (mc1 := 0) (ms1 := 0) (ci := 1) (mj := mX1_melt) (vs := []) dX1_goRest_26 rfl rfl cm_X1_melt wf_73 wf_75 wf_76 rfl (Nat.le_of_ble_eq_true rfl) (Nat.le_of_ble_eq_true rfl) (Nat.le_of_ble_eq_true rfl) (Nat.le_of_ble_eq_true rfl) (s395_X1_melt  (d + 1)  ) ?_
  rintro _ _ ⟨rfl, rfl⟩
  dsimp only [Option.toList, List.cons_append, List.nil_append]
  refine G_iadd (pc := 29) (z := 0) (by decide) dX1_goRest_29 ?_
  refine G_iadd (pc := 30) (z := 0) (by decide) dX1_goRest_30 ?_
  refine G_istore_n (pc := 31) (L1 := [some (.ref 19), some (.int 15), some (.int 0), some (.int 9)]) rfl rfl (by decide) dX1_goRest_31 ?_
  refine G_iinc (pc := 32) (v := 1) (w := 10) (L1 := [some (.ref 19), some (.int 15), some (.int 0), some (.int 10)]) (by decide) rfl rfl (by decide) rfl (by decide) dX1_goRest_32 ?_
  refine G_goto (pc := 35) (tgt := 4) (by decide) dX1_goRest_35 ?_
  refine G_iload_n (pc := 4) rfl dX1_goRest_4 ?_
  refine G_iload_n (pc := 5) rfl dX1_goRest_5 ?_
  refine G_icmp_ge (pc := 6) (tgt := 38) (by decide) dX1_goRest_6 (fun z => absurd z (by decide)) (fun _ => ?_)
  refine G_aload_n (pc := 9) rfl dX1_goRest_9 ?_
  refine G_callV (pc := 10) (mc1 := 0) (ms1 := 0) (ci := 1) (mj := mX1_isOver) (vs := []) dX1_goRest_10 rfl rfl cm_X1_isOver wf_172 wf_17 wf_18 rfl (Nat.le_of_ble_eq_true rfl) (Nat.le_of_ble_eq_true rfl) (Nat.le_of_ble_eq_true rfl) (Nat.le_of_ble_eq_true rfl) (s396_X1_isOver  (d + 1)  ) ?_
  rintro _ _ ⟨rfl, rfl⟩
  dsimp only [Option.toList, List.cons_append, List.nil_append]
  refine G_if_ne (pc := 13) (tgt := 38) (by decide) dX1_goRest_13 (fun z => absurd (by decide) z) (fun _ => ?_)
  refine G_iload_n (pc := 16) rfl dX1_goRest_16 ?_
  refine G_aload_n (pc := 17) rfl dX1_goRest_17 ?_
  refine G_aload_n (pc := 18) rfl dX1_goRest_18 ?_
  refine G_callV (pc := 19) (mc1 := 0) (ms1 := 0) (ci := 1) (mj := mX1_restAct) (vs := []) dX1_goRest_19 rfl rfl cm_X1_restAct wf_173 wf_66 wf_67 rfl (Nat.le_of_ble_eq_true rfl) (Nat.le_of_ble_eq_true rfl) (Nat.le_of_ble_eq_true rfl) (Nat.le_of_ble_eq_true rfl) (s397_X1_restAct  (d + 1)  ) ?_
  rintro _ _ ⟨rfl, rfl⟩
  dsimp only [Option.toList, List.cons_append, List.nil_append]
  refine G_callV (pc := 22) (mc1 := 0) (ms1 := 0) (ci := 1) (mj := mX1_tell) (vs := [_]) dX1_goRest_22 rfl rfl cm_X1_tell wf_69 wf_71 wf_72 rfl (Nat.le_of_ble_eq_true rfl) (Nat.le_of_ble_eq_true rfl) (Nat.le_of_ble_eq_true rfl) (Nat.le_of_ble_eq_true rfl) (s398_X1_tell  d  ) ?_
  rintro _ _ ⟨rfl, rfl⟩
  dsimp only [Option.toList, List.cons_append, List.nil_append]
  refine G_aload_n (pc := 25) rfl dX1_goRest_25 ?_
  refine G_callV (pc := 26) (mc1 := 0) (ms1 := 0) (ci := 1) (mj := mX1_melt) (vs := []) dX1_goRest_26 rfl rfl cm_X1_melt wf_73 wf_75 wf_76 rfl (Nat.le_of_ble_eq_true rfl) (Nat.le_of_ble_eq_true rfl) (Nat.le_of_ble_eq_true rfl) (Nat.le_of_ble_eq_true rfl) (s400_X1_melt  (d + 1)  ) ?_
  rintro _ _ ⟨rfl, rfl⟩
  dsimp only [Option.toList, List.cons_append, List.nil_append]
  refine G_iadd (pc := 29) (z := 0) (by decide) dX1_goRest_29 ?_
  refine G_iadd (pc := 30) (z := 0) (by decide) dX1_goRest_30 ?_
  refine G_istore_n (pc := 31) (L1 := [some (.ref 19), some (.int 15), some (.int 0), some (.int 10)]) rfl rfl (by decide) dX1_goRest_31 ?_
  refine G_iinc (pc := 32) (v := 1) (w := 11) (L1 := [some (.ref 19), some (.int 15), some (.int 0), some (.int 11)]) (by decide) rfl rfl (by decide) rfl (by decide) dX1_goRest_32 ?_
  refine G_goto (pc := 35) (tgt := 4) (by decide) dX1_goRest_35 ?_
  refine G_iload_n (pc := 4) rfl dX1_goRest_4 ?_
  refine G_iload_n (pc := 5) rfl dX1_goRest_5 ?_
  refine G_icmp_ge (pc := 6) (tgt := 38) (by decide) dX1_goRest_6 (fun z => absurd z (by decide)) (fun _ => ?_)
  refine G_aload_n (pc := 9) rfl dX1_goRest_9 ?_
  refine G_callV (pc := 10) (mc1 := 0) (ms1 := 0) (ci := 1) (mj := mX1_isOver) (vs := []) dX1_goRest_10 rfl rfl cm_X1_isOver wf_172 wf_17 wf_18 rfl (Nat.le_of_ble_eq_true rfl) (Nat.le_of_ble_eq_true rfl) (Nat.le_of_ble_eq_true rfl) (Nat.le_of_ble_eq_true rfl) (s401_X1_isOver  (d + 1)  ) ?_
  rintro _ _ ⟨rfl, rfl⟩
  dsimp only [Option.toList, List.cons_append, List.nil_append]
  refine G_if_ne (pc := 13) (tgt := 38) (by decide) dX1_goRest_13 (fun z => absurd (by decide) z) (fun _ => ?_)
  refine G_iload_n (pc := 16) rfl dX1_goRest_16 ?_
  refine G_aload_n (pc := 17) rfl dX1_goRest_17 ?_
  refine G_aload_n (pc := 18) rfl dX1_goRest_18 ?_
  refine G_callV (pc := 19) (mc1 := 0) (ms1 := 0) (ci := 1) (mj := mX1_restAct) (vs := []) dX1_goRest_19 rfl rfl cm_X1_restAct wf_173 wf_66 wf_67 rfl (Nat.le_of_ble_eq_true rfl) (Nat.le_of_ble_eq_true rfl) (Nat.le_of_ble_eq_true rfl) (Nat.le_of_ble_eq_true rfl) (s402_X1_restAct  (d + 1)  ) ?_
  rintro _ _ ⟨rfl, rfl⟩
  dsimp only [Option.toList, List.cons_append, List.nil_append]
  refine G_callV (pc := 22) (mc1 := 0) (ms1 := 0) (ci := 1) (mj := mX1_tell) (vs := [_]) dX1_goRest_22 rfl rfl cm_X1_tell wf_69 wf_71 wf_72 rfl (Nat.le_of_ble_eq_true rfl) (Nat.le_of_ble_eq_true rfl) (Nat.le_of_ble_eq_true rfl) (Nat.le_of_ble_eq_true rfl) (s403_X1_tell  d  ) ?_
  rintro _ _ ⟨rfl, rfl⟩
  dsimp only [Option.toList, List.cons_append, List.nil_append]
  refine G_aload_n (pc := 25) rfl dX1_goRest_25 ?_
  refine G_callV (pc := 26) (mc1 := 0) (ms1 := 0) (ci := 1) (mj := mX1_melt) (vs := []) dX1_goRest_26 rfl rfl cm_X1_melt wf_73 wf_75 wf_76 rfl (Nat.le_of_ble_eq_true rfl) (Nat.le_of_ble_eq_true rfl) (Nat.le_of_ble_eq_true rfl) (Nat.le_of_ble_eq_true rfl) (s405_X1_melt  (d + 1)  ) ?_
  rintro _ _ ⟨rfl, rfl⟩
  dsimp only [Option.toList, List.cons_append, List.nil_append]
  refine G_iadd (pc := 29) (z := 0) (by decide) dX1_goRest_29 ?_
  refine G_iadd (pc := 30) (z := 0) (by decide) dX1_goRest_30 ?_
  refine G_istore_n (pc := 31) (L1 := [some (.ref 19), some (.int 15), some (.int 0), some (.int 11)]) rfl rfl (by decide) dX1_goRest_31 ?_
  refine G_iinc (pc := 32) (v := 1) (w := 12) (L1 := [some (.ref 19), some (.int 15), some (.int 0), some (.int 12)]) (by decide) rfl rfl (by decide) rfl (by decide) dX1_goRest_32 ?_
  refine G_goto (pc := 35) (tgt := 4) (by decide) dX1_goRest_35 ?_
  refine G_iload_n (pc := 4) rfl dX1_goRest_4 ?_
  refine G_iload_n (pc := 5) rfl dX1_goRest_5 ?_
  refine G_icmp_ge (pc := 6) (tgt := 38) (by decide) dX1_goRest_6 (fun z => absurd z (by decide)) (fun _ => ?_)
  refine G_aload_n (pc := 9) rfl dX1_goRest_9 ?_
  refine G_callV (pc := 10) (mc1 := 0) (ms1 := 0) (ci := 1) (mj := mX1_isOver) (vs := []) dX1_goRest_10 rfl rfl cm_X1_isOver wf_172 wf_17 wf_18 rfl (Nat.le_of_ble_eq_true rfl) (Nat.le_of_ble_eq_true rfl) (Nat.le_of_ble_eq_true rfl) (Nat.le_of_ble_eq_true rfl) (s406_X1_isOver  (d + 1)  ) ?_
  rintro _ _ ⟨rfl, rfl⟩
  dsimp only [Option.toList, List.cons_append, List.nil_append]
  refine G_if_ne (pc := 13) (tgt := 38) (by decide) dX1_goRest_13 (fun _ => ?_) (fun z => absurd z (by decide))
  refine G_iload_n (pc := 38) rfl dX1_goRest_38 ?_
  exact G_iret (pc := 39) (Nat.le_of_ble_eq_true rfl) (Nat.le_of_ble_eq_true rfl) rfl dX1_goRest_39 ⟨rfl, rfl⟩
set_option maxRecDepth 100000 in
set_option maxHeartbeats 4000000 in
theorem s434_X1_goRest  (d : Nat)   : G (d + 2) mX1_goRest 0 0 0 0 0 (gent 4 [.ref 19, .int 16]) [] SH0 RF0 (gup (gup (gcp I0 24 34 (0 : Int32).toNatClampNeg (0 : Int32).toNatClampNeg (6 : Int32).toNatClampNeg) 34 6 0) 34 7 0) (fun r h => r = some (.int 0) ∧ h = (SH0, RF0, (gup (gup (gup (gup (gup (gup (gup (gup (gup (gup (gup (gup (gup (gup (gcp I0 24 34 (0 : Int32).toNatClampNeg (0 : Int32).toNatClampNeg (6 : Int32).toNatClampNeg) 34 6 0) 34 7 0) 19 1 1) 19 1 2) 19 1 3) 19 1 4) 19 1 5) 19 1 6) 19 1 7) 19 1 8) 19 1 9) 19 1 10) 19 1 11) 19 1 12))) := by
  refine G_iconst (pc := 0) (v := 0) (by decide) dX1_goRest_0 ?_
  refine G_istore_n (pc := 1) (L1 := [some (.ref 19), some (.int 16), some (.int 0), none]) rfl rfl (by decide) dX1_goRest_1 ?_
  refine G_iconst (pc := 2) (v := 0) (by decide) dX1_goRest_2 ?_
  refine G_istore_n (pc := 3) (L1 := [some (.ref 19), some (.int 16), some (.int 0), some (.int 0)]) rfl rfl (by decide) dX1_goRest_3 ?_
  refine G_iload_n (pc := 4) rfl dX1_goRest_4 ?_
  refine G_iload_n (pc := 5) rfl dX1_goRest_5 ?_
  refine G_icmp_ge (pc := 6) (tgt := 38) (by decide) dX1_goRest_6 (fun z => absurd z (by decide)) (fun _ => ?_)
  refine G_aload_n (pc := 9) rfl dX1_goRest_9 ?_
  refine G_callV (pc := 10) (mc1 := 0) (ms1 := 0) (ci := 1) (mj := mX1_isOver) (vs := []) dX1_goRest_10 rfl rfl cm_X1_isOver wf_172 wf_17 wf_18 rfl (Nat.le_of_ble_eq_true rfl) (Nat.le_of_ble_eq_true rfl) (Nat.le_of_ble_eq_true rfl) (Nat.le_of_ble_eq_true rfl) (s350_X1_isOver  (d + 1)  ) ?_
  rintro _ _ ⟨rfl, rfl⟩
  dsimp only [Option.toList, List.cons_append, List.nil_append]
  refine G_if_ne (pc := 13) (tgt := 38) (by decide) dX1_goRest_13 (fun z => absurd (by decide) z) (fun _ => ?_)
  refine G_iload_n (pc := 16) rfl dX1_goRest_16 ?_
  refine G_aload_n (pc := 17) rfl dX1_goRest_17 ?_
  refine G_aload_n (pc := 18) rfl dX1_goRest_18 ?_
  refine G_callV (pc := 19) (mc1 := 0) (ms1 := 0) (ci := 1) (mj := mX1_restAct) (vs := []) dX1_goRest_19 rfl rfl cm_X1_restAct wf_173 wf_66 wf_67 rfl (Nat.le_of_ble_eq_true rfl) (Nat.le_of_ble_eq_true rfl) (Nat.le_of_ble_eq_true rfl) (Nat.le_of_ble_eq_true rfl) (s351_X1_restAct  (d + 1)  ) ?_
  rintro _ _ ⟨rfl, rfl⟩
  dsimp only [Option.toList, List.cons_append, List.nil_append]
  refine G_callV (pc := 22) (mc1 := 0) (ms1 := 0) (ci := 1) (mj := mX1_tell) (vs := [_]) dX1_goRest_22 rfl rfl cm_X1_tell wf_69 wf_71 wf_72 rfl (Nat.le_of_ble_eq_true rfl) (Nat.le_of_ble_eq_true rfl) (Nat.le_of_ble_eq_true rfl) (Nat.le_of_ble_eq_true rfl) (s145_X1_tell  d  ) ?_
  rintro _ _ ⟨rfl, rfl⟩
  dsimp only [Option.toList, List.cons_append, List.nil_append]
  refine G_aload_n (pc := 25) rfl dX1_goRest_25 ?_
  refine G_callV (pc := 26) (mc1 := 0) (ms1 := 0) (ci := 1) (mj := mX1_melt) (vs := []) dX1_goRest_26 rfl rfl cm_X1_melt wf_73 wf_75 wf_76 rfl (Nat.le_of_ble_eq_true rfl) (Nat.le_of_ble_eq_true rfl) (Nat.le_of_ble_eq_true rfl) (Nat.le_of_ble_eq_true rfl) (s147_X1_melt  (d + 1)  ) ?_
  rintro _ _ ⟨rfl, rfl⟩
  dsimp only [Option.toList, List.cons_append, List.nil_append]
  refine G_iadd (pc := 29) (z := 0) (by decide) dX1_goRest_29 ?_
  refine G_iadd (pc := 30) (z := 0) (by decide) dX1_goRest_30 ?_
  refine G_istore_n (pc := 31) (L1 := [some (.ref 19), some (.int 16), some (.int 0), some (.int 0)]) rfl rfl (by decide) dX1_goRest_31 ?_
  refine G_iinc (pc := 32) (v := 1) (w := 1) (L1 := [some (.ref 19), some (.int 16), some (.int 0), some (.int 1)]) (by decide) rfl rfl (by decide) rfl (by decide) dX1_goRest_32 ?_
  refine G_goto (pc := 35) (tgt := 4) (by decide) dX1_goRest_35 ?_
  refine G_iload_n (pc := 4) rfl dX1_goRest_4 ?_
  refine G_iload_n (pc := 5) rfl dX1_goRest_5 ?_
  refine G_icmp_ge (pc := 6) (tgt := 38) (by decide) dX1_goRest_6 (fun z => absurd z (by decide)) (fun _ => ?_)
  refine G_aload_n (pc := 9) rfl dX1_goRest_9 ?_
  refine G_callV (pc := 10) (mc1 := 0) (ms1 := 0) (ci := 1) (mj := mX1_isOver) (vs := []) dX1_goRest_10 rfl rfl cm_X1_isOver wf_172 wf_17 wf_18 rfl (Nat.le_of_ble_eq_true rfl) (Nat.le_of_ble_eq_true rfl) (Nat.le_of_ble_eq_true rfl) (Nat.le_of_ble_eq_true rfl) (s155_X1_isOver  (d + 1)  ) ?_
  rintro _ _ ⟨rfl, rfl⟩
  dsimp only [Option.toList, List.cons_append, List.nil_append]
  refine G_if_ne (pc := 13) (tgt := 38) (by decide) dX1_goRest_13 (fun z => absurd (by decide) z) (fun _ => ?_)
  refine G_iload_n (pc := 16) rfl dX1_goRest_16 ?_
  refine G_aload_n (pc := 17) rfl dX1_goRest_17 ?_
  refine G_aload_n (pc := 18) rfl dX1_goRest_18 ?_
  refine G_callV (pc := 19) (mc1 := 0) (ms1 := 0) (ci := 1) (mj := mX1_restAct) (vs := []) dX1_goRest_19 rfl rfl cm_X1_restAct wf_173 wf_66 wf_67 rfl (Nat.le_of_ble_eq_true rfl) (Nat.le_of_ble_eq_true rfl) (Nat.le_of_ble_eq_true rfl) (Nat.le_of_ble_eq_true rfl) (s352_X1_restAct  (d + 1)  ) ?_
  rintro _ _ ⟨rfl, rfl⟩
  dsimp only [Option.toList, List.cons_append, List.nil_append]
  refine G_callV (pc := 22) (mc1 := 0) (ms1 := 0) (ci := 1) (mj := mX1_tell) (vs := [_]) dX1_goRest_22 rfl rfl cm_X1_tell wf_69 wf_71 wf_72 rfl (Nat.le_of_ble_eq_true rfl) (Nat.le_of_ble_eq_true rfl) (Nat.le_of_ble_eq_true rfl) (Nat.le_of_ble_eq_true rfl) (s353_X1_tell  d  ) ?_
  rintro _ _ ⟨rfl, rfl⟩
  dsimp only [Option.toList, List.cons_append, List.nil_append]
  refine G_aload_n (pc := 25) rfl dX1_goRest_25 ?_
  refine G_callV (pc := 26) (mc1 := 0) (ms1 := 0) (ci := 1) (mj := mX1_melt) (vs := []) dX1_goRest_26 rfl rfl cm_X1_melt wf_73 wf_75 wf_76 rfl (Nat.le_of_ble_eq_true rfl) (Nat.le_of_ble_eq_true rfl) (Nat.le_of_ble_eq_true rfl) (Nat.le_of_ble_eq_true rfl) (s355_X1_melt  (d + 1)  ) ?_
  rintro _ _ ⟨rfl, rfl⟩
  dsimp only [Option.toList, List.cons_append, List.nil_append]
  refine G_iadd (pc := 29) (z := 0) (by decide) dX1_goRest_29 ?_
  refine G_iadd (pc := 30) (z := 0) (by decide) dX1_goRest_30 ?_
  refine G_istore_n (pc := 31) (L1 := [some (.ref 19), some (.int 16), some (.int 0), some (.int 1)]) rfl rfl (by decide) dX1_goRest_31 ?_
  refine G_iinc (pc := 32) (v := 1) (w := 2) (L1 := [some (.ref 19), some (.int 16), some (.int 0), some (.int 2)]) (by decide) rfl rfl (by decide) rfl (by decide) dX1_goRest_32 ?_
  refine G_goto (pc := 35) (tgt := 4) (by decide) dX1_goRest_35 ?_
  refine G_iload_n (pc := 4) rfl dX1_goRest_4 ?_
  refine G_iload_n (pc := 5) rfl dX1_goRest_5 ?_
  refine G_icmp_ge (pc := 6) (tgt := 38) (by decide) dX1_goRest_6 (fun z => absurd z (by decide)) (fun _ => ?_)
  refine G_aload_n (pc := 9) rfl dX1_goRest_9 ?_
  refine G_callV (pc := 10) (mc1 := 0) (ms1 := 0) (ci := 1) (mj := mX1_isOver) (vs := []) dX1_goRest_10 rfl rfl cm_X1_isOver wf_172 wf_17 wf_18 rfl (Nat.le_of_ble_eq_true rfl) (Nat.le_of_ble_eq_true rfl) (Nat.le_of_ble_eq_true rfl) (Nat.le_of_ble_eq_true rfl) (s356_X1_isOver  (d + 1)  ) ?_
  rintro _ _ ⟨rfl, rfl⟩
  dsimp only [Option.toList, List.cons_append, List.nil_append]
  refine G_if_ne (pc := 13) (tgt := 38) (by decide) dX1_goRest_13 (fun z => absurd (by decide) z) (fun _ => ?_)
  refine G_iload_n (pc := 16) rfl dX1_goRest_16 ?_
  refine G_aload_n (pc := 17) rfl dX1_goRest_17 ?_
  refine G_aload_n (pc := 18) rfl dX1_goRest_18 ?_
  refine G_callV (pc := 19) (mc1 := 0) (ms1 := 0) (ci := 1) (mj := mX1_restAct) (vs := []) dX1_goRest_19 rfl rfl cm_X1_restAct wf_173 wf_66 wf_67 rfl (Nat.le_of_ble_eq_true rfl) (Nat.le_of_ble_eq_true rfl) (Nat.le_of_ble_eq_true rfl) (Nat.le_of_ble_eq_true rfl) (s357_X1_restAct  (d + 1)  ) ?_
  rintro _ _ ⟨rfl, rfl⟩
  dsimp only [Option.toList, List.cons_append, List.nil_append]
  refine G_callV (pc := 22) (mc1 := 0) (ms1 := 0) (ci := 1) (mj := mX1_tell) (vs := [_]) dX1_goRest_22 rfl rfl cm_X1_tell wf_69 wf_71 wf_72 rfl (Nat.le_of_ble_eq_true rfl) (Nat.le_of_ble_eq_true rfl) (Nat.le_of_ble_eq_true rfl) (Nat.le_of_ble_eq_true rfl) (s358_X1_tell  d  ) ?_
  rintro _ _ ⟨rfl, rfl⟩
  dsimp only [Option.toList, List.cons_append, List.nil_append]
  refine G_aload_n (pc := 25) rfl dX1_goRest_25 ?_
  refine G_callV (pc := 26) (mc1 := 0) (ms1 := 0) (ci := 1) (mj := mX1_melt) (vs := []) dX1_goRest_26 rfl rfl cm_X1_melt wf_73 wf_75 wf_76 rfl (Nat.le_of_ble_eq_true rfl) (Nat.le_of_ble_eq_true rfl) (Nat.le_of_ble_eq_true rfl) (Nat.le_of_ble_eq_true rfl) (s360_X1_melt  (d + 1)  ) ?_
  rintro _ _ ⟨rfl, rfl⟩
  dsimp only [Option.toList, List.cons_append, List.nil_append]
  refine G_iadd (pc := 29) (z := 0) (by decide) dX1_goRest_29 ?_
  refine G_iadd (pc := 30) (z := 0) (by decide) dX1_goRest_30 ?_
  refine G_istore_n (pc := 31) (L1 := [some (.ref 19), some (.int 16), some (.int 0), some (.int 2)]) rfl rfl (by decide) dX1_goRest_31 ?_
  refine G_iinc (pc := 32) (v := 1) (w := 3) (L1 := [some (.ref 19), some (.int 16), some (.int 0), some (.int 3)]) (by decide) rfl rfl (by decide) rfl (by decide) dX1_goRest_32 ?_
  refine G_goto (pc := 35) (tgt := 4) (by decide) dX1_goRest_35 ?_
  refine G_iload_n (pc := 4) rfl dX1_goRest_4 ?_
  refine G_iload_n (pc := 5) rfl dX1_goRest_5 ?_
  refine G_icmp_ge (pc := 6) (tgt := 38) (by decide) dX1_goRest_6 (fun z => absurd z (by decide)) (fun _ => ?_)
  refine G_aload_n (pc := 9) rfl dX1_goRest_9 ?_
  refine G_callV (pc := 10) (mc1 := 0) (ms1 := 0) (ci := 1) (mj := mX1_isOver) (vs := []) dX1_goRest_10 rfl rfl cm_X1_isOver wf_172 wf_17 wf_18 rfl (Nat.le_of_ble_eq_true rfl) (Nat.le_of_ble_eq_true rfl) (Nat.le_of_ble_eq_true rfl) (Nat.le_of_ble_eq_true rfl) (s361_X1_isOver  (d + 1)  ) ?_
  rintro _ _ ⟨rfl, rfl⟩
  dsimp only [Option.toList, List.cons_append, List.nil_append]
  refine G_if_ne (pc := 13) (tgt := 38) (by decide) dX1_goRest_13 (fun z => absurd (by decide) z) (fun _ => ?_)
  refine G_iload_n (pc := 16) rfl dX1_goRest_16 ?_
  refine G_aload_n (pc := 17) rfl dX1_goRest_17 ?_
  refine G_aload_n (pc := 18) rfl dX1_goRest_18 ?_
  refine G_callV (pc := 19) (mc1 := 0) (ms1 := 0) (ci := 1) (mj := mX1_restAct) (vs := []) dX1_goRest_19 rfl rfl cm_X1_restAct wf_173 wf_66 wf_67 rfl (Nat.le_of_ble_eq_true rfl) (Nat.le_of_ble_eq_true rfl) (Nat.le_of_ble_eq_true rfl) (Nat.le_of_ble_eq_true rfl) (s362_X1_restAct  (d + 1)  ) ?_
  rintro _ _ ⟨rfl, rfl⟩
  dsimp only [Option.toList, List.cons_append, List.nil_append]
  refine G_callV (pc := 22) (mc1 := 0) (ms1 := 0) (ci := 1) (mj := mX1_tell) (vs := [_]) dX1_goRest_22 rfl rfl cm_X1_tell wf_69 wf_71 wf_72 rfl (Nat.le_of_ble_eq_true rfl) (Nat.le_of_ble_eq_true rfl) (Nat.le_of_ble_eq_true rfl) (Nat.le_of_ble_eq_true rfl) (s363_X1_tell  d  ) ?_
  rintro _ _ ⟨rfl, rfl⟩
  dsimp only [Option.toList, List.cons_append, List.nil_append]
  refine G_aload_n (pc := 25) rfl dX1_goRest_25 ?_
  refine G_callV (pc := 26) (mc1 := 0) (ms1 := 0) (ci := 1) (mj := mX1_melt) (vs := []) dX1_goRest_26 rfl rfl cm_X1_melt wf_73 wf_75 wf_76 rfl (Nat.le_of_ble_eq_true rfl) (Nat.le_of_ble_eq_true rfl) (Nat.le_of_ble_eq_true rfl) (Nat.le_of_ble_eq_true rfl) (s365_X1_melt  (d + 1)  ) ?_
  rintro _ _ ⟨rfl, rfl⟩
  dsimp only [Option.toList, List.cons_append, List.nil_append]
  refine G_iadd (pc := 29) (z := 0) (by decide) dX1_goRest_29 ?_
  refine G_iadd (pc := 30) (z := 0) (by decide) dX1_goRest_30 ?_
  refine G_istore_n (pc := 31) (L1 := [some (.ref 19), some (.int 16), some (.int 0), some (.int 3)]) rfl rfl (by decide) dX1_goRest_31 ?_
  refine G_iinc (pc := 32) (v := 1) (w := 4) (L1 := [some (.ref 19), some (.int 16), some (.int 0), some (.int 4)]) (by decide) rfl rfl (by decide) rfl (by decide) dX1_goRest_32 ?_
  refine G_goto (pc := 35) (tgt := 4) (by decide) dX1_goRest_35 ?_
  refine G_iload_n (pc := 4) rfl dX1_goRest_4 ?_
  refine G_iload_n (pc := 5) rfl dX1_goRest_5 ?_
  refine G_icmp_ge (pc := 6) (tgt := 38) (by decide) dX1_goRest_6 (fun z => absurd z (by decide)) (fun _ => ?_)
  refine G_aload_n (pc := 9) rfl dX1_goRest_9 ?_
  refine G_callV (pc := 10) (mc1 := 0) (ms1 := 0) (ci := 1) (mj := mX1_isOver) (vs := []) dX1_goRest_10 rfl rfl cm_X1_isOver wf_172 wf_17 wf_18 rfl (Nat.le_of_ble_eq_true rfl) (Nat.le_of_ble_eq_true rfl) (Nat.le_of_ble_eq_true rfl) (Nat.le_of_ble_eq_true rfl) (s366_X1_isOver  (d + 1)  ) ?_
  rintro _ _ ⟨rfl, rfl⟩
  dsimp only [Option.toList, List.cons_append, List.nil_append]
  refine G_if_ne (pc := 13) (tgt := 38) (by decide) dX1_goRest_13 (fun z => absurd (by decide) z) (fun _ => ?_)
  refine G_iload_n (pc := 16) rfl dX1_goRest_16 ?_
  refine G_aload_n (pc := 17) rfl dX1_goRest_17 ?_
  refine G_aload_n (pc := 18) rfl dX1_goRest_18 ?_
  refine G_callV (pc := 19) (mc1 := 0) (ms1 := 0) (ci := 1) (mj := mX1_restAct) (vs := []) dX1_goRest_19 rfl rfl cm_X1_restAct wf_173 wf_66 wf_67 rfl (Nat.le_of_ble_eq_true rfl) (Nat.le_of_ble_eq_true rfl) (Nat.le_of_ble_eq_true rfl) (Nat.le_of_ble_eq_true rfl) (s367_X1_restAct  (d + 1)  ) ?_
  rintro _ _ ⟨rfl, rfl⟩
  dsimp only [Option.toList, List.cons_append, List.nil_append]
  refine G_callV (pc := 22) (mc1 := 0) (ms1 := 0) (ci := 1) (mj := mX1_tell) (vs := [_]) dX1_goRest_22 rfl rfl cm_X1_tell wf_69 wf_71 wf_72 rfl (Nat.le_of_ble_eq_true rfl) (Nat.le_of_ble_eq_true rfl) (Nat.le_of_ble_eq_true rfl) (Nat.le_of_ble_eq_true rfl) (s368_X1_tell  d  ) ?_
  rintro _ _ ⟨rfl, rfl⟩
  dsimp only [Option.toList, List.cons_append, List.nil_append]
  refine G_aload_n (pc := 25) rfl dX1_goRest_25 ?_
  refine G_callV (pc := 26) (mc1 := 0) (ms1 := 0) (ci := 1) (mj := mX1_melt) (vs := []) dX1_goRest_26 rfl rfl cm_X1_melt wf_73 wf_75 wf_76 rfl (Nat.le_of_ble_eq_true rfl) (Nat.le_of_ble_eq_true rfl) (Nat.le_of_ble_eq_true rfl) (Nat.le_of_ble_eq_true rfl) (s370_X1_melt  (d + 1)  ) ?_
  rintro _ _ ⟨rfl, rfl⟩
  dsimp only [Option.toList, List.cons_append, List.nil_append]
  refine G_iadd (pc := 29) (z := 0) (by decide) dX1_goRest_29 ?_
  refine G_iadd (pc := 30) (z := 0) (by decide) dX1_goRest_30 ?_
  refine G_istore_n (pc := 31) (L1 := [some (.ref 19), some (.int 16), some (.int 0), some (.int 4)]) rfl rfl (by decide) dX1_goRest_31 ?_
  refine G_iinc (pc := 32) (v := 1) (w := 5) (L1 := [some (.ref 19), some (.int 16), some (.int 0), some (.int 5)]) (by decide) rfl rfl (by decide) rfl (by decide) dX1_goRest_32 ?_
  refine G_goto (pc := 35) (tgt := 4) (by decide) dX1_goRest_35 ?_
  refine G_iload_n (pc := 4) rfl dX1_goRest_4 ?_
  refine G_iload_n (pc := 5) rfl dX1_goRest_5 ?_
  refine G_icmp_ge (pc := 6) (tgt := 38) (by decide) dX1_goRest_6 (fun z => absurd z (by decide)) (fun _ => ?_)
  refine G_aload_n (pc := 9) rfl dX1_goRest_9 ?_
  refine G_callV (pc := 10) (mc1 := 0) (ms1 := 0) (ci := 1) (mj := mX1_isOver) (vs := []) dX1_goRest_10 rfl rfl cm_X1_isOver wf_172 wf_17 wf_18 rfl (Nat.le_of_ble_eq_true rfl) (Nat.le_of_ble_eq_true rfl) (Nat.le_of_ble_eq_true rfl) (Nat.le_of_ble_eq_true rfl) (s371_X1_isOver  (d + 1)  ) ?_
  rintro _ _ ⟨rfl, rfl⟩
  dsimp only [Option.toList, List.cons_append, List.nil_append]
  refine G_if_ne (pc := 13) (tgt := 38) (by decide) dX1_goRest_13 (fun z => absurd (by decide) z) (fun _ => ?_)
  refine G_iload_n (pc := 16) rfl dX1_goRest_16 ?_
  refine G_aload_n (pc := 17) rfl dX1_goRest_17 ?_
  refine G_aload_n (pc := 18) rfl dX1_goRest_18 ?_
  refine G_callV (pc := 19) (mc1 := 0) (ms1 := 0) (ci := 1) (mj := mX1_restAct) (vs := []) dX1_goRest_19 rfl rfl cm_X1_restAct wf_173 wf_66 wf_67 rfl (Nat.le_of_ble_eq_true rfl) (Nat.le_of_ble_eq_true rfl) (Nat.le_of_ble_eq_true rfl) (Nat.le_of_ble_eq_true rfl) (s372_X1_restAct  (d + 1)  ) ?_
  rintro _ _ ⟨rfl, rfl⟩
  dsimp only [Option.toList, List.cons_append, List.nil_append]
  refine G_callV (pc := 22) (mc1 := 0) (ms1 := 0) (ci := 1) (mj := mX1_tell) (vs := [_]) dX1_goRest_22 rfl rfl cm_X1_tell wf_69 wf_71 wf_72 rfl (Nat.le_of_ble_eq_true rfl) (Nat.le_of_ble_eq_true rfl) (Nat.le_of_ble_eq_true rfl) (Nat.le_of_ble_eq_true rfl) (s373_X1_tell  d  ) ?_
  rintro _ _ ⟨rfl, rfl⟩
  dsimp only [Option.toList, List.cons_append, List.nil_append]
  refine G_aload_n (pc := 25) rfl dX1_goRest_25 ?_
  refine G_callV (pc := 26) (mc1 := 0) (ms1 := 0) (ci := 1) (mj := mX1_melt) (vs := []) dX1_goRest_26 rfl rfl cm_X1_melt wf_73 wf_75 wf_76 rfl (Nat.le_of_ble_eq_true rfl) (Nat.le_of_ble_eq_true rfl) (Nat.le_of_ble_eq_true rfl) (Nat.le_of_ble_eq_true rfl) (s375_X1_melt  (d + 1)  ) ?_
  rintro _ _ ⟨rfl, rfl⟩
  dsimp only [Option.toList, List.cons_append, List.nil_append]
  refine G_iadd (pc := 29) (z := 0) (by decide) dX1_goRest_29 ?_
  refine G_iadd (pc := 30) (z := 0) (by decide) dX1_goRest_30 ?_
  refine G_istore_n (pc := 31) (L1 := [some (.ref 19), some (.int 16), some (.int 0), some (.int 5)]) rfl rfl (by decide) dX1_goRest_31 ?_
  refine G_iinc (pc := 32) (v := 1) (w := 6) (L1 := [some (.ref 19), some (.int 16), some (.int 0), some (.int 6)]) (by decide) rfl rfl (by decide) rfl (by decide) dX1_goRest_32 ?_
  refine G_goto (pc := 35) (tgt := 4) (by decide) dX1_goRest_35 ?_
  refine G_iload_n (pc := 4) rfl dX1_goRest_4 ?_
  refine G_iload_n (pc := 5) rfl dX1_goRest_5 ?_
  refine G_icmp_ge (pc := 6) (tgt := 38) (by decide) dX1_goRest_6 (fun z => absurd z (by decide)) (fun _ => ?_)
  refine G_aload_n (pc := 9) rfl dX1_goRest_9 ?_
  refine G_callV (pc := 10) (mc1 := 0) (ms1 := 0) (ci := 1) (mj := mX1_isOver) (vs := []) dX1_goRest_10 rfl rfl cm_X1_isOver wf_172 wf_17 wf_18 rfl (Nat.le_of_ble_eq_true rfl) (Nat.le_of_ble_eq_true rfl) (Nat.le_of_ble_eq_true rfl) (Nat.le_of_ble_eq_true rfl) (s376_X1_isOver  (d + 1)  ) ?_
  rintro _ _ ⟨rfl, rfl⟩
  dsimp only [Option.toList, List.cons_append, List.nil_append]
  refine G_if_ne (pc := 13) (tgt := 38) (by decide) dX1_goRest_13 (fun z => absurd (by decide) z) (fun _ => ?_)
  refine G_iload_n (pc := 16) rfl dX1_goRest_16 ?_
  refine G_aload_n (pc := 17) rfl dX1_goRest_17 ?_
  refine G_aload_n (pc := 18) rfl dX1_goRest_18 ?_
  refine G_callV (pc := 19) (mc1 := 0) (ms1 := 0) (ci := 1) (mj := mX1_restAct) (vs := []) dX1_goRest_19 rfl rfl cm_X1_restAct wf_173 wf_66 wf_67 rfl (Nat.le_of_ble_eq_true rfl) (Nat.le_of_ble_eq_true rfl) (Nat.le_of_ble_eq_true rfl) (Nat.le_of_ble_eq_true rfl) (s377_X1_restAct  (d + 1)  ) ?_
  rintro _ _ ⟨rfl, rfl⟩
  dsimp only [Option.toList, List.cons_append, List.nil_append]
  refine G_callV (pc := 22) (mc1 := 0) (ms1 := 0) (ci := 1) (mj := mX1_tell) (vs := [_]) dX1_goRest_22 rfl rfl cm_X1_tell wf_69 wf_71 wf_72 rfl (Nat.le_of_ble_eq_true rfl) (Nat.le_of_ble_eq_true rfl) (Nat.le_of_ble_eq_true rfl) (Nat.le_of_ble_eq_true rfl) (s378_X1_tell  d  ) ?_
  rintro _ _ ⟨rfl, rfl⟩
  dsimp only [Option.toList, List.cons_append, List.nil_append]
  refine G_aload_n (pc := 25) rfl dX1_goRest_25 ?_
  refine G_callV (pc := 26) (mc1 := 0) (ms1 := 0) (ci := 1) (mj := mX1_melt) (vs := []) dX1_goRest_26 rfl rfl cm_X1_melt wf_73 wf_75 wf_76 rfl (Nat.le_of_ble_eq_true rfl) (Nat.le_of_ble_eq_true rfl) (Nat.le_of_ble_eq_true rfl) (Nat.le_of_ble_eq_true rfl) (s380_X1_melt  (d + 1)  ) ?_
  rintro _ _ ⟨rfl, rfl⟩
  dsimp only [Option.toList, List.cons_append, List.nil_append]
  refine G_iadd (pc := 29) (z := 0) (by decide) dX1_goRest_29 ?_
  refine G_iadd (pc := 30) (z := 0) (by decide) dX1_goRest_30 ?_
  refine G_istore_n (pc := 31) (L1 := [some (.ref 19), some (.int 16), some (.int 0), some (.int 6)]) rfl rfl (by decide) dX1_goRest_31 ?_
  refine G_iinc (pc := 32) (v := 1) (w := 7) (L1 := [some (.ref 19), some (.int 16), some (.int 0), some (.int 7)]) (by decide) rfl rfl (by decide) rfl (by decide) dX1_goRest_32 ?_
  refine G_goto (pc := 35) (tgt := 4) (by decide) dX1_goRest_35 ?_
  refine G_iload_n (pc := 4) rfl dX1_goRest_4 ?_
  refine G_iload_n (pc := 5) rfl dX1_goRest_5 ?_
  refine G_icmp_ge (pc := 6) (tgt := 38) (by decide) dX1_goRest_6 (fun z => absurd z (by decide)) (fun _ => ?_)
  refine G_aload_n (pc := 9) rfl dX1_goRest_9 ?_
  refine G_callV (pc := 10) (mc1 := 0) (ms1 := 0) (ci := 1) (mj := mX1_isOver) (vs := []) dX1_goRest_10 rfl rfl cm_X1_isOver wf_172 wf_17 wf_18 rfl (Nat.le_of_ble_eq_true rfl) (Nat.le_of_ble_eq_true rfl) (Nat.le_of_ble_eq_true rfl) (Nat.le_of_ble_eq_true rfl) (s381_X1_isOver  (d + 1)  ) ?_
  rintro _ _ ⟨rfl, rfl⟩
  dsimp only [Option.toList, List.cons_append, List.nil_append]
  refine G_if_ne (pc := 13) (tgt := 38) (by decide) dX1_goRest_13 (fun z => absurd (by decide) z) (fun _ => ?_)
  refine G_iload_n (pc := 16) rfl dX1_goRest_16 ?_
  refine G_aload_n (pc := 17) rfl dX1_goRest_17 ?_
  refine G_aload_n (pc := 18) rfl dX1_goRest_18 ?_
  refine G_callV (pc := 19) (mc1 := 0) (ms1 := 0) (ci := 1) (mj := mX1_restAct) (vs := []) dX1_goRest_19 rfl rfl cm_X1_restAct wf_173 wf_66 wf_67 rfl (Nat.le_of_ble_eq_true rfl) (Nat.le_of_ble_eq_true rfl) (Nat.le_of_ble_eq_true rfl) (Nat.le_of_ble_eq_true rfl) (s382_X1_restAct  (d + 1)  ) ?_
  rintro _ _ ⟨rfl, rfl⟩
  dsimp only [Option.toList, List.cons_append, List.nil_append]
  refine G_callV (pc := 22) (mc1 := 0) (ms1 := 0) (ci := 1) (mj := mX1_tell) (vs := [_]) dX1_goRest_22 rfl rfl cm_X1_tell wf_69 wf_71 wf_72 rfl (Nat.le_of_ble_eq_true rfl) (Nat.le_of_ble_eq_true rfl) (Nat.le_of_ble_eq_true rfl) (Nat.le_of_ble_eq_true rfl) (s383_X1_tell  d  ) ?_
  rintro _ _ ⟨rfl, rfl⟩
  dsimp only [Option.toList, List.cons_append, List.nil_append]
  refine G_aload_n (pc := 25) rfl dX1_goRest_25 ?_
  refine G_callV (pc := 26) (mc1 := 0) (ms1 := 0) (ci := 1) (mj := mX1_melt) (vs := []) dX1_goRest_26 rfl rfl cm_X1_melt wf_73 wf_75 wf_76 rfl (Nat.le_of_ble_eq_true rfl) (Nat.le_of_ble_eq_true rfl) (Nat.le_of_ble_eq_true rfl) (Nat.le_of_ble_eq_true rfl) (s385_X1_melt  (d + 1)  ) ?_
  rintro _ _ ⟨rfl, rfl⟩
  dsimp only [Option.toList, List.cons_append, List.nil_append]
  refine G_iadd (pc := 29) (z := 0) (by decide) dX1_goRest_29 ?_
  refine G_iadd (pc := 30) (z := 0) (by decide) dX1_goRest_30 ?_
  refine G_istore_n (pc := 31) (L1 := [some (.ref 19), some (.int 16), some (.int 0), some (.int 7)]) rfl rfl (by decide) dX1_goRest_31 ?_
  refine G_iinc (pc := 32) (v := 1) (w := 8) (L1 := [some (.ref 19), some (.int 16), some (.int 0), some (.int 8)]) (by decide) rfl rfl (by decide) rfl (by decide) dX1_goRest_32 ?_
  refine G_goto (pc := 35) (tgt := 4) (by decide) dX1_goRest_35 ?_
  refine G_iload_n (pc := 4) rfl dX1_goRest_4 ?_
  refine G_iload_n (pc := 5) rfl dX1_goRest_5 ?_
  refine G_icmp_ge (pc := 6) (tgt := 38) (by decide) dX1_goRest_6 (fun z => absurd z (by decide)) (fun _ => ?_)
  refine G_aload_n (pc := 9) rfl dX1_goRest_9 ?_
  refine G_callV (pc := 10) (mc1 := 0) (ms1 := 0) (ci := 1) (mj := mX1_isOver) (vs := []) dX1_goRest_10 rfl rfl cm_X1_isOver wf_172 wf_17 wf_18 rfl (Nat.le_of_ble_eq_true rfl) (Nat.le_of_ble_eq_true rfl) (Nat.le_of_ble_eq_true rfl) (Nat.le_of_ble_eq_true rfl) (s386_X1_isOver  (d + 1)  ) ?_
  rintro _ _ ⟨rfl, rfl⟩
  dsimp only [Option.toList, List.cons_append, List.nil_append]
  refine G_if_ne (pc := 13) (tgt := 38) (by decide) dX1_goRest_13 (fun z => absurd (by decide) z) (fun _ => ?_)
  refine G_iload_n (pc := 16) rfl dX1_goRest_16 ?_
  refine G_aload_n (pc := 17) rfl dX1_goRest_17 ?_
  refine G_aload_n (pc := 18) rfl dX1_goRest_18 ?_
  refine G_callV (pc := 19) (mc1 := 0) (ms1 := 0) (ci := 1) (mj := mX1_restAct) (vs := []) dX1_goRest_19 rfl rfl cm_X1_restAct wf_173 wf_66 wf_67 rfl (Nat.le_of_ble_eq_true rfl) (Nat.le_of_ble_eq_true rfl) (Nat.le_of_ble_eq_true rfl) (Nat.le_of_ble_eq_true rfl) (s387_X1_restAct  (d + 1)  ) ?_
  rintro _ _ ⟨rfl, rfl⟩
  dsimp only [Option.toList, List.cons_append, List.nil_append]
  refine G_callV (pc := 22) (mc1 := 0) (ms1 := 0) (ci := 1) (mj := mX1_tell) (vs := [_]) dX1_goRest_22 rfl rfl cm_X1_tell wf_69 wf_71 wf_72 rfl (Nat.le_of_ble_eq_true rfl) (Nat.le_of_ble_eq_true rfl) (Nat.le_of_ble_eq_true rfl) (Nat.le_of_ble_eq_true rfl) (s388_X1_tell  d  ) ?_
  rintro _ _ ⟨rfl, rfl⟩
  dsimp only [Option.toList, List.cons_append, List.nil_append]
  refine G_aload_n (pc := 25) rfl dX1_goRest_25 ?_
  refine G_callV (pc := 26) (mc1 := 0) (ms1 := 0) (ci := 1) (mj := mX1_melt) (vs := []) dX1_goRest_26 rfl rfl cm_X1_melt wf_73 wf_75 wf_76 rfl (Nat.le_of_ble_eq_true rfl) (Nat.le_of_ble_eq_true rfl) (Nat.le_of_ble_eq_true rfl) (Nat.le_of_ble_eq_true rfl) (s390_X1_melt  (d + 1)  ) ?_
  rintro _ _ ⟨rfl, rfl⟩
  dsimp only [Option.toList, List.cons_append, List.nil_append]
  refine G_iadd (pc := 29) (z := 0) (by decide) dX1_goRest_29 ?_
  refine G_iadd (pc := 30) (z := 0) (by decide) dX1_goRest_30 ?_
  refine G_istore_n (pc := 31) (L1 := [some (.ref 19), some (.int 16), some (.int 0), some (.int 8)]) rfl rfl (by decide) dX1_goRest_31 ?_
  refine G_iinc (pc := 32) (v := 1) (w := 9) (L1 := [some (.ref 19), some (.int 16), some (.int 0), some (.int 9)]) (by decide) rfl rfl (by decide) rfl (by decide) dX1_goRest_32 ?_
  refine G_goto (pc := 35) (tgt := 4) (by decide) dX1_goRest_35 ?_
  refine G_iload_n (pc := 4) rfl dX1_goRest_4 ?_
  refine G_iload_n (pc := 5) rfl dX1_goRest_5 ?_
  refine G_icmp_ge (pc := 6) (tgt := 38) (by decide) dX1_goRest_6 (fun z => absurd z (by decide)) (fun _ => ?_)
  refine G_aload_n (pc := 9) rfl dX1_goRest_9 ?_
  refine G_callV (pc := 10) (mc1 := 0) (ms1 := 0) (ci := 1) (mj := mX1_isOver) (vs := []) dX1_goRest_10 rfl rfl cm_X1_isOver wf_172 wf_17 wf_18 rfl (Nat.le_of_ble_eq_true rfl) (Nat.le_of_ble_eq_true rfl) (Nat.le_of_ble_eq_true rfl) (Nat.le_of_ble_eq_true rfl) (s391_X1_isOver  (d + 1)  ) ?_
  rintro _ _ ⟨rfl, rfl⟩
  dsimp only [Option.toList, List.cons_append, List.nil_append]
  refine G_if_ne (pc := 13) (tgt := 38) (by decide) dX1_goRest_13 (fun z => absurd (by decide) z) (fun _ => ?_)
  refine G_iload_n (pc := 16) rfl dX1_goRest_16 ?_
  refine G_aload_n (pc := 17) rfl dX1_goRest_17 ?_
  refine G_aload_n (pc := 18) rfl dX1_goRest_18 ?_
  refine G_callV (pc := 19) (mc1 := 0) (ms1 := 0) (ci := 1) (mj := mX1_restAct) (vs := []) dX1_goRest_19 rfl rfl cm_X1_restAct wf_173 wf_66 wf_67 rfl (Nat.le_of_ble_eq_true rfl) (Nat.le_of_ble_eq_true rfl) (Nat.le_of_ble_eq_true rfl) (Nat.le_of_ble_eq_true rfl) (s392_X1_restAct  (d + 1)  ) ?_
  rintro _ _ ⟨rfl, rfl⟩
  dsimp only [Option.toList, List.cons_append, List.nil_append]
  refine G_callV (pc := 22) (mc1 := 0) (ms1 := 0) (ci := 1) (mj := mX1_tell) (vs := [_]) dX1_goRest_22 rfl rfl cm_X1_tell wf_69 wf_71 wf_72 rfl (Nat.le_of_ble_eq_true rfl) (Nat.le_of_ble_eq_true rfl) (Nat.le_of_ble_eq_true rfl) (Nat.le_of_ble_eq_true rfl) (s393_X1_tell  d  ) ?_
  rintro _ _ ⟨rfl, rfl⟩
  dsimp only [Option.toList, List.cons_append, List.nil_append]
  refine G_aload_n (pc := 25) rfl dX1_goRest_25 ?_
  refine G_callV (pc := 26) (mc1 := 0) (ms1 := 0) (ci := 1) (mj := mX1_melt) (vs := []) dX1_goRest_26 rfl rfl cm_X1_melt wf_73 wf_75 wf_76 rfl (Nat.le_of_ble_eq_true rfl) (Nat.le_of_ble_eq_true rfl) (Nat.le_of_ble_eq_true rfl) (Nat.le_of_ble_eq_true rfl) (s395_X1_melt  (d + 1)  ) ?_
  rintro _ _ ⟨rfl, rfl⟩
  dsimp only [Option.toList, List.cons_append, List.nil_append]
  refine G_iadd (pc := 29) (z := 0) (by decide) dX1_goRest_29 ?_
  refine G_iadd (pc := 30) (z := 0) (by decide) dX1_goRest_30 ?_
  refine G_istore_n (pc := 31) (L1 := [some (.ref 19), some (.int 16), some (.int 0), some (.int 9)]) rfl rfl (by decide) dX1_goRest_31 ?_
  refine G_iinc (pc := 32) (v := 1) (w := 10) (L1 := [some (.ref 19), some (.int 16), some (.int 0), some (.int 10)]) (by decide) rfl rfl (by decide) rfl (by decide) dX1_goRest_32 ?_
  refine G_goto (pc := 35) (tgt := 4) (by decide) dX1_goRest_35 ?_
  refine G_iload_n (pc := 4) rfl dX1_goRest_4 ?_
  refine G_iload_n (pc := 5) rfl dX1_goRest_5 ?_
  refine G_icmp_ge (pc := 6) (tgt := 38) (by decide) dX1_goRest_6 (fun z => absurd z (by decide)) (fun _ => ?_)
  refine G_aload_n (pc := 9) rfl dX1_goRest_9 ?_
  refine G_callV (pc := 10) (mc1 := 0) (ms1 := 0) (ci := 1) (mj := mX1_isOver) (vs := []) dX1_goRest_10 rfl rfl cm_X1_isOver wf_172 wf_17 wf_18 rfl (Nat.le_of_ble_eq_true rfl) (Nat.le_of_ble_eq_true rfl) (Nat.le_of_ble_eq_true rfl) (Nat.le_of_ble_eq_true rfl) (s396_X1_isOver  (d + 1)  ) ?_
  rintro _ _ ⟨rfl, rfl⟩
  dsimp only [Option.toList, List.cons_append, List.nil_append]
  refine G_if_ne (pc := 13) (tgt := 38) (by decide) dX1_goRest_13 (fun z => absurd (by decide) z) (fun _ => ?_)
  refine G_iload_n (pc := 16) rfl dX1_goRest_16 ?_
  refine G_aload_n (pc := 17) rfl dX1_goRest_17 ?_
  refine G_aload_n (pc := 18) rfl dX1_goRest_18 ?_
  refine G_callV (pc := 19) (mc1 := 0) (ms1 := 0) (ci := 1) (mj := mX1_restAct) (vs := []) dX1_goRest_19 rfl rfl cm_X1_restAct wf_173 wf_66 wf_67 rfl (Nat.le_of_ble_eq_true rfl) (Nat.le_of_ble_eq_true rfl) (Nat.le_of_ble_eq_true rfl) (Nat.le_of_ble_eq_true rfl) (s397_X1_restAct  (d + 1)  ) ?_
  rintro _ _ ⟨rfl, rfl⟩
  dsimp only [Option.toList, List.cons_append, List.nil_append]
  refine G_callV (pc := 22) (mc1 := 0) (ms1 := 0) (ci := 1) (mj := mX1_tell) (vs := [_]) dX1_goRest_22 rfl rfl cm_X1_tell wf_69 wf_71 wf_72 rfl (Nat.le_of_ble_eq_true rfl) (Nat.le_of_ble_eq_true rfl) (Nat.le_of_ble_eq_true rfl) (Nat.le_of_ble_eq_true rfl) (s398_X1_tell  d  ) ?_
  rintro _ _ ⟨rfl, rfl⟩
  dsimp only [Option.toList, List.cons_append, List.nil_append]
  refine G_aload_n (pc := 25) rfl dX1_goRest_25 ?_
  refine G_callV (pc := 26) (mc1 := 0) (ms1 := 0) (ci := 1) (mj := mX1_melt) (vs := []) dX1_goRest_26 rfl rfl cm_X1_melt wf_73 wf_75 wf_76 rfl (Nat.le_of_ble_eq_true rfl) (Nat.le_of_ble_eq_true rfl) (Nat.le_of_ble_eq_true rfl) (Nat.le_of_ble_eq_true rfl) (s400_X1_melt  (d + 1)  ) ?_
  rintro _ _ ⟨rfl, rfl⟩
  dsimp only [Option.toList, List.cons_append, List.nil_append]
  refine G_iadd (pc := 29) (z := 0) (by decide) dX1_goRest_29 ?_
  refine G_iadd (pc := 30) (z := 0) (by decide) dX1_goRest_30 ?_
  refine G_istore_n (pc := 31) (L1 := [some (.ref 19), some (.int 16), some (.int 0), some (.int 10)]) rfl rfl (by decide) dX1_goRest_31 ?_
  refine G_iinc (pc := 32) (v := 1) (w := 11) (L1 := [some (.ref 19), some (.int 16), some (.int 0), some (.int 11)]) (by decide) rfl rfl (by decide) rfl (by decide) dX1_goRest_32 ?_
  refine G_goto (pc := 35) (tgt := 4) (by decide) dX1_goRest_35 ?_
  refine G_iload_n (pc := 4) rfl dX1_goRest_4 ?_
  refine G_iload_n (pc := 5) rfl dX1_goRest_5 ?_
  refine G_icmp_ge (pc := 6) (tgt := 38) (by decide) dX1_goRest_6 (fun z => absurd z (by decide)) (fun _ => ?_)
  refine G_aload_n (pc := 9) rfl dX1_goRest_9 ?_
  refine G_callV (pc := 10) (mc1 := 0) (ms1 := 0) (ci := 1) (mj := mX1_isOver) (vs := []) dX1_goRest_10 rfl rfl cm_X1_isOver wf_172 wf_17 wf_18 rfl (Nat.le_of_ble_eq_true rfl) (Nat.le_of_ble_eq_true rfl) (Nat.le_of_ble_eq_true rfl) (Nat.le_of_ble_eq_true rfl) (s401_X1_isOver  (d + 1)  ) ?_
  rintro _ _ ⟨rfl, rfl⟩
  dsimp only [Option.toList, List.cons_append, List.nil_append]
  refine G_if_ne (pc := 13) (tgt := 38) (by decide) dX1_goRest_13 (fun z => absurd (by decide) z) (fun _ => ?_)
  refine G_iload_n (pc := 16) rfl dX1_goRest_16 ?_
  refine G_aload_n (pc := 17) rfl dX1_goRest_17 ?_
  refine G_aload_n (pc := 18) rfl dX1_goRest_18 ?_
  refine G_callV (pc := 19) (mc1 := 0) (ms1 := 0) (ci := 1) (mj := mX1_restAct) (vs := []) dX1_goRest_19 rfl rfl cm_X1_restAct wf_173 wf_66 wf_67 rfl (Nat.le_of_ble_eq_true rfl) (Nat.le_of_ble_eq_true rfl) (Nat.le_of_ble_eq_true rfl) (Nat.le_of_ble_eq_true rfl) (s402_X1_restAct  (d + 1)  ) ?_
  rintro _ _ ⟨rfl, rfl⟩
  dsimp only [Option.toList, List.cons_append, List.nil_append]
  refine G_callV (pc := 22) (mc1 := 0) (ms1 := 0) (ci := 1) (mj := mX1_tell) (vs := [_]) dX1_goRest_22 rfl rfl cm_X1_tell wf_69 wf_71 wf_72 rfl (Nat.le_of_ble_eq_true rfl) (Nat.le_of_ble_eq_true rfl) (Nat.le_of_ble_eq_true rfl) (Nat.le_of_ble_eq_true rfl) (s403_X1_tell  d  ) ?_
  rintro _ _ ⟨rfl, rfl⟩
  dsimp only [Option.toList, List.cons_append, List.nil_append]
  refine G_aload_n (pc := 25) rfl dX1_goRest_25 ?_
  refine G_callV (pc := 26) (mc1 := 0) (ms1 := 0) (ci := 1) (mj := mX1_melt) (vs := []) dX1_goRest_26 rfl rfl cm_X1_melt wf_73 wf_75 wf_76 rfl (Nat.le_of_ble_eq_true rfl) (Nat.le_of_ble_eq_true rfl) (Nat.le_of_ble_eq_true rfl) (Nat.le_of_ble_eq_true rfl) (s405_X1_melt  (d + 1)  ) ?_
  rintro _ _ ⟨rfl, rfl⟩
  dsimp only [Option.toList, List.cons_append, List.nil_append]
  refine G_iadd (pc := 29) (z := 0) (by decide) dX1_goRest_29 ?_
  refine G_iadd (pc := 30) (z := 0) (by decide) dX1_goRest_30 ?_
  refine G_istore_n (pc := 31) (L1 := [some (.ref 19), some (.int 16), some (.int 0), some (.int 11)]) rfl rfl (by decide) dX1_goRest_31 ?_
  refine G_iinc (pc := 32) (v := 1) (w := 12) (L1 := [some (.ref 19), some (.int 16), some (.int 0), some (.int 12)]) (by decide) rfl rfl (by decide) rfl (by decide) dX1_goRest_32 ?_
  refine G_goto (pc := 35) (tgt := 4) (by decide) dX1_goRest_35 ?_
  refine G_iload_n (pc := 4) rfl dX1_goRest_4 ?_
  refine G_iload_n (pc := 5) rfl dX1_goRest_5 ?_
  refine G_icmp_ge (pc := 6) (tgt := 38) (by decide) dX1_goRest_6 (fun z => absurd z (by decide)) (fun _ => ?_)
  refine G_aload_n (pc := 9) rfl dX1_goRest_9 ?_
  refine G_callV (pc := 10) (mc1 := 0) (ms1 := 0) (ci := 1) (mj := mX1_isOver) (vs := []) dX1_goRest_10 rfl rfl cm_X1_isOver wf_172 wf_17 wf_18 rfl (Nat.le_of_ble_eq_true rfl) (Nat.le_of_ble_eq_true rfl) (Nat.le_of_ble_eq_true rfl) (Nat.le_of_ble_eq_true rfl) (s406_X1_isOver  (d + 1)  ) ?_
  rintro _ _ ⟨rfl, rfl⟩
  dsimp only [Option.toList, List.cons_append, List.nil_append]
  refine G_if_ne (pc := 13) (tgt := 38) (by decide) dX1_goRest_13 (fun _ => ?_) (fun z => absurd z (by decide))
  refine G_iload_n (pc := 38) rfl dX1_goRest_38 ?_
  exact G_iret (pc := 39) (Nat.le_of_ble_eq_true rfl) (Nat.le_of_ble_eq_true rfl) rfl dX1_goRest_39 ⟨rfl, rfl⟩
def F_on (n : Int32) : Int32 := if 0 ≤ n ∧ n ≤ 16 then 0 else -1
set_option maxRecDepth 100000 in
set_option maxHeartbeats 4000000 in
theorem x_on (d : Nat) (n : Int32) : G (d + 3) mX11_on 0 0 0 0 0 (gent 3 [.ref 0, .int n]) [] SH0 RF0 I0 (fun r h => ∃ I1, r = some (.int (F_on n)) ∧ h = (SH0, RF0, I1) ∧ ∀ a, 67 ≤ a → I1 a = I0 a) := by
  refine G_iload_n (pc := 0) rfl dX11_on_0 ?_
  refine G_iconst (pc := 1) (v := 0) (by decide) dX11_on_1 ?_
  refine G_bipush (pc := 2) (v := 16) (by decide) dX11_on_2 ?_
  refine G_callS (pc := 4) (mc1 := 0) (ms1 := 0) (mj := mX11_isIn) (vs := [_, _, _]) dX11_on_4 cm_X11_isIn wf_4 wf_6 rfl (Nat.le_of_ble_eq_true rfl) (Nat.le_of_ble_eq_true rfl) (Nat.le_of_ble_eq_true rfl) (Nat.le_of_ble_eq_true rfl) (isIn_s (d + 2) n 0 16) ?_
  rintro _ _ ⟨rfl, rfl⟩
  dsimp only [Option.toList, List.cons_append, List.nil_append]
  refine G_if_ne (pc := 7) (tgt := 12) (by decide) dX11_on_7 (fun c512 => ?_) (fun c512 => ?_)
  · have c512 := gB_o c512
    refine G_aload_n (pc := 12) rfl dX11_on_12 ?_
    refine G_getR (pc := 13) (r := 19) (ci := 11) (j := 0) rfl lk_RX11_56 rfl rfl rfl dX11_on_13 ?_
    refine G_iconst (pc := 16) (v := 0) (by decide) dX11_on_16 ?_
    refine G_callV (pc := 17) (mc1 := 0) (ms1 := 0) (ci := 1) (mj := mX1_save) (vs := [_]) dX11_on_17 rfl rfl cm_X1_save wf_103 wf_105 wf_106 rfl (Nat.le_of_ble_eq_true rfl) (Nat.le_of_ble_eq_true rfl) (Nat.le_of_ble_eq_true rfl) (Nat.le_of_ble_eq_true rfl) (s39_X1_save  (d + 1)  ) ?_
    rintro _ _ ⟨rfl, rfl⟩
    dsimp only [Option.toList, List.cons_append, List.nil_append]
    refine G_aload_n (pc := 20) rfl dX11_on_20 ?_
    refine G_getR (pc := 21) (r := 19) (ci := 11) (j := 0) rfl lk_RX11_56 rfl rfl rfl dX11_on_21 ?_
    refine G_iload_n (pc := 24) rfl dX11_on_24 ?_
    by_cases c526 : n = 0
    · subst c526
      refine G_callV (pc := 25) (mc1 := 0) (ms1 := 0) (ci := 1) (mj := mX1_goRest) (vs := [_]) dX11_on_25 rfl rfl cm_X1_goRest wf_174 wf_176 wf_177 rfl (Nat.le_of_ble_eq_true rfl) (Nat.le_of_ble_eq_true rfl) (Nat.le_of_ble_eq_true rfl) (Nat.le_of_ble_eq_true rfl) (s407_X1_goRest  (d + 2)  ) ?_
      rintro _ _ ⟨rfl, rfl⟩
      dsimp only [Option.toList, List.cons_append, List.nil_append]
      refine G_istore_n (pc := 28) (L1 := [some (.ref 0), some (.int 0), some (.int 0)]) rfl rfl (by decide) dX11_on_28 ?_
      refine G_aload_n (pc := 29) rfl dX11_on_29 ?_
      refine G_getR (pc := 30) (r := 19) (ci := 11) (j := 0) rfl lk_RX11_56 rfl rfl rfl dX11_on_30 ?_
      refine G_iconst (pc := 33) (v := 0) (by decide) dX11_on_33 ?_
      refine G_callV (pc := 34) (mc1 := 0) (ms1 := 0) (ci := 1) (mj := mX1_restore) (vs := [_]) dX11_on_34 rfl rfl cm_X1_restore wf_107 wf_109 wf_110 rfl (Nat.le_of_ble_eq_true rfl) (Nat.le_of_ble_eq_true rfl) (Nat.le_of_ble_eq_true rfl) (Nat.le_of_ble_eq_true rfl) (s40_X1_restore  (d + 1)  ) ?_
      rintro _ _ ⟨rfl, rfl⟩
      dsimp only [Option.toList, List.cons_append, List.nil_append]
      refine G_iload_n (pc := 37) rfl dX11_on_37 ?_
      exact G_iret (pc := 38) (Nat.le_of_ble_eq_true rfl) (Nat.le_of_ble_eq_true rfl) rfl dX11_on_38 ⟨_, by first | rfl | (simp [F_on, *]; done) | (simp only [F_on, Int32.le_iff_toInt_le, Int32.lt_iff_toInt_lt, ← Int32.toInt_inj]; simp; omega) | (simp only [F_on, Int32.le_iff_toInt_le, Int32.lt_iff_toInt_lt, ← Int32.toInt_inj]; split <;> first | rfl | (exfalso; simp at *; omega)) | (unfold F_on; (repeat' split) <;> first | rfl | (exfalso; (try simp only [Int32.le_iff_toInt_le, Int32.lt_iff_toInt_lt, ← Int32.toInt_inj] at *); first | omega | (simp at *; done) | (simp at *; omega))), rfl, fun a ha => by funext j; simp (disch := omega) only [gup_off, gcp_off]⟩
    by_cases c527 : n = 1
    · subst c527
      refine G_callV (pc := 25) (mc1 := 0) (ms1 := 0) (ci := 1) (mj := mX1_goRest) (vs := [_]) dX11_on_25 rfl rfl cm_X1_goRest wf_174 wf_176 wf_177 rfl (Nat.le_of_ble_eq_true rfl) (Nat.le_of_ble_eq_true rfl) (Nat.le_of_ble_eq_true rfl) (Nat.le_of_ble_eq_true rfl) (s408_X1_goRest  d  ) ?_
      rintro _ _ ⟨rfl, rfl⟩
      dsimp only [Option.toList, List.cons_append, List.nil_append]
      refine G_istore_n (pc := 28) (L1 := [some (.ref 0), some (.int 1), some (.int 0)]) rfl rfl (by decide) dX11_on_28 ?_
      refine G_aload_n (pc := 29) rfl dX11_on_29 ?_
      refine G_getR (pc := 30) (r := 19) (ci := 11) (j := 0) rfl lk_RX11_56 rfl rfl rfl dX11_on_30 ?_
      refine G_iconst (pc := 33) (v := 0) (by decide) dX11_on_33 ?_
      refine G_callV (pc := 34) (mc1 := 0) (ms1 := 0) (ci := 1) (mj := mX1_restore) (vs := [_]) dX11_on_34 rfl rfl cm_X1_restore wf_107 wf_109 wf_110 rfl (Nat.le_of_ble_eq_true rfl) (Nat.le_of_ble_eq_true rfl) (Nat.le_of_ble_eq_true rfl) (Nat.le_of_ble_eq_true rfl) (s200_X1_restore  (d + 1)  ) ?_
      rintro _ _ ⟨rfl, rfl⟩
      dsimp only [Option.toList, List.cons_append, List.nil_append]
      refine G_iload_n (pc := 37) rfl dX11_on_37 ?_
      exact G_iret (pc := 38) (Nat.le_of_ble_eq_true rfl) (Nat.le_of_ble_eq_true rfl) rfl dX11_on_38 ⟨_, by first | rfl | (simp [F_on, *]; done) | (simp only [F_on, Int32.le_iff_toInt_le, Int32.lt_iff_toInt_lt, ← Int32.toInt_inj]; simp; omega) | (simp only [F_on, Int32.le_iff_toInt_le, Int32.lt_iff_toInt_lt, ← Int32.toInt_inj]; split <;> first | rfl | (exfalso; simp at *; omega)) | (unfold F_on; (repeat' split) <;> first | rfl | (exfalso; (try simp only [Int32.le_iff_toInt_le, Int32.lt_iff_toInt_lt, ← Int32.toInt_inj] at *); first | omega | (simp at *; done) | (simp at *; omega))), rfl, fun a ha => by funext j; simp (disch := omega) only [gup_off, gcp_off]⟩
    by_cases c528 : n = 2
    · subst c528
      refine G_callV (pc := 25) (mc1 := 0) (ms1 := 0) (ci := 1) (mj := mX1_goRest) (vs := [_]) dX11_on_25 rfl rfl cm_X1_goRest wf_174 wf_176 wf_177 rfl (Nat.le_of_ble_eq_true rfl) (Nat.le_of_ble_eq_true rfl) (Nat.le_of_ble_eq_true rfl) (Nat.le_of_ble_eq_true rfl) (s409_X1_goRest  d  ) ?_
      rintro _ _ ⟨rfl, rfl⟩
      dsimp only [Option.toList, List.cons_append, List.nil_append]
      refine G_istore_n (pc := 28) (L1 := [some (.ref 0), some (.int 2), some (.int 0)]) rfl rfl (by decide) dX11_on_28 ?_
      refine G_aload_n (pc := 29) rfl dX11_on_29 ?_
      refine G_getR (pc := 30) (r := 19) (ci := 11) (j := 0) rfl lk_RX11_56 rfl rfl rfl dX11_on_30 ?_
      refine G_iconst (pc := 33) (v := 0) (by decide) dX11_on_33 ?_
      refine G_callV (pc := 34) (mc1 := 0) (ms1 := 0) (ci := 1) (mj := mX1_restore) (vs := [_]) dX11_on_34 rfl rfl cm_X1_restore wf_107 wf_109 wf_110 rfl (Nat.le_of_ble_eq_true rfl) (Nat.le_of_ble_eq_true rfl) (Nat.le_of_ble_eq_true rfl) (Nat.le_of_ble_eq_true rfl) (s410_X1_restore  (d + 1)  ) ?_
      rintro _ _ ⟨rfl, rfl⟩
      dsimp only [Option.toList, List.cons_append, List.nil_append]
      refine G_iload_n (pc := 37) rfl dX11_on_37 ?_
      exact G_iret (pc := 38) (Nat.le_of_ble_eq_true rfl) (Nat.le_of_ble_eq_true rfl) rfl dX11_on_38 ⟨_, by first | rfl | (simp [F_on, *]; done) | (simp only [F_on, Int32.le_iff_toInt_le, Int32.lt_iff_toInt_lt, ← Int32.toInt_inj]; simp; omega) | (simp only [F_on, Int32.le_iff_toInt_le, Int32.lt_iff_toInt_lt, ← Int32.toInt_inj]; split <;> first | rfl | (exfalso; simp at *; omega)) | (unfold F_on; (repeat' split) <;> first | rfl | (exfalso; (try simp only [Int32.le_iff_toInt_le, Int32.lt_iff_toInt_lt, ← Int32.toInt_inj] at *); first | omega | (simp at *; done) | (simp at *; omega))), rfl, fun a ha => by funext j; simp (disch := omega) only [gup_off, gcp_off]⟩
    by_cases c529 : n = 3
    · subst c529
      refine G_callV (pc := 25) (mc1 := 0) (ms1 := 0) (ci := 1) (mj := mX1_goRest) (vs := [_]) dX11_on_25 rfl rfl cm_X1_goRest wf_174 wf_176 wf_177 rfl (Nat.le_of_ble_eq_true rfl) (Nat.le_of_ble_eq_true rfl) (Nat.le_of_ble_eq_true rfl) (Nat.le_of_ble_eq_true rfl) (s411_X1_goRest  d  ) ?_
      rintro _ _ ⟨rfl, rfl⟩
      dsimp only [Option.toList, List.cons_append, List.nil_append]
      refine G_istore_n (pc := 28) (L1 := [some (.ref 0), some (.int 3), some (.int 0)]) rfl rfl (by decide) dX11_on_28 ?_
      refine G_aload_n (pc := 29) rfl dX11_on_29 ?_
      refine G_getR (pc := 30) (r := 19) (ci := 11) (j := 0) rfl lk_RX11_56 rfl rfl rfl dX11_on_30 ?_
      refine G_iconst (pc := 33) (v := 0) (by decide) dX11_on_33 ?_
      refine G_callV (pc := 34) (mc1 := 0) (ms1 := 0) (ci := 1) (mj := mX1_restore) (vs := [_]) dX11_on_34 rfl rfl cm_X1_restore wf_107 wf_109 wf_110 rfl (Nat.le_of_ble_eq_true rfl) (Nat.le_of_ble_eq_true rfl) (Nat.le_of_ble_eq_true rfl) (Nat.le_of_ble_eq_true rfl) (s412_X1_restore  (d + 1)  ) ?_
      rintro _ _ ⟨rfl, rfl⟩
      dsimp only [Option.toList, List.cons_append, List.nil_append]
      refine G_iload_n (pc := 37) rfl dX11_on_37 ?_
      exact G_iret (pc := 38) (Nat.le_of_ble_eq_true rfl) (Nat.le_of_ble_eq_true rfl) rfl dX11_on_38 ⟨_, by first | rfl | (simp [F_on, *]; done) | (simp only [F_on, Int32.le_iff_toInt_le, Int32.lt_iff_toInt_lt, ← Int32.toInt_inj]; simp; omega) | (simp only [F_on, Int32.le_iff_toInt_le, Int32.lt_iff_toInt_lt, ← Int32.toInt_inj]; split <;> first | rfl | (exfalso; simp at *; omega)) | (unfold F_on; (repeat' split) <;> first | rfl | (exfalso; (try simp only [Int32.le_iff_toInt_le, Int32.lt_iff_toInt_lt, ← Int32.toInt_inj] at *); first | omega | (simp at *; done) | (simp at *; omega))), rfl, fun a ha => by funext j; simp (disch := omega) only [gup_off, gcp_off]⟩
    by_cases c530 : n = 4
    · subst c530
      refine G_callV (pc := 25) (mc1 := 0) (ms1 := 0) (ci := 1) (mj := mX1_goRest) (vs := [_]) dX11_on_25 rfl rfl cm_X1_goRest wf_174 wf_176 wf_177 rfl (Nat.le_of_ble_eq_true rfl) (Nat.le_of_ble_eq_true rfl) (Nat.le_of_ble_eq_true rfl) (Nat.le_of_ble_eq_true rfl) (s413_X1_goRest  d  ) ?_
      rintro _ _ ⟨rfl, rfl⟩
      dsimp only [Option.toList, List.cons_append, List.nil_append]
      refine G_istore_n (pc := 28) (L1 := [some (.ref 0), some (.int 4), some (.int 0)]) rfl rfl (by decide) dX11_on_28 ?_
      refine G_aload_n (pc := 29) rfl dX11_on_29 ?_
      refine G_getR (pc := 30) (r := 19) (ci := 11) (j := 0) rfl lk_RX11_56 rfl rfl rfl dX11_on_30 ?_
      refine G_iconst (pc := 33) (v := 0) (by decide) dX11_on_33 ?_
      refine G_callV (pc := 34) (mc1 := 0) (ms1 := 0) (ci := 1) (mj := mX1_restore) (vs := [_]) dX11_on_34 rfl rfl cm_X1_restore wf_107 wf_109 wf_110 rfl (Nat.le_of_ble_eq_true rfl) (Nat.le_of_ble_eq_true rfl) (Nat.le_of_ble_eq_true rfl) (Nat.le_of_ble_eq_true rfl) (s414_X1_restore  (d + 1)  ) ?_
      rintro _ _ ⟨rfl, rfl⟩
      dsimp only [Option.toList, List.cons_append, List.nil_append]
      refine G_iload_n (pc := 37) rfl dX11_on_37 ?_
      exact G_iret (pc := 38) (Nat.le_of_ble_eq_true rfl) (Nat.le_of_ble_eq_true rfl) rfl dX11_on_38 ⟨_, by first | rfl | (simp [F_on, *]; done) | (simp only [F_on, Int32.le_iff_toInt_le, Int32.lt_iff_toInt_lt, ← Int32.toInt_inj]; simp; omega) | (simp only [F_on, Int32.le_iff_toInt_le, Int32.lt_iff_toInt_lt, ← Int32.toInt_inj]; split <;> first | rfl | (exfalso; simp at *; omega)) | (unfold F_on; (repeat' split) <;> first | rfl | (exfalso; (try simp only [Int32.le_iff_toInt_le, Int32.lt_iff_toInt_lt, ← Int32.toInt_inj] at *); first | omega | (simp at *; done) | (simp at *; omega))), rfl, fun a ha => by funext j; simp (disch := omega) only [gup_off, gcp_off]⟩
    by_cases c531 : n = 5
    · subst c531
      refine G_callV (pc := 25) (mc1 := 0) (ms1 := 0) (ci := 1) (mj := mX1_goRest) (vs := [_]) dX11_on_25 rfl rfl cm_X1_goRest wf_174 wf_176 wf_177 rfl (Nat.le_of_ble_eq_true rfl) (Nat.le_of_ble_eq_true rfl) (Nat.le_of_ble_eq_true rfl) (Nat.le_of_ble_eq_true rfl) (s415_X1_goRest  d  ) ?_
      rintro _ _ ⟨rfl, rfl⟩
      dsimp only [Option.toList, List.cons_append, List.nil_append]
      refine G_istore_n (pc := 28) (L1 := [some (.ref 0), some (.int 5), some (.int 0)]) rfl rfl (by decide) dX11_on_28 ?_
      refine G_aload_n (pc := 29) rfl dX11_on_29 ?_
      refine G_getR (pc := 30) (r := 19) (ci := 11) (j := 0) rfl lk_RX11_56 rfl rfl rfl dX11_on_30 ?_
      refine G_iconst (pc := 33) (v := 0) (by decide) dX11_on_33 ?_
      refine G_callV (pc := 34) (mc1 := 0) (ms1 := 0) (ci := 1) (mj := mX1_restore) (vs := [_]) dX11_on_34 rfl rfl cm_X1_restore wf_107 wf_109 wf_110 rfl (Nat.le_of_ble_eq_true rfl) (Nat.le_of_ble_eq_true rfl) (Nat.le_of_ble_eq_true rfl) (Nat.le_of_ble_eq_true rfl) (s416_X1_restore  (d + 1)  ) ?_
      rintro _ _ ⟨rfl, rfl⟩
      dsimp only [Option.toList, List.cons_append, List.nil_append]
      refine G_iload_n (pc := 37) rfl dX11_on_37 ?_
      exact G_iret (pc := 38) (Nat.le_of_ble_eq_true rfl) (Nat.le_of_ble_eq_true rfl) rfl dX11_on_38 ⟨_, by first | rfl | (simp [F_on, *]; done) | (simp only [F_on, Int32.le_iff_toInt_le, Int32.lt_iff_toInt_lt, ← Int32.toInt_inj]; simp; omega) | (simp only [F_on, Int32.le_iff_toInt_le, Int32.lt_iff_toInt_lt, ← Int32.toInt_inj]; split <;> first | rfl | (exfalso; simp at *; omega)) | (unfold F_on; (repeat' split) <;> first | rfl | (exfalso; (try simp only [Int32.le_iff_toInt_le, Int32.lt_iff_toInt_lt, ← Int32.toInt_inj] at *); first | omega | (simp at *; done) | (simp at *; omega))), rfl, fun a ha => by funext j; simp (disch := omega) only [gup_off, gcp_off]⟩
    by_cases c532 : n = 6
    · subst c532
      refine G_callV (pc := 25) (mc1 := 0) (ms1 := 0) (ci := 1) (mj := mX1_goRest) (vs := [_]) dX11_on_25 rfl rfl cm_X1_goRest wf_174 wf_176 wf_177 rfl (Nat.le_of_ble_eq_true rfl) (Nat.le_of_ble_eq_true rfl) (Nat.le_of_ble_eq_true rfl) (Nat.le_of_ble_eq_true rfl) (s417_X1_goRest  d  ) ?_
      rintro _ _ ⟨rfl, rfl⟩
      dsimp only [Option.toList, List.cons_append, List.nil_append]
      refine G_istore_n (pc := 28) (L1 := [some (.ref 0), some (.int 6), some (.int 0)]) rfl rfl (by decide) dX11_on_28 ?_
      refine G_aload_n (pc := 29) rfl dX11_on_29 ?_
      refine G_getR (pc := 30) (r := 19) (ci := 11) (j := 0) rfl lk_RX11_56 rfl rfl rfl dX11_on_30 ?_
      refine G_iconst (pc := 33) (v := 0) (by decide) dX11_on_33 ?_
      refine G_callV (pc := 34) (mc1 := 0) (ms1 := 0) (ci := 1) (mj := mX1_restore) (vs := [_]) dX11_on_34 rfl rfl cm_X1_restore wf_107 wf_109 wf_110 rfl (Nat.le_of_ble_eq_true rfl) (Nat.le_of_ble_eq_true rfl) (Nat.le_of_ble_eq_true rfl) (Nat.le_of_ble_eq_true rfl) (s418_X1_restore  (d + 1)  ) ?_
      rintro _ _ ⟨rfl, rfl⟩
      dsimp only [Option.toList, List.cons_append, List.nil_append]
      refine G_iload_n (pc := 37) rfl dX11_on_37 ?_
      exact G_iret (pc := 38) (Nat.le_of_ble_eq_true rfl) (Nat.le_of_ble_eq_true rfl) rfl dX11_on_38 ⟨_, by first | rfl | (simp [F_on, *]; done) | (simp only [F_on, Int32.le_iff_toInt_le, Int32.lt_iff_toInt_lt, ← Int32.toInt_inj]; simp; omega) | (simp only [F_on, Int32.le_iff_toInt_le, Int32.lt_iff_toInt_lt, ← Int32.toInt_inj]; split <;> first | rfl | (exfalso; simp at *; omega)) | (unfold F_on; (repeat' split) <;> first | rfl | (exfalso; (try simp only [Int32.le_iff_toInt_le, Int32.lt_iff_toInt_lt, ← Int32.toInt_inj] at *); first | omega | (simp at *; done) | (simp at *; omega))), rfl, fun a ha => by funext j; simp (disch := omega) only [gup_off, gcp_off]⟩
    by_cases c533 : n = 7
    · subst c533
      refine G_callV (pc := 25) (mc1 := 0) (ms1 := 0) (ci := 1) (mj := mX1_goRest) (vs := [_]) dX11_on_25 rfl rfl cm_X1_goRest wf_174 wf_176 wf_177 rfl (Nat.le_of_ble_eq_true rfl) (Nat.le_of_ble_eq_true rfl) (Nat.le_of_ble_eq_true rfl) (Nat.le_of_ble_eq_true rfl) (s419_X1_goRest  d  ) ?_
      rintro _ _ ⟨rfl, rfl⟩
      dsimp only [Option.toList, List.cons_append, List.nil_append]
      refine G_istore_n (pc := 28) (L1 := [some (.ref 0), some (.int 7), some (.int 0)]) rfl rfl (by decide) dX11_on_28 ?_
      refine G_aload_n (pc := 29) rfl dX11_on_29 ?_
      refine G_getR (pc := 30) (r := 19) (ci := 11) (j := 0) rfl lk_RX11_56 rfl rfl rfl dX11_on_30 ?_
      refine G_iconst (pc := 33) (v := 0) (by decide) dX11_on_33 ?_
      refine G_callV (pc := 34) (mc1 := 0) (ms1 := 0) (ci := 1) (mj := mX1_restore) (vs := [_]) dX11_on_34 rfl rfl cm_X1_restore wf_107 wf_109 wf_110 rfl (Nat.le_of_ble_eq_true rfl) (Nat.le_of_ble_eq_true rfl) (Nat.le_of_ble_eq_true rfl) (Nat.le_of_ble_eq_true rfl) (s420_X1_restore  (d + 1)  ) ?_
      rintro _ _ ⟨rfl, rfl⟩
      dsimp only [Option.toList, List.cons_append, List.nil_append]
      refine G_iload_n (pc := 37) rfl dX11_on_37 ?_
      exact G_iret (pc := 38) (Nat.le_of_ble_eq_true rfl) (Nat.le_of_ble_eq_true rfl) rfl dX11_on_38 ⟨_, by first | rfl | (simp [F_on, *]; done) | (simp only [F_on, Int32.le_iff_toInt_le, Int32.lt_iff_toInt_lt, ← Int32.toInt_inj]; simp; omega) | (simp only [F_on, Int32.le_iff_toInt_le, Int32.lt_iff_toInt_lt, ← Int32.toInt_inj]; split <;> first | rfl | (exfalso; simp at *; omega)) | (unfold F_on; (repeat' split) <;> first | rfl | (exfalso; (try simp only [Int32.le_iff_toInt_le, Int32.lt_iff_toInt_lt, ← Int32.toInt_inj] at *); first | omega | (simp at *; done) | (simp at *; omega))), rfl, fun a ha => by funext j; simp (disch := omega) only [gup_off, gcp_off]⟩
    by_cases c534 : n = 8
    · subst c534
      refine G_callV (pc := 25) (mc1 := 0) (ms1 := 0) (ci := 1) (mj := mX1_goRest) (vs := [_]) dX11_on_25 rfl rfl cm_X1_goRest wf_174 wf_176 wf_177 rfl (Nat.le_of_ble_eq_true rfl) (Nat.le_of_ble_eq_true rfl) (Nat.le_of_ble_eq_true rfl) (Nat.le_of_ble_eq_true rfl) (s421_X1_goRest  d  ) ?_
      rintro _ _ ⟨rfl, rfl⟩
      dsimp only [Option.toList, List.cons_append, List.nil_append]
      refine G_istore_n (pc := 28) (L1 := [some (.ref 0), some (.int 8), some (.int 0)]) rfl rfl (by decide) dX11_on_28 ?_
      refine G_aload_n (pc := 29) rfl dX11_on_29 ?_
      refine G_getR (pc := 30) (r := 19) (ci := 11) (j := 0) rfl lk_RX11_56 rfl rfl rfl dX11_on_30 ?_
      refine G_iconst (pc := 33) (v := 0) (by decide) dX11_on_33 ?_
      refine G_callV (pc := 34) (mc1 := 0) (ms1 := 0) (ci := 1) (mj := mX1_restore) (vs := [_]) dX11_on_34 rfl rfl cm_X1_restore wf_107 wf_109 wf_110 rfl (Nat.le_of_ble_eq_true rfl) (Nat.le_of_ble_eq_true rfl) (Nat.le_of_ble_eq_true rfl) (Nat.le_of_ble_eq_true rfl) (s422_X1_restore  (d + 1)  ) ?_
      rintro _ _ ⟨rfl, rfl⟩
      dsimp only [Option.toList, List.cons_append, List.nil_append]
      refine G_iload_n (pc := 37) rfl dX11_on_37 ?_
      exact G_iret (pc := 38) (Nat.le_of_ble_eq_true rfl) (Nat.le_of_ble_eq_true rfl) rfl dX11_on_38 ⟨_, by first | rfl | (simp [F_on, *]; done) | (simp only [F_on, Int32.le_iff_toInt_le, Int32.lt_iff_toInt_lt, ← Int32.toInt_inj]; simp; omega) | (simp only [F_on, Int32.le_iff_toInt_le, Int32.lt_iff_toInt_lt, ← Int32.toInt_inj]; split <;> first | rfl | (exfalso; simp at *; omega)) | (unfold F_on; (repeat' split) <;> first | rfl | (exfalso; (try simp only [Int32.le_iff_toInt_le, Int32.lt_iff_toInt_lt, ← Int32.toInt_inj] at *); first | omega | (simp at *; done) | (simp at *; omega))), rfl, fun a ha => by funext j; simp (disch := omega) only [gup_off, gcp_off]⟩
    by_cases c535 : n = 9
    · subst c535
      refine G_callV (pc := 25) (mc1 := 0) (ms1 := 0) (ci := 1) (mj := mX1_goRest) (vs := [_]) dX11_on_25 rfl rfl cm_X1_goRest wf_174 wf_176 wf_177 rfl (Nat.le_of_ble_eq_true rfl) (Nat.le_of_ble_eq_true rfl) (Nat.le_of_ble_eq_true rfl) (Nat.le_of_ble_eq_true rfl) (s423_X1_goRest  d  ) ?_
      rintro _ _ ⟨rfl, rfl⟩
      dsimp only [Option.toList, List.cons_append, List.nil_append]
      refine G_istore_n (pc := 28) (L1 := [some (.ref 0), some (.int 9), some (.int 0)]) rfl rfl (by decide) dX11_on_28 ?_
      refine G_aload_n (pc := 29) rfl dX11_on_29 ?_
      refine G_getR (pc := 30) (r := 19) (ci := 11) (j := 0) rfl lk_RX11_56 rfl rfl rfl dX11_on_30 ?_
      refine G_iconst (pc := 33) (v := 0) (by decide) dX11_on_33 ?_
      refine G_callV (pc := 34) (mc1 := 0) (ms1 := 0) (ci := 1) (mj := mX1_restore) (vs := [_]) dX11_on_34 rfl rfl cm_X1_restore wf_107 wf_109 wf_110 rfl (Nat.le_of_ble_eq_true rfl) (Nat.le_of_ble_eq_true rfl) (Nat.le_of_ble_eq_true rfl) (Nat.le_of_ble_eq_true rfl) (s424_X1_restore  (d + 1)  ) ?_
      rintro _ _ ⟨rfl, rfl⟩
      dsimp only [Option.toList, List.cons_append, List.nil_append]
      refine G_iload_n (pc := 37) rfl dX11_on_37 ?_
      exact G_iret (pc := 38) (Nat.le_of_ble_eq_true rfl) (Nat.le_of_ble_eq_true rfl) rfl dX11_on_38 ⟨_, by first | rfl | (simp [F_on, *]; done) | (simp only [F_on, Int32.le_iff_toInt_le, Int32.lt_iff_toInt_lt, ← Int32.toInt_inj]; simp; omega) | (simp only [F_on, Int32.le_iff_toInt_le, Int32.lt_iff_toInt_lt, ← Int32.toInt_inj]; split <;> first | rfl | (exfalso; simp at *; omega)) | (unfold F_on; (repeat' split) <;> first | rfl | (exfalso; (try simp only [Int32.le_iff_toInt_le, Int32.lt_iff_toInt_lt, ← Int32.toInt_inj] at *); first | omega | (simp at *; done) | (simp at *; omega))), rfl, fun a ha => by funext j; simp (disch := omega) only [gup_off, gcp_off]⟩
    by_cases c536 : n = 10
    · subst c536
      refine G_callV (pc := 25) (mc1 := 0) (ms1 := 0) (ci := 1) (mj := mX1_goRest) (vs := [_]) dX11_on_25 rfl rfl cm_X1_goRest wf_174 wf_176 wf_177 rfl (Nat.le_of_ble_eq_true rfl) (Nat.le_of_ble_eq_true rfl) (Nat.le_of_ble_eq_true rfl) (Nat.le_of_ble_eq_true rfl) (s425_X1_goRest  d  ) ?_
      rintro _ _ ⟨rfl, rfl⟩
      dsimp only [Option.toList, List.cons_append, List.nil_append]
      refine G_istore_n (pc := 28) (L1 := [some (.ref 0), some (.int 10), some (.int 0)]) rfl rfl (by decide) dX11_on_28 ?_
      refine G_aload_n (pc := 29) rfl dX11_on_29 ?_
      refine G_getR (pc := 30) (r := 19) (ci := 11) (j := 0) rfl lk_RX11_56 rfl rfl rfl dX11_on_30 ?_
      refine G_iconst (pc := 33) (v := 0) (by decide) dX11_on_33 ?_
      refine G_callV (pc := 34) (mc1 := 0) (ms1 := 0) (ci := 1) (mj := mX1_restore) (vs := [_]) dX11_on_34 rfl rfl cm_X1_restore wf_107 wf_109 wf_110 rfl (Nat.le_of_ble_eq_true rfl) (Nat.le_of_ble_eq_true rfl) (Nat.le_of_ble_eq_true rfl) (Nat.le_of_ble_eq_true rfl) (s426_X1_restore  (d + 1)  ) ?_
      rintro _ _ ⟨rfl, rfl⟩
      dsimp only [Option.toList, List.cons_append, List.nil_append]
      refine G_iload_n (pc := 37) rfl dX11_on_37 ?_
      exact G_iret (pc := 38) (Nat.le_of_ble_eq_true rfl) (Nat.le_of_ble_eq_true rfl) rfl dX11_on_38 ⟨_, by first | rfl | (simp [F_on, *]; done) | (simp only [F_on, Int32.le_iff_toInt_le, Int32.lt_iff_toInt_lt, ← Int32.toInt_inj]; simp; omega) | (simp only [F_on, Int32.le_iff_toInt_le, Int32.lt_iff_toInt_lt, ← Int32.toInt_inj]; split <;> first | rfl | (exfalso; simp at *; omega)) | (unfold F_on; (repeat' split) <;> first | rfl | (exfalso; (try simp only [Int32.le_iff_toInt_le, Int32.lt_iff_toInt_lt, ← Int32.toInt_inj] at *); first | omega | (simp at *; done) | (simp at *; omega))), rfl, fun a ha => by funext j; simp (disch := omega) only [gup_off, gcp_off]⟩
    by_cases c537 : n = 11
    · subst c537
      refine G_callV (pc := 25) (mc1 := 0) (ms1 := 0) (ci := 1) (mj := mX1_goRest) (vs := [_]) dX11_on_25 rfl rfl cm_X1_goRest wf_174 wf_176 wf_177 rfl (Nat.le_of_ble_eq_true rfl) (Nat.le_of_ble_eq_true rfl) (Nat.le_of_ble_eq_true rfl) (Nat.le_of_ble_eq_true rfl) (s427_X1_goRest  d  ) ?_
      rintro _ _ ⟨rfl, rfl⟩
      dsimp only [Option.toList, List.cons_append, List.nil_append]
      refine G_istore_n (pc := 28) (L1 := [some (.ref 0), some (.int 11), some (.int 0)]) rfl rfl (by decide) dX11_on_28 ?_
      refine G_aload_n (pc := 29) rfl dX11_on_29 ?_
      refine G_getR (pc := 30) (r := 19) (ci := 11) (j := 0) rfl lk_RX11_56 rfl rfl rfl dX11_on_30 ?_
      refine G_iconst (pc := 33) (v := 0) (by decide) dX11_on_33 ?_
      refine G_callV (pc := 34) (mc1 := 0) (ms1 := 0) (ci := 1) (mj := mX1_restore) (vs := [_]) dX11_on_34 rfl rfl cm_X1_restore wf_107 wf_109 wf_110 rfl (Nat.le_of_ble_eq_true rfl) (Nat.le_of_ble_eq_true rfl) (Nat.le_of_ble_eq_true rfl) (Nat.le_of_ble_eq_true rfl) (s428_X1_restore  (d + 1)  ) ?_
      rintro _ _ ⟨rfl, rfl⟩
      dsimp only [Option.toList, List.cons_append, List.nil_append]
      refine G_iload_n (pc := 37) rfl dX11_on_37 ?_
      exact G_iret (pc := 38) (Nat.le_of_ble_eq_true rfl) (Nat.le_of_ble_eq_true rfl) rfl dX11_on_38 ⟨_, by first | rfl | (simp [F_on, *]; done) | (simp only [F_on, Int32.le_iff_toInt_le, Int32.lt_iff_toInt_lt, ← Int32.toInt_inj]; simp; omega) | (simp only [F_on, Int32.le_iff_toInt_le, Int32.lt_iff_toInt_lt, ← Int32.toInt_inj]; split <;> first | rfl | (exfalso; simp at *; omega)) | (unfold F_on; (repeat' split) <;> first | rfl | (exfalso; (try simp only [Int32.le_iff_toInt_le, Int32.lt_iff_toInt_lt, ← Int32.toInt_inj] at *); first | omega | (simp at *; done) | (simp at *; omega))), rfl, fun a ha => by funext j; simp (disch := omega) only [gup_off, gcp_off]⟩
    by_cases c538 : n = 12
    · subst c538
      refine G_callV (pc := 25) (mc1 := 0) (ms1 := 0) (ci := 1) (mj := mX1_goRest) (vs := [_]) dX11_on_25 rfl rfl cm_X1_goRest wf_174 wf_176 wf_177 rfl (Nat.le_of_ble_eq_true rfl) (Nat.le_of_ble_eq_true rfl) (Nat.le_of_ble_eq_true rfl) (Nat.le_of_ble_eq_true rfl) (s429_X1_goRest  d  ) ?_
      rintro _ _ ⟨rfl, rfl⟩
      dsimp only [Option.toList, List.cons_append, List.nil_append]
      refine G_istore_n (pc := 28) (L1 := [some (.ref 0), some (.int 12), some (.int 0)]) rfl rfl (by decide) dX11_on_28 ?_
      refine G_aload_n (pc := 29) rfl dX11_on_29 ?_
      refine G_getR (pc := 30) (r := 19) (ci := 11) (j := 0) rfl lk_RX11_56 rfl rfl rfl dX11_on_30 ?_
      refine G_iconst (pc := 33) (v := 0) (by decide) dX11_on_33 ?_
      refine G_callV (pc := 34) (mc1 := 0) (ms1 := 0) (ci := 1) (mj := mX1_restore) (vs := [_]) dX11_on_34 rfl rfl cm_X1_restore wf_107 wf_109 wf_110 rfl (Nat.le_of_ble_eq_true rfl) (Nat.le_of_ble_eq_true rfl) (Nat.le_of_ble_eq_true rfl) (Nat.le_of_ble_eq_true rfl) (s430_X1_restore  (d + 1)  ) ?_
      rintro _ _ ⟨rfl, rfl⟩
      dsimp only [Option.toList, List.cons_append, List.nil_append]
      refine G_iload_n (pc := 37) rfl dX11_on_37 ?_
      exact G_iret (pc := 38) (Nat.le_of_ble_eq_true rfl) (Nat.le_of_ble_eq_true rfl) rfl dX11_on_38 ⟨_, by first | rfl | (simp [F_on, *]; done) | (simp only [F_on, Int32.le_iff_toInt_le, Int32.lt_iff_toInt_lt, ← Int32.toInt_inj]; simp; omega) | (simp only [F_on, Int32.le_iff_toInt_le, Int32.lt_iff_toInt_lt, ← Int32.toInt_inj]; split <;> first | rfl | (exfalso; simp at *; omega)) | (unfold F_on; (repeat' split) <;> first | rfl | (exfalso; (try simp only [Int32.le_iff_toInt_le, Int32.lt_iff_toInt_lt, ← Int32.toInt_inj] at *); first | omega | (simp at *; done) | (simp at *; omega))), rfl, fun a ha => by funext j; simp (disch := omega) only [gup_off, gcp_off]⟩
    by_cases c539 : n = 13
    · subst c539
      refine G_callV (pc := 25) (mc1 := 0) (ms1 := 0) (ci := 1) (mj := mX1_goRest) (vs := [_]) dX11_on_25 rfl rfl cm_X1_goRest wf_174 wf_176 wf_177 rfl (Nat.le_of_ble_eq_true rfl) (Nat.le_of_ble_eq_true rfl) (Nat.le_of_ble_eq_true rfl) (Nat.le_of_ble_eq_true rfl) (s431_X1_goRest  d  ) ?_
      rintro _ _ ⟨rfl, rfl⟩
      dsimp only [Option.toList, List.cons_append, List.nil_append]
      refine G_istore_n (pc := 28) (L1 := [some (.ref 0), some (.int 13), some (.int 0)]) rfl rfl (by decide) dX11_on_28 ?_
      refine G_aload_n (pc := 29) rfl dX11_on_29 ?_
      refine G_getR (pc := 30) (r := 19) (ci := 11) (j := 0) rfl lk_RX11_56 rfl rfl rfl dX11_on_30 ?_
      refine G_iconst (pc := 33) (v := 0) (by decide) dX11_on_33 ?_
      refine G_callV (pc := 34) (mc1 := 0) (ms1 := 0) (ci := 1) (mj := mX1_restore) (vs := [_]) dX11_on_34 rfl rfl cm_X1_restore wf_107 wf_109 wf_110 rfl (Nat.le_of_ble_eq_true rfl) (Nat.le_of_ble_eq_true rfl) (Nat.le_of_ble_eq_true rfl) (Nat.le_of_ble_eq_true rfl) (s430_X1_restore  (d + 1)  ) ?_
      rintro _ _ ⟨rfl, rfl⟩
      dsimp only [Option.toList, List.cons_append, List.nil_append]
      refine G_iload_n (pc := 37) rfl dX11_on_37 ?_
      exact G_iret (pc := 38) (Nat.le_of_ble_eq_true rfl) (Nat.le_of_ble_eq_true rfl) rfl dX11_on_38 ⟨_, by first | rfl | (simp [F_on, *]; done) | (simp only [F_on, Int32.le_iff_toInt_le, Int32.lt_iff_toInt_lt, ← Int32.toInt_inj]; simp; omega) | (simp only [F_on, Int32.le_iff_toInt_le, Int32.lt_iff_toInt_lt, ← Int32.toInt_inj]; split <;> first | rfl | (exfalso; simp at *; omega)) | (unfold F_on; (repeat' split) <;> first | rfl | (exfalso; (try simp only [Int32.le_iff_toInt_le, Int32.lt_iff_toInt_lt, ← Int32.toInt_inj] at *); first | omega | (simp at *; done) | (simp at *; omega))), rfl, fun a ha => by funext j; simp (disch := omega) only [gup_off, gcp_off]⟩
    by_cases c540 : n = 14
    · subst c540
      refine G_callV (pc := 25) (mc1 := 0) (ms1 := 0) (ci := 1) (mj := mX1_goRest) (vs := [_]) dX11_on_25 rfl rfl cm_X1_goRest wf_174 wf_176 wf_177 rfl (Nat.le_of_ble_eq_true rfl) (Nat.le_of_ble_eq_true rfl) (Nat.le_of_ble_eq_true rfl) (Nat.le_of_ble_eq_true rfl) (s432_X1_goRest  d  ) ?_
      rintro _ _ ⟨rfl, rfl⟩
      dsimp only [Option.toList, List.cons_append, List.nil_append]
      refine G_istore_n (pc := 28) (L1 := [some (.ref 0), some (.int 14), some (.int 0)]) rfl rfl (by decide) dX11_on_28 ?_
      refine G_aload_n (pc := 29) rfl dX11_on_29 ?_
      refine G_getR (pc := 30) (r := 19) (ci := 11) (j := 0) rfl lk_RX11_56 rfl rfl rfl dX11_on_30 ?_
      refine G_iconst (pc := 33) (v := 0) (by decide) dX11_on_33 ?_
      refine G_callV (pc := 34) (mc1 := 0) (ms1 := 0) (ci := 1) (mj := mX1_restore) (vs := [_]) dX11_on_34 rfl rfl cm_X1_restore wf_107 wf_109 wf_110 rfl (Nat.le_of_ble_eq_true rfl) (Nat.le_of_ble_eq_true rfl) (Nat.le_of_ble_eq_true rfl) (Nat.le_of_ble_eq_true rfl) (s430_X1_restore  (d + 1)  ) ?_
      rintro _ _ ⟨rfl, rfl⟩
      dsimp only [Option.toList, List.cons_append, List.nil_append]
      refine G_iload_n (pc := 37) rfl dX11_on_37 ?_
      exact G_iret (pc := 38) (Nat.le_of_ble_eq_true rfl) (Nat.le_of_ble_eq_true rfl) rfl dX11_on_38 ⟨_, by first | rfl | (simp [F_on, *]; done) | (simp only [F_on, Int32.le_iff_toInt_le, Int32.lt_iff_toInt_lt, ← Int32.toInt_inj]; simp; omega) | (simp only [F_on, Int32.le_iff_toInt_le, Int32.lt_iff_toInt_lt, ← Int32.toInt_inj]; split <;> first | rfl | (exfalso; simp at *; omega)) | (unfold F_on; (repeat' split) <;> first | rfl | (exfalso; (try simp only [Int32.le_iff_toInt_le, Int32.lt_iff_toInt_lt, ← Int32.toInt_inj] at *); first | omega | (simp at *; done) | (simp at *; omega))), rfl, fun a ha => by funext j; simp (disch := omega) only [gup_off, gcp_off]⟩
    by_cases c541 : n = 15
    · subst c541
      refine G_callV (pc := 25) (mc1 := 0) (ms1 := 0) (ci := 1) (mj := mX1_goRest) (vs := [_]) dX11_on_25 rfl rfl cm_X1_goRest wf_174 wf_176 wf_177 rfl (Nat.le_of_ble_eq_true rfl) (Nat.le_of_ble_eq_true rfl) (Nat.le_of_ble_eq_true rfl) (Nat.le_of_ble_eq_true rfl) (s433_X1_goRest  d  ) ?_
      rintro _ _ ⟨rfl, rfl⟩
      dsimp only [Option.toList, List.cons_append, List.nil_append]
      refine G_istore_n (pc := 28) (L1 := [some (.ref 0), some (.int 15), some (.int 0)]) rfl rfl (by decide) dX11_on_28 ?_
      refine G_aload_n (pc := 29) rfl dX11_on_29 ?_
      refine G_getR (pc := 30) (r := 19) (ci := 11) (j := 0) rfl lk_RX11_56 rfl rfl rfl dX11_on_30 ?_
      refine G_iconst (pc := 33) (v := 0) (by decide) dX11_on_33 ?_
      refine G_callV (pc := 34) (mc1 := 0) (ms1 := 0) (ci := 1) (mj := mX1_restore) (vs := [_]) dX11_on_34 rfl rfl cm_X1_restore wf_107 wf_109 wf_110 rfl (Nat.le_of_ble_eq_true rfl) (Nat.le_of_ble_eq_true rfl) (Nat.le_of_ble_eq_true rfl) (Nat.le_of_ble_eq_true rfl) (s430_X1_restore  (d + 1)  ) ?_
      rintro _ _ ⟨rfl, rfl⟩
      dsimp only [Option.toList, List.cons_append, List.nil_append]
      refine G_iload_n (pc := 37) rfl dX11_on_37 ?_
      exact G_iret (pc := 38) (Nat.le_of_ble_eq_true rfl) (Nat.le_of_ble_eq_true rfl) rfl dX11_on_38 ⟨_, by first | rfl | (simp [F_on, *]; done) | (simp only [F_on, Int32.le_iff_toInt_le, Int32.lt_iff_toInt_lt, ← Int32.toInt_inj]; simp; omega) | (simp only [F_on, Int32.le_iff_toInt_le, Int32.lt_iff_toInt_lt, ← Int32.toInt_inj]; split <;> first | rfl | (exfalso; simp at *; omega)) | (unfold F_on; (repeat' split) <;> first | rfl | (exfalso; (try simp only [Int32.le_iff_toInt_le, Int32.lt_iff_toInt_lt, ← Int32.toInt_inj] at *); first | omega | (simp at *; done) | (simp at *; omega))), rfl, fun a ha => by funext j; simp (disch := omega) only [gup_off, gcp_off]⟩
    by_cases c542 : n = 16
    · subst c542
      refine G_callV (pc := 25) (mc1 := 0) (ms1 := 0) (ci := 1) (mj := mX1_goRest) (vs := [_]) dX11_on_25 rfl rfl cm_X1_goRest wf_174 wf_176 wf_177 rfl (Nat.le_of_ble_eq_true rfl) (Nat.le_of_ble_eq_true rfl) (Nat.le_of_ble_eq_true rfl) (Nat.le_of_ble_eq_true rfl) (s434_X1_goRest  d  ) ?_
      rintro _ _ ⟨rfl, rfl⟩
      dsimp only [Option.toList, List.cons_append, List.nil_append]
      refine G_istore_n (pc := 28) (L1 := [some (.ref 0), some (.int 16), some (.int 0)]) rfl rfl (by decide) dX11_on_28 ?_
      refine G_aload_n (pc := 29) rfl dX11_on_29 ?_
      refine G_getR (pc := 30) (r := 19) (ci := 11) (j := 0) rfl lk_RX11_56 rfl rfl rfl dX11_on_30 ?_
      refine G_iconst (pc := 33) (v := 0) (by decide) dX11_on_33 ?_
      refine G_callV (pc := 34) (mc1 := 0) (ms1 := 0) (ci := 1) (mj := mX1_restore) (vs := [_]) dX11_on_34 rfl rfl cm_X1_restore wf_107 wf_109 wf_110 rfl (Nat.le_of_ble_eq_true rfl) (Nat.le_of_ble_eq_true rfl) (Nat.le_of_ble_eq_true rfl) (Nat.le_of_ble_eq_true rfl) (s430_X1_restore  (d + 1)  ) ?_
      rintro _ _ ⟨rfl, rfl⟩
      dsimp only [Option.toList, List.cons_append, List.nil_append]
      refine G_iload_n (pc := 37) rfl dX11_on_37 ?_
      exact G_iret (pc := 38) (Nat.le_of_ble_eq_true rfl) (Nat.le_of_ble_eq_true rfl) rfl dX11_on_38 ⟨_, by first | rfl | (simp [F_on, *]; done) | (simp only [F_on, Int32.le_iff_toInt_le, Int32.lt_iff_toInt_lt, ← Int32.toInt_inj]; simp; omega) | (simp only [F_on, Int32.le_iff_toInt_le, Int32.lt_iff_toInt_lt, ← Int32.toInt_inj]; split <;> first | rfl | (exfalso; simp at *; omega)) | (unfold F_on; (repeat' split) <;> first | rfl | (exfalso; (try simp only [Int32.le_iff_toInt_le, Int32.lt_iff_toInt_lt, ← Int32.toInt_inj] at *); first | omega | (simp at *; done) | (simp at *; omega))), rfl, fun a ha => by funext j; simp (disch := omega) only [gup_off, gcp_off]⟩
    exfalso
    have : 0 ≤ (n).toInt := Int32.le_iff_toInt_le.mp (c512.1)
    have : (n).toInt ≤ 16 := Int32.le_iff_toInt_le.mp (c512.2)
    have : (n).toInt ≠ 0 := g_ne (c526)
    have : (n).toInt ≠ 1 := g_ne (c527)
    have : (n).toInt ≠ 2 := g_ne (c528)
    have : (n).toInt ≠ 3 := g_ne (c529)
    have : (n).toInt ≠ 4 := g_ne (c530)
    have : (n).toInt ≠ 5 := g_ne (c531)
    have : (n).toInt ≠ 6 := g_ne (c532)
    have : (n).toInt ≠ 7 := g_ne (c533)
    have : (n).toInt ≠ 8 := g_ne (c534)
    have : (n).toInt ≠ 9 := g_ne (c535)
    have : (n).toInt ≠ 10 := g_ne (c536)
    have : (n).toInt ≠ 11 := g_ne (c537)
    have : (n).toInt ≠ 12 := g_ne (c538)
    have : (n).toInt ≠ 13 := g_ne (c539)
    have : (n).toInt ≠ 14 := g_ne (c540)
    have : (n).toInt ≠ 15 := g_ne (c541)
    have : (n).toInt ≠ 16 := g_ne (c542)
    omega
  · have c512 := gB_z c512
    refine G_iconst (pc := 10) (v := (-1)) (by decide) dX11_on_10 ?_
    exact G_iret (pc := 11) (Nat.le_of_ble_eq_true rfl) (Nat.le_of_ble_eq_true rfl) rfl dX11_on_11 ⟨_, by first | rfl | (simp [F_on, *]; done) | (have : ¬ (0 ≤ (n).toInt ∧ (n).toInt ≤ 16) := fun z => c512 ⟨Int32.le_iff_toInt_le.mpr z.1, Int32.le_iff_toInt_le.mpr z.2⟩; simp only [F_on, Int32.le_iff_toInt_le, Int32.lt_iff_toInt_lt, ← Int32.toInt_inj]; simp; omega) | (have : ¬ (0 ≤ (n).toInt ∧ (n).toInt ≤ 16) := fun z => c512 ⟨Int32.le_iff_toInt_le.mpr z.1, Int32.le_iff_toInt_le.mpr z.2⟩; simp only [F_on, Int32.le_iff_toInt_le, Int32.lt_iff_toInt_lt, ← Int32.toInt_inj]; split <;> first | rfl | (exfalso; simp at *; omega)) | (have : ¬ (0 ≤ (n).toInt ∧ (n).toInt ≤ 16) := fun z => c512 ⟨Int32.le_iff_toInt_le.mpr z.1, Int32.le_iff_toInt_le.mpr z.2⟩; unfold F_on; (repeat' split) <;> first | rfl | (exfalso; (try simp only [Int32.le_iff_toInt_le, Int32.lt_iff_toInt_lt, ← Int32.toInt_inj] at *); first | omega | (simp at *; done) | (simp at *; omega))), rfl, fun _ _ => rfl⟩
set_option maxRecDepth 100000 in
set_option maxHeartbeats 4000000 in
theorem s436_X1_allTeeth  (d : Nat)   : G (d) mX1_allTeeth 0 0 0 0 0 (gent 3 [.ref 19]) [] SH0 RF0 (gup (gup (gcp I0 24 34 (0 : Int32).toNatClampNeg (0 : Int32).toNatClampNeg (6 : Int32).toNatClampNeg) 34 6 0) 34 7 0) (fun r h => r = some (.int 0) ∧ h = (SH0, RF0, (gup (gup (gcp I0 24 34 (0 : Int32).toNatClampNeg (0 : Int32).toNatClampNeg (6 : Int32).toNatClampNeg) 34 6 0) 34 7 0))) := by
  refine G_iconst (pc := 0) (v := 0) (by decide) dX1_allTeeth_0 ?_
  refine G_istore_n (pc := 1) (L1 := [some (.ref 19), some (.int 0), none]) rfl rfl (by decide) dX1_allTeeth_1 ?_
  refine G_iconst (pc := 2) (v := 0) (by decide) dX1_allTeeth_2 ?_
  refine G_istore_n (pc := 3) (L1 := [some (.ref 19), some (.int 0), some (.int 0)]) rfl rfl (by decide) dX1_allTeeth_3 ?_
  refine G_iload_n (pc := 4) rfl dX1_allTeeth_4 ?_
  refine G_aload_n (pc := 5) rfl dX1_allTeeth_5 ?_
  refine G_getI (pc := 6) (v := 0) (ci := 1) (j := 8) rfl rfl lk_RX1_72 rfl rfl dX1_allTeeth_6 ?_
  refine G_icmp_ge (pc := 9) (tgt := 27) (by decide) dX1_allTeeth_9 (fun _ => ?_) (fun z => absurd (by decide) z)
  refine G_iload_n (pc := 27) rfl dX1_allTeeth_27 ?_
  exact G_iret (pc := 28) (Nat.le_of_ble_eq_true rfl) (Nat.le_of_ble_eq_true rfl) rfl dX1_allTeeth_28 ⟨rfl, rfl⟩
set_option maxRecDepth 100000 in
set_option maxHeartbeats 4000000 in
theorem s437_X1_allTeeth  (d : Nat)   : G (d) mX1_allTeeth 0 0 0 0 0 (gent 3 [.ref 19]) [] SH0 RF0 (gup (gup (gup (gcp I0 24 34 (0 : Int32).toNatClampNeg (0 : Int32).toNatClampNeg (6 : Int32).toNatClampNeg) 34 6 0) 34 7 0) 19 1 1) (fun r h => r = some (.int 0) ∧ h = (SH0, RF0, (gup (gup (gup (gcp I0 24 34 (0 : Int32).toNatClampNeg (0 : Int32).toNatClampNeg (6 : Int32).toNatClampNeg) 34 6 0) 34 7 0) 19 1 1))) := by
  refine G_iconst (pc := 0) (v := 0) (by decide) dX1_allTeeth_0 ?_
  refine G_istore_n (pc := 1) (L1 := [some (.ref 19), some (.int 0), none]) rfl rfl (by decide) dX1_allTeeth_1 ?_
  refine G_iconst (pc := 2) (v := 0) (by decide) dX1_allTeeth_2 ?_
  refine G_istore_n (pc := 3) (L1 := [some (.ref 19), some (.int 0), some (.int 0)]) rfl rfl (by decide) dX1_allTeeth_3 ?_
  refine G_iload_n (pc := 4) rfl dX1_allTeeth_4 ?_
  refine G_aload_n (pc := 5) rfl dX1_allTeeth_5 ?_
  refine G_getI (pc := 6) (v := 0) (ci := 1) (j := 8) rfl rfl lk_RX1_72 rfl rfl dX1_allTeeth_6 ?_
  refine G_icmp_ge (pc := 9) (tgt := 27) (by decide) dX1_allTeeth_9 (fun _ => ?_) (fun z => absurd (by decide) z)
  refine G_iload_n (pc := 27) rfl dX1_allTeeth_27 ?_
  exact G_iret (pc := 28) (Nat.le_of_ble_eq_true rfl) (Nat.le_of_ble_eq_true rfl) rfl dX1_allTeeth_28 ⟨rfl, rfl⟩
set_option maxRecDepth 100000 in
set_option maxHeartbeats 4000000 in
theorem s438_X1_allTeeth  (d : Nat)   : G (d) mX1_allTeeth 0 0 0 0 0 (gent 3 [.ref 19]) [] SH0 RF0 (gup (gup (gup (gup (gcp I0 24 34 (0 : Int32).toNatClampNeg (0 : Int32).toNatClampNeg (6 : Int32).toNatClampNeg) 34 6 0) 34 7 0) 19 1 1) 19 1 2) (fun r h => r = some (.int 0) ∧ h = (SH0, RF0, (gup (gup (gup (gup (gcp I0 24 34 (0 : Int32).toNatClampNeg (0 : Int32).toNatClampNeg (6 : Int32).toNatClampNeg) 34 6 0) 34 7 0) 19 1 1) 19 1 2))) := by
  refine G_iconst (pc := 0) (v := 0) (by decide) dX1_allTeeth_0 ?_
  refine G_istore_n (pc := 1) (L1 := [some (.ref 19), some (.int 0), none]) rfl rfl (by decide) dX1_allTeeth_1 ?_
  refine G_iconst (pc := 2) (v := 0) (by decide) dX1_allTeeth_2 ?_
  refine G_istore_n (pc := 3) (L1 := [some (.ref 19), some (.int 0), some (.int 0)]) rfl rfl (by decide) dX1_allTeeth_3 ?_
  refine G_iload_n (pc := 4) rfl dX1_allTeeth_4 ?_
  refine G_aload_n (pc := 5) rfl dX1_allTeeth_5 ?_
  refine G_getI (pc := 6) (v := 0) (ci := 1) (j := 8) rfl rfl lk_RX1_72 rfl rfl dX1_allTeeth_6 ?_
  refine G_icmp_ge (pc := 9) (tgt := 27) (by decide) dX1_allTeeth_9 (fun _ => ?_) (fun z => absurd (by decide) z)
  refine G_iload_n (pc := 27) rfl dX1_allTeeth_27 ?_
  exact G_iret (pc := 28) (Nat.le_of_ble_eq_true rfl) (Nat.le_of_ble_eq_true rfl) rfl dX1_allTeeth_28 ⟨rfl, rfl⟩
set_option maxRecDepth 100000 in
set_option maxHeartbeats 4000000 in
theorem s439_X1_allTeeth  (d : Nat)   : G (d) mX1_allTeeth 0 0 0 0 0 (gent 3 [.ref 19]) [] SH0 RF0 (gup (gup (gup (gup (gup (gcp I0 24 34 (0 : Int32).toNatClampNeg (0 : Int32).toNatClampNeg (6 : Int32).toNatClampNeg) 34 6 0) 34 7 0) 19 1 1) 19 1 2) 19 1 3) (fun r h => r = some (.int 0) ∧ h = (SH0, RF0, (gup (gup (gup (gup (gup (gcp I0 24 34 (0 : Int32).toNatClampNeg (0 : Int32).toNatClampNeg (6 : Int32).toNatClampNeg) 34 6 0) 34 7 0) 19 1 1) 19 1 2) 19 1 3))) := by
  refine G_iconst (pc := 0) (v := 0) (by decide) dX1_allTeeth_0 ?_
  refine G_istore_n (pc := 1) (L1 := [some (.ref 19), some (.int 0), none]) rfl rfl (by decide) dX1_allTeeth_1 ?_
  refine G_iconst (pc := 2) (v := 0) (by decide) dX1_allTeeth_2 ?_
  refine G_istore_n (pc := 3) (L1 := [some (.ref 19), some (.int 0), some (.int 0)]) rfl rfl (by decide) dX1_allTeeth_3 ?_
  refine G_iload_n (pc := 4) rfl dX1_allTeeth_4 ?_
  refine G_aload_n (pc := 5) rfl dX1_allTeeth_5 ?_
  refine G_getI (pc := 6) (v := 0) (ci := 1) (j := 8) rfl rfl lk_RX1_72 rfl rfl dX1_allTeeth_6 ?_
  refine G_icmp_ge (pc := 9) (tgt := 27) (by decide) dX1_allTeeth_9 (fun _ => ?_) (fun z => absurd (by decide) z)
  refine G_iload_n (pc := 27) rfl dX1_allTeeth_27 ?_
  exact G_iret (pc := 28) (Nat.le_of_ble_eq_true rfl) (Nat.le_of_ble_eq_true rfl) rfl dX1_allTeeth_28 ⟨rfl, rfl⟩
set_option maxRecDepth 100000 in
set_option maxHeartbeats 4000000 in
theorem s440_X1_allTeeth  (d : Nat)   : G (d) mX1_allTeeth 0 0 0 0 0 (gent 3 [.ref 19]) [] SH0 RF0 (gup (gup (gup (gup (gup (gup (gcp I0 24 34 (0 : Int32).toNatClampNeg (0 : Int32).toNatClampNeg (6 : Int32).toNatClampNeg) 34 6 0) 34 7 0) 19 1 1) 19 1 2) 19 1 3) 19 1 4) (fun r h => r = some (.int 0) ∧ h = (SH0, RF0, (gup (gup (gup (gup (gup (gup (gcp I0 24 34 (0 : Int32).toNatClampNeg (0 : Int32).toNatClampNeg (6 : Int32).toNatClampNeg) 34 6 0) 34 7 0) 19 1 1) 19 1 2) 19 1 3) 19 1 4))) := by
  refine G_iconst (pc := 0) (v := 0) (by decide) dX1_allTeeth_0 ?_
  refine G_istore_n (pc := 1) (L1 := [some (.ref 19), some (.int 0), none]) rfl rfl (by decide) dX1_allTeeth_1 ?_
  refine G_iconst (pc := 2) (v := 0) (by decide) dX1_allTeeth_2 ?_
  refine G_istore_n (pc := 3) (L1 := [some (.ref 19), some (.int 0), some (.int 0)]) rfl rfl (by decide) dX1_allTeeth_3 ?_
  refine G_iload_n (pc := 4) rfl dX1_allTeeth_4 ?_
  refine G_aload_n (pc := 5) rfl dX1_allTeeth_5 ?_
  refine G_getI (pc := 6) (v := 0) (ci := 1) (j := 8) rfl rfl lk_RX1_72 rfl rfl dX1_allTeeth_6 ?_
  refine G_icmp_ge (pc := 9) (tgt := 27) (by decide) dX1_allTeeth_9 (fun _ => ?_) (fun z => absurd (by decide) z)
  refine G_iload_n (pc := 27) rfl dX1_allTeeth_27 ?_
  exact G_iret (pc := 28) (Nat.le_of_ble_eq_true rfl) (Nat.le_of_ble_eq_true rfl) rfl dX1_allTeeth_28 ⟨rfl, rfl⟩
set_option maxRecDepth 100000 in
set_option maxHeartbeats 4000000 in
theorem s441_X1_allTeeth  (d : Nat)   : G (d) mX1_allTeeth 0 0 0 0 0 (gent 3 [.ref 19]) [] SH0 RF0 (gup (gup (gup (gup (gup (gup (gup (gcp I0 24 34 (0 : Int32).toNatClampNeg (0 : Int32).toNatClampNeg (6 : Int32).toNatClampNeg) 34 6 0) 34 7 0) 19 1 1) 19 1 2) 19 1 3) 19 1 4) 19 1 5) (fun r h => r = some (.int 0) ∧ h = (SH0, RF0, (gup (gup (gup (gup (gup (gup (gup (gcp I0 24 34 (0 : Int32).toNatClampNeg (0 : Int32).toNatClampNeg (6 : Int32).toNatClampNeg) 34 6 0) 34 7 0) 19 1 1) 19 1 2) 19 1 3) 19 1 4) 19 1 5))) := by
  refine G_iconst (pc := 0) (v := 0) (by decide) dX1_allTeeth_0 ?_
  refine G_istore_n (pc := 1) (L1 := [some (.ref 19), some (.int 0), none]) rfl rfl (by decide) dX1_allTeeth_1 ?_
  refine G_iconst (pc := 2) (v := 0) (by decide) dX1_allTeeth_2 ?_
  refine G_istore_n (pc := 3) (L1 := [some (.ref 19), some (.int 0), some (.int 0)]) rfl rfl (by decide) dX1_allTeeth_3 ?_
  refine G_iload_n (pc := 4) rfl dX1_allTeeth_4 ?_
  refine G_aload_n (pc := 5) rfl dX1_allTeeth_5 ?_
  refine G_getI (pc := 6) (v := 0) (ci := 1) (j := 8) rfl rfl lk_RX1_72 rfl rfl dX1_allTeeth_6 ?_
  refine G_icmp_ge (pc := 9) (tgt := 27) (by decide) dX1_allTeeth_9 (fun _ => ?_) (fun z => absurd (by decide) z)
  refine G_iload_n (pc := 27) rfl dX1_allTeeth_27 ?_
  exact G_iret (pc := 28) (Nat.le_of_ble_eq_true rfl) (Nat.le_of_ble_eq_true rfl) rfl dX1_allTeeth_28 ⟨rfl, rfl⟩
set_option maxRecDepth 100000 in
set_option maxHeartbeats 4000000 in
theorem s442_X1_allTeeth  (d : Nat)   : G (d) mX1_allTeeth 0 0 0 0 0 (gent 3 [.ref 19]) [] SH0 RF0 (gup (gup (gup (gup (gup (gup (gup (gup (gcp I0 24 34 (0 : Int32).toNatClampNeg (0 : Int32).toNatClampNeg (6 : Int32).toNatClampNeg) 34 6 0) 34 7 0) 19 1 1) 19 1 2) 19 1 3) 19 1 4) 19 1 5) 19 1 6) (fun r h => r = some (.int 0) ∧ h = (SH0, RF0, (gup (gup (gup (gup (gup (gup (gup (gup (gcp I0 24 34 (0 : Int32).toNatClampNeg (0 : Int32).toNatClampNeg (6 : Int32).toNatClampNeg) 34 6 0) 34 7 0) 19 1 1) 19 1 2) 19 1 3) 19 1 4) 19 1 5) 19 1 6))) := by
  refine G_iconst (pc := 0) (v := 0) (by decide) dX1_allTeeth_0 ?_
  refine G_istore_n (pc := 1) (L1 := [some (.ref 19), some (.int 0), none]) rfl rfl (by decide) dX1_allTeeth_1 ?_
  refine G_iconst (pc := 2) (v := 0) (by decide) dX1_allTeeth_2 ?_
  refine G_istore_n (pc := 3) (L1 := [some (.ref 19), some (.int 0), some (.int 0)]) rfl rfl (by decide) dX1_allTeeth_3 ?_
  refine G_iload_n (pc := 4) rfl dX1_allTeeth_4 ?_
  refine G_aload_n (pc := 5) rfl dX1_allTeeth_5 ?_
  refine G_getI (pc := 6) (v := 0) (ci := 1) (j := 8) rfl rfl lk_RX1_72 rfl rfl dX1_allTeeth_6 ?_
  refine G_icmp_ge (pc := 9) (tgt := 27) (by decide) dX1_allTeeth_9 (fun _ => ?_) (fun z => absurd (by decide) z)
  refine G_iload_n (pc := 27) rfl dX1_allTeeth_27 ?_
  exact G_iret (pc := 28) (Nat.le_of_ble_eq_true rfl) (Nat.le_of_ble_eq_true rfl) rfl dX1_allTeeth_28 ⟨rfl, rfl⟩
set_option maxRecDepth 100000 in
set_option maxHeartbeats 4000000 in
theorem s443_X1_allTeeth  (d : Nat)   : G (d) mX1_allTeeth 0 0 0 0 0 (gent 3 [.ref 19]) [] SH0 RF0 (gup (gup (gup (gup (gup (gup (gup (gup (gup (gcp I0 24 34 (0 : Int32).toNatClampNeg (0 : Int32).toNatClampNeg (6 : Int32).toNatClampNeg) 34 6 0) 34 7 0) 19 1 1) 19 1 2) 19 1 3) 19 1 4) 19 1 5) 19 1 6) 19 1 7) (fun r h => r = some (.int 0) ∧ h = (SH0, RF0, (gup (gup (gup (gup (gup (gup (gup (gup (gup (gcp I0 24 34 (0 : Int32).toNatClampNeg (0 : Int32).toNatClampNeg (6 : Int32).toNatClampNeg) 34 6 0) 34 7 0) 19 1 1) 19 1 2) 19 1 3) 19 1 4) 19 1 5) 19 1 6) 19 1 7))) := by
  refine G_iconst (pc := 0) (v := 0) (by decide) dX1_allTeeth_0 ?_
  refine G_istore_n (pc := 1) (L1 := [some (.ref 19), some (.int 0), none]) rfl rfl (by decide) dX1_allTeeth_1 ?_
  refine G_iconst (pc := 2) (v := 0) (by decide) dX1_allTeeth_2 ?_
  refine G_istore_n (pc := 3) (L1 := [some (.ref 19), some (.int 0), some (.int 0)]) rfl rfl (by decide) dX1_allTeeth_3 ?_
  refine G_iload_n (pc := 4) rfl dX1_allTeeth_4 ?_
  refine G_aload_n (pc := 5) rfl dX1_allTeeth_5 ?_
  refine G_getI (pc := 6) (v := 0) (ci := 1) (j := 8) rfl rfl lk_RX1_72 rfl rfl dX1_allTeeth_6 ?_
  refine G_icmp_ge (pc := 9) (tgt := 27) (by decide) dX1_allTeeth_9 (fun _ => ?_) (fun z => absurd (by decide) z)
  refine G_iload_n (pc := 27) rfl dX1_allTeeth_27 ?_
  exact G_iret (pc := 28) (Nat.le_of_ble_eq_true rfl) (Nat.le_of_ble_eq_true rfl) rfl dX1_allTeeth_28 ⟨rfl, rfl⟩
set_option maxRecDepth 100000 in
set_option maxHeartbeats 4000000 in
theorem s444_X1_allTeeth  (d : Nat)   : G (d) mX1_allTeeth 0 0 0 0 0 (gent 3 [.ref 19]) [] SH0 RF0 (gup (gup (gup (gup (gup (gup (gup (gup (gup (gup (gcp I0 24 34 (0 : Int32).toNatClampNeg (0 : Int32).toNatClampNeg (6 : Int32).toNatClampNeg) 34 6 0) 34 7 0) 19 1 1) 19 1 2) 19 1 3) 19 1 4) 19 1 5) 19 1 6) 19 1 7) 19 1 8) (fun r h => r = some (.int 0) ∧ h = (SH0, RF0, (gup (gup (gup (gup (gup (gup (gup (gup (gup (gup (gcp I0 24 34 (0 : Int32).toNatClampNeg (0 : Int32).toNatClampNeg (6 : Int32).toNatClampNeg) 34 6 0) 34 7 0) 19 1 1) 19 1 2) 19 1 3) 19 1 4) 19 1 5) 19 1 6) 19 1 7) 19 1 8))) := by
  refine G_iconst (pc := 0) (v := 0) (by decide) dX1_allTeeth_0 ?_
  refine G_istore_n (pc := 1) (L1 := [some (.ref 19), some (.int 0), none]) rfl rfl (by decide) dX1_allTeeth_1 ?_
  refine G_iconst (pc := 2) (v := 0) (by decide) dX1_allTeeth_2 ?_
  refine G_istore_n (pc := 3) (L1 := [some (.ref 19), some (.int 0), some (.int 0)]) rfl rfl (by decide) dX1_allTeeth_3 ?_
  refine G_iload_n (pc := 4) rfl dX1_allTeeth_4 ?_
  refine G_aload_n (pc := 5) rfl dX1_allTeeth_5 ?_
  refine G_getI (pc := 6) (v := 0) (ci := 1) (j := 8) rfl rfl lk_RX1_72 rfl rfl dX1_allTeeth_6 ?_
  refine G_icmp_ge (pc := 9) (tgt := 27) (by decide) dX1_allTeeth_9 (fun _ => ?_) (fun z => absurd (by decide) z)
  refine G_iload_n (pc := 27) rfl dX1_allTeeth_27 ?_
  exact G_iret (pc := 28) (Nat.le_of_ble_eq_true rfl) (Nat.le_of_ble_eq_true rfl) rfl dX1_allTeeth_28 ⟨rfl, rfl⟩
set_option maxRecDepth 100000 in
set_option maxHeartbeats 4000000 in
theorem s445_X1_allTeeth  (d : Nat)   : G (d) mX1_allTeeth 0 0 0 0 0 (gent 3 [.ref 19]) [] SH0 RF0 (gup (gup (gup (gup (gup (gup (gup (gup (gup (gup (gup (gcp I0 24 34 (0 : Int32).toNatClampNeg (0 : Int32).toNatClampNeg (6 : Int32).toNatClampNeg) 34 6 0) 34 7 0) 19 1 1) 19 1 2) 19 1 3) 19 1 4) 19 1 5) 19 1 6) 19 1 7) 19 1 8) 19 1 9) (fun r h => r = some (.int 0) ∧ h = (SH0, RF0, (gup (gup (gup (gup (gup (gup (gup (gup (gup (gup (gup (gcp I0 24 34 (0 : Int32).toNatClampNeg (0 : Int32).toNatClampNeg (6 : Int32).toNatClampNeg) 34 6 0) 34 7 0) 19 1 1) 19 1 2) 19 1 3) 19 1 4) 19 1 5) 19 1 6) 19 1 7) 19 1 8) 19 1 9))) := by
  refine G_iconst (pc := 0) (v := 0) (by decide) dX1_allTeeth_0 ?_
  refine G_istore_n (pc := 1) (L1 := [some (.ref 19), some (.int 0), none]) rfl rfl (by decide) dX1_allTeeth_1 ?_
  refine G_iconst (pc := 2) (v := 0) (by decide) dX1_allTeeth_2 ?_
  refine G_istore_n (pc := 3) (L1 := [some (.ref 19), some (.int 0), some (.int 0)]) rfl rfl (by decide) dX1_allTeeth_3 ?_
  refine G_iload_n (pc := 4) rfl dX1_allTeeth_4 ?_
  refine G_aload_n (pc := 5) rfl dX1_allTeeth_5 ?_
  refine G_getI (pc := 6) (v := 0) (ci := 1) (j := 8) rfl rfl lk_RX1_72 rfl rfl dX1_allTeeth_6 ?_
  refine G_icmp_ge (pc := 9) (tgt := 27) (by decide) dX1_allTeeth_9 (fun _ => ?_) (fun z => absurd (by decide) z)
  refine G_iload_n (pc := 27) rfl dX1_allTeeth_27 ?_
  exact G_iret (pc := 28) (Nat.le_of_ble_eq_true rfl) (Nat.le_of_ble_eq_true rfl) rfl dX1_allTeeth_28 ⟨rfl, rfl⟩
set_option maxRecDepth 100000 in
set_option maxHeartbeats 4000000 in
theorem s446_X1_allTeeth  (d : Nat)   : G (d) mX1_allTeeth 0 0 0 0 0 (gent 3 [.ref 19]) [] SH0 RF0 (gup (gup (gup (gup (gup (gup (gup (gup (gup (gup (gup (gup (gcp I0 24 34 (0 : Int32).toNatClampNeg (0 : Int32).toNatClampNeg (6 : Int32).toNatClampNeg) 34 6 0) 34 7 0) 19 1 1) 19 1 2) 19 1 3) 19 1 4) 19 1 5) 19 1 6) 19 1 7) 19 1 8) 19 1 9) 19 1 10) (fun r h => r = some (.int 0) ∧ h = (SH0, RF0, (gup (gup (gup (gup (gup (gup (gup (gup (gup (gup (gup (gup (gcp I0 24 34 (0 : Int32).toNatClampNeg (0 : Int32).toNatClampNeg (6 : Int32).toNatClampNeg) 34 6 0) 34 7 0) 19 1 1) 19 1 2) 19 1 3) 19 1 4) 19 1 5) 19 1 6) 19 1 7) 19 1 8) 19 1 9) 19 1 10))) := by
  refine G_iconst (pc := 0) (v := 0) (by decide) dX1_allTeeth_0 ?_
  refine G_istore_n (pc := 1) (L1 := [some (.ref 19), some (.int 0), none]) rfl rfl (by decide) dX1_allTeeth_1 ?_
  refine G_iconst (pc := 2) (v := 0) (by decide) dX1_allTeeth_2 ?_
  refine G_istore_n (pc := 3) (L1 := [some (.ref 19), some (.int 0), some (.int 0)]) rfl rfl (by decide) dX1_allTeeth_3 ?_
  refine G_iload_n (pc := 4) rfl dX1_allTeeth_4 ?_
  refine G_aload_n (pc := 5) rfl dX1_allTeeth_5 ?_
  refine G_getI (pc := 6) (v := 0) (ci := 1) (j := 8) rfl rfl lk_RX1_72 rfl rfl dX1_allTeeth_6 ?_
  refine G_icmp_ge (pc := 9) (tgt := 27) (by decide) dX1_allTeeth_9 (fun _ => ?_) (fun z => absurd (by decide) z)
  refine G_iload_n (pc := 27) rfl dX1_allTeeth_27 ?_
  exact G_iret (pc := 28) (Nat.le_of_ble_eq_true rfl) (Nat.le_of_ble_eq_true rfl) rfl dX1_allTeeth_28 ⟨rfl, rfl⟩
set_option maxRecDepth 100000 in
set_option maxHeartbeats 4000000 in
theorem s447_X1_allTeeth  (d : Nat)   : G (d) mX1_allTeeth 0 0 0 0 0 (gent 3 [.ref 19]) [] SH0 RF0 (gup (gup (gup (gup (gup (gup (gup (gup (gup (gup (gup (gup (gup (gcp I0 24 34 (0 : Int32).toNatClampNeg (0 : Int32).toNatClampNeg (6 : Int32).toNatClampNeg) 34 6 0) 34 7 0) 19 1 1) 19 1 2) 19 1 3) 19 1 4) 19 1 5) 19 1 6) 19 1 7) 19 1 8) 19 1 9) 19 1 10) 19 1 11) (fun r h => r = some (.int 0) ∧ h = (SH0, RF0, (gup (gup (gup (gup (gup (gup (gup (gup (gup (gup (gup (gup (gup (gcp I0 24 34 (0 : Int32).toNatClampNeg (0 : Int32).toNatClampNeg (6 : Int32).toNatClampNeg) 34 6 0) 34 7 0) 19 1 1) 19 1 2) 19 1 3) 19 1 4) 19 1 5) 19 1 6) 19 1 7) 19 1 8) 19 1 9) 19 1 10) 19 1 11))) := by
  refine G_iconst (pc := 0) (v := 0) (by decide) dX1_allTeeth_0 ?_
  refine G_istore_n (pc := 1) (L1 := [some (.ref 19), some (.int 0), none]) rfl rfl (by decide) dX1_allTeeth_1 ?_
  refine G_iconst (pc := 2) (v := 0) (by decide) dX1_allTeeth_2 ?_
  refine G_istore_n (pc := 3) (L1 := [some (.ref 19), some (.int 0), some (.int 0)]) rfl rfl (by decide) dX1_allTeeth_3 ?_
  refine G_iload_n (pc := 4) rfl dX1_allTeeth_4 ?_
  refine G_aload_n (pc := 5) rfl dX1_allTeeth_5 ?_
  refine G_getI (pc := 6) (v := 0) (ci := 1) (j := 8) rfl rfl lk_RX1_72 rfl rfl dX1_allTeeth_6 ?_
  refine G_icmp_ge (pc := 9) (tgt := 27) (by decide) dX1_allTeeth_9 (fun _ => ?_) (fun z => absurd (by decide) z)
  refine G_iload_n (pc := 27) rfl dX1_allTeeth_27 ?_
  exact G_iret (pc := 28) (Nat.le_of_ble_eq_true rfl) (Nat.le_of_ble_eq_true rfl) rfl dX1_allTeeth_28 ⟨rfl, rfl⟩
set_option maxRecDepth 100000 in
set_option maxHeartbeats 4000000 in
theorem s448_X1_allTeeth  (d : Nat)   : G (d) mX1_allTeeth 0 0 0 0 0 (gent 3 [.ref 19]) [] SH0 RF0 (gup (gup (gup (gup (gup (gup (gup (gup (gup (gup (gup (gup (gup (gup (gcp I0 24 34 (0 : Int32).toNatClampNeg (0 : Int32).toNatClampNeg (6 : Int32).toNatClampNeg) 34 6 0) 34 7 0) 19 1 1) 19 1 2) 19 1 3) 19 1 4) 19 1 5) 19 1 6) 19 1 7) 19 1 8) 19 1 9) 19 1 10) 19 1 11) 19 1 12) (fun r h => r = some (.int 0) ∧ h = (SH0, RF0, (gup (gup (gup (gup (gup (gup (gup (gup (gup (gup (gup (gup (gup (gup (gcp I0 24 34 (0 : Int32).toNatClampNeg (0 : Int32).toNatClampNeg (6 : Int32).toNatClampNeg) 34 6 0) 34 7 0) 19 1 1) 19 1 2) 19 1 3) 19 1 4) 19 1 5) 19 1 6) 19 1 7) 19 1 8) 19 1 9) 19 1 10) 19 1 11) 19 1 12))) := by
  refine G_iconst (pc := 0) (v := 0) (by decide) dX1_allTeeth_0 ?_
  refine G_istore_n (pc := 1) (L1 := [some (.ref 19), some (.int 0), none]) rfl rfl (by decide) dX1_allTeeth_1 ?_
  refine G_iconst (pc := 2) (v := 0) (by decide) dX1_allTeeth_2 ?_
  refine G_istore_n (pc := 3) (L1 := [some (.ref 19), some (.int 0), some (.int 0)]) rfl rfl (by decide) dX1_allTeeth_3 ?_
  refine G_iload_n (pc := 4) rfl dX1_allTeeth_4 ?_
  refine G_aload_n (pc := 5) rfl dX1_allTeeth_5 ?_
  refine G_getI (pc := 6) (v := 0) (ci := 1) (j := 8) rfl rfl lk_RX1_72 rfl rfl dX1_allTeeth_6 ?_
  refine G_icmp_ge (pc := 9) (tgt := 27) (by decide) dX1_allTeeth_9 (fun _ => ?_) (fun z => absurd (by decide) z)
  refine G_iload_n (pc := 27) rfl dX1_allTeeth_27 ?_
  exact G_iret (pc := 28) (Nat.le_of_ble_eq_true rfl) (Nat.le_of_ble_eq_true rfl) rfl dX1_allTeeth_28 ⟨rfl, rfl⟩
def F_left (n : Int32) (what : Int32) : Int32 := if (0 ≤ n ∧ n ≤ 16) ∧ (0 ≤ what ∧ what ≤ 1) then 0 else -1
set_option maxRecDepth 100000 in
set_option maxHeartbeats 4000000 in
theorem x_left (d : Nat) (n : Int32) (what : Int32) : G (d + 3) mX11_left 0 0 0 0 0 (gent 4 [.ref 0, .int n, .int what]) [] SH0 RF0 I0 (fun r h => ∃ I1, r = some (.int (F_left n what)) ∧ h = (SH0, RF0, I1) ∧ ∀ a, 67 ≤ a → I1 a = I0 a) := by
  refine G_iload_n (pc := 0) rfl dX11_left_0 ?_
  refine G_iconst (pc := 1) (v := 0) (by decide) dX11_left_1 ?_
  refine G_bipush (pc := 2) (v := 16) (by decide) dX11_left_2 ?_
  refine G_callS (pc := 4) (mc1 := 0) (ms1 := 0) (mj := mX11_isIn) (vs := [_, _, _]) dX11_left_4 cm_X11_isIn wf_4 wf_6 rfl (Nat.le_of_ble_eq_true rfl) (Nat.le_of_ble_eq_true rfl) (Nat.le_of_ble_eq_true rfl) (Nat.le_of_ble_eq_true rfl) (isIn_s (d + 2) n 0 16) ?_
  rintro _ _ ⟨rfl, rfl⟩
  dsimp only [Option.toList, List.cons_append, List.nil_append]
  refine G_if_eq (pc := 7) (tgt := 19) (by decide) dX11_left_7 (fun c543 => ?_) (fun c543 => ?_)
  · have c543 := gB_z c543
    refine G_iconst (pc := 19) (v := (-1)) (by decide) dX11_left_19 ?_
    exact G_iret (pc := 20) (Nat.le_of_ble_eq_true rfl) (Nat.le_of_ble_eq_true rfl) rfl dX11_left_20 ⟨_, by first | rfl | (simp [F_left, *]; done) | (have : ¬ (0 ≤ (n).toInt ∧ (n).toInt ≤ 16) := fun z => c543 ⟨Int32.le_iff_toInt_le.mpr z.1, Int32.le_iff_toInt_le.mpr z.2⟩; simp only [F_left, Int32.le_iff_toInt_le, Int32.lt_iff_toInt_lt, ← Int32.toInt_inj]; simp; omega) | (have : ¬ (0 ≤ (n).toInt ∧ (n).toInt ≤ 16) := fun z => c543 ⟨Int32.le_iff_toInt_le.mpr z.1, Int32.le_iff_toInt_le.mpr z.2⟩; simp only [F_left, Int32.le_iff_toInt_le, Int32.lt_iff_toInt_lt, ← Int32.toInt_inj]; split <;> first | rfl | (exfalso; simp at *; omega)) | (have : ¬ (0 ≤ (n).toInt ∧ (n).toInt ≤ 16) := fun z => c543 ⟨Int32.le_iff_toInt_le.mpr z.1, Int32.le_iff_toInt_le.mpr z.2⟩; unfold F_left; (repeat' split) <;> first | rfl | (exfalso; (try simp only [Int32.le_iff_toInt_le, Int32.lt_iff_toInt_lt, ← Int32.toInt_inj] at *); first | omega | (simp at *; done) | (simp at *; omega))), rfl, fun _ _ => rfl⟩
  · have c543 := gB_o c543
    refine G_iload_n (pc := 10) rfl dX11_left_10 ?_
    refine G_iconst (pc := 11) (v := 0) (by decide) dX11_left_11 ?_
    refine G_iconst (pc := 12) (v := 1) (by decide) dX11_left_12 ?_
    refine G_callS (pc := 13) (mc1 := 0) (ms1 := 0) (mj := mX11_isIn) (vs := [_, _, _]) dX11_left_13 cm_X11_isIn wf_4 wf_6 rfl (Nat.le_of_ble_eq_true rfl) (Nat.le_of_ble_eq_true rfl) (Nat.le_of_ble_eq_true rfl) (Nat.le_of_ble_eq_true rfl) (isIn_s (d + 2) what 0 1) ?_
    rintro _ _ ⟨rfl, rfl⟩
    dsimp only [Option.toList, List.cons_append, List.nil_append]
    refine G_if_ne (pc := 16) (tgt := 21) (by decide) dX11_left_16 (fun c544 => ?_) (fun c544 => ?_)
    · have c544 := gB_o c544
      refine G_aload_n (pc := 21) rfl dX11_left_21 ?_
      refine G_getR (pc := 22) (r := 19) (ci := 11) (j := 0) rfl lk_RX11_56 rfl rfl rfl dX11_left_22 ?_
      refine G_iconst (pc := 25) (v := 0) (by decide) dX11_left_25 ?_
      refine G_callV (pc := 26) (mc1 := 0) (ms1 := 0) (ci := 1) (mj := mX1_save) (vs := [_]) dX11_left_26 rfl rfl cm_X1_save wf_103 wf_105 wf_106 rfl (Nat.le_of_ble_eq_true rfl) (Nat.le_of_ble_eq_true rfl) (Nat.le_of_ble_eq_true rfl) (Nat.le_of_ble_eq_true rfl) (s39_X1_save  (d + 1)  ) ?_
      rintro _ _ ⟨rfl, rfl⟩
      dsimp only [Option.toList, List.cons_append, List.nil_append]
      refine G_aload_n (pc := 29) rfl dX11_left_29 ?_
      refine G_getR (pc := 30) (r := 19) (ci := 11) (j := 0) rfl lk_RX11_56 rfl rfl rfl dX11_left_30 ?_
      refine G_iload_n (pc := 33) rfl dX11_left_33 ?_
      by_cases c558 : n = 0
      · subst c558
        refine G_callV (pc := 34) (mc1 := 0) (ms1 := 0) (ci := 1) (mj := mX1_goRest) (vs := [_]) dX11_left_34 rfl rfl cm_X1_goRest wf_174 wf_176 wf_177 rfl (Nat.le_of_ble_eq_true rfl) (Nat.le_of_ble_eq_true rfl) (Nat.le_of_ble_eq_true rfl) (Nat.le_of_ble_eq_true rfl) (s407_X1_goRest  (d + 2)  ) ?_
        rintro _ _ ⟨rfl, rfl⟩
        dsimp only [Option.toList, List.cons_append, List.nil_append]
        refine G_pop (pc := 37) rfl dX11_left_37 ?_
        refine G_iload_n (pc := 38) rfl dX11_left_38 ?_
        refine G_if_ne (pc := 39) (tgt := 52) (by decide) dX11_left_39 (fun c559 => ?_) (fun c559 => ?_)
        · refine G_aload_n (pc := 52) rfl dX11_left_52 ?_
          refine G_getR (pc := 53) (r := 19) (ci := 11) (j := 0) rfl lk_RX11_56 rfl rfl rfl dX11_left_53 ?_
          refine G_getI (pc := 56) (v := 0) (ci := 1) (j := 9) rfl rfl lk_RX11_165 rfl rfl dX11_left_56 ?_
          refine G_istore_n (pc := 59) (L1 := [some (.ref 0), some (.int 0), some (.int what), some (.int 0)]) rfl rfl (by decide) dX11_left_59 ?_
          refine G_aload_n (pc := 60) rfl dX11_left_60 ?_
          refine G_getR (pc := 61) (r := 19) (ci := 11) (j := 0) rfl lk_RX11_56 rfl rfl rfl dX11_left_61 ?_
          refine G_iconst (pc := 64) (v := 0) (by decide) dX11_left_64 ?_
          refine G_callV (pc := 65) (mc1 := 0) (ms1 := 0) (ci := 1) (mj := mX1_restore) (vs := [_]) dX11_left_65 rfl rfl cm_X1_restore wf_107 wf_109 wf_110 rfl (Nat.le_of_ble_eq_true rfl) (Nat.le_of_ble_eq_true rfl) (Nat.le_of_ble_eq_true rfl) (Nat.le_of_ble_eq_true rfl) (s40_X1_restore  (d + 1)  ) ?_
          rintro _ _ ⟨rfl, rfl⟩
          dsimp only [Option.toList, List.cons_append, List.nil_append]
          refine G_iload_n (pc := 68) rfl dX11_left_68 ?_
          exact G_iret (pc := 69) (Nat.le_of_ble_eq_true rfl) (Nat.le_of_ble_eq_true rfl) rfl dX11_left_69 ⟨_, by first | rfl | (simp [F_left, *]; done) | (have : 0 ≤ (what).toInt := Int32.le_iff_toInt_le.mp (c544.1); have : (what).toInt ≤ 1 := Int32.le_iff_toInt_le.mp (c544.2); have : (what).toInt ≠ 0 := g_ne (c559); simp only [F_left, Int32.le_iff_toInt_le, Int32.lt_iff_toInt_lt, ← Int32.toInt_inj]; simp; omega) | (have : 0 ≤ (what).toInt := Int32.le_iff_toInt_le.mp (c544.1); have : (what).toInt ≤ 1 := Int32.le_iff_toInt_le.mp (c544.2); have : (what).toInt ≠ 0 := g_ne (c559); simp only [F_left, Int32.le_iff_toInt_le, Int32.lt_iff_toInt_lt, ← Int32.toInt_inj]; split <;> first | rfl | (exfalso; simp at *; omega)) | (have : 0 ≤ (what).toInt := Int32.le_iff_toInt_le.mp (c544.1); have : (what).toInt ≤ 1 := Int32.le_iff_toInt_le.mp (c544.2); have : (what).toInt ≠ 0 := g_ne (c559); unfold F_left; (repeat' split) <;> first | rfl | (exfalso; (try simp only [Int32.le_iff_toInt_le, Int32.lt_iff_toInt_lt, ← Int32.toInt_inj] at *); first | omega | (simp at *; done) | (simp at *; omega))), rfl, fun a ha => by funext j; simp (disch := omega) only [gup_off, gcp_off]⟩
        · refine G_aload_n (pc := 42) rfl dX11_left_42 ?_
          refine G_getR (pc := 43) (r := 19) (ci := 11) (j := 0) rfl lk_RX11_56 rfl rfl rfl dX11_left_43 ?_
          refine G_callV (pc := 46) (mc1 := 0) (ms1 := 0) (ci := 1) (mj := mX1_allTeeth) (vs := []) dX11_left_46 rfl rfl cm_X1_allTeeth wf_23 wf_25 wf_26 rfl (Nat.le_of_ble_eq_true rfl) (Nat.le_of_ble_eq_true rfl) (Nat.le_of_ble_eq_true rfl) (Nat.le_of_ble_eq_true rfl) (s436_X1_allTeeth  (d + 2)  ) ?_
          rintro _ _ ⟨rfl, rfl⟩
          dsimp only [Option.toList, List.cons_append, List.nil_append]
          refine G_goto (pc := 49) (tgt := 59) (by decide) dX11_left_49 ?_
          refine G_istore_n (pc := 59) (L1 := [some (.ref 0), some (.int 0), some (.int what), some (.int 0)]) rfl rfl (by decide) dX11_left_59 ?_
          refine G_aload_n (pc := 60) rfl dX11_left_60 ?_
          refine G_getR (pc := 61) (r := 19) (ci := 11) (j := 0) rfl lk_RX11_56 rfl rfl rfl dX11_left_61 ?_
          refine G_iconst (pc := 64) (v := 0) (by decide) dX11_left_64 ?_
          refine G_callV (pc := 65) (mc1 := 0) (ms1 := 0) (ci := 1) (mj := mX1_restore) (vs := [_]) dX11_left_65 rfl rfl cm_X1_restore wf_107 wf_109 wf_110 rfl (Nat.le_of_ble_eq_true rfl) (Nat.le_of_ble_eq_true rfl) (Nat.le_of_ble_eq_true rfl) (Nat.le_of_ble_eq_true rfl) (s40_X1_restore  (d + 1)  ) ?_
          rintro _ _ ⟨rfl, rfl⟩
          dsimp only [Option.toList, List.cons_append, List.nil_append]
          refine G_iload_n (pc := 68) rfl dX11_left_68 ?_
          exact G_iret (pc := 69) (Nat.le_of_ble_eq_true rfl) (Nat.le_of_ble_eq_true rfl) rfl dX11_left_69 ⟨_, by first | rfl | (simp [F_left, *]; done) | (have : 0 ≤ (what).toInt := Int32.le_iff_toInt_le.mp (c544.1); have : (what).toInt ≤ 1 := Int32.le_iff_toInt_le.mp (c544.2); have : (what).toInt = 0 := congrArg Int32.toInt (c559); simp only [F_left, Int32.le_iff_toInt_le, Int32.lt_iff_toInt_lt, ← Int32.toInt_inj]; simp; omega) | (have : 0 ≤ (what).toInt := Int32.le_iff_toInt_le.mp (c544.1); have : (what).toInt ≤ 1 := Int32.le_iff_toInt_le.mp (c544.2); have : (what).toInt = 0 := congrArg Int32.toInt (c559); simp only [F_left, Int32.le_iff_toInt_le, Int32.lt_iff_toInt_lt, ← Int32.toInt_inj]; split <;> first | rfl | (exfalso; simp at *; omega)) | (have : 0 ≤ (what).toInt := Int32.le_iff_toInt_le.mp (c544.1); have : (what).toInt ≤ 1 := Int32.le_iff_toInt_le.mp (c544.2); have : (what).toInt = 0 := congrArg Int32.toInt (c559); unfold F_left; (repeat' split) <;> first | rfl | (exfalso; (try simp only [Int32.le_iff_toInt_le, Int32.lt_iff_toInt_lt, ← Int32.toInt_inj] at *); first | omega | (simp at *; done) | (simp at *; omega))), rfl, fun a ha => by funext j; simp (disch := omega) only [gup_off, gcp_off]⟩
      by_cases c560 : n = 1
      · subst c560
        refine G_callV (pc := 34) (mc1 := 0) (ms1 := 0) (ci := 1) (mj := mX1_goRest) (vs := [_]) dX11_left_34 rfl rfl cm_X1_goRest wf_174 wf_176 wf_177 rfl (Nat.le_of_ble_eq_true rfl) (Nat.le_of_ble_eq_true rfl) (Nat.le_of_ble_eq_true rfl) (Nat.le_of_ble_eq_true rfl) (s408_X1_goRest  d  ) ?_
        rintro _ _ ⟨rfl, rfl⟩
        dsimp only [Option.toList, List.cons_append, List.nil_append]
        refine G_pop (pc := 37) rfl dX11_left_37 ?_
        refine G_iload_n (pc := 38) rfl dX11_left_38 ?_
        refine G_if_ne (pc := 39) (tgt := 52) (by decide) dX11_left_39 (fun c561 => ?_) (fun c561 => ?_)
        · refine G_aload_n (pc := 52) rfl dX11_left_52 ?_
          refine G_getR (pc := 53) (r := 19) (ci := 11) (j := 0) rfl lk_RX11_56 rfl rfl rfl dX11_left_53 ?_
          refine G_getI (pc := 56) (v := 0) (ci := 1) (j := 9) rfl rfl lk_RX11_165 rfl rfl dX11_left_56 ?_
          refine G_istore_n (pc := 59) (L1 := [some (.ref 0), some (.int 1), some (.int what), some (.int 0)]) rfl rfl (by decide) dX11_left_59 ?_
          refine G_aload_n (pc := 60) rfl dX11_left_60 ?_
          refine G_getR (pc := 61) (r := 19) (ci := 11) (j := 0) rfl lk_RX11_56 rfl rfl rfl dX11_left_61 ?_
          refine G_iconst (pc := 64) (v := 0) (by decide) dX11_left_64 ?_
          refine G_callV (pc := 65) (mc1 := 0) (ms1 := 0) (ci := 1) (mj := mX1_restore) (vs := [_]) dX11_left_65 rfl rfl cm_X1_restore wf_107 wf_109 wf_110 rfl (Nat.le_of_ble_eq_true rfl) (Nat.le_of_ble_eq_true rfl) (Nat.le_of_ble_eq_true rfl) (Nat.le_of_ble_eq_true rfl) (s200_X1_restore  (d + 1)  ) ?_
          rintro _ _ ⟨rfl, rfl⟩
          dsimp only [Option.toList, List.cons_append, List.nil_append]
          refine G_iload_n (pc := 68) rfl dX11_left_68 ?_
          exact G_iret (pc := 69) (Nat.le_of_ble_eq_true rfl) (Nat.le_of_ble_eq_true rfl) rfl dX11_left_69 ⟨_, by first | rfl | (simp [F_left, *]; done) | (have : 0 ≤ (what).toInt := Int32.le_iff_toInt_le.mp (c544.1); have : (what).toInt ≤ 1 := Int32.le_iff_toInt_le.mp (c544.2); have : (what).toInt ≠ 0 := g_ne (c561); simp only [F_left, Int32.le_iff_toInt_le, Int32.lt_iff_toInt_lt, ← Int32.toInt_inj]; simp; omega) | (have : 0 ≤ (what).toInt := Int32.le_iff_toInt_le.mp (c544.1); have : (what).toInt ≤ 1 := Int32.le_iff_toInt_le.mp (c544.2); have : (what).toInt ≠ 0 := g_ne (c561); simp only [F_left, Int32.le_iff_toInt_le, Int32.lt_iff_toInt_lt, ← Int32.toInt_inj]; split <;> first | rfl | (exfalso; simp at *; omega)) | (have : 0 ≤ (what).toInt := Int32.le_iff_toInt_le.mp (c544.1); have : (what).toInt ≤ 1 := Int32.le_iff_toInt_le.mp (c544.2); have : (what).toInt ≠ 0 := g_ne (c561); unfold F_left; (repeat' split) <;> first | rfl | (exfalso; (try simp only [Int32.le_iff_toInt_le, Int32.lt_iff_toInt_lt, ← Int32.toInt_inj] at *); first | omega | (simp at *; done) | (simp at *; omega))), rfl, fun a ha => by funext j; simp (disch := omega) only [gup_off, gcp_off]⟩
        · refine G_aload_n (pc := 42) rfl dX11_left_42 ?_
          refine G_getR (pc := 43) (r := 19) (ci := 11) (j := 0) rfl lk_RX11_56 rfl rfl rfl dX11_left_43 ?_
          refine G_callV (pc := 46) (mc1 := 0) (ms1 := 0) (ci := 1) (mj := mX1_allTeeth) (vs := []) dX11_left_46 rfl rfl cm_X1_allTeeth wf_23 wf_25 wf_26 rfl (Nat.le_of_ble_eq_true rfl) (Nat.le_of_ble_eq_true rfl) (Nat.le_of_ble_eq_true rfl) (Nat.le_of_ble_eq_true rfl) (s437_X1_allTeeth  (d + 2)  ) ?_
          rintro _ _ ⟨rfl, rfl⟩
          dsimp only [Option.toList, List.cons_append, List.nil_append]
          refine G_goto (pc := 49) (tgt := 59) (by decide) dX11_left_49 ?_
          refine G_istore_n (pc := 59) (L1 := [some (.ref 0), some (.int 1), some (.int what), some (.int 0)]) rfl rfl (by decide) dX11_left_59 ?_
          refine G_aload_n (pc := 60) rfl dX11_left_60 ?_
          refine G_getR (pc := 61) (r := 19) (ci := 11) (j := 0) rfl lk_RX11_56 rfl rfl rfl dX11_left_61 ?_
          refine G_iconst (pc := 64) (v := 0) (by decide) dX11_left_64 ?_
          refine G_callV (pc := 65) (mc1 := 0) (ms1 := 0) (ci := 1) (mj := mX1_restore) (vs := [_]) dX11_left_65 rfl rfl cm_X1_restore wf_107 wf_109 wf_110 rfl (Nat.le_of_ble_eq_true rfl) (Nat.le_of_ble_eq_true rfl) (Nat.le_of_ble_eq_true rfl) (Nat.le_of_ble_eq_true rfl) (s200_X1_restore  (d + 1)  ) ?_
          rintro _ _ ⟨rfl, rfl⟩
          dsimp only [Option.toList, List.cons_append, List.nil_append]
          refine G_iload_n (pc := 68) rfl dX11_left_68 ?_
          exact G_iret (pc := 69) (Nat.le_of_ble_eq_true rfl) (Nat.le_of_ble_eq_true rfl) rfl dX11_left_69 ⟨_, by first | rfl | (simp [F_left, *]; done) | (have : 0 ≤ (what).toInt := Int32.le_iff_toInt_le.mp (c544.1); have : (what).toInt ≤ 1 := Int32.le_iff_toInt_le.mp (c544.2); have : (what).toInt = 0 := congrArg Int32.toInt (c561); simp only [F_left, Int32.le_iff_toInt_le, Int32.lt_iff_toInt_lt, ← Int32.toInt_inj]; simp; omega) | (have : 0 ≤ (what).toInt := Int32.le_iff_toInt_le.mp (c544.1); have : (what).toInt ≤ 1 := Int32.le_iff_toInt_le.mp (c544.2); have : (what).toInt = 0 := congrArg Int32.toInt (c561); simp only [F_left, Int32.le_iff_toInt_le, Int32.lt_iff_toInt_lt, ← Int32.toInt_inj]; split <;> first | rfl | (exfalso; simp at *; omega)) | (have : 0 ≤ (what).toInt := Int32.le_iff_toInt_le.mp (c544.1); have : (what).toInt ≤ 1 := Int32.le_iff_toInt_le.mp (c544.2); have : (what).toInt = 0 := congrArg Int32.toInt (c561); unfold F_left; (repeat' split) <;> first | rfl | (exfalso; (try simp only [Int32.le_iff_toInt_le, Int32.lt_iff_toInt_lt, ← Int32.toInt_inj] at *); first | omega | (simp at *; done) | (simp at *; omega))), rfl, fun a ha => by funext j; simp (disch := omega) only [gup_off, gcp_off]⟩
      by_cases c562 : n = 2
      · subst c562
        refine G_callV (pc := 34) (mc1 := 0) (ms1 := 0) (ci := 1) (mj := mX1_goRest) (vs := [_]) dX11_left_34 rfl rfl cm_X1_goRest wf_174 wf_176 wf_177 rfl (Nat.le_of_ble_eq_true rfl) (Nat.le_of_ble_eq_true rfl) (Nat.le_of_ble_eq_true rfl) (Nat.le_of_ble_eq_true rfl) (s409_X1_goRest  d  ) ?_
        rintro _ _ ⟨rfl, rfl⟩
        dsimp only [Option.toList, List.cons_append, List.nil_append]
        refine G_pop (pc := 37) rfl dX11_left_37 ?_
        refine G_iload_n (pc := 38) rfl dX11_left_38 ?_
        refine G_if_ne (pc := 39) (tgt := 52) (by decide) dX11_left_39 (fun c563 => ?_) (fun c563 => ?_)
        · refine G_aload_n (pc := 52) rfl dX11_left_52 ?_
          refine G_getR (pc := 53) (r := 19) (ci := 11) (j := 0) rfl lk_RX11_56 rfl rfl rfl dX11_left_53 ?_
          refine G_getI (pc := 56) (v := 0) (ci := 1) (j := 9) rfl rfl lk_RX11_165 rfl rfl dX11_left_56 ?_
          refine G_istore_n (pc := 59) (L1 := [some (.ref 0), some (.int 2), some (.int what), some (.int 0)]) rfl rfl (by decide) dX11_left_59 ?_
          refine G_aload_n (pc := 60) rfl dX11_left_60 ?_
          refine G_getR (pc := 61) (r := 19) (ci := 11) (j := 0) rfl lk_RX11_56 rfl rfl rfl dX11_left_61 ?_
          refine G_iconst (pc := 64) (v := 0) (by decide) dX11_left_64 ?_
          refine G_callV (pc := 65) (mc1 := 0) (ms1 := 0) (ci := 1) (mj := mX1_restore) (vs := [_]) dX11_left_65 rfl rfl cm_X1_restore wf_107 wf_109 wf_110 rfl (Nat.le_of_ble_eq_true rfl) (Nat.le_of_ble_eq_true rfl) (Nat.le_of_ble_eq_true rfl) (Nat.le_of_ble_eq_true rfl) (s410_X1_restore  (d + 1)  ) ?_
          rintro _ _ ⟨rfl, rfl⟩
          dsimp only [Option.toList, List.cons_append, List.nil_append]
          refine G_iload_n (pc := 68) rfl dX11_left_68 ?_
          exact G_iret (pc := 69) (Nat.le_of_ble_eq_true rfl) (Nat.le_of_ble_eq_true rfl) rfl dX11_left_69 ⟨_, by first | rfl | (simp [F_left, *]; done) | (have : 0 ≤ (what).toInt := Int32.le_iff_toInt_le.mp (c544.1); have : (what).toInt ≤ 1 := Int32.le_iff_toInt_le.mp (c544.2); have : (what).toInt ≠ 0 := g_ne (c563); simp only [F_left, Int32.le_iff_toInt_le, Int32.lt_iff_toInt_lt, ← Int32.toInt_inj]; simp; omega) | (have : 0 ≤ (what).toInt := Int32.le_iff_toInt_le.mp (c544.1); have : (what).toInt ≤ 1 := Int32.le_iff_toInt_le.mp (c544.2); have : (what).toInt ≠ 0 := g_ne (c563); simp only [F_left, Int32.le_iff_toInt_le, Int32.lt_iff_toInt_lt, ← Int32.toInt_inj]; split <;> first | rfl | (exfalso; simp at *; omega)) | (have : 0 ≤ (what).toInt := Int32.le_iff_toInt_le.mp (c544.1); have : (what).toInt ≤ 1 := Int32.le_iff_toInt_le.mp (c544.2); have : (what).toInt ≠ 0 := g_ne (c563); unfold F_left; (repeat' split) <;> first | rfl | (exfalso; (try simp only [Int32.le_iff_toInt_le, Int32.lt_iff_toInt_lt, ← Int32.toInt_inj] at *); first | omega | (simp at *; done) | (simp at *; omega))), rfl, fun a ha => by funext j; simp (disch := omega) only [gup_off, gcp_off]⟩
        · refine G_aload_n (pc := 42) rfl dX11_left_42 ?_
          refine G_getR (pc := 43) (r := 19) (ci := 11) (j := 0) rfl lk_RX11_56 rfl rfl rfl dX11_left_43 ?_
          refine G_callV (pc := 46) (mc1 := 0) (ms1 := 0) (ci := 1) (mj := mX1_allTeeth) (vs := []) dX11_left_46 rfl rfl cm_X1_allTeeth wf_23 wf_25 wf_26 rfl (Nat.le_of_ble_eq_true rfl) (Nat.le_of_ble_eq_true rfl) (Nat.le_of_ble_eq_true rfl) (Nat.le_of_ble_eq_true rfl) (s438_X1_allTeeth  (d + 2)  ) ?_
          rintro _ _ ⟨rfl, rfl⟩
          dsimp only [Option.toList, List.cons_append, List.nil_append]
          refine G_goto (pc := 49) (tgt := 59) (by decide) dX11_left_49 ?_
          refine G_istore_n (pc := 59) (L1 := [some (.ref 0), some (.int 2), some (.int what), some (.int 0)]) rfl rfl (by decide) dX11_left_59 ?_
          refine G_aload_n (pc := 60) rfl dX11_left_60 ?_
          refine G_getR (pc := 61) (r := 19) (ci := 11) (j := 0) rfl lk_RX11_56 rfl rfl rfl dX11_left_61 ?_
          refine G_iconst (pc := 64) (v := 0) (by decide) dX11_left_64 ?_
          refine G_callV (pc := 65) (mc1 := 0) (ms1 := 0) (ci := 1) (mj := mX1_restore) (vs := [_]) dX11_left_65 rfl rfl cm_X1_restore wf_107 wf_109 wf_110 rfl (Nat.le_of_ble_eq_true rfl) (Nat.le_of_ble_eq_true rfl) (Nat.le_of_ble_eq_true rfl) (Nat.le_of_ble_eq_true rfl) (s410_X1_restore  (d + 1)  ) ?_
          rintro _ _ ⟨rfl, rfl⟩
          dsimp only [Option.toList, List.cons_append, List.nil_append]
          refine G_iload_n (pc := 68) rfl dX11_left_68 ?_
          exact G_iret (pc := 69) (Nat.le_of_ble_eq_true rfl) (Nat.le_of_ble_eq_true rfl) rfl dX11_left_69 ⟨_, by first | rfl | (simp [F_left, *]; done) | (have : 0 ≤ (what).toInt := Int32.le_iff_toInt_le.mp (c544.1); have : (what).toInt ≤ 1 := Int32.le_iff_toInt_le.mp (c544.2); have : (what).toInt = 0 := congrArg Int32.toInt (c563); simp only [F_left, Int32.le_iff_toInt_le, Int32.lt_iff_toInt_lt, ← Int32.toInt_inj]; simp; omega) | (have : 0 ≤ (what).toInt := Int32.le_iff_toInt_le.mp (c544.1); have : (what).toInt ≤ 1 := Int32.le_iff_toInt_le.mp (c544.2); have : (what).toInt = 0 := congrArg Int32.toInt (c563); simp only [F_left, Int32.le_iff_toInt_le, Int32.lt_iff_toInt_lt, ← Int32.toInt_inj]; split <;> first | rfl | (exfalso; simp at *; omega)) | (have : 0 ≤ (what).toInt := Int32.le_iff_toInt_le.mp (c544.1); have : (what).toInt ≤ 1 := Int32.le_iff_toInt_le.mp (c544.2); have : (what).toInt = 0 := congrArg Int32.toInt (c563); unfold F_left; (repeat' split) <;> first | rfl | (exfalso; (try simp only [Int32.le_iff_toInt_le, Int32.lt_iff_toInt_lt, ← Int32.toInt_inj] at *); first | omega | (simp at *; done) | (simp at *; omega))), rfl, fun a ha => by funext j; simp (disch := omega) only [gup_off, gcp_off]⟩
      by_cases c564 : n = 3
      · subst c564
        refine G_callV (pc := 34) (mc1 := 0) (ms1 := 0) (ci := 1) (mj := mX1_goRest) (vs := [_]) dX11_left_34 rfl rfl cm_X1_goRest wf_174 wf_176 wf_177 rfl (Nat.le_of_ble_eq_true rfl) (Nat.le_of_ble_eq_true rfl) (Nat.le_of_ble_eq_true rfl) (Nat.le_of_ble_eq_true rfl) (s411_X1_goRest  d  ) ?_
        rintro _ _ ⟨rfl, rfl⟩
        dsimp only [Option.toList, List.cons_append, List.nil_append]
        refine G_pop (pc := 37) rfl dX11_left_37 ?_
        refine G_iload_n (pc := 38) rfl dX11_left_38 ?_
        refine G_if_ne (pc := 39) (tgt := 52) (by decide) dX11_left_39 (fun c565 => ?_) (fun c565 => ?_)
        · refine G_aload_n (pc := 52) rfl dX11_left_52 ?_
          refine G_getR (pc := 53) (r := 19) (ci := 11) (j := 0) rfl lk_RX11_56 rfl rfl rfl dX11_left_53 ?_
          refine G_getI (pc := 56) (v := 0) (ci := 1) (j := 9) rfl rfl lk_RX11_165 rfl rfl dX11_left_56 ?_
          refine G_istore_n (pc := 59) (L1 := [some (.ref 0), some (.int 3), some (.int what), some (.int 0)]) rfl rfl (by decide) dX11_left_59 ?_
          refine G_aload_n (pc := 60) rfl dX11_left_60 ?_
          refine G_getR (pc := 61) (r := 19) (ci := 11) (j := 0) rfl lk_RX11_56 rfl rfl rfl dX11_left_61 ?_
          refine G_iconst (pc := 64) (v := 0) (by decide) dX11_left_64 ?_
          refine G_callV (pc := 65) (mc1 := 0) (ms1 := 0) (ci := 1) (mj := mX1_restore) (vs := [_]) dX11_left_65 rfl rfl cm_X1_restore wf_107 wf_109 wf_110 rfl (Nat.le_of_ble_eq_true rfl) (Nat.le_of_ble_eq_true rfl) (Nat.le_of_ble_eq_true rfl) (Nat.le_of_ble_eq_true rfl) (s412_X1_restore  (d + 1)  ) ?_
          rintro _ _ ⟨rfl, rfl⟩
          dsimp only [Option.toList, List.cons_append, List.nil_append]
          refine G_iload_n (pc := 68) rfl dX11_left_68 ?_
          exact G_iret (pc := 69) (Nat.le_of_ble_eq_true rfl) (Nat.le_of_ble_eq_true rfl) rfl dX11_left_69 ⟨_, by first | rfl | (simp [F_left, *]; done) | (have : 0 ≤ (what).toInt := Int32.le_iff_toInt_le.mp (c544.1); have : (what).toInt ≤ 1 := Int32.le_iff_toInt_le.mp (c544.2); have : (what).toInt ≠ 0 := g_ne (c565); simp only [F_left, Int32.le_iff_toInt_le, Int32.lt_iff_toInt_lt, ← Int32.toInt_inj]; simp; omega) | (have : 0 ≤ (what).toInt := Int32.le_iff_toInt_le.mp (c544.1); have : (what).toInt ≤ 1 := Int32.le_iff_toInt_le.mp (c544.2); have : (what).toInt ≠ 0 := g_ne (c565); simp only [F_left, Int32.le_iff_toInt_le, Int32.lt_iff_toInt_lt, ← Int32.toInt_inj]; split <;> first | rfl | (exfalso; simp at *; omega)) | (have : 0 ≤ (what).toInt := Int32.le_iff_toInt_le.mp (c544.1); have : (what).toInt ≤ 1 := Int32.le_iff_toInt_le.mp (c544.2); have : (what).toInt ≠ 0 := g_ne (c565); unfold F_left; (repeat' split) <;> first | rfl | (exfalso; (try simp only [Int32.le_iff_toInt_le, Int32.lt_iff_toInt_lt, ← Int32.toInt_inj] at *); first | omega | (simp at *; done) | (simp at *; omega))), rfl, fun a ha => by funext j; simp (disch := omega) only [gup_off, gcp_off]⟩
        · refine G_aload_n (pc := 42) rfl dX11_left_42 ?_
          refine G_getR (pc := 43) (r := 19) (ci := 11) (j := 0) rfl lk_RX11_56 rfl rfl rfl dX11_left_43 ?_
          refine G_callV (pc := 46) (mc1 := 0) (ms1 := 0) (ci := 1) (mj := mX1_allTeeth) (vs := []) dX11_left_46 rfl rfl cm_X1_allTeeth wf_23 wf_25 wf_26 rfl (Nat.le_of_ble_eq_true rfl) (Nat.le_of_ble_eq_true rfl) (Nat.le_of_ble_eq_true rfl) (Nat.le_of_ble_eq_true rfl) (s439_X1_allTeeth  (d + 2)  ) ?_
          rintro _ _ ⟨rfl, rfl⟩
          dsimp only [Option.toList, List.cons_append, List.nil_append]
          refine G_goto (pc := 49) (tgt := 59) (by decide) dX11_left_49 ?_
          refine G_istore_n (pc := 59) (L1 := [some (.ref 0), some (.int 3), some (.int what), some (.int 0)]) rfl rfl (by decide) dX11_left_59 ?_
          refine G_aload_n (pc := 60) rfl dX11_left_60 ?_
          refine G_getR (pc := 61) (r := 19) (ci := 11) (j := 0) rfl lk_RX11_56 rfl rfl rfl dX11_left_61 ?_
          refine G_iconst (pc := 64) (v := 0) (by decide) dX11_left_64 ?_
          refine G_callV (pc := 65) (mc1 := 0) (ms1 := 0) (ci := 1) (mj := mX1_restore) (vs := [_]) dX11_left_65 rfl rfl cm_X1_restore wf_107 wf_109 wf_110 rfl (Nat.le_of_ble_eq_true rfl) (Nat.le_of_ble_eq_true rfl) (Nat.le_of_ble_eq_true rfl) (Nat.le_of_ble_eq_true rfl) (s412_X1_restore  (d + 1)  ) ?_
          rintro _ _ ⟨rfl, rfl⟩
          dsimp only [Option.toList, List.cons_append, List.nil_append]
          refine G_iload_n (pc := 68) rfl dX11_left_68 ?_
          exact G_iret (pc := 69) (Nat.le_of_ble_eq_true rfl) (Nat.le_of_ble_eq_true rfl) rfl dX11_left_69 ⟨_, by first | rfl | (simp [F_left, *]; done) | (have : 0 ≤ (what).toInt := Int32.le_iff_toInt_le.mp (c544.1); have : (what).toInt ≤ 1 := Int32.le_iff_toInt_le.mp (c544.2); have : (what).toInt = 0 := congrArg Int32.toInt (c565); simp only [F_left, Int32.le_iff_toInt_le, Int32.lt_iff_toInt_lt, ← Int32.toInt_inj]; simp; omega) | (have : 0 ≤ (what).toInt := Int32.le_iff_toInt_le.mp (c544.1); have : (what).toInt ≤ 1 := Int32.le_iff_toInt_le.mp (c544.2); have : (what).toInt = 0 := congrArg Int32.toInt (c565); simp only [F_left, Int32.le_iff_toInt_le, Int32.lt_iff_toInt_lt, ← Int32.toInt_inj]; split <;> first | rfl | (exfalso; simp at *; omega)) | (have : 0 ≤ (what).toInt := Int32.le_iff_toInt_le.mp (c544.1); have : (what).toInt ≤ 1 := Int32.le_iff_toInt_le.mp (c544.2); have : (what).toInt = 0 := congrArg Int32.toInt (c565); unfold F_left; (repeat' split) <;> first | rfl | (exfalso; (try simp only [Int32.le_iff_toInt_le, Int32.lt_iff_toInt_lt, ← Int32.toInt_inj] at *); first | omega | (simp at *; done) | (simp at *; omega))), rfl, fun a ha => by funext j; simp (disch := omega) only [gup_off, gcp_off]⟩
      by_cases c566 : n = 4
      · subst c566
        refine G_callV (pc := 34) (mc1 := 0) (ms1 := 0) (ci := 1) (mj := mX1_goRest) (vs := [_]) dX11_left_34 rfl rfl cm_X1_goRest wf_174 wf_176 wf_177 rfl (Nat.le_of_ble_eq_true rfl) (Nat.le_of_ble_eq_true rfl) (Nat.le_of_ble_eq_true rfl) (Nat.le_of_ble_eq_true rfl) (s413_X1_goRest  d  ) ?_
        rintro _ _ ⟨rfl, rfl⟩
        dsimp only [Option.toList, List.cons_append, List.nil_append]
        refine G_pop (pc := 37) rfl dX11_left_37 ?_
        refine G_iload_n (pc := 38) rfl dX11_left_38 ?_
        refine G_if_ne (pc := 39) (tgt := 52) (by decide) dX11_left_39 (fun c567 => ?_) (fun c567 => ?_)
        · refine G_aload_n (pc := 52) rfl dX11_left_52 ?_
          refine G_getR (pc := 53) (r := 19) (ci := 11) (j := 0) rfl lk_RX11_56 rfl rfl rfl dX11_left_53 ?_
          refine G_getI (pc := 56) (v := 0) (ci := 1) (j := 9) rfl rfl lk_RX11_165 rfl rfl dX11_left_56 ?_
          refine G_istore_n (pc := 59) (L1 := [some (.ref 0), some (.int 4), some (.int what), some (.int 0)]) rfl rfl (by decide) dX11_left_59 ?_
          refine G_aload_n (pc := 60) rfl dX11_left_60 ?_
          refine G_getR (pc := 61) (r := 19) (ci := 11) (j := 0) rfl lk_RX11_56 rfl rfl rfl dX11_left_61 ?_
          refine G_iconst (pc := 64) (v := 0) (by decide) dX11_left_64 ?_
          refine G_callV (pc := 65) (mc1 := 0) (ms1 := 0) (ci := 1) (mj := mX1_restore) (vs := [_]) dX11_left_65 rfl rfl cm_X1_restore wf_107 wf_109 wf_110 rfl (Nat.le_of_ble_eq_true rfl) (Nat.le_of_ble_eq_true rfl) (Nat.le_of_ble_eq_true rfl) (Nat.le_of_ble_eq_true rfl) (s414_X1_restore  (d + 1)  ) ?_
          rintro _ _ ⟨rfl, rfl⟩
          dsimp only [Option.toList, List.cons_append, List.nil_append]
          refine G_iload_n (pc := 68) rfl dX11_left_68 ?_
          exact G_iret (pc := 69) (Nat.le_of_ble_eq_true rfl) (Nat.le_of_ble_eq_true rfl) rfl dX11_left_69 ⟨_, by first | rfl | (simp [F_left, *]; done) | (have : 0 ≤ (what).toInt := Int32.le_iff_toInt_le.mp (c544.1); have : (what).toInt ≤ 1 := Int32.le_iff_toInt_le.mp (c544.2); have : (what).toInt ≠ 0 := g_ne (c567); simp only [F_left, Int32.le_iff_toInt_le, Int32.lt_iff_toInt_lt, ← Int32.toInt_inj]; simp; omega) | (have : 0 ≤ (what).toInt := Int32.le_iff_toInt_le.mp (c544.1); have : (what).toInt ≤ 1 := Int32.le_iff_toInt_le.mp (c544.2); have : (what).toInt ≠ 0 := g_ne (c567); simp only [F_left, Int32.le_iff_toInt_le, Int32.lt_iff_toInt_lt, ← Int32.toInt_inj]; split <;> first | rfl | (exfalso; simp at *; omega)) | (have : 0 ≤ (what).toInt := Int32.le_iff_toInt_le.mp (c544.1); have : (what).toInt ≤ 1 := Int32.le_iff_toInt_le.mp (c544.2); have : (what).toInt ≠ 0 := g_ne (c567); unfold F_left; (repeat' split) <;> first | rfl | (exfalso; (try simp only [Int32.le_iff_toInt_le, Int32.lt_iff_toInt_lt, ← Int32.toInt_inj] at *); first | omega | (simp at *; done) | (simp at *; omega))), rfl, fun a ha => by funext j; simp (disch := omega) only [gup_off, gcp_off]⟩
        · refine G_aload_n (pc := 42) rfl dX11_left_42 ?_
          refine G_getR (pc := 43) (r := 19) (ci := 11) (j := 0) rfl lk_RX11_56 rfl rfl rfl dX11_left_43 ?_
          refine G_callV (pc := 46) (mc1 := 0) (ms1 := 0) (ci := 1) (mj := mX1_allTeeth) (vs := []) dX11_left_46 rfl rfl cm_X1_allTeeth wf_23 wf_25 wf_26 rfl (Nat.le_of_ble_eq_true rfl) (Nat.le_of_ble_eq_true rfl) (Nat.le_of_ble_eq_true rfl) (Nat.le_of_ble_eq_true rfl) (s440_X1_allTeeth  (d + 2)  ) ?_
          rintro _ _ ⟨rfl, rfl⟩
          dsimp only [Option.toList, List.cons_append, List.nil_append]
          refine G_goto (pc := 49) (tgt := 59) (by decide) dX11_left_49 ?_
          refine G_istore_n (pc := 59) (L1 := [some (.ref 0), some (.int 4), some (.int what), some (.int 0)]) rfl rfl (by decide) dX11_left_59 ?_
          refine G_aload_n (pc := 60) rfl dX11_left_60 ?_
          refine G_getR (pc := 61) (r := 19) (ci := 11) (j := 0) rfl lk_RX11_56 rfl rfl rfl dX11_left_61 ?_
          refine G_iconst (pc := 64) (v := 0) (by decide) dX11_left_64 ?_
          refine G_callV (pc := 65) (mc1 := 0) (ms1 := 0) (ci := 1) (mj := mX1_restore) (vs := [_]) dX11_left_65 rfl rfl cm_X1_restore wf_107 wf_109 wf_110 rfl (Nat.le_of_ble_eq_true rfl) (Nat.le_of_ble_eq_true rfl) (Nat.le_of_ble_eq_true rfl) (Nat.le_of_ble_eq_true rfl) (s414_X1_restore  (d + 1)  ) ?_
          rintro _ _ ⟨rfl, rfl⟩
          dsimp only [Option.toList, List.cons_append, List.nil_append]
          refine G_iload_n (pc := 68) rfl dX11_left_68 ?_
          exact G_iret (pc := 69) (Nat.le_of_ble_eq_true rfl) (Nat.le_of_ble_eq_true rfl) rfl dX11_left_69 ⟨_, by first | rfl | (simp [F_left, *]; done) | (have : 0 ≤ (what).toInt := Int32.le_iff_toInt_le.mp (c544.1); have : (what).toInt ≤ 1 := Int32.le_iff_toInt_le.mp (c544.2); have : (what).toInt = 0 := congrArg Int32.toInt (c567); simp only [F_left, Int32.le_iff_toInt_le, Int32.lt_iff_toInt_lt, ← Int32.toInt_inj]; simp; omega) | (have : 0 ≤ (what).toInt := Int32.le_iff_toInt_le.mp (c544.1); have : (what).toInt ≤ 1 := Int32.le_iff_toInt_le.mp (c544.2); have : (what).toInt = 0 := congrArg Int32.toInt (c567); simp only [F_left, Int32.le_iff_toInt_le, Int32.lt_iff_toInt_lt, ← Int32.toInt_inj]; split <;> first | rfl | (exfalso; simp at *; omega)) | (have : 0 ≤ (what).toInt := Int32.le_iff_toInt_le.mp (c544.1); have : (what).toInt ≤ 1 := Int32.le_iff_toInt_le.mp (c544.2); have : (what).toInt = 0 := congrArg Int32.toInt (c567); unfold F_left; (repeat' split) <;> first | rfl | (exfalso; (try simp only [Int32.le_iff_toInt_le, Int32.lt_iff_toInt_lt, ← Int32.toInt_inj] at *); first | omega | (simp at *; done) | (simp at *; omega))), rfl, fun a ha => by funext j; simp (disch := omega) only [gup_off, gcp_off]⟩
      by_cases c568 : n = 5
      · subst c568
        refine G_callV (pc := 34) (mc1 := 0) (ms1 := 0) (ci := 1) (mj := mX1_goRest) (vs := [_]) dX11_left_34 rfl rfl cm_X1_goRest wf_174 wf_176 wf_177 rfl (Nat.le_of_ble_eq_true rfl) (Nat.le_of_ble_eq_true rfl) (Nat.le_of_ble_eq_true rfl) (Nat.le_of_ble_eq_true rfl) (s415_X1_goRest  d  ) ?_
        rintro _ _ ⟨rfl, rfl⟩
        dsimp only [Option.toList, List.cons_append, List.nil_append]
        refine G_pop (pc := 37) rfl dX11_left_37 ?_
        refine G_iload_n (pc := 38) rfl dX11_left_38 ?_
        refine G_if_ne (pc := 39) (tgt := 52) (by decide) dX11_left_39 (fun c569 => ?_) (fun c569 => ?_)
        · refine G_aload_n (pc := 52) rfl dX11_left_52 ?_
          refine G_getR (pc := 53) (r := 19) (ci := 11) (j := 0) rfl lk_RX11_56 rfl rfl rfl dX11_left_53 ?_
          refine G_getI (pc := 56) (v := 0) (ci := 1) (j := 9) rfl rfl lk_RX11_165 rfl rfl dX11_left_56 ?_
          refine G_istore_n (pc := 59) (L1 := [some (.ref 0), some (.int 5), some (.int what), some (.int 0)]) rfl rfl (by decide) dX11_left_59 ?_
          refine G_aload_n (pc := 60) rfl dX11_left_60 ?_
          refine G_getR (pc := 61) (r := 19) (ci := 11) (j := 0) rfl lk_RX11_56 rfl rfl rfl dX11_left_61 ?_
          refine G_iconst (pc := 64) (v := 0) (by decide) dX11_left_64 ?_
          refine G_callV (pc := 65) (mc1 := 0) (ms1 := 0) (ci := 1) (mj := mX1_restore) (vs := [_]) dX11_left_65 rfl rfl cm_X1_restore wf_107 wf_109 wf_110 rfl (Nat.le_of_ble_eq_true rfl) (Nat.le_of_ble_eq_true rfl) (Nat.le_of_ble_eq_true rfl) (Nat.le_of_ble_eq_true rfl) (s416_X1_restore  (d + 1)  ) ?_
          rintro _ _ ⟨rfl, rfl⟩
          dsimp only [Option.toList, List.cons_append, List.nil_append]
          refine G_iload_n (pc := 68) rfl dX11_left_68 ?_
          exact G_iret (pc := 69) (Nat.le_of_ble_eq_true rfl) (Nat.le_of_ble_eq_true rfl) rfl dX11_left_69 ⟨_, by first | rfl | (simp [F_left, *]; done) | (have : 0 ≤ (what).toInt := Int32.le_iff_toInt_le.mp (c544.1); have : (what).toInt ≤ 1 := Int32.le_iff_toInt_le.mp (c544.2); have : (what).toInt ≠ 0 := g_ne (c569); simp only [F_left, Int32.le_iff_toInt_le, Int32.lt_iff_toInt_lt, ← Int32.toInt_inj]; simp; omega) | (have : 0 ≤ (what).toInt := Int32.le_iff_toInt_le.mp (c544.1); have : (what).toInt ≤ 1 := Int32.le_iff_toInt_le.mp (c544.2); have : (what).toInt ≠ 0 := g_ne (c569); simp only [F_left, Int32.le_iff_toInt_le, Int32.lt_iff_toInt_lt, ← Int32.toInt_inj]; split <;> first | rfl | (exfalso; simp at *; omega)) | (have : 0 ≤ (what).toInt := Int32.le_iff_toInt_le.mp (c544.1); have : (what).toInt ≤ 1 := Int32.le_iff_toInt_le.mp (c544.2); have : (what).toInt ≠ 0 := g_ne (c569); unfold F_left; (repeat' split) <;> first | rfl | (exfalso; (try simp only [Int32.le_iff_toInt_le, Int32.lt_iff_toInt_lt, ← Int32.toInt_inj] at *); first | omega | (simp at *; done) | (simp at *; omega))), rfl, fun a ha => by funext j; simp (disch := omega) only [gup_off, gcp_off]⟩
        · refine G_aload_n (pc := 42) rfl dX11_left_42 ?_
          refine G_getR (pc := 43) (r := 19) (ci := 11) (j := 0) rfl lk_RX11_56 rfl rfl rfl dX11_left_43 ?_
          refine G_callV (pc := 46) (mc1 := 0) (ms1 := 0) (ci := 1) (mj := mX1_allTeeth) (vs := []) dX11_left_46 rfl rfl cm_X1_allTeeth wf_23 wf_25 wf_26 rfl (Nat.le_of_ble_eq_true rfl) (Nat.le_of_ble_eq_true rfl) (Nat.le_of_ble_eq_true rfl) (Nat.le_of_ble_eq_true rfl) (s441_X1_allTeeth  (d + 2)  ) ?_
          rintro _ _ ⟨rfl, rfl⟩
          dsimp only [Option.toList, List.cons_append, List.nil_append]
          refine G_goto (pc := 49) (tgt := 59) (by decide) dX11_left_49 ?_
          refine G_istore_n (pc := 59) (L1 := [some (.ref 0), some (.int 5), some (.int what), some (.int 0)]) rfl rfl (by decide) dX11_left_59 ?_
          refine G_aload_n (pc := 60) rfl dX11_left_60 ?_
          refine G_getR (pc := 61) (r := 19) (ci := 11) (j := 0) rfl lk_RX11_56 rfl rfl rfl dX11_left_61 ?_
          refine G_iconst (pc := 64) (v := 0) (by decide) dX11_left_64 ?_
          refine G_callV (pc := 65) (mc1 := 0) (ms1 := 0) (ci := 1) (mj := mX1_restore) (vs := [_]) dX11_left_65 rfl rfl cm_X1_restore wf_107 wf_109 wf_110 rfl (Nat.le_of_ble_eq_true rfl) (Nat.le_of_ble_eq_true rfl) (Nat.le_of_ble_eq_true rfl) (Nat.le_of_ble_eq_true rfl) (s416_X1_restore  (d + 1)  ) ?_
          rintro _ _ ⟨rfl, rfl⟩
          dsimp only [Option.toList, List.cons_append, List.nil_append]
          refine G_iload_n (pc := 68) rfl dX11_left_68 ?_
          exact G_iret (pc := 69) (Nat.le_of_ble_eq_true rfl) (Nat.le_of_ble_eq_true rfl) rfl dX11_left_69 ⟨_, by first | rfl | (simp [F_left, *]; done) | (have : 0 ≤ (what).toInt := Int32.le_iff_toInt_le.mp (c544.1); have : (what).toInt ≤ 1 := Int32.le_iff_toInt_le.mp (c544.2); have : (what).toInt = 0 := congrArg Int32.toInt (c569); simp only [F_left, Int32.le_iff_toInt_le, Int32.lt_iff_toInt_lt, ← Int32.toInt_inj]; simp; omega) | (have : 0 ≤ (what).toInt := Int32.le_iff_toInt_le.mp (c544.1); have : (what).toInt ≤ 1 := Int32.le_iff_toInt_le.mp (c544.2); have : (what).toInt = 0 := congrArg Int32.toInt (c569); simp only [F_left, Int32.le_iff_toInt_le, Int32.lt_iff_toInt_lt, ← Int32.toInt_inj]; split <;> first | rfl | (exfalso; simp at *; omega)) | (have : 0 ≤ (what).toInt := Int32.le_iff_toInt_le.mp (c544.1); have : (what).toInt ≤ 1 := Int32.le_iff_toInt_le.mp (c544.2); have : (what).toInt = 0 := congrArg Int32.toInt (c569); unfold F_left; (repeat' split) <;> first | rfl | (exfalso; (try simp only [Int32.le_iff_toInt_le, Int32.lt_iff_toInt_lt, ← Int32.toInt_inj] at *); first | omega | (simp at *; done) | (simp at *; omega))), rfl, fun a ha => by funext j; simp (disch := omega) only [gup_off, gcp_off]⟩
      by_cases c570 : n = 6
      · subst c570
        refine G_callV (pc := 34) (mc1 := 0) (ms1 := 0) (ci := 1) (mj := mX1_goRest) (vs := [_]) dX11_left_34 rfl rfl cm_X1_goRest wf_174 wf_176 wf_177 rfl (Nat.le_of_ble_eq_true rfl) (Nat.le_of_ble_eq_true rfl) (Nat.le_of_ble_eq_true rfl) (Nat.le_of_ble_eq_true rfl) (s417_X1_goRest  d  ) ?_
        rintro _ _ ⟨rfl, rfl⟩
        dsimp only [Option.toList, List.cons_append, List.nil_append]
        refine G_pop (pc := 37) rfl dX11_left_37 ?_
        refine G_iload_n (pc := 38) rfl dX11_left_38 ?_
        refine G_if_ne (pc := 39) (tgt := 52) (by decide) dX11_left_39 (fun c571 => ?_) (fun c571 => ?_)
        · refine G_aload_n (pc := 52) rfl dX11_left_52 ?_
          refine G_getR (pc := 53) (r := 19) (ci := 11) (j := 0) rfl lk_RX11_56 rfl rfl rfl dX11_left_53 ?_
          refine G_getI (pc := 56) (v := 0) (ci := 1) (j := 9) rfl rfl lk_RX11_165 rfl rfl dX11_left_56 ?_
          refine G_istore_n (pc := 59) (L1 := [some (.ref 0), some (.int 6), some (.int what), some (.int 0)]) rfl rfl (by decide) dX11_left_59 ?_
          refine G_aload_n (pc := 60) rfl dX11_left_60 ?_
          refine G_getR (pc := 61) (r := 19) (ci := 11) (j := 0) rfl lk_RX11_56 rfl rfl rfl dX11_left_61 ?_
          refine G_iconst (pc := 64) (v := 0) (by decide) dX11_left_64 ?_
          refine G_callV (pc := 65) (mc1 := 0) (ms1 := 0) (ci := 1) (mj := mX1_restore) (vs := [_]) dX11_left_65 rfl rfl cm_X1_restore wf_107 wf_109 wf_110 rfl (Nat.le_of_ble_eq_true rfl) (Nat.le_of_ble_eq_true rfl) (Nat.le_of_ble_eq_true rfl) (Nat.le_of_ble_eq_true rfl) (s418_X1_restore  (d + 1)  ) ?_
          rintro _ _ ⟨rfl, rfl⟩
          dsimp only [Option.toList, List.cons_append, List.nil_append]
          refine G_iload_n (pc := 68) rfl dX11_left_68 ?_
          exact G_iret (pc := 69) (Nat.le_of_ble_eq_true rfl) (Nat.le_of_ble_eq_true rfl) rfl dX11_left_69 ⟨_, by first | rfl | (simp [F_left, *]; done) | (have : 0 ≤ (what).toInt := Int32.le_iff_toInt_le.mp (c544.1); have : (what).toInt ≤ 1 := Int32.le_iff_toInt_le.mp (c544.2); have : (what).toInt ≠ 0 := g_ne (c571); simp only [F_left, Int32.le_iff_toInt_le, Int32.lt_iff_toInt_lt, ← Int32.toInt_inj]; simp; omega) | (have : 0 ≤ (what).toInt := Int32.le_iff_toInt_le.mp (c544.1); have : (what).toInt ≤ 1 := Int32.le_iff_toInt_le.mp (c544.2); have : (what).toInt ≠ 0 := g_ne (c571); simp only [F_left, Int32.le_iff_toInt_le, Int32.lt_iff_toInt_lt, ← Int32.toInt_inj]; split <;> first | rfl | (exfalso; simp at *; omega)) | (have : 0 ≤ (what).toInt := Int32.le_iff_toInt_le.mp (c544.1); have : (what).toInt ≤ 1 := Int32.le_iff_toInt_le.mp (c544.2); have : (what).toInt ≠ 0 := g_ne (c571); unfold F_left; (repeat' split) <;> first | rfl | (exfalso; (try simp only [Int32.le_iff_toInt_le, Int32.lt_iff_toInt_lt, ← Int32.toInt_inj] at *); first | omega | (simp at *; done) | (simp at *; omega))), rfl, fun a ha => by funext j; simp (disch := omega) only [gup_off, gcp_off]⟩
        · refine G_aload_n (pc := 42) rfl dX11_left_42 ?_
          refine G_getR (pc := 43) (r := 19) (ci := 11) (j := 0) rfl lk_RX11_56 rfl rfl rfl dX11_left_43 ?_
          refine G_callV (pc := 46) (mc1 := 0) (ms1 := 0) (ci := 1) (mj := mX1_allTeeth) (vs := []) dX11_left_46 rfl rfl cm_X1_allTeeth wf_23 wf_25 wf_26 rfl (Nat.le_of_ble_eq_true rfl) (Nat.le_of_ble_eq_true rfl) (Nat.le_of_ble_eq_true rfl) (Nat.le_of_ble_eq_true rfl) (s442_X1_allTeeth  (d + 2)  ) ?_
          rintro _ _ ⟨rfl, rfl⟩
          dsimp only [Option.toList, List.cons_append, List.nil_append]
          refine G_goto (pc := 49) (tgt := 59) (by decide) dX11_left_49 ?_
          refine G_istore_n (pc := 59) (L1 := [some (.ref 0), some (.int 6), some (.int what), some (.int 0)]) rfl rfl (by decide) dX11_left_59 ?_
          refine G_aload_n (pc := 60) rfl dX11_left_60 ?_
          refine G_getR (pc := 61) (r := 19) (ci := 11) (j := 0) rfl lk_RX11_56 rfl rfl rfl dX11_left_61 ?_
          refine G_iconst (pc := 64) (v := 0) (by decide) dX11_left_64 ?_
          refine G_callV (pc := 65) (mc1 := 0) (ms1 := 0) (ci := 1) (mj := mX1_restore) (vs := [_]) dX11_left_65 rfl rfl cm_X1_restore wf_107 wf_109 wf_110 rfl (Nat.le_of_ble_eq_true rfl) (Nat.le_of_ble_eq_true rfl) (Nat.le_of_ble_eq_true rfl) (Nat.le_of_ble_eq_true rfl) (s418_X1_restore  (d + 1)  ) ?_
          rintro _ _ ⟨rfl, rfl⟩
          dsimp only [Option.toList, List.cons_append, List.nil_append]
          refine G_iload_n (pc := 68) rfl dX11_left_68 ?_
          exact G_iret (pc := 69) (Nat.le_of_ble_eq_true rfl) (Nat.le_of_ble_eq_true rfl) rfl dX11_left_69 ⟨_, by first | rfl | (simp [F_left, *]; done) | (have : 0 ≤ (what).toInt := Int32.le_iff_toInt_le.mp (c544.1); have : (what).toInt ≤ 1 := Int32.le_iff_toInt_le.mp (c544.2); have : (what).toInt = 0 := congrArg Int32.toInt (c571); simp only [F_left, Int32.le_iff_toInt_le, Int32.lt_iff_toInt_lt, ← Int32.toInt_inj]; simp; omega) | (have : 0 ≤ (what).toInt := Int32.le_iff_toInt_le.mp (c544.1); have : (what).toInt ≤ 1 := Int32.le_iff_toInt_le.mp (c544.2); have : (what).toInt = 0 := congrArg Int32.toInt (c571); simp only [F_left, Int32.le_iff_toInt_le, Int32.lt_iff_toInt_lt, ← Int32.toInt_inj]; split <;> first | rfl | (exfalso; simp at *; omega)) | (have : 0 ≤ (what).toInt := Int32.le_iff_toInt_le.mp (c544.1); have : (what).toInt ≤ 1 := Int32.le_iff_toInt_le.mp (c544.2); have : (what).toInt = 0 := congrArg Int32.toInt (c571); unfold F_left; (repeat' split) <;> first | rfl | (exfalso; (try simp only [Int32.le_iff_toInt_le, Int32.lt_iff_toInt_lt, ← Int32.toInt_inj] at *); first | omega | (simp at *; done) | (simp at *; omega))), rfl, fun a ha => by funext j; simp (disch := omega) only [gup_off, gcp_off]⟩
      by_cases c572 : n = 7
      · subst c572
        refine G_callV (pc := 34) (mc1 := 0) (ms1 := 0) (ci := 1) (mj := mX1_goRest) (vs := [_]) dX11_left_34 rfl rfl cm_X1_goRest wf_174 wf_176 wf_177 rfl (Nat.le_of_ble_eq_true rfl) (Nat.le_of_ble_eq_true rfl) (Nat.le_of_ble_eq_true rfl) (Nat.le_of_ble_eq_true rfl) (s419_X1_goRest  d  ) ?_
        rintro _ _ ⟨rfl, rfl⟩
        dsimp only [Option.toList, List.cons_append, List.nil_append]
        refine G_pop (pc := 37) rfl dX11_left_37 ?_
        refine G_iload_n (pc := 38) rfl dX11_left_38 ?_
        refine G_if_ne (pc := 39) (tgt := 52) (by decide) dX11_left_39 (fun c573 => ?_) (fun c573 => ?_)
        · refine G_aload_n (pc := 52) rfl dX11_left_52 ?_
          refine G_getR (pc := 53) (r := 19) (ci := 11) (j := 0) rfl lk_RX11_56 rfl rfl rfl dX11_left_53 ?_
          refine G_getI (pc := 56) (v := 0) (ci := 1) (j := 9) rfl rfl lk_RX11_165 rfl rfl dX11_left_56 ?_
          refine G_istore_n (pc := 59) (L1 := [some (.ref 0), some (.int 7), some (.int what), some (.int 0)]) rfl rfl (by decide) dX11_left_59 ?_
          refine G_aload_n (pc := 60) rfl dX11_left_60 ?_
          refine G_getR (pc := 61) (r := 19) (ci := 11) (j := 0) rfl lk_RX11_56 rfl rfl rfl dX11_left_61 ?_
          refine G_iconst (pc := 64) (v := 0) (by decide) dX11_left_64 ?_
          refine G_callV (pc := 65) (mc1 := 0) (ms1 := 0) (ci := 1) (mj := mX1_restore) (vs := [_]) dX11_left_65 rfl rfl cm_X1_restore wf_107 wf_109 wf_110 rfl (Nat.le_of_ble_eq_true rfl) (Nat.le_of_ble_eq_true rfl) (Nat.le_of_ble_eq_true rfl) (Nat.le_of_ble_eq_true rfl) (s420_X1_restore  (d + 1)  ) ?_
          rintro _ _ ⟨rfl, rfl⟩
          dsimp only [Option.toList, List.cons_append, List.nil_append]
          refine G_iload_n (pc := 68) rfl dX11_left_68 ?_
          exact G_iret (pc := 69) (Nat.le_of_ble_eq_true rfl) (Nat.le_of_ble_eq_true rfl) rfl dX11_left_69 ⟨_, by first | rfl | (simp [F_left, *]; done) | (have : 0 ≤ (what).toInt := Int32.le_iff_toInt_le.mp (c544.1); have : (what).toInt ≤ 1 := Int32.le_iff_toInt_le.mp (c544.2); have : (what).toInt ≠ 0 := g_ne (c573); simp only [F_left, Int32.le_iff_toInt_le, Int32.lt_iff_toInt_lt, ← Int32.toInt_inj]; simp; omega) | (have : 0 ≤ (what).toInt := Int32.le_iff_toInt_le.mp (c544.1); have : (what).toInt ≤ 1 := Int32.le_iff_toInt_le.mp (c544.2); have : (what).toInt ≠ 0 := g_ne (c573); simp only [F_left, Int32.le_iff_toInt_le, Int32.lt_iff_toInt_lt, ← Int32.toInt_inj]; split <;> first | rfl | (exfalso; simp at *; omega)) | (have : 0 ≤ (what).toInt := Int32.le_iff_toInt_le.mp (c544.1); have : (what).toInt ≤ 1 := Int32.le_iff_toInt_le.mp (c544.2); have : (what).toInt ≠ 0 := g_ne (c573); unfold F_left; (repeat' split) <;> first | rfl | (exfalso; (try simp only [Int32.le_iff_toInt_le, Int32.lt_iff_toInt_lt, ← Int32.toInt_inj] at *); first | omega | (simp at *; done) | (simp at *; omega))), rfl, fun a ha => by funext j; simp (disch := omega) only [gup_off, gcp_off]⟩
        · refine G_aload_n (pc := 42) rfl dX11_left_42 ?_
          refine G_getR (pc := 43) (r := 19) (ci := 11) (j := 0) rfl lk_RX11_56 rfl rfl rfl dX11_left_43 ?_
          refine G_callV (pc := 46) (mc1 := 0) (ms1 := 0) (ci := 1) (mj := mX1_allTeeth) (vs := []) dX11_left_46 rfl rfl cm_X1_allTeeth wf_23 wf_25 wf_26 rfl (Nat.le_of_ble_eq_true rfl) (Nat.le_of_ble_eq_true rfl) (Nat.le_of_ble_eq_true rfl) (Nat.le_of_ble_eq_true rfl) (s443_X1_allTeeth  (d + 2)  ) ?_
          rintro _ _ ⟨rfl, rfl⟩
          dsimp only [Option.toList, List.cons_append, List.nil_append]
          refine G_goto (pc := 49) (tgt := 59) (by decide) dX11_left_49 ?_
          refine G_istore_n (pc := 59) (L1 := [some (.ref 0), some (.int 7), some (.int what), some (.int 0)]) rfl rfl (by decide) dX11_left_59 ?_
          refine G_aload_n (pc := 60) rfl dX11_left_60 ?_
          refine G_getR (pc := 61) (r := 19) (ci := 11) (j := 0) rfl lk_RX11_56 rfl rfl rfl dX11_left_61 ?_
          refine G_iconst (pc := 64) (v := 0) (by decide) dX11_left_64 ?_
          refine G_callV (pc := 65) (mc1 := 0) (ms1 := 0) (ci := 1) (mj := mX1_restore) (vs := [_]) dX11_left_65 rfl rfl cm_X1_restore wf_107 wf_109 wf_110 rfl (Nat.le_of_ble_eq_true rfl) (Nat.le_of_ble_eq_true rfl) (Nat.le_of_ble_eq_true rfl) (Nat.le_of_ble_eq_true rfl) (s420_X1_restore  (d + 1)  ) ?_
          rintro _ _ ⟨rfl, rfl⟩
          dsimp only [Option.toList, List.cons_append, List.nil_append]
          refine G_iload_n (pc := 68) rfl dX11_left_68 ?_
          exact G_iret (pc := 69) (Nat.le_of_ble_eq_true rfl) (Nat.le_of_ble_eq_true rfl) rfl dX11_left_69 ⟨_, by first | rfl | (simp [F_left, *]; done) | (have : 0 ≤ (what).toInt := Int32.le_iff_toInt_le.mp (c544.1); have : (what).toInt ≤ 1 := Int32.le_iff_toInt_le.mp (c544.2); have : (what).toInt = 0 := congrArg Int32.toInt (c573); simp only [F_left, Int32.le_iff_toInt_le, Int32.lt_iff_toInt_lt, ← Int32.toInt_inj]; simp; omega) | (have : 0 ≤ (what).toInt := Int32.le_iff_toInt_le.mp (c544.1); have : (what).toInt ≤ 1 := Int32.le_iff_toInt_le.mp (c544.2); have : (what).toInt = 0 := congrArg Int32.toInt (c573); simp only [F_left, Int32.le_iff_toInt_le, Int32.lt_iff_toInt_lt, ← Int32.toInt_inj]; split <;> first | rfl | (exfalso; simp at *; omega)) | (have : 0 ≤ (what).toInt := Int32.le_iff_toInt_le.mp (c544.1); have : (what).toInt ≤ 1 := Int32.le_iff_toInt_le.mp (c544.2); have : (what).toInt = 0 := congrArg Int32.toInt (c573); unfold F_left; (repeat' split) <;> first | rfl | (exfalso; (try simp only [Int32.le_iff_toInt_le, Int32.lt_iff_toInt_lt, ← Int32.toInt_inj] at *); first | omega | (simp at *; done) | (simp at *; omega))), rfl, fun a ha => by funext j; simp (disch := omega) only [gup_off, gcp_off]⟩
      by_cases c574 : n = 8
      · subst c574
        refine G_callV (pc := 34) (mc1 := 0) (ms1 := 0) (ci := 1) (mj := mX1_goRest) (vs := [_]) dX11_left_34 rfl rfl cm_X1_goRest wf_174 wf_176 wf_177 rfl (Nat.le_of_ble_eq_true rfl) (Nat.le_of_ble_eq_true rfl) (Nat.le_of_ble_eq_true rfl) (Nat.le_of_ble_eq_true rfl) (s421_X1_goRest  d  ) ?_
        rintro _ _ ⟨rfl, rfl⟩
        dsimp only [Option.toList, List.cons_append, List.nil_append]
        refine G_pop (pc := 37) rfl dX11_left_37 ?_
        refine G_iload_n (pc := 38) rfl dX11_left_38 ?_
        refine G_if_ne (pc := 39) (tgt := 52) (by decide) dX11_left_39 (fun c575 => ?_) (fun c575 => ?_)
        · refine G_aload_n (pc := 52) rfl dX11_left_52 ?_
          refine G_getR (pc := 53) (r := 19) (ci := 11) (j := 0) rfl lk_RX11_56 rfl rfl rfl dX11_left_53 ?_
          refine G_getI (pc := 56) (v := 0) (ci := 1) (j := 9) rfl rfl lk_RX11_165 rfl rfl dX11_left_56 ?_
          refine G_istore_n (pc := 59) (L1 := [some (.ref 0), some (.int 8), some (.int what), some (.int 0)]) rfl rfl (by decide) dX11_left_59 ?_
          refine G_aload_n (pc := 60) rfl dX11_left_60 ?_
          refine G_getR (pc := 61) (r := 19) (ci := 11) (j := 0) rfl lk_RX11_56 rfl rfl rfl dX11_left_61 ?_
          refine G_iconst (pc := 64) (v := 0) (by decide) dX11_left_64 ?_
          refine G_callV (pc := 65) (mc1 := 0) (ms1 := 0) (ci := 1) (mj := mX1_restore) (vs := [_]) dX11_left_65 rfl rfl cm_X1_restore wf_107 wf_109 wf_110 rfl (Nat.le_of_ble_eq_true rfl) (Nat.le_of_ble_eq_true rfl) (Nat.le_of_ble_eq_true rfl) (Nat.le_of_ble_eq_true rfl) (s422_X1_restore  (d + 1)  ) ?_
          rintro _ _ ⟨rfl, rfl⟩
          dsimp only [Option.toList, List.cons_append, List.nil_append]
          refine G_iload_n (pc := 68) rfl dX11_left_68 ?_
          exact G_iret (pc := 69) (Nat.le_of_ble_eq_true rfl) (Nat.le_of_ble_eq_true rfl) rfl dX11_left_69 ⟨_, by first | rfl | (simp [F_left, *]; done) | (have : 0 ≤ (what).toInt := Int32.le_iff_toInt_le.mp (c544.1); have : (what).toInt ≤ 1 := Int32.le_iff_toInt_le.mp (c544.2); have : (what).toInt ≠ 0 := g_ne (c575); simp only [F_left, Int32.le_iff_toInt_le, Int32.lt_iff_toInt_lt, ← Int32.toInt_inj]; simp; omega) | (have : 0 ≤ (what).toInt := Int32.le_iff_toInt_le.mp (c544.1); have : (what).toInt ≤ 1 := Int32.le_iff_toInt_le.mp (c544.2); have : (what).toInt ≠ 0 := g_ne (c575); simp only [F_left, Int32.le_iff_toInt_le, Int32.lt_iff_toInt_lt, ← Int32.toInt_inj]; split <;> first | rfl | (exfalso; simp at *; omega)) | (have : 0 ≤ (what).toInt := Int32.le_iff_toInt_le.mp (c544.1); have : (what).toInt ≤ 1 := Int32.le_iff_toInt_le.mp (c544.2); have : (what).toInt ≠ 0 := g_ne (c575); unfold F_left; (repeat' split) <;> first | rfl | (exfalso; (try simp only [Int32.le_iff_toInt_le, Int32.lt_iff_toInt_lt, ← Int32.toInt_inj] at *); first | omega | (simp at *; done) | (simp at *; omega))), rfl, fun a ha => by funext j; simp (disch := omega) only [gup_off, gcp_off]⟩
        · refine G_aload_n (pc := 42) rfl dX11_left_42 ?_
          refine G_getR (pc := 43) (r := 19) (ci := 11) (j := 0) rfl lk_RX11_56 rfl rfl rfl dX11_left_43 ?_
          refine G_callV (pc := 46) (mc1 := 0) (ms1 := 0) (ci := 1) (mj := mX1_allTeeth) (vs := []) dX11_left_46 rfl rfl cm_X1_allTeeth wf_23 wf_25 wf_26 rfl (Nat.le_of_ble_eq_true rfl) (Nat.le_of_ble_eq_true rfl) (Nat.le_of_ble_eq_true rfl) (Nat.le_of_ble_eq_true rfl) (s444_X1_allTeeth  (d + 2)  ) ?_
          rintro _ _ ⟨rfl, rfl⟩
          dsimp only [Option.toList, List.cons_append, List.nil_append]
          refine G_goto (pc := 49) (tgt := 59) (by decide) dX11_left_49 ?_
          refine G_istore_n (pc := 59) (L1 := [some (.ref 0), some (.int 8), some (.int what), some (.int 0)]) rfl rfl (by decide) dX11_left_59 ?_
          refine G_aload_n (pc := 60) rfl dX11_left_60 ?_
          refine G_getR (pc := 61) (r := 19) (ci := 11) (j := 0) rfl lk_RX11_56 rfl rfl rfl dX11_left_61 ?_
          refine G_iconst (pc := 64) (v := 0) (by decide) dX11_left_64 ?_
          refine G_callV (pc := 65) (mc1 := 0) (ms1 := 0) (ci := 1) (mj := mX1_restore) (vs := [_]) dX11_left_65 rfl rfl cm_X1_restore wf_107 wf_109 wf_110 rfl (Nat.le_of_ble_eq_true rfl) (Nat.le_of_ble_eq_true rfl) (Nat.le_of_ble_eq_true rfl) (Nat.le_of_ble_eq_true rfl) (s422_X1_restore  (d + 1)  ) ?_
          rintro _ _ ⟨rfl, rfl⟩
          dsimp only [Option.toList, List.cons_append, List.nil_append]
          refine G_iload_n (pc := 68) rfl dX11_left_68 ?_
          exact G_iret (pc := 69) (Nat.le_of_ble_eq_true rfl) (Nat.le_of_ble_eq_true rfl) rfl dX11_left_69 ⟨_, by first | rfl | (simp [F_left, *]; done) | (have : 0 ≤ (what).toInt := Int32.le_iff_toInt_le.mp (c544.1); have : (what).toInt ≤ 1 := Int32.le_iff_toInt_le.mp (c544.2); have : (what).toInt = 0 := congrArg Int32.toInt (c575); simp only [F_left, Int32.le_iff_toInt_le, Int32.lt_iff_toInt_lt, ← Int32.toInt_inj]; simp; omega) | (have : 0 ≤ (what).toInt := Int32.le_iff_toInt_le.mp (c544.1); have : (what).toInt ≤ 1 := Int32.le_iff_toInt_le.mp (c544.2); have : (what).toInt = 0 := congrArg Int32.toInt (c575); simp only [F_left, Int32.le_iff_toInt_le, Int32.lt_iff_toInt_lt, ← Int32.toInt_inj]; split <;> first | rfl | (exfalso; simp at *; omega)) | (have : 0 ≤ (what).toInt := Int32.le_iff_toInt_le.mp (c544.1); have : (what).toInt ≤ 1 := Int32.le_iff_toInt_le.mp (c544.2); have : (what).toInt = 0 := congrArg Int32.toInt (c575); unfold F_left; (repeat' split) <;> first | rfl | (exfalso; (try simp only [Int32.le_iff_toInt_le, Int32.lt_iff_toInt_lt, ← Int32.toInt_inj] at *); first | omega | (simp at *; done) | (simp at *; omega))), rfl, fun a ha => by funext j; simp (disch := omega) only [gup_off, gcp_off]⟩
      by_cases c576 : n = 9
      · subst c576
        refine G_callV (pc := 34) (mc1 := 0) (ms1 := 0) (ci := 1) (mj := mX1_goRest) (vs := [_]) dX11_left_34 rfl rfl cm_X1_goRest wf_174 wf_176 wf_177 rfl (Nat.le_of_ble_eq_true rfl) (Nat.le_of_ble_eq_true rfl) (Nat.le_of_ble_eq_true rfl) (Nat.le_of_ble_eq_true rfl) (s423_X1_goRest  d  ) ?_
        rintro _ _ ⟨rfl, rfl⟩
        dsimp only [Option.toList, List.cons_append, List.nil_append]
        refine G_pop (pc := 37) rfl dX11_left_37 ?_
        refine G_iload_n (pc := 38) rfl dX11_left_38 ?_
        refine G_if_ne (pc := 39) (tgt := 52) (by decide) dX11_left_39 (fun c577 => ?_) (fun c577 => ?_)
        · refine G_aload_n (pc := 52) rfl dX11_left_52 ?_
          refine G_getR (pc := 53) (r := 19) (ci := 11) (j := 0) rfl lk_RX11_56 rfl rfl rfl dX11_left_53 ?_
          refine G_getI (pc := 56) (v := 0) (ci := 1) (j := 9) rfl rfl lk_RX11_165 rfl rfl dX11_left_56 ?_
          refine G_istore_n (pc := 59) (L1 := [some (.ref 0), some (.int 9), some (.int what), some (.int 0)]) rfl rfl (by decide) dX11_left_59 ?_
          refine G_aload_n (pc := 60) rfl dX11_left_60 ?_
          refine G_getR (pc := 61) (r := 19) (ci := 11) (j := 0) rfl lk_RX11_56 rfl rfl rfl dX11_left_61 ?_
          refine G_iconst (pc := 64) (v := 0) (by decide) dX11_left_64 ?_
          refine G_callV (pc := 65) (mc1 := 0) (ms1 := 0) (ci := 1) (mj := mX1_restore) (vs := [_]) dX11_left_65 rfl rfl cm_X1_restore wf_107 wf_109 wf_110 rfl (Nat.le_of_ble_eq_true rfl) (Nat.le_of_ble_eq_true rfl) (Nat.le_of_ble_eq_true rfl) (Nat.le_of_ble_eq_true rfl) (s424_X1_restore  (d + 1)  ) ?_
          rintro _ _ ⟨rfl, rfl⟩
          dsimp only [Option.toList, List.cons_append, List.nil_append]
          refine G_iload_n (pc := 68) rfl dX11_left_68 ?_
          exact G_iret (pc := 69) (Nat.le_of_ble_eq_true rfl) (Nat.le_of_ble_eq_true rfl) rfl dX11_left_69 ⟨_, by first | rfl | (simp [F_left, *]; done) | (have : 0 ≤ (what).toInt := Int32.le_iff_toInt_le.mp (c544.1); have : (what).toInt ≤ 1 := Int32.le_iff_toInt_le.mp (c544.2); have : (what).toInt ≠ 0 := g_ne (c577); simp only [F_left, Int32.le_iff_toInt_le, Int32.lt_iff_toInt_lt, ← Int32.toInt_inj]; simp; omega) | (have : 0 ≤ (what).toInt := Int32.le_iff_toInt_le.mp (c544.1); have : (what).toInt ≤ 1 := Int32.le_iff_toInt_le.mp (c544.2); have : (what).toInt ≠ 0 := g_ne (c577); simp only [F_left, Int32.le_iff_toInt_le, Int32.lt_iff_toInt_lt, ← Int32.toInt_inj]; split <;> first | rfl | (exfalso; simp at *; omega)) | (have : 0 ≤ (what).toInt := Int32.le_iff_toInt_le.mp (c544.1); have : (what).toInt ≤ 1 := Int32.le_iff_toInt_le.mp (c544.2); have : (what).toInt ≠ 0 := g_ne (c577); unfold F_left; (repeat' split) <;> first | rfl | (exfalso; (try simp only [Int32.le_iff_toInt_le, Int32.lt_iff_toInt_lt, ← Int32.toInt_inj] at *); first | omega | (simp at *; done) | (simp at *; omega))), rfl, fun a ha => by funext j; simp (disch := omega) only [gup_off, gcp_off]⟩
        · refine G_aload_n (pc := 42) rfl dX11_left_42 ?_
          refine G_getR (pc := 43) (r := 19) (ci := 11) (j := 0) rfl lk_RX11_56 rfl rfl rfl dX11_left_43 ?_
          refine G_callV (pc := 46) (mc1 := 0) (ms1 := 0) (ci := 1) (mj := mX1_allTeeth) (vs := []) dX11_left_46 rfl rfl cm_X1_allTeeth wf_23 wf_25 wf_26 rfl (Nat.le_of_ble_eq_true rfl) (Nat.le_of_ble_eq_true rfl) (Nat.le_of_ble_eq_true rfl) (Nat.le_of_ble_eq_true rfl) (s445_X1_allTeeth  (d + 2)  ) ?_
          rintro _ _ ⟨rfl, rfl⟩
          dsimp only [Option.toList, List.cons_append, List.nil_append]
          refine G_goto (pc := 49) (tgt := 59) (by decide) dX11_left_49 ?_
          refine G_istore_n (pc := 59) (L1 := [some (.ref 0), some (.int 9), some (.int what), some (.int 0)]) rfl rfl (by decide) dX11_left_59 ?_
          refine G_aload_n (pc := 60) rfl dX11_left_60 ?_
          refine G_getR (pc := 61) (r := 19) (ci := 11) (j := 0) rfl lk_RX11_56 rfl rfl rfl dX11_left_61 ?_
          refine G_iconst (pc := 64) (v := 0) (by decide) dX11_left_64 ?_
          refine G_callV (pc := 65) (mc1 := 0) (ms1 := 0) (ci := 1) (mj := mX1_restore) (vs := [_]) dX11_left_65 rfl rfl cm_X1_restore wf_107 wf_109 wf_110 rfl (Nat.le_of_ble_eq_true rfl) (Nat.le_of_ble_eq_true rfl) (Nat.le_of_ble_eq_true rfl) (Nat.le_of_ble_eq_true rfl) (s424_X1_restore  (d + 1)  ) ?_
          rintro _ _ ⟨rfl, rfl⟩
          dsimp only [Option.toList, List.cons_append, List.nil_append]
          refine G_iload_n (pc := 68) rfl dX11_left_68 ?_
          exact G_iret (pc := 69) (Nat.le_of_ble_eq_true rfl) (Nat.le_of_ble_eq_true rfl) rfl dX11_left_69 ⟨_, by first | rfl | (simp [F_left, *]; done) | (have : 0 ≤ (what).toInt := Int32.le_iff_toInt_le.mp (c544.1); have : (what).toInt ≤ 1 := Int32.le_iff_toInt_le.mp (c544.2); have : (what).toInt = 0 := congrArg Int32.toInt (c577); simp only [F_left, Int32.le_iff_toInt_le, Int32.lt_iff_toInt_lt, ← Int32.toInt_inj]; simp; omega) | (have : 0 ≤ (what).toInt := Int32.le_iff_toInt_le.mp (c544.1); have : (what).toInt ≤ 1 := Int32.le_iff_toInt_le.mp (c544.2); have : (what).toInt = 0 := congrArg Int32.toInt (c577); simp only [F_left, Int32.le_iff_toInt_le, Int32.lt_iff_toInt_lt, ← Int32.toInt_inj]; split <;> first | rfl | (exfalso; simp at *; omega)) | (have : 0 ≤ (what).toInt := Int32.le_iff_toInt_le.mp (c544.1); have : (what).toInt ≤ 1 := Int32.le_iff_toInt_le.mp (c544.2); have : (what).toInt = 0 := congrArg Int32.toInt (c577); unfold F_left; (repeat' split) <;> first | rfl | (exfalso; (try simp only [Int32.le_iff_toInt_le, Int32.lt_iff_toInt_lt, ← Int32.toInt_inj] at *); first | omega | (simp at *; done) | (simp at *; omega))), rfl, fun a ha => by funext j; simp (disch := omega) only [gup_off, gcp_off]⟩
      by_cases c578 : n = 10
      · subst c578
        refine G_callV (pc := 34) (mc1 := 0) (ms1 := 0) (ci := 1) (mj := mX1_goRest) (vs := [_]) dX11_left_34 rfl rfl cm_X1_goRest wf_174 wf_176 wf_177 rfl (Nat.le_of_ble_eq_true rfl) (Nat.le_of_ble_eq_true rfl) (Nat.le_of_ble_eq_true rfl) (Nat.le_of_ble_eq_true rfl) (s425_X1_goRest  d  ) ?_
        rintro _ _ ⟨rfl, rfl⟩
        dsimp only [Option.toList, List.cons_append, List.nil_append]
        refine G_pop (pc := 37) rfl dX11_left_37 ?_
        refine G_iload_n (pc := 38) rfl dX11_left_38 ?_
        refine G_if_ne (pc := 39) (tgt := 52) (by decide) dX11_left_39 (fun c579 => ?_) (fun c579 => ?_)
        · refine G_aload_n (pc := 52) rfl dX11_left_52 ?_
          refine G_getR (pc := 53) (r := 19) (ci := 11) (j := 0) rfl lk_RX11_56 rfl rfl rfl dX11_left_53 ?_
          refine G_getI (pc := 56) (v := 0) (ci := 1) (j := 9) rfl rfl lk_RX11_165 rfl rfl dX11_left_56 ?_
          refine G_istore_n (pc := 59) (L1 := [some (.ref 0), some (.int 10), some (.int what), some (.int 0)]) rfl rfl (by decide) dX11_left_59 ?_
          refine G_aload_n (pc := 60) rfl dX11_left_60 ?_
          refine G_getR (pc := 61) (r := 19) (ci := 11) (j := 0) rfl lk_RX11_56 rfl rfl rfl dX11_left_61 ?_
          refine G_iconst (pc := 64) (v := 0) (by decide) dX11_left_64 ?_
          refine G_callV (pc := 65) (mc1 := 0) (ms1 := 0) (ci := 1) (mj := mX1_restore) (vs := [_]) dX11_left_65 rfl rfl cm_X1_restore wf_107 wf_109 wf_110 rfl (Nat.le_of_ble_eq_true rfl) (Nat.le_of_ble_eq_true rfl) (Nat.le_of_ble_eq_true rfl) (Nat.le_of_ble_eq_true rfl) (s426_X1_restore  (d + 1)  ) ?_
          rintro _ _ ⟨rfl, rfl⟩
          dsimp only [Option.toList, List.cons_append, List.nil_append]
          refine G_iload_n (pc := 68) rfl dX11_left_68 ?_
          exact G_iret (pc := 69) (Nat.le_of_ble_eq_true rfl) (Nat.le_of_ble_eq_true rfl) rfl dX11_left_69 ⟨_, by first | rfl | (simp [F_left, *]; done) | (have : 0 ≤ (what).toInt := Int32.le_iff_toInt_le.mp (c544.1); have : (what).toInt ≤ 1 := Int32.le_iff_toInt_le.mp (c544.2); have : (what).toInt ≠ 0 := g_ne (c579); simp only [F_left, Int32.le_iff_toInt_le, Int32.lt_iff_toInt_lt, ← Int32.toInt_inj]; simp; omega) | (have : 0 ≤ (what).toInt := Int32.le_iff_toInt_le.mp (c544.1); have : (what).toInt ≤ 1 := Int32.le_iff_toInt_le.mp (c544.2); have : (what).toInt ≠ 0 := g_ne (c579); simp only [F_left, Int32.le_iff_toInt_le, Int32.lt_iff_toInt_lt, ← Int32.toInt_inj]; split <;> first | rfl | (exfalso; simp at *; omega)) | (have : 0 ≤ (what).toInt := Int32.le_iff_toInt_le.mp (c544.1); have : (what).toInt ≤ 1 := Int32.le_iff_toInt_le.mp (c544.2); have : (what).toInt ≠ 0 := g_ne (c579); unfold F_left; (repeat' split) <;> first | rfl | (exfalso; (try simp only [Int32.le_iff_toInt_le, Int32.lt_iff_toInt_lt, ← Int32.toInt_inj] at *); first | omega | (simp at *; done) | (simp at *; omega))), rfl, fun a ha => by funext j; simp (disch := omega) only [gup_off, gcp_off]⟩
        · refine G_aload_n (pc := 42) rfl dX11_left_42 ?_
          refine G_getR (pc := 43) (r := 19) (ci := 11) (j := 0) rfl lk_RX11_56 rfl rfl rfl dX11_left_43 ?_
          refine G_callV (pc := 46) (mc1 := 0) (ms1 := 0) (ci := 1) (mj := mX1_allTeeth) (vs := []) dX11_left_46 rfl rfl cm_X1_allTeeth wf_23 wf_25 wf_26 rfl (Nat.le_of_ble_eq_true rfl) (Nat.le_of_ble_eq_true rfl) (Nat.le_of_ble_eq_true rfl) (Nat.le_of_ble_eq_true rfl) (s446_X1_allTeeth  (d + 2)  ) ?_
          rintro _ _ ⟨rfl, rfl⟩
          dsimp only [Option.toList, List.cons_append, List.nil_append]
          refine G_goto (pc := 49) (tgt := 59) (by decide) dX11_left_49 ?_
          refine G_istore_n (pc := 59) (L1 := [some (.ref 0), some (.int 10), some (.int what), some (.int 0)]) rfl rfl (by decide) dX11_left_59 ?_
          refine G_aload_n (pc := 60) rfl dX11_left_60 ?_
          refine G_getR (pc := 61) (r := 19) (ci := 11) (j := 0) rfl lk_RX11_56 rfl rfl rfl dX11_left_61 ?_
          refine G_iconst (pc := 64) (v := 0) (by decide) dX11_left_64 ?_
          refine G_callV (pc := 65) (mc1 := 0) (ms1 := 0) (ci := 1) (mj := mX1_restore) (vs := [_]) dX11_left_65 rfl rfl cm_X1_restore wf_107 wf_109 wf_110 rfl (Nat.le_of_ble_eq_true rfl) (Nat.le_of_ble_eq_true rfl) (Nat.le_of_ble_eq_true rfl) (Nat.le_of_ble_eq_true rfl) (s426_X1_restore  (d + 1)  ) ?_
          rintro _ _ ⟨rfl, rfl⟩
          dsimp only [Option.toList, List.cons_append, List.nil_append]
          refine G_iload_n (pc := 68) rfl dX11_left_68 ?_
          exact G_iret (pc := 69) (Nat.le_of_ble_eq_true rfl) (Nat.le_of_ble_eq_true rfl) rfl dX11_left_69 ⟨_, by first | rfl | (simp [F_left, *]; done) | (have : 0 ≤ (what).toInt := Int32.le_iff_toInt_le.mp (c544.1); have : (what).toInt ≤ 1 := Int32.le_iff_toInt_le.mp (c544.2); have : (what).toInt = 0 := congrArg Int32.toInt (c579); simp only [F_left, Int32.le_iff_toInt_le, Int32.lt_iff_toInt_lt, ← Int32.toInt_inj]; simp; omega) | (have : 0 ≤ (what).toInt := Int32.le_iff_toInt_le.mp (c544.1); have : (what).toInt ≤ 1 := Int32.le_iff_toInt_le.mp (c544.2); have : (what).toInt = 0 := congrArg Int32.toInt (c579); simp only [F_left, Int32.le_iff_toInt_le, Int32.lt_iff_toInt_lt, ← Int32.toInt_inj]; split <;> first | rfl | (exfalso; simp at *; omega)) | (have : 0 ≤ (what).toInt := Int32.le_iff_toInt_le.mp (c544.1); have : (what).toInt ≤ 1 := Int32.le_iff_toInt_le.mp (c544.2); have : (what).toInt = 0 := congrArg Int32.toInt (c579); unfold F_left; (repeat' split) <;> first | rfl | (exfalso; (try simp only [Int32.le_iff_toInt_le, Int32.lt_iff_toInt_lt, ← Int32.toInt_inj] at *); first | omega | (simp at *; done) | (simp at *; omega))), rfl, fun a ha => by funext j; simp (disch := omega) only [gup_off, gcp_off]⟩
      by_cases c580 : n = 11
      · subst c580
        refine G_callV (pc := 34) (mc1 := 0) (ms1 := 0) (ci := 1) (mj := mX1_goRest) (vs := [_]) dX11_left_34 rfl rfl cm_X1_goRest wf_174 wf_176 wf_177 rfl (Nat.le_of_ble_eq_true rfl) (Nat.le_of_ble_eq_true rfl) (Nat.le_of_ble_eq_true rfl) (Nat.le_of_ble_eq_true rfl) (s427_X1_goRest  d  ) ?_
        rintro _ _ ⟨rfl, rfl⟩
        dsimp only [Option.toList, List.cons_append, List.nil_append]
        refine G_pop (pc := 37) rfl dX11_left_37 ?_
        refine G_iload_n (pc := 38) rfl dX11_left_38 ?_
        refine G_if_ne (pc := 39) (tgt := 52) (by decide) dX11_left_39 (fun c581 => ?_) (fun c581 => ?_)
        · refine G_aload_n (pc := 52) rfl dX11_left_52 ?_
          refine G_getR (pc := 53) (r := 19) (ci := 11) (j := 0) rfl lk_RX11_56 rfl rfl rfl dX11_left_53 ?_
          refine G_getI (pc := 56) (v := 0) (ci := 1) (j := 9) rfl rfl lk_RX11_165 rfl rfl dX11_left_56 ?_
          refine G_istore_n (pc := 59) (L1 := [some (.ref 0), some (.int 11), some (.int what), some (.int 0)]) rfl rfl (by decide) dX11_left_59 ?_
          refine G_aload_n (pc := 60) rfl dX11_left_60 ?_
          refine G_getR (pc := 61) (r := 19) (ci := 11) (j := 0) rfl lk_RX11_56 rfl rfl rfl dX11_left_61 ?_
          refine G_iconst (pc := 64) (v := 0) (by decide) dX11_left_64 ?_
          refine G_callV (pc := 65) (mc1 := 0) (ms1 := 0) (ci := 1) (mj := mX1_restore) (vs := [_]) dX11_left_65 rfl rfl cm_X1_restore wf_107 wf_109 wf_110 rfl (Nat.le_of_ble_eq_true rfl) (Nat.le_of_ble_eq_true rfl) (Nat.le_of_ble_eq_true rfl) (Nat.le_of_ble_eq_true rfl) (s428_X1_restore  (d + 1)  ) ?_
          rintro _ _ ⟨rfl, rfl⟩
          dsimp only [Option.toList, List.cons_append, List.nil_append]
          refine G_iload_n (pc := 68) rfl dX11_left_68 ?_
          exact G_iret (pc := 69) (Nat.le_of_ble_eq_true rfl) (Nat.le_of_ble_eq_true rfl) rfl dX11_left_69 ⟨_, by first | rfl | (simp [F_left, *]; done) | (have : 0 ≤ (what).toInt := Int32.le_iff_toInt_le.mp (c544.1); have : (what).toInt ≤ 1 := Int32.le_iff_toInt_le.mp (c544.2); have : (what).toInt ≠ 0 := g_ne (c581); simp only [F_left, Int32.le_iff_toInt_le, Int32.lt_iff_toInt_lt, ← Int32.toInt_inj]; simp; omega) | (have : 0 ≤ (what).toInt := Int32.le_iff_toInt_le.mp (c544.1); have : (what).toInt ≤ 1 := Int32.le_iff_toInt_le.mp (c544.2); have : (what).toInt ≠ 0 := g_ne (c581); simp only [F_left, Int32.le_iff_toInt_le, Int32.lt_iff_toInt_lt, ← Int32.toInt_inj]; split <;> first | rfl | (exfalso; simp at *; omega)) | (have : 0 ≤ (what).toInt := Int32.le_iff_toInt_le.mp (c544.1); have : (what).toInt ≤ 1 := Int32.le_iff_toInt_le.mp (c544.2); have : (what).toInt ≠ 0 := g_ne (c581); unfold F_left; (repeat' split) <;> first | rfl | (exfalso; (try simp only [Int32.le_iff_toInt_le, Int32.lt_iff_toInt_lt, ← Int32.toInt_inj] at *); first | omega | (simp at *; done) | (simp at *; omega))), rfl, fun a ha => by funext j; simp (disch := omega) only [gup_off, gcp_off]⟩
        · refine G_aload_n (pc := 42) rfl dX11_left_42 ?_
          refine G_getR (pc := 43) (r := 19) (ci := 11) (j := 0) rfl lk_RX11_56 rfl rfl rfl dX11_left_43 ?_
          refine G_callV (pc := 46) (mc1 := 0) (ms1 := 0) (ci := 1) (mj := mX1_allTeeth) (vs := []) dX11_left_46 rfl rfl cm_X1_allTeeth wf_23 wf_25 wf_26 rfl (Nat.le_of_ble_eq_true rfl) (Nat.le_of_ble_eq_true rfl) (Nat.le_of_ble_eq_true rfl) (Nat.le_of_ble_eq_true rfl) (s447_X1_allTeeth  (d + 2)  ) ?_
          rintro _ _ ⟨rfl, rfl⟩
          dsimp only [Option.toList, List.cons_append, List.nil_append]
          refine G_goto (pc := 49) (tgt := 59) (by decide) dX11_left_49 ?_
          refine G_istore_n (pc := 59) (L1 := [some (.ref 0), some (.int 11), some (.int what), some (.int 0)]) rfl rfl (by decide) dX11_left_59 ?_
          refine G_aload_n (pc := 60) rfl dX11_left_60 ?_
          refine G_getR (pc := 61) (r := 19) (ci := 11) (j := 0) rfl lk_RX11_56 rfl rfl rfl dX11_left_61 ?_
          refine G_iconst (pc := 64) (v := 0) (by decide) dX11_left_64 ?_
          refine G_callV (pc := 65) (mc1 := 0) (ms1 := 0) (ci := 1) (mj := mX1_restore) (vs := [_]) dX11_left_65 rfl rfl cm_X1_restore wf_107 wf_109 wf_110 rfl (Nat.le_of_ble_eq_true rfl) (Nat.le_of_ble_eq_true rfl) (Nat.le_of_ble_eq_true rfl) (Nat.le_of_ble_eq_true rfl) (s428_X1_restore  (d + 1)  ) ?_
          rintro _ _ ⟨rfl, rfl⟩
          dsimp only [Option.toList, List.cons_append, List.nil_append]
          refine G_iload_n (pc := 68) rfl dX11_left_68 ?_
          exact G_iret (pc := 69) (Nat.le_of_ble_eq_true rfl) (Nat.le_of_ble_eq_true rfl) rfl dX11_left_69 ⟨_, by first | rfl | (simp [F_left, *]; done) | (have : 0 ≤ (what).toInt := Int32.le_iff_toInt_le.mp (c544.1); have : (what).toInt ≤ 1 := Int32.le_iff_toInt_le.mp (c544.2); have : (what).toInt = 0 := congrArg Int32.toInt (c581); simp only [F_left, Int32.le_iff_toInt_le, Int32.lt_iff_toInt_lt, ← Int32.toInt_inj]; simp; omega) | (have : 0 ≤ (what).toInt := Int32.le_iff_toInt_le.mp (c544.1); have : (what).toInt ≤ 1 := Int32.le_iff_toInt_le.mp (c544.2); have : (what).toInt = 0 := congrArg Int32.toInt (c581); simp only [F_left, Int32.le_iff_toInt_le, Int32.lt_iff_toInt_lt, ← Int32.toInt_inj]; split <;> first | rfl | (exfalso; simp at *; omega)) | (have : 0 ≤ (what).toInt := Int32.le_iff_toInt_le.mp (c544.1); have : (what).toInt ≤ 1 := Int32.le_iff_toInt_le.mp (c544.2); have : (what).toInt = 0 := congrArg Int32.toInt (c581); unfold F_left; (repeat' split) <;> first | rfl | (exfalso; (try simp only [Int32.le_iff_toInt_le, Int32.lt_iff_toInt_lt, ← Int32.toInt_inj] at *); first | omega | (simp at *; done) | (simp at *; omega))), rfl, fun a ha => by funext j; simp (disch := omega) only [gup_off, gcp_off]⟩
      by_cases c582 : n = 12
      · subst c582
        refine G_callV (pc := 34) (mc1 := 0) (ms1 := 0) (ci := 1) (mj := mX1_goRest) (vs := [_]) dX11_left_34 rfl rfl cm_X1_goRest wf_174 wf_176 wf_177 rfl (Nat.le_of_ble_eq_true rfl) (Nat.le_of_ble_eq_true rfl) (Nat.le_of_ble_eq_true rfl) (Nat.le_of_ble_eq_true rfl) (s429_X1_goRest  d  ) ?_
        rintro _ _ ⟨rfl, rfl⟩
        dsimp only [Option.toList, List.cons_append, List.nil_append]
        refine G_pop (pc := 37) rfl dX11_left_37 ?_
        refine G_iload_n (pc := 38) rfl dX11_left_38 ?_
        refine G_if_ne (pc := 39) (tgt := 52) (by decide) dX11_left_39 (fun c583 => ?_) (fun c583 => ?_)
        · refine G_aload_n (pc := 52) rfl dX11_left_52 ?_
          refine G_getR (pc := 53) (r := 19) (ci := 11) (j := 0) rfl lk_RX11_56 rfl rfl rfl dX11_left_53 ?_
          refine G_getI (pc := 56) (v := 0) (ci := 1) (j := 9) rfl rfl lk_RX11_165 rfl rfl dX11_left_56 ?_
          refine G_istore_n (pc := 59) (L1 := [some (.ref 0), some (.int 12), some (.int what), some (.int 0)]) rfl rfl (by decide) dX11_left_59 ?_
          refine G_aload_n (pc := 60) rfl dX11_left_60 ?_
          refine G_getR (pc := 61) (r := 19) (ci := 11) (j := 0) rfl lk_RX11_56 rfl rfl rfl dX11_left_61 ?_
          refine G_iconst (pc := 64) (v := 0) (by decide) dX11_left_64 ?_
          refine G_callV (pc := 65) (mc1 := 0) (ms1 := 0) (ci := 1) (mj := mX1_restore) (vs := [_]) dX11_left_65 rfl rfl cm_X1_restore wf_107 wf_109 wf_110 rfl (Nat.le_of_ble_eq_true rfl) (Nat.le_of_ble_eq_true rfl) (Nat.le_of_ble_eq_true rfl) (Nat.le_of_ble_eq_true rfl) (s430_X1_restore  (d + 1)  ) ?_
          rintro _ _ ⟨rfl, rfl⟩
          dsimp only [Option.toList, List.cons_append, List.nil_append]
          refine G_iload_n (pc := 68) rfl dX11_left_68 ?_
          exact G_iret (pc := 69) (Nat.le_of_ble_eq_true rfl) (Nat.le_of_ble_eq_true rfl) rfl dX11_left_69 ⟨_, by first | rfl | (simp [F_left, *]; done) | (have : 0 ≤ (what).toInt := Int32.le_iff_toInt_le.mp (c544.1); have : (what).toInt ≤ 1 := Int32.le_iff_toInt_le.mp (c544.2); have : (what).toInt ≠ 0 := g_ne (c583); simp only [F_left, Int32.le_iff_toInt_le, Int32.lt_iff_toInt_lt, ← Int32.toInt_inj]; simp; omega) | (have : 0 ≤ (what).toInt := Int32.le_iff_toInt_le.mp (c544.1); have : (what).toInt ≤ 1 := Int32.le_iff_toInt_le.mp (c544.2); have : (what).toInt ≠ 0 := g_ne (c583); simp only [F_left, Int32.le_iff_toInt_le, Int32.lt_iff_toInt_lt, ← Int32.toInt_inj]; split <;> first | rfl | (exfalso; simp at *; omega)) | (have : 0 ≤ (what).toInt := Int32.le_iff_toInt_le.mp (c544.1); have : (what).toInt ≤ 1 := Int32.le_iff_toInt_le.mp (c544.2); have : (what).toInt ≠ 0 := g_ne (c583); unfold F_left; (repeat' split) <;> first | rfl | (exfalso; (try simp only [Int32.le_iff_toInt_le, Int32.lt_iff_toInt_lt, ← Int32.toInt_inj] at *); first | omega | (simp at *; done) | (simp at *; omega))), rfl, fun a ha => by funext j; simp (disch := omega) only [gup_off, gcp_off]⟩
        · refine G_aload_n (pc := 42) rfl dX11_left_42 ?_
          refine G_getR (pc := 43) (r := 19) (ci := 11) (j := 0) rfl lk_RX11_56 rfl rfl rfl dX11_left_43 ?_
          refine G_callV (pc := 46) (mc1 := 0) (ms1 := 0) (ci := 1) (mj := mX1_allTeeth) (vs := []) dX11_left_46 rfl rfl cm_X1_allTeeth wf_23 wf_25 wf_26 rfl (Nat.le_of_ble_eq_true rfl) (Nat.le_of_ble_eq_true rfl) (Nat.le_of_ble_eq_true rfl) (Nat.le_of_ble_eq_true rfl) (s448_X1_allTeeth  (d + 2)  ) ?_
          rintro _ _ ⟨rfl, rfl⟩
          dsimp only [Option.toList, List.cons_append, List.nil_append]
          refine G_goto (pc := 49) (tgt := 59) (by decide) dX11_left_49 ?_
          refine G_istore_n (pc := 59) (L1 := [some (.ref 0), some (.int 12), some (.int what), some (.int 0)]) rfl rfl (by decide) dX11_left_59 ?_
          refine G_aload_n (pc := 60) rfl dX11_left_60 ?_
          refine G_getR (pc := 61) (r := 19) (ci := 11) (j := 0) rfl lk_RX11_56 rfl rfl rfl dX11_left_61 ?_
          refine G_iconst (pc := 64) (v := 0) (by decide) dX11_left_64 ?_
          refine G_callV (pc := 65) (mc1 := 0) (ms1 := 0) (ci := 1) (mj := mX1_restore) (vs := [_]) dX11_left_65 rfl rfl cm_X1_restore wf_107 wf_109 wf_110 rfl (Nat.le_of_ble_eq_true rfl) (Nat.le_of_ble_eq_true rfl) (Nat.le_of_ble_eq_true rfl) (Nat.le_of_ble_eq_true rfl) (s430_X1_restore  (d + 1)  ) ?_
          rintro _ _ ⟨rfl, rfl⟩
          dsimp only [Option.toList, List.cons_append, List.nil_append]
          refine G_iload_n (pc := 68) rfl dX11_left_68 ?_
          exact G_iret (pc := 69) (Nat.le_of_ble_eq_true rfl) (Nat.le_of_ble_eq_true rfl) rfl dX11_left_69 ⟨_, by first | rfl | (simp [F_left, *]; done) | (have : 0 ≤ (what).toInt := Int32.le_iff_toInt_le.mp (c544.1); have : (what).toInt ≤ 1 := Int32.le_iff_toInt_le.mp (c544.2); have : (what).toInt = 0 := congrArg Int32.toInt (c583); simp only [F_left, Int32.le_iff_toInt_le, Int32.lt_iff_toInt_lt, ← Int32.toInt_inj]; simp; omega) | (have : 0 ≤ (what).toInt := Int32.le_iff_toInt_le.mp (c544.1); have : (what).toInt ≤ 1 := Int32.le_iff_toInt_le.mp (c544.2); have : (what).toInt = 0 := congrArg Int32.toInt (c583); simp only [F_left, Int32.le_iff_toInt_le, Int32.lt_iff_toInt_lt, ← Int32.toInt_inj]; split <;> first | rfl | (exfalso; simp at *; omega)) | (have : 0 ≤ (what).toInt := Int32.le_iff_toInt_le.mp (c544.1); have : (what).toInt ≤ 1 := Int32.le_iff_toInt_le.mp (c544.2); have : (what).toInt = 0 := congrArg Int32.toInt (c583); unfold F_left; (repeat' split) <;> first | rfl | (exfalso; (try simp only [Int32.le_iff_toInt_le, Int32.lt_iff_toInt_lt, ← Int32.toInt_inj] at *); first | omega | (simp at *; done) | (simp at *; omega))), rfl, fun a ha => by funext j; simp (disch := omega) only [gup_off, gcp_off]⟩
      by_cases c584 : n = 13
      · subst c584
        refine G_callV (pc := 34) (mc1 := 0) (ms1 := 0) (ci := 1) (mj := mX1_goRest) (vs := [_]) dX11_left_34 rfl rfl cm_X1_goRest wf_174 wf_176 wf_177 rfl (Nat.le_of_ble_eq_true rfl) (Nat.le_of_ble_eq_true rfl) (Nat.le_of_ble_eq_true rfl) (Nat.le_of_ble_eq_true rfl) (s431_X1_goRest  d  ) ?_
        rintro _ _ ⟨rfl, rfl⟩
        dsimp only [Option.toList, List.cons_append, List.nil_append]
        refine G_pop (pc := 37) rfl dX11_left_37 ?_
        refine G_iload_n (pc := 38) rfl dX11_left_38 ?_
        refine G_if_ne (pc := 39) (tgt := 52) (by decide) dX11_left_39 (fun c585 => ?_) (fun c585 => ?_)
        · refine G_aload_n (pc := 52) rfl dX11_left_52 ?_
          refine G_getR (pc := 53) (r := 19) (ci := 11) (j := 0) rfl lk_RX11_56 rfl rfl rfl dX11_left_53 ?_
          refine G_getI (pc := 56) (v := 0) (ci := 1) (j := 9) rfl rfl lk_RX11_165 rfl rfl dX11_left_56 ?_
          refine G_istore_n (pc := 59) (L1 := [some (.ref 0), some (.int 13), some (.int what), some (.int 0)]) rfl rfl (by decide) dX11_left_59 ?_
          refine G_aload_n (pc := 60) rfl dX11_left_60 ?_
          refine G_getR (pc := 61) (r := 19) (ci := 11) (j := 0) rfl lk_RX11_56 rfl rfl rfl dX11_left_61 ?_
          refine G_iconst (pc := 64) (v := 0) (by decide) dX11_left_64 ?_
          refine G_callV (pc := 65) (mc1 := 0) (ms1 := 0) (ci := 1) (mj := mX1_restore) (vs := [_]) dX11_left_65 rfl rfl cm_X1_restore wf_107 wf_109 wf_110 rfl (Nat.le_of_ble_eq_true rfl) (Nat.le_of_ble_eq_true rfl) (Nat.le_of_ble_eq_true rfl) (Nat.le_of_ble_eq_true rfl) (s430_X1_restore  (d + 1)  ) ?_
          rintro _ _ ⟨rfl, rfl⟩
          dsimp only [Option.toList, List.cons_append, List.nil_append]
          refine G_iload_n (pc := 68) rfl dX11_left_68 ?_
          exact G_iret (pc := 69) (Nat.le_of_ble_eq_true rfl) (Nat.le_of_ble_eq_true rfl) rfl dX11_left_69 ⟨_, by first | rfl | (simp [F_left, *]; done) | (have : 0 ≤ (what).toInt := Int32.le_iff_toInt_le.mp (c544.1); have : (what).toInt ≤ 1 := Int32.le_iff_toInt_le.mp (c544.2); have : (what).toInt ≠ 0 := g_ne (c585); simp only [F_left, Int32.le_iff_toInt_le, Int32.lt_iff_toInt_lt, ← Int32.toInt_inj]; simp; omega) | (have : 0 ≤ (what).toInt := Int32.le_iff_toInt_le.mp (c544.1); have : (what).toInt ≤ 1 := Int32.le_iff_toInt_le.mp (c544.2); have : (what).toInt ≠ 0 := g_ne (c585); simp only [F_left, Int32.le_iff_toInt_le, Int32.lt_iff_toInt_lt, ← Int32.toInt_inj]; split <;> first | rfl | (exfalso; simp at *; omega)) | (have : 0 ≤ (what).toInt := Int32.le_iff_toInt_le.mp (c544.1); have : (what).toInt ≤ 1 := Int32.le_iff_toInt_le.mp (c544.2); have : (what).toInt ≠ 0 := g_ne (c585); unfold F_left; (repeat' split) <;> first | rfl | (exfalso; (try simp only [Int32.le_iff_toInt_le, Int32.lt_iff_toInt_lt, ← Int32.toInt_inj] at *); first | omega | (simp at *; done) | (simp at *; omega))), rfl, fun a ha => by funext j; simp (disch := omega) only [gup_off, gcp_off]⟩
        · refine G_aload_n (pc := 42) rfl dX11_left_42 ?_
          refine G_getR (pc := 43) (r := 19) (ci := 11) (j := 0) rfl lk_RX11_56 rfl rfl rfl dX11_left_43 ?_
          refine G_callV (pc := 46) (mc1 := 0) (ms1 := 0) (ci := 1) (mj := mX1_allTeeth) (vs := []) dX11_left_46 rfl rfl cm_X1_allTeeth wf_23 wf_25 wf_26 rfl (Nat.le_of_ble_eq_true rfl) (Nat.le_of_ble_eq_true rfl) (Nat.le_of_ble_eq_true rfl) (Nat.le_of_ble_eq_true rfl) (s448_X1_allTeeth  (d + 2)  ) ?_
          rintro _ _ ⟨rfl, rfl⟩
          dsimp only [Option.toList, List.cons_append, List.nil_append]
          refine G_goto (pc := 49) (tgt := 59) (by decide) dX11_left_49 ?_
          refine G_istore_n (pc := 59) (L1 := [some (.ref 0), some (.int 13), some (.int what), some (.int 0)]) rfl rfl (by decide) dX11_left_59 ?_
          refine G_aload_n (pc := 60) rfl dX11_left_60 ?_
          refine G_getR (pc := 61) (r := 19) (ci := 11) (j := 0) rfl lk_RX11_56 rfl rfl rfl dX11_left_61 ?_
          refine G_iconst (pc := 64) (v := 0) (by decide) dX11_left_64 ?_
          refine G_callV (pc := 65) (mc1 := 0) (ms1 := 0) (ci := 1) (mj := mX1_restore) (vs := [_]) dX11_left_65 rfl rfl cm_X1_restore wf_107 wf_109 wf_110 rfl (Nat.le_of_ble_eq_true rfl) (Nat.le_of_ble_eq_true rfl) (Nat.le_of_ble_eq_true rfl) (Nat.le_of_ble_eq_true rfl) (s430_X1_restore  (d + 1)  ) ?_
          rintro _ _ ⟨rfl, rfl⟩
          dsimp only [Option.toList, List.cons_append, List.nil_append]
          refine G_iload_n (pc := 68) rfl dX11_left_68 ?_
          exact G_iret (pc := 69) (Nat.le_of_ble_eq_true rfl) (Nat.le_of_ble_eq_true rfl) rfl dX11_left_69 ⟨_, by first | rfl | (simp [F_left, *]; done) | (have : 0 ≤ (what).toInt := Int32.le_iff_toInt_le.mp (c544.1); have : (what).toInt ≤ 1 := Int32.le_iff_toInt_le.mp (c544.2); have : (what).toInt = 0 := congrArg Int32.toInt (c585); simp only [F_left, Int32.le_iff_toInt_le, Int32.lt_iff_toInt_lt, ← Int32.toInt_inj]; simp; omega) | (have : 0 ≤ (what).toInt := Int32.le_iff_toInt_le.mp (c544.1); have : (what).toInt ≤ 1 := Int32.le_iff_toInt_le.mp (c544.2); have : (what).toInt = 0 := congrArg Int32.toInt (c585); simp only [F_left, Int32.le_iff_toInt_le, Int32.lt_iff_toInt_lt, ← Int32.toInt_inj]; split <;> first | rfl | (exfalso; simp at *; omega)) | (have : 0 ≤ (what).toInt := Int32.le_iff_toInt_le.mp (c544.1); have : (what).toInt ≤ 1 := Int32.le_iff_toInt_le.mp (c544.2); have : (what).toInt = 0 := congrArg Int32.toInt (c585); unfold F_left; (repeat' split) <;> first | rfl | (exfalso; (try simp only [Int32.le_iff_toInt_le, Int32.lt_iff_toInt_lt, ← Int32.toInt_inj] at *); first | omega | (simp at *; done) | (simp at *; omega))), rfl, fun a ha => by funext j; simp (disch := omega) only [gup_off, gcp_off]⟩
      by_cases c586 : n = 14
      · subst c586
        refine G_callV (pc := 34) (mc1 := 0) (ms1 := 0) (ci := 1) (mj := mX1_goRest) (vs := [_]) dX11_left_34 rfl rfl cm_X1_goRest wf_174 wf_176 wf_177 rfl (Nat.le_of_ble_eq_true rfl) (Nat.le_of_ble_eq_true rfl) (Nat.le_of_ble_eq_true rfl) (Nat.le_of_ble_eq_true rfl) (s432_X1_goRest  d  ) ?_
        rintro _ _ ⟨rfl, rfl⟩
        dsimp only [Option.toList, List.cons_append, List.nil_append]
        refine G_pop (pc := 37) rfl dX11_left_37 ?_
        refine G_iload_n (pc := 38) rfl dX11_left_38 ?_
        refine G_if_ne (pc := 39) (tgt := 52) (by decide) dX11_left_39 (fun c587 => ?_) (fun c587 => ?_)
        · refine G_aload_n (pc := 52) rfl dX11_left_52 ?_
          refine G_getR (pc := 53) (r := 19) (ci := 11) (j := 0) rfl lk_RX11_56 rfl rfl rfl dX11_left_53 ?_
          refine G_getI (pc := 56) (v := 0) (ci := 1) (j := 9) rfl rfl lk_RX11_165 rfl rfl dX11_left_56 ?_
          refine G_istore_n (pc := 59) (L1 := [some (.ref 0), some (.int 14), some (.int what), some (.int 0)]) rfl rfl (by decide) dX11_left_59 ?_
          refine G_aload_n (pc := 60) rfl dX11_left_60 ?_
          refine G_getR (pc := 61) (r := 19) (ci := 11) (j := 0) rfl lk_RX11_56 rfl rfl rfl dX11_left_61 ?_
          refine G_iconst (pc := 64) (v := 0) (by decide) dX11_left_64 ?_
          refine G_callV (pc := 65) (mc1 := 0) (ms1 := 0) (ci := 1) (mj := mX1_restore) (vs := [_]) dX11_left_65 rfl rfl cm_X1_restore wf_107 wf_109 wf_110 rfl (Nat.le_of_ble_eq_true rfl) (Nat.le_of_ble_eq_true rfl) (Nat.le_of_ble_eq_true rfl) (Nat.le_of_ble_eq_true rfl) (s430_X1_restore  (d + 1)  ) ?_
          rintro _ _ ⟨rfl, rfl⟩
          dsimp only [Option.toList, List.cons_append, List.nil_append]
          refine G_iload_n (pc := 68) rfl dX11_left_68 ?_
          exact G_iret (pc := 69) (Nat.le_of_ble_eq_true rfl) (Nat.le_of_ble_eq_true rfl) rfl dX11_left_69 ⟨_, by first | rfl | (simp [F_left, *]; done) | (have : 0 ≤ (what).toInt := Int32.le_iff_toInt_le.mp (c544.1); have : (what).toInt ≤ 1 := Int32.le_iff_toInt_le.mp (c544.2); have : (what).toInt ≠ 0 := g_ne (c587); simp only [F_left, Int32.le_iff_toInt_le, Int32.lt_iff_toInt_lt, ← Int32.toInt_inj]; simp; omega) | (have : 0 ≤ (what).toInt := Int32.le_iff_toInt_le.mp (c544.1); have : (what).toInt ≤ 1 := Int32.le_iff_toInt_le.mp (c544.2); have : (what).toInt ≠ 0 := g_ne (c587); simp only [F_left, Int32.le_iff_toInt_le, Int32.lt_iff_toInt_lt, ← Int32.toInt_inj]; split <;> first | rfl | (exfalso; simp at *; omega)) | (have : 0 ≤ (what).toInt := Int32.le_iff_toInt_le.mp (c544.1); have : (what).toInt ≤ 1 := Int32.le_iff_toInt_le.mp (c544.2); have : (what).toInt ≠ 0 := g_ne (c587); unfold F_left; (repeat' split) <;> first | rfl | (exfalso; (try simp only [Int32.le_iff_toInt_le, Int32.lt_iff_toInt_lt, ← Int32.toInt_inj] at *); first | omega | (simp at *; done) | (simp at *; omega))), rfl, fun a ha => by funext j; simp (disch := omega) only [gup_off, gcp_off]⟩
        · refine G_aload_n (pc := 42) rfl dX11_left_42 ?_
          refine G_getR (pc := 43) (r := 19) (ci := 11) (j := 0) rfl lk_RX11_56 rfl rfl rfl dX11_left_43 ?_
          refine G_callV (pc := 46) (mc1 := 0) (ms1 := 0) (ci := 1) (mj := mX1_allTeeth) (vs := []) dX11_left_46 rfl rfl cm_X1_allTeeth wf_23 wf_25 wf_26 rfl (Nat.le_of_ble_eq_true rfl) (Nat.le_of_ble_eq_true rfl) (Nat.le_of_ble_eq_true rfl) (Nat.le_of_ble_eq_true rfl) (s448_X1_allTeeth  (d + 2)  ) ?_
          rintro _ _ ⟨rfl, rfl⟩
          dsimp only [Option.toList, List.cons_append, List.nil_append]
          refine G_goto (pc := 49) (tgt := 59) (by decide) dX11_left_49 ?_
          refine G_istore_n (pc := 59) (L1 := [some (.ref 0), some (.int 14), some (.int what), some (.int 0)]) rfl rfl (by decide) dX11_left_59 ?_
          refine G_aload_n (pc := 60) rfl dX11_left_60 ?_
          refine G_getR (pc := 61) (r := 19) (ci := 11) (j := 0) rfl lk_RX11_56 rfl rfl rfl dX11_left_61 ?_
          refine G_iconst (pc := 64) (v := 0) (by decide) dX11_left_64 ?_
          refine G_callV (pc := 65) (mc1 := 0) (ms1 := 0) (ci := 1) (mj := mX1_restore) (vs := [_]) dX11_left_65 rfl rfl cm_X1_restore wf_107 wf_109 wf_110 rfl (Nat.le_of_ble_eq_true rfl) (Nat.le_of_ble_eq_true rfl) (Nat.le_of_ble_eq_true rfl) (Nat.le_of_ble_eq_true rfl) (s430_X1_restore  (d + 1)  ) ?_
          rintro _ _ ⟨rfl, rfl⟩
          dsimp only [Option.toList, List.cons_append, List.nil_append]
          refine G_iload_n (pc := 68) rfl dX11_left_68 ?_
          exact G_iret (pc := 69) (Nat.le_of_ble_eq_true rfl) (Nat.le_of_ble_eq_true rfl) rfl dX11_left_69 ⟨_, by first | rfl | (simp [F_left, *]; done) | (have : 0 ≤ (what).toInt := Int32.le_iff_toInt_le.mp (c544.1); have : (what).toInt ≤ 1 := Int32.le_iff_toInt_le.mp (c544.2); have : (what).toInt = 0 := congrArg Int32.toInt (c587); simp only [F_left, Int32.le_iff_toInt_le, Int32.lt_iff_toInt_lt, ← Int32.toInt_inj]; simp; omega) | (have : 0 ≤ (what).toInt := Int32.le_iff_toInt_le.mp (c544.1); have : (what).toInt ≤ 1 := Int32.le_iff_toInt_le.mp (c544.2); have : (what).toInt = 0 := congrArg Int32.toInt (c587); simp only [F_left, Int32.le_iff_toInt_le, Int32.lt_iff_toInt_lt, ← Int32.toInt_inj]; split <;> first | rfl | (exfalso; simp at *; omega)) | (have : 0 ≤ (what).toInt := Int32.le_iff_toInt_le.mp (c544.1); have : (what).toInt ≤ 1 := Int32.le_iff_toInt_le.mp (c544.2); have : (what).toInt = 0 := congrArg Int32.toInt (c587); unfold F_left; (repeat' split) <;> first | rfl | (exfalso; (try simp only [Int32.le_iff_toInt_le, Int32.lt_iff_toInt_lt, ← Int32.toInt_inj] at *); first | omega | (simp at *; done) | (simp at *; omega))), rfl, fun a ha => by funext j; simp (disch := omega) only [gup_off, gcp_off]⟩
      by_cases c588 : n = 15
      · subst c588
        refine G_callV (pc := 34) (mc1 := 0) (ms1 := 0) (ci := 1) (mj := mX1_goRest) (vs := [_]) dX11_left_34 rfl rfl cm_X1_goRest wf_174 wf_176 wf_177 rfl (Nat.le_of_ble_eq_true rfl) (Nat.le_of_ble_eq_true rfl) (Nat.le_of_ble_eq_true rfl) (Nat.le_of_ble_eq_true rfl) (s433_X1_goRest  d  ) ?_
        rintro _ _ ⟨rfl, rfl⟩
        dsimp only [Option.toList, List.cons_append, List.nil_append]
        refine G_pop (pc := 37) rfl dX11_left_37 ?_
        refine G_iload_n (pc := 38) rfl dX11_left_38 ?_
        refine G_if_ne (pc := 39) (tgt := 52) (by decide) dX11_left_39 (fun c589 => ?_) (fun c589 => ?_)
        · refine G_aload_n (pc := 52) rfl dX11_left_52 ?_
          refine G_getR (pc := 53) (r := 19) (ci := 11) (j := 0) rfl lk_RX11_56 rfl rfl rfl dX11_left_53 ?_
          refine G_getI (pc := 56) (v := 0) (ci := 1) (j := 9) rfl rfl lk_RX11_165 rfl rfl dX11_left_56 ?_
          refine G_istore_n (pc := 59) (L1 := [some (.ref 0), some (.int 15), some (.int what), some (.int 0)]) rfl rfl (by decide) dX11_left_59 ?_
          refine G_aload_n (pc := 60) rfl dX11_left_60 ?_
          refine G_getR (pc := 61) (r := 19) (ci := 11) (j := 0) rfl lk_RX11_56 rfl rfl rfl dX11_left_61 ?_
          refine G_iconst (pc := 64) (v := 0) (by decide) dX11_left_64 ?_
          refine G_callV (pc := 65) (mc1 := 0) (ms1 := 0) (ci := 1) (mj := mX1_restore) (vs := [_]) dX11_left_65 rfl rfl cm_X1_restore wf_107 wf_109 wf_110 rfl (Nat.le_of_ble_eq_true rfl) (Nat.le_of_ble_eq_true rfl) (Nat.le_of_ble_eq_true rfl) (Nat.le_of_ble_eq_true rfl) (s430_X1_restore  (d + 1)  ) ?_
          rintro _ _ ⟨rfl, rfl⟩
          dsimp only [Option.toList, List.cons_append, List.nil_append]
          refine G_iload_n (pc := 68) rfl dX11_left_68 ?_
          exact G_iret (pc := 69) (Nat.le_of_ble_eq_true rfl) (Nat.le_of_ble_eq_true rfl) rfl dX11_left_69 ⟨_, by first | rfl | (simp [F_left, *]; done) | (have : 0 ≤ (what).toInt := Int32.le_iff_toInt_le.mp (c544.1); have : (what).toInt ≤ 1 := Int32.le_iff_toInt_le.mp (c544.2); have : (what).toInt ≠ 0 := g_ne (c589); simp only [F_left, Int32.le_iff_toInt_le, Int32.lt_iff_toInt_lt, ← Int32.toInt_inj]; simp; omega) | (have : 0 ≤ (what).toInt := Int32.le_iff_toInt_le.mp (c544.1); have : (what).toInt ≤ 1 := Int32.le_iff_toInt_le.mp (c544.2); have : (what).toInt ≠ 0 := g_ne (c589); simp only [F_left, Int32.le_iff_toInt_le, Int32.lt_iff_toInt_lt, ← Int32.toInt_inj]; split <;> first | rfl | (exfalso; simp at *; omega)) | (have : 0 ≤ (what).toInt := Int32.le_iff_toInt_le.mp (c544.1); have : (what).toInt ≤ 1 := Int32.le_iff_toInt_le.mp (c544.2); have : (what).toInt ≠ 0 := g_ne (c589); unfold F_left; (repeat' split) <;> first | rfl | (exfalso; (try simp only [Int32.le_iff_toInt_le, Int32.lt_iff_toInt_lt, ← Int32.toInt_inj] at *); first | omega | (simp at *; done) | (simp at *; omega))), rfl, fun a ha => by funext j; simp (disch := omega) only [gup_off, gcp_off]⟩
        · refine G_aload_n (pc := 42) rfl dX11_left_42 ?_
          refine G_getR (pc := 43) (r := 19) (ci := 11) (j := 0) rfl lk_RX11_56 rfl rfl rfl dX11_left_43 ?_
          refine G_callV (pc := 46) (mc1 := 0) (ms1 := 0) (ci := 1) (mj := mX1_allTeeth) (vs := []) dX11_left_46 rfl rfl cm_X1_allTeeth wf_23 wf_25 wf_26 rfl (Nat.le_of_ble_eq_true rfl) (Nat.le_of_ble_eq_true rfl) (Nat.le_of_ble_eq_true rfl) (Nat.le_of_ble_eq_true rfl) (s448_X1_allTeeth  (d + 2)  ) ?_
          rintro _ _ ⟨rfl, rfl⟩
          dsimp only [Option.toList, List.cons_append, List.nil_append]
          refine G_goto (pc := 49) (tgt := 59) (by decide) dX11_left_49 ?_
          refine G_istore_n (pc := 59) (L1 := [some (.ref 0), some (.int 15), some (.int what), some (.int 0)]) rfl rfl (by decide) dX11_left_59 ?_
          refine G_aload_n (pc := 60) rfl dX11_left_60 ?_
          refine G_getR (pc := 61) (r := 19) (ci := 11) (j := 0) rfl lk_RX11_56 rfl rfl rfl dX11_left_61 ?_
          refine G_iconst (pc := 64) (v := 0) (by decide) dX11_left_64 ?_
          refine G_callV (pc := 65) (mc1 := 0) (ms1 := 0) (ci := 1) (mj := mX1_restore) (vs := [_]) dX11_left_65 rfl rfl cm_X1_restore wf_107 wf_109 wf_110 rfl (Nat.le_of_ble_eq_true rfl) (Nat.le_of_ble_eq_true rfl) (Nat.le_of_ble_eq_true rfl) (Nat.le_of_ble_eq_true rfl) (s430_X1_restore  (d + 1)  ) ?_
          rintro _ _ ⟨rfl, rfl⟩
          dsimp only [Option.toList, List.cons_append, List.nil_append]
          refine G_iload_n (pc := 68) rfl dX11_left_68 ?_
          exact G_iret (pc := 69) (Nat.le_of_ble_eq_true rfl) (Nat.le_of_ble_eq_true rfl) rfl dX11_left_69 ⟨_, by first | rfl | (simp [F_left, *]; done) | (have : 0 ≤ (what).toInt := Int32.le_iff_toInt_le.mp (c544.1); have : (what).toInt ≤ 1 := Int32.le_iff_toInt_le.mp (c544.2); have : (what).toInt = 0 := congrArg Int32.toInt (c589); simp only [F_left, Int32.le_iff_toInt_le, Int32.lt_iff_toInt_lt, ← Int32.toInt_inj]; simp; omega) | (have : 0 ≤ (what).toInt := Int32.le_iff_toInt_le.mp (c544.1); have : (what).toInt ≤ 1 := Int32.le_iff_toInt_le.mp (c544.2); have : (what).toInt = 0 := congrArg Int32.toInt (c589); simp only [F_left, Int32.le_iff_toInt_le, Int32.lt_iff_toInt_lt, ← Int32.toInt_inj]; split <;> first | rfl | (exfalso; simp at *; omega)) | (have : 0 ≤ (what).toInt := Int32.le_iff_toInt_le.mp (c544.1); have : (what).toInt ≤ 1 := Int32.le_iff_toInt_le.mp (c544.2); have : (what).toInt = 0 := congrArg Int32.toInt (c589); unfold F_left; (repeat' split) <;> first | rfl | (exfalso; (try simp only [Int32.le_iff_toInt_le, Int32.lt_iff_toInt_lt, ← Int32.toInt_inj] at *); first | omega | (simp at *; done) | (simp at *; omega))), rfl, fun a ha => by funext j; simp (disch := omega) only [gup_off, gcp_off]⟩
      by_cases c590 : n = 16
      · subst c590
        refine G_callV (pc := 34) (mc1 := 0) (ms1 := 0) (ci := 1) (mj := mX1_goRest) (vs := [_]) dX11_left_34 rfl rfl cm_X1_goRest wf_174 wf_176 wf_177 rfl (Nat.le_of_ble_eq_true rfl) (Nat.le_of_ble_eq_true rfl) (Nat.le_of_ble_eq_true rfl) (Nat.le_of_ble_eq_true rfl) (s434_X1_goRest  d  ) ?_
        rintro _ _ ⟨rfl, rfl⟩
        dsimp only [Option.toList, List.cons_append, List.nil_append]
        refine G_pop (pc := 37) rfl dX11_left_37 ?_
        refine G_iload_n (pc := 38) rfl dX11_left_38 ?_
        refine G_if_ne (pc := 39) (tgt := 52) (by decide) dX11_left_39 (fun c591 => ?_) (fun c591 => ?_)
        · refine G_aload_n (pc := 52) rfl dX11_left_52 ?_
          refine G_getR (pc := 53) (r := 19) (ci := 11) (j := 0) rfl lk_RX11_56 rfl rfl rfl dX11_left_53 ?_
          refine G_getI (pc := 56) (v := 0) (ci := 1) (j := 9) rfl rfl lk_RX11_165 rfl rfl dX11_left_56 ?_
          refine G_istore_n (pc := 59) (L1 := [some (.ref 0), some (.int 16), some (.int what), some (.int 0)]) rfl rfl (by decide) dX11_left_59 ?_
          refine G_aload_n (pc := 60) rfl dX11_left_60 ?_
          refine G_getR (pc := 61) (r := 19) (ci := 11) (j := 0) rfl lk_RX11_56 rfl rfl rfl dX11_left_61 ?_
          refine G_iconst (pc := 64) (v := 0) (by decide) dX11_left_64 ?_
          refine G_callV (pc := 65) (mc1 := 0) (ms1 := 0) (ci := 1) (mj := mX1_restore) (vs := [_]) dX11_left_65 rfl rfl cm_X1_restore wf_107 wf_109 wf_110 rfl (Nat.le_of_ble_eq_true rfl) (Nat.le_of_ble_eq_true rfl) (Nat.le_of_ble_eq_true rfl) (Nat.le_of_ble_eq_true rfl) (s430_X1_restore  (d + 1)  ) ?_
          rintro _ _ ⟨rfl, rfl⟩
          dsimp only [Option.toList, List.cons_append, List.nil_append]
          refine G_iload_n (pc := 68) rfl dX11_left_68 ?_
          exact G_iret (pc := 69) (Nat.le_of_ble_eq_true rfl) (Nat.le_of_ble_eq_true rfl) rfl dX11_left_69 ⟨_, by first | rfl | (simp [F_left, *]; done) | (have : 0 ≤ (what).toInt := Int32.le_iff_toInt_le.mp (c544.1); have : (what).toInt ≤ 1 := Int32.le_iff_toInt_le.mp (c544.2); have : (what).toInt ≠ 0 := g_ne (c591); simp only [F_left, Int32.le_iff_toInt_le, Int32.lt_iff_toInt_lt, ← Int32.toInt_inj]; simp; omega) | (have : 0 ≤ (what).toInt := Int32.le_iff_toInt_le.mp (c544.1); have : (what).toInt ≤ 1 := Int32.le_iff_toInt_le.mp (c544.2); have : (what).toInt ≠ 0 := g_ne (c591); simp only [F_left, Int32.le_iff_toInt_le, Int32.lt_iff_toInt_lt, ← Int32.toInt_inj]; split <;> first | rfl | (exfalso; simp at *; omega)) | (have : 0 ≤ (what).toInt := Int32.le_iff_toInt_le.mp (c544.1); have : (what).toInt ≤ 1 := Int32.le_iff_toInt_le.mp (c544.2); have : (what).toInt ≠ 0 := g_ne (c591); unfold F_left; (repeat' split) <;> first | rfl | (exfalso; (try simp only [Int32.le_iff_toInt_le, Int32.lt_iff_toInt_lt, ← Int32.toInt_inj] at *); first | omega | (simp at *; done) | (simp at *; omega))), rfl, fun a ha => by funext j; simp (disch := omega) only [gup_off, gcp_off]⟩
        · refine G_aload_n (pc := 42) rfl dX11_left_42 ?_
          refine G_getR (pc := 43) (r := 19) (ci := 11) (j := 0) rfl lk_RX11_56 rfl rfl rfl dX11_left_43 ?_
          refine G_callV (pc := 46) (mc1 := 0) (ms1 := 0) (ci := 1) (mj := mX1_allTeeth) (vs := []) dX11_left_46 rfl rfl cm_X1_allTeeth wf_23 wf_25 wf_26 rfl (Nat.le_of_ble_eq_true rfl) (Nat.le_of_ble_eq_true rfl) (Nat.le_of_ble_eq_true rfl) (Nat.le_of_ble_eq_true rfl) (s448_X1_allTeeth  (d + 2)  ) ?_
          rintro _ _ ⟨rfl, rfl⟩
          dsimp only [Option.toList, List.cons_append, List.nil_append]
          refine G_goto (pc := 49) (tgt := 59) (by decide) dX11_left_49 ?_
          refine G_istore_n (pc := 59) (L1 := [some (.ref 0), some (.int 16), some (.int what), some (.int 0)]) rfl rfl (by decide) dX11_left_59 ?_
          refine G_aload_n (pc := 60) rfl dX11_left_60 ?_
          refine G_getR (pc := 61) (r := 19) (ci := 11) (j := 0) rfl lk_RX11_56 rfl rfl rfl dX11_left_61 ?_
          refine G_iconst (pc := 64) (v := 0) (by decide) dX11_left_64 ?_
          refine G_callV (pc := 65) (mc1 := 0) (ms1 := 0) (ci := 1) (mj := mX1_restore) (vs := [_]) dX11_left_65 rfl rfl cm_X1_restore wf_107 wf_109 wf_110 rfl (Nat.le_of_ble_eq_true rfl) (Nat.le_of_ble_eq_true rfl) (Nat.le_of_ble_eq_true rfl) (Nat.le_of_ble_eq_true rfl) (s430_X1_restore  (d + 1)  ) ?_
          rintro _ _ ⟨rfl, rfl⟩
          dsimp only [Option.toList, List.cons_append, List.nil_append]
          refine G_iload_n (pc := 68) rfl dX11_left_68 ?_
          exact G_iret (pc := 69) (Nat.le_of_ble_eq_true rfl) (Nat.le_of_ble_eq_true rfl) rfl dX11_left_69 ⟨_, by first | rfl | (simp [F_left, *]; done) | (have : 0 ≤ (what).toInt := Int32.le_iff_toInt_le.mp (c544.1); have : (what).toInt ≤ 1 := Int32.le_iff_toInt_le.mp (c544.2); have : (what).toInt = 0 := congrArg Int32.toInt (c591); simp only [F_left, Int32.le_iff_toInt_le, Int32.lt_iff_toInt_lt, ← Int32.toInt_inj]; simp; omega) | (have : 0 ≤ (what).toInt := Int32.le_iff_toInt_le.mp (c544.1); have : (what).toInt ≤ 1 := Int32.le_iff_toInt_le.mp (c544.2); have : (what).toInt = 0 := congrArg Int32.toInt (c591); simp only [F_left, Int32.le_iff_toInt_le, Int32.lt_iff_toInt_lt, ← Int32.toInt_inj]; split <;> first | rfl | (exfalso; simp at *; omega)) | (have : 0 ≤ (what).toInt := Int32.le_iff_toInt_le.mp (c544.1); have : (what).toInt ≤ 1 := Int32.le_iff_toInt_le.mp (c544.2); have : (what).toInt = 0 := congrArg Int32.toInt (c591); unfold F_left; (repeat' split) <;> first | rfl | (exfalso; (try simp only [Int32.le_iff_toInt_le, Int32.lt_iff_toInt_lt, ← Int32.toInt_inj] at *); first | omega | (simp at *; done) | (simp at *; omega))), rfl, fun a ha => by funext j; simp (disch := omega) only [gup_off, gcp_off]⟩
      exfalso
      have : 0 ≤ (n).toInt := Int32.le_iff_toInt_le.mp (c543.1)
      have : (n).toInt ≤ 16 := Int32.le_iff_toInt_le.mp (c543.2)
      have : (n).toInt ≠ 0 := g_ne (c558)
      have : (n).toInt ≠ 1 := g_ne (c560)
      have : (n).toInt ≠ 2 := g_ne (c562)
      have : (n).toInt ≠ 3 := g_ne (c564)
      have : (n).toInt ≠ 4 := g_ne (c566)
      have : (n).toInt ≠ 5 := g_ne (c568)
      have : (n).toInt ≠ 6 := g_ne (c570)
      have : (n).toInt ≠ 7 := g_ne (c572)
      have : (n).toInt ≠ 8 := g_ne (c574)
      have : (n).toInt ≠ 9 := g_ne (c576)
      have : (n).toInt ≠ 10 := g_ne (c578)
      have : (n).toInt ≠ 11 := g_ne (c580)
      have : (n).toInt ≠ 12 := g_ne (c582)
      have : (n).toInt ≠ 13 := g_ne (c584)
      have : (n).toInt ≠ 14 := g_ne (c586)
      have : (n).toInt ≠ 15 := g_ne (c588)
      have : (n).toInt ≠ 16 := g_ne (c590)
      omega
    · have c544 := gB_z c544
      refine G_iconst (pc := 19) (v := (-1)) (by decide) dX11_left_19 ?_
      exact G_iret (pc := 20) (Nat.le_of_ble_eq_true rfl) (Nat.le_of_ble_eq_true rfl) rfl dX11_left_20 ⟨_, by first | rfl | (simp [F_left, *]; done) | (have : 0 ≤ (n).toInt := Int32.le_iff_toInt_le.mp (c543.1); have : (n).toInt ≤ 16 := Int32.le_iff_toInt_le.mp (c543.2); have : ¬ (0 ≤ (what).toInt ∧ (what).toInt ≤ 1) := fun z => c544 ⟨Int32.le_iff_toInt_le.mpr z.1, Int32.le_iff_toInt_le.mpr z.2⟩; simp only [F_left, Int32.le_iff_toInt_le, Int32.lt_iff_toInt_lt, ← Int32.toInt_inj]; simp; omega) | (have : 0 ≤ (n).toInt := Int32.le_iff_toInt_le.mp (c543.1); have : (n).toInt ≤ 16 := Int32.le_iff_toInt_le.mp (c543.2); have : ¬ (0 ≤ (what).toInt ∧ (what).toInt ≤ 1) := fun z => c544 ⟨Int32.le_iff_toInt_le.mpr z.1, Int32.le_iff_toInt_le.mpr z.2⟩; simp only [F_left, Int32.le_iff_toInt_le, Int32.lt_iff_toInt_lt, ← Int32.toInt_inj]; split <;> first | rfl | (exfalso; simp at *; omega)) | (have : 0 ≤ (n).toInt := Int32.le_iff_toInt_le.mp (c543.1); have : (n).toInt ≤ 16 := Int32.le_iff_toInt_le.mp (c543.2); have : ¬ (0 ≤ (what).toInt ∧ (what).toInt ≤ 1) := fun z => c544 ⟨Int32.le_iff_toInt_le.mpr z.1, Int32.le_iff_toInt_le.mpr z.2⟩; unfold F_left; (repeat' split) <;> first | rfl | (exfalso; (try simp only [Int32.le_iff_toInt_le, Int32.lt_iff_toInt_lt, ← Int32.toInt_inj] at *); first | omega | (simp at *; done) | (simp at *; omega))), rfl, fun _ _ => rfl⟩
def F_report (k : Int32) (asked : Int32) (least : Int32) (most : Int32) : Int32 := if (0 ≤ k ∧ k ≤ 15) ∧ (0 ≤ asked ∧ asked ≤ 1) ∧ (0 ≤ least ∧ least ≤ (if asked = 0 then 99 else 9)) ∧ (least ≤ most ∧ most ≤ (if asked = 0 then 99 else 9)) then 0 else -1
set_option maxRecDepth 100000 in
set_option maxHeartbeats 4000000 in
theorem x_report (d : Nat) (k : Int32) (asked : Int32) (least : Int32) (most : Int32) : G (d + 1) mX11_report 0 0 0 0 0 (gent 8 [.ref 0, .int k, .int asked, .int least, .int most]) [] SH0 RF0 I0 (fun r h => ∃ I1, r = some (.int (F_report k asked least most)) ∧ h = (SH0, RF0, I1) ∧ ∀ a, 67 ≤ a → I1 a = I0 a) := by
  refine G_iload_n (pc := 0) rfl dX11_report_0 ?_
  refine G_if_ne (pc := 1) (tgt := 9) (by decide) dX11_report_1 (fun c592 => ?_) (fun c592 => ?_)
  · refine G_bipush (pc := 9) (v := 9) (by decide) dX11_report_9 ?_
    refine G_istore (pc := 11) (L1 := [some (.ref 0), some (.int k), some (.int asked), some (.int least), some (.int most), some (.int 9), none, none]) rfl rfl (by decide) dX11_report_11 ?_
    refine G_iload_n (pc := 13) rfl dX11_report_13 ?_
    refine G_iconst (pc := 14) (v := 0) (by decide) dX11_report_14 ?_
    refine G_bipush (pc := 15) (v := 15) (by decide) dX11_report_15 ?_
    refine G_callS (pc := 17) (mc1 := 0) (ms1 := 0) (mj := mX11_isIn) (vs := [_, _, _]) dX11_report_17 cm_X11_isIn wf_4 wf_6 rfl (Nat.le_of_ble_eq_true rfl) (Nat.le_of_ble_eq_true rfl) (Nat.le_of_ble_eq_true rfl) (Nat.le_of_ble_eq_true rfl) (isIn_s d k 0 15) ?_
    rintro _ _ ⟨rfl, rfl⟩
    dsimp only [Option.toList, List.cons_append, List.nil_append]
    refine G_if_eq (pc := 20) (tgt := 53) (by decide) dX11_report_20 (fun c593 => ?_) (fun c593 => ?_)
    · have c593 := gB_z c593
      refine G_iconst (pc := 53) (v := (-1)) (by decide) dX11_report_53 ?_
      exact G_iret (pc := 54) (Nat.le_of_ble_eq_true rfl) (Nat.le_of_ble_eq_true rfl) rfl dX11_report_54 ⟨_, by first | rfl | (simp [F_report, *]; done) | (have : ¬ (0 ≤ (k).toInt ∧ (k).toInt ≤ 15) := fun z => c593 ⟨Int32.le_iff_toInt_le.mpr z.1, Int32.le_iff_toInt_le.mpr z.2⟩; have : (asked).toInt ≠ 0 := g_ne (c592); simp only [F_report, Int32.le_iff_toInt_le, Int32.lt_iff_toInt_lt, ← Int32.toInt_inj]; simp; omega) | (have : ¬ (0 ≤ (k).toInt ∧ (k).toInt ≤ 15) := fun z => c593 ⟨Int32.le_iff_toInt_le.mpr z.1, Int32.le_iff_toInt_le.mpr z.2⟩; have : (asked).toInt ≠ 0 := g_ne (c592); simp only [F_report, Int32.le_iff_toInt_le, Int32.lt_iff_toInt_lt, ← Int32.toInt_inj]; split <;> first | rfl | (exfalso; simp at *; omega)) | (have : ¬ (0 ≤ (k).toInt ∧ (k).toInt ≤ 15) := fun z => c593 ⟨Int32.le_iff_toInt_le.mpr z.1, Int32.le_iff_toInt_le.mpr z.2⟩; have : (asked).toInt ≠ 0 := g_ne (c592); unfold F_report; (repeat' split) <;> first | rfl | (exfalso; (try simp only [Int32.le_iff_toInt_le, Int32.lt_iff_toInt_lt, ← Int32.toInt_inj] at *); first | omega | (simp at *; done) | (simp at *; omega))), rfl, fun _ _ => rfl⟩
    · have c593 := gB_o c593
      refine G_iload_n (pc := 23) rfl dX11_report_23 ?_
      refine G_iconst (pc := 24) (v := 0) (by decide) dX11_report_24 ?_
      refine G_iconst (pc := 25) (v := 1) (by decide) dX11_report_25 ?_
      refine G_callS (pc := 26) (mc1 := 0) (ms1 := 0) (mj := mX11_isIn) (vs := [_, _, _]) dX11_report_26 cm_X11_isIn wf_4 wf_6 rfl (Nat.le_of_ble_eq_true rfl) (Nat.le_of_ble_eq_true rfl) (Nat.le_of_ble_eq_true rfl) (Nat.le_of_ble_eq_true rfl) (isIn_s d asked 0 1) ?_
      rintro _ _ ⟨rfl, rfl⟩
      dsimp only [Option.toList, List.cons_append, List.nil_append]
      refine G_if_eq (pc := 29) (tgt := 53) (by decide) dX11_report_29 (fun c594 => ?_) (fun c594 => ?_)
      · have c594 := gB_z c594
        refine G_iconst (pc := 53) (v := (-1)) (by decide) dX11_report_53 ?_
        exact G_iret (pc := 54) (Nat.le_of_ble_eq_true rfl) (Nat.le_of_ble_eq_true rfl) rfl dX11_report_54 ⟨_, by first | rfl | (simp [F_report, *]; done) | (have : 0 ≤ (k).toInt := Int32.le_iff_toInt_le.mp (c593.1); have : (k).toInt ≤ 15 := Int32.le_iff_toInt_le.mp (c593.2); have : (asked).toInt ≠ 0 := g_ne (c592); have : ¬ (0 ≤ (asked).toInt ∧ (asked).toInt ≤ 1) := fun z => c594 ⟨Int32.le_iff_toInt_le.mpr z.1, Int32.le_iff_toInt_le.mpr z.2⟩; simp only [F_report, Int32.le_iff_toInt_le, Int32.lt_iff_toInt_lt, ← Int32.toInt_inj]; simp; omega) | (have : 0 ≤ (k).toInt := Int32.le_iff_toInt_le.mp (c593.1); have : (k).toInt ≤ 15 := Int32.le_iff_toInt_le.mp (c593.2); have : (asked).toInt ≠ 0 := g_ne (c592); have : ¬ (0 ≤ (asked).toInt ∧ (asked).toInt ≤ 1) := fun z => c594 ⟨Int32.le_iff_toInt_le.mpr z.1, Int32.le_iff_toInt_le.mpr z.2⟩; simp only [F_report, Int32.le_iff_toInt_le, Int32.lt_iff_toInt_lt, ← Int32.toInt_inj]; split <;> first | rfl | (exfalso; simp at *; omega)) | (have : 0 ≤ (k).toInt := Int32.le_iff_toInt_le.mp (c593.1); have : (k).toInt ≤ 15 := Int32.le_iff_toInt_le.mp (c593.2); have : (asked).toInt ≠ 0 := g_ne (c592); have : ¬ (0 ≤ (asked).toInt ∧ (asked).toInt ≤ 1) := fun z => c594 ⟨Int32.le_iff_toInt_le.mpr z.1, Int32.le_iff_toInt_le.mpr z.2⟩; unfold F_report; (repeat' split) <;> first | rfl | (exfalso; (try simp only [Int32.le_iff_toInt_le, Int32.lt_iff_toInt_lt, ← Int32.toInt_inj] at *); first | omega | (simp at *; done) | (simp at *; omega))), rfl, fun _ _ => rfl⟩
      · have c594 := gB_o c594
        refine G_iload_n (pc := 32) rfl dX11_report_32 ?_
        refine G_iconst (pc := 33) (v := 0) (by decide) dX11_report_33 ?_
        refine G_iload (pc := 34) rfl dX11_report_34 ?_
        refine G_callS (pc := 36) (mc1 := 0) (ms1 := 0) (mj := mX11_isIn) (vs := [_, _, _]) dX11_report_36 cm_X11_isIn wf_4 wf_6 rfl (Nat.le_of_ble_eq_true rfl) (Nat.le_of_ble_eq_true rfl) (Nat.le_of_ble_eq_true rfl) (Nat.le_of_ble_eq_true rfl) (isIn_s d least 0 9) ?_
        rintro _ _ ⟨rfl, rfl⟩
        dsimp only [Option.toList, List.cons_append, List.nil_append]
        refine G_if_eq (pc := 39) (tgt := 53) (by decide) dX11_report_39 (fun c595 => ?_) (fun c595 => ?_)
        · have c595 := gB_z c595
          refine G_iconst (pc := 53) (v := (-1)) (by decide) dX11_report_53 ?_
          exact G_iret (pc := 54) (Nat.le_of_ble_eq_true rfl) (Nat.le_of_ble_eq_true rfl) rfl dX11_report_54 ⟨_, by first | rfl | (simp [F_report, *]; done) | (have : 0 ≤ (k).toInt := Int32.le_iff_toInt_le.mp (c593.1); have : (k).toInt ≤ 15 := Int32.le_iff_toInt_le.mp (c593.2); have : (asked).toInt ≠ 0 := g_ne (c592); have : 0 ≤ (asked).toInt := Int32.le_iff_toInt_le.mp (c594.1); have : (asked).toInt ≤ 1 := Int32.le_iff_toInt_le.mp (c594.2); have : ¬ (0 ≤ (least).toInt ∧ (least).toInt ≤ 9) := fun z => c595 ⟨Int32.le_iff_toInt_le.mpr z.1, Int32.le_iff_toInt_le.mpr z.2⟩; simp only [F_report, Int32.le_iff_toInt_le, Int32.lt_iff_toInt_lt, ← Int32.toInt_inj]; simp; omega) | (have : 0 ≤ (k).toInt := Int32.le_iff_toInt_le.mp (c593.1); have : (k).toInt ≤ 15 := Int32.le_iff_toInt_le.mp (c593.2); have : (asked).toInt ≠ 0 := g_ne (c592); have : 0 ≤ (asked).toInt := Int32.le_iff_toInt_le.mp (c594.1); have : (asked).toInt ≤ 1 := Int32.le_iff_toInt_le.mp (c594.2); have : ¬ (0 ≤ (least).toInt ∧ (least).toInt ≤ 9) := fun z => c595 ⟨Int32.le_iff_toInt_le.mpr z.1, Int32.le_iff_toInt_le.mpr z.2⟩; simp only [F_report, Int32.le_iff_toInt_le, Int32.lt_iff_toInt_lt, ← Int32.toInt_inj]; split <;> first | rfl | (exfalso; simp at *; omega)) | (have : 0 ≤ (k).toInt := Int32.le_iff_toInt_le.mp (c593.1); have : (k).toInt ≤ 15 := Int32.le_iff_toInt_le.mp (c593.2); have : (asked).toInt ≠ 0 := g_ne (c592); have : 0 ≤ (asked).toInt := Int32.le_iff_toInt_le.mp (c594.1); have : (asked).toInt ≤ 1 := Int32.le_iff_toInt_le.mp (c594.2); have : ¬ (0 ≤ (least).toInt ∧ (least).toInt ≤ 9) := fun z => c595 ⟨Int32.le_iff_toInt_le.mpr z.1, Int32.le_iff_toInt_le.mpr z.2⟩; unfold F_report; (repeat' split) <;> first | rfl | (exfalso; (try simp only [Int32.le_iff_toInt_le, Int32.lt_iff_toInt_lt, ← Int32.toInt_inj] at *); first | omega | (simp at *; done) | (simp at *; omega))), rfl, fun _ _ => rfl⟩
        · have c595 := gB_o c595
          refine G_iload (pc := 42) rfl dX11_report_42 ?_
          refine G_iload_n (pc := 44) rfl dX11_report_44 ?_
          refine G_iload (pc := 45) rfl dX11_report_45 ?_
          refine G_callS (pc := 47) (mc1 := 0) (ms1 := 0) (mj := mX11_isIn) (vs := [_, _, _]) dX11_report_47 cm_X11_isIn wf_4 wf_6 rfl (Nat.le_of_ble_eq_true rfl) (Nat.le_of_ble_eq_true rfl) (Nat.le_of_ble_eq_true rfl) (Nat.le_of_ble_eq_true rfl) (isIn_s d most least 9) ?_
          rintro _ _ ⟨rfl, rfl⟩
          dsimp only [Option.toList, List.cons_append, List.nil_append]
          refine G_if_ne (pc := 50) (tgt := 55) (by decide) dX11_report_50 (fun c596 => ?_) (fun c596 => ?_)
          · have c596 := gB_o c596
            refine G_aload_n (pc := 55) rfl dX11_report_55 ?_
            refine G_getR (pc := 56) (r := 19) (ci := 11) (j := 0) rfl lk_RX11_56 rfl rfl rfl dX11_report_56 ?_
            refine G_getI (pc := 59) (v := 0) (ci := 1) (j := 16) rfl rfl lk_RX11_270 rfl rfl dX11_report_59 ?_
            refine G_bipush (pc := 62) (v := 6) (by decide) dX11_report_62 ?_
            refine G_icmp_lt (pc := 64) (tgt := 70) (by decide) dX11_report_64 (fun _ => ?_) (fun z => absurd (by decide) z)
            refine G_aload_n (pc := 70) rfl dX11_report_70 ?_
            refine G_getR (pc := 71) (r := 19) (ci := 11) (j := 0) rfl lk_RX11_56 rfl rfl rfl dX11_report_71 ?_
            refine G_getI (pc := 74) (v := 0) (ci := 1) (j := 16) rfl rfl lk_RX11_270 rfl rfl dX11_report_74 ?_
            refine G_istore (pc := 77) (L1 := [some (.ref 0), some (.int k), some (.int asked), some (.int least), some (.int most), some (.int 9), some (.int 0), none]) rfl rfl (by decide) dX11_report_77 ?_
            refine G_iload (pc := 79) rfl dX11_report_79 ?_
            refine G_iconst (pc := 81) (v := 4) (by decide) dX11_report_81 ?_
            refine G_imul (pc := 82) (z := 0) (by decide) dX11_report_82 ?_
            refine G_istore (pc := 83) (L1 := [some (.ref 0), some (.int k), some (.int asked), some (.int least), some (.int most), some (.int 9), some (.int 0), some (.int 0)]) rfl rfl (by decide) dX11_report_83 ?_
            refine G_aload_n (pc := 85) rfl dX11_report_85 ?_
            refine G_getR (pc := 86) (r := 19) (ci := 11) (j := 0) rfl lk_RX11_56 rfl rfl rfl dX11_report_86 ?_
            refine G_getR (pc := 89) (r := 32) (ci := 1) (j := 15) rfl lk_RX11_273 rfl rfl rfl dX11_report_89 ?_
            refine G_iload (pc := 92) rfl dX11_report_92 ?_
            refine G_iload_n (pc := 94) rfl dX11_report_94 ?_
            refine G_iast (pc := 95) (jj := 0) (by decide) rfl (by unfold vp_in; decide) dX11_report_95 ?_
            refine G_aload_n (pc := 96) rfl dX11_report_96 ?_
            refine G_getR (pc := 97) (r := 19) (ci := 11) (j := 0) rfl lk_RX11_56 rfl rfl rfl dX11_report_97 ?_
            refine G_getR (pc := 100) (r := 32) (ci := 1) (j := 15) rfl lk_RX11_273 rfl rfl rfl dX11_report_100 ?_
            refine G_iload (pc := 103) rfl dX11_report_103 ?_
            refine G_iconst (pc := 105) (v := 1) (by decide) dX11_report_105 ?_
            refine G_iadd (pc := 106) (z := 1) (by decide) dX11_report_106 ?_
            refine G_iload_n (pc := 107) rfl dX11_report_107 ?_
            refine G_iast (pc := 108) (jj := 1) (by decide) rfl (by unfold vp_in; decide) dX11_report_108 ?_
            refine G_aload_n (pc := 109) rfl dX11_report_109 ?_
            refine G_getR (pc := 110) (r := 19) (ci := 11) (j := 0) rfl lk_RX11_56 rfl rfl rfl dX11_report_110 ?_
            refine G_getR (pc := 113) (r := 32) (ci := 1) (j := 15) rfl lk_RX11_273 rfl rfl rfl dX11_report_113 ?_
            refine G_iload (pc := 116) rfl dX11_report_116 ?_
            refine G_iconst (pc := 118) (v := 2) (by decide) dX11_report_118 ?_
            refine G_iadd (pc := 119) (z := 2) (by decide) dX11_report_119 ?_
            refine G_iload_n (pc := 120) rfl dX11_report_120 ?_
            refine G_iast (pc := 121) (jj := 2) (by decide) rfl (by unfold vp_in; decide) dX11_report_121 ?_
            refine G_aload_n (pc := 122) rfl dX11_report_122 ?_
            refine G_getR (pc := 123) (r := 19) (ci := 11) (j := 0) rfl lk_RX11_56 rfl rfl rfl dX11_report_123 ?_
            refine G_getR (pc := 126) (r := 32) (ci := 1) (j := 15) rfl lk_RX11_273 rfl rfl rfl dX11_report_126 ?_
            refine G_iload (pc := 129) rfl dX11_report_129 ?_
            refine G_iconst (pc := 131) (v := 3) (by decide) dX11_report_131 ?_
            refine G_iadd (pc := 132) (z := 3) (by decide) dX11_report_132 ?_
            refine G_iload (pc := 133) rfl dX11_report_133 ?_
            refine G_iast (pc := 135) (jj := 3) (by decide) rfl (by unfold vp_in; decide) dX11_report_135 ?_
            refine G_aload_n (pc := 136) rfl dX11_report_136 ?_
            refine G_getR (pc := 137) (r := 19) (ci := 11) (j := 0) rfl lk_RX11_56 rfl rfl rfl dX11_report_137 ?_
            refine G_iload (pc := 140) rfl dX11_report_140 ?_
            refine G_iconst (pc := 142) (v := 1) (by decide) dX11_report_142 ?_
            refine G_iadd (pc := 143) (z := 1) (by decide) dX11_report_143 ?_
            refine G_putI (pc := 144) (ci := 1) (j := 16) rfl lk_RX11_270 rfl rfl rfl trivial dX11_report_144 ?_
            refine G_iload (pc := 147) rfl dX11_report_147 ?_
            exact G_iret (pc := 149) (Nat.le_of_ble_eq_true rfl) (Nat.le_of_ble_eq_true rfl) rfl dX11_report_149 ⟨_, by first | rfl | (simp [F_report, *]; done) | (have : 0 ≤ (k).toInt := Int32.le_iff_toInt_le.mp (c593.1); have : (k).toInt ≤ 15 := Int32.le_iff_toInt_le.mp (c593.2); have : (asked).toInt ≠ 0 := g_ne (c592); have : 0 ≤ (asked).toInt := Int32.le_iff_toInt_le.mp (c594.1); have : (asked).toInt ≤ 1 := Int32.le_iff_toInt_le.mp (c594.2); have : 0 ≤ (least).toInt := Int32.le_iff_toInt_le.mp (c595.1); have : (least).toInt ≤ 9 := Int32.le_iff_toInt_le.mp (c595.2); simp only [F_report, Int32.le_iff_toInt_le, Int32.lt_iff_toInt_lt, ← Int32.toInt_inj]; simp; omega) | (have : 0 ≤ (k).toInt := Int32.le_iff_toInt_le.mp (c593.1); have : (k).toInt ≤ 15 := Int32.le_iff_toInt_le.mp (c593.2); have : (asked).toInt ≠ 0 := g_ne (c592); have : 0 ≤ (asked).toInt := Int32.le_iff_toInt_le.mp (c594.1); have : (asked).toInt ≤ 1 := Int32.le_iff_toInt_le.mp (c594.2); have : 0 ≤ (least).toInt := Int32.le_iff_toInt_le.mp (c595.1); have : (least).toInt ≤ 9 := Int32.le_iff_toInt_le.mp (c595.2); simp only [F_report, Int32.le_iff_toInt_le, Int32.lt_iff_toInt_lt, ← Int32.toInt_inj]; split <;> first | rfl | (exfalso; simp at *; omega)) | (have : 0 ≤ (k).toInt := Int32.le_iff_toInt_le.mp (c593.1); have : (k).toInt ≤ 15 := Int32.le_iff_toInt_le.mp (c593.2); have : (asked).toInt ≠ 0 := g_ne (c592); have : 0 ≤ (asked).toInt := Int32.le_iff_toInt_le.mp (c594.1); have : (asked).toInt ≤ 1 := Int32.le_iff_toInt_le.mp (c594.2); have : 0 ≤ (least).toInt := Int32.le_iff_toInt_le.mp (c595.1); have : (least).toInt ≤ 9 := Int32.le_iff_toInt_le.mp (c595.2); unfold F_report; (repeat' split) <;> first | rfl | (exfalso; (try simp only [Int32.le_iff_toInt_le, Int32.lt_iff_toInt_lt, ← Int32.toInt_inj] at *); first | omega | (simp at *; done) | (simp at *; omega))), rfl, fun a ha => by funext j; simp (disch := omega) only [gup_off, gcp_off]⟩
          · have c596 := gB_z c596
            refine G_iconst (pc := 53) (v := (-1)) (by decide) dX11_report_53 ?_
            exact G_iret (pc := 54) (Nat.le_of_ble_eq_true rfl) (Nat.le_of_ble_eq_true rfl) rfl dX11_report_54 ⟨_, by first | rfl | (simp [F_report, *]; done) | (have : 0 ≤ (k).toInt := Int32.le_iff_toInt_le.mp (c593.1); have : (k).toInt ≤ 15 := Int32.le_iff_toInt_le.mp (c593.2); have : (asked).toInt ≠ 0 := g_ne (c592); have : 0 ≤ (asked).toInt := Int32.le_iff_toInt_le.mp (c594.1); have : (asked).toInt ≤ 1 := Int32.le_iff_toInt_le.mp (c594.2); have : 0 ≤ (least).toInt := Int32.le_iff_toInt_le.mp (c595.1); have : (least).toInt ≤ 9 := Int32.le_iff_toInt_le.mp (c595.2); simp only [F_report, Int32.le_iff_toInt_le, Int32.lt_iff_toInt_lt, ← Int32.toInt_inj]; simp; omega) | (have : 0 ≤ (k).toInt := Int32.le_iff_toInt_le.mp (c593.1); have : (k).toInt ≤ 15 := Int32.le_iff_toInt_le.mp (c593.2); have : (asked).toInt ≠ 0 := g_ne (c592); have : 0 ≤ (asked).toInt := Int32.le_iff_toInt_le.mp (c594.1); have : (asked).toInt ≤ 1 := Int32.le_iff_toInt_le.mp (c594.2); have : 0 ≤ (least).toInt := Int32.le_iff_toInt_le.mp (c595.1); have : (least).toInt ≤ 9 := Int32.le_iff_toInt_le.mp (c595.2); simp only [F_report, Int32.le_iff_toInt_le, Int32.lt_iff_toInt_lt, ← Int32.toInt_inj]; split <;> first | rfl | (exfalso; simp at *; omega)) | (have : 0 ≤ (k).toInt := Int32.le_iff_toInt_le.mp (c593.1); have : (k).toInt ≤ 15 := Int32.le_iff_toInt_le.mp (c593.2); have : (asked).toInt ≠ 0 := g_ne (c592); have : 0 ≤ (asked).toInt := Int32.le_iff_toInt_le.mp (c594.1); have : (asked).toInt ≤ 1 := Int32.le_iff_toInt_le.mp (c594.2); have : 0 ≤ (least).toInt := Int32.le_iff_toInt_le.mp (c595.1); have : (least).toInt ≤ 9 := Int32.le_iff_toInt_le.mp (c595.2); unfold F_report; (repeat' split) <;> first | rfl | (exfalso; (try simp only [Int32.le_iff_toInt_le, Int32.lt_iff_toInt_lt, ← Int32.toInt_inj] at *); first | omega | (simp at *; done) | (simp at *; omega))), rfl, fun _ _ => rfl⟩
  · refine G_bipush (pc := 4) (v := 99) (by decide) dX11_report_4 ?_
    refine G_goto (pc := 6) (tgt := 11) (by decide) dX11_report_6 ?_
    refine G_istore (pc := 11) (L1 := [some (.ref 0), some (.int k), some (.int asked), some (.int least), some (.int most), some (.int 99), none, none]) rfl rfl (by decide) dX11_report_11 ?_
    refine G_iload_n (pc := 13) rfl dX11_report_13 ?_
    refine G_iconst (pc := 14) (v := 0) (by decide) dX11_report_14 ?_
    refine G_bipush (pc := 15) (v := 15) (by decide) dX11_report_15 ?_
    refine G_callS (pc := 17) (mc1 := 0) (ms1 := 0) (mj := mX11_isIn) (vs := [_, _, _]) dX11_report_17 cm_X11_isIn wf_4 wf_6 rfl (Nat.le_of_ble_eq_true rfl) (Nat.le_of_ble_eq_true rfl) (Nat.le_of_ble_eq_true rfl) (Nat.le_of_ble_eq_true rfl) (isIn_s d k 0 15) ?_
    rintro _ _ ⟨rfl, rfl⟩
    dsimp only [Option.toList, List.cons_append, List.nil_append]
    refine G_if_eq (pc := 20) (tgt := 53) (by decide) dX11_report_20 (fun c597 => ?_) (fun c597 => ?_)
    · have c597 := gB_z c597
      refine G_iconst (pc := 53) (v := (-1)) (by decide) dX11_report_53 ?_
      exact G_iret (pc := 54) (Nat.le_of_ble_eq_true rfl) (Nat.le_of_ble_eq_true rfl) rfl dX11_report_54 ⟨_, by first | rfl | (simp [F_report, *]; done) | (have : ¬ (0 ≤ (k).toInt ∧ (k).toInt ≤ 15) := fun z => c597 ⟨Int32.le_iff_toInt_le.mpr z.1, Int32.le_iff_toInt_le.mpr z.2⟩; have : (asked).toInt = 0 := congrArg Int32.toInt (c592); simp only [F_report, Int32.le_iff_toInt_le, Int32.lt_iff_toInt_lt, ← Int32.toInt_inj]; simp; omega) | (have : ¬ (0 ≤ (k).toInt ∧ (k).toInt ≤ 15) := fun z => c597 ⟨Int32.le_iff_toInt_le.mpr z.1, Int32.le_iff_toInt_le.mpr z.2⟩; have : (asked).toInt = 0 := congrArg Int32.toInt (c592); simp only [F_report, Int32.le_iff_toInt_le, Int32.lt_iff_toInt_lt, ← Int32.toInt_inj]; split <;> first | rfl | (exfalso; simp at *; omega)) | (have : ¬ (0 ≤ (k).toInt ∧ (k).toInt ≤ 15) := fun z => c597 ⟨Int32.le_iff_toInt_le.mpr z.1, Int32.le_iff_toInt_le.mpr z.2⟩; have : (asked).toInt = 0 := congrArg Int32.toInt (c592); unfold F_report; (repeat' split) <;> first | rfl | (exfalso; (try simp only [Int32.le_iff_toInt_le, Int32.lt_iff_toInt_lt, ← Int32.toInt_inj] at *); first | omega | (simp at *; done) | (simp at *; omega))), rfl, fun _ _ => rfl⟩
    · have c597 := gB_o c597
      refine G_iload_n (pc := 23) rfl dX11_report_23 ?_
      refine G_iconst (pc := 24) (v := 0) (by decide) dX11_report_24 ?_
      refine G_iconst (pc := 25) (v := 1) (by decide) dX11_report_25 ?_
      refine G_callS (pc := 26) (mc1 := 0) (ms1 := 0) (mj := mX11_isIn) (vs := [_, _, _]) dX11_report_26 cm_X11_isIn wf_4 wf_6 rfl (Nat.le_of_ble_eq_true rfl) (Nat.le_of_ble_eq_true rfl) (Nat.le_of_ble_eq_true rfl) (Nat.le_of_ble_eq_true rfl) (isIn_s d asked 0 1) ?_
      rintro _ _ ⟨rfl, rfl⟩
      dsimp only [Option.toList, List.cons_append, List.nil_append]
      refine G_if_eq (pc := 29) (tgt := 53) (by decide) dX11_report_29 (fun c598 => ?_) (fun c598 => ?_)
      · have c598 := gB_z c598
        exfalso; have : (asked).toInt = 0 := congrArg Int32.toInt (c592); exact c598 ⟨Int32.le_iff_toInt_le.mpr (by show (0 : Int) ≤ _; omega), Int32.le_iff_toInt_le.mpr (by show _ ≤ (1 : Int); omega)⟩
      · have c598 := gB_o c598
        refine G_iload_n (pc := 32) rfl dX11_report_32 ?_
        refine G_iconst (pc := 33) (v := 0) (by decide) dX11_report_33 ?_
        refine G_iload (pc := 34) rfl dX11_report_34 ?_
        refine G_callS (pc := 36) (mc1 := 0) (ms1 := 0) (mj := mX11_isIn) (vs := [_, _, _]) dX11_report_36 cm_X11_isIn wf_4 wf_6 rfl (Nat.le_of_ble_eq_true rfl) (Nat.le_of_ble_eq_true rfl) (Nat.le_of_ble_eq_true rfl) (Nat.le_of_ble_eq_true rfl) (isIn_s d least 0 99) ?_
        rintro _ _ ⟨rfl, rfl⟩
        dsimp only [Option.toList, List.cons_append, List.nil_append]
        refine G_if_eq (pc := 39) (tgt := 53) (by decide) dX11_report_39 (fun c599 => ?_) (fun c599 => ?_)
        · have c599 := gB_z c599
          refine G_iconst (pc := 53) (v := (-1)) (by decide) dX11_report_53 ?_
          exact G_iret (pc := 54) (Nat.le_of_ble_eq_true rfl) (Nat.le_of_ble_eq_true rfl) rfl dX11_report_54 ⟨_, by first | rfl | (simp [F_report, *]; done) | (have : 0 ≤ (k).toInt := Int32.le_iff_toInt_le.mp (c597.1); have : (k).toInt ≤ 15 := Int32.le_iff_toInt_le.mp (c597.2); have : (asked).toInt = 0 := congrArg Int32.toInt (c592); have : 0 ≤ (asked).toInt := Int32.le_iff_toInt_le.mp (c598.1); have : (asked).toInt ≤ 1 := Int32.le_iff_toInt_le.mp (c598.2); have : ¬ (0 ≤ (least).toInt ∧ (least).toInt ≤ 99) := fun z => c599 ⟨Int32.le_iff_toInt_le.mpr z.1, Int32.le_iff_toInt_le.mpr z.2⟩; simp only [F_report, Int32.le_iff_toInt_le, Int32.lt_iff_toInt_lt, ← Int32.toInt_inj]; simp; omega) | (have : 0 ≤ (k).toInt := Int32.le_iff_toInt_le.mp (c597.1); have : (k).toInt ≤ 15 := Int32.le_iff_toInt_le.mp (c597.2); have : (asked).toInt = 0 := congrArg Int32.toInt (c592); have : 0 ≤ (asked).toInt := Int32.le_iff_toInt_le.mp (c598.1); have : (asked).toInt ≤ 1 := Int32.le_iff_toInt_le.mp (c598.2); have : ¬ (0 ≤ (least).toInt ∧ (least).toInt ≤ 99) := fun z => c599 ⟨Int32.le_iff_toInt_le.mpr z.1, Int32.le_iff_toInt_le.mpr z.2⟩; simp only [F_report, Int32.le_iff_toInt_le, Int32.lt_iff_toInt_lt, ← Int32.toInt_inj]; split <;> first | rfl | (exfalso; simp at *; omega)) | (have : 0 ≤ (k).toInt := Int32.le_iff_toInt_le.mp (c597.1); have : (k).toInt ≤ 15 := Int32.le_iff_toInt_le.mp (c597.2); have : (asked).toInt = 0 := congrArg Int32.toInt (c592); have : 0 ≤ (asked).toInt := Int32.le_iff_toInt_le.mp (c598.1); have : (asked).toInt ≤ 1 := Int32.le_iff_toInt_le.mp (c598.2); have : ¬ (0 ≤ (least).toInt ∧ (least).toInt ≤ 99) := fun z => c599 ⟨Int32.le_iff_toInt_le.mpr z.1, Int32.le_iff_toInt_le.mpr z.2⟩; unfold F_report; (repeat' split) <;> first | rfl | (exfalso; (try simp only [Int32.le_iff_toInt_le, Int32.lt_iff_toInt_lt, ← Int32.toInt_inj] at *); first | omega | (simp at *; done) | (simp at *; omega))), rfl, fun _ _ => rfl⟩
        · have c599 := gB_o c599
          refine G_iload (pc := 42) rfl dX11_report_42 ?_
          refine G_iload_n (pc := 44) rfl dX11_report_44 ?_
          refine G_iload (pc := 45) rfl dX11_report_45 ?_
          refine G_callS (pc := 47) (mc1 := 0) (ms1 := 0) (mj := mX11_isIn) (vs := [_, _, _]) dX11_report_47 cm_X11_isIn wf_4 wf_6 rfl (Nat.le_of_ble_eq_true rfl) (Nat.le_of_ble_eq_true rfl) (Nat.le_of_ble_eq_true rfl) (Nat.le_of_ble_eq_true rfl) (isIn_s d most least 99) ?_
          rintro _ _ ⟨rfl, rfl⟩
          dsimp only [Option.toList, List.cons_append, List.nil_append]
          refine G_if_ne (pc := 50) (tgt := 55) (by decide) dX11_report_50 (fun c600 => ?_) (fun c600 => ?_)
          · have c600 := gB_o c600
            refine G_aload_n (pc := 55) rfl dX11_report_55 ?_
            refine G_getR (pc := 56) (r := 19) (ci := 11) (j := 0) rfl lk_RX11_56 rfl rfl rfl dX11_report_56 ?_
            refine G_getI (pc := 59) (v := 0) (ci := 1) (j := 16) rfl rfl lk_RX11_270 rfl rfl dX11_report_59 ?_
            refine G_bipush (pc := 62) (v := 6) (by decide) dX11_report_62 ?_
            refine G_icmp_lt (pc := 64) (tgt := 70) (by decide) dX11_report_64 (fun _ => ?_) (fun z => absurd (by decide) z)
            refine G_aload_n (pc := 70) rfl dX11_report_70 ?_
            refine G_getR (pc := 71) (r := 19) (ci := 11) (j := 0) rfl lk_RX11_56 rfl rfl rfl dX11_report_71 ?_
            refine G_getI (pc := 74) (v := 0) (ci := 1) (j := 16) rfl rfl lk_RX11_270 rfl rfl dX11_report_74 ?_
            refine G_istore (pc := 77) (L1 := [some (.ref 0), some (.int k), some (.int asked), some (.int least), some (.int most), some (.int 99), some (.int 0), none]) rfl rfl (by decide) dX11_report_77 ?_
            refine G_iload (pc := 79) rfl dX11_report_79 ?_
            refine G_iconst (pc := 81) (v := 4) (by decide) dX11_report_81 ?_
            refine G_imul (pc := 82) (z := 0) (by decide) dX11_report_82 ?_
            refine G_istore (pc := 83) (L1 := [some (.ref 0), some (.int k), some (.int asked), some (.int least), some (.int most), some (.int 99), some (.int 0), some (.int 0)]) rfl rfl (by decide) dX11_report_83 ?_
            refine G_aload_n (pc := 85) rfl dX11_report_85 ?_
            refine G_getR (pc := 86) (r := 19) (ci := 11) (j := 0) rfl lk_RX11_56 rfl rfl rfl dX11_report_86 ?_
            refine G_getR (pc := 89) (r := 32) (ci := 1) (j := 15) rfl lk_RX11_273 rfl rfl rfl dX11_report_89 ?_
            refine G_iload (pc := 92) rfl dX11_report_92 ?_
            refine G_iload_n (pc := 94) rfl dX11_report_94 ?_
            refine G_iast (pc := 95) (jj := 0) (by decide) rfl (by unfold vp_in; decide) dX11_report_95 ?_
            refine G_aload_n (pc := 96) rfl dX11_report_96 ?_
            refine G_getR (pc := 97) (r := 19) (ci := 11) (j := 0) rfl lk_RX11_56 rfl rfl rfl dX11_report_97 ?_
            refine G_getR (pc := 100) (r := 32) (ci := 1) (j := 15) rfl lk_RX11_273 rfl rfl rfl dX11_report_100 ?_
            refine G_iload (pc := 103) rfl dX11_report_103 ?_
            refine G_iconst (pc := 105) (v := 1) (by decide) dX11_report_105 ?_
            refine G_iadd (pc := 106) (z := 1) (by decide) dX11_report_106 ?_
            refine G_iload_n (pc := 107) rfl dX11_report_107 ?_
            refine G_iast (pc := 108) (jj := 1) (by decide) rfl (by unfold vp_in; decide) dX11_report_108 ?_
            refine G_aload_n (pc := 109) rfl dX11_report_109 ?_
            refine G_getR (pc := 110) (r := 19) (ci := 11) (j := 0) rfl lk_RX11_56 rfl rfl rfl dX11_report_110 ?_
            refine G_getR (pc := 113) (r := 32) (ci := 1) (j := 15) rfl lk_RX11_273 rfl rfl rfl dX11_report_113 ?_
            refine G_iload (pc := 116) rfl dX11_report_116 ?_
            refine G_iconst (pc := 118) (v := 2) (by decide) dX11_report_118 ?_
            refine G_iadd (pc := 119) (z := 2) (by decide) dX11_report_119 ?_
            refine G_iload_n (pc := 120) rfl dX11_report_120 ?_
            refine G_iast (pc := 121) (jj := 2) (by decide) rfl (by unfold vp_in; decide) dX11_report_121 ?_
            refine G_aload_n (pc := 122) rfl dX11_report_122 ?_
            refine G_getR (pc := 123) (r := 19) (ci := 11) (j := 0) rfl lk_RX11_56 rfl rfl rfl dX11_report_123 ?_
            refine G_getR (pc := 126) (r := 32) (ci := 1) (j := 15) rfl lk_RX11_273 rfl rfl rfl dX11_report_126 ?_
            refine G_iload (pc := 129) rfl dX11_report_129 ?_
            refine G_iconst (pc := 131) (v := 3) (by decide) dX11_report_131 ?_
            refine G_iadd (pc := 132) (z := 3) (by decide) dX11_report_132 ?_
            refine G_iload (pc := 133) rfl dX11_report_133 ?_
            refine G_iast (pc := 135) (jj := 3) (by decide) rfl (by unfold vp_in; decide) dX11_report_135 ?_
            refine G_aload_n (pc := 136) rfl dX11_report_136 ?_
            refine G_getR (pc := 137) (r := 19) (ci := 11) (j := 0) rfl lk_RX11_56 rfl rfl rfl dX11_report_137 ?_
            refine G_iload (pc := 140) rfl dX11_report_140 ?_
            refine G_iconst (pc := 142) (v := 1) (by decide) dX11_report_142 ?_
            refine G_iadd (pc := 143) (z := 1) (by decide) dX11_report_143 ?_
            refine G_putI (pc := 144) (ci := 1) (j := 16) rfl lk_RX11_270 rfl rfl rfl trivial dX11_report_144 ?_
            refine G_iload (pc := 147) rfl dX11_report_147 ?_
            exact G_iret (pc := 149) (Nat.le_of_ble_eq_true rfl) (Nat.le_of_ble_eq_true rfl) rfl dX11_report_149 ⟨_, by first | rfl | (simp [F_report, *]; done) | (have : 0 ≤ (k).toInt := Int32.le_iff_toInt_le.mp (c597.1); have : (k).toInt ≤ 15 := Int32.le_iff_toInt_le.mp (c597.2); have : (asked).toInt = 0 := congrArg Int32.toInt (c592); have : 0 ≤ (asked).toInt := Int32.le_iff_toInt_le.mp (c598.1); have : (asked).toInt ≤ 1 := Int32.le_iff_toInt_le.mp (c598.2); have : 0 ≤ (least).toInt := Int32.le_iff_toInt_le.mp (c599.1); have : (least).toInt ≤ 99 := Int32.le_iff_toInt_le.mp (c599.2); simp only [F_report, Int32.le_iff_toInt_le, Int32.lt_iff_toInt_lt, ← Int32.toInt_inj]; simp; omega) | (have : 0 ≤ (k).toInt := Int32.le_iff_toInt_le.mp (c597.1); have : (k).toInt ≤ 15 := Int32.le_iff_toInt_le.mp (c597.2); have : (asked).toInt = 0 := congrArg Int32.toInt (c592); have : 0 ≤ (asked).toInt := Int32.le_iff_toInt_le.mp (c598.1); have : (asked).toInt ≤ 1 := Int32.le_iff_toInt_le.mp (c598.2); have : 0 ≤ (least).toInt := Int32.le_iff_toInt_le.mp (c599.1); have : (least).toInt ≤ 99 := Int32.le_iff_toInt_le.mp (c599.2); simp only [F_report, Int32.le_iff_toInt_le, Int32.lt_iff_toInt_lt, ← Int32.toInt_inj]; split <;> first | rfl | (exfalso; simp at *; omega)) | (have : 0 ≤ (k).toInt := Int32.le_iff_toInt_le.mp (c597.1); have : (k).toInt ≤ 15 := Int32.le_iff_toInt_le.mp (c597.2); have : (asked).toInt = 0 := congrArg Int32.toInt (c592); have : 0 ≤ (asked).toInt := Int32.le_iff_toInt_le.mp (c598.1); have : (asked).toInt ≤ 1 := Int32.le_iff_toInt_le.mp (c598.2); have : 0 ≤ (least).toInt := Int32.le_iff_toInt_le.mp (c599.1); have : (least).toInt ≤ 99 := Int32.le_iff_toInt_le.mp (c599.2); unfold F_report; (repeat' split) <;> first | rfl | (exfalso; (try simp only [Int32.le_iff_toInt_le, Int32.lt_iff_toInt_lt, ← Int32.toInt_inj] at *); first | omega | (simp at *; done) | (simp at *; omega))), rfl, fun a ha => by funext j; simp (disch := omega) only [gup_off, gcp_off]⟩
          · have c600 := gB_z c600
            refine G_iconst (pc := 53) (v := (-1)) (by decide) dX11_report_53 ?_
            exact G_iret (pc := 54) (Nat.le_of_ble_eq_true rfl) (Nat.le_of_ble_eq_true rfl) rfl dX11_report_54 ⟨_, by first | rfl | (simp [F_report, *]; done) | (have : 0 ≤ (k).toInt := Int32.le_iff_toInt_le.mp (c597.1); have : (k).toInt ≤ 15 := Int32.le_iff_toInt_le.mp (c597.2); have : (asked).toInt = 0 := congrArg Int32.toInt (c592); have : 0 ≤ (asked).toInt := Int32.le_iff_toInt_le.mp (c598.1); have : (asked).toInt ≤ 1 := Int32.le_iff_toInt_le.mp (c598.2); have : 0 ≤ (least).toInt := Int32.le_iff_toInt_le.mp (c599.1); have : (least).toInt ≤ 99 := Int32.le_iff_toInt_le.mp (c599.2); simp only [F_report, Int32.le_iff_toInt_le, Int32.lt_iff_toInt_lt, ← Int32.toInt_inj]; simp; omega) | (have : 0 ≤ (k).toInt := Int32.le_iff_toInt_le.mp (c597.1); have : (k).toInt ≤ 15 := Int32.le_iff_toInt_le.mp (c597.2); have : (asked).toInt = 0 := congrArg Int32.toInt (c592); have : 0 ≤ (asked).toInt := Int32.le_iff_toInt_le.mp (c598.1); have : (asked).toInt ≤ 1 := Int32.le_iff_toInt_le.mp (c598.2); have : 0 ≤ (least).toInt := Int32.le_iff_toInt_le.mp (c599.1); have : (least).toInt ≤ 99 := Int32.le_iff_toInt_le.mp (c599.2); simp only [F_report, Int32.le_iff_toInt_le, Int32.lt_iff_toInt_lt, ← Int32.toInt_inj]; split <;> first | rfl | (exfalso; simp at *; omega)) | (have : 0 ≤ (k).toInt := Int32.le_iff_toInt_le.mp (c597.1); have : (k).toInt ≤ 15 := Int32.le_iff_toInt_le.mp (c597.2); have : (asked).toInt = 0 := congrArg Int32.toInt (c592); have : 0 ≤ (asked).toInt := Int32.le_iff_toInt_le.mp (c598.1); have : (asked).toInt ≤ 1 := Int32.le_iff_toInt_le.mp (c598.2); have : 0 ≤ (least).toInt := Int32.le_iff_toInt_le.mp (c599.1); have : (least).toInt ≤ 99 := Int32.le_iff_toInt_le.mp (c599.2); unfold F_report; (repeat' split) <;> first | rfl | (exfalso; (try simp only [Int32.le_iff_toInt_le, Int32.lt_iff_toInt_lt, ← Int32.toInt_inj] at *); first | omega | (simp at *; done) | (simp at *; omega))), rfl, fun _ _ => rfl⟩
