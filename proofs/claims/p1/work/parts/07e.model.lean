set_option maxRecDepth 100000 in
set_option maxHeartbeats 4000000 in
theorem s10297_X12_restOf (J : gI) (d : Nat)   : G (d + 2) mX12_restOf 0 0 0 0 0 (gent 4 [.ref 67, .int 16]) [] SH0 RF0 (gcp (gmx J) 68 70 0 0 65) (fun r h => r = some (.int 0) ∧ h = (SH0, RF0, (gup (gup (gup (gup (gup (gup (gup (gup (gup (gup (gup (gup (gup (gup (gup (gup (gup (gup (gup (gup (gup (gup (gup (gup (gcp (gmx J) 68 70 0 0 65) 68 0 1) 68 2 0) 68 0 2) 68 2 0) 68 0 3) 68 2 0) 68 0 4) 68 2 0) 68 0 5) 68 2 0) 68 0 6) 68 2 0) 68 0 7) 68 2 0) 68 0 8) 68 2 0) 68 0 9) 68 2 0) 68 0 10) 68 2 0) 68 0 11) 68 2 0) 68 0 12) 68 2 0))) := by
  refine G_iconst (pc := 0) (v := 0) (by decide) dX12_restOf_0 ?_
  refine G_istore_n (pc := 1) (L1 := [some (.ref 67), some (.int 16), some (.int 0), none]) rfl rfl (by decide) dX12_restOf_1 ?_
  refine G_iconst (pc := 2) (v := 0) (by decide) dX12_restOf_2 ?_
  refine G_istore_n (pc := 3) (L1 := [some (.ref 67), some (.int 16), some (.int 0), some (.int 0)]) rfl rfl (by decide) dX12_restOf_3 ?_
  refine G_iload_n (pc := 4) rfl dX12_restOf_4 ?_
  refine G_iload_n (pc := 5) rfl dX12_restOf_5 ?_
  refine G_icmp_ge (pc := 6) (tgt := 30) (by decide) dX12_restOf_6 (fun z => absurd z (by decide)) (fun _ => ?_)
  refine G_aload_n (pc := 9) rfl dX12_restOf_9 ?_
  refine G_callV (pc := 10) (mc1 := 0) (ms1 := 0) (ci := 12) (mj := mX12_isOver) (vs := []) dX12_restOf_10 rfl rfl cm_X12_isOver wh_22 wh_24 wh_25 rfl (Nat.le_of_ble_eq_true rfl) (Nat.le_of_ble_eq_true rfl) (Nat.le_of_ble_eq_true rfl) (Nat.le_of_ble_eq_true rfl) (s10244_X12_isOver J (d + 1)  ) ?_
  rintro _ _ ⟨rfl, rfl⟩
  dsimp only [Option.toList, List.cons_append, List.nil_append]
  refine G_if_ne (pc := 13) (tgt := 30) (by decide) dX12_restOf_13 (fun z => absurd (by decide) z) (fun _ => ?_)
  refine G_iload_n (pc := 16) rfl dX12_restOf_16 ?_
  refine G_aload_n (pc := 17) rfl dX12_restOf_17 ?_
  refine G_iconst (pc := 18) (v := (-1)) (by decide) dX12_restOf_18 ?_
  refine G_callV (pc := 19) (mc1 := 0) (ms1 := 0) (ci := 12) (mj := mX12_goesBy) (vs := [_]) dX12_restOf_19 rfl rfl cm_X12_goesBy wh_72 wh_74 wh_75 rfl (Nat.le_of_ble_eq_true rfl) (Nat.le_of_ble_eq_true rfl) (Nat.le_of_ble_eq_true rfl) (Nat.le_of_ble_eq_true rfl) (s10245_X12_goesBy J d  ) ?_
  rintro _ _ ⟨rfl, rfl⟩
  dsimp only [Option.toList, List.cons_append, List.nil_append]
  refine G_iadd (pc := 22) (z := 0) (by decide) dX12_restOf_22 ?_
  refine G_istore_n (pc := 23) (L1 := [some (.ref 67), some (.int 16), some (.int 0), some (.int 0)]) rfl rfl (by decide) dX12_restOf_23 ?_
  refine G_iinc (pc := 24) (v := 1) (w := 1) (L1 := [some (.ref 67), some (.int 16), some (.int 0), some (.int 1)]) (by decide) rfl rfl (by decide) rfl (by decide) dX12_restOf_24 ?_
  refine G_goto (pc := 27) (tgt := 4) (by decide) dX12_restOf_27 ?_
  refine G_iload_n (pc := 4) rfl dX12_restOf_4 ?_
  refine G_iload_n (pc := 5) rfl dX12_restOf_5 ?_
  refine G_icmp_ge (pc := 6) (tgt := 30) (by decide) dX12_restOf_6 (fun z => absurd z (by decide)) (fun _ => ?_)
  refine G_aload_n (pc := 9) rfl dX12_restOf_9 ?_
  refine G_callV (pc := 10) (mc1 := 0) (ms1 := 0) (ci := 12) (mj := mX12_isOver) (vs := []) dX12_restOf_10 rfl rfl cm_X12_isOver wh_22 wh_24 wh_25 rfl (Nat.le_of_ble_eq_true rfl) (Nat.le_of_ble_eq_true rfl) (Nat.le_of_ble_eq_true rfl) (Nat.le_of_ble_eq_true rfl) (s10247_X12_isOver J (d + 1)  ) ?_
  rintro _ _ ⟨rfl, rfl⟩
  dsimp only [Option.toList, List.cons_append, List.nil_append]
  refine G_if_ne (pc := 13) (tgt := 30) (by decide) dX12_restOf_13 (fun z => absurd (by decide) z) (fun _ => ?_)
  refine G_iload_n (pc := 16) rfl dX12_restOf_16 ?_
  refine G_aload_n (pc := 17) rfl dX12_restOf_17 ?_
  refine G_iconst (pc := 18) (v := (-1)) (by decide) dX12_restOf_18 ?_
  refine G_callV (pc := 19) (mc1 := 0) (ms1 := 0) (ci := 12) (mj := mX12_goesBy) (vs := [_]) dX12_restOf_19 rfl rfl cm_X12_goesBy wh_72 wh_74 wh_75 rfl (Nat.le_of_ble_eq_true rfl) (Nat.le_of_ble_eq_true rfl) (Nat.le_of_ble_eq_true rfl) (Nat.le_of_ble_eq_true rfl) (s10248_X12_goesBy J d  ) ?_
  rintro _ _ ⟨rfl, rfl⟩
  dsimp only [Option.toList, List.cons_append, List.nil_append]
  refine G_iadd (pc := 22) (z := 0) (by decide) dX12_restOf_22 ?_
  refine G_istore_n (pc := 23) (L1 := [some (.ref 67), some (.int 16), some (.int 0), some (.int 1)]) rfl rfl (by decide) dX12_restOf_23 ?_
  refine G_iinc (pc := 24) (v := 1) (w := 2) (L1 := [some (.ref 67), some (.int 16), some (.int 0), some (.int 2)]) (by decide) rfl rfl (by decide) rfl (by decide) dX12_restOf_24 ?_
  refine G_goto (pc := 27) (tgt := 4) (by decide) dX12_restOf_27 ?_
  refine G_iload_n (pc := 4) rfl dX12_restOf_4 ?_
  refine G_iload_n (pc := 5) rfl dX12_restOf_5 ?_
  refine G_icmp_ge (pc := 6) (tgt := 30) (by decide) dX12_restOf_6 (fun z => absurd z (by decide)) (fun _ => ?_)
  refine G_aload_n (pc := 9) rfl dX12_restOf_9 ?_
  refine G_callV (pc := 10) (mc1 := 0) (ms1 := 0) (ci := 12) (mj := mX12_isOver) (vs := []) dX12_restOf_10 rfl rfl cm_X12_isOver wh_22 wh_24 wh_25 rfl (Nat.le_of_ble_eq_true rfl) (Nat.le_of_ble_eq_true rfl) (Nat.le_of_ble_eq_true rfl) (Nat.le_of_ble_eq_true rfl) (s10250_X12_isOver J (d + 1)  ) ?_
  rintro _ _ ⟨rfl, rfl⟩
  dsimp only [Option.toList, List.cons_append, List.nil_append]
  refine G_if_ne (pc := 13) (tgt := 30) (by decide) dX12_restOf_13 (fun z => absurd (by decide) z) (fun _ => ?_)
  refine G_iload_n (pc := 16) rfl dX12_restOf_16 ?_
  refine G_aload_n (pc := 17) rfl dX12_restOf_17 ?_
  refine G_iconst (pc := 18) (v := (-1)) (by decide) dX12_restOf_18 ?_
  refine G_callV (pc := 19) (mc1 := 0) (ms1 := 0) (ci := 12) (mj := mX12_goesBy) (vs := [_]) dX12_restOf_19 rfl rfl cm_X12_goesBy wh_72 wh_74 wh_75 rfl (Nat.le_of_ble_eq_true rfl) (Nat.le_of_ble_eq_true rfl) (Nat.le_of_ble_eq_true rfl) (Nat.le_of_ble_eq_true rfl) (s10251_X12_goesBy J d  ) ?_
  rintro _ _ ⟨rfl, rfl⟩
  dsimp only [Option.toList, List.cons_append, List.nil_append]
  refine G_iadd (pc := 22) (z := 0) (by decide) dX12_restOf_22 ?_
  refine G_istore_n (pc := 23) (L1 := [some (.ref 67), some (.int 16), some (.int 0), some (.int 2)]) rfl rfl (by decide) dX12_restOf_23 ?_
  refine G_iinc (pc := 24) (v := 1) (w := 3) (L1 := [some (.ref 67), some (.int 16), some (.int 0), some (.int 3)]) (by decide) rfl rfl (by decide) rfl (by decide) dX12_restOf_24 ?_
  refine G_goto (pc := 27) (tgt := 4) (by decide) dX12_restOf_27 ?_
  refine G_iload_n (pc := 4) rfl dX12_restOf_4 ?_
  refine G_iload_n (pc := 5) rfl dX12_restOf_5 ?_
  refine G_icmp_ge (pc := 6) (tgt := 30) (by decide) dX12_restOf_6 (fun z => absurd z (by decide)) (fun _ => ?_)
  refine G_aload_n (pc := 9) rfl dX12_restOf_9 ?_
  refine G_callV (pc := 10) (mc1 := 0) (ms1 := 0) (ci := 12) (mj := mX12_isOver) (vs := []) dX12_restOf_10 rfl rfl cm_X12_isOver wh_22 wh_24 wh_25 rfl (Nat.le_of_ble_eq_true rfl) (Nat.le_of_ble_eq_true rfl) (Nat.le_of_ble_eq_true rfl) (Nat.le_of_ble_eq_true rfl) (s10253_X12_isOver J (d + 1)  ) ?_
  rintro _ _ ⟨rfl, rfl⟩
  dsimp only [Option.toList, List.cons_append, List.nil_append]
  refine G_if_ne (pc := 13) (tgt := 30) (by decide) dX12_restOf_13 (fun z => absurd (by decide) z) (fun _ => ?_)
  refine G_iload_n (pc := 16) rfl dX12_restOf_16 ?_
  refine G_aload_n (pc := 17) rfl dX12_restOf_17 ?_
  refine G_iconst (pc := 18) (v := (-1)) (by decide) dX12_restOf_18 ?_
  refine G_callV (pc := 19) (mc1 := 0) (ms1 := 0) (ci := 12) (mj := mX12_goesBy) (vs := [_]) dX12_restOf_19 rfl rfl cm_X12_goesBy wh_72 wh_74 wh_75 rfl (Nat.le_of_ble_eq_true rfl) (Nat.le_of_ble_eq_true rfl) (Nat.le_of_ble_eq_true rfl) (Nat.le_of_ble_eq_true rfl) (s10254_X12_goesBy J d  ) ?_
  rintro _ _ ⟨rfl, rfl⟩
  dsimp only [Option.toList, List.cons_append, List.nil_append]
  refine G_iadd (pc := 22) (z := 0) (by decide) dX12_restOf_22 ?_
  refine G_istore_n (pc := 23) (L1 := [some (.ref 67), some (.int 16), some (.int 0), some (.int 3)]) rfl rfl (by decide) dX12_restOf_23 ?_
  refine G_iinc (pc := 24) (v := 1) (w := 4) (L1 := [some (.ref 67), some (.int 16), some (.int 0), some (.int 4)]) (by decide) rfl rfl (by decide) rfl (by decide) dX12_restOf_24 ?_
  refine G_goto (pc := 27) (tgt := 4) (by decide) dX12_restOf_27 ?_
  refine G_iload_n (pc := 4) rfl dX12_restOf_4 ?_
  refine G_iload_n (pc := 5) rfl dX12_restOf_5 ?_
  refine G_icmp_ge (pc := 6) (tgt := 30) (by decide) dX12_restOf_6 (fun z => absurd z (by decide)) (fun _ => ?_)
  refine G_aload_n (pc := 9) rfl dX12_restOf_9 ?_
  refine G_callV (pc := 10) (mc1 := 0) (ms1 := 0) (ci := 12) (mj := mX12_isOver) (vs := []) dX12_restOf_10 rfl rfl cm_X12_isOver wh_22 wh_24 wh_25 rfl (Nat.le_of_ble_eq_true rfl) (Nat.le_of_ble_eq_true rfl) (Nat.le_of_ble_eq_true rfl) (Nat.le_of_ble_eq_true rfl) (s10256_X12_isOver J (d + 1)  ) ?_
  rintro _ _ ⟨rfl, rfl⟩
  dsimp only [Option.toList, List.cons_append, List.nil_append]
  refine G_if_ne (pc := 13) (tgt := 30) (by decide) dX12_restOf_13 (fun z => absurd (by decide) z) (fun _ => ?_)
  refine G_iload_n (pc := 16) rfl dX12_restOf_16 ?_
  refine G_aload_n (pc := 17) rfl dX12_restOf_17 ?_
  refine G_iconst (pc := 18) (v := (-1)) (by decide) dX12_restOf_18 ?_
  refine G_callV (pc := 19) (mc1 := 0) (ms1 := 0) (ci := 12) (mj := mX12_goesBy) (vs := [_]) dX12_restOf_19 rfl rfl cm_X12_goesBy wh_72 wh_74 wh_75 rfl (Nat.le_of_ble_eq_true rfl) (Nat.le_of_ble_eq_true rfl) (Nat.le_of_ble_eq_true rfl) (Nat.le_of_ble_eq_true rfl) (s10257_X12_goesBy J d  ) ?_
  rintro _ _ ⟨rfl, rfl⟩
  dsimp only [Option.toList, List.cons_append, List.nil_append]
  refine G_iadd (pc := 22) (z := 0) (by decide) dX12_restOf_22 ?_
  refine G_istore_n (pc := 23) (L1 := [some (.ref 67), some (.int 16), some (.int 0), some (.int 4)]) rfl rfl (by decide) dX12_restOf_23 ?_
  refine G_iinc (pc := 24) (v := 1) (w := 5) (L1 := [some (.ref 67), some (.int 16), some (.int 0), some (.int 5)]) (by decide) rfl rfl (by decide) rfl (by decide) dX12_restOf_24 ?_
  refine G_goto (pc := 27) (tgt := 4) (by decide) dX12_restOf_27 ?_
  refine G_iload_n (pc := 4) rfl dX12_restOf_4 ?_
  refine G_iload_n (pc := 5) rfl dX12_restOf_5 ?_
  refine G_icmp_ge (pc := 6) (tgt := 30) (by decide) dX12_restOf_6 (fun z => absurd z (by decide)) (fun _ => ?_)
  refine G_aload_n (pc := 9) rfl dX12_restOf_9 ?_
  refine G_callV (pc := 10) (mc1 := 0) (ms1 := 0) (ci := 12) (mj := mX12_isOver) (vs := []) dX12_restOf_10 rfl rfl cm_X12_isOver wh_22 wh_24 wh_25 rfl (Nat.le_of_ble_eq_true rfl) (Nat.le_of_ble_eq_true rfl) (Nat.le_of_ble_eq_true rfl) (Nat.le_of_ble_eq_true rfl) (s10259_X12_isOver J (d + 1)  ) ?_
  rintro _ _ ⟨rfl, rfl⟩
  dsimp only [Option.toList, List.cons_append, List.nil_append]
  refine G_if_ne (pc := 13) (tgt := 30) (by decide) dX12_restOf_13 (fun z => absurd (by decide) z) (fun _ => ?_)
  refine G_iload_n (pc := 16) rfl dX12_restOf_16 ?_
  refine G_aload_n (pc := 17) rfl dX12_restOf_17 ?_
  refine G_iconst (pc := 18) (v := (-1)) (by decide) dX12_restOf_18 ?_
  refine G_callV (pc := 19) (mc1 := 0) (ms1 := 0) (ci := 12) (mj := mX12_goesBy) (vs := [_]) dX12_restOf_19 rfl rfl cm_X12_goesBy wh_72 wh_74 wh_75 rfl (Nat.le_of_ble_eq_true rfl) (Nat.le_of_ble_eq_true rfl) (Nat.le_of_ble_eq_true rfl) (Nat.le_of_ble_eq_true rfl) (s10260_X12_goesBy J d  ) ?_
  rintro _ _ ⟨rfl, rfl⟩
  dsimp only [Option.toList, List.cons_append, List.nil_append]
  refine G_iadd (pc := 22) (z := 0) (by decide) dX12_restOf_22 ?_
  refine G_istore_n (pc := 23) (L1 := [some (.ref 67), some (.int 16), some (.int 0), some (.int 5)]) rfl rfl (by decide) dX12_restOf_23 ?_
  refine G_iinc (pc := 24) (v := 1) (w := 6) (L1 := [some (.ref 67), some (.int 16), some (.int 0), some (.int 6)]) (by decide) rfl rfl (by decide) rfl (by decide) dX12_restOf_24 ?_
  refine G_goto (pc := 27) (tgt := 4) (by decide) dX12_restOf_27 ?_
  refine G_iload_n (pc := 4) rfl dX12_restOf_4 ?_
  refine G_iload_n (pc := 5) rfl dX12_restOf_5 ?_
  refine G_icmp_ge (pc := 6) (tgt := 30) (by decide) dX12_restOf_6 (fun z => absurd z (by decide)) (fun _ => ?_)
  refine G_aload_n (pc := 9) rfl dX12_restOf_9 ?_
  refine G_callV (pc := 10) (mc1 := 0) (ms1 := 0) (ci := 12) (mj := mX12_isOver) (vs := []) dX12_restOf_10 rfl rfl cm_X12_isOver wh_22 wh_24 wh_25 rfl (Nat.le_of_ble_eq_true rfl) (Nat.le_of_ble_eq_true rfl) (Nat.le_of_ble_eq_true rfl) (Nat.le_of_ble_eq_true rfl) (s10262_X12_isOver J (d + 1)  ) ?_
  rintro _ _ ⟨rfl, rfl⟩
  dsimp only [Option.toList, List.cons_append, List.nil_append]
  refine G_if_ne (pc := 13) (tgt := 30) (by decide) dX12_restOf_13 (fun z => absurd (by decide) z) (fun _ => ?_)
  refine G_iload_n (pc := 16) rfl dX12_restOf_16 ?_
  refine G_aload_n (pc := 17) rfl dX12_restOf_17 ?_
  refine G_iconst (pc := 18) (v := (-1)) (by decide) dX12_restOf_18 ?_
  refine G_callV (pc := 19) (mc1 := 0) (ms1 := 0) (ci := 12) (mj := mX12_goesBy) (vs := [_]) dX12_restOf_19 rfl rfl cm_X12_goesBy wh_72 wh_74 wh_75 rfl (Nat.le_of_ble_eq_true rfl) (Nat.le_of_ble_eq_true rfl) (Nat.le_of_ble_eq_true rfl) (Nat.le_of_ble_eq_true rfl) (s10263_X12_goesBy J d  ) ?_
  rintro _ _ ⟨rfl, rfl⟩
  dsimp only [Option.toList, List.cons_append, List.nil_append]
  refine G_iadd (pc := 22) (z := 0) (by decide) dX12_restOf_22 ?_
  refine G_istore_n (pc := 23) (L1 := [some (.ref 67), some (.int 16), some (.int 0), some (.int 6)]) rfl rfl (by decide) dX12_restOf_23 ?_
  refine G_iinc (pc := 24) (v := 1) (w := 7) (L1 := [some (.ref 67), some (.int 16), some (.int 0), some (.int 7)]) (by decide) rfl rfl (by decide) rfl (by decide) dX12_restOf_24 ?_
  refine G_goto (pc := 27) (tgt := 4) (by decide) dX12_restOf_27 ?_
  refine G_iload_n (pc := 4) rfl dX12_restOf_4 ?_
  refine G_iload_n (pc := 5) rfl dX12_restOf_5 ?_
  refine G_icmp_ge (pc := 6) (tgt := 30) (by decide) dX12_restOf_6 (fun z => absurd z (by decide)) (fun _ => ?_)
  refine G_aload_n (pc := 9) rfl dX12_restOf_9 ?_
  refine G_callV (pc := 10) (mc1 := 0) (ms1 := 0) (ci := 12) (mj := mX12_isOver) (vs := []) dX12_restOf_10 rfl rfl cm_X12_isOver wh_22 wh_24 wh_25 rfl (Nat.le_of_ble_eq_true rfl) (Nat.le_of_ble_eq_true rfl) (Nat.le_of_ble_eq_true rfl) (Nat.le_of_ble_eq_true rfl) (s10265_X12_isOver J (d + 1)  ) ?_
  rintro _ _ ⟨rfl, rfl⟩
  dsimp only [Option.toList, List.cons_append, List.nil_append]
  refine G_if_ne (pc := 13) (tgt := 30) (by decide) dX12_restOf_13 (fun z => absurd (by decide) z) (fun _ => ?_)
  refine G_iload_n (pc := 16) rfl dX12_restOf_16 ?_
  refine G_aload_n (pc := 17) rfl dX12_restOf_17 ?_
  refine G_iconst (pc := 18) (v := (-1)) (by decide) dX12_restOf_18 ?_
  refine G_callV (pc := 19) (mc1 := 0) (ms1 := 0) (ci := 12) (mj := mX12_goesBy) (vs := [_]) dX12_restOf_19 rfl rfl cm_X12_goesBy wh_72 wh_74 wh_75 rfl (Nat.le_of_ble_eq_true rfl) (Nat.le_of_ble_eq_true rfl) (Nat.le_of_ble_eq_true rfl) (Nat.le_of_ble_eq_true rfl) (s10266_X12_goesBy J d  ) ?_
  rintro _ _ ⟨rfl, rfl⟩
  dsimp only [Option.toList, List.cons_append, List.nil_append]
  refine G_iadd (pc := 22) (z := 0) (by decide) dX12_restOf_22 ?_
  refine G_istore_n (pc := 23) (L1 := [some (.ref 67), some (.int 16), some (.int 0), some (.int 7)]) rfl rfl (by decide) dX12_restOf_23 ?_
  refine G_iinc (pc := 24) (v := 1) (w := 8) (L1 := [some (.ref 67), some (.int 16), some (.int 0), some (.int 8)]) (by decide) rfl rfl (by decide) rfl (by decide) dX12_restOf_24 ?_
  refine G_goto (pc := 27) (tgt := 4) (by decide) dX12_restOf_27 ?_
  refine G_iload_n (pc := 4) rfl dX12_restOf_4 ?_
  refine G_iload_n (pc := 5) rfl dX12_restOf_5 ?_
  refine G_icmp_ge (pc := 6) (tgt := 30) (by decide) dX12_restOf_6 (fun z => absurd z (by decide)) (fun _ => ?_)
  refine G_aload_n (pc := 9) rfl dX12_restOf_9 ?_
  refine G_callV (pc := 10) (mc1 := 0) (ms1 := 0) (ci := 12) (mj := mX12_isOver) (vs := []) dX12_restOf_10 rfl rfl cm_X12_isOver wh_22 wh_24 wh_25 rfl (Nat.le_of_ble_eq_true rfl) (Nat.le_of_ble_eq_true rfl) (Nat.le_of_ble_eq_true rfl) (Nat.le_of_ble_eq_true rfl) (s10268_X12_isOver J (d + 1)  ) ?_
  rintro _ _ ⟨rfl, rfl⟩
  dsimp only [Option.toList, List.cons_append, List.nil_append]
  refine G_if_ne (pc := 13) (tgt := 30) (by decide) dX12_restOf_13 (fun z => absurd (by decide) z) (fun _ => ?_)
  refine G_iload_n (pc := 16) rfl dX12_restOf_16 ?_
  refine G_aload_n (pc := 17) rfl dX12_restOf_17 ?_
  refine G_iconst (pc := 18) (v := (-1)) (by decide) dX12_restOf_18 ?_
  refine G_callV (pc := 19) (mc1 := 0) (ms1 := 0) (ci := 12) (mj := mX12_goesBy) (vs := [_]) dX12_restOf_19 rfl rfl cm_X12_goesBy wh_72 wh_74 wh_75 rfl (Nat.le_of_ble_eq_true rfl) (Nat.le_of_ble_eq_true rfl) (Nat.le_of_ble_eq_true rfl) (Nat.le_of_ble_eq_true rfl) (s10269_X12_goesBy J d  ) ?_
  rintro _ _ ⟨rfl, rfl⟩
  dsimp only [Option.toList, List.cons_append, List.nil_append]
  refine G_iadd (pc := 22) (z := 0) (by decide) dX12_restOf_22 ?_
  refine G_istore_n (pc := 23) (L1 := [some (.ref 67), some (.int 16), some (.int 0), some (.int 8)]) rfl rfl (by decide) dX12_restOf_23 ?_
  refine G_iinc (pc := 24) (v := 1) (w := 9) (L1 := [some (.ref 67), some (.int 16), some (.int 0), some (.int 9)]) (by decide) rfl rfl (by decide) rfl (by decide) dX12_restOf_24 ?_
  refine G_goto (pc := 27) (tgt := 4) (by decide) dX12_restOf_27 ?_
  refine G_iload_n (pc := 4) rfl dX12_restOf_4 ?_
  refine G_iload_n (pc := 5) rfl dX12_restOf_5 ?_
  refine G_icmp_ge (pc := 6) (tgt := 30) (by decide) dX12_restOf_6 (fun z => absurd z (by decide)) (fun _ => ?_)
  refine G_aload_n (pc := 9) rfl dX12_restOf_9 ?_
  refine G_callV (pc := 10) (mc1 := 0) (ms1 := 0) (ci := 12) (mj := mX12_isOver) (vs := []) dX12_restOf_10 rfl rfl cm_X12_isOver wh_22 wh_24 wh_25 rfl (Nat.le_of_ble_eq_true rfl) (Nat.le_of_ble_eq_true rfl) (Nat.le_of_ble_eq_true rfl) (Nat.le_of_ble_eq_true rfl) (s10271_X12_isOver J (d + 1)  ) ?_
  rintro _ _ ⟨rfl, rfl⟩
  dsimp only [Option.toList, List.cons_append, List.nil_append]
  refine G_if_ne (pc := 13) (tgt := 30) (by decide) dX12_restOf_13 (fun z => absurd (by decide) z) (fun _ => ?_)
  refine G_iload_n (pc := 16) rfl dX12_restOf_16 ?_
  refine G_aload_n (pc := 17) rfl dX12_restOf_17 ?_
  refine G_iconst (pc := 18) (v := (-1)) (by decide) dX12_restOf_18 ?_
  refine G_callV (pc := 19) (mc1 := 0) (ms1 := 0) (ci := 12) (mj := mX12_goesBy) (vs := [_]) dX12_restOf_19 rfl rfl cm_X12_goesBy wh_72 wh_74 wh_75 rfl (Nat.le_of_ble_eq_true rfl) (Nat.le_of_ble_eq_true rfl) (Nat.le_of_ble_eq_true rfl) (Nat.le_of_ble_eq_true rfl) (s10272_X12_goesBy J d  ) ?_
  rintro _ _ ⟨rfl, rfl⟩
  dsimp only [Option.toList, List.cons_append, List.nil_append]
  refine G_iadd (pc := 22) (z := 0) (by decide) dX12_restOf_22 ?_
  refine G_istore_n (pc := 23) (L1 := [some (.ref 67), some (.int 16), some (.int 0), some (.int 9)]) rfl rfl (by decide) dX12_restOf_23 ?_
  refine G_iinc (pc := 24) (v := 1) (w := 10) (L1 := [some (.ref 67), some (.int 16), some (.int 0), some (.int 10)]) (by decide) rfl rfl (by decide) rfl (by decide) dX12_restOf_24 ?_
  refine G_goto (pc := 27) (tgt := 4) (by decide) dX12_restOf_27 ?_
  refine G_iload_n (pc := 4) rfl dX12_restOf_4 ?_
  refine G_iload_n (pc := 5) rfl dX12_restOf_5 ?_
  refine G_icmp_ge (pc := 6) (tgt := 30) (by decide) dX12_restOf_6 (fun z => absurd z (by decide)) (fun _ => ?_)
  refine G_aload_n (pc := 9) rfl dX12_restOf_9 ?_
  refine G_callV (pc := 10) (mc1 := 0) (ms1 := 0) (ci := 12) (mj := mX12_isOver) (vs := []) dX12_restOf_10 rfl rfl cm_X12_isOver wh_22 wh_24 wh_25 rfl (Nat.le_of_ble_eq_true rfl) (Nat.le_of_ble_eq_true rfl) (Nat.le_of_ble_eq_true rfl) (Nat.le_of_ble_eq_true rfl) (s10274_X12_isOver J (d + 1)  ) ?_
  rintro _ _ ⟨rfl, rfl⟩
  dsimp only [Option.toList, List.cons_append, List.nil_append]
  refine G_if_ne (pc := 13) (tgt := 30) (by decide) dX12_restOf_13 (fun z => absurd (by decide) z) (fun _ => ?_)
  refine G_iload_n (pc := 16) rfl dX12_restOf_16 ?_
  refine G_aload_n (pc := 17) rfl dX12_restOf_17 ?_
  refine G_iconst (pc := 18) (v := (-1)) (by decide) dX12_restOf_18 ?_
  refine G_callV (pc := 19) (mc1 := 0) (ms1 := 0) (ci := 12) (mj := mX12_goesBy) (vs := [_]) dX12_restOf_19 rfl rfl cm_X12_goesBy wh_72 wh_74 wh_75 rfl (Nat.le_of_ble_eq_true rfl) (Nat.le_of_ble_eq_true rfl) (Nat.le_of_ble_eq_true rfl) (Nat.le_of_ble_eq_true rfl) (s10275_X12_goesBy J d  ) ?_
  rintro _ _ ⟨rfl, rfl⟩
  dsimp only [Option.toList, List.cons_append, List.nil_append]
  refine G_iadd (pc := 22) (z := 0) (by decide) dX12_restOf_22 ?_
  refine G_istore_n (pc := 23) (L1 := [some (.ref 67), some (.int 16), some (.int 0), some (.int 10)]) rfl rfl (by decide) dX12_restOf_23 ?_
  refine G_iinc (pc := 24) (v := 1) (w := 11) (L1 := [some (.ref 67), some (.int 16), some (.int 0), some (.int 11)]) (by decide) rfl rfl (by decide) rfl (by decide) dX12_restOf_24 ?_
  refine G_goto (pc := 27) (tgt := 4) (by decide) dX12_restOf_27 ?_
  refine G_iload_n (pc := 4) rfl dX12_restOf_4 ?_
  refine G_iload_n (pc := 5) rfl dX12_restOf_5 ?_
  refine G_icmp_ge (pc := 6) (tgt := 30) (by decide) dX12_restOf_6 (fun z => absurd z (by decide)) (fun _ => ?_)
  refine G_aload_n (pc := 9) rfl dX12_restOf_9 ?_
  refine G_callV (pc := 10) (mc1 := 0) (ms1 := 0) (ci := 12) (mj := mX12_isOver) (vs := []) dX12_restOf_10 rfl rfl cm_X12_isOver wh_22 wh_24 wh_25 rfl (Nat.le_of_ble_eq_true rfl) (Nat.le_of_ble_eq_true rfl) (Nat.le_of_ble_eq_true rfl) (Nat.le_of_ble_eq_true rfl) (s10277_X12_isOver J (d + 1)  ) ?_
  rintro _ _ ⟨rfl, rfl⟩
  dsimp only [Option.toList, List.cons_append, List.nil_append]
  refine G_if_ne (pc := 13) (tgt := 30) (by decide) dX12_restOf_13 (fun z => absurd (by decide) z) (fun _ => ?_)
  refine G_iload_n (pc := 16) rfl dX12_restOf_16 ?_
  refine G_aload_n (pc := 17) rfl dX12_restOf_17 ?_
  refine G_iconst (pc := 18) (v := (-1)) (by decide) dX12_restOf_18 ?_
  refine G_callV (pc := 19) (mc1 := 0) (ms1 := 0) (ci := 12) (mj := mX12_goesBy) (vs := [_]) dX12_restOf_19 rfl rfl cm_X12_goesBy wh_72 wh_74 wh_75 rfl (Nat.le_of_ble_eq_true rfl) (Nat.le_of_ble_eq_true rfl) (Nat.le_of_ble_eq_true rfl) (Nat.le_of_ble_eq_true rfl) (s10278_X12_goesBy J d  ) ?_
  rintro _ _ ⟨rfl, rfl⟩
  dsimp only [Option.toList, List.cons_append, List.nil_append]
  refine G_iadd (pc := 22) (z := 0) (by decide) dX12_restOf_22 ?_
  refine G_istore_n (pc := 23) (L1 := [some (.ref 67), some (.int 16), some (.int 0), some (.int 11)]) rfl rfl (by decide) dX12_restOf_23 ?_
  refine G_iinc (pc := 24) (v := 1) (w := 12) (L1 := [some (.ref 67), some (.int 16), some (.int 0), some (.int 12)]) (by decide) rfl rfl (by decide) rfl (by decide) dX12_restOf_24 ?_
  refine G_goto (pc := 27) (tgt := 4) (by decide) dX12_restOf_27 ?_
  refine G_iload_n (pc := 4) rfl dX12_restOf_4 ?_
  refine G_iload_n (pc := 5) rfl dX12_restOf_5 ?_
  refine G_icmp_ge (pc := 6) (tgt := 30) (by decide) dX12_restOf_6 (fun z => absurd z (by decide)) (fun _ => ?_)
  refine G_aload_n (pc := 9) rfl dX12_restOf_9 ?_
  refine G_callV (pc := 10) (mc1 := 0) (ms1 := 0) (ci := 12) (mj := mX12_isOver) (vs := []) dX12_restOf_10 rfl rfl cm_X12_isOver wh_22 wh_24 wh_25 rfl (Nat.le_of_ble_eq_true rfl) (Nat.le_of_ble_eq_true rfl) (Nat.le_of_ble_eq_true rfl) (Nat.le_of_ble_eq_true rfl) (s10280_X12_isOver J (d + 1)  ) ?_
  rintro _ _ ⟨rfl, rfl⟩
  dsimp only [Option.toList, List.cons_append, List.nil_append]
  refine G_if_ne (pc := 13) (tgt := 30) (by decide) dX12_restOf_13 (fun _ => ?_) (fun z => absurd z (by decide))
  refine G_iload_n (pc := 30) rfl dX12_restOf_30 ?_
  exact G_iret (pc := 31) (Nat.le_of_ble_eq_true rfl) (Nat.le_of_ble_eq_true rfl) rfl dX12_restOf_31 ⟨rfl, rfl⟩
set_option maxRecDepth 100000 in
set_option maxHeartbeats 4000000 in
theorem z_on (J : gI) (d : Nat) (n : Int32) : G (d + 3) mX12_on 0 0 0 0 0 (gent 3 [.ref 67, .int n]) [] SH0 RF0 (gmx J) (fun r _ => r = some (.int (F_on n))) := by
  refine G_iload_n (pc := 0) rfl dX12_on_0 ?_
  refine G_iconst (pc := 1) (v := 0) (by decide) dX12_on_1 ?_
  refine G_bipush (pc := 2) (v := 16) (by decide) dX12_on_2 ?_
  refine G_callS (pc := 4) (mc1 := 0) (ms1 := 0) (mj := mX12_in1) (vs := [_, _, _]) dX12_on_4 cm_X12_in1 wh_0 wh_3 rfl (Nat.le_of_ble_eq_true rfl) (Nat.le_of_ble_eq_true rfl) (Nat.le_of_ble_eq_true rfl) (Nat.le_of_ble_eq_true rfl) (in1_s (d + 2) n 0 16) ?_
  rintro _ _ ⟨rfl, rfl⟩
  dsimp only [Option.toList, List.cons_append, List.nil_append]
  refine G_if_ne (pc := 7) (tgt := 12) (by decide) dX12_on_7 (fun c324 => ?_) (fun c324 => ?_)
  · have c324 := gB_o c324
    refine G_aload_n (pc := 12) rfl dX12_on_12 ?_
    refine G_callV (pc := 13) (mc1 := 0) (ms1 := 0) (ci := 12) (mj := mX12_layDown) (vs := []) dX12_on_13 rfl rfl cm_X12_layDown wh_53 wh_55 wh_56 rfl (Nat.le_of_ble_eq_true rfl) (Nat.le_of_ble_eq_true rfl) (Nat.le_of_ble_eq_true rfl) (Nat.le_of_ble_eq_true rfl) (layDown_s (d + 2) (gmx J)) ?_
    rintro _ _ ⟨rfl, rfl⟩
    dsimp only [Option.toList, List.cons_append, List.nil_append]
    refine G_aload_n (pc := 16) rfl dX12_on_16 ?_
    refine G_iload_n (pc := 17) rfl dX12_on_17 ?_
    by_cases c338 : n = 0
    · subst c338
      refine G_callV (pc := 18) (mc1 := 0) (ms1 := 0) (ci := 12) (mj := mX12_restOf) (vs := [_]) dX12_on_18 rfl rfl cm_X12_restOf wh_123 wh_125 wh_126 rfl (Nat.le_of_ble_eq_true rfl) (Nat.le_of_ble_eq_true rfl) (Nat.le_of_ble_eq_true rfl) (Nat.le_of_ble_eq_true rfl) (s10281_X12_restOf J (d + 2)  ) ?_
      rintro _ _ ⟨rfl, rfl⟩
      dsimp only [Option.toList, List.cons_append, List.nil_append]
      refine G_istore_n (pc := 21) (L1 := [some (.ref 67), some (.int 0), some (.int 0)]) rfl rfl (by decide) dX12_on_21 ?_
      refine G_aload_n (pc := 22) rfl dX12_on_22 ?_
      refine G_callV (pc := 23) (mc1 := 0) (ms1 := 0) (ci := 12) (mj := mX12_layBack) (vs := []) dX12_on_23 rfl rfl cm_X12_layBack wh_57 wh_59 wh_60 rfl (Nat.le_of_ble_eq_true rfl) (Nat.le_of_ble_eq_true rfl) (Nat.le_of_ble_eq_true rfl) (Nat.le_of_ble_eq_true rfl) (layBack_s (d + 2) (gcp (gmx J) 68 70 0 0 65)) ?_
      rintro _ _ ⟨rfl, rfl⟩
      dsimp only [Option.toList, List.cons_append, List.nil_append]
      refine G_iload_n (pc := 26) rfl dX12_on_26 ?_
      exact G_iret (pc := 27) (Nat.le_of_ble_eq_true rfl) (Nat.le_of_ble_eq_true rfl) rfl dX12_on_27 (by first | rfl | (simp [F_on, *]; done) | (simp only [F_on, Int32.le_iff_toInt_le, Int32.lt_iff_toInt_lt, ← Int32.toInt_inj]; simp; omega) | (simp only [F_on, Int32.le_iff_toInt_le, Int32.lt_iff_toInt_lt, ← Int32.toInt_inj]; split <;> first | rfl | (exfalso; simp at *; omega)) | (unfold F_on; (repeat' split) <;> first | rfl | (exfalso; (try simp only [Int32.le_iff_toInt_le, Int32.lt_iff_toInt_lt, ← Int32.toInt_inj] at *); first | omega | (simp at *; done) | (simp at *; omega))))
    by_cases c339 : n = 1
    · subst c339
      refine G_callV (pc := 18) (mc1 := 0) (ms1 := 0) (ci := 12) (mj := mX12_restOf) (vs := [_]) dX12_on_18 rfl rfl cm_X12_restOf wh_123 wh_125 wh_126 rfl (Nat.le_of_ble_eq_true rfl) (Nat.le_of_ble_eq_true rfl) (Nat.le_of_ble_eq_true rfl) (Nat.le_of_ble_eq_true rfl) (s10282_X12_restOf J d  ) ?_
      rintro _ _ ⟨rfl, rfl⟩
      dsimp only [Option.toList, List.cons_append, List.nil_append]
      refine G_istore_n (pc := 21) (L1 := [some (.ref 67), some (.int 1), some (.int 0)]) rfl rfl (by decide) dX12_on_21 ?_
      refine G_aload_n (pc := 22) rfl dX12_on_22 ?_
      refine G_callV (pc := 23) (mc1 := 0) (ms1 := 0) (ci := 12) (mj := mX12_layBack) (vs := []) dX12_on_23 rfl rfl cm_X12_layBack wh_57 wh_59 wh_60 rfl (Nat.le_of_ble_eq_true rfl) (Nat.le_of_ble_eq_true rfl) (Nat.le_of_ble_eq_true rfl) (Nat.le_of_ble_eq_true rfl) (layBack_s (d + 2) (gup (gup (gcp (gmx J) 68 70 0 0 65) 68 0 1) 68 2 0)) ?_
      rintro _ _ ⟨rfl, rfl⟩
      dsimp only [Option.toList, List.cons_append, List.nil_append]
      refine G_iload_n (pc := 26) rfl dX12_on_26 ?_
      exact G_iret (pc := 27) (Nat.le_of_ble_eq_true rfl) (Nat.le_of_ble_eq_true rfl) rfl dX12_on_27 (by first | rfl | (simp [F_on, *]; done) | (simp only [F_on, Int32.le_iff_toInt_le, Int32.lt_iff_toInt_lt, ← Int32.toInt_inj]; simp; omega) | (simp only [F_on, Int32.le_iff_toInt_le, Int32.lt_iff_toInt_lt, ← Int32.toInt_inj]; split <;> first | rfl | (exfalso; simp at *; omega)) | (unfold F_on; (repeat' split) <;> first | rfl | (exfalso; (try simp only [Int32.le_iff_toInt_le, Int32.lt_iff_toInt_lt, ← Int32.toInt_inj] at *); first | omega | (simp at *; done) | (simp at *; omega))))
    by_cases c340 : n = 2
    · subst c340
      refine G_callV (pc := 18) (mc1 := 0) (ms1 := 0) (ci := 12) (mj := mX12_restOf) (vs := [_]) dX12_on_18 rfl rfl cm_X12_restOf wh_123 wh_125 wh_126 rfl (Nat.le_of_ble_eq_true rfl) (Nat.le_of_ble_eq_true rfl) (Nat.le_of_ble_eq_true rfl) (Nat.le_of_ble_eq_true rfl) (s10283_X12_restOf J d  ) ?_
      rintro _ _ ⟨rfl, rfl⟩
      dsimp only [Option.toList, List.cons_append, List.nil_append]
      refine G_istore_n (pc := 21) (L1 := [some (.ref 67), some (.int 2), some (.int 0)]) rfl rfl (by decide) dX12_on_21 ?_
      refine G_aload_n (pc := 22) rfl dX12_on_22 ?_
      refine G_callV (pc := 23) (mc1 := 0) (ms1 := 0) (ci := 12) (mj := mX12_layBack) (vs := []) dX12_on_23 rfl rfl cm_X12_layBack wh_57 wh_59 wh_60 rfl (Nat.le_of_ble_eq_true rfl) (Nat.le_of_ble_eq_true rfl) (Nat.le_of_ble_eq_true rfl) (Nat.le_of_ble_eq_true rfl) (layBack_s (d + 2) (gup (gup (gup (gup (gcp (gmx J) 68 70 0 0 65) 68 0 1) 68 2 0) 68 0 2) 68 2 0)) ?_
      rintro _ _ ⟨rfl, rfl⟩
      dsimp only [Option.toList, List.cons_append, List.nil_append]
      refine G_iload_n (pc := 26) rfl dX12_on_26 ?_
      exact G_iret (pc := 27) (Nat.le_of_ble_eq_true rfl) (Nat.le_of_ble_eq_true rfl) rfl dX12_on_27 (by first | rfl | (simp [F_on, *]; done) | (simp only [F_on, Int32.le_iff_toInt_le, Int32.lt_iff_toInt_lt, ← Int32.toInt_inj]; simp; omega) | (simp only [F_on, Int32.le_iff_toInt_le, Int32.lt_iff_toInt_lt, ← Int32.toInt_inj]; split <;> first | rfl | (exfalso; simp at *; omega)) | (unfold F_on; (repeat' split) <;> first | rfl | (exfalso; (try simp only [Int32.le_iff_toInt_le, Int32.lt_iff_toInt_lt, ← Int32.toInt_inj] at *); first | omega | (simp at *; done) | (simp at *; omega))))
    by_cases c341 : n = 3
    · subst c341
      refine G_callV (pc := 18) (mc1 := 0) (ms1 := 0) (ci := 12) (mj := mX12_restOf) (vs := [_]) dX12_on_18 rfl rfl cm_X12_restOf wh_123 wh_125 wh_126 rfl (Nat.le_of_ble_eq_true rfl) (Nat.le_of_ble_eq_true rfl) (Nat.le_of_ble_eq_true rfl) (Nat.le_of_ble_eq_true rfl) (s10284_X12_restOf J d  ) ?_
      rintro _ _ ⟨rfl, rfl⟩
      dsimp only [Option.toList, List.cons_append, List.nil_append]
      refine G_istore_n (pc := 21) (L1 := [some (.ref 67), some (.int 3), some (.int 0)]) rfl rfl (by decide) dX12_on_21 ?_
      refine G_aload_n (pc := 22) rfl dX12_on_22 ?_
      refine G_callV (pc := 23) (mc1 := 0) (ms1 := 0) (ci := 12) (mj := mX12_layBack) (vs := []) dX12_on_23 rfl rfl cm_X12_layBack wh_57 wh_59 wh_60 rfl (Nat.le_of_ble_eq_true rfl) (Nat.le_of_ble_eq_true rfl) (Nat.le_of_ble_eq_true rfl) (Nat.le_of_ble_eq_true rfl) (layBack_s (d + 2) (gup (gup (gup (gup (gup (gup (gcp (gmx J) 68 70 0 0 65) 68 0 1) 68 2 0) 68 0 2) 68 2 0) 68 0 3) 68 2 0)) ?_
      rintro _ _ ⟨rfl, rfl⟩
      dsimp only [Option.toList, List.cons_append, List.nil_append]
      refine G_iload_n (pc := 26) rfl dX12_on_26 ?_
      exact G_iret (pc := 27) (Nat.le_of_ble_eq_true rfl) (Nat.le_of_ble_eq_true rfl) rfl dX12_on_27 (by first | rfl | (simp [F_on, *]; done) | (simp only [F_on, Int32.le_iff_toInt_le, Int32.lt_iff_toInt_lt, ← Int32.toInt_inj]; simp; omega) | (simp only [F_on, Int32.le_iff_toInt_le, Int32.lt_iff_toInt_lt, ← Int32.toInt_inj]; split <;> first | rfl | (exfalso; simp at *; omega)) | (unfold F_on; (repeat' split) <;> first | rfl | (exfalso; (try simp only [Int32.le_iff_toInt_le, Int32.lt_iff_toInt_lt, ← Int32.toInt_inj] at *); first | omega | (simp at *; done) | (simp at *; omega))))
    by_cases c342 : n = 4
    · subst c342
      refine G_callV (pc := 18) (mc1 := 0) (ms1 := 0) (ci := 12) (mj := mX12_restOf) (vs := [_]) dX12_on_18 rfl rfl cm_X12_restOf wh_123 wh_125 wh_126 rfl (Nat.le_of_ble_eq_true rfl) (Nat.le_of_ble_eq_true rfl) (Nat.le_of_ble_eq_true rfl) (Nat.le_of_ble_eq_true rfl) (s10285_X12_restOf J d  ) ?_
      rintro _ _ ⟨rfl, rfl⟩
      dsimp only [Option.toList, List.cons_append, List.nil_append]
      refine G_istore_n (pc := 21) (L1 := [some (.ref 67), some (.int 4), some (.int 0)]) rfl rfl (by decide) dX12_on_21 ?_
      refine G_aload_n (pc := 22) rfl dX12_on_22 ?_
      refine G_callV (pc := 23) (mc1 := 0) (ms1 := 0) (ci := 12) (mj := mX12_layBack) (vs := []) dX12_on_23 rfl rfl cm_X12_layBack wh_57 wh_59 wh_60 rfl (Nat.le_of_ble_eq_true rfl) (Nat.le_of_ble_eq_true rfl) (Nat.le_of_ble_eq_true rfl) (Nat.le_of_ble_eq_true rfl) (layBack_s (d + 2) (gup (gup (gup (gup (gup (gup (gup (gup (gcp (gmx J) 68 70 0 0 65) 68 0 1) 68 2 0) 68 0 2) 68 2 0) 68 0 3) 68 2 0) 68 0 4) 68 2 0)) ?_
      rintro _ _ ⟨rfl, rfl⟩
      dsimp only [Option.toList, List.cons_append, List.nil_append]
      refine G_iload_n (pc := 26) rfl dX12_on_26 ?_
      exact G_iret (pc := 27) (Nat.le_of_ble_eq_true rfl) (Nat.le_of_ble_eq_true rfl) rfl dX12_on_27 (by first | rfl | (simp [F_on, *]; done) | (simp only [F_on, Int32.le_iff_toInt_le, Int32.lt_iff_toInt_lt, ← Int32.toInt_inj]; simp; omega) | (simp only [F_on, Int32.le_iff_toInt_le, Int32.lt_iff_toInt_lt, ← Int32.toInt_inj]; split <;> first | rfl | (exfalso; simp at *; omega)) | (unfold F_on; (repeat' split) <;> first | rfl | (exfalso; (try simp only [Int32.le_iff_toInt_le, Int32.lt_iff_toInt_lt, ← Int32.toInt_inj] at *); first | omega | (simp at *; done) | (simp at *; omega))))
    by_cases c343 : n = 5
    · subst c343
      refine G_callV (pc := 18) (mc1 := 0) (ms1 := 0) (ci := 12) (mj := mX12_restOf) (vs := [_]) dX12_on_18 rfl rfl cm_X12_restOf wh_123 wh_125 wh_126 rfl (Nat.le_of_ble_eq_true rfl) (Nat.le_of_ble_eq_true rfl) (Nat.le_of_ble_eq_true rfl) (Nat.le_of_ble_eq_true rfl) (s10286_X12_restOf J d  ) ?_
      rintro _ _ ⟨rfl, rfl⟩
      dsimp only [Option.toList, List.cons_append, List.nil_append]
      refine G_istore_n (pc := 21) (L1 := [some (.ref 67), some (.int 5), some (.int 0)]) rfl rfl (by decide) dX12_on_21 ?_
      refine G_aload_n (pc := 22) rfl dX12_on_22 ?_
      refine G_callV (pc := 23) (mc1 := 0) (ms1 := 0) (ci := 12) (mj := mX12_layBack) (vs := []) dX12_on_23 rfl rfl cm_X12_layBack wh_57 wh_59 wh_60 rfl (Nat.le_of_ble_eq_true rfl) (Nat.le_of_ble_eq_true rfl) (Nat.le_of_ble_eq_true rfl) (Nat.le_of_ble_eq_true rfl) (layBack_s (d + 2) (gup (gup (gup (gup (gup (gup (gup (gup (gup (gup (gcp (gmx J) 68 70 0 0 65) 68 0 1) 68 2 0) 68 0 2) 68 2 0) 68 0 3) 68 2 0) 68 0 4) 68 2 0) 68 0 5) 68 2 0)) ?_
      rintro _ _ ⟨rfl, rfl⟩
      dsimp only [Option.toList, List.cons_append, List.nil_append]
      refine G_iload_n (pc := 26) rfl dX12_on_26 ?_
      exact G_iret (pc := 27) (Nat.le_of_ble_eq_true rfl) (Nat.le_of_ble_eq_true rfl) rfl dX12_on_27 (by first | rfl | (simp [F_on, *]; done) | (simp only [F_on, Int32.le_iff_toInt_le, Int32.lt_iff_toInt_lt, ← Int32.toInt_inj]; simp; omega) | (simp only [F_on, Int32.le_iff_toInt_le, Int32.lt_iff_toInt_lt, ← Int32.toInt_inj]; split <;> first | rfl | (exfalso; simp at *; omega)) | (unfold F_on; (repeat' split) <;> first | rfl | (exfalso; (try simp only [Int32.le_iff_toInt_le, Int32.lt_iff_toInt_lt, ← Int32.toInt_inj] at *); first | omega | (simp at *; done) | (simp at *; omega))))
    by_cases c344 : n = 6
    · subst c344
      refine G_callV (pc := 18) (mc1 := 0) (ms1 := 0) (ci := 12) (mj := mX12_restOf) (vs := [_]) dX12_on_18 rfl rfl cm_X12_restOf wh_123 wh_125 wh_126 rfl (Nat.le_of_ble_eq_true rfl) (Nat.le_of_ble_eq_true rfl) (Nat.le_of_ble_eq_true rfl) (Nat.le_of_ble_eq_true rfl) (s10287_X12_restOf J d  ) ?_
      rintro _ _ ⟨rfl, rfl⟩
      dsimp only [Option.toList, List.cons_append, List.nil_append]
      refine G_istore_n (pc := 21) (L1 := [some (.ref 67), some (.int 6), some (.int 0)]) rfl rfl (by decide) dX12_on_21 ?_
      refine G_aload_n (pc := 22) rfl dX12_on_22 ?_
      refine G_callV (pc := 23) (mc1 := 0) (ms1 := 0) (ci := 12) (mj := mX12_layBack) (vs := []) dX12_on_23 rfl rfl cm_X12_layBack wh_57 wh_59 wh_60 rfl (Nat.le_of_ble_eq_true rfl) (Nat.le_of_ble_eq_true rfl) (Nat.le_of_ble_eq_true rfl) (Nat.le_of_ble_eq_true rfl) (layBack_s (d + 2) (gup (gup (gup (gup (gup (gup (gup (gup (gup (gup (gup (gup (gcp (gmx J) 68 70 0 0 65) 68 0 1) 68 2 0) 68 0 2) 68 2 0) 68 0 3) 68 2 0) 68 0 4) 68 2 0) 68 0 5) 68 2 0) 68 0 6) 68 2 0)) ?_
      rintro _ _ ⟨rfl, rfl⟩
      dsimp only [Option.toList, List.cons_append, List.nil_append]
      refine G_iload_n (pc := 26) rfl dX12_on_26 ?_
      exact G_iret (pc := 27) (Nat.le_of_ble_eq_true rfl) (Nat.le_of_ble_eq_true rfl) rfl dX12_on_27 (by first | rfl | (simp [F_on, *]; done) | (simp only [F_on, Int32.le_iff_toInt_le, Int32.lt_iff_toInt_lt, ← Int32.toInt_inj]; simp; omega) | (simp only [F_on, Int32.le_iff_toInt_le, Int32.lt_iff_toInt_lt, ← Int32.toInt_inj]; split <;> first | rfl | (exfalso; simp at *; omega)) | (unfold F_on; (repeat' split) <;> first | rfl | (exfalso; (try simp only [Int32.le_iff_toInt_le, Int32.lt_iff_toInt_lt, ← Int32.toInt_inj] at *); first | omega | (simp at *; done) | (simp at *; omega))))
    by_cases c345 : n = 7
    · subst c345
      refine G_callV (pc := 18) (mc1 := 0) (ms1 := 0) (ci := 12) (mj := mX12_restOf) (vs := [_]) dX12_on_18 rfl rfl cm_X12_restOf wh_123 wh_125 wh_126 rfl (Nat.le_of_ble_eq_true rfl) (Nat.le_of_ble_eq_true rfl) (Nat.le_of_ble_eq_true rfl) (Nat.le_of_ble_eq_true rfl) (s10288_X12_restOf J d  ) ?_
      rintro _ _ ⟨rfl, rfl⟩
      dsimp only [Option.toList, List.cons_append, List.nil_append]
      refine G_istore_n (pc := 21) (L1 := [some (.ref 67), some (.int 7), some (.int 0)]) rfl rfl (by decide) dX12_on_21 ?_
      refine G_aload_n (pc := 22) rfl dX12_on_22 ?_
      refine G_callV (pc := 23) (mc1 := 0) (ms1 := 0) (ci := 12) (mj := mX12_layBack) (vs := []) dX12_on_23 rfl rfl cm_X12_layBack wh_57 wh_59 wh_60 rfl (Nat.le_of_ble_eq_true rfl) (Nat.le_of_ble_eq_true rfl) (Nat.le_of_ble_eq_true rfl) (Nat.le_of_ble_eq_true rfl) (layBack_s (d + 2) (gup (gup (gup (gup (gup (gup (gup (gup (gup (gup (gup (gup (gup (gup (gcp (gmx J) 68 70 0 0 65) 68 0 1) 68 2 0) 68 0 2) 68 2 0) 68 0 3) 68 2 0) 68 0 4) 68 2 0) 68 0 5) 68 2 0) 68 0 6) 68 2 0) 68 0 7) 68 2 0)) ?_
      rintro _ _ ⟨rfl, rfl⟩
      dsimp only [Option.toList, List.cons_append, List.nil_append]
      refine G_iload_n (pc := 26) rfl dX12_on_26 ?_
      exact G_iret (pc := 27) (Nat.le_of_ble_eq_true rfl) (Nat.le_of_ble_eq_true rfl) rfl dX12_on_27 (by first | rfl | (simp [F_on, *]; done) | (simp only [F_on, Int32.le_iff_toInt_le, Int32.lt_iff_toInt_lt, ← Int32.toInt_inj]; simp; omega) | (simp only [F_on, Int32.le_iff_toInt_le, Int32.lt_iff_toInt_lt, ← Int32.toInt_inj]; split <;> first | rfl | (exfalso; simp at *; omega)) | (unfold F_on; (repeat' split) <;> first | rfl | (exfalso; (try simp only [Int32.le_iff_toInt_le, Int32.lt_iff_toInt_lt, ← Int32.toInt_inj] at *); first | omega | (simp at *; done) | (simp at *; omega))))
    by_cases c346 : n = 8
    · subst c346
      refine G_callV (pc := 18) (mc1 := 0) (ms1 := 0) (ci := 12) (mj := mX12_restOf) (vs := [_]) dX12_on_18 rfl rfl cm_X12_restOf wh_123 wh_125 wh_126 rfl (Nat.le_of_ble_eq_true rfl) (Nat.le_of_ble_eq_true rfl) (Nat.le_of_ble_eq_true rfl) (Nat.le_of_ble_eq_true rfl) (s10289_X12_restOf J d  ) ?_
      rintro _ _ ⟨rfl, rfl⟩
      dsimp only [Option.toList, List.cons_append, List.nil_append]
      refine G_istore_n (pc := 21) (L1 := [some (.ref 67), some (.int 8), some (.int 0)]) rfl rfl (by decide) dX12_on_21 ?_
      refine G_aload_n (pc := 22) rfl dX12_on_22 ?_
      refine G_callV (pc := 23) (mc1 := 0) (ms1 := 0) (ci := 12) (mj := mX12_layBack) (vs := []) dX12_on_23 rfl rfl cm_X12_layBack wh_57 wh_59 wh_60 rfl (Nat.le_of_ble_eq_true rfl) (Nat.le_of_ble_eq_true rfl) (Nat.le_of_ble_eq_true rfl) (Nat.le_of_ble_eq_true rfl) (layBack_s (d + 2) (gup (gup (gup (gup (gup (gup (gup (gup (gup (gup (gup (gup (gup (gup (gup (gup (gcp (gmx J) 68 70 0 0 65) 68 0 1) 68 2 0) 68 0 2) 68 2 0) 68 0 3) 68 2 0) 68 0 4) 68 2 0) 68 0 5) 68 2 0) 68 0 6) 68 2 0) 68 0 7) 68 2 0) 68 0 8) 68 2 0)) ?_
      rintro _ _ ⟨rfl, rfl⟩
      dsimp only [Option.toList, List.cons_append, List.nil_append]
      refine G_iload_n (pc := 26) rfl dX12_on_26 ?_
      exact G_iret (pc := 27) (Nat.le_of_ble_eq_true rfl) (Nat.le_of_ble_eq_true rfl) rfl dX12_on_27 (by first | rfl | (simp [F_on, *]; done) | (simp only [F_on, Int32.le_iff_toInt_le, Int32.lt_iff_toInt_lt, ← Int32.toInt_inj]; simp; omega) | (simp only [F_on, Int32.le_iff_toInt_le, Int32.lt_iff_toInt_lt, ← Int32.toInt_inj]; split <;> first | rfl | (exfalso; simp at *; omega)) | (unfold F_on; (repeat' split) <;> first | rfl | (exfalso; (try simp only [Int32.le_iff_toInt_le, Int32.lt_iff_toInt_lt, ← Int32.toInt_inj] at *); first | omega | (simp at *; done) | (simp at *; omega))))
    by_cases c347 : n = 9
    · subst c347
      refine G_callV (pc := 18) (mc1 := 0) (ms1 := 0) (ci := 12) (mj := mX12_restOf) (vs := [_]) dX12_on_18 rfl rfl cm_X12_restOf wh_123 wh_125 wh_126 rfl (Nat.le_of_ble_eq_true rfl) (Nat.le_of_ble_eq_true rfl) (Nat.le_of_ble_eq_true rfl) (Nat.le_of_ble_eq_true rfl) (s10290_X12_restOf J d  ) ?_
      rintro _ _ ⟨rfl, rfl⟩
      dsimp only [Option.toList, List.cons_append, List.nil_append]
      refine G_istore_n (pc := 21) (L1 := [some (.ref 67), some (.int 9), some (.int 0)]) rfl rfl (by decide) dX12_on_21 ?_
      refine G_aload_n (pc := 22) rfl dX12_on_22 ?_
      refine G_callV (pc := 23) (mc1 := 0) (ms1 := 0) (ci := 12) (mj := mX12_layBack) (vs := []) dX12_on_23 rfl rfl cm_X12_layBack wh_57 wh_59 wh_60 rfl (Nat.le_of_ble_eq_true rfl) (Nat.le_of_ble_eq_true rfl) (Nat.le_of_ble_eq_true rfl) (Nat.le_of_ble_eq_true rfl) (layBack_s (d + 2) (gup (gup (gup (gup (gup (gup (gup (gup (gup (gup (gup (gup (gup (gup (gup (gup (gup (gup (gcp (gmx J) 68 70 0 0 65) 68 0 1) 68 2 0) 68 0 2) 68 2 0) 68 0 3) 68 2 0) 68 0 4) 68 2 0) 68 0 5) 68 2 0) 68 0 6) 68 2 0) 68 0 7) 68 2 0) 68 0 8) 68 2 0) 68 0 9) 68 2 0)) ?_
      rintro _ _ ⟨rfl, rfl⟩
      dsimp only [Option.toList, List.cons_append, List.nil_append]
      refine G_iload_n (pc := 26) rfl dX12_on_26 ?_
      exact G_iret (pc := 27) (Nat.le_of_ble_eq_true rfl) (Nat.le_of_ble_eq_true rfl) rfl dX12_on_27 (by first | rfl | (simp [F_on, *]; done) | (simp only [F_on, Int32.le_iff_toInt_le, Int32.lt_iff_toInt_lt, ← Int32.toInt_inj]; simp; omega) | (simp only [F_on, Int32.le_iff_toInt_le, Int32.lt_iff_toInt_lt, ← Int32.toInt_inj]; split <;> first | rfl | (exfalso; simp at *; omega)) | (unfold F_on; (repeat' split) <;> first | rfl | (exfalso; (try simp only [Int32.le_iff_toInt_le, Int32.lt_iff_toInt_lt, ← Int32.toInt_inj] at *); first | omega | (simp at *; done) | (simp at *; omega))))
    by_cases c348 : n = 10
    · subst c348
      refine G_callV (pc := 18) (mc1 := 0) (ms1 := 0) (ci := 12) (mj := mX12_restOf) (vs := [_]) dX12_on_18 rfl rfl cm_X12_restOf wh_123 wh_125 wh_126 rfl (Nat.le_of_ble_eq_true rfl) (Nat.le_of_ble_eq_true rfl) (Nat.le_of_ble_eq_true rfl) (Nat.le_of_ble_eq_true rfl) (s10291_X12_restOf J d  ) ?_
      rintro _ _ ⟨rfl, rfl⟩
      dsimp only [Option.toList, List.cons_append, List.nil_append]
      refine G_istore_n (pc := 21) (L1 := [some (.ref 67), some (.int 10), some (.int 0)]) rfl rfl (by decide) dX12_on_21 ?_
      refine G_aload_n (pc := 22) rfl dX12_on_22 ?_
      refine G_callV (pc := 23) (mc1 := 0) (ms1 := 0) (ci := 12) (mj := mX12_layBack) (vs := []) dX12_on_23 rfl rfl cm_X12_layBack wh_57 wh_59 wh_60 rfl (Nat.le_of_ble_eq_true rfl) (Nat.le_of_ble_eq_true rfl) (Nat.le_of_ble_eq_true rfl) (Nat.le_of_ble_eq_true rfl) (layBack_s (d + 2) (gup (gup (gup (gup (gup (gup (gup (gup (gup (gup (gup (gup (gup (gup (gup (gup (gup (gup (gup (gup (gcp (gmx J) 68 70 0 0 65) 68 0 1) 68 2 0) 68 0 2) 68 2 0) 68 0 3) 68 2 0) 68 0 4) 68 2 0) 68 0 5) 68 2 0) 68 0 6) 68 2 0) 68 0 7) 68 2 0) 68 0 8) 68 2 0) 68 0 9) 68 2 0) 68 0 10) 68 2 0)) ?_
      rintro _ _ ⟨rfl, rfl⟩
      dsimp only [Option.toList, List.cons_append, List.nil_append]
      refine G_iload_n (pc := 26) rfl dX12_on_26 ?_
      exact G_iret (pc := 27) (Nat.le_of_ble_eq_true rfl) (Nat.le_of_ble_eq_true rfl) rfl dX12_on_27 (by first | rfl | (simp [F_on, *]; done) | (simp only [F_on, Int32.le_iff_toInt_le, Int32.lt_iff_toInt_lt, ← Int32.toInt_inj]; simp; omega) | (simp only [F_on, Int32.le_iff_toInt_le, Int32.lt_iff_toInt_lt, ← Int32.toInt_inj]; split <;> first | rfl | (exfalso; simp at *; omega)) | (unfold F_on; (repeat' split) <;> first | rfl | (exfalso; (try simp only [Int32.le_iff_toInt_le, Int32.lt_iff_toInt_lt, ← Int32.toInt_inj] at *); first | omega | (simp at *; done) | (simp at *; omega))))
    by_cases c349 : n = 11
    · subst c349
      refine G_callV (pc := 18) (mc1 := 0) (ms1 := 0) (ci := 12) (mj := mX12_restOf) (vs := [_]) dX12_on_18 rfl rfl cm_X12_restOf wh_123 wh_125 wh_126 rfl (Nat.le_of_ble_eq_true rfl) (Nat.le_of_ble_eq_true rfl) (Nat.le_of_ble_eq_true rfl) (Nat.le_of_ble_eq_true rfl) (s10292_X12_restOf J d  ) ?_
      rintro _ _ ⟨rfl, rfl⟩
      dsimp only [Option.toList, List.cons_append, List.nil_append]
      refine G_istore_n (pc := 21) (L1 := [some (.ref 67), some (.int 11), some (.int 0)]) rfl rfl (by decide) dX12_on_21 ?_
      refine G_aload_n (pc := 22) rfl dX12_on_22 ?_
      refine G_callV (pc := 23) (mc1 := 0) (ms1 := 0) (ci := 12) (mj := mX12_layBack) (vs := []) dX12_on_23 rfl rfl cm_X12_layBack wh_57 wh_59 wh_60 rfl (Nat.le_of_ble_eq_true rfl) (Nat.le_of_ble_eq_true rfl) (Nat.le_of_ble_eq_true rfl) (Nat.le_of_ble_eq_true rfl) (layBack_s (d + 2) (gup (gup (gup (gup (gup (gup (gup (gup (gup (gup (gup (gup (gup (gup (gup (gup (gup (gup (gup (gup (gup (gup (gcp (gmx J) 68 70 0 0 65) 68 0 1) 68 2 0) 68 0 2) 68 2 0) 68 0 3) 68 2 0) 68 0 4) 68 2 0) 68 0 5) 68 2 0) 68 0 6) 68 2 0) 68 0 7) 68 2 0) 68 0 8) 68 2 0) 68 0 9) 68 2 0) 68 0 10) 68 2 0) 68 0 11) 68 2 0)) ?_
      rintro _ _ ⟨rfl, rfl⟩
      dsimp only [Option.toList, List.cons_append, List.nil_append]
      refine G_iload_n (pc := 26) rfl dX12_on_26 ?_
      exact G_iret (pc := 27) (Nat.le_of_ble_eq_true rfl) (Nat.le_of_ble_eq_true rfl) rfl dX12_on_27 (by first | rfl | (simp [F_on, *]; done) | (simp only [F_on, Int32.le_iff_toInt_le, Int32.lt_iff_toInt_lt, ← Int32.toInt_inj]; simp; omega) | (simp only [F_on, Int32.le_iff_toInt_le, Int32.lt_iff_toInt_lt, ← Int32.toInt_inj]; split <;> first | rfl | (exfalso; simp at *; omega)) | (unfold F_on; (repeat' split) <;> first | rfl | (exfalso; (try simp only [Int32.le_iff_toInt_le, Int32.lt_iff_toInt_lt, ← Int32.toInt_inj] at *); first | omega | (simp at *; done) | (simp at *; omega))))
    by_cases c350 : n = 12
    · subst c350
      refine G_callV (pc := 18) (mc1 := 0) (ms1 := 0) (ci := 12) (mj := mX12_restOf) (vs := [_]) dX12_on_18 rfl rfl cm_X12_restOf wh_123 wh_125 wh_126 rfl (Nat.le_of_ble_eq_true rfl) (Nat.le_of_ble_eq_true rfl) (Nat.le_of_ble_eq_true rfl) (Nat.le_of_ble_eq_true rfl) (s10293_X12_restOf J d  ) ?_
      rintro _ _ ⟨rfl, rfl⟩
      dsimp only [Option.toList, List.cons_append, List.nil_append]
      refine G_istore_n (pc := 21) (L1 := [some (.ref 67), some (.int 12), some (.int 0)]) rfl rfl (by decide) dX12_on_21 ?_
      refine G_aload_n (pc := 22) rfl dX12_on_22 ?_
      refine G_callV (pc := 23) (mc1 := 0) (ms1 := 0) (ci := 12) (mj := mX12_layBack) (vs := []) dX12_on_23 rfl rfl cm_X12_layBack wh_57 wh_59 wh_60 rfl (Nat.le_of_ble_eq_true rfl) (Nat.le_of_ble_eq_true rfl) (Nat.le_of_ble_eq_true rfl) (Nat.le_of_ble_eq_true rfl) (layBack_s (d + 2) (gup (gup (gup (gup (gup (gup (gup (gup (gup (gup (gup (gup (gup (gup (gup (gup (gup (gup (gup (gup (gup (gup (gup (gup (gcp (gmx J) 68 70 0 0 65) 68 0 1) 68 2 0) 68 0 2) 68 2 0) 68 0 3) 68 2 0) 68 0 4) 68 2 0) 68 0 5) 68 2 0) 68 0 6) 68 2 0) 68 0 7) 68 2 0) 68 0 8) 68 2 0) 68 0 9) 68 2 0) 68 0 10) 68 2 0) 68 0 11) 68 2 0) 68 0 12) 68 2 0)) ?_
      rintro _ _ ⟨rfl, rfl⟩
      dsimp only [Option.toList, List.cons_append, List.nil_append]
      refine G_iload_n (pc := 26) rfl dX12_on_26 ?_
      exact G_iret (pc := 27) (Nat.le_of_ble_eq_true rfl) (Nat.le_of_ble_eq_true rfl) rfl dX12_on_27 (by first | rfl | (simp [F_on, *]; done) | (simp only [F_on, Int32.le_iff_toInt_le, Int32.lt_iff_toInt_lt, ← Int32.toInt_inj]; simp; omega) | (simp only [F_on, Int32.le_iff_toInt_le, Int32.lt_iff_toInt_lt, ← Int32.toInt_inj]; split <;> first | rfl | (exfalso; simp at *; omega)) | (unfold F_on; (repeat' split) <;> first | rfl | (exfalso; (try simp only [Int32.le_iff_toInt_le, Int32.lt_iff_toInt_lt, ← Int32.toInt_inj] at *); first | omega | (simp at *; done) | (simp at *; omega))))
    by_cases c351 : n = 13
    · subst c351
      refine G_callV (pc := 18) (mc1 := 0) (ms1 := 0) (ci := 12) (mj := mX12_restOf) (vs := [_]) dX12_on_18 rfl rfl cm_X12_restOf wh_123 wh_125 wh_126 rfl (Nat.le_of_ble_eq_true rfl) (Nat.le_of_ble_eq_true rfl) (Nat.le_of_ble_eq_true rfl) (Nat.le_of_ble_eq_true rfl) (s10294_X12_restOf J d  ) ?_
      rintro _ _ ⟨rfl, rfl⟩
      dsimp only [Option.toList, List.cons_append, List.nil_append]
      refine G_istore_n (pc := 21) (L1 := [some (.ref 67), some (.int 13), some (.int 0)]) rfl rfl (by decide) dX12_on_21 ?_
      refine G_aload_n (pc := 22) rfl dX12_on_22 ?_
      refine G_callV (pc := 23) (mc1 := 0) (ms1 := 0) (ci := 12) (mj := mX12_layBack) (vs := []) dX12_on_23 rfl rfl cm_X12_layBack wh_57 wh_59 wh_60 rfl (Nat.le_of_ble_eq_true rfl) (Nat.le_of_ble_eq_true rfl) (Nat.le_of_ble_eq_true rfl) (Nat.le_of_ble_eq_true rfl) (layBack_s (d + 2) (gup (gup (gup (gup (gup (gup (gup (gup (gup (gup (gup (gup (gup (gup (gup (gup (gup (gup (gup (gup (gup (gup (gup (gup (gcp (gmx J) 68 70 0 0 65) 68 0 1) 68 2 0) 68 0 2) 68 2 0) 68 0 3) 68 2 0) 68 0 4) 68 2 0) 68 0 5) 68 2 0) 68 0 6) 68 2 0) 68 0 7) 68 2 0) 68 0 8) 68 2 0) 68 0 9) 68 2 0) 68 0 10) 68 2 0) 68 0 11) 68 2 0) 68 0 12) 68 2 0)) ?_
      rintro _ _ ⟨rfl, rfl⟩
      dsimp only [Option.toList, List.cons_append, List.nil_append]
      refine G_iload_n (pc := 26) rfl dX12_on_26 ?_
      exact G_iret (pc := 27) (Nat.le_of_ble_eq_true rfl) (Nat.le_of_ble_eq_true rfl) rfl dX12_on_27 (by first | rfl | (simp [F_on, *]; done) | (simp only [F_on, Int32.le_iff_toInt_le, Int32.lt_iff_toInt_lt, ← Int32.toInt_inj]; simp; omega) | (simp only [F_on, Int32.le_iff_toInt_le, Int32.lt_iff_toInt_lt, ← Int32.toInt_inj]; split <;> first | rfl | (exfalso; simp at *; omega)) | (unfold F_on; (repeat' split) <;> first | rfl | (exfalso; (try simp only [Int32.le_iff_toInt_le, Int32.lt_iff_toInt_lt, ← Int32.toInt_inj] at *); first | omega | (simp at *; done) | (simp at *; omega))))
    by_cases c352 : n = 14
    · subst c352
      refine G_callV (pc := 18) (mc1 := 0) (ms1 := 0) (ci := 12) (mj := mX12_restOf) (vs := [_]) dX12_on_18 rfl rfl cm_X12_restOf wh_123 wh_125 wh_126 rfl (Nat.le_of_ble_eq_true rfl) (Nat.le_of_ble_eq_true rfl) (Nat.le_of_ble_eq_true rfl) (Nat.le_of_ble_eq_true rfl) (s10295_X12_restOf J d  ) ?_
      rintro _ _ ⟨rfl, rfl⟩
      dsimp only [Option.toList, List.cons_append, List.nil_append]
      refine G_istore_n (pc := 21) (L1 := [some (.ref 67), some (.int 14), some (.int 0)]) rfl rfl (by decide) dX12_on_21 ?_
      refine G_aload_n (pc := 22) rfl dX12_on_22 ?_
      refine G_callV (pc := 23) (mc1 := 0) (ms1 := 0) (ci := 12) (mj := mX12_layBack) (vs := []) dX12_on_23 rfl rfl cm_X12_layBack wh_57 wh_59 wh_60 rfl (Nat.le_of_ble_eq_true rfl) (Nat.le_of_ble_eq_true rfl) (Nat.le_of_ble_eq_true rfl) (Nat.le_of_ble_eq_true rfl) (layBack_s (d + 2) (gup (gup (gup (gup (gup (gup (gup (gup (gup (gup (gup (gup (gup (gup (gup (gup (gup (gup (gup (gup (gup (gup (gup (gup (gcp (gmx J) 68 70 0 0 65) 68 0 1) 68 2 0) 68 0 2) 68 2 0) 68 0 3) 68 2 0) 68 0 4) 68 2 0) 68 0 5) 68 2 0) 68 0 6) 68 2 0) 68 0 7) 68 2 0) 68 0 8) 68 2 0) 68 0 9) 68 2 0) 68 0 10) 68 2 0) 68 0 11) 68 2 0) 68 0 12) 68 2 0)) ?_
      rintro _ _ ⟨rfl, rfl⟩
      dsimp only [Option.toList, List.cons_append, List.nil_append]
      refine G_iload_n (pc := 26) rfl dX12_on_26 ?_
      exact G_iret (pc := 27) (Nat.le_of_ble_eq_true rfl) (Nat.le_of_ble_eq_true rfl) rfl dX12_on_27 (by first | rfl | (simp [F_on, *]; done) | (simp only [F_on, Int32.le_iff_toInt_le, Int32.lt_iff_toInt_lt, ← Int32.toInt_inj]; simp; omega) | (simp only [F_on, Int32.le_iff_toInt_le, Int32.lt_iff_toInt_lt, ← Int32.toInt_inj]; split <;> first | rfl | (exfalso; simp at *; omega)) | (unfold F_on; (repeat' split) <;> first | rfl | (exfalso; (try simp only [Int32.le_iff_toInt_le, Int32.lt_iff_toInt_lt, ← Int32.toInt_inj] at *); first | omega | (simp at *; done) | (simp at *; omega))))
    by_cases c353 : n = 15
    · subst c353
      refine G_callV (pc := 18) (mc1 := 0) (ms1 := 0) (ci := 12) (mj := mX12_restOf) (vs := [_]) dX12_on_18 rfl rfl cm_X12_restOf wh_123 wh_125 wh_126 rfl (Nat.le_of_ble_eq_true rfl) (Nat.le_of_ble_eq_true rfl) (Nat.le_of_ble_eq_true rfl) (Nat.le_of_ble_eq_true rfl) (s10296_X12_restOf J d  ) ?_
      rintro _ _ ⟨rfl, rfl⟩
      dsimp only [Option.toList, List.cons_append, List.nil_append]
      refine G_istore_n (pc := 21) (L1 := [some (.ref 67), some (.int 15), some (.int 0)]) rfl rfl (by decide) dX12_on_21 ?_
      refine G_aload_n (pc := 22) rfl dX12_on_22 ?_
      refine G_callV (pc := 23) (mc1 := 0) (ms1 := 0) (ci := 12) (mj := mX12_layBack) (vs := []) dX12_on_23 rfl rfl cm_X12_layBack wh_57 wh_59 wh_60 rfl (Nat.le_of_ble_eq_true rfl) (Nat.le_of_ble_eq_true rfl) (Nat.le_of_ble_eq_true rfl) (Nat.le_of_ble_eq_true rfl) (layBack_s (d + 2) (gup (gup (gup (gup (gup (gup (gup (gup (gup (gup (gup (gup (gup (gup (gup (gup (gup (gup (gup (gup (gup (gup (gup (gup (gcp (gmx J) 68 70 0 0 65) 68 0 1) 68 2 0) 68 0 2) 68 2 0) 68 0 3) 68 2 0) 68 0 4) 68 2 0) 68 0 5) 68 2 0) 68 0 6) 68 2 0) 68 0 7) 68 2 0) 68 0 8) 68 2 0) 68 0 9) 68 2 0) 68 0 10) 68 2 0) 68 0 11) 68 2 0) 68 0 12) 68 2 0)) ?_
      rintro _ _ ⟨rfl, rfl⟩
      dsimp only [Option.toList, List.cons_append, List.nil_append]
      refine G_iload_n (pc := 26) rfl dX12_on_26 ?_
      exact G_iret (pc := 27) (Nat.le_of_ble_eq_true rfl) (Nat.le_of_ble_eq_true rfl) rfl dX12_on_27 (by first | rfl | (simp [F_on, *]; done) | (simp only [F_on, Int32.le_iff_toInt_le, Int32.lt_iff_toInt_lt, ← Int32.toInt_inj]; simp; omega) | (simp only [F_on, Int32.le_iff_toInt_le, Int32.lt_iff_toInt_lt, ← Int32.toInt_inj]; split <;> first | rfl | (exfalso; simp at *; omega)) | (unfold F_on; (repeat' split) <;> first | rfl | (exfalso; (try simp only [Int32.le_iff_toInt_le, Int32.lt_iff_toInt_lt, ← Int32.toInt_inj] at *); first | omega | (simp at *; done) | (simp at *; omega))))
    by_cases c354 : n = 16
    · subst c354
      refine G_callV (pc := 18) (mc1 := 0) (ms1 := 0) (ci := 12) (mj := mX12_restOf) (vs := [_]) dX12_on_18 rfl rfl cm_X12_restOf wh_123 wh_125 wh_126 rfl (Nat.le_of_ble_eq_true rfl) (Nat.le_of_ble_eq_true rfl) (Nat.le_of_ble_eq_true rfl) (Nat.le_of_ble_eq_true rfl) (s10297_X12_restOf J d  ) ?_
      rintro _ _ ⟨rfl, rfl⟩
      dsimp only [Option.toList, List.cons_append, List.nil_append]
      refine G_istore_n (pc := 21) (L1 := [some (.ref 67), some (.int 16), some (.int 0)]) rfl rfl (by decide) dX12_on_21 ?_
      refine G_aload_n (pc := 22) rfl dX12_on_22 ?_
      refine G_callV (pc := 23) (mc1 := 0) (ms1 := 0) (ci := 12) (mj := mX12_layBack) (vs := []) dX12_on_23 rfl rfl cm_X12_layBack wh_57 wh_59 wh_60 rfl (Nat.le_of_ble_eq_true rfl) (Nat.le_of_ble_eq_true rfl) (Nat.le_of_ble_eq_true rfl) (Nat.le_of_ble_eq_true rfl) (layBack_s (d + 2) (gup (gup (gup (gup (gup (gup (gup (gup (gup (gup (gup (gup (gup (gup (gup (gup (gup (gup (gup (gup (gup (gup (gup (gup (gcp (gmx J) 68 70 0 0 65) 68 0 1) 68 2 0) 68 0 2) 68 2 0) 68 0 3) 68 2 0) 68 0 4) 68 2 0) 68 0 5) 68 2 0) 68 0 6) 68 2 0) 68 0 7) 68 2 0) 68 0 8) 68 2 0) 68 0 9) 68 2 0) 68 0 10) 68 2 0) 68 0 11) 68 2 0) 68 0 12) 68 2 0)) ?_
      rintro _ _ ⟨rfl, rfl⟩
      dsimp only [Option.toList, List.cons_append, List.nil_append]
      refine G_iload_n (pc := 26) rfl dX12_on_26 ?_
      exact G_iret (pc := 27) (Nat.le_of_ble_eq_true rfl) (Nat.le_of_ble_eq_true rfl) rfl dX12_on_27 (by first | rfl | (simp [F_on, *]; done) | (simp only [F_on, Int32.le_iff_toInt_le, Int32.lt_iff_toInt_lt, ← Int32.toInt_inj]; simp; omega) | (simp only [F_on, Int32.le_iff_toInt_le, Int32.lt_iff_toInt_lt, ← Int32.toInt_inj]; split <;> first | rfl | (exfalso; simp at *; omega)) | (unfold F_on; (repeat' split) <;> first | rfl | (exfalso; (try simp only [Int32.le_iff_toInt_le, Int32.lt_iff_toInt_lt, ← Int32.toInt_inj] at *); first | omega | (simp at *; done) | (simp at *; omega))))
    exfalso
    have : 0 ≤ (n).toInt := Int32.le_iff_toInt_le.mp (c324.1)
    have : (n).toInt ≤ 16 := Int32.le_iff_toInt_le.mp (c324.2)
    have : (n).toInt ≠ 0 := g_ne (c338)
    have : (n).toInt ≠ 1 := g_ne (c339)
    have : (n).toInt ≠ 2 := g_ne (c340)
    have : (n).toInt ≠ 3 := g_ne (c341)
    have : (n).toInt ≠ 4 := g_ne (c342)
    have : (n).toInt ≠ 5 := g_ne (c343)
    have : (n).toInt ≠ 6 := g_ne (c344)
    have : (n).toInt ≠ 7 := g_ne (c345)
    have : (n).toInt ≠ 8 := g_ne (c346)
    have : (n).toInt ≠ 9 := g_ne (c347)
    have : (n).toInt ≠ 10 := g_ne (c348)
    have : (n).toInt ≠ 11 := g_ne (c349)
    have : (n).toInt ≠ 12 := g_ne (c350)
    have : (n).toInt ≠ 13 := g_ne (c351)
    have : (n).toInt ≠ 14 := g_ne (c352)
    have : (n).toInt ≠ 15 := g_ne (c353)
    have : (n).toInt ≠ 16 := g_ne (c354)
    omega
  · have c324 := gB_z c324
    refine G_iconst (pc := 10) (v := (-1)) (by decide) dX12_on_10 ?_
    exact G_iret (pc := 11) (Nat.le_of_ble_eq_true rfl) (Nat.le_of_ble_eq_true rfl) rfl dX12_on_11 (by first | rfl | (simp [F_on, *]; done) | (have : ¬ (0 ≤ (n).toInt ∧ (n).toInt ≤ 16) := fun z => c324 ⟨Int32.le_iff_toInt_le.mpr z.1, Int32.le_iff_toInt_le.mpr z.2⟩; simp only [F_on, Int32.le_iff_toInt_le, Int32.lt_iff_toInt_lt, ← Int32.toInt_inj]; simp; omega) | (have : ¬ (0 ≤ (n).toInt ∧ (n).toInt ≤ 16) := fun z => c324 ⟨Int32.le_iff_toInt_le.mpr z.1, Int32.le_iff_toInt_le.mpr z.2⟩; simp only [F_on, Int32.le_iff_toInt_le, Int32.lt_iff_toInt_lt, ← Int32.toInt_inj]; split <;> first | rfl | (exfalso; simp at *; omega)) | (have : ¬ (0 ≤ (n).toInt ∧ (n).toInt ≤ 16) := fun z => c324 ⟨Int32.le_iff_toInt_le.mpr z.1, Int32.le_iff_toInt_le.mpr z.2⟩; unfold F_on; (repeat' split) <;> first | rfl | (exfalso; (try simp only [Int32.le_iff_toInt_le, Int32.lt_iff_toInt_lt, ← Int32.toInt_inj] at *); first | omega | (simp at *; done) | (simp at *; omega))))
set_option maxRecDepth 100000 in
set_option maxHeartbeats 4000000 in
theorem s10298_X12_those (J : gI) (d : Nat)   : G (d) mX12_those 0 0 0 0 0 (gent 4 [.ref 67, .int 4]) [] SH0 RF0 (gcp (gmx J) 68 70 0 0 65) (fun r h => r = some (.int 0) ∧ h = (SH0, RF0, (gcp (gmx J) 68 70 0 0 65))) := by
  refine G_iconst (pc := 0) (v := 0) (by decide) dX12_those_0 ?_
  refine G_istore_n (pc := 1) (L1 := [some (.ref 67), some (.int 4), some (.int 0), none]) rfl rfl (by decide) dX12_those_1 ?_
  refine G_iconst (pc := 2) (v := 0) (by decide) dX12_those_2 ?_
  refine G_istore_n (pc := 3) (L1 := [some (.ref 67), some (.int 4), some (.int 0), some (.int 0)]) rfl rfl (by decide) dX12_those_3 ?_
  refine G_iload_n (pc := 4) rfl dX12_those_4 ?_
  refine G_aload_n (pc := 5) rfl dX12_those_5 ?_
  refine G_getR (pc := 6) (r := 68) (ci := 12) (j := 0) rfl lk_RX12_9 rfl rfl rfl dX12_those_6 ?_
  refine G_iconst (pc := 9) (v := 4) (by decide) dX12_those_9 ?_
  refine G_iald (pc := 10) (jj := 4) (v := 0) (by decide) rfl rfl (by unfold vp_in; decide) dX12_those_10 ?_
  refine G_icmp_ge (pc := 11) (tgt := 39) (by decide) dX12_those_11 (fun _ => ?_) (fun z => absurd (by decide) z)
  refine G_iload_n (pc := 39) rfl dX12_those_39 ?_
  exact G_iret (pc := 40) (Nat.le_of_ble_eq_true rfl) (Nat.le_of_ble_eq_true rfl) rfl dX12_those_40 ⟨rfl, rfl⟩
set_option maxRecDepth 100000 in
set_option maxHeartbeats 4000000 in
theorem s10299_X12_teethAll (J : gI) (d : Nat)   : G (d) mX12_teethAll 0 0 0 0 0 (gent 3 [.ref 67]) [] SH0 RF0 (gcp (gmx J) 68 70 0 0 65) (fun r h => r = some (.int 0) ∧ h = (SH0, RF0, (gcp (gmx J) 68 70 0 0 65))) := by
  refine G_iconst (pc := 0) (v := 0) (by decide) dX12_teethAll_0 ?_
  refine G_istore_n (pc := 1) (L1 := [some (.ref 67), some (.int 0), none]) rfl rfl (by decide) dX12_teethAll_1 ?_
  refine G_iconst (pc := 2) (v := 0) (by decide) dX12_teethAll_2 ?_
  refine G_istore_n (pc := 3) (L1 := [some (.ref 67), some (.int 0), some (.int 0)]) rfl rfl (by decide) dX12_teethAll_3 ?_
  refine G_iload_n (pc := 4) rfl dX12_teethAll_4 ?_
  refine G_aload_n (pc := 5) rfl dX12_teethAll_5 ?_
  refine G_getR (pc := 6) (r := 68) (ci := 12) (j := 0) rfl lk_RX12_9 rfl rfl rfl dX12_teethAll_6 ?_
  refine G_iconst (pc := 9) (v := 4) (by decide) dX12_teethAll_9 ?_
  refine G_iald (pc := 10) (jj := 4) (v := 0) (by decide) rfl rfl (by unfold vp_in; decide) dX12_teethAll_10 ?_
  refine G_icmp_ge (pc := 11) (tgt := 29) (by decide) dX12_teethAll_11 (fun _ => ?_) (fun z => absurd (by decide) z)
  refine G_iload_n (pc := 29) rfl dX12_teethAll_29 ?_
  exact G_iret (pc := 30) (Nat.le_of_ble_eq_true rfl) (Nat.le_of_ble_eq_true rfl) rfl dX12_teethAll_30 ⟨rfl, rfl⟩
set_option maxRecDepth 100000 in
set_option maxHeartbeats 4000000 in
theorem s10300_X12_those (J : gI) (d : Nat)   : G (d) mX12_those 0 0 0 0 0 (gent 4 [.ref 67, .int 4]) [] SH0 RF0 (gup (gup (gcp (gmx J) 68 70 0 0 65) 68 0 1) 68 2 0) (fun r h => r = some (.int 0) ∧ h = (SH0, RF0, (gup (gup (gcp (gmx J) 68 70 0 0 65) 68 0 1) 68 2 0))) := by
  refine G_iconst (pc := 0) (v := 0) (by decide) dX12_those_0 ?_
  refine G_istore_n (pc := 1) (L1 := [some (.ref 67), some (.int 4), some (.int 0), none]) rfl rfl (by decide) dX12_those_1 ?_
  refine G_iconst (pc := 2) (v := 0) (by decide) dX12_those_2 ?_
  refine G_istore_n (pc := 3) (L1 := [some (.ref 67), some (.int 4), some (.int 0), some (.int 0)]) rfl rfl (by decide) dX12_those_3 ?_
  refine G_iload_n (pc := 4) rfl dX12_those_4 ?_
  refine G_aload_n (pc := 5) rfl dX12_those_5 ?_
  refine G_getR (pc := 6) (r := 68) (ci := 12) (j := 0) rfl lk_RX12_9 rfl rfl rfl dX12_those_6 ?_
  refine G_iconst (pc := 9) (v := 4) (by decide) dX12_those_9 ?_
  refine G_iald (pc := 10) (jj := 4) (v := 0) (by decide) rfl rfl (by unfold vp_in; decide) dX12_those_10 ?_
  refine G_icmp_ge (pc := 11) (tgt := 39) (by decide) dX12_those_11 (fun _ => ?_) (fun z => absurd (by decide) z)
  refine G_iload_n (pc := 39) rfl dX12_those_39 ?_
  exact G_iret (pc := 40) (Nat.le_of_ble_eq_true rfl) (Nat.le_of_ble_eq_true rfl) rfl dX12_those_40 ⟨rfl, rfl⟩
set_option maxRecDepth 100000 in
set_option maxHeartbeats 4000000 in
theorem s10301_X12_teethAll (J : gI) (d : Nat)   : G (d) mX12_teethAll 0 0 0 0 0 (gent 3 [.ref 67]) [] SH0 RF0 (gup (gup (gcp (gmx J) 68 70 0 0 65) 68 0 1) 68 2 0) (fun r h => r = some (.int 0) ∧ h = (SH0, RF0, (gup (gup (gcp (gmx J) 68 70 0 0 65) 68 0 1) 68 2 0))) := by
  refine G_iconst (pc := 0) (v := 0) (by decide) dX12_teethAll_0 ?_
  refine G_istore_n (pc := 1) (L1 := [some (.ref 67), some (.int 0), none]) rfl rfl (by decide) dX12_teethAll_1 ?_
  refine G_iconst (pc := 2) (v := 0) (by decide) dX12_teethAll_2 ?_
  refine G_istore_n (pc := 3) (L1 := [some (.ref 67), some (.int 0), some (.int 0)]) rfl rfl (by decide) dX12_teethAll_3 ?_
  refine G_iload_n (pc := 4) rfl dX12_teethAll_4 ?_
  refine G_aload_n (pc := 5) rfl dX12_teethAll_5 ?_
  refine G_getR (pc := 6) (r := 68) (ci := 12) (j := 0) rfl lk_RX12_9 rfl rfl rfl dX12_teethAll_6 ?_
  refine G_iconst (pc := 9) (v := 4) (by decide) dX12_teethAll_9 ?_
  refine G_iald (pc := 10) (jj := 4) (v := 0) (by decide) rfl rfl (by unfold vp_in; decide) dX12_teethAll_10 ?_
  refine G_icmp_ge (pc := 11) (tgt := 29) (by decide) dX12_teethAll_11 (fun _ => ?_) (fun z => absurd (by decide) z)
  refine G_iload_n (pc := 29) rfl dX12_teethAll_29 ?_
  exact G_iret (pc := 30) (Nat.le_of_ble_eq_true rfl) (Nat.le_of_ble_eq_true rfl) rfl dX12_teethAll_30 ⟨rfl, rfl⟩
set_option maxRecDepth 100000 in
set_option maxHeartbeats 4000000 in
theorem s10302_X12_those (J : gI) (d : Nat)   : G (d) mX12_those 0 0 0 0 0 (gent 4 [.ref 67, .int 4]) [] SH0 RF0 (gup (gup (gup (gup (gcp (gmx J) 68 70 0 0 65) 68 0 1) 68 2 0) 68 0 2) 68 2 0) (fun r h => r = some (.int 0) ∧ h = (SH0, RF0, (gup (gup (gup (gup (gcp (gmx J) 68 70 0 0 65) 68 0 1) 68 2 0) 68 0 2) 68 2 0))) := by
  refine G_iconst (pc := 0) (v := 0) (by decide) dX12_those_0 ?_
  refine G_istore_n (pc := 1) (L1 := [some (.ref 67), some (.int 4), some (.int 0), none]) rfl rfl (by decide) dX12_those_1 ?_
  refine G_iconst (pc := 2) (v := 0) (by decide) dX12_those_2 ?_
  refine G_istore_n (pc := 3) (L1 := [some (.ref 67), some (.int 4), some (.int 0), some (.int 0)]) rfl rfl (by decide) dX12_those_3 ?_
  refine G_iload_n (pc := 4) rfl dX12_those_4 ?_
  refine G_aload_n (pc := 5) rfl dX12_those_5 ?_
  refine G_getR (pc := 6) (r := 68) (ci := 12) (j := 0) rfl lk_RX12_9 rfl rfl rfl dX12_those_6 ?_
  refine G_iconst (pc := 9) (v := 4) (by decide) dX12_those_9 ?_
  refine G_iald (pc := 10) (jj := 4) (v := 0) (by decide) rfl rfl (by unfold vp_in; decide) dX12_those_10 ?_
  refine G_icmp_ge (pc := 11) (tgt := 39) (by decide) dX12_those_11 (fun _ => ?_) (fun z => absurd (by decide) z)
  refine G_iload_n (pc := 39) rfl dX12_those_39 ?_
  exact G_iret (pc := 40) (Nat.le_of_ble_eq_true rfl) (Nat.le_of_ble_eq_true rfl) rfl dX12_those_40 ⟨rfl, rfl⟩
set_option maxRecDepth 100000 in
set_option maxHeartbeats 4000000 in
theorem s10303_X12_teethAll (J : gI) (d : Nat)   : G (d) mX12_teethAll 0 0 0 0 0 (gent 3 [.ref 67]) [] SH0 RF0 (gup (gup (gup (gup (gcp (gmx J) 68 70 0 0 65) 68 0 1) 68 2 0) 68 0 2) 68 2 0) (fun r h => r = some (.int 0) ∧ h = (SH0, RF0, (gup (gup (gup (gup (gcp (gmx J) 68 70 0 0 65) 68 0 1) 68 2 0) 68 0 2) 68 2 0))) := by
  refine G_iconst (pc := 0) (v := 0) (by decide) dX12_teethAll_0 ?_
  refine G_istore_n (pc := 1) (L1 := [some (.ref 67), some (.int 0), none]) rfl rfl (by decide) dX12_teethAll_1 ?_
  refine G_iconst (pc := 2) (v := 0) (by decide) dX12_teethAll_2 ?_
  refine G_istore_n (pc := 3) (L1 := [some (.ref 67), some (.int 0), some (.int 0)]) rfl rfl (by decide) dX12_teethAll_3 ?_
  refine G_iload_n (pc := 4) rfl dX12_teethAll_4 ?_
  refine G_aload_n (pc := 5) rfl dX12_teethAll_5 ?_
  refine G_getR (pc := 6) (r := 68) (ci := 12) (j := 0) rfl lk_RX12_9 rfl rfl rfl dX12_teethAll_6 ?_
  refine G_iconst (pc := 9) (v := 4) (by decide) dX12_teethAll_9 ?_
  refine G_iald (pc := 10) (jj := 4) (v := 0) (by decide) rfl rfl (by unfold vp_in; decide) dX12_teethAll_10 ?_
  refine G_icmp_ge (pc := 11) (tgt := 29) (by decide) dX12_teethAll_11 (fun _ => ?_) (fun z => absurd (by decide) z)
  refine G_iload_n (pc := 29) rfl dX12_teethAll_29 ?_
  exact G_iret (pc := 30) (Nat.le_of_ble_eq_true rfl) (Nat.le_of_ble_eq_true rfl) rfl dX12_teethAll_30 ⟨rfl, rfl⟩
set_option maxRecDepth 100000 in
set_option maxHeartbeats 4000000 in
theorem s10304_X12_those (J : gI) (d : Nat)   : G (d) mX12_those 0 0 0 0 0 (gent 4 [.ref 67, .int 4]) [] SH0 RF0 (gup (gup (gup (gup (gup (gup (gcp (gmx J) 68 70 0 0 65) 68 0 1) 68 2 0) 68 0 2) 68 2 0) 68 0 3) 68 2 0) (fun r h => r = some (.int 0) ∧ h = (SH0, RF0, (gup (gup (gup (gup (gup (gup (gcp (gmx J) 68 70 0 0 65) 68 0 1) 68 2 0) 68 0 2) 68 2 0) 68 0 3) 68 2 0))) := by
  refine G_iconst (pc := 0) (v := 0) (by decide) dX12_those_0 ?_
  refine G_istore_n (pc := 1) (L1 := [some (.ref 67), some (.int 4), some (.int 0), none]) rfl rfl (by decide) dX12_those_1 ?_
  refine G_iconst (pc := 2) (v := 0) (by decide) dX12_those_2 ?_
  refine G_istore_n (pc := 3) (L1 := [some (.ref 67), some (.int 4), some (.int 0), some (.int 0)]) rfl rfl (by decide) dX12_those_3 ?_
  refine G_iload_n (pc := 4) rfl dX12_those_4 ?_
  refine G_aload_n (pc := 5) rfl dX12_those_5 ?_
  refine G_getR (pc := 6) (r := 68) (ci := 12) (j := 0) rfl lk_RX12_9 rfl rfl rfl dX12_those_6 ?_
  refine G_iconst (pc := 9) (v := 4) (by decide) dX12_those_9 ?_
  refine G_iald (pc := 10) (jj := 4) (v := 0) (by decide) rfl rfl (by unfold vp_in; decide) dX12_those_10 ?_
  refine G_icmp_ge (pc := 11) (tgt := 39) (by decide) dX12_those_11 (fun _ => ?_) (fun z => absurd (by decide) z)
  refine G_iload_n (pc := 39) rfl dX12_those_39 ?_
  exact G_iret (pc := 40) (Nat.le_of_ble_eq_true rfl) (Nat.le_of_ble_eq_true rfl) rfl dX12_those_40 ⟨rfl, rfl⟩
set_option maxRecDepth 100000 in
set_option maxHeartbeats 4000000 in
theorem s10305_X12_teethAll (J : gI) (d : Nat)   : G (d) mX12_teethAll 0 0 0 0 0 (gent 3 [.ref 67]) [] SH0 RF0 (gup (gup (gup (gup (gup (gup (gcp (gmx J) 68 70 0 0 65) 68 0 1) 68 2 0) 68 0 2) 68 2 0) 68 0 3) 68 2 0) (fun r h => r = some (.int 0) ∧ h = (SH0, RF0, (gup (gup (gup (gup (gup (gup (gcp (gmx J) 68 70 0 0 65) 68 0 1) 68 2 0) 68 0 2) 68 2 0) 68 0 3) 68 2 0))) := by
  refine G_iconst (pc := 0) (v := 0) (by decide) dX12_teethAll_0 ?_
  refine G_istore_n (pc := 1) (L1 := [some (.ref 67), some (.int 0), none]) rfl rfl (by decide) dX12_teethAll_1 ?_
  refine G_iconst (pc := 2) (v := 0) (by decide) dX12_teethAll_2 ?_
  refine G_istore_n (pc := 3) (L1 := [some (.ref 67), some (.int 0), some (.int 0)]) rfl rfl (by decide) dX12_teethAll_3 ?_
  refine G_iload_n (pc := 4) rfl dX12_teethAll_4 ?_
  refine G_aload_n (pc := 5) rfl dX12_teethAll_5 ?_
  refine G_getR (pc := 6) (r := 68) (ci := 12) (j := 0) rfl lk_RX12_9 rfl rfl rfl dX12_teethAll_6 ?_
  refine G_iconst (pc := 9) (v := 4) (by decide) dX12_teethAll_9 ?_
  refine G_iald (pc := 10) (jj := 4) (v := 0) (by decide) rfl rfl (by unfold vp_in; decide) dX12_teethAll_10 ?_
  refine G_icmp_ge (pc := 11) (tgt := 29) (by decide) dX12_teethAll_11 (fun _ => ?_) (fun z => absurd (by decide) z)
  refine G_iload_n (pc := 29) rfl dX12_teethAll_29 ?_
  exact G_iret (pc := 30) (Nat.le_of_ble_eq_true rfl) (Nat.le_of_ble_eq_true rfl) rfl dX12_teethAll_30 ⟨rfl, rfl⟩
set_option maxRecDepth 100000 in
set_option maxHeartbeats 4000000 in
theorem s10306_X12_those (J : gI) (d : Nat)   : G (d) mX12_those 0 0 0 0 0 (gent 4 [.ref 67, .int 4]) [] SH0 RF0 (gup (gup (gup (gup (gup (gup (gup (gup (gcp (gmx J) 68 70 0 0 65) 68 0 1) 68 2 0) 68 0 2) 68 2 0) 68 0 3) 68 2 0) 68 0 4) 68 2 0) (fun r h => r = some (.int 0) ∧ h = (SH0, RF0, (gup (gup (gup (gup (gup (gup (gup (gup (gcp (gmx J) 68 70 0 0 65) 68 0 1) 68 2 0) 68 0 2) 68 2 0) 68 0 3) 68 2 0) 68 0 4) 68 2 0))) := by
  refine G_iconst (pc := 0) (v := 0) (by decide) dX12_those_0 ?_
  refine G_istore_n (pc := 1) (L1 := [some (.ref 67), some (.int 4), some (.int 0), none]) rfl rfl (by decide) dX12_those_1 ?_
  refine G_iconst (pc := 2) (v := 0) (by decide) dX12_those_2 ?_
  refine G_istore_n (pc := 3) (L1 := [some (.ref 67), some (.int 4), some (.int 0), some (.int 0)]) rfl rfl (by decide) dX12_those_3 ?_
  refine G_iload_n (pc := 4) rfl dX12_those_4 ?_
  refine G_aload_n (pc := 5) rfl dX12_those_5 ?_
  refine G_getR (pc := 6) (r := 68) (ci := 12) (j := 0) rfl lk_RX12_9 rfl rfl rfl dX12_those_6 ?_
  refine G_iconst (pc := 9) (v := 4) (by decide) dX12_those_9 ?_
  refine G_iald (pc := 10) (jj := 4) (v := 0) (by decide) rfl rfl (by unfold vp_in; decide) dX12_those_10 ?_
  refine G_icmp_ge (pc := 11) (tgt := 39) (by decide) dX12_those_11 (fun _ => ?_) (fun z => absurd (by decide) z)
  refine G_iload_n (pc := 39) rfl dX12_those_39 ?_
  exact G_iret (pc := 40) (Nat.le_of_ble_eq_true rfl) (Nat.le_of_ble_eq_true rfl) rfl dX12_those_40 ⟨rfl, rfl⟩
set_option maxRecDepth 100000 in
set_option maxHeartbeats 4000000 in
theorem s10307_X12_teethAll (J : gI) (d : Nat)   : G (d) mX12_teethAll 0 0 0 0 0 (gent 3 [.ref 67]) [] SH0 RF0 (gup (gup (gup (gup (gup (gup (gup (gup (gcp (gmx J) 68 70 0 0 65) 68 0 1) 68 2 0) 68 0 2) 68 2 0) 68 0 3) 68 2 0) 68 0 4) 68 2 0) (fun r h => r = some (.int 0) ∧ h = (SH0, RF0, (gup (gup (gup (gup (gup (gup (gup (gup (gcp (gmx J) 68 70 0 0 65) 68 0 1) 68 2 0) 68 0 2) 68 2 0) 68 0 3) 68 2 0) 68 0 4) 68 2 0))) := by
  refine G_iconst (pc := 0) (v := 0) (by decide) dX12_teethAll_0 ?_
  refine G_istore_n (pc := 1) (L1 := [some (.ref 67), some (.int 0), none]) rfl rfl (by decide) dX12_teethAll_1 ?_
  refine G_iconst (pc := 2) (v := 0) (by decide) dX12_teethAll_2 ?_
  refine G_istore_n (pc := 3) (L1 := [some (.ref 67), some (.int 0), some (.int 0)]) rfl rfl (by decide) dX12_teethAll_3 ?_
  refine G_iload_n (pc := 4) rfl dX12_teethAll_4 ?_
  refine G_aload_n (pc := 5) rfl dX12_teethAll_5 ?_
  refine G_getR (pc := 6) (r := 68) (ci := 12) (j := 0) rfl lk_RX12_9 rfl rfl rfl dX12_teethAll_6 ?_
  refine G_iconst (pc := 9) (v := 4) (by decide) dX12_teethAll_9 ?_
  refine G_iald (pc := 10) (jj := 4) (v := 0) (by decide) rfl rfl (by unfold vp_in; decide) dX12_teethAll_10 ?_
  refine G_icmp_ge (pc := 11) (tgt := 29) (by decide) dX12_teethAll_11 (fun _ => ?_) (fun z => absurd (by decide) z)
  refine G_iload_n (pc := 29) rfl dX12_teethAll_29 ?_
  exact G_iret (pc := 30) (Nat.le_of_ble_eq_true rfl) (Nat.le_of_ble_eq_true rfl) rfl dX12_teethAll_30 ⟨rfl, rfl⟩
set_option maxRecDepth 100000 in
set_option maxHeartbeats 4000000 in
theorem s10308_X12_those (J : gI) (d : Nat)   : G (d) mX12_those 0 0 0 0 0 (gent 4 [.ref 67, .int 4]) [] SH0 RF0 (gup (gup (gup (gup (gup (gup (gup (gup (gup (gup (gcp (gmx J) 68 70 0 0 65) 68 0 1) 68 2 0) 68 0 2) 68 2 0) 68 0 3) 68 2 0) 68 0 4) 68 2 0) 68 0 5) 68 2 0) (fun r h => r = some (.int 0) ∧ h = (SH0, RF0, (gup (gup (gup (gup (gup (gup (gup (gup (gup (gup (gcp (gmx J) 68 70 0 0 65) 68 0 1) 68 2 0) 68 0 2) 68 2 0) 68 0 3) 68 2 0) 68 0 4) 68 2 0) 68 0 5) 68 2 0))) := by
  refine G_iconst (pc := 0) (v := 0) (by decide) dX12_those_0 ?_
  refine G_istore_n (pc := 1) (L1 := [some (.ref 67), some (.int 4), some (.int 0), none]) rfl rfl (by decide) dX12_those_1 ?_
  refine G_iconst (pc := 2) (v := 0) (by decide) dX12_those_2 ?_
  refine G_istore_n (pc := 3) (L1 := [some (.ref 67), some (.int 4), some (.int 0), some (.int 0)]) rfl rfl (by decide) dX12_those_3 ?_
  refine G_iload_n (pc := 4) rfl dX12_those_4 ?_
  refine G_aload_n (pc := 5) rfl dX12_those_5 ?_
  refine G_getR (pc := 6) (r := 68) (ci := 12) (j := 0) rfl lk_RX12_9 rfl rfl rfl dX12_those_6 ?_
  refine G_iconst (pc := 9) (v := 4) (by decide) dX12_those_9 ?_
  refine G_iald (pc := 10) (jj := 4) (v := 0) (by decide) rfl rfl (by unfold vp_in; decide) dX12_those_10 ?_
  refine G_icmp_ge (pc := 11) (tgt := 39) (by decide) dX12_those_11 (fun _ => ?_) (fun z => absurd (by decide) z)
  refine G_iload_n (pc := 39) rfl dX12_those_39 ?_
  exact G_iret (pc := 40) (Nat.le_of_ble_eq_true rfl) (Nat.le_of_ble_eq_true rfl) rfl dX12_those_40 ⟨rfl, rfl⟩
set_option maxRecDepth 100000 in
set_option maxHeartbeats 4000000 in
theorem s10309_X12_teethAll (J : gI) (d : Nat)   : G (d) mX12_teethAll 0 0 0 0 0 (gent 3 [.ref 67]) [] SH0 RF0 (gup (gup (gup (gup (gup (gup (gup (gup (gup (gup (gcp (gmx J) 68 70 0 0 65) 68 0 1) 68 2 0) 68 0 2) 68 2 0) 68 0 3) 68 2 0) 68 0 4) 68 2 0) 68 0 5) 68 2 0) (fun r h => r = some (.int 0) ∧ h = (SH0, RF0, (gup (gup (gup (gup (gup (gup (gup (gup (gup (gup (gcp (gmx J) 68 70 0 0 65) 68 0 1) 68 2 0) 68 0 2) 68 2 0) 68 0 3) 68 2 0) 68 0 4) 68 2 0) 68 0 5) 68 2 0))) := by
  refine G_iconst (pc := 0) (v := 0) (by decide) dX12_teethAll_0 ?_
  refine G_istore_n (pc := 1) (L1 := [some (.ref 67), some (.int 0), none]) rfl rfl (by decide) dX12_teethAll_1 ?_
  refine G_iconst (pc := 2) (v := 0) (by decide) dX12_teethAll_2 ?_
  refine G_istore_n (pc := 3) (L1 := [some (.ref 67), some (.int 0), some (.int 0)]) rfl rfl (by decide) dX12_teethAll_3 ?_
  refine G_iload_n (pc := 4) rfl dX12_teethAll_4 ?_
  refine G_aload_n (pc := 5) rfl dX12_teethAll_5 ?_
  refine G_getR (pc := 6) (r := 68) (ci := 12) (j := 0) rfl lk_RX12_9 rfl rfl rfl dX12_teethAll_6 ?_
  refine G_iconst (pc := 9) (v := 4) (by decide) dX12_teethAll_9 ?_
  refine G_iald (pc := 10) (jj := 4) (v := 0) (by decide) rfl rfl (by unfold vp_in; decide) dX12_teethAll_10 ?_
  refine G_icmp_ge (pc := 11) (tgt := 29) (by decide) dX12_teethAll_11 (fun _ => ?_) (fun z => absurd (by decide) z)
  refine G_iload_n (pc := 29) rfl dX12_teethAll_29 ?_
  exact G_iret (pc := 30) (Nat.le_of_ble_eq_true rfl) (Nat.le_of_ble_eq_true rfl) rfl dX12_teethAll_30 ⟨rfl, rfl⟩
set_option maxRecDepth 100000 in
set_option maxHeartbeats 4000000 in
theorem s10310_X12_those (J : gI) (d : Nat)   : G (d) mX12_those 0 0 0 0 0 (gent 4 [.ref 67, .int 4]) [] SH0 RF0 (gup (gup (gup (gup (gup (gup (gup (gup (gup (gup (gup (gup (gcp (gmx J) 68 70 0 0 65) 68 0 1) 68 2 0) 68 0 2) 68 2 0) 68 0 3) 68 2 0) 68 0 4) 68 2 0) 68 0 5) 68 2 0) 68 0 6) 68 2 0) (fun r h => r = some (.int 0) ∧ h = (SH0, RF0, (gup (gup (gup (gup (gup (gup (gup (gup (gup (gup (gup (gup (gcp (gmx J) 68 70 0 0 65) 68 0 1) 68 2 0) 68 0 2) 68 2 0) 68 0 3) 68 2 0) 68 0 4) 68 2 0) 68 0 5) 68 2 0) 68 0 6) 68 2 0))) := by
  refine G_iconst (pc := 0) (v := 0) (by decide) dX12_those_0 ?_
  refine G_istore_n (pc := 1) (L1 := [some (.ref 67), some (.int 4), some (.int 0), none]) rfl rfl (by decide) dX12_those_1 ?_
  refine G_iconst (pc := 2) (v := 0) (by decide) dX12_those_2 ?_
  refine G_istore_n (pc := 3) (L1 := [some (.ref 67), some (.int 4), some (.int 0), some (.int 0)]) rfl rfl (by decide) dX12_those_3 ?_
  refine G_iload_n (pc := 4) rfl dX12_those_4 ?_
  refine G_aload_n (pc := 5) rfl dX12_those_5 ?_
  refine G_getR (pc := 6) (r := 68) (ci := 12) (j := 0) rfl lk_RX12_9 rfl rfl rfl dX12_those_6 ?_
  refine G_iconst (pc := 9) (v := 4) (by decide) dX12_those_9 ?_
  refine G_iald (pc := 10) (jj := 4) (v := 0) (by decide) rfl rfl (by unfold vp_in; decide) dX12_those_10 ?_
  refine G_icmp_ge (pc := 11) (tgt := 39) (by decide) dX12_those_11 (fun _ => ?_) (fun z => absurd (by decide) z)
  refine G_iload_n (pc := 39) rfl dX12_those_39 ?_
  exact G_iret (pc := 40) (Nat.le_of_ble_eq_true rfl) (Nat.le_of_ble_eq_true rfl) rfl dX12_those_40 ⟨rfl, rfl⟩
set_option maxRecDepth 100000 in
set_option maxHeartbeats 4000000 in
theorem s10311_X12_teethAll (J : gI) (d : Nat)   : G (d) mX12_teethAll 0 0 0 0 0 (gent 3 [.ref 67]) [] SH0 RF0 (gup (gup (gup (gup (gup (gup (gup (gup (gup (gup (gup (gup (gcp (gmx J) 68 70 0 0 65) 68 0 1) 68 2 0) 68 0 2) 68 2 0) 68 0 3) 68 2 0) 68 0 4) 68 2 0) 68 0 5) 68 2 0) 68 0 6) 68 2 0) (fun r h => r = some (.int 0) ∧ h = (SH0, RF0, (gup (gup (gup (gup (gup (gup (gup (gup (gup (gup (gup (gup (gcp (gmx J) 68 70 0 0 65) 68 0 1) 68 2 0) 68 0 2) 68 2 0) 68 0 3) 68 2 0) 68 0 4) 68 2 0) 68 0 5) 68 2 0) 68 0 6) 68 2 0))) := by
  refine G_iconst (pc := 0) (v := 0) (by decide) dX12_teethAll_0 ?_
  refine G_istore_n (pc := 1) (L1 := [some (.ref 67), some (.int 0), none]) rfl rfl (by decide) dX12_teethAll_1 ?_
  refine G_iconst (pc := 2) (v := 0) (by decide) dX12_teethAll_2 ?_
  refine G_istore_n (pc := 3) (L1 := [some (.ref 67), some (.int 0), some (.int 0)]) rfl rfl (by decide) dX12_teethAll_3 ?_
  refine G_iload_n (pc := 4) rfl dX12_teethAll_4 ?_
  refine G_aload_n (pc := 5) rfl dX12_teethAll_5 ?_
  refine G_getR (pc := 6) (r := 68) (ci := 12) (j := 0) rfl lk_RX12_9 rfl rfl rfl dX12_teethAll_6 ?_
  refine G_iconst (pc := 9) (v := 4) (by decide) dX12_teethAll_9 ?_
  refine G_iald (pc := 10) (jj := 4) (v := 0) (by decide) rfl rfl (by unfold vp_in; decide) dX12_teethAll_10 ?_
  refine G_icmp_ge (pc := 11) (tgt := 29) (by decide) dX12_teethAll_11 (fun _ => ?_) (fun z => absurd (by decide) z)
  refine G_iload_n (pc := 29) rfl dX12_teethAll_29 ?_
  exact G_iret (pc := 30) (Nat.le_of_ble_eq_true rfl) (Nat.le_of_ble_eq_true rfl) rfl dX12_teethAll_30 ⟨rfl, rfl⟩
set_option maxRecDepth 100000 in
set_option maxHeartbeats 4000000 in
theorem s10312_X12_those (J : gI) (d : Nat)   : G (d) mX12_those 0 0 0 0 0 (gent 4 [.ref 67, .int 4]) [] SH0 RF0 (gup (gup (gup (gup (gup (gup (gup (gup (gup (gup (gup (gup (gup (gup (gcp (gmx J) 68 70 0 0 65) 68 0 1) 68 2 0) 68 0 2) 68 2 0) 68 0 3) 68 2 0) 68 0 4) 68 2 0) 68 0 5) 68 2 0) 68 0 6) 68 2 0) 68 0 7) 68 2 0) (fun r h => r = some (.int 0) ∧ h = (SH0, RF0, (gup (gup (gup (gup (gup (gup (gup (gup (gup (gup (gup (gup (gup (gup (gcp (gmx J) 68 70 0 0 65) 68 0 1) 68 2 0) 68 0 2) 68 2 0) 68 0 3) 68 2 0) 68 0 4) 68 2 0) 68 0 5) 68 2 0) 68 0 6) 68 2 0) 68 0 7) 68 2 0))) := by
  refine G_iconst (pc := 0) (v := 0) (by decide) dX12_those_0 ?_
  refine G_istore_n (pc := 1) (L1 := [some (.ref 67), some (.int 4), some (.int 0), none]) rfl rfl (by decide) dX12_those_1 ?_
  refine G_iconst (pc := 2) (v := 0) (by decide) dX12_those_2 ?_
  refine G_istore_n (pc := 3) (L1 := [some (.ref 67), some (.int 4), some (.int 0), some (.int 0)]) rfl rfl (by decide) dX12_those_3 ?_
  refine G_iload_n (pc := 4) rfl dX12_those_4 ?_
  refine G_aload_n (pc := 5) rfl dX12_those_5 ?_
  refine G_getR (pc := 6) (r := 68) (ci := 12) (j := 0) rfl lk_RX12_9 rfl rfl rfl dX12_those_6 ?_
  refine G_iconst (pc := 9) (v := 4) (by decide) dX12_those_9 ?_
  refine G_iald (pc := 10) (jj := 4) (v := 0) (by decide) rfl rfl (by unfold vp_in; decide) dX12_those_10 ?_
  refine G_icmp_ge (pc := 11) (tgt := 39) (by decide) dX12_those_11 (fun _ => ?_) (fun z => absurd (by decide) z)
  refine G_iload_n (pc := 39) rfl dX12_those_39 ?_
  exact G_iret (pc := 40) (Nat.le_of_ble_eq_true rfl) (Nat.le_of_ble_eq_true rfl) rfl dX12_those_40 ⟨rfl, rfl⟩
set_option maxRecDepth 100000 in
set_option maxHeartbeats 4000000 in
theorem s10313_X12_teethAll (J : gI) (d : Nat)   : G (d) mX12_teethAll 0 0 0 0 0 (gent 3 [.ref 67]) [] SH0 RF0 (gup (gup (gup (gup (gup (gup (gup (gup (gup (gup (gup (gup (gup (gup (gcp (gmx J) 68 70 0 0 65) 68 0 1) 68 2 0) 68 0 2) 68 2 0) 68 0 3) 68 2 0) 68 0 4) 68 2 0) 68 0 5) 68 2 0) 68 0 6) 68 2 0) 68 0 7) 68 2 0) (fun r h => r = some (.int 0) ∧ h = (SH0, RF0, (gup (gup (gup (gup (gup (gup (gup (gup (gup (gup (gup (gup (gup (gup (gcp (gmx J) 68 70 0 0 65) 68 0 1) 68 2 0) 68 0 2) 68 2 0) 68 0 3) 68 2 0) 68 0 4) 68 2 0) 68 0 5) 68 2 0) 68 0 6) 68 2 0) 68 0 7) 68 2 0))) := by
  refine G_iconst (pc := 0) (v := 0) (by decide) dX12_teethAll_0 ?_
  refine G_istore_n (pc := 1) (L1 := [some (.ref 67), some (.int 0), none]) rfl rfl (by decide) dX12_teethAll_1 ?_
  refine G_iconst (pc := 2) (v := 0) (by decide) dX12_teethAll_2 ?_
  refine G_istore_n (pc := 3) (L1 := [some (.ref 67), some (.int 0), some (.int 0)]) rfl rfl (by decide) dX12_teethAll_3 ?_
  refine G_iload_n (pc := 4) rfl dX12_teethAll_4 ?_
  refine G_aload_n (pc := 5) rfl dX12_teethAll_5 ?_
  refine G_getR (pc := 6) (r := 68) (ci := 12) (j := 0) rfl lk_RX12_9 rfl rfl rfl dX12_teethAll_6 ?_
  refine G_iconst (pc := 9) (v := 4) (by decide) dX12_teethAll_9 ?_
  refine G_iald (pc := 10) (jj := 4) (v := 0) (by decide) rfl rfl (by unfold vp_in; decide) dX12_teethAll_10 ?_
  refine G_icmp_ge (pc := 11) (tgt := 29) (by decide) dX12_teethAll_11 (fun _ => ?_) (fun z => absurd (by decide) z)
  refine G_iload_n (pc := 29) rfl dX12_teethAll_29 ?_
  exact G_iret (pc := 30) (Nat.le_of_ble_eq_true rfl) (Nat.le_of_ble_eq_true rfl) rfl dX12_teethAll_30 ⟨rfl, rfl⟩
set_option maxRecDepth 100000 in
set_option maxHeartbeats 4000000 in
theorem s10314_X12_those (J : gI) (d : Nat)   : G (d) mX12_those 0 0 0 0 0 (gent 4 [.ref 67, .int 4]) [] SH0 RF0 (gup (gup (gup (gup (gup (gup (gup (gup (gup (gup (gup (gup (gup (gup (gup (gup (gcp (gmx J) 68 70 0 0 65) 68 0 1) 68 2 0) 68 0 2) 68 2 0) 68 0 3) 68 2 0) 68 0 4) 68 2 0) 68 0 5) 68 2 0) 68 0 6) 68 2 0) 68 0 7) 68 2 0) 68 0 8) 68 2 0) (fun r h => r = some (.int 0) ∧ h = (SH0, RF0, (gup (gup (gup (gup (gup (gup (gup (gup (gup (gup (gup (gup (gup (gup (gup (gup (gcp (gmx J) 68 70 0 0 65) 68 0 1) 68 2 0) 68 0 2) 68 2 0) 68 0 3) 68 2 0) 68 0 4) 68 2 0) 68 0 5) 68 2 0) 68 0 6) 68 2 0) 68 0 7) 68 2 0) 68 0 8) 68 2 0))) := by
  refine G_iconst (pc := 0) (v := 0) (by decide) dX12_those_0 ?_
  refine G_istore_n (pc := 1) (L1 := [some (.ref 67), some (.int 4), some (.int 0), none]) rfl rfl (by decide) dX12_those_1 ?_
  refine G_iconst (pc := 2) (v := 0) (by decide) dX12_those_2 ?_
  refine G_istore_n (pc := 3) (L1 := [some (.ref 67), some (.int 4), some (.int 0), some (.int 0)]) rfl rfl (by decide) dX12_those_3 ?_
  refine G_iload_n (pc := 4) rfl dX12_those_4 ?_
  refine G_aload_n (pc := 5) rfl dX12_those_5 ?_
  refine G_getR (pc := 6) (r := 68) (ci := 12) (j := 0) rfl lk_RX12_9 rfl rfl rfl dX12_those_6 ?_
  refine G_iconst (pc := 9) (v := 4) (by decide) dX12_those_9 ?_
  refine G_iald (pc := 10) (jj := 4) (v := 0) (by decide) rfl rfl (by unfold vp_in; decide) dX12_those_10 ?_
  refine G_icmp_ge (pc := 11) (tgt := 39) (by decide) dX12_those_11 (fun _ => ?_) (fun z => absurd (by decide) z)
  refine G_iload_n (pc := 39) rfl dX12_those_39 ?_
  exact G_iret (pc := 40) (Nat.le_of_ble_eq_true rfl) (Nat.le_of_ble_eq_true rfl) rfl dX12_those_40 ⟨rfl, rfl⟩
set_option maxRecDepth 100000 in
set_option maxHeartbeats 4000000 in
theorem s10315_X12_teethAll (J : gI) (d : Nat)   : G (d) mX12_teethAll 0 0 0 0 0 (gent 3 [.ref 67]) [] SH0 RF0 (gup (gup (gup (gup (gup (gup (gup (gup (gup (gup (gup (gup (gup (gup (gup (gup (gcp (gmx J) 68 70 0 0 65) 68 0 1) 68 2 0) 68 0 2) 68 2 0) 68 0 3) 68 2 0) 68 0 4) 68 2 0) 68 0 5) 68 2 0) 68 0 6) 68 2 0) 68 0 7) 68 2 0) 68 0 8) 68 2 0) (fun r h => r = some (.int 0) ∧ h = (SH0, RF0, (gup (gup (gup (gup (gup (gup (gup (gup (gup (gup (gup (gup (gup (gup (gup (gup (gcp (gmx J) 68 70 0 0 65) 68 0 1) 68 2 0) 68 0 2) 68 2 0) 68 0 3) 68 2 0) 68 0 4) 68 2 0) 68 0 5) 68 2 0) 68 0 6) 68 2 0) 68 0 7) 68 2 0) 68 0 8) 68 2 0))) := by
  refine G_iconst (pc := 0) (v := 0) (by decide) dX12_teethAll_0 ?_
  refine G_istore_n (pc := 1) (L1 := [some (.ref 67), some (.int 0), none]) rfl rfl (by decide) dX12_teethAll_1 ?_
  refine G_iconst (pc := 2) (v := 0) (by decide) dX12_teethAll_2 ?_
  refine G_istore_n (pc := 3) (L1 := [some (.ref 67), some (.int 0), some (.int 0)]) rfl rfl (by decide) dX12_teethAll_3 ?_
  refine G_iload_n (pc := 4) rfl dX12_teethAll_4 ?_
  refine G_aload_n (pc := 5) rfl dX12_teethAll_5 ?_
  refine G_getR (pc := 6) (r := 68) (ci := 12) (j := 0) rfl lk_RX12_9 rfl rfl rfl dX12_teethAll_6 ?_
  refine G_iconst (pc := 9) (v := 4) (by decide) dX12_teethAll_9 ?_
  refine G_iald (pc := 10) (jj := 4) (v := 0) (by decide) rfl rfl (by unfold vp_in; decide) dX12_teethAll_10 ?_
  refine G_icmp_ge (pc := 11) (tgt := 29) (by decide) dX12_teethAll_11 (fun _ => ?_) (fun z => absurd (by decide) z)
  refine G_iload_n (pc := 29) rfl dX12_teethAll_29 ?_
  exact G_iret (pc := 30) (Nat.le_of_ble_eq_true rfl) (Nat.le_of_ble_eq_true rfl) rfl dX12_teethAll_30 ⟨rfl, rfl⟩
set_option maxRecDepth 100000 in
set_option maxHeartbeats 4000000 in
theorem s10316_X12_those (J : gI) (d : Nat)   : G (d) mX12_those 0 0 0 0 0 (gent 4 [.ref 67, .int 4]) [] SH0 RF0 (gup (gup (gup (gup (gup (gup (gup (gup (gup (gup (gup (gup (gup (gup (gup (gup (gup (gup (gcp (gmx J) 68 70 0 0 65) 68 0 1) 68 2 0) 68 0 2) 68 2 0) 68 0 3) 68 2 0) 68 0 4) 68 2 0) 68 0 5) 68 2 0) 68 0 6) 68 2 0) 68 0 7) 68 2 0) 68 0 8) 68 2 0) 68 0 9) 68 2 0) (fun r h => r = some (.int 0) ∧ h = (SH0, RF0, (gup (gup (gup (gup (gup (gup (gup (gup (gup (gup (gup (gup (gup (gup (gup (gup (gup (gup (gcp (gmx J) 68 70 0 0 65) 68 0 1) 68 2 0) 68 0 2) 68 2 0) 68 0 3) 68 2 0) 68 0 4) 68 2 0) 68 0 5) 68 2 0) 68 0 6) 68 2 0) 68 0 7) 68 2 0) 68 0 8) 68 2 0) 68 0 9) 68 2 0))) := by
  refine G_iconst (pc := 0) (v := 0) (by decide) dX12_those_0 ?_
  refine G_istore_n (pc := 1) (L1 := [some (.ref 67), some (.int 4), some (.int 0), none]) rfl rfl (by decide) dX12_those_1 ?_
  refine G_iconst (pc := 2) (v := 0) (by decide) dX12_those_2 ?_
  refine G_istore_n (pc := 3) (L1 := [some (.ref 67), some (.int 4), some (.int 0), some (.int 0)]) rfl rfl (by decide) dX12_those_3 ?_
  refine G_iload_n (pc := 4) rfl dX12_those_4 ?_
  refine G_aload_n (pc := 5) rfl dX12_those_5 ?_
  refine G_getR (pc := 6) (r := 68) (ci := 12) (j := 0) rfl lk_RX12_9 rfl rfl rfl dX12_those_6 ?_
  refine G_iconst (pc := 9) (v := 4) (by decide) dX12_those_9 ?_
  refine G_iald (pc := 10) (jj := 4) (v := 0) (by decide) rfl rfl (by unfold vp_in; decide) dX12_those_10 ?_
  refine G_icmp_ge (pc := 11) (tgt := 39) (by decide) dX12_those_11 (fun _ => ?_) (fun z => absurd (by decide) z)
  refine G_iload_n (pc := 39) rfl dX12_those_39 ?_
  exact G_iret (pc := 40) (Nat.le_of_ble_eq_true rfl) (Nat.le_of_ble_eq_true rfl) rfl dX12_those_40 ⟨rfl, rfl⟩
set_option maxRecDepth 100000 in
set_option maxHeartbeats 4000000 in
theorem s10317_X12_teethAll (J : gI) (d : Nat)   : G (d) mX12_teethAll 0 0 0 0 0 (gent 3 [.ref 67]) [] SH0 RF0 (gup (gup (gup (gup (gup (gup (gup (gup (gup (gup (gup (gup (gup (gup (gup (gup (gup (gup (gcp (gmx J) 68 70 0 0 65) 68 0 1) 68 2 0) 68 0 2) 68 2 0) 68 0 3) 68 2 0) 68 0 4) 68 2 0) 68 0 5) 68 2 0) 68 0 6) 68 2 0) 68 0 7) 68 2 0) 68 0 8) 68 2 0) 68 0 9) 68 2 0) (fun r h => r = some (.int 0) ∧ h = (SH0, RF0, (gup (gup (gup (gup (gup (gup (gup (gup (gup (gup (gup (gup (gup (gup (gup (gup (gup (gup (gcp (gmx J) 68 70 0 0 65) 68 0 1) 68 2 0) 68 0 2) 68 2 0) 68 0 3) 68 2 0) 68 0 4) 68 2 0) 68 0 5) 68 2 0) 68 0 6) 68 2 0) 68 0 7) 68 2 0) 68 0 8) 68 2 0) 68 0 9) 68 2 0))) := by
  refine G_iconst (pc := 0) (v := 0) (by decide) dX12_teethAll_0 ?_
  refine G_istore_n (pc := 1) (L1 := [some (.ref 67), some (.int 0), none]) rfl rfl (by decide) dX12_teethAll_1 ?_
  refine G_iconst (pc := 2) (v := 0) (by decide) dX12_teethAll_2 ?_
  refine G_istore_n (pc := 3) (L1 := [some (.ref 67), some (.int 0), some (.int 0)]) rfl rfl (by decide) dX12_teethAll_3 ?_
  refine G_iload_n (pc := 4) rfl dX12_teethAll_4 ?_
  refine G_aload_n (pc := 5) rfl dX12_teethAll_5 ?_
  refine G_getR (pc := 6) (r := 68) (ci := 12) (j := 0) rfl lk_RX12_9 rfl rfl rfl dX12_teethAll_6 ?_
  refine G_iconst (pc := 9) (v := 4) (by decide) dX12_teethAll_9 ?_
  refine G_iald (pc := 10) (jj := 4) (v := 0) (by decide) rfl rfl (by unfold vp_in; decide) dX12_teethAll_10 ?_
  refine G_icmp_ge (pc := 11) (tgt := 29) (by decide) dX12_teethAll_11 (fun _ => ?_) (fun z => absurd (by decide) z)
  refine G_iload_n (pc := 29) rfl dX12_teethAll_29 ?_
  exact G_iret (pc := 30) (Nat.le_of_ble_eq_true rfl) (Nat.le_of_ble_eq_true rfl) rfl dX12_teethAll_30 ⟨rfl, rfl⟩
set_option maxRecDepth 100000 in
set_option maxHeartbeats 4000000 in
theorem s10318_X12_those (J : gI) (d : Nat)   : G (d) mX12_those 0 0 0 0 0 (gent 4 [.ref 67, .int 4]) [] SH0 RF0 (gup (gup (gup (gup (gup (gup (gup (gup (gup (gup (gup (gup (gup (gup (gup (gup (gup (gup (gup (gup (gcp (gmx J) 68 70 0 0 65) 68 0 1) 68 2 0) 68 0 2) 68 2 0) 68 0 3) 68 2 0) 68 0 4) 68 2 0) 68 0 5) 68 2 0) 68 0 6) 68 2 0) 68 0 7) 68 2 0) 68 0 8) 68 2 0) 68 0 9) 68 2 0) 68 0 10) 68 2 0) (fun r h => r = some (.int 0) ∧ h = (SH0, RF0, (gup (gup (gup (gup (gup (gup (gup (gup (gup (gup (gup (gup (gup (gup (gup (gup (gup (gup (gup (gup (gcp (gmx J) 68 70 0 0 65) 68 0 1) 68 2 0) 68 0 2) 68 2 0) 68 0 3) 68 2 0) 68 0 4) 68 2 0) 68 0 5) 68 2 0) 68 0 6) 68 2 0) 68 0 7) 68 2 0) 68 0 8) 68 2 0) 68 0 9) 68 2 0) 68 0 10) 68 2 0))) := by
  refine G_iconst (pc := 0) (v := 0) (by decide) dX12_those_0 ?_
  refine G_istore_n (pc := 1) (L1 := [some (.ref 67), some (.int 4), some (.int 0), none]) rfl rfl (by decide) dX12_those_1 ?_
  refine G_iconst (pc := 2) (v := 0) (by decide) dX12_those_2 ?_
  refine G_istore_n (pc := 3) (L1 := [some (.ref 67), some (.int 4), some (.int 0), some (.int 0)]) rfl rfl (by decide) dX12_those_3 ?_
  refine G_iload_n (pc := 4) rfl dX12_those_4 ?_
  refine G_aload_n (pc := 5) rfl dX12_those_5 ?_
  refine G_getR (pc := 6) (r := 68) (ci := 12) (j := 0) rfl lk_RX12_9 rfl rfl rfl dX12_those_6 ?_
  refine G_iconst (pc := 9) (v := 4) (by decide) dX12_those_9 ?_
  refine G_iald (pc := 10) (jj := 4) (v := 0) (by decide) rfl rfl (by unfold vp_in; decide) dX12_those_10 ?_
  refine G_icmp_ge (pc := 11) (tgt := 39) (by decide) dX12_those_11 (fun _ => ?_) (fun z => absurd (by decide) z)
  refine G_iload_n (pc := 39) rfl dX12_those_39 ?_
  exact G_iret (pc := 40) (Nat.le_of_ble_eq_true rfl) (Nat.le_of_ble_eq_true rfl) rfl dX12_those_40 ⟨rfl, rfl⟩
set_option maxRecDepth 100000 in
set_option maxHeartbeats 4000000 in
theorem s10319_X12_teethAll (J : gI) (d : Nat)   : G (d) mX12_teethAll 0 0 0 0 0 (gent 3 [.ref 67]) [] SH0 RF0 (gup (gup (gup (gup (gup (gup (gup (gup (gup (gup (gup (gup (gup (gup (gup (gup (gup (gup (gup (gup (gcp (gmx J) 68 70 0 0 65) 68 0 1) 68 2 0) 68 0 2) 68 2 0) 68 0 3) 68 2 0) 68 0 4) 68 2 0) 68 0 5) 68 2 0) 68 0 6) 68 2 0) 68 0 7) 68 2 0) 68 0 8) 68 2 0) 68 0 9) 68 2 0) 68 0 10) 68 2 0) (fun r h => r = some (.int 0) ∧ h = (SH0, RF0, (gup (gup (gup (gup (gup (gup (gup (gup (gup (gup (gup (gup (gup (gup (gup (gup (gup (gup (gup (gup (gcp (gmx J) 68 70 0 0 65) 68 0 1) 68 2 0) 68 0 2) 68 2 0) 68 0 3) 68 2 0) 68 0 4) 68 2 0) 68 0 5) 68 2 0) 68 0 6) 68 2 0) 68 0 7) 68 2 0) 68 0 8) 68 2 0) 68 0 9) 68 2 0) 68 0 10) 68 2 0))) := by
  refine G_iconst (pc := 0) (v := 0) (by decide) dX12_teethAll_0 ?_
  refine G_istore_n (pc := 1) (L1 := [some (.ref 67), some (.int 0), none]) rfl rfl (by decide) dX12_teethAll_1 ?_
  refine G_iconst (pc := 2) (v := 0) (by decide) dX12_teethAll_2 ?_
  refine G_istore_n (pc := 3) (L1 := [some (.ref 67), some (.int 0), some (.int 0)]) rfl rfl (by decide) dX12_teethAll_3 ?_
  refine G_iload_n (pc := 4) rfl dX12_teethAll_4 ?_
  refine G_aload_n (pc := 5) rfl dX12_teethAll_5 ?_
  refine G_getR (pc := 6) (r := 68) (ci := 12) (j := 0) rfl lk_RX12_9 rfl rfl rfl dX12_teethAll_6 ?_
  refine G_iconst (pc := 9) (v := 4) (by decide) dX12_teethAll_9 ?_
  refine G_iald (pc := 10) (jj := 4) (v := 0) (by decide) rfl rfl (by unfold vp_in; decide) dX12_teethAll_10 ?_
  refine G_icmp_ge (pc := 11) (tgt := 29) (by decide) dX12_teethAll_11 (fun _ => ?_) (fun z => absurd (by decide) z)
  refine G_iload_n (pc := 29) rfl dX12_teethAll_29 ?_
  exact G_iret (pc := 30) (Nat.le_of_ble_eq_true rfl) (Nat.le_of_ble_eq_true rfl) rfl dX12_teethAll_30 ⟨rfl, rfl⟩
set_option maxRecDepth 100000 in
set_option maxHeartbeats 4000000 in
theorem s10320_X12_those (J : gI) (d : Nat)   : G (d) mX12_those 0 0 0 0 0 (gent 4 [.ref 67, .int 4]) [] SH0 RF0 (gup (gup (gup (gup (gup (gup (gup (gup (gup (gup (gup (gup (gup (gup (gup (gup (gup (gup (gup (gup (gup (gup (gcp (gmx J) 68 70 0 0 65) 68 0 1) 68 2 0) 68 0 2) 68 2 0) 68 0 3) 68 2 0) 68 0 4) 68 2 0) 68 0 5) 68 2 0) 68 0 6) 68 2 0) 68 0 7) 68 2 0) 68 0 8) 68 2 0) 68 0 9) 68 2 0) 68 0 10) 68 2 0) 68 0 11) 68 2 0) (fun r h => r = some (.int 0) ∧ h = (SH0, RF0, (gup (gup (gup (gup (gup (gup (gup (gup (gup (gup (gup (gup (gup (gup (gup (gup (gup (gup (gup (gup (gup (gup (gcp (gmx J) 68 70 0 0 65) 68 0 1) 68 2 0) 68 0 2) 68 2 0) 68 0 3) 68 2 0) 68 0 4) 68 2 0) 68 0 5) 68 2 0) 68 0 6) 68 2 0) 68 0 7) 68 2 0) 68 0 8) 68 2 0) 68 0 9) 68 2 0) 68 0 10) 68 2 0) 68 0 11) 68 2 0))) := by
  refine G_iconst (pc := 0) (v := 0) (by decide) dX12_those_0 ?_
  refine G_istore_n (pc := 1) (L1 := [some (.ref 67), some (.int 4), some (.int 0), none]) rfl rfl (by decide) dX12_those_1 ?_
  refine G_iconst (pc := 2) (v := 0) (by decide) dX12_those_2 ?_
  refine G_istore_n (pc := 3) (L1 := [some (.ref 67), some (.int 4), some (.int 0), some (.int 0)]) rfl rfl (by decide) dX12_those_3 ?_
  refine G_iload_n (pc := 4) rfl dX12_those_4 ?_
  refine G_aload_n (pc := 5) rfl dX12_those_5 ?_
  refine G_getR (pc := 6) (r := 68) (ci := 12) (j := 0) rfl lk_RX12_9 rfl rfl rfl dX12_those_6 ?_
  refine G_iconst (pc := 9) (v := 4) (by decide) dX12_those_9 ?_
  refine G_iald (pc := 10) (jj := 4) (v := 0) (by decide) rfl rfl (by unfold vp_in; decide) dX12_those_10 ?_
  refine G_icmp_ge (pc := 11) (tgt := 39) (by decide) dX12_those_11 (fun _ => ?_) (fun z => absurd (by decide) z)
  refine G_iload_n (pc := 39) rfl dX12_those_39 ?_
  exact G_iret (pc := 40) (Nat.le_of_ble_eq_true rfl) (Nat.le_of_ble_eq_true rfl) rfl dX12_those_40 ⟨rfl, rfl⟩
set_option maxRecDepth 100000 in
set_option maxHeartbeats 4000000 in
theorem s10321_X12_teethAll (J : gI) (d : Nat)   : G (d) mX12_teethAll 0 0 0 0 0 (gent 3 [.ref 67]) [] SH0 RF0 (gup (gup (gup (gup (gup (gup (gup (gup (gup (gup (gup (gup (gup (gup (gup (gup (gup (gup (gup (gup (gup (gup (gcp (gmx J) 68 70 0 0 65) 68 0 1) 68 2 0) 68 0 2) 68 2 0) 68 0 3) 68 2 0) 68 0 4) 68 2 0) 68 0 5) 68 2 0) 68 0 6) 68 2 0) 68 0 7) 68 2 0) 68 0 8) 68 2 0) 68 0 9) 68 2 0) 68 0 10) 68 2 0) 68 0 11) 68 2 0) (fun r h => r = some (.int 0) ∧ h = (SH0, RF0, (gup (gup (gup (gup (gup (gup (gup (gup (gup (gup (gup (gup (gup (gup (gup (gup (gup (gup (gup (gup (gup (gup (gcp (gmx J) 68 70 0 0 65) 68 0 1) 68 2 0) 68 0 2) 68 2 0) 68 0 3) 68 2 0) 68 0 4) 68 2 0) 68 0 5) 68 2 0) 68 0 6) 68 2 0) 68 0 7) 68 2 0) 68 0 8) 68 2 0) 68 0 9) 68 2 0) 68 0 10) 68 2 0) 68 0 11) 68 2 0))) := by
  refine G_iconst (pc := 0) (v := 0) (by decide) dX12_teethAll_0 ?_
  refine G_istore_n (pc := 1) (L1 := [some (.ref 67), some (.int 0), none]) rfl rfl (by decide) dX12_teethAll_1 ?_
  refine G_iconst (pc := 2) (v := 0) (by decide) dX12_teethAll_2 ?_
  refine G_istore_n (pc := 3) (L1 := [some (.ref 67), some (.int 0), some (.int 0)]) rfl rfl (by decide) dX12_teethAll_3 ?_
  refine G_iload_n (pc := 4) rfl dX12_teethAll_4 ?_
  refine G_aload_n (pc := 5) rfl dX12_teethAll_5 ?_
  refine G_getR (pc := 6) (r := 68) (ci := 12) (j := 0) rfl lk_RX12_9 rfl rfl rfl dX12_teethAll_6 ?_
  refine G_iconst (pc := 9) (v := 4) (by decide) dX12_teethAll_9 ?_
  refine G_iald (pc := 10) (jj := 4) (v := 0) (by decide) rfl rfl (by unfold vp_in; decide) dX12_teethAll_10 ?_
  refine G_icmp_ge (pc := 11) (tgt := 29) (by decide) dX12_teethAll_11 (fun _ => ?_) (fun z => absurd (by decide) z)
  refine G_iload_n (pc := 29) rfl dX12_teethAll_29 ?_
  exact G_iret (pc := 30) (Nat.le_of_ble_eq_true rfl) (Nat.le_of_ble_eq_true rfl) rfl dX12_teethAll_30 ⟨rfl, rfl⟩
set_option maxRecDepth 100000 in
set_option maxHeartbeats 4000000 in
theorem s10322_X12_those (J : gI) (d : Nat)   : G (d) mX12_those 0 0 0 0 0 (gent 4 [.ref 67, .int 4]) [] SH0 RF0 (gup (gup (gup (gup (gup (gup (gup (gup (gup (gup (gup (gup (gup (gup (gup (gup (gup (gup (gup (gup (gup (gup (gup (gup (gcp (gmx J) 68 70 0 0 65) 68 0 1) 68 2 0) 68 0 2) 68 2 0) 68 0 3) 68 2 0) 68 0 4) 68 2 0) 68 0 5) 68 2 0) 68 0 6) 68 2 0) 68 0 7) 68 2 0) 68 0 8) 68 2 0) 68 0 9) 68 2 0) 68 0 10) 68 2 0) 68 0 11) 68 2 0) 68 0 12) 68 2 0) (fun r h => r = some (.int 0) ∧ h = (SH0, RF0, (gup (gup (gup (gup (gup (gup (gup (gup (gup (gup (gup (gup (gup (gup (gup (gup (gup (gup (gup (gup (gup (gup (gup (gup (gcp (gmx J) 68 70 0 0 65) 68 0 1) 68 2 0) 68 0 2) 68 2 0) 68 0 3) 68 2 0) 68 0 4) 68 2 0) 68 0 5) 68 2 0) 68 0 6) 68 2 0) 68 0 7) 68 2 0) 68 0 8) 68 2 0) 68 0 9) 68 2 0) 68 0 10) 68 2 0) 68 0 11) 68 2 0) 68 0 12) 68 2 0))) := by
  refine G_iconst (pc := 0) (v := 0) (by decide) dX12_those_0 ?_
  refine G_istore_n (pc := 1) (L1 := [some (.ref 67), some (.int 4), some (.int 0), none]) rfl rfl (by decide) dX12_those_1 ?_
  refine G_iconst (pc := 2) (v := 0) (by decide) dX12_those_2 ?_
  refine G_istore_n (pc := 3) (L1 := [some (.ref 67), some (.int 4), some (.int 0), some (.int 0)]) rfl rfl (by decide) dX12_those_3 ?_
  refine G_iload_n (pc := 4) rfl dX12_those_4 ?_
  refine G_aload_n (pc := 5) rfl dX12_those_5 ?_
  refine G_getR (pc := 6) (r := 68) (ci := 12) (j := 0) rfl lk_RX12_9 rfl rfl rfl dX12_those_6 ?_
  refine G_iconst (pc := 9) (v := 4) (by decide) dX12_those_9 ?_
  refine G_iald (pc := 10) (jj := 4) (v := 0) (by decide) rfl rfl (by unfold vp_in; decide) dX12_those_10 ?_
  refine G_icmp_ge (pc := 11) (tgt := 39) (by decide) dX12_those_11 (fun _ => ?_) (fun z => absurd (by decide) z)
  refine G_iload_n (pc := 39) rfl dX12_those_39 ?_
  exact G_iret (pc := 40) (Nat.le_of_ble_eq_true rfl) (Nat.le_of_ble_eq_true rfl) rfl dX12_those_40 ⟨rfl, rfl⟩
set_option maxRecDepth 100000 in
set_option maxHeartbeats 4000000 in
theorem s10323_X12_teethAll (J : gI) (d : Nat)   : G (d) mX12_teethAll 0 0 0 0 0 (gent 3 [.ref 67]) [] SH0 RF0 (gup (gup (gup (gup (gup (gup (gup (gup (gup (gup (gup (gup (gup (gup (gup (gup (gup (gup (gup (gup (gup (gup (gup (gup (gcp (gmx J) 68 70 0 0 65) 68 0 1) 68 2 0) 68 0 2) 68 2 0) 68 0 3) 68 2 0) 68 0 4) 68 2 0) 68 0 5) 68 2 0) 68 0 6) 68 2 0) 68 0 7) 68 2 0) 68 0 8) 68 2 0) 68 0 9) 68 2 0) 68 0 10) 68 2 0) 68 0 11) 68 2 0) 68 0 12) 68 2 0) (fun r h => r = some (.int 0) ∧ h = (SH0, RF0, (gup (gup (gup (gup (gup (gup (gup (gup (gup (gup (gup (gup (gup (gup (gup (gup (gup (gup (gup (gup (gup (gup (gup (gup (gcp (gmx J) 68 70 0 0 65) 68 0 1) 68 2 0) 68 0 2) 68 2 0) 68 0 3) 68 2 0) 68 0 4) 68 2 0) 68 0 5) 68 2 0) 68 0 6) 68 2 0) 68 0 7) 68 2 0) 68 0 8) 68 2 0) 68 0 9) 68 2 0) 68 0 10) 68 2 0) 68 0 11) 68 2 0) 68 0 12) 68 2 0))) := by
  refine G_iconst (pc := 0) (v := 0) (by decide) dX12_teethAll_0 ?_
  refine G_istore_n (pc := 1) (L1 := [some (.ref 67), some (.int 0), none]) rfl rfl (by decide) dX12_teethAll_1 ?_
  refine G_iconst (pc := 2) (v := 0) (by decide) dX12_teethAll_2 ?_
  refine G_istore_n (pc := 3) (L1 := [some (.ref 67), some (.int 0), some (.int 0)]) rfl rfl (by decide) dX12_teethAll_3 ?_
  refine G_iload_n (pc := 4) rfl dX12_teethAll_4 ?_
  refine G_aload_n (pc := 5) rfl dX12_teethAll_5 ?_
  refine G_getR (pc := 6) (r := 68) (ci := 12) (j := 0) rfl lk_RX12_9 rfl rfl rfl dX12_teethAll_6 ?_
  refine G_iconst (pc := 9) (v := 4) (by decide) dX12_teethAll_9 ?_
  refine G_iald (pc := 10) (jj := 4) (v := 0) (by decide) rfl rfl (by unfold vp_in; decide) dX12_teethAll_10 ?_
  refine G_icmp_ge (pc := 11) (tgt := 29) (by decide) dX12_teethAll_11 (fun _ => ?_) (fun z => absurd (by decide) z)
  refine G_iload_n (pc := 29) rfl dX12_teethAll_29 ?_
  exact G_iret (pc := 30) (Nat.le_of_ble_eq_true rfl) (Nat.le_of_ble_eq_true rfl) rfl dX12_teethAll_30 ⟨rfl, rfl⟩
set_option maxRecDepth 100000 in
set_option maxHeartbeats 4000000 in
theorem z_left (J : gI) (d : Nat) (n : Int32) (what : Int32) : G (d + 2) mX12_left 0 0 0 0 0 (gent 5 [.ref 67, .int n, .int what]) [] SH0 RF0 (gmx J) (fun r _ => r = some (.int (F_left n what))) := by
  refine G_iload_n (pc := 0) rfl dX12_left_0 ?_
  refine G_iconst (pc := 1) (v := 0) (by decide) dX12_left_1 ?_
  refine G_bipush (pc := 2) (v := 16) (by decide) dX12_left_2 ?_
  refine G_callS (pc := 4) (mc1 := 0) (ms1 := 0) (mj := mX12_in1) (vs := [_, _, _]) dX12_left_4 cm_X12_in1 wh_0 wh_3 rfl (Nat.le_of_ble_eq_true rfl) (Nat.le_of_ble_eq_true rfl) (Nat.le_of_ble_eq_true rfl) (Nat.le_of_ble_eq_true rfl) (in1_s (d + 1) n 0 16) ?_
  rintro _ _ ⟨rfl, rfl⟩
  dsimp only [Option.toList, List.cons_append, List.nil_append]
  refine G_if_eq (pc := 7) (tgt := 19) (by decide) dX12_left_7 (fun c355 => ?_) (fun c355 => ?_)
  · have c355 := gB_z c355
    refine G_iconst (pc := 19) (v := (-1)) (by decide) dX12_left_19 ?_
    exact G_iret (pc := 20) (Nat.le_of_ble_eq_true rfl) (Nat.le_of_ble_eq_true rfl) rfl dX12_left_20 (by first | rfl | (simp [F_left, *]; done) | (have : ¬ (0 ≤ (n).toInt ∧ (n).toInt ≤ 16) := fun z => c355 ⟨Int32.le_iff_toInt_le.mpr z.1, Int32.le_iff_toInt_le.mpr z.2⟩; simp only [F_left, Int32.le_iff_toInt_le, Int32.lt_iff_toInt_lt, ← Int32.toInt_inj]; simp; omega) | (have : ¬ (0 ≤ (n).toInt ∧ (n).toInt ≤ 16) := fun z => c355 ⟨Int32.le_iff_toInt_le.mpr z.1, Int32.le_iff_toInt_le.mpr z.2⟩; simp only [F_left, Int32.le_iff_toInt_le, Int32.lt_iff_toInt_lt, ← Int32.toInt_inj]; split <;> first | rfl | (exfalso; simp at *; omega)) | (have : ¬ (0 ≤ (n).toInt ∧ (n).toInt ≤ 16) := fun z => c355 ⟨Int32.le_iff_toInt_le.mpr z.1, Int32.le_iff_toInt_le.mpr z.2⟩; unfold F_left; (repeat' split) <;> first | rfl | (exfalso; (try simp only [Int32.le_iff_toInt_le, Int32.lt_iff_toInt_lt, ← Int32.toInt_inj] at *); first | omega | (simp at *; done) | (simp at *; omega))))
  · have c355 := gB_o c355
    refine G_iload_n (pc := 10) rfl dX12_left_10 ?_
    refine G_iconst (pc := 11) (v := 0) (by decide) dX12_left_11 ?_
    refine G_iconst (pc := 12) (v := 1) (by decide) dX12_left_12 ?_
    refine G_callS (pc := 13) (mc1 := 0) (ms1 := 0) (mj := mX12_in1) (vs := [_, _, _]) dX12_left_13 cm_X12_in1 wh_0 wh_3 rfl (Nat.le_of_ble_eq_true rfl) (Nat.le_of_ble_eq_true rfl) (Nat.le_of_ble_eq_true rfl) (Nat.le_of_ble_eq_true rfl) (in1_s (d + 1) what 0 1) ?_
    rintro _ _ ⟨rfl, rfl⟩
    dsimp only [Option.toList, List.cons_append, List.nil_append]
    refine G_if_ne (pc := 16) (tgt := 21) (by decide) dX12_left_16 (fun c356 => ?_) (fun c356 => ?_)
    · have c356 := gB_o c356
      refine G_aload_n (pc := 21) rfl dX12_left_21 ?_
      refine G_callV (pc := 22) (mc1 := 0) (ms1 := 0) (ci := 12) (mj := mX12_layDown) (vs := []) dX12_left_22 rfl rfl cm_X12_layDown wh_53 wh_55 wh_56 rfl (Nat.le_of_ble_eq_true rfl) (Nat.le_of_ble_eq_true rfl) (Nat.le_of_ble_eq_true rfl) (Nat.le_of_ble_eq_true rfl) (layDown_s (d + 1) (gmx J)) ?_
      rintro _ _ ⟨rfl, rfl⟩
      dsimp only [Option.toList, List.cons_append, List.nil_append]
      refine G_iconst (pc := 25) (v := 0) (by decide) dX12_left_25 ?_
      refine G_istore_n (pc := 26) (L1 := [some (.ref 67), some (.int n), some (.int what), some (.int 0), none]) rfl rfl (by decide) dX12_left_26 ?_
      refine G_iconst (pc := 27) (v := 0) (by decide) dX12_left_27 ?_
      refine G_istore (pc := 28) (L1 := [some (.ref 67), some (.int n), some (.int what), some (.int 0), some (.int 0)]) rfl rfl (by decide) dX12_left_28 ?_
      refine G_iload (pc := 30) rfl dX12_left_30 ?_
      refine G_iload_n (pc := 32) rfl dX12_left_32 ?_
      refine G_icmp_ge (pc := 33) (tgt := 57) (by decide) dX12_left_33 (fun c357 => ?_) (fun c357 => ?_)
      · refine G_iload_n (pc := 57) rfl dX12_left_57 ?_
        refine G_if_ge (pc := 58) (tgt := 65) (by decide) dX12_left_58 (fun _ => ?_) (fun z => absurd (by decide) z)
        refine G_iload_n (pc := 65) rfl dX12_left_65 ?_
        refine G_if_ne (pc := 66) (tgt := 76) (by decide) dX12_left_66 (fun c358 => ?_) (fun c358 => ?_)
        · refine G_aload_n (pc := 76) rfl dX12_left_76 ?_
          refine G_iconst (pc := 77) (v := 4) (by decide) dX12_left_77 ?_
          refine G_callV (pc := 78) (mc1 := 0) (ms1 := 0) (ci := 12) (mj := mX12_those) (vs := [_]) dX12_left_78 rfl rfl cm_X12_those wh_26 wh_28 wh_29 rfl (Nat.le_of_ble_eq_true rfl) (Nat.le_of_ble_eq_true rfl) (Nat.le_of_ble_eq_true rfl) (Nat.le_of_ble_eq_true rfl) (s10298_X12_those J (d + 1)  ) ?_
          rintro _ _ ⟨rfl, rfl⟩
          dsimp only [Option.toList, List.cons_append, List.nil_append]
          refine G_istore (pc := 81) (L1 := [some (.ref 67), some (.int n), some (.int what), some (.int 0), some (.int 0)]) rfl rfl (by decide) dX12_left_81 ?_
          refine G_aload_n (pc := 83) rfl dX12_left_83 ?_
          refine G_callV (pc := 84) (mc1 := 0) (ms1 := 0) (ci := 12) (mj := mX12_layBack) (vs := []) dX12_left_84 rfl rfl cm_X12_layBack wh_57 wh_59 wh_60 rfl (Nat.le_of_ble_eq_true rfl) (Nat.le_of_ble_eq_true rfl) (Nat.le_of_ble_eq_true rfl) (Nat.le_of_ble_eq_true rfl) (layBack_s (d + 1) (gcp (gmx J) 68 70 0 0 65)) ?_
          rintro _ _ ⟨rfl, rfl⟩
          dsimp only [Option.toList, List.cons_append, List.nil_append]
          refine G_iload (pc := 87) rfl dX12_left_87 ?_
          exact G_iret (pc := 89) (Nat.le_of_ble_eq_true rfl) (Nat.le_of_ble_eq_true rfl) rfl dX12_left_89 (by first | rfl | (simp [F_left, *]; done) | (have : 0 ≤ (n).toInt := Int32.le_iff_toInt_le.mp (c355.1); have : (n).toInt ≤ 16 := Int32.le_iff_toInt_le.mp (c355.2); have : (n).toInt ≤ 0 := Int32.le_iff_toInt_le.mp (c357); have : 0 ≤ (what).toInt := Int32.le_iff_toInt_le.mp (c356.1); have : (what).toInt ≤ 1 := Int32.le_iff_toInt_le.mp (c356.2); have : (what).toInt ≠ 0 := g_ne (c358); simp only [F_left, Int32.le_iff_toInt_le, Int32.lt_iff_toInt_lt, ← Int32.toInt_inj]; simp; omega) | (have : 0 ≤ (n).toInt := Int32.le_iff_toInt_le.mp (c355.1); have : (n).toInt ≤ 16 := Int32.le_iff_toInt_le.mp (c355.2); have : (n).toInt ≤ 0 := Int32.le_iff_toInt_le.mp (c357); have : 0 ≤ (what).toInt := Int32.le_iff_toInt_le.mp (c356.1); have : (what).toInt ≤ 1 := Int32.le_iff_toInt_le.mp (c356.2); have : (what).toInt ≠ 0 := g_ne (c358); simp only [F_left, Int32.le_iff_toInt_le, Int32.lt_iff_toInt_lt, ← Int32.toInt_inj]; split <;> first | rfl | (exfalso; simp at *; omega)) | (have : 0 ≤ (n).toInt := Int32.le_iff_toInt_le.mp (c355.1); have : (n).toInt ≤ 16 := Int32.le_iff_toInt_le.mp (c355.2); have : (n).toInt ≤ 0 := Int32.le_iff_toInt_le.mp (c357); have : 0 ≤ (what).toInt := Int32.le_iff_toInt_le.mp (c356.1); have : (what).toInt ≤ 1 := Int32.le_iff_toInt_le.mp (c356.2); have : (what).toInt ≠ 0 := g_ne (c358); unfold F_left; (repeat' split) <;> first | rfl | (exfalso; (try simp only [Int32.le_iff_toInt_le, Int32.lt_iff_toInt_lt, ← Int32.toInt_inj] at *); first | omega | (simp at *; done) | (simp at *; omega))))
        · refine G_aload_n (pc := 69) rfl dX12_left_69 ?_
          refine G_callV (pc := 70) (mc1 := 0) (ms1 := 0) (ci := 12) (mj := mX12_teethAll) (vs := []) dX12_left_70 rfl rfl cm_X12_teethAll wh_34 wh_36 wh_37 rfl (Nat.le_of_ble_eq_true rfl) (Nat.le_of_ble_eq_true rfl) (Nat.le_of_ble_eq_true rfl) (Nat.le_of_ble_eq_true rfl) (s10299_X12_teethAll J (d + 1)  ) ?_
          rintro _ _ ⟨rfl, rfl⟩
          dsimp only [Option.toList, List.cons_append, List.nil_append]
          refine G_goto (pc := 73) (tgt := 81) (by decide) dX12_left_73 ?_
          refine G_istore (pc := 81) (L1 := [some (.ref 67), some (.int n), some (.int what), some (.int 0), some (.int 0)]) rfl rfl (by decide) dX12_left_81 ?_
          refine G_aload_n (pc := 83) rfl dX12_left_83 ?_
          refine G_callV (pc := 84) (mc1 := 0) (ms1 := 0) (ci := 12) (mj := mX12_layBack) (vs := []) dX12_left_84 rfl rfl cm_X12_layBack wh_57 wh_59 wh_60 rfl (Nat.le_of_ble_eq_true rfl) (Nat.le_of_ble_eq_true rfl) (Nat.le_of_ble_eq_true rfl) (Nat.le_of_ble_eq_true rfl) (layBack_s (d + 1) (gcp (gmx J) 68 70 0 0 65)) ?_
          rintro _ _ ⟨rfl, rfl⟩
          dsimp only [Option.toList, List.cons_append, List.nil_append]
          refine G_iload (pc := 87) rfl dX12_left_87 ?_
          exact G_iret (pc := 89) (Nat.le_of_ble_eq_true rfl) (Nat.le_of_ble_eq_true rfl) rfl dX12_left_89 (by first | rfl | (simp [F_left, *]; done) | (have : 0 ≤ (n).toInt := Int32.le_iff_toInt_le.mp (c355.1); have : (n).toInt ≤ 16 := Int32.le_iff_toInt_le.mp (c355.2); have : (n).toInt ≤ 0 := Int32.le_iff_toInt_le.mp (c357); have : 0 ≤ (what).toInt := Int32.le_iff_toInt_le.mp (c356.1); have : (what).toInt ≤ 1 := Int32.le_iff_toInt_le.mp (c356.2); have : (what).toInt = 0 := congrArg Int32.toInt (c358); simp only [F_left, Int32.le_iff_toInt_le, Int32.lt_iff_toInt_lt, ← Int32.toInt_inj]; simp; omega) | (have : 0 ≤ (n).toInt := Int32.le_iff_toInt_le.mp (c355.1); have : (n).toInt ≤ 16 := Int32.le_iff_toInt_le.mp (c355.2); have : (n).toInt ≤ 0 := Int32.le_iff_toInt_le.mp (c357); have : 0 ≤ (what).toInt := Int32.le_iff_toInt_le.mp (c356.1); have : (what).toInt ≤ 1 := Int32.le_iff_toInt_le.mp (c356.2); have : (what).toInt = 0 := congrArg Int32.toInt (c358); simp only [F_left, Int32.le_iff_toInt_le, Int32.lt_iff_toInt_lt, ← Int32.toInt_inj]; split <;> first | rfl | (exfalso; simp at *; omega)) | (have : 0 ≤ (n).toInt := Int32.le_iff_toInt_le.mp (c355.1); have : (n).toInt ≤ 16 := Int32.le_iff_toInt_le.mp (c355.2); have : (n).toInt ≤ 0 := Int32.le_iff_toInt_le.mp (c357); have : 0 ≤ (what).toInt := Int32.le_iff_toInt_le.mp (c356.1); have : (what).toInt ≤ 1 := Int32.le_iff_toInt_le.mp (c356.2); have : (what).toInt = 0 := congrArg Int32.toInt (c358); unfold F_left; (repeat' split) <;> first | rfl | (exfalso; (try simp only [Int32.le_iff_toInt_le, Int32.lt_iff_toInt_lt, ← Int32.toInt_inj] at *); first | omega | (simp at *; done) | (simp at *; omega))))
      · refine G_aload_n (pc := 36) rfl dX12_left_36 ?_
        refine G_callV (pc := 37) (mc1 := 0) (ms1 := 0) (ci := 12) (mj := mX12_isOver) (vs := []) dX12_left_37 rfl rfl cm_X12_isOver wh_22 wh_24 wh_25 rfl (Nat.le_of_ble_eq_true rfl) (Nat.le_of_ble_eq_true rfl) (Nat.le_of_ble_eq_true rfl) (Nat.le_of_ble_eq_true rfl) (s10244_X12_isOver J (d + 1)  ) ?_
        rintro _ _ ⟨rfl, rfl⟩
        dsimp only [Option.toList, List.cons_append, List.nil_append]
        refine G_if_ne (pc := 40) (tgt := 57) (by decide) dX12_left_40 (fun z => absurd (by decide) z) (fun _ => ?_)
        refine G_iload_n (pc := 43) rfl dX12_left_43 ?_
        refine G_aload_n (pc := 44) rfl dX12_left_44 ?_
        refine G_iconst (pc := 45) (v := (-1)) (by decide) dX12_left_45 ?_
        refine G_callV (pc := 46) (mc1 := 0) (ms1 := 0) (ci := 12) (mj := mX12_goesBy) (vs := [_]) dX12_left_46 rfl rfl cm_X12_goesBy wh_72 wh_74 wh_75 rfl (Nat.le_of_ble_eq_true rfl) (Nat.le_of_ble_eq_true rfl) (Nat.le_of_ble_eq_true rfl) (Nat.le_of_ble_eq_true rfl) (s10245_X12_goesBy J d  ) ?_
        rintro _ _ ⟨rfl, rfl⟩
        dsimp only [Option.toList, List.cons_append, List.nil_append]
        refine G_iadd (pc := 49) (z := 0) (by decide) dX12_left_49 ?_
        refine G_istore_n (pc := 50) (L1 := [some (.ref 67), some (.int n), some (.int what), some (.int 0), some (.int 0)]) rfl rfl (by decide) dX12_left_50 ?_
        refine G_iinc (pc := 51) (v := 1) (w := 1) (L1 := [some (.ref 67), some (.int n), some (.int what), some (.int 0), some (.int 1)]) (by decide) rfl rfl (by decide) rfl (by decide) dX12_left_51 ?_
        refine G_goto (pc := 54) (tgt := 30) (by decide) dX12_left_54 ?_
        refine G_iload (pc := 30) rfl dX12_left_30 ?_
        refine G_iload_n (pc := 32) rfl dX12_left_32 ?_
        refine G_icmp_ge (pc := 33) (tgt := 57) (by decide) dX12_left_33 (fun c359 => ?_) (fun c359 => ?_)
        · refine G_iload_n (pc := 57) rfl dX12_left_57 ?_
          refine G_if_ge (pc := 58) (tgt := 65) (by decide) dX12_left_58 (fun _ => ?_) (fun z => absurd (by decide) z)
          refine G_iload_n (pc := 65) rfl dX12_left_65 ?_
          refine G_if_ne (pc := 66) (tgt := 76) (by decide) dX12_left_66 (fun c360 => ?_) (fun c360 => ?_)
          · refine G_aload_n (pc := 76) rfl dX12_left_76 ?_
            refine G_iconst (pc := 77) (v := 4) (by decide) dX12_left_77 ?_
            refine G_callV (pc := 78) (mc1 := 0) (ms1 := 0) (ci := 12) (mj := mX12_those) (vs := [_]) dX12_left_78 rfl rfl cm_X12_those wh_26 wh_28 wh_29 rfl (Nat.le_of_ble_eq_true rfl) (Nat.le_of_ble_eq_true rfl) (Nat.le_of_ble_eq_true rfl) (Nat.le_of_ble_eq_true rfl) (s10300_X12_those J (d + 1)  ) ?_
            rintro _ _ ⟨rfl, rfl⟩
            dsimp only [Option.toList, List.cons_append, List.nil_append]
            refine G_istore (pc := 81) (L1 := [some (.ref 67), some (.int n), some (.int what), some (.int 0), some (.int 0)]) rfl rfl (by decide) dX12_left_81 ?_
            refine G_aload_n (pc := 83) rfl dX12_left_83 ?_
            refine G_callV (pc := 84) (mc1 := 0) (ms1 := 0) (ci := 12) (mj := mX12_layBack) (vs := []) dX12_left_84 rfl rfl cm_X12_layBack wh_57 wh_59 wh_60 rfl (Nat.le_of_ble_eq_true rfl) (Nat.le_of_ble_eq_true rfl) (Nat.le_of_ble_eq_true rfl) (Nat.le_of_ble_eq_true rfl) (layBack_s (d + 1) (gup (gup (gcp (gmx J) 68 70 0 0 65) 68 0 1) 68 2 0)) ?_
            rintro _ _ ⟨rfl, rfl⟩
            dsimp only [Option.toList, List.cons_append, List.nil_append]
            refine G_iload (pc := 87) rfl dX12_left_87 ?_
            exact G_iret (pc := 89) (Nat.le_of_ble_eq_true rfl) (Nat.le_of_ble_eq_true rfl) rfl dX12_left_89 (by first | rfl | (simp [F_left, *]; done) | (have : 0 ≤ (n).toInt := Int32.le_iff_toInt_le.mp (c355.1); have : (n).toInt ≤ 16 := Int32.le_iff_toInt_le.mp (c355.2); have : 0 < (n).toInt := Int32.lt_iff_toInt_lt.mp (Int32.not_le.mp c357); have : (n).toInt ≤ 1 := Int32.le_iff_toInt_le.mp (c359); have : 0 ≤ (what).toInt := Int32.le_iff_toInt_le.mp (c356.1); have : (what).toInt ≤ 1 := Int32.le_iff_toInt_le.mp (c356.2); have : (what).toInt ≠ 0 := g_ne (c360); simp only [F_left, Int32.le_iff_toInt_le, Int32.lt_iff_toInt_lt, ← Int32.toInt_inj]; simp; omega) | (have : 0 ≤ (n).toInt := Int32.le_iff_toInt_le.mp (c355.1); have : (n).toInt ≤ 16 := Int32.le_iff_toInt_le.mp (c355.2); have : 0 < (n).toInt := Int32.lt_iff_toInt_lt.mp (Int32.not_le.mp c357); have : (n).toInt ≤ 1 := Int32.le_iff_toInt_le.mp (c359); have : 0 ≤ (what).toInt := Int32.le_iff_toInt_le.mp (c356.1); have : (what).toInt ≤ 1 := Int32.le_iff_toInt_le.mp (c356.2); have : (what).toInt ≠ 0 := g_ne (c360); simp only [F_left, Int32.le_iff_toInt_le, Int32.lt_iff_toInt_lt, ← Int32.toInt_inj]; split <;> first | rfl | (exfalso; simp at *; omega)) | (have : 0 ≤ (n).toInt := Int32.le_iff_toInt_le.mp (c355.1); have : (n).toInt ≤ 16 := Int32.le_iff_toInt_le.mp (c355.2); have : 0 < (n).toInt := Int32.lt_iff_toInt_lt.mp (Int32.not_le.mp c357); have : (n).toInt ≤ 1 := Int32.le_iff_toInt_le.mp (c359); have : 0 ≤ (what).toInt := Int32.le_iff_toInt_le.mp (c356.1); have : (what).toInt ≤ 1 := Int32.le_iff_toInt_le.mp (c356.2); have : (what).toInt ≠ 0 := g_ne (c360); unfold F_left; (repeat' split) <;> first | rfl | (exfalso; (try simp only [Int32.le_iff_toInt_le, Int32.lt_iff_toInt_lt, ← Int32.toInt_inj] at *); first | omega | (simp at *; done) | (simp at *; omega))))
          · refine G_aload_n (pc := 69) rfl dX12_left_69 ?_
            refine G_callV (pc := 70) (mc1 := 0) (ms1 := 0) (ci := 12) (mj := mX12_teethAll) (vs := []) dX12_left_70 rfl rfl cm_X12_teethAll wh_34 wh_36 wh_37 rfl (Nat.le_of_ble_eq_true rfl) (Nat.le_of_ble_eq_true rfl) (Nat.le_of_ble_eq_true rfl) (Nat.le_of_ble_eq_true rfl) (s10301_X12_teethAll J (d + 1)  ) ?_
            rintro _ _ ⟨rfl, rfl⟩
            dsimp only [Option.toList, List.cons_append, List.nil_append]
            refine G_goto (pc := 73) (tgt := 81) (by decide) dX12_left_73 ?_
            refine G_istore (pc := 81) (L1 := [some (.ref 67), some (.int n), some (.int what), some (.int 0), some (.int 0)]) rfl rfl (by decide) dX12_left_81 ?_
            refine G_aload_n (pc := 83) rfl dX12_left_83 ?_
            refine G_callV (pc := 84) (mc1 := 0) (ms1 := 0) (ci := 12) (mj := mX12_layBack) (vs := []) dX12_left_84 rfl rfl cm_X12_layBack wh_57 wh_59 wh_60 rfl (Nat.le_of_ble_eq_true rfl) (Nat.le_of_ble_eq_true rfl) (Nat.le_of_ble_eq_true rfl) (Nat.le_of_ble_eq_true rfl) (layBack_s (d + 1) (gup (gup (gcp (gmx J) 68 70 0 0 65) 68 0 1) 68 2 0)) ?_
            rintro _ _ ⟨rfl, rfl⟩
            dsimp only [Option.toList, List.cons_append, List.nil_append]
            refine G_iload (pc := 87) rfl dX12_left_87 ?_
            exact G_iret (pc := 89) (Nat.le_of_ble_eq_true rfl) (Nat.le_of_ble_eq_true rfl) rfl dX12_left_89 (by first | rfl | (simp [F_left, *]; done) | (have : 0 ≤ (n).toInt := Int32.le_iff_toInt_le.mp (c355.1); have : (n).toInt ≤ 16 := Int32.le_iff_toInt_le.mp (c355.2); have : 0 < (n).toInt := Int32.lt_iff_toInt_lt.mp (Int32.not_le.mp c357); have : (n).toInt ≤ 1 := Int32.le_iff_toInt_le.mp (c359); have : 0 ≤ (what).toInt := Int32.le_iff_toInt_le.mp (c356.1); have : (what).toInt ≤ 1 := Int32.le_iff_toInt_le.mp (c356.2); have : (what).toInt = 0 := congrArg Int32.toInt (c360); simp only [F_left, Int32.le_iff_toInt_le, Int32.lt_iff_toInt_lt, ← Int32.toInt_inj]; simp; omega) | (have : 0 ≤ (n).toInt := Int32.le_iff_toInt_le.mp (c355.1); have : (n).toInt ≤ 16 := Int32.le_iff_toInt_le.mp (c355.2); have : 0 < (n).toInt := Int32.lt_iff_toInt_lt.mp (Int32.not_le.mp c357); have : (n).toInt ≤ 1 := Int32.le_iff_toInt_le.mp (c359); have : 0 ≤ (what).toInt := Int32.le_iff_toInt_le.mp (c356.1); have : (what).toInt ≤ 1 := Int32.le_iff_toInt_le.mp (c356.2); have : (what).toInt = 0 := congrArg Int32.toInt (c360); simp only [F_left, Int32.le_iff_toInt_le, Int32.lt_iff_toInt_lt, ← Int32.toInt_inj]; split <;> first | rfl | (exfalso; simp at *; omega)) | (have : 0 ≤ (n).toInt := Int32.le_iff_toInt_le.mp (c355.1); have : (n).toInt ≤ 16 := Int32.le_iff_toInt_le.mp (c355.2); have : 0 < (n).toInt := Int32.lt_iff_toInt_lt.mp (Int32.not_le.mp c357); have : (n).toInt ≤ 1 := Int32.le_iff_toInt_le.mp (c359); have : 0 ≤ (what).toInt := Int32.le_iff_toInt_le.mp (c356.1); have : (what).toInt ≤ 1 := Int32.le_iff_toInt_le.mp (c356.2); have : (what).toInt = 0 := congrArg Int32.toInt (c360); unfold F_left; (repeat' split) <;> first | rfl | (exfalso; (try simp only [Int32.le_iff_toInt_le, Int32.lt_iff_toInt_lt, ← Int32.toInt_inj] at *); first | omega | (simp at *; done) | (simp at *; omega))))
        · refine G_aload_n (pc := 36) rfl dX12_left_36 ?_
          refine G_callV (pc := 37) (mc1 := 0) (ms1 := 0) (ci := 12) (mj := mX12_isOver) (vs := []) dX12_left_37 rfl rfl cm_X12_isOver wh_22 wh_24 wh_25 rfl (Nat.le_of_ble_eq_true rfl) (Nat.le_of_ble_eq_true rfl) (Nat.le_of_ble_eq_true rfl) (Nat.le_of_ble_eq_true rfl) (s10247_X12_isOver J (d + 1)  ) ?_
          rintro _ _ ⟨rfl, rfl⟩
          dsimp only [Option.toList, List.cons_append, List.nil_append]
          refine G_if_ne (pc := 40) (tgt := 57) (by decide) dX12_left_40 (fun z => absurd (by decide) z) (fun _ => ?_)
          refine G_iload_n (pc := 43) rfl dX12_left_43 ?_
          refine G_aload_n (pc := 44) rfl dX12_left_44 ?_
          refine G_iconst (pc := 45) (v := (-1)) (by decide) dX12_left_45 ?_
          refine G_callV (pc := 46) (mc1 := 0) (ms1 := 0) (ci := 12) (mj := mX12_goesBy) (vs := [_]) dX12_left_46 rfl rfl cm_X12_goesBy wh_72 wh_74 wh_75 rfl (Nat.le_of_ble_eq_true rfl) (Nat.le_of_ble_eq_true rfl) (Nat.le_of_ble_eq_true rfl) (Nat.le_of_ble_eq_true rfl) (s10248_X12_goesBy J d  ) ?_
          rintro _ _ ⟨rfl, rfl⟩
          dsimp only [Option.toList, List.cons_append, List.nil_append]
          refine G_iadd (pc := 49) (z := 0) (by decide) dX12_left_49 ?_
          refine G_istore_n (pc := 50) (L1 := [some (.ref 67), some (.int n), some (.int what), some (.int 0), some (.int 1)]) rfl rfl (by decide) dX12_left_50 ?_
          refine G_iinc (pc := 51) (v := 1) (w := 2) (L1 := [some (.ref 67), some (.int n), some (.int what), some (.int 0), some (.int 2)]) (by decide) rfl rfl (by decide) rfl (by decide) dX12_left_51 ?_
          refine G_goto (pc := 54) (tgt := 30) (by decide) dX12_left_54 ?_
          refine G_iload (pc := 30) rfl dX12_left_30 ?_
          refine G_iload_n (pc := 32) rfl dX12_left_32 ?_
          refine G_icmp_ge (pc := 33) (tgt := 57) (by decide) dX12_left_33 (fun c361 => ?_) (fun c361 => ?_)
          · refine G_iload_n (pc := 57) rfl dX12_left_57 ?_
            refine G_if_ge (pc := 58) (tgt := 65) (by decide) dX12_left_58 (fun _ => ?_) (fun z => absurd (by decide) z)
            refine G_iload_n (pc := 65) rfl dX12_left_65 ?_
            refine G_if_ne (pc := 66) (tgt := 76) (by decide) dX12_left_66 (fun c362 => ?_) (fun c362 => ?_)
            · refine G_aload_n (pc := 76) rfl dX12_left_76 ?_
              refine G_iconst (pc := 77) (v := 4) (by decide) dX12_left_77 ?_
              refine G_callV (pc := 78) (mc1 := 0) (ms1 := 0) (ci := 12) (mj := mX12_those) (vs := [_]) dX12_left_78 rfl rfl cm_X12_those wh_26 wh_28 wh_29 rfl (Nat.le_of_ble_eq_true rfl) (Nat.le_of_ble_eq_true rfl) (Nat.le_of_ble_eq_true rfl) (Nat.le_of_ble_eq_true rfl) (s10302_X12_those J (d + 1)  ) ?_
              rintro _ _ ⟨rfl, rfl⟩
              dsimp only [Option.toList, List.cons_append, List.nil_append]
              refine G_istore (pc := 81) (L1 := [some (.ref 67), some (.int n), some (.int what), some (.int 0), some (.int 0)]) rfl rfl (by decide) dX12_left_81 ?_
              refine G_aload_n (pc := 83) rfl dX12_left_83 ?_
              refine G_callV (pc := 84) (mc1 := 0) (ms1 := 0) (ci := 12) (mj := mX12_layBack) (vs := []) dX12_left_84 rfl rfl cm_X12_layBack wh_57 wh_59 wh_60 rfl (Nat.le_of_ble_eq_true rfl) (Nat.le_of_ble_eq_true rfl) (Nat.le_of_ble_eq_true rfl) (Nat.le_of_ble_eq_true rfl) (layBack_s (d + 1) (gup (gup (gup (gup (gcp (gmx J) 68 70 0 0 65) 68 0 1) 68 2 0) 68 0 2) 68 2 0)) ?_
              rintro _ _ ⟨rfl, rfl⟩
              dsimp only [Option.toList, List.cons_append, List.nil_append]
              refine G_iload (pc := 87) rfl dX12_left_87 ?_
              exact G_iret (pc := 89) (Nat.le_of_ble_eq_true rfl) (Nat.le_of_ble_eq_true rfl) rfl dX12_left_89 (by first | rfl | (simp [F_left, *]; done) | (have : 0 ≤ (n).toInt := Int32.le_iff_toInt_le.mp (c355.1); have : (n).toInt ≤ 16 := Int32.le_iff_toInt_le.mp (c355.2); have : 0 < (n).toInt := Int32.lt_iff_toInt_lt.mp (Int32.not_le.mp c357); have : 1 < (n).toInt := Int32.lt_iff_toInt_lt.mp (Int32.not_le.mp c359); have : (n).toInt ≤ 2 := Int32.le_iff_toInt_le.mp (c361); have : 0 ≤ (what).toInt := Int32.le_iff_toInt_le.mp (c356.1); have : (what).toInt ≤ 1 := Int32.le_iff_toInt_le.mp (c356.2); have : (what).toInt ≠ 0 := g_ne (c362); simp only [F_left, Int32.le_iff_toInt_le, Int32.lt_iff_toInt_lt, ← Int32.toInt_inj]; simp; omega) | (have : 0 ≤ (n).toInt := Int32.le_iff_toInt_le.mp (c355.1); have : (n).toInt ≤ 16 := Int32.le_iff_toInt_le.mp (c355.2); have : 0 < (n).toInt := Int32.lt_iff_toInt_lt.mp (Int32.not_le.mp c357); have : 1 < (n).toInt := Int32.lt_iff_toInt_lt.mp (Int32.not_le.mp c359); have : (n).toInt ≤ 2 := Int32.le_iff_toInt_le.mp (c361); have : 0 ≤ (what).toInt := Int32.le_iff_toInt_le.mp (c356.1); have : (what).toInt ≤ 1 := Int32.le_iff_toInt_le.mp (c356.2); have : (what).toInt ≠ 0 := g_ne (c362); simp only [F_left, Int32.le_iff_toInt_le, Int32.lt_iff_toInt_lt, ← Int32.toInt_inj]; split <;> first | rfl | (exfalso; simp at *; omega)) | (have : 0 ≤ (n).toInt := Int32.le_iff_toInt_le.mp (c355.1); have : (n).toInt ≤ 16 := Int32.le_iff_toInt_le.mp (c355.2); have : 0 < (n).toInt := Int32.lt_iff_toInt_lt.mp (Int32.not_le.mp c357); have : 1 < (n).toInt := Int32.lt_iff_toInt_lt.mp (Int32.not_le.mp c359); have : (n).toInt ≤ 2 := Int32.le_iff_toInt_le.mp (c361); have : 0 ≤ (what).toInt := Int32.le_iff_toInt_le.mp (c356.1); have : (what).toInt ≤ 1 := Int32.le_iff_toInt_le.mp (c356.2); have : (what).toInt ≠ 0 := g_ne (c362); unfold F_left; (repeat' split) <;> first | rfl | (exfalso; (try simp only [Int32.le_iff_toInt_le, Int32.lt_iff_toInt_lt, ← Int32.toInt_inj] at *); first | omega | (simp at *; done) | (simp at *; omega))))
            · refine G_aload_n (pc := 69) rfl dX12_left_69 ?_
              refine G_callV (pc := 70) (mc1 := 0) (ms1 := 0) (ci := 12) (mj := mX12_teethAll) (vs := []) dX12_left_70 rfl rfl cm_X12_teethAll wh_34 wh_36 wh_37 rfl (Nat.le_of_ble_eq_true rfl) (Nat.le_of_ble_eq_true rfl) (Nat.le_of_ble_eq_true rfl) (Nat.le_of_ble_eq_true rfl) (s10303_X12_teethAll J (d + 1)  ) ?_
              rintro _ _ ⟨rfl, rfl⟩
              dsimp only [Option.toList, List.cons_append, List.nil_append]
              refine G_goto (pc := 73) (tgt := 81) (by decide) dX12_left_73 ?_
              refine G_istore (pc := 81) (L1 := [some (.ref 67), some (.int n), some (.int what), some (.int 0), some (.int 0)]) rfl rfl (by decide) dX12_left_81 ?_
              refine G_aload_n (pc := 83) rfl dX12_left_83 ?_
              refine G_callV (pc := 84) (mc1 := 0) (ms1 := 0) (ci := 12) (mj := mX12_layBack) (vs := []) dX12_left_84 rfl rfl cm_X12_layBack wh_57 wh_59 wh_60 rfl (Nat.le_of_ble_eq_true rfl) (Nat.le_of_ble_eq_true rfl) (Nat.le_of_ble_eq_true rfl) (Nat.le_of_ble_eq_true rfl) (layBack_s (d + 1) (gup (gup (gup (gup (gcp (gmx J) 68 70 0 0 65) 68 0 1) 68 2 0) 68 0 2) 68 2 0)) ?_
              rintro _ _ ⟨rfl, rfl⟩
              dsimp only [Option.toList, List.cons_append, List.nil_append]
              refine G_iload (pc := 87) rfl dX12_left_87 ?_
              exact G_iret (pc := 89) (Nat.le_of_ble_eq_true rfl) (Nat.le_of_ble_eq_true rfl) rfl dX12_left_89 (by first | rfl | (simp [F_left, *]; done) | (have : 0 ≤ (n).toInt := Int32.le_iff_toInt_le.mp (c355.1); have : (n).toInt ≤ 16 := Int32.le_iff_toInt_le.mp (c355.2); have : 0 < (n).toInt := Int32.lt_iff_toInt_lt.mp (Int32.not_le.mp c357); have : 1 < (n).toInt := Int32.lt_iff_toInt_lt.mp (Int32.not_le.mp c359); have : (n).toInt ≤ 2 := Int32.le_iff_toInt_le.mp (c361); have : 0 ≤ (what).toInt := Int32.le_iff_toInt_le.mp (c356.1); have : (what).toInt ≤ 1 := Int32.le_iff_toInt_le.mp (c356.2); have : (what).toInt = 0 := congrArg Int32.toInt (c362); simp only [F_left, Int32.le_iff_toInt_le, Int32.lt_iff_toInt_lt, ← Int32.toInt_inj]; simp; omega) | (have : 0 ≤ (n).toInt := Int32.le_iff_toInt_le.mp (c355.1); have : (n).toInt ≤ 16 := Int32.le_iff_toInt_le.mp (c355.2); have : 0 < (n).toInt := Int32.lt_iff_toInt_lt.mp (Int32.not_le.mp c357); have : 1 < (n).toInt := Int32.lt_iff_toInt_lt.mp (Int32.not_le.mp c359); have : (n).toInt ≤ 2 := Int32.le_iff_toInt_le.mp (c361); have : 0 ≤ (what).toInt := Int32.le_iff_toInt_le.mp (c356.1); have : (what).toInt ≤ 1 := Int32.le_iff_toInt_le.mp (c356.2); have : (what).toInt = 0 := congrArg Int32.toInt (c362); simp only [F_left, Int32.le_iff_toInt_le, Int32.lt_iff_toInt_lt, ← Int32.toInt_inj]; split <;> first | rfl | (exfalso; simp at *; omega)) | (have : 0 ≤ (n).toInt := Int32.le_iff_toInt_le.mp (c355.1); have : (n).toInt ≤ 16 := Int32.le_iff_toInt_le.mp (c355.2); have : 0 < (n).toInt := Int32.lt_iff_toInt_lt.mp (Int32.not_le.mp c357); have : 1 < (n).toInt := Int32.lt_iff_toInt_lt.mp (Int32.not_le.mp c359); have : (n).toInt ≤ 2 := Int32.le_iff_toInt_le.mp (c361); have : 0 ≤ (what).toInt := Int32.le_iff_toInt_le.mp (c356.1); have : (what).toInt ≤ 1 := Int32.le_iff_toInt_le.mp (c356.2); have : (what).toInt = 0 := congrArg Int32.toInt (c362); unfold F_left; (repeat' split) <;> first | rfl | (exfalso; (try simp only [Int32.le_iff_toInt_le, Int32.lt_iff_toInt_lt, ← Int32.toInt_inj] at *); first | omega | (simp at *; done) | (simp at *; omega))))
          · refine G_aload_n (pc := 36) rfl dX12_left_36 ?_
            refine G_callV (pc := 37) (mc1 := 0) (ms1 := 0) (ci := 12) (mj := mX12_isOver) (vs := []) dX12_left_37 rfl rfl cm_X12_isOver wh_22 wh_24 wh_25 rfl (Nat.le_of_ble_eq_true rfl) (Nat.le_of_ble_eq_true rfl) (Nat.le_of_ble_eq_true rfl) (Nat.le_of_ble_eq_true rfl) (s10250_X12_isOver J (d + 1)  ) ?_
            rintro _ _ ⟨rfl, rfl⟩
            dsimp only [Option.toList, List.cons_append, List.nil_append]
            refine G_if_ne (pc := 40) (tgt := 57) (by decide) dX12_left_40 (fun z => absurd (by decide) z) (fun _ => ?_)
            refine G_iload_n (pc := 43) rfl dX12_left_43 ?_
            refine G_aload_n (pc := 44) rfl dX12_left_44 ?_
            refine G_iconst (pc := 45) (v := (-1)) (by decide) dX12_left_45 ?_
            refine G_callV (pc := 46) (mc1 := 0) (ms1 := 0) (ci := 12) (mj := mX12_goesBy) (vs := [_]) dX12_left_46 rfl rfl cm_X12_goesBy wh_72 wh_74 wh_75 rfl (Nat.le_of_ble_eq_true rfl) (Nat.le_of_ble_eq_true rfl) (Nat.le_of_ble_eq_true rfl) (Nat.le_of_ble_eq_true rfl) (s10251_X12_goesBy J d  ) ?_
            rintro _ _ ⟨rfl, rfl⟩
            dsimp only [Option.toList, List.cons_append, List.nil_append]
            refine G_iadd (pc := 49) (z := 0) (by decide) dX12_left_49 ?_
            refine G_istore_n (pc := 50) (L1 := [some (.ref 67), some (.int n), some (.int what), some (.int 0), some (.int 2)]) rfl rfl (by decide) dX12_left_50 ?_
            refine G_iinc (pc := 51) (v := 1) (w := 3) (L1 := [some (.ref 67), some (.int n), some (.int what), some (.int 0), some (.int 3)]) (by decide) rfl rfl (by decide) rfl (by decide) dX12_left_51 ?_
            refine G_goto (pc := 54) (tgt := 30) (by decide) dX12_left_54 ?_
            refine G_iload (pc := 30) rfl dX12_left_30 ?_
            refine G_iload_n (pc := 32) rfl dX12_left_32 ?_
            refine G_icmp_ge (pc := 33) (tgt := 57) (by decide) dX12_left_33 (fun c363 => ?_) (fun c363 => ?_)
            · refine G_iload_n (pc := 57) rfl dX12_left_57 ?_
              refine G_if_ge (pc := 58) (tgt := 65) (by decide) dX12_left_58 (fun _ => ?_) (fun z => absurd (by decide) z)
              refine G_iload_n (pc := 65) rfl dX12_left_65 ?_
              refine G_if_ne (pc := 66) (tgt := 76) (by decide) dX12_left_66 (fun c364 => ?_) (fun c364 => ?_)
              · refine G_aload_n (pc := 76) rfl dX12_left_76 ?_
                refine G_iconst (pc := 77) (v := 4) (by decide) dX12_left_77 ?_
                refine G_callV (pc := 78) (mc1 := 0) (ms1 := 0) (ci := 12) (mj := mX12_those) (vs := [_]) dX12_left_78 rfl rfl cm_X12_those wh_26 wh_28 wh_29 rfl (Nat.le_of_ble_eq_true rfl) (Nat.le_of_ble_eq_true rfl) (Nat.le_of_ble_eq_true rfl) (Nat.le_of_ble_eq_true rfl) (s10304_X12_those J (d + 1)  ) ?_
                rintro _ _ ⟨rfl, rfl⟩
                dsimp only [Option.toList, List.cons_append, List.nil_append]
                refine G_istore (pc := 81) (L1 := [some (.ref 67), some (.int n), some (.int what), some (.int 0), some (.int 0)]) rfl rfl (by decide) dX12_left_81 ?_
                refine G_aload_n (pc := 83) rfl dX12_left_83 ?_
                refine G_callV (pc := 84) (mc1 := 0) (ms1 := 0) (ci := 12) (mj := mX12_layBack) (vs := []) dX12_left_84 rfl rfl cm_X12_layBack wh_57 wh_59 wh_60 rfl (Nat.le_of_ble_eq_true rfl) (Nat.le_of_ble_eq_true rfl) (Nat.le_of_ble_eq_true rfl) (Nat.le_of_ble_eq_true rfl) (layBack_s (d + 1) (gup (gup (gup (gup (gup (gup (gcp (gmx J) 68 70 0 0 65) 68 0 1) 68 2 0) 68 0 2) 68 2 0) 68 0 3) 68 2 0)) ?_
                rintro _ _ ⟨rfl, rfl⟩
                dsimp only [Option.toList, List.cons_append, List.nil_append]
                refine G_iload (pc := 87) rfl dX12_left_87 ?_
                exact G_iret (pc := 89) (Nat.le_of_ble_eq_true rfl) (Nat.le_of_ble_eq_true rfl) rfl dX12_left_89 (by first | rfl | (simp [F_left, *]; done) | (have : 0 ≤ (n).toInt := Int32.le_iff_toInt_le.mp (c355.1); have : (n).toInt ≤ 16 := Int32.le_iff_toInt_le.mp (c355.2); have : 0 < (n).toInt := Int32.lt_iff_toInt_lt.mp (Int32.not_le.mp c357); have : 1 < (n).toInt := Int32.lt_iff_toInt_lt.mp (Int32.not_le.mp c359); have : 2 < (n).toInt := Int32.lt_iff_toInt_lt.mp (Int32.not_le.mp c361); have : (n).toInt ≤ 3 := Int32.le_iff_toInt_le.mp (c363); have : 0 ≤ (what).toInt := Int32.le_iff_toInt_le.mp (c356.1); have : (what).toInt ≤ 1 := Int32.le_iff_toInt_le.mp (c356.2); have : (what).toInt ≠ 0 := g_ne (c364); simp only [F_left, Int32.le_iff_toInt_le, Int32.lt_iff_toInt_lt, ← Int32.toInt_inj]; simp; omega) | (have : 0 ≤ (n).toInt := Int32.le_iff_toInt_le.mp (c355.1); have : (n).toInt ≤ 16 := Int32.le_iff_toInt_le.mp (c355.2); have : 0 < (n).toInt := Int32.lt_iff_toInt_lt.mp (Int32.not_le.mp c357); have : 1 < (n).toInt := Int32.lt_iff_toInt_lt.mp (Int32.not_le.mp c359); have : 2 < (n).toInt := Int32.lt_iff_toInt_lt.mp (Int32.not_le.mp c361); have : (n).toInt ≤ 3 := Int32.le_iff_toInt_le.mp (c363); have : 0 ≤ (what).toInt := Int32.le_iff_toInt_le.mp (c356.1); have : (what).toInt ≤ 1 := Int32.le_iff_toInt_le.mp (c356.2); have : (what).toInt ≠ 0 := g_ne (c364); simp only [F_left, Int32.le_iff_toInt_le, Int32.lt_iff_toInt_lt, ← Int32.toInt_inj]; split <;> first | rfl | (exfalso; simp at *; omega)) | (have : 0 ≤ (n).toInt := Int32.le_iff_toInt_le.mp (c355.1); have : (n).toInt ≤ 16 := Int32.le_iff_toInt_le.mp (c355.2); have : 0 < (n).toInt := Int32.lt_iff_toInt_lt.mp (Int32.not_le.mp c357); have : 1 < (n).toInt := Int32.lt_iff_toInt_lt.mp (Int32.not_le.mp c359); have : 2 < (n).toInt := Int32.lt_iff_toInt_lt.mp (Int32.not_le.mp c361); have : (n).toInt ≤ 3 := Int32.le_iff_toInt_le.mp (c363); have : 0 ≤ (what).toInt := Int32.le_iff_toInt_le.mp (c356.1); have : (what).toInt ≤ 1 := Int32.le_iff_toInt_le.mp (c356.2); have : (what).toInt ≠ 0 := g_ne (c364); unfold F_left; (repeat' split) <;> first | rfl | (exfalso; (try simp only [Int32.le_iff_toInt_le, Int32.lt_iff_toInt_lt, ← Int32.toInt_inj] at *); first | omega | (simp at *; done) | (simp at *; omega))))
              · refine G_aload_n (pc := 69) rfl dX12_left_69 ?_
                refine G_callV (pc := 70) (mc1 := 0) (ms1 := 0) (ci := 12) (mj := mX12_teethAll) (vs := []) dX12_left_70 rfl rfl cm_X12_teethAll wh_34 wh_36 wh_37 rfl (Nat.le_of_ble_eq_true rfl) (Nat.le_of_ble_eq_true rfl) (Nat.le_of_ble_eq_true rfl) (Nat.le_of_ble_eq_true rfl) (s10305_X12_teethAll J (d + 1)  ) ?_
                rintro _ _ ⟨rfl, rfl⟩
                dsimp only [Option.toList, List.cons_append, List.nil_append]
                refine G_goto (pc := 73) (tgt := 81) (by decide) dX12_left_73 ?_
                refine G_istore (pc := 81) (L1 := [some (.ref 67), some (.int n), some (.int what), some (.int 0), some (.int 0)]) rfl rfl (by decide) dX12_left_81 ?_
                refine G_aload_n (pc := 83) rfl dX12_left_83 ?_
                refine G_callV (pc := 84) (mc1 := 0) (ms1 := 0) (ci := 12) (mj := mX12_layBack) (vs := []) dX12_left_84 rfl rfl cm_X12_layBack wh_57 wh_59 wh_60 rfl (Nat.le_of_ble_eq_true rfl) (Nat.le_of_ble_eq_true rfl) (Nat.le_of_ble_eq_true rfl) (Nat.le_of_ble_eq_true rfl) (layBack_s (d + 1) (gup (gup (gup (gup (gup (gup (gcp (gmx J) 68 70 0 0 65) 68 0 1) 68 2 0) 68 0 2) 68 2 0) 68 0 3) 68 2 0)) ?_
                rintro _ _ ⟨rfl, rfl⟩
                dsimp only [Option.toList, List.cons_append, List.nil_append]
                refine G_iload (pc := 87) rfl dX12_left_87 ?_
                exact G_iret (pc := 89) (Nat.le_of_ble_eq_true rfl) (Nat.le_of_ble_eq_true rfl) rfl dX12_left_89 (by first | rfl | (simp [F_left, *]; done) | (have : 0 ≤ (n).toInt := Int32.le_iff_toInt_le.mp (c355.1); have : (n).toInt ≤ 16 := Int32.le_iff_toInt_le.mp (c355.2); have : 0 < (n).toInt := Int32.lt_iff_toInt_lt.mp (Int32.not_le.mp c357); have : 1 < (n).toInt := Int32.lt_iff_toInt_lt.mp (Int32.not_le.mp c359); have : 2 < (n).toInt := Int32.lt_iff_toInt_lt.mp (Int32.not_le.mp c361); have : (n).toInt ≤ 3 := Int32.le_iff_toInt_le.mp (c363); have : 0 ≤ (what).toInt := Int32.le_iff_toInt_le.mp (c356.1); have : (what).toInt ≤ 1 := Int32.le_iff_toInt_le.mp (c356.2); have : (what).toInt = 0 := congrArg Int32.toInt (c364); simp only [F_left, Int32.le_iff_toInt_le, Int32.lt_iff_toInt_lt, ← Int32.toInt_inj]; simp; omega) | (have : 0 ≤ (n).toInt := Int32.le_iff_toInt_le.mp (c355.1); have : (n).toInt ≤ 16 := Int32.le_iff_toInt_le.mp (c355.2); have : 0 < (n).toInt := Int32.lt_iff_toInt_lt.mp (Int32.not_le.mp c357); have : 1 < (n).toInt := Int32.lt_iff_toInt_lt.mp (Int32.not_le.mp c359); have : 2 < (n).toInt := Int32.lt_iff_toInt_lt.mp (Int32.not_le.mp c361); have : (n).toInt ≤ 3 := Int32.le_iff_toInt_le.mp (c363); have : 0 ≤ (what).toInt := Int32.le_iff_toInt_le.mp (c356.1); have : (what).toInt ≤ 1 := Int32.le_iff_toInt_le.mp (c356.2); have : (what).toInt = 0 := congrArg Int32.toInt (c364); simp only [F_left, Int32.le_iff_toInt_le, Int32.lt_iff_toInt_lt, ← Int32.toInt_inj]; split <;> first | rfl | (exfalso; simp at *; omega)) | (have : 0 ≤ (n).toInt := Int32.le_iff_toInt_le.mp (c355.1); have : (n).toInt ≤ 16 := Int32.le_iff_toInt_le.mp (c355.2); have : 0 < (n).toInt := Int32.lt_iff_toInt_lt.mp (Int32.not_le.mp c357); have : 1 < (n).toInt := Int32.lt_iff_toInt_lt.mp (Int32.not_le.mp c359); have : 2 < (n).toInt := Int32.lt_iff_toInt_lt.mp (Int32.not_le.mp c361); have : (n).toInt ≤ 3 := Int32.le_iff_toInt_le.mp (c363); have : 0 ≤ (what).toInt := Int32.le_iff_toInt_le.mp (c356.1); have : (what).toInt ≤ 1 := Int32.le_iff_toInt_le.mp (c356.2); have : (what).toInt = 0 := congrArg Int32.toInt (c364); unfold F_left; (repeat' split) <;> first | rfl | (exfalso; (try simp only [Int32.le_iff_toInt_le, Int32.lt_iff_toInt_lt, ← Int32.toInt_inj] at *); first | omega | (simp at *; done) | (simp at *; omega))))
            · refine G_aload_n (pc := 36) rfl dX12_left_36 ?_
              refine G_callV (pc := 37) (mc1 := 0) (ms1 := 0) (ci := 12) (mj := mX12_isOver) (vs := []) dX12_left_37 rfl rfl cm_X12_isOver wh_22 wh_24 wh_25 rfl (Nat.le_of_ble_eq_true rfl) (Nat.le_of_ble_eq_true rfl) (Nat.le_of_ble_eq_true rfl) (Nat.le_of_ble_eq_true rfl) (s10253_X12_isOver J (d + 1)  ) ?_
              rintro _ _ ⟨rfl, rfl⟩
              dsimp only [Option.toList, List.cons_append, List.nil_append]
              refine G_if_ne (pc := 40) (tgt := 57) (by decide) dX12_left_40 (fun z => absurd (by decide) z) (fun _ => ?_)
              refine G_iload_n (pc := 43) rfl dX12_left_43 ?_
              refine G_aload_n (pc := 44) rfl dX12_left_44 ?_
              refine G_iconst (pc := 45) (v := (-1)) (by decide) dX12_left_45 ?_
              refine G_callV (pc := 46) (mc1 := 0) (ms1 := 0) (ci := 12) (mj := mX12_goesBy) (vs := [_]) dX12_left_46 rfl rfl cm_X12_goesBy wh_72 wh_74 wh_75 rfl (Nat.le_of_ble_eq_true rfl) (Nat.le_of_ble_eq_true rfl) (Nat.le_of_ble_eq_true rfl) (Nat.le_of_ble_eq_true rfl) (s10254_X12_goesBy J d  ) ?_
              rintro _ _ ⟨rfl, rfl⟩
              dsimp only [Option.toList, List.cons_append, List.nil_append]
              refine G_iadd (pc := 49) (z := 0) (by decide) dX12_left_49 ?_
              refine G_istore_n (pc := 50) (L1 := [some (.ref 67), some (.int n), some (.int what), some (.int 0), some (.int 3)]) rfl rfl (by decide) dX12_left_50 ?_
              refine G_iinc (pc := 51) (v := 1) (w := 4) (L1 := [some (.ref 67), some (.int n), some (.int what), some (.int 0), some (.int 4)]) (by decide) rfl rfl (by decide) rfl (by decide) dX12_left_51 ?_
              refine G_goto (pc := 54) (tgt := 30) (by decide) dX12_left_54 ?_
              refine G_iload (pc := 30) rfl dX12_left_30 ?_
              refine G_iload_n (pc := 32) rfl dX12_left_32 ?_
              refine G_icmp_ge (pc := 33) (tgt := 57) (by decide) dX12_left_33 (fun c365 => ?_) (fun c365 => ?_)
              · refine G_iload_n (pc := 57) rfl dX12_left_57 ?_
                refine G_if_ge (pc := 58) (tgt := 65) (by decide) dX12_left_58 (fun _ => ?_) (fun z => absurd (by decide) z)
                refine G_iload_n (pc := 65) rfl dX12_left_65 ?_
                refine G_if_ne (pc := 66) (tgt := 76) (by decide) dX12_left_66 (fun c366 => ?_) (fun c366 => ?_)
                · refine G_aload_n (pc := 76) rfl dX12_left_76 ?_
                  refine G_iconst (pc := 77) (v := 4) (by decide) dX12_left_77 ?_
                  refine G_callV (pc := 78) (mc1 := 0) (ms1 := 0) (ci := 12) (mj := mX12_those) (vs := [_]) dX12_left_78 rfl rfl cm_X12_those wh_26 wh_28 wh_29 rfl (Nat.le_of_ble_eq_true rfl) (Nat.le_of_ble_eq_true rfl) (Nat.le_of_ble_eq_true rfl) (Nat.le_of_ble_eq_true rfl) (s10306_X12_those J (d + 1)  ) ?_
                  rintro _ _ ⟨rfl, rfl⟩
                  dsimp only [Option.toList, List.cons_append, List.nil_append]
                  refine G_istore (pc := 81) (L1 := [some (.ref 67), some (.int n), some (.int what), some (.int 0), some (.int 0)]) rfl rfl (by decide) dX12_left_81 ?_
                  refine G_aload_n (pc := 83) rfl dX12_left_83 ?_
                  refine G_callV (pc := 84) (mc1 := 0) (ms1 := 0) (ci := 12) (mj := mX12_layBack) (vs := []) dX12_left_84 rfl rfl cm_X12_layBack wh_57 wh_59 wh_60 rfl (Nat.le_of_ble_eq_true rfl) (Nat.le_of_ble_eq_true rfl) (Nat.le_of_ble_eq_true rfl) (Nat.le_of_ble_eq_true rfl) (layBack_s (d + 1) (gup (gup (gup (gup (gup (gup (gup (gup (gcp (gmx J) 68 70 0 0 65) 68 0 1) 68 2 0) 68 0 2) 68 2 0) 68 0 3) 68 2 0) 68 0 4) 68 2 0)) ?_
                  rintro _ _ ⟨rfl, rfl⟩
                  dsimp only [Option.toList, List.cons_append, List.nil_append]
                  refine G_iload (pc := 87) rfl dX12_left_87 ?_
                  exact G_iret (pc := 89) (Nat.le_of_ble_eq_true rfl) (Nat.le_of_ble_eq_true rfl) rfl dX12_left_89 (by first | rfl | (simp [F_left, *]; done) | (have : 0 ≤ (n).toInt := Int32.le_iff_toInt_le.mp (c355.1); have : (n).toInt ≤ 16 := Int32.le_iff_toInt_le.mp (c355.2); have : 0 < (n).toInt := Int32.lt_iff_toInt_lt.mp (Int32.not_le.mp c357); have : 1 < (n).toInt := Int32.lt_iff_toInt_lt.mp (Int32.not_le.mp c359); have : 2 < (n).toInt := Int32.lt_iff_toInt_lt.mp (Int32.not_le.mp c361); have : 3 < (n).toInt := Int32.lt_iff_toInt_lt.mp (Int32.not_le.mp c363); have : (n).toInt ≤ 4 := Int32.le_iff_toInt_le.mp (c365); have : 0 ≤ (what).toInt := Int32.le_iff_toInt_le.mp (c356.1); have : (what).toInt ≤ 1 := Int32.le_iff_toInt_le.mp (c356.2); have : (what).toInt ≠ 0 := g_ne (c366); simp only [F_left, Int32.le_iff_toInt_le, Int32.lt_iff_toInt_lt, ← Int32.toInt_inj]; simp; omega) | (have : 0 ≤ (n).toInt := Int32.le_iff_toInt_le.mp (c355.1); have : (n).toInt ≤ 16 := Int32.le_iff_toInt_le.mp (c355.2); have : 0 < (n).toInt := Int32.lt_iff_toInt_lt.mp (Int32.not_le.mp c357); have : 1 < (n).toInt := Int32.lt_iff_toInt_lt.mp (Int32.not_le.mp c359); have : 2 < (n).toInt := Int32.lt_iff_toInt_lt.mp (Int32.not_le.mp c361); have : 3 < (n).toInt := Int32.lt_iff_toInt_lt.mp (Int32.not_le.mp c363); have : (n).toInt ≤ 4 := Int32.le_iff_toInt_le.mp (c365); have : 0 ≤ (what).toInt := Int32.le_iff_toInt_le.mp (c356.1); have : (what).toInt ≤ 1 := Int32.le_iff_toInt_le.mp (c356.2); have : (what).toInt ≠ 0 := g_ne (c366); simp only [F_left, Int32.le_iff_toInt_le, Int32.lt_iff_toInt_lt, ← Int32.toInt_inj]; split <;> first | rfl | (exfalso; simp at *; omega)) | (have : 0 ≤ (n).toInt := Int32.le_iff_toInt_le.mp (c355.1); have : (n).toInt ≤ 16 := Int32.le_iff_toInt_le.mp (c355.2); have : 0 < (n).toInt := Int32.lt_iff_toInt_lt.mp (Int32.not_le.mp c357); have : 1 < (n).toInt := Int32.lt_iff_toInt_lt.mp (Int32.not_le.mp c359); have : 2 < (n).toInt := Int32.lt_iff_toInt_lt.mp (Int32.not_le.mp c361); have : 3 < (n).toInt := Int32.lt_iff_toInt_lt.mp (Int32.not_le.mp c363); have : (n).toInt ≤ 4 := Int32.le_iff_toInt_le.mp (c365); have : 0 ≤ (what).toInt := Int32.le_iff_toInt_le.mp (c356.1); have : (what).toInt ≤ 1 := Int32.le_iff_toInt_le.mp (c356.2); have : (what).toInt ≠ 0 := g_ne (c366); unfold F_left; (repeat' split) <;> first | rfl | (exfalso; (try simp only [Int32.le_iff_toInt_le, Int32.lt_iff_toInt_lt, ← Int32.toInt_inj] at *); first | omega | (simp at *; done) | (simp at *; omega))))
                · refine G_aload_n (pc := 69) rfl dX12_left_69 ?_
                  refine G_callV (pc := 70) (mc1 := 0) (ms1 := 0) (ci := 12) (mj := mX12_teethAll) (vs := []) dX12_left_70 rfl rfl cm_X12_teethAll wh_34 wh_36 wh_37 rfl (Nat.le_of_ble_eq_true rfl) (Nat.le_of_ble_eq_true rfl) (Nat.le_of_ble_eq_true rfl) (Nat.le_of_ble_eq_true rfl) (s10307_X12_teethAll J (d + 1)  ) ?_
                  rintro _ _ ⟨rfl, rfl⟩
                  dsimp only [Option.toList, List.cons_append, List.nil_append]
                  refine G_goto (pc := 73) (tgt := 81) (by decide) dX12_left_73 ?_
                  refine G_istore (pc := 81) (L1 := [some (.ref 67), some (.int n), some (.int what), some (.int 0), some (.int 0)]) rfl rfl (by decide) dX12_left_81 ?_
                  refine G_aload_n (pc := 83) rfl dX12_left_83 ?_
                  refine G_callV (pc := 84) (mc1 := 0) (ms1 := 0) (ci := 12) (mj := mX12_layBack) (vs := []) dX12_left_84 rfl rfl cm_X12_layBack wh_57 wh_59 wh_60 rfl (Nat.le_of_ble_eq_true rfl) (Nat.le_of_ble_eq_true rfl) (Nat.le_of_ble_eq_true rfl) (Nat.le_of_ble_eq_true rfl) (layBack_s (d + 1) (gup (gup (gup (gup (gup (gup (gup (gup (gcp (gmx J) 68 70 0 0 65) 68 0 1) 68 2 0) 68 0 2) 68 2 0) 68 0 3) 68 2 0) 68 0 4) 68 2 0)) ?_
                  rintro _ _ ⟨rfl, rfl⟩
                  dsimp only [Option.toList, List.cons_append, List.nil_append]
                  refine G_iload (pc := 87) rfl dX12_left_87 ?_
                  exact G_iret (pc := 89) (Nat.le_of_ble_eq_true rfl) (Nat.le_of_ble_eq_true rfl) rfl dX12_left_89 (by first | rfl | (simp [F_left, *]; done) | (have : 0 ≤ (n).toInt := Int32.le_iff_toInt_le.mp (c355.1); have : (n).toInt ≤ 16 := Int32.le_iff_toInt_le.mp (c355.2); have : 0 < (n).toInt := Int32.lt_iff_toInt_lt.mp (Int32.not_le.mp c357); have : 1 < (n).toInt := Int32.lt_iff_toInt_lt.mp (Int32.not_le.mp c359); have : 2 < (n).toInt := Int32.lt_iff_toInt_lt.mp (Int32.not_le.mp c361); have : 3 < (n).toInt := Int32.lt_iff_toInt_lt.mp (Int32.not_le.mp c363); have : (n).toInt ≤ 4 := Int32.le_iff_toInt_le.mp (c365); have : 0 ≤ (what).toInt := Int32.le_iff_toInt_le.mp (c356.1); have : (what).toInt ≤ 1 := Int32.le_iff_toInt_le.mp (c356.2); have : (what).toInt = 0 := congrArg Int32.toInt (c366); simp only [F_left, Int32.le_iff_toInt_le, Int32.lt_iff_toInt_lt, ← Int32.toInt_inj]; simp; omega) | (have : 0 ≤ (n).toInt := Int32.le_iff_toInt_le.mp (c355.1); have : (n).toInt ≤ 16 := Int32.le_iff_toInt_le.mp (c355.2); have : 0 < (n).toInt := Int32.lt_iff_toInt_lt.mp (Int32.not_le.mp c357); have : 1 < (n).toInt := Int32.lt_iff_toInt_lt.mp (Int32.not_le.mp c359); have : 2 < (n).toInt := Int32.lt_iff_toInt_lt.mp (Int32.not_le.mp c361); have : 3 < (n).toInt := Int32.lt_iff_toInt_lt.mp (Int32.not_le.mp c363); have : (n).toInt ≤ 4 := Int32.le_iff_toInt_le.mp (c365); have : 0 ≤ (what).toInt := Int32.le_iff_toInt_le.mp (c356.1); have : (what).toInt ≤ 1 := Int32.le_iff_toInt_le.mp (c356.2); have : (what).toInt = 0 := congrArg Int32.toInt (c366); simp only [F_left, Int32.le_iff_toInt_le, Int32.lt_iff_toInt_lt, ← Int32.toInt_inj]; split <;> first | rfl | (exfalso; simp at *; omega)) | (have : 0 ≤ (n).toInt := Int32.le_iff_toInt_le.mp (c355.1); have : (n).toInt ≤ 16 := Int32.le_iff_toInt_le.mp (c355.2); have : 0 < (n).toInt := Int32.lt_iff_toInt_lt.mp (Int32.not_le.mp c357); have : 1 < (n).toInt := Int32.lt_iff_toInt_lt.mp (Int32.not_le.mp c359); have : 2 < (n).toInt := Int32.lt_iff_toInt_lt.mp (Int32.not_le.mp c361); have : 3 < (n).toInt := Int32.lt_iff_toInt_lt.mp (Int32.not_le.mp c363); have : (n).toInt ≤ 4 := Int32.le_iff_toInt_le.mp (c365); have : 0 ≤ (what).toInt := Int32.le_iff_toInt_le.mp (c356.1); have : (what).toInt ≤ 1 := Int32.le_iff_toInt_le.mp (c356.2); have : (what).toInt = 0 := congrArg Int32.toInt (c366); unfold F_left; (repeat' split) <;> first | rfl | (exfalso; (try simp only [Int32.le_iff_toInt_le, Int32.lt_iff_toInt_lt, ← Int32.toInt_inj] at *); first | omega | (simp at *; done) | (simp at *; omega))))
              · refine G_aload_n (pc := 36) rfl dX12_left_36 ?_
                refine G_callV (pc := 37) (mc1 := 0) (ms1 := 0) (ci := 12) (mj := mX12_isOver) (vs := []) dX12_left_37 rfl rfl cm_X12_isOver wh_22 wh_24 wh_25 rfl (Nat.le_of_ble_eq_true rfl) (Nat.le_of_ble_eq_true rfl) (Nat.le_of_ble_eq_true rfl) (Nat.le_of_ble_eq_true rfl) (s10256_X12_isOver J (d + 1)  ) ?_
                rintro _ _ ⟨rfl, rfl⟩
                dsimp only [Option.toList, List.cons_append, List.nil_append]
                refine G_if_ne (pc := 40) (tgt := 57) (by decide) dX12_left_40 (fun z => absurd (by decide) z) (fun _ => ?_)
                refine G_iload_n (pc := 43) rfl dX12_left_43 ?_
                refine G_aload_n (pc := 44) rfl dX12_left_44 ?_
                refine G_iconst (pc := 45) (v := (-1)) (by decide) dX12_left_45 ?_
                refine G_callV (pc := 46) (mc1 := 0) (ms1 := 0) (ci := 12) (mj := mX12_goesBy) (vs := [_]) dX12_left_46 rfl rfl cm_X12_goesBy wh_72 wh_74 wh_75 rfl (Nat.le_of_ble_eq_true rfl) (Nat.le_of_ble_eq_true rfl) (Nat.le_of_ble_eq_true rfl) (Nat.le_of_ble_eq_true rfl) (s10257_X12_goesBy J d  ) ?_
                rintro _ _ ⟨rfl, rfl⟩
                dsimp only [Option.toList, List.cons_append, List.nil_append]
                refine G_iadd (pc := 49) (z := 0) (by decide) dX12_left_49 ?_
                refine G_istore_n (pc := 50) (L1 := [some (.ref 67), some (.int n), some (.int what), some (.int 0), some (.int 4)]) rfl rfl (by decide) dX12_left_50 ?_
                refine G_iinc (pc := 51) (v := 1) (w := 5) (L1 := [some (.ref 67), some (.int n), some (.int what), some (.int 0), some (.int 5)]) (by decide) rfl rfl (by decide) rfl (by decide) dX12_left_51 ?_
                refine G_goto (pc := 54) (tgt := 30) (by decide) dX12_left_54 ?_
                refine G_iload (pc := 30) rfl dX12_left_30 ?_
                refine G_iload_n (pc := 32) rfl dX12_left_32 ?_
                refine G_icmp_ge (pc := 33) (tgt := 57) (by decide) dX12_left_33 (fun c367 => ?_) (fun c367 => ?_)
                · refine G_iload_n (pc := 57) rfl dX12_left_57 ?_
                  refine G_if_ge (pc := 58) (tgt := 65) (by decide) dX12_left_58 (fun _ => ?_) (fun z => absurd (by decide) z)
                  refine G_iload_n (pc := 65) rfl dX12_left_65 ?_
                  refine G_if_ne (pc := 66) (tgt := 76) (by decide) dX12_left_66 (fun c368 => ?_) (fun c368 => ?_)
                  · refine G_aload_n (pc := 76) rfl dX12_left_76 ?_
                    refine G_iconst (pc := 77) (v := 4) (by decide) dX12_left_77 ?_
                    refine G_callV (pc := 78) (mc1 := 0) (ms1 := 0) (ci := 12) (mj := mX12_those) (vs := [_]) dX12_left_78 rfl rfl cm_X12_those wh_26 wh_28 wh_29 rfl (Nat.le_of_ble_eq_true rfl) (Nat.le_of_ble_eq_true rfl) (Nat.le_of_ble_eq_true rfl) (Nat.le_of_ble_eq_true rfl) (s10308_X12_those J (d + 1)  ) ?_
                    rintro _ _ ⟨rfl, rfl⟩
                    dsimp only [Option.toList, List.cons_append, List.nil_append]
                    refine G_istore (pc := 81) (L1 := [some (.ref 67), some (.int n), some (.int what), some (.int 0), some (.int 0)]) rfl rfl (by decide) dX12_left_81 ?_
                    refine G_aload_n (pc := 83) rfl dX12_left_83 ?_
                    refine G_callV (pc := 84) (mc1 := 0) (ms1 := 0) (ci := 12) (mj := mX12_layBack) (vs := []) dX12_left_84 rfl rfl cm_X12_layBack wh_57 wh_59 wh_60 rfl (Nat.le_of_ble_eq_true rfl) (Nat.le_of_ble_eq_true rfl) (Nat.le_of_ble_eq_true rfl) (Nat.le_of_ble_eq_true rfl) (layBack_s (d + 1) (gup (gup (gup (gup (gup (gup (gup (gup (gup (gup (gcp (gmx J) 68 70 0 0 65) 68 0 1) 68 2 0) 68 0 2) 68 2 0) 68 0 3) 68 2 0) 68 0 4) 68 2 0) 68 0 5) 68 2 0)) ?_
                    rintro _ _ ⟨rfl, rfl⟩
                    dsimp only [Option.toList, List.cons_append, List.nil_append]
                    refine G_iload (pc := 87) rfl dX12_left_87 ?_
                    exact G_iret (pc := 89) (Nat.le_of_ble_eq_true rfl) (Nat.le_of_ble_eq_true rfl) rfl dX12_left_89 (by first | rfl | (simp [F_left, *]; done) | (have : 0 ≤ (n).toInt := Int32.le_iff_toInt_le.mp (c355.1); have : (n).toInt ≤ 16 := Int32.le_iff_toInt_le.mp (c355.2); have : 0 < (n).toInt := Int32.lt_iff_toInt_lt.mp (Int32.not_le.mp c357); have : 1 < (n).toInt := Int32.lt_iff_toInt_lt.mp (Int32.not_le.mp c359); have : 2 < (n).toInt := Int32.lt_iff_toInt_lt.mp (Int32.not_le.mp c361); have : 3 < (n).toInt := Int32.lt_iff_toInt_lt.mp (Int32.not_le.mp c363); have : 4 < (n).toInt := Int32.lt_iff_toInt_lt.mp (Int32.not_le.mp c365); have : (n).toInt ≤ 5 := Int32.le_iff_toInt_le.mp (c367); have : 0 ≤ (what).toInt := Int32.le_iff_toInt_le.mp (c356.1); have : (what).toInt ≤ 1 := Int32.le_iff_toInt_le.mp (c356.2); have : (what).toInt ≠ 0 := g_ne (c368); simp only [F_left, Int32.le_iff_toInt_le, Int32.lt_iff_toInt_lt, ← Int32.toInt_inj]; simp; omega) | (have : 0 ≤ (n).toInt := Int32.le_iff_toInt_le.mp (c355.1); have : (n).toInt ≤ 16 := Int32.le_iff_toInt_le.mp (c355.2); have : 0 < (n).toInt := Int32.lt_iff_toInt_lt.mp (Int32.not_le.mp c357); have : 1 < (n).toInt := Int32.lt_iff_toInt_lt.mp (Int32.not_le.mp c359); have : 2 < (n).toInt := Int32.lt_iff_toInt_lt.mp (Int32.not_le.mp c361); have : 3 < (n).toInt := Int32.lt_iff_toInt_lt.mp (Int32.not_le.mp c363); have : 4 < (n).toInt := Int32.lt_iff_toInt_lt.mp (Int32.not_le.mp c365); have : (n).toInt ≤ 5 := Int32.le_iff_toInt_le.mp (c367); have : 0 ≤ (what).toInt := Int32.le_iff_toInt_le.mp (c356.1); have : (what).toInt ≤ 1 := Int32.le_iff_toInt_le.mp (c356.2); have : (what).toInt ≠ 0 := g_ne (c368); simp only [F_left, Int32.le_iff_toInt_le, Int32.lt_iff_toInt_lt, ← Int32.toInt_inj]; split <;> first | rfl | (exfalso; simp at *; omega)) | (have : 0 ≤ (n).toInt := Int32.le_iff_toInt_le.mp (c355.1); have : (n).toInt ≤ 16 := Int32.le_iff_toInt_le.mp (c355.2); have : 0 < (n).toInt := Int32.lt_iff_toInt_lt.mp (Int32.not_le.mp c357); have : 1 < (n).toInt := Int32.lt_iff_toInt_lt.mp (Int32.not_le.mp c359); have : 2 < (n).toInt := Int32.lt_iff_toInt_lt.mp (Int32.not_le.mp c361); have : 3 < (n).toInt := Int32.lt_iff_toInt_lt.mp (Int32.not_le.mp c363); have : 4 < (n).toInt := Int32.lt_iff_toInt_lt.mp (Int32.not_le.mp c365); have : (n).toInt ≤ 5 := Int32.le_iff_toInt_le.mp (c367); have : 0 ≤ (what).toInt := Int32.le_iff_toInt_le.mp (c356.1); have : (what).toInt ≤ 1 := Int32.le_iff_toInt_le.mp (c356.2); have : (what).toInt ≠ 0 := g_ne (c368); unfold F_left; (repeat' split) <;> first | rfl | (exfalso; (try simp only [Int32.le_iff_toInt_le, Int32.lt_iff_toInt_lt, ← Int32.toInt_inj] at *); first | omega | (simp at *; done) | (simp at *; omega))))
                  · refine G_aload_n (pc := 69) rfl dX12_left_69 ?_
                    refine G_callV (pc := 70) (mc1 := 0) (ms1 := 0) (ci := 12) (mj := mX12_teethAll) (vs := []) dX12_left_70 rfl rfl cm_X12_teethAll wh_34 wh_36 wh_37 rfl (Nat.le_of_ble_eq_true rfl) (Nat.le_of_ble_eq_true rfl) (Nat.le_of_ble_eq_true rfl) (Nat.le_of_ble_eq_true rfl) (s10309_X12_teethAll J (d + 1)  ) ?_
                    rintro _ _ ⟨rfl, rfl⟩
                    dsimp only [Option.toList, List.cons_append, List.nil_append]
                    refine G_goto (pc := 73) (tgt := 81) (by decide) dX12_left_73 ?_
                    refine G_istore (pc := 81) (L1 := [some (.ref 67), some (.int n), some (.int what), some (.int 0), some (.int 0)]) rfl rfl (by decide) dX12_left_81 ?_
                    refine G_aload_n (pc := 83) rfl dX12_left_83 ?_
                    refine G_callV (pc := 84) (mc1 := 0) (ms1 := 0) (ci := 12) (mj := mX12_layBack) (vs := []) dX12_left_84 rfl rfl cm_X12_layBack wh_57 wh_59 wh_60 rfl (Nat.le_of_ble_eq_true rfl) (Nat.le_of_ble_eq_true rfl) (Nat.le_of_ble_eq_true rfl) (Nat.le_of_ble_eq_true rfl) (layBack_s (d + 1) (gup (gup (gup (gup (gup (gup (gup (gup (gup (gup (gcp (gmx J) 68 70 0 0 65) 68 0 1) 68 2 0) 68 0 2) 68 2 0) 68 0 3) 68 2 0) 68 0 4) 68 2 0) 68 0 5) 68 2 0)) ?_
                    rintro _ _ ⟨rfl, rfl⟩
                    dsimp only [Option.toList, List.cons_append, List.nil_append]
                    refine G_iload (pc := 87) rfl dX12_left_87 ?_
                    exact G_iret (pc := 89) (Nat.le_of_ble_eq_true rfl) (Nat.le_of_ble_eq_true rfl) rfl dX12_left_89 (by first | rfl | (simp [F_left, *]; done) | (have : 0 ≤ (n).toInt := Int32.le_iff_toInt_le.mp (c355.1); have : (n).toInt ≤ 16 := Int32.le_iff_toInt_le.mp (c355.2); have : 0 < (n).toInt := Int32.lt_iff_toInt_lt.mp (Int32.not_le.mp c357); have : 1 < (n).toInt := Int32.lt_iff_toInt_lt.mp (Int32.not_le.mp c359); have : 2 < (n).toInt := Int32.lt_iff_toInt_lt.mp (Int32.not_le.mp c361); have : 3 < (n).toInt := Int32.lt_iff_toInt_lt.mp (Int32.not_le.mp c363); have : 4 < (n).toInt := Int32.lt_iff_toInt_lt.mp (Int32.not_le.mp c365); have : (n).toInt ≤ 5 := Int32.le_iff_toInt_le.mp (c367); have : 0 ≤ (what).toInt := Int32.le_iff_toInt_le.mp (c356.1); have : (what).toInt ≤ 1 := Int32.le_iff_toInt_le.mp (c356.2); have : (what).toInt = 0 := congrArg Int32.toInt (c368); simp only [F_left, Int32.le_iff_toInt_le, Int32.lt_iff_toInt_lt, ← Int32.toInt_inj]; simp; omega) | (have : 0 ≤ (n).toInt := Int32.le_iff_toInt_le.mp (c355.1); have : (n).toInt ≤ 16 := Int32.le_iff_toInt_le.mp (c355.2); have : 0 < (n).toInt := Int32.lt_iff_toInt_lt.mp (Int32.not_le.mp c357); have : 1 < (n).toInt := Int32.lt_iff_toInt_lt.mp (Int32.not_le.mp c359); have : 2 < (n).toInt := Int32.lt_iff_toInt_lt.mp (Int32.not_le.mp c361); have : 3 < (n).toInt := Int32.lt_iff_toInt_lt.mp (Int32.not_le.mp c363); have : 4 < (n).toInt := Int32.lt_iff_toInt_lt.mp (Int32.not_le.mp c365); have : (n).toInt ≤ 5 := Int32.le_iff_toInt_le.mp (c367); have : 0 ≤ (what).toInt := Int32.le_iff_toInt_le.mp (c356.1); have : (what).toInt ≤ 1 := Int32.le_iff_toInt_le.mp (c356.2); have : (what).toInt = 0 := congrArg Int32.toInt (c368); simp only [F_left, Int32.le_iff_toInt_le, Int32.lt_iff_toInt_lt, ← Int32.toInt_inj]; split <;> first | rfl | (exfalso; simp at *; omega)) | (have : 0 ≤ (n).toInt := Int32.le_iff_toInt_le.mp (c355.1); have : (n).toInt ≤ 16 := Int32.le_iff_toInt_le.mp (c355.2); have : 0 < (n).toInt := Int32.lt_iff_toInt_lt.mp (Int32.not_le.mp c357); have : 1 < (n).toInt := Int32.lt_iff_toInt_lt.mp (Int32.not_le.mp c359); have : 2 < (n).toInt := Int32.lt_iff_toInt_lt.mp (Int32.not_le.mp c361); have : 3 < (n).toInt := Int32.lt_iff_toInt_lt.mp (Int32.not_le.mp c363); have : 4 < (n).toInt := Int32.lt_iff_toInt_lt.mp (Int32.not_le.mp c365); have : (n).toInt ≤ 5 := Int32.le_iff_toInt_le.mp (c367); have : 0 ≤ (what).toInt := Int32.le_iff_toInt_le.mp (c356.1); have : (what).toInt ≤ 1 := Int32.le_iff_toInt_le.mp (c356.2); have : (what).toInt = 0 := congrArg Int32.toInt (c368); unfold F_left; (repeat' split) <;> first | rfl | (exfalso; (try simp only [Int32.le_iff_toInt_le, Int32.lt_iff_toInt_lt, ← Int32.toInt_inj] at *); first | omega | (simp at *; done) | (simp at *; omega))))
                · refine G_aload_n (pc := 36) rfl dX12_left_36 ?_
                  refine G_callV (pc := 37) (mc1 := 0) (ms1 := 0) (ci := 12) (mj := mX12_isOver) (vs := []) dX12_left_37 rfl rfl cm_X12_isOver wh_22 wh_24 wh_25 rfl (Nat.le_of_ble_eq_true rfl) (Nat.le_of_ble_eq_true rfl) (Nat.le_of_ble_eq_true rfl) (Nat.le_of_ble_eq_true rfl) (s10259_X12_isOver J (d + 1)  ) ?_
                  rintro _ _ ⟨rfl, rfl⟩
                  dsimp only [Option.toList, List.cons_append, List.nil_append]
                  refine G_if_ne (pc := 40) (tgt := 57) (by decide) dX12_left_40 (fun z => absurd (by decide) z) (fun _ => ?_)
                  refine G_iload_n (pc := 43) rfl dX12_left_43 ?_
                  refine G_aload_n (pc := 44) rfl dX12_left_44 ?_
                  refine G_iconst (pc := 45) (v := (-1)) (by decide) dX12_left_45 ?_
                  refine G_callV (pc := 46) (mc1 := 0) (ms1 := 0) (ci := 12) (mj := mX12_goesBy) (vs := [_]) dX12_left_46 rfl rfl cm_X12_goesBy wh_72 wh_74 wh_75 rfl (Nat.le_of_ble_eq_true rfl) (Nat.le_of_ble_eq_true rfl) (Nat.le_of_ble_eq_true rfl) (Nat.le_of_ble_eq_true rfl) (s10260_X12_goesBy J d  ) ?_
                  rintro _ _ ⟨rfl, rfl⟩
                  dsimp only [Option.toList, List.cons_append, List.nil_append]
                  refine G_iadd (pc := 49) (z := 0) (by decide) dX12_left_49 ?_
                  refine G_istore_n (pc := 50) (L1 := [some (.ref 67), some (.int n), some (.int what), some (.int 0), some (.int 5)]) rfl rfl (by decide) dX12_left_50 ?_
                  refine G_iinc (pc := 51) (v := 1) (w := 6) (L1 := [some (.ref 67), some (.int n), some (.int what), some (.int 0), some (.int 6)]) (by decide) rfl rfl (by decide) rfl (by decide) dX12_left_51 ?_
                  refine G_goto (pc := 54) (tgt := 30) (by decide) dX12_left_54 ?_
                  refine G_iload (pc := 30) rfl dX12_left_30 ?_
                  refine G_iload_n (pc := 32) rfl dX12_left_32 ?_
                  refine G_icmp_ge (pc := 33) (tgt := 57) (by decide) dX12_left_33 (fun c369 => ?_) (fun c369 => ?_)
                  · refine G_iload_n (pc := 57) rfl dX12_left_57 ?_
                    refine G_if_ge (pc := 58) (tgt := 65) (by decide) dX12_left_58 (fun _ => ?_) (fun z => absurd (by decide) z)
                    refine G_iload_n (pc := 65) rfl dX12_left_65 ?_
                    refine G_if_ne (pc := 66) (tgt := 76) (by decide) dX12_left_66 (fun c370 => ?_) (fun c370 => ?_)
                    · refine G_aload_n (pc := 76) rfl dX12_left_76 ?_
                      refine G_iconst (pc := 77) (v := 4) (by decide) dX12_left_77 ?_
                      refine G_callV (pc := 78) (mc1 := 0) (ms1 := 0) (ci := 12) (mj := mX12_those) (vs := [_]) dX12_left_78 rfl rfl cm_X12_those wh_26 wh_28 wh_29 rfl (Nat.le_of_ble_eq_true rfl) (Nat.le_of_ble_eq_true rfl) (Nat.le_of_ble_eq_true rfl) (Nat.le_of_ble_eq_true rfl) (s10310_X12_those J (d + 1)  ) ?_
                      rintro _ _ ⟨rfl, rfl⟩
                      dsimp only [Option.toList, List.cons_append, List.nil_append]
                      refine G_istore (pc := 81) (L1 := [some (.ref 67), some (.int n), some (.int what), some (.int 0), some (.int 0)]) rfl rfl (by decide) dX12_left_81 ?_
                      refine G_aload_n (pc := 83) rfl dX12_left_83 ?_
                      refine G_callV (pc := 84) (mc1 := 0) (ms1 := 0) (ci := 12) (mj := mX12_layBack) (vs := []) dX12_left_84 rfl rfl cm_X12_layBack wh_57 wh_59 wh_60 rfl (Nat.le_of_ble_eq_true rfl) (Nat.le_of_ble_eq_true rfl) (Nat.le_of_ble_eq_true rfl) (Nat.le_of_ble_eq_true rfl) (layBack_s (d + 1) (gup (gup (gup (gup (gup (gup (gup (gup (gup (gup (gup (gup (gcp (gmx J) 68 70 0 0 65) 68 0 1) 68 2 0) 68 0 2) 68 2 0) 68 0 3) 68 2 0) 68 0 4) 68 2 0) 68 0 5) 68 2 0) 68 0 6) 68 2 0)) ?_
                      rintro _ _ ⟨rfl, rfl⟩
                      dsimp only [Option.toList, List.cons_append, List.nil_append]
                      refine G_iload (pc := 87) rfl dX12_left_87 ?_
                      exact G_iret (pc := 89) (Nat.le_of_ble_eq_true rfl) (Nat.le_of_ble_eq_true rfl) rfl dX12_left_89 (by first | rfl | (simp [F_left, *]; done) | (have : 0 ≤ (n).toInt := Int32.le_iff_toInt_le.mp (c355.1); have : (n).toInt ≤ 16 := Int32.le_iff_toInt_le.mp (c355.2); have : 0 < (n).toInt := Int32.lt_iff_toInt_lt.mp (Int32.not_le.mp c357); have : 1 < (n).toInt := Int32.lt_iff_toInt_lt.mp (Int32.not_le.mp c359); have : 2 < (n).toInt := Int32.lt_iff_toInt_lt.mp (Int32.not_le.mp c361); have : 3 < (n).toInt := Int32.lt_iff_toInt_lt.mp (Int32.not_le.mp c363); have : 4 < (n).toInt := Int32.lt_iff_toInt_lt.mp (Int32.not_le.mp c365); have : 5 < (n).toInt := Int32.lt_iff_toInt_lt.mp (Int32.not_le.mp c367); have : (n).toInt ≤ 6 := Int32.le_iff_toInt_le.mp (c369); have : 0 ≤ (what).toInt := Int32.le_iff_toInt_le.mp (c356.1); have : (what).toInt ≤ 1 := Int32.le_iff_toInt_le.mp (c356.2); have : (what).toInt ≠ 0 := g_ne (c370); simp only [F_left, Int32.le_iff_toInt_le, Int32.lt_iff_toInt_lt, ← Int32.toInt_inj]; simp; omega) | (have : 0 ≤ (n).toInt := Int32.le_iff_toInt_le.mp (c355.1); have : (n).toInt ≤ 16 := Int32.le_iff_toInt_le.mp (c355.2); have : 0 < (n).toInt := Int32.lt_iff_toInt_lt.mp (Int32.not_le.mp c357); have : 1 < (n).toInt := Int32.lt_iff_toInt_lt.mp (Int32.not_le.mp c359); have : 2 < (n).toInt := Int32.lt_iff_toInt_lt.mp (Int32.not_le.mp c361); have : 3 < (n).toInt := Int32.lt_iff_toInt_lt.mp (Int32.not_le.mp c363); have : 4 < (n).toInt := Int32.lt_iff_toInt_lt.mp (Int32.not_le.mp c365); have : 5 < (n).toInt := Int32.lt_iff_toInt_lt.mp (Int32.not_le.mp c367); have : (n).toInt ≤ 6 := Int32.le_iff_toInt_le.mp (c369); have : 0 ≤ (what).toInt := Int32.le_iff_toInt_le.mp (c356.1); have : (what).toInt ≤ 1 := Int32.le_iff_toInt_le.mp (c356.2); have : (what).toInt ≠ 0 := g_ne (c370); simp only [F_left, Int32.le_iff_toInt_le, Int32.lt_iff_toInt_lt, ← Int32.toInt_inj]; split <;> first | rfl | (exfalso; simp at *; omega)) | (have : 0 ≤ (n).toInt := Int32.le_iff_toInt_le.mp (c355.1); have : (n).toInt ≤ 16 := Int32.le_iff_toInt_le.mp (c355.2); have : 0 < (n).toInt := Int32.lt_iff_toInt_lt.mp (Int32.not_le.mp c357); have : 1 < (n).toInt := Int32.lt_iff_toInt_lt.mp (Int32.not_le.mp c359); have : 2 < (n).toInt := Int32.lt_iff_toInt_lt.mp (Int32.not_le.mp c361); have : 3 < (n).toInt := Int32.lt_iff_toInt_lt.mp (Int32.not_le.mp c363); have : 4 < (n).toInt := Int32.lt_iff_toInt_lt.mp (Int32.not_le.mp c365); have : 5 < (n).toInt := Int32.lt_iff_toInt_lt.mp (Int32.not_le.mp c367); have : (n).toInt ≤ 6 := Int32.le_iff_toInt_le.mp (c369); have : 0 ≤ (what).toInt := Int32.le_iff_toInt_le.mp (c356.1); have : (what).toInt ≤ 1 := Int32.le_iff_toInt_le.mp (c356.2); have : (what).toInt ≠ 0 := g_ne (c370); unfold F_left; (repeat' split) <;> first | rfl | (exfalso; (try simp only [Int32.le_iff_toInt_le, Int32.lt_iff_toInt_lt, ← Int32.toInt_inj] at *); first | omega | (simp at *; done) | (simp at *; omega))))
                    · refine G_aload_n (pc := 69) rfl dX12_left_69 ?_
                      refine G_callV (pc := 70) (mc1 := 0) (ms1 := 0) (ci := 12) (mj := mX12_teethAll) (vs := []) dX12_left_70 rfl rfl cm_X12_teethAll wh_34 wh_36 wh_37 rfl (Nat.le_of_ble_eq_true rfl) (Nat.le_of_ble_eq_true rfl) (Nat.le_of_ble_eq_true rfl) (Nat.le_of_ble_eq_true rfl) (s10311_X12_teethAll J (d + 1)  ) ?_
                      rintro _ _ ⟨rfl, rfl⟩
                      dsimp only [Option.toList, List.cons_append, List.nil_append]
                      refine G_goto (pc := 73) (tgt := 81) (by decide) dX12_left_73 ?_
                      refine G_istore (pc := 81) (L1 := [some (.ref 67), some (.int n), some (.int what), some (.int 0), some (.int 0)]) rfl rfl (by decide) dX12_left_81 ?_
                      refine G_aload_n (pc := 83) rfl dX12_left_83 ?_
                      refine G_callV (pc := 84) (mc1 := 0) (ms1 := 0) (ci := 12) (mj := mX12_layBack) (vs := []) dX12_left_84 rfl rfl cm_X12_layBack wh_57 wh_59 wh_60 rfl (Nat.le_of_ble_eq_true rfl) (Nat.le_of_ble_eq_true rfl) (Nat.le_of_ble_eq_true rfl) (Nat.le_of_ble_eq_true rfl) (layBack_s (d + 1) (gup (gup (gup (gup (gup (gup (gup (gup (gup (gup (gup (gup (gcp (gmx J) 68 70 0 0 65) 68 0 1) 68 2 0) 68 0 2) 68 2 0) 68 0 3) 68 2 0) 68 0 4) 68 2 0) 68 0 5) 68 2 0) 68 0 6) 68 2 0)) ?_
                      rintro _ _ ⟨rfl, rfl⟩
                      dsimp only [Option.toList, List.cons_append, List.nil_append]
                      refine G_iload (pc := 87) rfl dX12_left_87 ?_
                      exact G_iret (pc := 89) (Nat.le_of_ble_eq_true rfl) (Nat.le_of_ble_eq_true rfl) rfl dX12_left_89 (by first | rfl | (simp [F_left, *]; done) | (have : 0 ≤ (n).toInt := Int32.le_iff_toInt_le.mp (c355.1); have : (n).toInt ≤ 16 := Int32.le_iff_toInt_le.mp (c355.2); have : 0 < (n).toInt := Int32.lt_iff_toInt_lt.mp (Int32.not_le.mp c357); have : 1 < (n).toInt := Int32.lt_iff_toInt_lt.mp (Int32.not_le.mp c359); have : 2 < (n).toInt := Int32.lt_iff_toInt_lt.mp (Int32.not_le.mp c361); have : 3 < (n).toInt := Int32.lt_iff_toInt_lt.mp (Int32.not_le.mp c363); have : 4 < (n).toInt := Int32.lt_iff_toInt_lt.mp (Int32.not_le.mp c365); have : 5 < (n).toInt := Int32.lt_iff_toInt_lt.mp (Int32.not_le.mp c367); have : (n).toInt ≤ 6 := Int32.le_iff_toInt_le.mp (c369); have : 0 ≤ (what).toInt := Int32.le_iff_toInt_le.mp (c356.1); have : (what).toInt ≤ 1 := Int32.le_iff_toInt_le.mp (c356.2); have : (what).toInt = 0 := congrArg Int32.toInt (c370); simp only [F_left, Int32.le_iff_toInt_le, Int32.lt_iff_toInt_lt, ← Int32.toInt_inj]; simp; omega) | (have : 0 ≤ (n).toInt := Int32.le_iff_toInt_le.mp (c355.1); have : (n).toInt ≤ 16 := Int32.le_iff_toInt_le.mp (c355.2); have : 0 < (n).toInt := Int32.lt_iff_toInt_lt.mp (Int32.not_le.mp c357); have : 1 < (n).toInt := Int32.lt_iff_toInt_lt.mp (Int32.not_le.mp c359); have : 2 < (n).toInt := Int32.lt_iff_toInt_lt.mp (Int32.not_le.mp c361); have : 3 < (n).toInt := Int32.lt_iff_toInt_lt.mp (Int32.not_le.mp c363); have : 4 < (n).toInt := Int32.lt_iff_toInt_lt.mp (Int32.not_le.mp c365); have : 5 < (n).toInt := Int32.lt_iff_toInt_lt.mp (Int32.not_le.mp c367); have : (n).toInt ≤ 6 := Int32.le_iff_toInt_le.mp (c369); have : 0 ≤ (what).toInt := Int32.le_iff_toInt_le.mp (c356.1); have : (what).toInt ≤ 1 := Int32.le_iff_toInt_le.mp (c356.2); have : (what).toInt = 0 := congrArg Int32.toInt (c370); simp only [F_left, Int32.le_iff_toInt_le, Int32.lt_iff_toInt_lt, ← Int32.toInt_inj]; split <;> first | rfl | (exfalso; simp at *; omega)) | (have : 0 ≤ (n).toInt := Int32.le_iff_toInt_le.mp (c355.1); have : (n).toInt ≤ 16 := Int32.le_iff_toInt_le.mp (c355.2); have : 0 < (n).toInt := Int32.lt_iff_toInt_lt.mp (Int32.not_le.mp c357); have : 1 < (n).toInt := Int32.lt_iff_toInt_lt.mp (Int32.not_le.mp c359); have : 2 < (n).toInt := Int32.lt_iff_toInt_lt.mp (Int32.not_le.mp c361); have : 3 < (n).toInt := Int32.lt_iff_toInt_lt.mp (Int32.not_le.mp c363); have : 4 < (n).toInt := Int32.lt_iff_toInt_lt.mp (Int32.not_le.mp c365); have : 5 < (n).toInt := Int32.lt_iff_toInt_lt.mp (Int32.not_le.mp c367); have : (n).toInt ≤ 6 := Int32.le_iff_toInt_le.mp (c369); have : 0 ≤ (what).toInt := Int32.le_iff_toInt_le.mp (c356.1); have : (what).toInt ≤ 1 := Int32.le_iff_toInt_le.mp (c356.2); have : (what).toInt = 0 := congrArg Int32.toInt (c370); unfold F_left; (repeat' split) <;> first | rfl | (exfalso; (try simp only [Int32.le_iff_toInt_le, Int32.lt_iff_toInt_lt, ← Int32.toInt_inj] at *); first | omega | (simp at *; done) | (simp at *; omega))))
                  · refine G_aload_n (pc := 36) rfl dX12_left_36 ?_
                    refine G_callV (pc := 37) (mc1 := 0) (ms1 := 0) (ci := 12) (mj := mX12_isOver) (vs := []) dX12_left_37 rfl rfl cm_X12_isOver wh_22 wh_24 wh_25 rfl (Nat.le_of_ble_eq_true rfl) (Nat.le_of_ble_eq_true rfl) (Nat.le_of_ble_eq_true rfl) (Nat.le_of_ble_eq_true rfl) (s10262_X12_isOver J (d + 1)  ) ?_
                    rintro _ _ ⟨rfl, rfl⟩
                    dsimp only [Option.toList, List.cons_append, List.nil_append]
                    refine G_if_ne (pc := 40) (tgt := 57) (by decide) dX12_left_40 (fun z => absurd (by decide) z) (fun _ => ?_)
                    refine G_iload_n (pc := 43) rfl dX12_left_43 ?_
                    refine G_aload_n (pc := 44) rfl dX12_left_44 ?_
                    refine G_iconst (pc := 45) (v := (-1)) (by decide) dX12_left_45 ?_
                    refine G_callV (pc := 46) (mc1 := 0) (ms1 := 0) (ci := 12) (mj := mX12_goesBy) (vs := [_]) dX12_left_46 rfl rfl cm_X12_goesBy wh_72 wh_74 wh_75 rfl (Nat.le_of_ble_eq_true rfl) (Nat.le_of_ble_eq_true rfl) (Nat.le_of_ble_eq_true rfl) (Nat.le_of_ble_eq_true rfl) (s10263_X12_goesBy J d  ) ?_
                    rintro _ _ ⟨rfl, rfl⟩
                    dsimp only [Option.toList, List.cons_append, List.nil_append]
                    refine G_iadd (pc := 49) (z := 0) (by decide) dX12_left_49 ?_
                    refine G_istore_n (pc := 50) (L1 := [some (.ref 67), some (.int n), some (.int what), some (.int 0), some (.int 6)]) rfl rfl (by decide) dX12_left_50 ?_
                    refine G_iinc (pc := 51) (v := 1) (w := 7) (L1 := [some (.ref 67), some (.int n), some (.int what), some (.int 0), some (.int 7)]) (by decide) rfl rfl (by decide) rfl (by decide) dX12_left_51 ?_
                    refine G_goto (pc := 54) (tgt := 30) (by decide) dX12_left_54 ?_
                    refine G_iload (pc := 30) rfl dX12_left_30 ?_
                    refine G_iload_n (pc := 32) rfl dX12_left_32 ?_
                    refine G_icmp_ge (pc := 33) (tgt := 57) (by decide) dX12_left_33 (fun c371 => ?_) (fun c371 => ?_)
                    · refine G_iload_n (pc := 57) rfl dX12_left_57 ?_
                      refine G_if_ge (pc := 58) (tgt := 65) (by decide) dX12_left_58 (fun _ => ?_) (fun z => absurd (by decide) z)
                      refine G_iload_n (pc := 65) rfl dX12_left_65 ?_
                      refine G_if_ne (pc := 66) (tgt := 76) (by decide) dX12_left_66 (fun c372 => ?_) (fun c372 => ?_)
                      · refine G_aload_n (pc := 76) rfl dX12_left_76 ?_
                        refine G_iconst (pc := 77) (v := 4) (by decide) dX12_left_77 ?_
                        refine G_callV (pc := 78) (mc1 := 0) (ms1 := 0) (ci := 12) (mj := mX12_those) (vs := [_]) dX12_left_78 rfl rfl cm_X12_those wh_26 wh_28 wh_29 rfl (Nat.le_of_ble_eq_true rfl) (Nat.le_of_ble_eq_true rfl) (Nat.le_of_ble_eq_true rfl) (Nat.le_of_ble_eq_true rfl) (s10312_X12_those J (d + 1)  ) ?_
                        rintro _ _ ⟨rfl, rfl⟩
                        dsimp only [Option.toList, List.cons_append, List.nil_append]
                        refine G_istore (pc := 81) (L1 := [some (.ref 67), some (.int n), some (.int what), some (.int 0), some (.int 0)]) rfl rfl (by decide) dX12_left_81 ?_
                        refine G_aload_n (pc := 83) rfl dX12_left_83 ?_
                        refine G_callV (pc := 84) (mc1 := 0) (ms1 := 0) (ci := 12) (mj := mX12_layBack) (vs := []) dX12_left_84 rfl rfl cm_X12_layBack wh_57 wh_59 wh_60 rfl (Nat.le_of_ble_eq_true rfl) (Nat.le_of_ble_eq_true rfl) (Nat.le_of_ble_eq_true rfl) (Nat.le_of_ble_eq_true rfl) (layBack_s (d + 1) (gup (gup (gup (gup (gup (gup (gup (gup (gup (gup (gup (gup (gup (gup (gcp (gmx J) 68 70 0 0 65) 68 0 1) 68 2 0) 68 0 2) 68 2 0) 68 0 3) 68 2 0) 68 0 4) 68 2 0) 68 0 5) 68 2 0) 68 0 6) 68 2 0) 68 0 7) 68 2 0)) ?_
                        rintro _ _ ⟨rfl, rfl⟩
                        dsimp only [Option.toList, List.cons_append, List.nil_append]
                        refine G_iload (pc := 87) rfl dX12_left_87 ?_
                        exact G_iret (pc := 89) (Nat.le_of_ble_eq_true rfl) (Nat.le_of_ble_eq_true rfl) rfl dX12_left_89 (by first | rfl | (simp [F_left, *]; done) | (have : 0 ≤ (n).toInt := Int32.le_iff_toInt_le.mp (c355.1); have : (n).toInt ≤ 16 := Int32.le_iff_toInt_le.mp (c355.2); have : 0 < (n).toInt := Int32.lt_iff_toInt_lt.mp (Int32.not_le.mp c357); have : 1 < (n).toInt := Int32.lt_iff_toInt_lt.mp (Int32.not_le.mp c359); have : 2 < (n).toInt := Int32.lt_iff_toInt_lt.mp (Int32.not_le.mp c361); have : 3 < (n).toInt := Int32.lt_iff_toInt_lt.mp (Int32.not_le.mp c363); have : 4 < (n).toInt := Int32.lt_iff_toInt_lt.mp (Int32.not_le.mp c365); have : 5 < (n).toInt := Int32.lt_iff_toInt_lt.mp (Int32.not_le.mp c367); have : 6 < (n).toInt := Int32.lt_iff_toInt_lt.mp (Int32.not_le.mp c369); have : (n).toInt ≤ 7 := Int32.le_iff_toInt_le.mp (c371); have : 0 ≤ (what).toInt := Int32.le_iff_toInt_le.mp (c356.1); have : (what).toInt ≤ 1 := Int32.le_iff_toInt_le.mp (c356.2); have : (what).toInt ≠ 0 := g_ne (c372); simp only [F_left, Int32.le_iff_toInt_le, Int32.lt_iff_toInt_lt, ← Int32.toInt_inj]; simp; omega) | (have : 0 ≤ (n).toInt := Int32.le_iff_toInt_le.mp (c355.1); have : (n).toInt ≤ 16 := Int32.le_iff_toInt_le.mp (c355.2); have : 0 < (n).toInt := Int32.lt_iff_toInt_lt.mp (Int32.not_le.mp c357); have : 1 < (n).toInt := Int32.lt_iff_toInt_lt.mp (Int32.not_le.mp c359); have : 2 < (n).toInt := Int32.lt_iff_toInt_lt.mp (Int32.not_le.mp c361); have : 3 < (n).toInt := Int32.lt_iff_toInt_lt.mp (Int32.not_le.mp c363); have : 4 < (n).toInt := Int32.lt_iff_toInt_lt.mp (Int32.not_le.mp c365); have : 5 < (n).toInt := Int32.lt_iff_toInt_lt.mp (Int32.not_le.mp c367); have : 6 < (n).toInt := Int32.lt_iff_toInt_lt.mp (Int32.not_le.mp c369); have : (n).toInt ≤ 7 := Int32.le_iff_toInt_le.mp (c371); have : 0 ≤ (what).toInt := Int32.le_iff_toInt_le.mp (c356.1); have : (what).toInt ≤ 1 := Int32.le_iff_toInt_le.mp (c356.2); have : (what).toInt ≠ 0 := g_ne (c372); simp only [F_left, Int32.le_iff_toInt_le, Int32.lt_iff_toInt_lt, ← Int32.toInt_inj]; split <;> first | rfl | (exfalso; simp at *; omega)) | (have : 0 ≤ (n).toInt := Int32.le_iff_toInt_le.mp (c355.1); have : (n).toInt ≤ 16 := Int32.le_iff_toInt_le.mp (c355.2); have : 0 < (n).toInt := Int32.lt_iff_toInt_lt.mp (Int32.not_le.mp c357); have : 1 < (n).toInt := Int32.lt_iff_toInt_lt.mp (Int32.not_le.mp c359); have : 2 < (n).toInt := Int32.lt_iff_toInt_lt.mp (Int32.not_le.mp c361); have : 3 < (n).toInt := Int32.lt_iff_toInt_lt.mp (Int32.not_le.mp c363); have : 4 < (n).toInt := Int32.lt_iff_toInt_lt.mp (Int32.not_le.mp c365); have : 5 < (n).toInt := Int32.lt_iff_toInt_lt.mp (Int32.not_le.mp c367); have : 6 < (n).toInt := Int32.lt_iff_toInt_lt.mp (Int32.not_le.mp c369); have : (n).toInt ≤ 7 := Int32.le_iff_toInt_le.mp (c371); have : 0 ≤ (what).toInt := Int32.le_iff_toInt_le.mp (c356.1); have : (what).toInt ≤ 1 := Int32.le_iff_toInt_le.mp (c356.2); have : (what).toInt ≠ 0 := g_ne (c372); unfold F_left; (repeat' split) <;> first | rfl | (exfalso; (try simp only [Int32.le_iff_toInt_le, Int32.lt_iff_toInt_lt, ← Int32.toInt_inj] at *); first | omega | (simp at *; done) | (simp at *; omega))))
                      · refine G_aload_n (pc := 69) rfl dX12_left_69 ?_
                        refine G_callV (pc := 70) (mc1 := 0) (ms1 := 0) (ci := 12) (mj := mX12_teethAll) (vs := []) dX12_left_70 rfl rfl cm_X12_teethAll wh_34 wh_36 wh_37 rfl (Nat.le_of_ble_eq_true rfl) (Nat.le_of_ble_eq_true rfl) (Nat.le_of_ble_eq_true rfl) (Nat.le_of_ble_eq_true rfl) (s10313_X12_teethAll J (d + 1)  ) ?_
                        rintro _ _ ⟨rfl, rfl⟩
                        dsimp only [Option.toList, List.cons_append, List.nil_append]
                        refine G_goto (pc := 73) (tgt := 81) (by decide) dX12_left_73 ?_
                        refine G_istore (pc := 81) (L1 := [some (.ref 67), some (.int n), some (.int what), some (.int 0), some (.int 0)]) rfl rfl (by decide) dX12_left_81 ?_
                        refine G_aload_n (pc := 83) rfl dX12_left_83 ?_
                        refine G_callV (pc := 84) (mc1 := 0) (ms1 := 0) (ci := 12) (mj := mX12_layBack) (vs := []) dX12_left_84 rfl rfl cm_X12_layBack wh_57 wh_59 wh_60 rfl (Nat.le_of_ble_eq_true rfl) (Nat.le_of_ble_eq_true rfl) (Nat.le_of_ble_eq_true rfl) (Nat.le_of_ble_eq_true rfl) (layBack_s (d + 1) (gup (gup (gup (gup (gup (gup (gup (gup (gup (gup (gup (gup (gup (gup (gcp (gmx J) 68 70 0 0 65) 68 0 1) 68 2 0) 68 0 2) 68 2 0) 68 0 3) 68 2 0) 68 0 4) 68 2 0) 68 0 5) 68 2 0) 68 0 6) 68 2 0) 68 0 7) 68 2 0)) ?_
                        rintro _ _ ⟨rfl, rfl⟩
                        dsimp only [Option.toList, List.cons_append, List.nil_append]
                        refine G_iload (pc := 87) rfl dX12_left_87 ?_
                        exact G_iret (pc := 89) (Nat.le_of_ble_eq_true rfl) (Nat.le_of_ble_eq_true rfl) rfl dX12_left_89 (by first | rfl | (simp [F_left, *]; done) | (have : 0 ≤ (n).toInt := Int32.le_iff_toInt_le.mp (c355.1); have : (n).toInt ≤ 16 := Int32.le_iff_toInt_le.mp (c355.2); have : 0 < (n).toInt := Int32.lt_iff_toInt_lt.mp (Int32.not_le.mp c357); have : 1 < (n).toInt := Int32.lt_iff_toInt_lt.mp (Int32.not_le.mp c359); have : 2 < (n).toInt := Int32.lt_iff_toInt_lt.mp (Int32.not_le.mp c361); have : 3 < (n).toInt := Int32.lt_iff_toInt_lt.mp (Int32.not_le.mp c363); have : 4 < (n).toInt := Int32.lt_iff_toInt_lt.mp (Int32.not_le.mp c365); have : 5 < (n).toInt := Int32.lt_iff_toInt_lt.mp (Int32.not_le.mp c367); have : 6 < (n).toInt := Int32.lt_iff_toInt_lt.mp (Int32.not_le.mp c369); have : (n).toInt ≤ 7 := Int32.le_iff_toInt_le.mp (c371); have : 0 ≤ (what).toInt := Int32.le_iff_toInt_le.mp (c356.1); have : (what).toInt ≤ 1 := Int32.le_iff_toInt_le.mp (c356.2); have : (what).toInt = 0 := congrArg Int32.toInt (c372); simp only [F_left, Int32.le_iff_toInt_le, Int32.lt_iff_toInt_lt, ← Int32.toInt_inj]; simp; omega) | (have : 0 ≤ (n).toInt := Int32.le_iff_toInt_le.mp (c355.1); have : (n).toInt ≤ 16 := Int32.le_iff_toInt_le.mp (c355.2); have : 0 < (n).toInt := Int32.lt_iff_toInt_lt.mp (Int32.not_le.mp c357); have : 1 < (n).toInt := Int32.lt_iff_toInt_lt.mp (Int32.not_le.mp c359); have : 2 < (n).toInt := Int32.lt_iff_toInt_lt.mp (Int32.not_le.mp c361); have : 3 < (n).toInt := Int32.lt_iff_toInt_lt.mp (Int32.not_le.mp c363); have : 4 < (n).toInt := Int32.lt_iff_toInt_lt.mp (Int32.not_le.mp c365); have : 5 < (n).toInt := Int32.lt_iff_toInt_lt.mp (Int32.not_le.mp c367); have : 6 < (n).toInt := Int32.lt_iff_toInt_lt.mp (Int32.not_le.mp c369); have : (n).toInt ≤ 7 := Int32.le_iff_toInt_le.mp (c371); have : 0 ≤ (what).toInt := Int32.le_iff_toInt_le.mp (c356.1); have : (what).toInt ≤ 1 := Int32.le_iff_toInt_le.mp (c356.2); have : (what).toInt = 0 := congrArg Int32.toInt (c372); simp only [F_left, Int32.le_iff_toInt_le, Int32.lt_iff_toInt_lt, ← Int32.toInt_inj]; split <;> first | rfl | (exfalso; simp at *; omega)) | (have : 0 ≤ (n).toInt := Int32.le_iff_toInt_le.mp (c355.1); have : (n).toInt ≤ 16 := Int32.le_iff_toInt_le.mp (c355.2); have : 0 < (n).toInt := Int32.lt_iff_toInt_lt.mp (Int32.not_le.mp c357); have : 1 < (n).toInt := Int32.lt_iff_toInt_lt.mp (Int32.not_le.mp c359); have : 2 < (n).toInt := Int32.lt_iff_toInt_lt.mp (Int32.not_le.mp c361); have : 3 < (n).toInt := Int32.lt_iff_toInt_lt.mp (Int32.not_le.mp c363); have : 4 < (n).toInt := Int32.lt_iff_toInt_lt.mp (Int32.not_le.mp c365); have : 5 < (n).toInt := Int32.lt_iff_toInt_lt.mp (Int32.not_le.mp c367); have : 6 < (n).toInt := Int32.lt_iff_toInt_lt.mp (Int32.not_le.mp c369); have : (n).toInt ≤ 7 := Int32.le_iff_toInt_le.mp (c371); have : 0 ≤ (what).toInt := Int32.le_iff_toInt_le.mp (c356.1); have : (what).toInt ≤ 1 := Int32.le_iff_toInt_le.mp (c356.2); have : (what).toInt = 0 := congrArg Int32.toInt (c372); unfold F_left; (repeat' split) <;> first | rfl | (exfalso; (try simp only [Int32.le_iff_toInt_le, Int32.lt_iff_toInt_lt, ← Int32.toInt_inj] at *); first | omega | (simp at *; done) | (simp at *; omega))))
                    · refine G_aload_n (pc := 36) rfl dX12_left_36 ?_
                      refine G_callV (pc := 37) (mc1 := 0) (ms1 := 0) (ci := 12) (mj := mX12_isOver) (vs := []) dX12_left_37 rfl rfl cm_X12_isOver wh_22 wh_24 wh_25 rfl (Nat.le_of_ble_eq_true rfl) (Nat.le_of_ble_eq_true rfl) (Nat.le_of_ble_eq_true rfl) (Nat.le_of_ble_eq_true rfl) (s10265_X12_isOver J (d + 1)  ) ?_
                      rintro _ _ ⟨rfl, rfl⟩
                      dsimp only [Option.toList, List.cons_append, List.nil_append]
                      refine G_if_ne (pc := 40) (tgt := 57) (by decide) dX12_left_40 (fun z => absurd (by decide) z) (fun _ => ?_)
                      refine G_iload_n (pc := 43) rfl dX12_left_43 ?_
                      refine G_aload_n (pc := 44) rfl dX12_left_44 ?_
                      refine G_iconst (pc := 45) (v := (-1)) (by decide) dX12_left_45 ?_
                      refine G_callV (pc := 46) (mc1 := 0) (ms1 := 0) (ci := 12) (mj := mX12_goesBy) (vs := [_]) dX12_left_46 rfl rfl cm_X12_goesBy wh_72 wh_74 wh_75 rfl (Nat.le_of_ble_eq_true rfl) (Nat.le_of_ble_eq_true rfl) (Nat.le_of_ble_eq_true rfl) (Nat.le_of_ble_eq_true rfl) (s10266_X12_goesBy J d  ) ?_
                      rintro _ _ ⟨rfl, rfl⟩
                      dsimp only [Option.toList, List.cons_append, List.nil_append]
                      refine G_iadd (pc := 49) (z := 0) (by decide) dX12_left_49 ?_
                      refine G_istore_n (pc := 50) (L1 := [some (.ref 67), some (.int n), some (.int what), some (.int 0), some (.int 7)]) rfl rfl (by decide) dX12_left_50 ?_
                      refine G_iinc (pc := 51) (v := 1) (w := 8) (L1 := [some (.ref 67), some (.int n), some (.int what), some (.int 0), some (.int 8)]) (by decide) rfl rfl (by decide) rfl (by decide) dX12_left_51 ?_
                      refine G_goto (pc := 54) (tgt := 30) (by decide) dX12_left_54 ?_
                      refine G_iload (pc := 30) rfl dX12_left_30 ?_
                      refine G_iload_n (pc := 32) rfl dX12_left_32 ?_
                      refine G_icmp_ge (pc := 33) (tgt := 57) (by decide) dX12_left_33 (fun c373 => ?_) (fun c373 => ?_)
                      · refine G_iload_n (pc := 57) rfl dX12_left_57 ?_
                        refine G_if_ge (pc := 58) (tgt := 65) (by decide) dX12_left_58 (fun _ => ?_) (fun z => absurd (by decide) z)
                        refine G_iload_n (pc := 65) rfl dX12_left_65 ?_
                        refine G_if_ne (pc := 66) (tgt := 76) (by decide) dX12_left_66 (fun c374 => ?_) (fun c374 => ?_)
                        · refine G_aload_n (pc := 76) rfl dX12_left_76 ?_
                          refine G_iconst (pc := 77) (v := 4) (by decide) dX12_left_77 ?_
                          refine G_callV (pc := 78) (mc1 := 0) (ms1 := 0) (ci := 12) (mj := mX12_those) (vs := [_]) dX12_left_78 rfl rfl cm_X12_those wh_26 wh_28 wh_29 rfl (Nat.le_of_ble_eq_true rfl) (Nat.le_of_ble_eq_true rfl) (Nat.le_of_ble_eq_true rfl) (Nat.le_of_ble_eq_true rfl) (s10314_X12_those J (d + 1)  ) ?_
                          rintro _ _ ⟨rfl, rfl⟩
                          dsimp only [Option.toList, List.cons_append, List.nil_append]
                          refine G_istore (pc := 81) (L1 := [some (.ref 67), some (.int n), some (.int what), some (.int 0), some (.int 0)]) rfl rfl (by decide) dX12_left_81 ?_
                          refine G_aload_n (pc := 83) rfl dX12_left_83 ?_
                          refine G_callV (pc := 84) (mc1 := 0) (ms1 := 0) (ci := 12) (mj := mX12_layBack) (vs := []) dX12_left_84 rfl rfl cm_X12_layBack wh_57 wh_59 wh_60 rfl (Nat.le_of_ble_eq_true rfl) (Nat.le_of_ble_eq_true rfl) (Nat.le_of_ble_eq_true rfl) (Nat.le_of_ble_eq_true rfl) (layBack_s (d + 1) (gup (gup (gup (gup (gup (gup (gup (gup (gup (gup (gup (gup (gup (gup (gup (gup (gcp (gmx J) 68 70 0 0 65) 68 0 1) 68 2 0) 68 0 2) 68 2 0) 68 0 3) 68 2 0) 68 0 4) 68 2 0) 68 0 5) 68 2 0) 68 0 6) 68 2 0) 68 0 7) 68 2 0) 68 0 8) 68 2 0)) ?_
                          rintro _ _ ⟨rfl, rfl⟩
                          dsimp only [Option.toList, List.cons_append, List.nil_append]
                          refine G_iload (pc := 87) rfl dX12_left_87 ?_
                          exact G_iret (pc := 89) (Nat.le_of_ble_eq_true rfl) (Nat.le_of_ble_eq_true rfl) rfl dX12_left_89 (by first | rfl | (simp [F_left, *]; done) | (have : 0 ≤ (n).toInt := Int32.le_iff_toInt_le.mp (c355.1); have : (n).toInt ≤ 16 := Int32.le_iff_toInt_le.mp (c355.2); have : 0 < (n).toInt := Int32.lt_iff_toInt_lt.mp (Int32.not_le.mp c357); have : 1 < (n).toInt := Int32.lt_iff_toInt_lt.mp (Int32.not_le.mp c359); have : 2 < (n).toInt := Int32.lt_iff_toInt_lt.mp (Int32.not_le.mp c361); have : 3 < (n).toInt := Int32.lt_iff_toInt_lt.mp (Int32.not_le.mp c363); have : 4 < (n).toInt := Int32.lt_iff_toInt_lt.mp (Int32.not_le.mp c365); have : 5 < (n).toInt := Int32.lt_iff_toInt_lt.mp (Int32.not_le.mp c367); have : 6 < (n).toInt := Int32.lt_iff_toInt_lt.mp (Int32.not_le.mp c369); have : 7 < (n).toInt := Int32.lt_iff_toInt_lt.mp (Int32.not_le.mp c371); have : (n).toInt ≤ 8 := Int32.le_iff_toInt_le.mp (c373); have : 0 ≤ (what).toInt := Int32.le_iff_toInt_le.mp (c356.1); have : (what).toInt ≤ 1 := Int32.le_iff_toInt_le.mp (c356.2); have : (what).toInt ≠ 0 := g_ne (c374); simp only [F_left, Int32.le_iff_toInt_le, Int32.lt_iff_toInt_lt, ← Int32.toInt_inj]; simp; omega) | (have : 0 ≤ (n).toInt := Int32.le_iff_toInt_le.mp (c355.1); have : (n).toInt ≤ 16 := Int32.le_iff_toInt_le.mp (c355.2); have : 0 < (n).toInt := Int32.lt_iff_toInt_lt.mp (Int32.not_le.mp c357); have : 1 < (n).toInt := Int32.lt_iff_toInt_lt.mp (Int32.not_le.mp c359); have : 2 < (n).toInt := Int32.lt_iff_toInt_lt.mp (Int32.not_le.mp c361); have : 3 < (n).toInt := Int32.lt_iff_toInt_lt.mp (Int32.not_le.mp c363); have : 4 < (n).toInt := Int32.lt_iff_toInt_lt.mp (Int32.not_le.mp c365); have : 5 < (n).toInt := Int32.lt_iff_toInt_lt.mp (Int32.not_le.mp c367); have : 6 < (n).toInt := Int32.lt_iff_toInt_lt.mp (Int32.not_le.mp c369); have : 7 < (n).toInt := Int32.lt_iff_toInt_lt.mp (Int32.not_le.mp c371); have : (n).toInt ≤ 8 := Int32.le_iff_toInt_le.mp (c373); have : 0 ≤ (what).toInt := Int32.le_iff_toInt_le.mp (c356.1); have : (what).toInt ≤ 1 := Int32.le_iff_toInt_le.mp (c356.2); have : (what).toInt ≠ 0 := g_ne (c374); simp only [F_left, Int32.le_iff_toInt_le, Int32.lt_iff_toInt_lt, ← Int32.toInt_inj]; split <;> first | rfl | (exfalso; simp at *; omega)) | (have : 0 ≤ (n).toInt := Int32.le_iff_toInt_le.mp (c355.1); have : (n).toInt ≤ 16 := Int32.le_iff_toInt_le.mp (c355.2); have : 0 < (n).toInt := Int32.lt_iff_toInt_lt.mp (Int32.not_le.mp c357); have : 1 < (n).toInt := Int32.lt_iff_toInt_lt.mp (Int32.not_le.mp c359); have : 2 < (n).toInt := Int32.lt_iff_toInt_lt.mp (Int32.not_le.mp c361); have : 3 < (n).toInt := Int32.lt_iff_toInt_lt.mp (Int32.not_le.mp c363); have : 4 < (n).toInt := Int32.lt_iff_toInt_lt.mp (Int32.not_le.mp c365); have : 5 < (n).toInt := Int32.lt_iff_toInt_lt.mp (Int32.not_le.mp c367); have : 6 < (n).toInt := Int32.lt_iff_toInt_lt.mp (Int32.not_le.mp c369); have : 7 < (n).toInt := Int32.lt_iff_toInt_lt.mp (Int32.not_le.mp c371); have : (n).toInt ≤ 8 := Int32.le_iff_toInt_le.mp (c373); have : 0 ≤ (what).toInt := Int32.le_iff_toInt_le.mp (c356.1); have : (what).toInt ≤ 1 := Int32.le_iff_toInt_le.mp (c356.2); have : (what).toInt ≠ 0 := g_ne (c374); unfold F_left; (repeat' split) <;> first | rfl | (exfalso; (try simp only [Int32.le_iff_toInt_le, Int32.lt_iff_toInt_lt, ← Int32.toInt_inj] at *); first | omega | (simp at *; done) | (simp at *; omega))))
                        · refine G_aload_n (pc := 69) rfl dX12_left_69 ?_
                          refine G_callV (pc := 70) (mc1 := 0) (ms1 := 0) (ci := 12) (mj := mX12_teethAll) (vs := []) dX12_left_70 rfl rfl cm_X12_teethAll wh_34 wh_36 wh_37 rfl (Nat.le_of_ble_eq_true rfl) (Nat.le_of_ble_eq_true rfl) (Nat.le_of_ble_eq_true rfl) (Nat.le_of_ble_eq_true rfl) (s10315_X12_teethAll J (d + 1)  ) ?_
                          rintro _ _ ⟨rfl, rfl⟩
                          dsimp only [Option.toList, List.cons_append, List.nil_append]
                          refine G_goto (pc := 73) (tgt := 81) (by decide) dX12_left_73 ?_
                          refine G_istore (pc := 81) (L1 := [some (.ref 67), some (.int n), some (.int what), some (.int 0), some (.int 0)]) rfl rfl (by decide) dX12_left_81 ?_
                          refine G_aload_n (pc := 83) rfl dX12_left_83 ?_
                          refine G_callV (pc := 84) (mc1 := 0) (ms1 := 0) (ci := 12) (mj := mX12_layBack) (vs := []) dX12_left_84 rfl rfl cm_X12_layBack wh_57 wh_59 wh_60 rfl (Nat.le_of_ble_eq_true rfl) (Nat.le_of_ble_eq_true rfl) (Nat.le_of_ble_eq_true rfl) (Nat.le_of_ble_eq_true rfl) (layBack_s (d + 1) (gup (gup (gup (gup (gup (gup (gup (gup (gup (gup (gup (gup (gup (gup (gup (gup (gcp (gmx J) 68 70 0 0 65) 68 0 1) 68 2 0) 68 0 2) 68 2 0) 68 0 3) 68 2 0) 68 0 4) 68 2 0) 68 0 5) 68 2 0) 68 0 6) 68 2 0) 68 0 7) 68 2 0) 68 0 8) 68 2 0)) ?_
                          rintro _ _ ⟨rfl, rfl⟩
                          dsimp only [Option.toList, List.cons_append, List.nil_append]
                          refine G_iload (pc := 87) rfl dX12_left_87 ?_
                          exact G_iret (pc := 89) (Nat.le_of_ble_eq_true rfl) (Nat.le_of_ble_eq_true rfl) rfl dX12_left_89 (by first | rfl | (simp [F_left, *]; done) | (have : 0 ≤ (n).toInt := Int32.le_iff_toInt_le.mp (c355.1); have : (n).toInt ≤ 16 := Int32.le_iff_toInt_le.mp (c355.2); have : 0 < (n).toInt := Int32.lt_iff_toInt_lt.mp (Int32.not_le.mp c357); have : 1 < (n).toInt := Int32.lt_iff_toInt_lt.mp (Int32.not_le.mp c359); have : 2 < (n).toInt := Int32.lt_iff_toInt_lt.mp (Int32.not_le.mp c361); have : 3 < (n).toInt := Int32.lt_iff_toInt_lt.mp (Int32.not_le.mp c363); have : 4 < (n).toInt := Int32.lt_iff_toInt_lt.mp (Int32.not_le.mp c365); have : 5 < (n).toInt := Int32.lt_iff_toInt_lt.mp (Int32.not_le.mp c367); have : 6 < (n).toInt := Int32.lt_iff_toInt_lt.mp (Int32.not_le.mp c369); have : 7 < (n).toInt := Int32.lt_iff_toInt_lt.mp (Int32.not_le.mp c371); have : (n).toInt ≤ 8 := Int32.le_iff_toInt_le.mp (c373); have : 0 ≤ (what).toInt := Int32.le_iff_toInt_le.mp (c356.1); have : (what).toInt ≤ 1 := Int32.le_iff_toInt_le.mp (c356.2); have : (what).toInt = 0 := congrArg Int32.toInt (c374); simp only [F_left, Int32.le_iff_toInt_le, Int32.lt_iff_toInt_lt, ← Int32.toInt_inj]; simp; omega) | (have : 0 ≤ (n).toInt := Int32.le_iff_toInt_le.mp (c355.1); have : (n).toInt ≤ 16 := Int32.le_iff_toInt_le.mp (c355.2); have : 0 < (n).toInt := Int32.lt_iff_toInt_lt.mp (Int32.not_le.mp c357); have : 1 < (n).toInt := Int32.lt_iff_toInt_lt.mp (Int32.not_le.mp c359); have : 2 < (n).toInt := Int32.lt_iff_toInt_lt.mp (Int32.not_le.mp c361); have : 3 < (n).toInt := Int32.lt_iff_toInt_lt.mp (Int32.not_le.mp c363); have : 4 < (n).toInt := Int32.lt_iff_toInt_lt.mp (Int32.not_le.mp c365); have : 5 < (n).toInt := Int32.lt_iff_toInt_lt.mp (Int32.not_le.mp c367); have : 6 < (n).toInt := Int32.lt_iff_toInt_lt.mp (Int32.not_le.mp c369); have : 7 < (n).toInt := Int32.lt_iff_toInt_lt.mp (Int32.not_le.mp c371); have : (n).toInt ≤ 8 := Int32.le_iff_toInt_le.mp (c373); have : 0 ≤ (what).toInt := Int32.le_iff_toInt_le.mp (c356.1); have : (what).toInt ≤ 1 := Int32.le_iff_toInt_le.mp (c356.2); have : (what).toInt = 0 := congrArg Int32.toInt (c374); simp only [F_left, Int32.le_iff_toInt_le, Int32.lt_iff_toInt_lt, ← Int32.toInt_inj]; split <;> first | rfl | (exfalso; simp at *; omega)) | (have : 0 ≤ (n).toInt := Int32.le_iff_toInt_le.mp (c355.1); have : (n).toInt ≤ 16 := Int32.le_iff_toInt_le.mp (c355.2); have : 0 < (n).toInt := Int32.lt_iff_toInt_lt.mp (Int32.not_le.mp c357); have : 1 < (n).toInt := Int32.lt_iff_toInt_lt.mp (Int32.not_le.mp c359); have : 2 < (n).toInt := Int32.lt_iff_toInt_lt.mp (Int32.not_le.mp c361); have : 3 < (n).toInt := Int32.lt_iff_toInt_lt.mp (Int32.not_le.mp c363); have : 4 < (n).toInt := Int32.lt_iff_toInt_lt.mp (Int32.not_le.mp c365); have : 5 < (n).toInt := Int32.lt_iff_toInt_lt.mp (Int32.not_le.mp c367); have : 6 < (n).toInt := Int32.lt_iff_toInt_lt.mp (Int32.not_le.mp c369); have : 7 < (n).toInt := Int32.lt_iff_toInt_lt.mp (Int32.not_le.mp c371); have : (n).toInt ≤ 8 := Int32.le_iff_toInt_le.mp (c373); have : 0 ≤ (what).toInt := Int32.le_iff_toInt_le.mp (c356.1); have : (what).toInt ≤ 1 := Int32.le_iff_toInt_le.mp (c356.2); have : (what).toInt = 0 := congrArg Int32.toInt (c374); unfold F_left; (repeat' split) <;> first | rfl | (exfalso; (try simp only [Int32.le_iff_toInt_le, Int32.lt_iff_toInt_lt, ← Int32.toInt_inj] at *); first | omega | (simp at *; done) | (simp at *; omega))))
                      · refine G_aload_n (pc := 36) rfl dX12_left_36 ?_
                        refine G_callV (pc := 37) (mc1 := 0) (ms1 := 0) (ci := 12) (mj := mX12_isOver) (vs := []) dX12_left_37 rfl rfl cm_X12_isOver wh_22 wh_24 wh_25 rfl (Nat.le_of_ble_eq_true rfl) (Nat.le_of_ble_eq_true rfl) (Nat.le_of_ble_eq_true rfl) (Nat.le_of_ble_eq_true rfl) (s10268_X12_isOver J (d + 1)  ) ?_
                        rintro _ _ ⟨rfl, rfl⟩
                        dsimp only [Option.toList, List.cons_append, List.nil_append]
                        refine G_if_ne (pc := 40) (tgt := 57) (by decide) dX12_left_40 (fun z => absurd (by decide) z) (fun _ => ?_)
                        refine G_iload_n (pc := 43) rfl dX12_left_43 ?_
                        refine G_aload_n (pc := 44) rfl dX12_left_44 ?_
                        refine G_iconst (pc := 45) (v := (-1)) (by decide) dX12_left_45 ?_
                        refine G_callV (pc := 46) (mc1 := 0) (ms1 := 0) (ci := 12) (mj := mX12_goesBy) (vs := [_]) dX12_left_46 rfl rfl cm_X12_goesBy wh_72 wh_74 wh_75 rfl (Nat.le_of_ble_eq_true rfl) (Nat.le_of_ble_eq_true rfl) (Nat.le_of_ble_eq_true rfl) (Nat.le_of_ble_eq_true rfl) (s10269_X12_goesBy J d  ) ?_
                        rintro _ _ ⟨rfl, rfl⟩
                        dsimp only [Option.toList, List.cons_append, List.nil_append]
                        refine G_iadd (pc := 49) (z := 0) (by decide) dX12_left_49 ?_
                        refine G_istore_n (pc := 50) (L1 := [some (.ref 67), some (.int n), some (.int what), some (.int 0), some (.int 8)]) rfl rfl (by decide) dX12_left_50 ?_
                        refine G_iinc (pc := 51) (v := 1) (w := 9) (L1 := [some (.ref 67), some (.int n), some (.int what), some (.int 0), some (.int 9)]) (by decide) rfl rfl (by decide) rfl (by decide) dX12_left_51 ?_
                        refine G_goto (pc := 54) (tgt := 30) (by decide) dX12_left_54 ?_
                        refine G_iload (pc := 30) rfl dX12_left_30 ?_
                        refine G_iload_n (pc := 32) rfl dX12_left_32 ?_
                        refine G_icmp_ge (pc := 33) (tgt := 57) (by decide) dX12_left_33 (fun c375 => ?_) (fun c375 => ?_)
                        · refine G_iload_n (pc := 57) rfl dX12_left_57 ?_
                          refine G_if_ge (pc := 58) (tgt := 65) (by decide) dX12_left_58 (fun _ => ?_) (fun z => absurd (by decide) z)
                          refine G_iload_n (pc := 65) rfl dX12_left_65 ?_
                          refine G_if_ne (pc := 66) (tgt := 76) (by decide) dX12_left_66 (fun c376 => ?_) (fun c376 => ?_)
                          · refine G_aload_n (pc := 76) rfl dX12_left_76 ?_
                            refine G_iconst (pc := 77) (v := 4) (by decide) dX12_left_77 ?_
                            refine G_callV (pc := 78) (mc1 := 0) (ms1 := 0) (ci := 12) (mj := mX12_those) (vs := [_]) dX12_left_78 rfl rfl cm_X12_those wh_26 wh_28 wh_29 rfl (Nat.le_of_ble_eq_true rfl) (Nat.le_of_ble_eq_true rfl) (Nat.le_of_ble_eq_true rfl) (Nat.le_of_ble_eq_true rfl) (s10316_X12_those J (d + 1)  ) ?_
                            rintro _ _ ⟨rfl, rfl⟩
                            dsimp only [Option.toList, List.cons_append, List.nil_append]
                            refine G_istore (pc := 81) (L1 := [some (.ref 67), some (.int n), some (.int what), some (.int 0), some (.int 0)]) rfl rfl (by decide) dX12_left_81 ?_
                            refine G_aload_n (pc := 83) rfl dX12_left_83 ?_
                            refine G_callV (pc := 84) (mc1 := 0) (ms1 := 0) (ci := 12) (mj := mX12_layBack) (vs := []) dX12_left_84 rfl rfl cm_X12_layBack wh_57 wh_59 wh_60 rfl (Nat.le_of_ble_eq_true rfl) (Nat.le_of_ble_eq_true rfl) (Nat.le_of_ble_eq_true rfl) (Nat.le_of_ble_eq_true rfl) (layBack_s (d + 1) (gup (gup (gup (gup (gup (gup (gup (gup (gup (gup (gup (gup (gup (gup (gup (gup (gup (gup (gcp (gmx J) 68 70 0 0 65) 68 0 1) 68 2 0) 68 0 2) 68 2 0) 68 0 3) 68 2 0) 68 0 4) 68 2 0) 68 0 5) 68 2 0) 68 0 6) 68 2 0) 68 0 7) 68 2 0) 68 0 8) 68 2 0) 68 0 9) 68 2 0)) ?_
                            rintro _ _ ⟨rfl, rfl⟩
                            dsimp only [Option.toList, List.cons_append, List.nil_append]
                            refine G_iload (pc := 87) rfl dX12_left_87 ?_
                            exact G_iret (pc := 89) (Nat.le_of_ble_eq_true rfl) (Nat.le_of_ble_eq_true rfl) rfl dX12_left_89 (by first | rfl | (simp [F_left, *]; done) | (have : 0 ≤ (n).toInt := Int32.le_iff_toInt_le.mp (c355.1); have : (n).toInt ≤ 16 := Int32.le_iff_toInt_le.mp (c355.2); have : 0 < (n).toInt := Int32.lt_iff_toInt_lt.mp (Int32.not_le.mp c357); have : 1 < (n).toInt := Int32.lt_iff_toInt_lt.mp (Int32.not_le.mp c359); have : 2 < (n).toInt := Int32.lt_iff_toInt_lt.mp (Int32.not_le.mp c361); have : 3 < (n).toInt := Int32.lt_iff_toInt_lt.mp (Int32.not_le.mp c363); have : 4 < (n).toInt := Int32.lt_iff_toInt_lt.mp (Int32.not_le.mp c365); have : 5 < (n).toInt := Int32.lt_iff_toInt_lt.mp (Int32.not_le.mp c367); have : 6 < (n).toInt := Int32.lt_iff_toInt_lt.mp (Int32.not_le.mp c369); have : 7 < (n).toInt := Int32.lt_iff_toInt_lt.mp (Int32.not_le.mp c371); have : 8 < (n).toInt := Int32.lt_iff_toInt_lt.mp (Int32.not_le.mp c373); have : (n).toInt ≤ 9 := Int32.le_iff_toInt_le.mp (c375); have : 0 ≤ (what).toInt := Int32.le_iff_toInt_le.mp (c356.1); have : (what).toInt ≤ 1 := Int32.le_iff_toInt_le.mp (c356.2); have : (what).toInt ≠ 0 := g_ne (c376); simp only [F_left, Int32.le_iff_toInt_le, Int32.lt_iff_toInt_lt, ← Int32.toInt_inj]; simp; omega) | (have : 0 ≤ (n).toInt := Int32.le_iff_toInt_le.mp (c355.1); have : (n).toInt ≤ 16 := Int32.le_iff_toInt_le.mp (c355.2); have : 0 < (n).toInt := Int32.lt_iff_toInt_lt.mp (Int32.not_le.mp c357); have : 1 < (n).toInt := Int32.lt_iff_toInt_lt.mp (Int32.not_le.mp c359); have : 2 < (n).toInt := Int32.lt_iff_toInt_lt.mp (Int32.not_le.mp c361); have : 3 < (n).toInt := Int32.lt_iff_toInt_lt.mp (Int32.not_le.mp c363); have : 4 < (n).toInt := Int32.lt_iff_toInt_lt.mp (Int32.not_le.mp c365); have : 5 < (n).toInt := Int32.lt_iff_toInt_lt.mp (Int32.not_le.mp c367); have : 6 < (n).toInt := Int32.lt_iff_toInt_lt.mp (Int32.not_le.mp c369); have : 7 < (n).toInt := Int32.lt_iff_toInt_lt.mp (Int32.not_le.mp c371); have : 8 < (n).toInt := Int32.lt_iff_toInt_lt.mp (Int32.not_le.mp c373); have : (n).toInt ≤ 9 := Int32.le_iff_toInt_le.mp (c375); have : 0 ≤ (what).toInt := Int32.le_iff_toInt_le.mp (c356.1); have : (what).toInt ≤ 1 := Int32.le_iff_toInt_le.mp (c356.2); have : (what).toInt ≠ 0 := g_ne (c376); simp only [F_left, Int32.le_iff_toInt_le, Int32.lt_iff_toInt_lt, ← Int32.toInt_inj]; split <;> first | rfl | (exfalso; simp at *; omega)) | (have : 0 ≤ (n).toInt := Int32.le_iff_toInt_le.mp (c355.1); have : (n).toInt ≤ 16 := Int32.le_iff_toInt_le.mp (c355.2); have : 0 < (n).toInt := Int32.lt_iff_toInt_lt.mp (Int32.not_le.mp c357); have : 1 < (n).toInt := Int32.lt_iff_toInt_lt.mp (Int32.not_le.mp c359); have : 2 < (n).toInt := Int32.lt_iff_toInt_lt.mp (Int32.not_le.mp c361); have : 3 < (n).toInt := Int32.lt_iff_toInt_lt.mp (Int32.not_le.mp c363); have : 4 < (n).toInt := Int32.lt_iff_toInt_lt.mp (Int32.not_le.mp c365); have : 5 < (n).toInt := Int32.lt_iff_toInt_lt.mp (Int32.not_le.mp c367); have : 6 < (n).toInt := Int32.lt_iff_toInt_lt.mp (Int32.not_le.mp c369); have : 7 < (n).toInt := Int32.lt_iff_toInt_lt.mp (Int32.not_le.mp c371); have : 8 < (n).toInt := Int32.lt_iff_toInt_lt.mp (Int32.not_le.mp c373); have : (n).toInt ≤ 9 := Int32.le_iff_toInt_le.mp (c375); have : 0 ≤ (what).toInt := Int32.le_iff_toInt_le.mp (c356.1); have : (what).toInt ≤ 1 := Int32.le_iff_toInt_le.mp (c356.2); have : (what).toInt ≠ 0 := g_ne (c376); unfold F_left; (repeat' split) <;> first | rfl | (exfalso; (try simp only [Int32.le_iff_toInt_le, Int32.lt_iff_toInt_lt, ← Int32.toInt_inj] at *); first | omega | (simp at *; done) | (simp at *; omega))))
                          · refine G_aload_n (pc := 69) rfl dX12_left_69 ?_
                            refine G_callV (pc := 70) (mc1 := 0) (ms1 := 0) (ci := 12) (mj := mX12_teethAll) (vs := []) dX12_left_70 rfl rfl cm_X12_teethAll wh_34 wh_36 wh_37 rfl (Nat.le_of_ble_eq_true rfl) (Nat.le_of_ble_eq_true rfl) (Nat.le_of_ble_eq_true rfl) (Nat.le_of_ble_eq_true rfl) (s10317_X12_teethAll J (d + 1)  ) ?_
                            rintro _ _ ⟨rfl, rfl⟩
                            dsimp only [Option.toList, List.cons_append, List.nil_append]
                            refine G_goto (pc := 73) (tgt := 81) (by decide) dX12_left_73 ?_
                            refine G_istore (pc := 81) (L1 := [some (.ref 67), some (.int n), some (.int what), some (.int 0), some (.int 0)]) rfl rfl (by decide) dX12_left_81 ?_
                            refine G_aload_n (pc := 83) rfl dX12_left_83 ?_
                            refine G_callV (pc := 84) (mc1 := 0) (ms1 := 0) (ci := 12) (mj := mX12_layBack) (vs := []) dX12_left_84 rfl rfl cm_X12_layBack wh_57 wh_59 wh_60 rfl (Nat.le_of_ble_eq_true rfl) (Nat.le_of_ble_eq_true rfl) (Nat.le_of_ble_eq_true rfl) (Nat.le_of_ble_eq_true rfl) (layBack_s (d + 1) (gup (gup (gup (gup (gup (gup (gup (gup (gup (gup (gup (gup (gup (gup (gup (gup (gup (gup (gcp (gmx J) 68 70 0 0 65) 68 0 1) 68 2 0) 68 0 2) 68 2 0) 68 0 3) 68 2 0) 68 0 4) 68 2 0) 68 0 5) 68 2 0) 68 0 6) 68 2 0) 68 0 7) 68 2 0) 68 0 8) 68 2 0) 68 0 9) 68 2 0)) ?_
                            rintro _ _ ⟨rfl, rfl⟩
                            dsimp only [Option.toList, List.cons_append, List.nil_append]
                            refine G_iload (pc := 87) rfl dX12_left_87 ?_
                            exact G_iret (pc := 89) (Nat.le_of_ble_eq_true rfl) (Nat.le_of_ble_eq_true rfl) rfl dX12_left_89 (by first | rfl | (simp [F_left, *]; done) | (have : 0 ≤ (n).toInt := Int32.le_iff_toInt_le.mp (c355.1); have : (n).toInt ≤ 16 := Int32.le_iff_toInt_le.mp (c355.2); have : 0 < (n).toInt := Int32.lt_iff_toInt_lt.mp (Int32.not_le.mp c357); have : 1 < (n).toInt := Int32.lt_iff_toInt_lt.mp (Int32.not_le.mp c359); have : 2 < (n).toInt := Int32.lt_iff_toInt_lt.mp (Int32.not_le.mp c361); have : 3 < (n).toInt := Int32.lt_iff_toInt_lt.mp (Int32.not_le.mp c363); have : 4 < (n).toInt := Int32.lt_iff_toInt_lt.mp (Int32.not_le.mp c365); have : 5 < (n).toInt := Int32.lt_iff_toInt_lt.mp (Int32.not_le.mp c367); have : 6 < (n).toInt := Int32.lt_iff_toInt_lt.mp (Int32.not_le.mp c369); have : 7 < (n).toInt := Int32.lt_iff_toInt_lt.mp (Int32.not_le.mp c371); have : 8 < (n).toInt := Int32.lt_iff_toInt_lt.mp (Int32.not_le.mp c373); have : (n).toInt ≤ 9 := Int32.le_iff_toInt_le.mp (c375); have : 0 ≤ (what).toInt := Int32.le_iff_toInt_le.mp (c356.1); have : (what).toInt ≤ 1 := Int32.le_iff_toInt_le.mp (c356.2); have : (what).toInt = 0 := congrArg Int32.toInt (c376); simp only [F_left, Int32.le_iff_toInt_le, Int32.lt_iff_toInt_lt, ← Int32.toInt_inj]; simp; omega) | (have : 0 ≤ (n).toInt := Int32.le_iff_toInt_le.mp (c355.1); have : (n).toInt ≤ 16 := Int32.le_iff_toInt_le.mp (c355.2); have : 0 < (n).toInt := Int32.lt_iff_toInt_lt.mp (Int32.not_le.mp c357); have : 1 < (n).toInt := Int32.lt_iff_toInt_lt.mp (Int32.not_le.mp c359); have : 2 < (n).toInt := Int32.lt_iff_toInt_lt.mp (Int32.not_le.mp c361); have : 3 < (n).toInt := Int32.lt_iff_toInt_lt.mp (Int32.not_le.mp c363); have : 4 < (n).toInt := Int32.lt_iff_toInt_lt.mp (Int32.not_le.mp c365); have : 5 < (n).toInt := Int32.lt_iff_toInt_lt.mp (Int32.not_le.mp c367); have : 6 < (n).toInt := Int32.lt_iff_toInt_lt.mp (Int32.not_le.mp c369); have : 7 < (n).toInt := Int32.lt_iff_toInt_lt.mp (Int32.not_le.mp c371); have : 8 < (n).toInt := Int32.lt_iff_toInt_lt.mp (Int32.not_le.mp c373); have : (n).toInt ≤ 9 := Int32.le_iff_toInt_le.mp (c375); have : 0 ≤ (what).toInt := Int32.le_iff_toInt_le.mp (c356.1); have : (what).toInt ≤ 1 := Int32.le_iff_toInt_le.mp (c356.2); have : (what).toInt = 0 := congrArg Int32.toInt (c376); simp only [F_left, Int32.le_iff_toInt_le, Int32.lt_iff_toInt_lt, ← Int32.toInt_inj]; split <;> first | rfl | (exfalso; simp at *; omega)) | (have : 0 ≤ (n).toInt := Int32.le_iff_toInt_le.mp (c355.1); have : (n).toInt ≤ 16 := Int32.le_iff_toInt_le.mp (c355.2); have : 0 < (n).toInt := Int32.lt_iff_toInt_lt.mp (Int32.not_le.mp c357); have : 1 < (n).toInt := Int32.lt_iff_toInt_lt.mp (Int32.not_le.mp c359); have : 2 < (n).toInt := Int32.lt_iff_toInt_lt.mp (Int32.not_le.mp c361); have : 3 < (n).toInt := Int32.lt_iff_toInt_lt.mp (Int32.not_le.mp c363); have : 4 < (n).toInt := Int32.lt_iff_toInt_lt.mp (Int32.not_le.mp c365); have : 5 < (n).toInt := Int32.lt_iff_toInt_lt.mp (Int32.not_le.mp c367); have : 6 < (n).toInt := Int32.lt_iff_toInt_lt.mp (Int32.not_le.mp c369); have : 7 < (n).toInt := Int32.lt_iff_toInt_lt.mp (Int32.not_le.mp c371); have : 8 < (n).toInt := Int32.lt_iff_toInt_lt.mp (Int32.not_le.mp c373); have : (n).toInt ≤ 9 := Int32.le_iff_toInt_le.mp (c375); have : 0 ≤ (what).toInt := Int32.le_iff_toInt_le.mp (c356.1); have : (what).toInt ≤ 1 := Int32.le_iff_toInt_le.mp (c356.2); have : (what).toInt = 0 := congrArg Int32.toInt (c376); unfold F_left; (repeat' split) <;> first | rfl | (exfalso; (try simp only [Int32.le_iff_toInt_le, Int32.lt_iff_toInt_lt, ← Int32.toInt_inj] at *); first | omega | (simp at *; done) | (simp at *; omega))))
                        · refine G_aload_n (pc := 36) rfl dX12_left_36 ?_
                          refine G_callV (pc := 37) (mc1 := 0) (ms1 := 0) (ci := 12) (mj := mX12_isOver) (vs := []) dX12_left_37 rfl rfl cm_X12_isOver wh_22 wh_24 wh_25 rfl (Nat.le_of_ble_eq_true rfl) (Nat.le_of_ble_eq_true rfl) (Nat.le_of_ble_eq_true rfl) (Nat.le_of_ble_eq_true rfl) (s10271_X12_isOver J (d + 1)  ) ?_
                          rintro _ _ ⟨rfl, rfl⟩
                          dsimp only [Option.toList, List.cons_append, List.nil_append]
                          refine G_if_ne (pc := 40) (tgt := 57) (by decide) dX12_left_40 (fun z => absurd (by decide) z) (fun _ => ?_)
                          refine G_iload_n (pc := 43) rfl dX12_left_43 ?_
                          refine G_aload_n (pc := 44) rfl dX12_left_44 ?_
                          refine G_iconst (pc := 45) (v := (-1)) (by decide) dX12_left_45 ?_
                          refine G_callV (pc := 46) (mc1 := 0) (ms1 := 0) (ci := 12) (mj := mX12_goesBy) (vs := [_]) dX12_left_46 rfl rfl cm_X12_goesBy wh_72 wh_74 wh_75 rfl (Nat.le_of_ble_eq_true rfl) (Nat.le_of_ble_eq_true rfl) (Nat.le_of_ble_eq_true rfl) (Nat.le_of_ble_eq_true rfl) (s10272_X12_goesBy J d  ) ?_
                          rintro _ _ ⟨rfl, rfl⟩
                          dsimp only [Option.toList, List.cons_append, List.nil_append]
                          refine G_iadd (pc := 49) (z := 0) (by decide) dX12_left_49 ?_
                          refine G_istore_n (pc := 50) (L1 := [some (.ref 67), some (.int n), some (.int what), some (.int 0), some (.int 9)]) rfl rfl (by decide) dX12_left_50 ?_
                          refine G_iinc (pc := 51) (v := 1) (w := 10) (L1 := [some (.ref 67), some (.int n), some (.int what), some (.int 0), some (.int 10)]) (by decide) rfl rfl (by decide) rfl (by decide) dX12_left_51 ?_
                          refine G_goto (pc := 54) (tgt := 30) (by decide) dX12_left_54 ?_
                          refine G_iload (pc := 30) rfl dX12_left_30 ?_
                          refine G_iload_n (pc := 32) rfl dX12_left_32 ?_
                          refine G_icmp_ge (pc := 33) (tgt := 57) (by decide) dX12_left_33 (fun c377 => ?_) (fun c377 => ?_)
                          · refine G_iload_n (pc := 57) rfl dX12_left_57 ?_
                            refine G_if_ge (pc := 58) (tgt := 65) (by decide) dX12_left_58 (fun _ => ?_) (fun z => absurd (by decide) z)
                            refine G_iload_n (pc := 65) rfl dX12_left_65 ?_
                            refine G_if_ne (pc := 66) (tgt := 76) (by decide) dX12_left_66 (fun c378 => ?_) (fun c378 => ?_)
                            · refine G_aload_n (pc := 76) rfl dX12_left_76 ?_
                              refine G_iconst (pc := 77) (v := 4) (by decide) dX12_left_77 ?_
                              refine G_callV (pc := 78) (mc1 := 0) (ms1 := 0) (ci := 12) (mj := mX12_those) (vs := [_]) dX12_left_78 rfl rfl cm_X12_those wh_26 wh_28 wh_29 rfl (Nat.le_of_ble_eq_true rfl) (Nat.le_of_ble_eq_true rfl) (Nat.le_of_ble_eq_true rfl) (Nat.le_of_ble_eq_true rfl) (s10318_X12_those J (d + 1)  ) ?_
                              rintro _ _ ⟨rfl, rfl⟩
                              dsimp only [Option.toList, List.cons_append, List.nil_append]
                              refine G_istore (pc := 81) (L1 := [some (.ref 67), some (.int n), some (.int what), some (.int 0), some (.int 0)]) rfl rfl (by decide) dX12_left_81 ?_
                              refine G_aload_n (pc := 83) rfl dX12_left_83 ?_
                              refine G_callV (pc := 84) (mc1 := 0) (ms1 := 0) (ci := 12) (mj := mX12_layBack) (vs := []) dX12_left_84 rfl rfl cm_X12_layBack wh_57 wh_59 wh_60 rfl (Nat.le_of_ble_eq_true rfl) (Nat.le_of_ble_eq_true rfl) (Nat.le_of_ble_eq_true rfl) (Nat.le_of_ble_eq_true rfl) (layBack_s (d + 1) (gup (gup (gup (gup (gup (gup (gup (gup (gup (gup (gup (gup (gup (gup (gup (gup (gup (gup (gup (gup (gcp (gmx J) 68 70 0 0 65) 68 0 1) 68 2 0) 68 0 2) 68 2 0) 68 0 3) 68 2 0) 68 0 4) 68 2 0) 68 0 5) 68 2 0) 68 0 6) 68 2 0) 68 0 7) 68 2 0) 68 0 8) 68 2 0) 68 0 9) 68 2 0) 68 0 10) 68 2 0)) ?_
                              rintro _ _ ⟨rfl, rfl⟩
                              dsimp only [Option.toList, List.cons_append, List.nil_append]
                              refine G_iload (pc := 87) rfl dX12_left_87 ?_
                              exact G_iret (pc := 89) (Nat.le_of_ble_eq_true rfl) (Nat.le_of_ble_eq_true rfl) rfl dX12_left_89 (by first | rfl | (simp [F_left, *]; done) | (have : 0 ≤ (n).toInt := Int32.le_iff_toInt_le.mp (c355.1); have : (n).toInt ≤ 16 := Int32.le_iff_toInt_le.mp (c355.2); have : 0 < (n).toInt := Int32.lt_iff_toInt_lt.mp (Int32.not_le.mp c357); have : 1 < (n).toInt := Int32.lt_iff_toInt_lt.mp (Int32.not_le.mp c359); have : 2 < (n).toInt := Int32.lt_iff_toInt_lt.mp (Int32.not_le.mp c361); have : 3 < (n).toInt := Int32.lt_iff_toInt_lt.mp (Int32.not_le.mp c363); have : 4 < (n).toInt := Int32.lt_iff_toInt_lt.mp (Int32.not_le.mp c365); have : 5 < (n).toInt := Int32.lt_iff_toInt_lt.mp (Int32.not_le.mp c367); have : 6 < (n).toInt := Int32.lt_iff_toInt_lt.mp (Int32.not_le.mp c369); have : 7 < (n).toInt := Int32.lt_iff_toInt_lt.mp (Int32.not_le.mp c371); have : 8 < (n).toInt := Int32.lt_iff_toInt_lt.mp (Int32.not_le.mp c373); have : 9 < (n).toInt := Int32.lt_iff_toInt_lt.mp (Int32.not_le.mp c375); have : (n).toInt ≤ 10 := Int32.le_iff_toInt_le.mp (c377); have : 0 ≤ (what).toInt := Int32.le_iff_toInt_le.mp (c356.1); have : (what).toInt ≤ 1 := Int32.le_iff_toInt_le.mp (c356.2); have : (what).toInt ≠ 0 := g_ne (c378); simp only [F_left, Int32.le_iff_toInt_le, Int32.lt_iff_toInt_lt, ← Int32.toInt_inj]; simp; omega) | (have : 0 ≤ (n).toInt := Int32.le_iff_toInt_le.mp (c355.1); have : (n).toInt ≤ 16 := Int32.le_iff_toInt_le.mp (c355.2); have : 0 < (n).toInt := Int32.lt_iff_toInt_lt.mp (Int32.not_le.mp c357); have : 1 < (n).toInt := Int32.lt_iff_toInt_lt.mp (Int32.not_le.mp c359); have : 2 < (n).toInt := Int32.lt_iff_toInt_lt.mp (Int32.not_le.mp c361); have : 3 < (n).toInt := Int32.lt_iff_toInt_lt.mp (Int32.not_le.mp c363); have : 4 < (n).toInt := Int32.lt_iff_toInt_lt.mp (Int32.not_le.mp c365); have : 5 < (n).toInt := Int32.lt_iff_toInt_lt.mp (Int32.not_le.mp c367); have : 6 < (n).toInt := Int32.lt_iff_toInt_lt.mp (Int32.not_le.mp c369); have : 7 < (n).toInt := Int32.lt_iff_toInt_lt.mp (Int32.not_le.mp c371); have : 8 < (n).toInt := Int32.lt_iff_toInt_lt.mp (Int32.not_le.mp c373); have : 9 < (n).toInt := Int32.lt_iff_toInt_lt.mp (Int32.not_le.mp c375); have : (n).toInt ≤ 10 := Int32.le_iff_toInt_le.mp (c377); have : 0 ≤ (what).toInt := Int32.le_iff_toInt_le.mp (c356.1); have : (what).toInt ≤ 1 := Int32.le_iff_toInt_le.mp (c356.2); have : (what).toInt ≠ 0 := g_ne (c378); simp only [F_left, Int32.le_iff_toInt_le, Int32.lt_iff_toInt_lt, ← Int32.toInt_inj]; split <;> first | rfl | (exfalso; simp at *; omega)) | (have : 0 ≤ (n).toInt := Int32.le_iff_toInt_le.mp (c355.1); have : (n).toInt ≤ 16 := Int32.le_iff_toInt_le.mp (c355.2); have : 0 < (n).toInt := Int32.lt_iff_toInt_lt.mp (Int32.not_le.mp c357); have : 1 < (n).toInt := Int32.lt_iff_toInt_lt.mp (Int32.not_le.mp c359); have : 2 < (n).toInt := Int32.lt_iff_toInt_lt.mp (Int32.not_le.mp c361); have : 3 < (n).toInt := Int32.lt_iff_toInt_lt.mp (Int32.not_le.mp c363); have : 4 < (n).toInt := Int32.lt_iff_toInt_lt.mp (Int32.not_le.mp c365); have : 5 < (n).toInt := Int32.lt_iff_toInt_lt.mp (Int32.not_le.mp c367); have : 6 < (n).toInt := Int32.lt_iff_toInt_lt.mp (Int32.not_le.mp c369); have : 7 < (n).toInt := Int32.lt_iff_toInt_lt.mp (Int32.not_le.mp c371); have : 8 < (n).toInt := Int32.lt_iff_toInt_lt.mp (Int32.not_le.mp c373); have : 9 < (n).toInt := Int32.lt_iff_toInt_lt.mp (Int32.not_le.mp c375); have : (n).toInt ≤ 10 := Int32.le_iff_toInt_le.mp (c377); have : 0 ≤ (what).toInt := Int32.le_iff_toInt_le.mp (c356.1); have : (what).toInt ≤ 1 := Int32.le_iff_toInt_le.mp (c356.2); have : (what).toInt ≠ 0 := g_ne (c378); unfold F_left; (repeat' split) <;> first | rfl | (exfalso; (try simp only [Int32.le_iff_toInt_le, Int32.lt_iff_toInt_lt, ← Int32.toInt_inj] at *); first | omega | (simp at *; done) | (simp at *; omega))))
                            · refine G_aload_n (pc := 69) rfl dX12_left_69 ?_
                              refine G_callV (pc := 70) (mc1 := 0) (ms1 := 0) (ci := 12) (mj := mX12_teethAll) (vs := []) dX12_left_70 rfl rfl cm_X12_teethAll wh_34 wh_36 wh_37 rfl (Nat.le_of_ble_eq_true rfl) (Nat.le_of_ble_eq_true rfl) (Nat.le_of_ble_eq_true rfl) (Nat.le_of_ble_eq_true rfl) (s10319_X12_teethAll J (d + 1)  ) ?_
                              rintro _ _ ⟨rfl, rfl⟩
                              dsimp only [Option.toList, List.cons_append, List.nil_append]
                              refine G_goto (pc := 73) (tgt := 81) (by decide) dX12_left_73 ?_
                              refine G_istore (pc := 81) (L1 := [some (.ref 67), some (.int n), some (.int what), some (.int 0), some (.int 0)]) rfl rfl (by decide) dX12_left_81 ?_
                              refine G_aload_n (pc := 83) rfl dX12_left_83 ?_
                              refine G_callV (pc := 84) (mc1 := 0) (ms1 := 0) (ci := 12) (mj := mX12_layBack) (vs := []) dX12_left_84 rfl rfl cm_X12_layBack wh_57 wh_59 wh_60 rfl (Nat.le_of_ble_eq_true rfl) (Nat.le_of_ble_eq_true rfl) (Nat.le_of_ble_eq_true rfl) (Nat.le_of_ble_eq_true rfl) (layBack_s (d + 1) (gup (gup (gup (gup (gup (gup (gup (gup (gup (gup (gup (gup (gup (gup (gup (gup (gup (gup (gup (gup (gcp (gmx J) 68 70 0 0 65) 68 0 1) 68 2 0) 68 0 2) 68 2 0) 68 0 3) 68 2 0) 68 0 4) 68 2 0) 68 0 5) 68 2 0) 68 0 6) 68 2 0) 68 0 7) 68 2 0) 68 0 8) 68 2 0) 68 0 9) 68 2 0) 68 0 10) 68 2 0)) ?_
                              rintro _ _ ⟨rfl, rfl⟩
                              dsimp only [Option.toList, List.cons_append, List.nil_append]
                              refine G_iload (pc := 87) rfl dX12_left_87 ?_
                              exact G_iret (pc := 89) (Nat.le_of_ble_eq_true rfl) (Nat.le_of_ble_eq_true rfl) rfl dX12_left_89 (by first | rfl | (simp [F_left, *]; done) | (have : 0 ≤ (n).toInt := Int32.le_iff_toInt_le.mp (c355.1); have : (n).toInt ≤ 16 := Int32.le_iff_toInt_le.mp (c355.2); have : 0 < (n).toInt := Int32.lt_iff_toInt_lt.mp (Int32.not_le.mp c357); have : 1 < (n).toInt := Int32.lt_iff_toInt_lt.mp (Int32.not_le.mp c359); have : 2 < (n).toInt := Int32.lt_iff_toInt_lt.mp (Int32.not_le.mp c361); have : 3 < (n).toInt := Int32.lt_iff_toInt_lt.mp (Int32.not_le.mp c363); have : 4 < (n).toInt := Int32.lt_iff_toInt_lt.mp (Int32.not_le.mp c365); have : 5 < (n).toInt := Int32.lt_iff_toInt_lt.mp (Int32.not_le.mp c367); have : 6 < (n).toInt := Int32.lt_iff_toInt_lt.mp (Int32.not_le.mp c369); have : 7 < (n).toInt := Int32.lt_iff_toInt_lt.mp (Int32.not_le.mp c371); have : 8 < (n).toInt := Int32.lt_iff_toInt_lt.mp (Int32.not_le.mp c373); have : 9 < (n).toInt := Int32.lt_iff_toInt_lt.mp (Int32.not_le.mp c375); have : (n).toInt ≤ 10 := Int32.le_iff_toInt_le.mp (c377); have : 0 ≤ (what).toInt := Int32.le_iff_toInt_le.mp (c356.1); have : (what).toInt ≤ 1 := Int32.le_iff_toInt_le.mp (c356.2); have : (what).toInt = 0 := congrArg Int32.toInt (c378); simp only [F_left, Int32.le_iff_toInt_le, Int32.lt_iff_toInt_lt, ← Int32.toInt_inj]; simp; omega) | (have : 0 ≤ (n).toInt := Int32.le_iff_toInt_le.mp (c355.1); have : (n).toInt ≤ 16 := Int32.le_iff_toInt_le.mp (c355.2); have : 0 < (n).toInt := Int32.lt_iff_toInt_lt.mp (Int32.not_le.mp c357); have : 1 < (n).toInt := Int32.lt_iff_toInt_lt.mp (Int32.not_le.mp c359); have : 2 < (n).toInt := Int32.lt_iff_toInt_lt.mp (Int32.not_le.mp c361); have : 3 < (n).toInt := Int32.lt_iff_toInt_lt.mp (Int32.not_le.mp c363); have : 4 < (n).toInt := Int32.lt_iff_toInt_lt.mp (Int32.not_le.mp c365); have : 5 < (n).toInt := Int32.lt_iff_toInt_lt.mp (Int32.not_le.mp c367); have : 6 < (n).toInt := Int32.lt_iff_toInt_lt.mp (Int32.not_le.mp c369); have : 7 < (n).toInt := Int32.lt_iff_toInt_lt.mp (Int32.not_le.mp c371); have : 8 < (n).toInt := Int32.lt_iff_toInt_lt.mp (Int32.not_le.mp c373); have : 9 < (n).toInt := Int32.lt_iff_toInt_lt.mp (Int32.not_le.mp c375); have : (n).toInt ≤ 10 := Int32.le_iff_toInt_le.mp (c377); have : 0 ≤ (what).toInt := Int32.le_iff_toInt_le.mp (c356.1); have : (what).toInt ≤ 1 := Int32.le_iff_toInt_le.mp (c356.2); have : (what).toInt = 0 := congrArg Int32.toInt (c378); simp only [F_left, Int32.le_iff_toInt_le, Int32.lt_iff_toInt_lt, ← Int32.toInt_inj]; split <;> first | rfl | (exfalso; simp at *; omega)) | (have : 0 ≤ (n).toInt := Int32.le_iff_toInt_le.mp (c355.1); have : (n).toInt ≤ 16 := Int32.le_iff_toInt_le.mp (c355.2); have : 0 < (n).toInt := Int32.lt_iff_toInt_lt.mp (Int32.not_le.mp c357); have : 1 < (n).toInt := Int32.lt_iff_toInt_lt.mp (Int32.not_le.mp c359); have : 2 < (n).toInt := Int32.lt_iff_toInt_lt.mp (Int32.not_le.mp c361); have : 3 < (n).toInt := Int32.lt_iff_toInt_lt.mp (Int32.not_le.mp c363); have : 4 < (n).toInt := Int32.lt_iff_toInt_lt.mp (Int32.not_le.mp c365); have : 5 < (n).toInt := Int32.lt_iff_toInt_lt.mp (Int32.not_le.mp c367); have : 6 < (n).toInt := Int32.lt_iff_toInt_lt.mp (Int32.not_le.mp c369); have : 7 < (n).toInt := Int32.lt_iff_toInt_lt.mp (Int32.not_le.mp c371); have : 8 < (n).toInt := Int32.lt_iff_toInt_lt.mp (Int32.not_le.mp c373); have : 9 < (n).toInt := Int32.lt_iff_toInt_lt.mp (Int32.not_le.mp c375); have : (n).toInt ≤ 10 := Int32.le_iff_toInt_le.mp (c377); have : 0 ≤ (what).toInt := Int32.le_iff_toInt_le.mp (c356.1); have : (what).toInt ≤ 1 := Int32.le_iff_toInt_le.mp (c356.2); have : (what).toInt = 0 := congrArg Int32.toInt (c378); unfold F_left; (repeat' split) <;> first | rfl | (exfalso; (try simp only [Int32.le_iff_toInt_le, Int32.lt_iff_toInt_lt, ← Int32.toInt_inj] at *); first | omega | (simp at *; done) | (simp at *; omega))))
                          · refine G_aload_n (pc := 36) rfl dX12_left_36 ?_
                            refine G_callV (pc := 37) (mc1 := 0) (ms1 := 0) (ci := 12) (mj := mX12_isOver) (vs := []) dX12_left_37 rfl rfl cm_X12_isOver wh_22 wh_24 wh_25 rfl (Nat.le_of_ble_eq_true rfl) (Nat.le_of_ble_eq_true rfl) (Nat.le_of_ble_eq_true rfl) (Nat.le_of_ble_eq_true rfl) (s10274_X12_isOver J (d + 1)  ) ?_
                            rintro _ _ ⟨rfl, rfl⟩
                            dsimp only [Option.toList, List.cons_append, List.nil_append]
                            refine G_if_ne (pc := 40) (tgt := 57) (by decide) dX12_left_40 (fun z => absurd (by decide) z) (fun _ => ?_)
                            refine G_iload_n (pc := 43) rfl dX12_left_43 ?_
                            refine G_aload_n (pc := 44) rfl dX12_left_44 ?_
                            refine G_iconst (pc := 45) (v := (-1)) (by decide) dX12_left_45 ?_
                            refine G_callV (pc := 46) (mc1 := 0) (ms1 := 0) (ci := 12) (mj := mX12_goesBy) (vs := [_]) dX12_left_46 rfl rfl cm_X12_goesBy wh_72 wh_74 wh_75 rfl (Nat.le_of_ble_eq_true rfl) (Nat.le_of_ble_eq_true rfl) (Nat.le_of_ble_eq_true rfl) (Nat.le_of_ble_eq_true rfl) (s10275_X12_goesBy J d  ) ?_
                            rintro _ _ ⟨rfl, rfl⟩
                            dsimp only [Option.toList, List.cons_append, List.nil_append]
                            refine G_iadd (pc := 49) (z := 0) (by decide) dX12_left_49 ?_
                            refine G_istore_n (pc := 50) (L1 := [some (.ref 67), some (.int n), some (.int what), some (.int 0), some (.int 10)]) rfl rfl (by decide) dX12_left_50 ?_
                            refine G_iinc (pc := 51) (v := 1) (w := 11) (L1 := [some (.ref 67), some (.int n), some (.int what), some (.int 0), some (.int 11)]) (by decide) rfl rfl (by decide) rfl (by decide) dX12_left_51 ?_
                            refine G_goto (pc := 54) (tgt := 30) (by decide) dX12_left_54 ?_
                            refine G_iload (pc := 30) rfl dX12_left_30 ?_
                            refine G_iload_n (pc := 32) rfl dX12_left_32 ?_
                            refine G_icmp_ge (pc := 33) (tgt := 57) (by decide) dX12_left_33 (fun c379 => ?_) (fun c379 => ?_)
                            · refine G_iload_n (pc := 57) rfl dX12_left_57 ?_
                              refine G_if_ge (pc := 58) (tgt := 65) (by decide) dX12_left_58 (fun _ => ?_) (fun z => absurd (by decide) z)
                              refine G_iload_n (pc := 65) rfl dX12_left_65 ?_
                              refine G_if_ne (pc := 66) (tgt := 76) (by decide) dX12_left_66 (fun c380 => ?_) (fun c380 => ?_)
                              · refine G_aload_n (pc := 76) rfl dX12_left_76 ?_
                                refine G_iconst (pc := 77) (v := 4) (by decide) dX12_left_77 ?_
                                refine G_callV (pc := 78) (mc1 := 0) (ms1 := 0) (ci := 12) (mj := mX12_those) (vs := [_]) dX12_left_78 rfl rfl cm_X12_those wh_26 wh_28 wh_29 rfl (Nat.le_of_ble_eq_true rfl) (Nat.le_of_ble_eq_true rfl) (Nat.le_of_ble_eq_true rfl) (Nat.le_of_ble_eq_true rfl) (s10320_X12_those J (d + 1)  ) ?_
                                rintro _ _ ⟨rfl, rfl⟩
                                dsimp only [Option.toList, List.cons_append, List.nil_append]
                                refine G_istore (pc := 81) (L1 := [some (.ref 67), some (.int n), some (.int what), some (.int 0), some (.int 0)]) rfl rfl (by decide) dX12_left_81 ?_
                                refine G_aload_n (pc := 83) rfl dX12_left_83 ?_
                                refine G_callV (pc := 84) (mc1 := 0) (ms1 := 0) (ci := 12) (mj := mX12_layBack) (vs := []) dX12_left_84 rfl rfl cm_X12_layBack wh_57 wh_59 wh_60 rfl (Nat.le_of_ble_eq_true rfl) (Nat.le_of_ble_eq_true rfl) (Nat.le_of_ble_eq_true rfl) (Nat.le_of_ble_eq_true rfl) (layBack_s (d + 1) (gup (gup (gup (gup (gup (gup (gup (gup (gup (gup (gup (gup (gup (gup (gup (gup (gup (gup (gup (gup (gup (gup (gcp (gmx J) 68 70 0 0 65) 68 0 1) 68 2 0) 68 0 2) 68 2 0) 68 0 3) 68 2 0) 68 0 4) 68 2 0) 68 0 5) 68 2 0) 68 0 6) 68 2 0) 68 0 7) 68 2 0) 68 0 8) 68 2 0) 68 0 9) 68 2 0) 68 0 10) 68 2 0) 68 0 11) 68 2 0)) ?_
                                rintro _ _ ⟨rfl, rfl⟩
                                dsimp only [Option.toList, List.cons_append, List.nil_append]
                                refine G_iload (pc := 87) rfl dX12_left_87 ?_
                                exact G_iret (pc := 89) (Nat.le_of_ble_eq_true rfl) (Nat.le_of_ble_eq_true rfl) rfl dX12_left_89 (by first | rfl | (simp [F_left, *]; done) | (have : 0 ≤ (n).toInt := Int32.le_iff_toInt_le.mp (c355.1); have : (n).toInt ≤ 16 := Int32.le_iff_toInt_le.mp (c355.2); have : 0 < (n).toInt := Int32.lt_iff_toInt_lt.mp (Int32.not_le.mp c357); have : 1 < (n).toInt := Int32.lt_iff_toInt_lt.mp (Int32.not_le.mp c359); have : 2 < (n).toInt := Int32.lt_iff_toInt_lt.mp (Int32.not_le.mp c361); have : 3 < (n).toInt := Int32.lt_iff_toInt_lt.mp (Int32.not_le.mp c363); have : 4 < (n).toInt := Int32.lt_iff_toInt_lt.mp (Int32.not_le.mp c365); have : 5 < (n).toInt := Int32.lt_iff_toInt_lt.mp (Int32.not_le.mp c367); have : 6 < (n).toInt := Int32.lt_iff_toInt_lt.mp (Int32.not_le.mp c369); have : 7 < (n).toInt := Int32.lt_iff_toInt_lt.mp (Int32.not_le.mp c371); have : 8 < (n).toInt := Int32.lt_iff_toInt_lt.mp (Int32.not_le.mp c373); have : 9 < (n).toInt := Int32.lt_iff_toInt_lt.mp (Int32.not_le.mp c375); have : 10 < (n).toInt := Int32.lt_iff_toInt_lt.mp (Int32.not_le.mp c377); have : (n).toInt ≤ 11 := Int32.le_iff_toInt_le.mp (c379); have : 0 ≤ (what).toInt := Int32.le_iff_toInt_le.mp (c356.1); have : (what).toInt ≤ 1 := Int32.le_iff_toInt_le.mp (c356.2); have : (what).toInt ≠ 0 := g_ne (c380); simp only [F_left, Int32.le_iff_toInt_le, Int32.lt_iff_toInt_lt, ← Int32.toInt_inj]; simp; omega) | (have : 0 ≤ (n).toInt := Int32.le_iff_toInt_le.mp (c355.1); have : (n).toInt ≤ 16 := Int32.le_iff_toInt_le.mp (c355.2); have : 0 < (n).toInt := Int32.lt_iff_toInt_lt.mp (Int32.not_le.mp c357); have : 1 < (n).toInt := Int32.lt_iff_toInt_lt.mp (Int32.not_le.mp c359); have : 2 < (n).toInt := Int32.lt_iff_toInt_lt.mp (Int32.not_le.mp c361); have : 3 < (n).toInt := Int32.lt_iff_toInt_lt.mp (Int32.not_le.mp c363); have : 4 < (n).toInt := Int32.lt_iff_toInt_lt.mp (Int32.not_le.mp c365); have : 5 < (n).toInt := Int32.lt_iff_toInt_lt.mp (Int32.not_le.mp c367); have : 6 < (n).toInt := Int32.lt_iff_toInt_lt.mp (Int32.not_le.mp c369); have : 7 < (n).toInt := Int32.lt_iff_toInt_lt.mp (Int32.not_le.mp c371); have : 8 < (n).toInt := Int32.lt_iff_toInt_lt.mp (Int32.not_le.mp c373); have : 9 < (n).toInt := Int32.lt_iff_toInt_lt.mp (Int32.not_le.mp c375); have : 10 < (n).toInt := Int32.lt_iff_toInt_lt.mp (Int32.not_le.mp c377); have : (n).toInt ≤ 11 := Int32.le_iff_toInt_le.mp (c379); have : 0 ≤ (what).toInt := Int32.le_iff_toInt_le.mp (c356.1); have : (what).toInt ≤ 1 := Int32.le_iff_toInt_le.mp (c356.2); have : (what).toInt ≠ 0 := g_ne (c380); simp only [F_left, Int32.le_iff_toInt_le, Int32.lt_iff_toInt_lt, ← Int32.toInt_inj]; split <;> first | rfl | (exfalso; simp at *; omega)) | (have : 0 ≤ (n).toInt := Int32.le_iff_toInt_le.mp (c355.1); have : (n).toInt ≤ 16 := Int32.le_iff_toInt_le.mp (c355.2); have : 0 < (n).toInt := Int32.lt_iff_toInt_lt.mp (Int32.not_le.mp c357); have : 1 < (n).toInt := Int32.lt_iff_toInt_lt.mp (Int32.not_le.mp c359); have : 2 < (n).toInt := Int32.lt_iff_toInt_lt.mp (Int32.not_le.mp c361); have : 3 < (n).toInt := Int32.lt_iff_toInt_lt.mp (Int32.not_le.mp c363); have : 4 < (n).toInt := Int32.lt_iff_toInt_lt.mp (Int32.not_le.mp c365); have : 5 < (n).toInt := Int32.lt_iff_toInt_lt.mp (Int32.not_le.mp c367); have : 6 < (n).toInt := Int32.lt_iff_toInt_lt.mp (Int32.not_le.mp c369); have : 7 < (n).toInt := Int32.lt_iff_toInt_lt.mp (Int32.not_le.mp c371); have : 8 < (n).toInt := Int32.lt_iff_toInt_lt.mp (Int32.not_le.mp c373); have : 9 < (n).toInt := Int32.lt_iff_toInt_lt.mp (Int32.not_le.mp c375); have : 10 < (n).toInt := Int32.lt_iff_toInt_lt.mp (Int32.not_le.mp c377); have : (n).toInt ≤ 11 := Int32.le_iff_toInt_le.mp (c379); have : 0 ≤ (what).toInt := Int32.le_iff_toInt_le.mp (c356.1); have : (what).toInt ≤ 1 := Int32.le_iff_toInt_le.mp (c356.2); have : (what).toInt ≠ 0 := g_ne (c380); unfold F_left; (repeat' split) <;> first | rfl | (exfalso; (try simp only [Int32.le_iff_toInt_le, Int32.lt_iff_toInt_lt, ← Int32.toInt_inj] at *); first | omega | (simp at *; done) | (simp at *; omega))))
                              · refine G_aload_n (pc := 69) rfl dX12_left_69 ?_
                                refine G_callV (pc := 70) (mc1 := 0) (ms1 := 0) (ci := 12) (mj := mX12_teethAll) (vs := []) dX12_left_70 rfl rfl cm_X12_teethAll wh_34 wh_36 wh_37 rfl (Nat.le_of_ble_eq_true rfl) (Nat.le_of_ble_eq_true rfl) (Nat.le_of_ble_eq_true rfl) (Nat.le_of_ble_eq_true rfl) (s10321_X12_teethAll J (d + 1)  ) ?_
                                rintro _ _ ⟨rfl, rfl⟩
                                dsimp only [Option.toList, List.cons_append, List.nil_append]
                                refine G_goto (pc := 73) (tgt := 81) (by decide) dX12_left_73 ?_
                                refine G_istore (pc := 81) (L1 := [some (.ref 67), some (.int n), some (.int what), some (.int 0), some (.int 0)]) rfl rfl (by decide) dX12_left_81 ?_
                                refine G_aload_n (pc := 83) rfl dX12_left_83 ?_
                                refine G_callV (pc := 84) (mc1 := 0) (ms1 := 0) (ci := 12) (mj := mX12_layBack) (vs := []) dX12_left_84 rfl rfl cm_X12_layBack wh_57 wh_59 wh_60 rfl (Nat.le_of_ble_eq_true rfl) (Nat.le_of_ble_eq_true rfl) (Nat.le_of_ble_eq_true rfl) (Nat.le_of_ble_eq_true rfl) (layBack_s (d + 1) (gup (gup (gup (gup (gup (gup (gup (gup (gup (gup (gup (gup (gup (gup (gup (gup (gup (gup (gup (gup (gup (gup (gcp (gmx J) 68 70 0 0 65) 68 0 1) 68 2 0) 68 0 2) 68 2 0) 68 0 3) 68 2 0) 68 0 4) 68 2 0) 68 0 5) 68 2 0) 68 0 6) 68 2 0) 68 0 7) 68 2 0) 68 0 8) 68 2 0) 68 0 9) 68 2 0) 68 0 10) 68 2 0) 68 0 11) 68 2 0)) ?_
                                rintro _ _ ⟨rfl, rfl⟩
                                dsimp only [Option.toList, List.cons_append, List.nil_append]
                                refine G_iload (pc := 87) rfl dX12_left_87 ?_
                                exact G_iret (pc := 89) (Nat.le_of_ble_eq_true rfl) (Nat.le_of_ble_eq_true rfl) rfl dX12_left_89 (by first | rfl | (simp [F_left, *]; done) | (have : 0 ≤ (n).toInt := Int32.le_iff_toInt_le.mp (c355.1); have : (n).toInt ≤ 16 := Int32.le_iff_toInt_le.mp (c355.2); have : 0 < (n).toInt := Int32.lt_iff_toInt_lt.mp (Int32.not_le.mp c357); have : 1 < (n).toInt := Int32.lt_iff_toInt_lt.mp (Int32.not_le.mp c359); have : 2 < (n).toInt := Int32.lt_iff_toInt_lt.mp (Int32.not_le.mp c361); have : 3 < (n).toInt := Int32.lt_iff_toInt_lt.mp (Int32.not_le.mp c363); have : 4 < (n).toInt := Int32.lt_iff_toInt_lt.mp (Int32.not_le.mp c365); have : 5 < (n).toInt := Int32.lt_iff_toInt_lt.mp (Int32.not_le.mp c367); have : 6 < (n).toInt := Int32.lt_iff_toInt_lt.mp (Int32.not_le.mp c369); have : 7 < (n).toInt := Int32.lt_iff_toInt_lt.mp (Int32.not_le.mp c371); have : 8 < (n).toInt := Int32.lt_iff_toInt_lt.mp (Int32.not_le.mp c373); have : 9 < (n).toInt := Int32.lt_iff_toInt_lt.mp (Int32.not_le.mp c375); have : 10 < (n).toInt := Int32.lt_iff_toInt_lt.mp (Int32.not_le.mp c377); have : (n).toInt ≤ 11 := Int32.le_iff_toInt_le.mp (c379); have : 0 ≤ (what).toInt := Int32.le_iff_toInt_le.mp (c356.1); have : (what).toInt ≤ 1 := Int32.le_iff_toInt_le.mp (c356.2); have : (what).toInt = 0 := congrArg Int32.toInt (c380); simp only [F_left, Int32.le_iff_toInt_le, Int32.lt_iff_toInt_lt, ← Int32.toInt_inj]; simp; omega) | (have : 0 ≤ (n).toInt := Int32.le_iff_toInt_le.mp (c355.1); have : (n).toInt ≤ 16 := Int32.le_iff_toInt_le.mp (c355.2); have : 0 < (n).toInt := Int32.lt_iff_toInt_lt.mp (Int32.not_le.mp c357); have : 1 < (n).toInt := Int32.lt_iff_toInt_lt.mp (Int32.not_le.mp c359); have : 2 < (n).toInt := Int32.lt_iff_toInt_lt.mp (Int32.not_le.mp c361); have : 3 < (n).toInt := Int32.lt_iff_toInt_lt.mp (Int32.not_le.mp c363); have : 4 < (n).toInt := Int32.lt_iff_toInt_lt.mp (Int32.not_le.mp c365); have : 5 < (n).toInt := Int32.lt_iff_toInt_lt.mp (Int32.not_le.mp c367); have : 6 < (n).toInt := Int32.lt_iff_toInt_lt.mp (Int32.not_le.mp c369); have : 7 < (n).toInt := Int32.lt_iff_toInt_lt.mp (Int32.not_le.mp c371); have : 8 < (n).toInt := Int32.lt_iff_toInt_lt.mp (Int32.not_le.mp c373); have : 9 < (n).toInt := Int32.lt_iff_toInt_lt.mp (Int32.not_le.mp c375); have : 10 < (n).toInt := Int32.lt_iff_toInt_lt.mp (Int32.not_le.mp c377); have : (n).toInt ≤ 11 := Int32.le_iff_toInt_le.mp (c379); have : 0 ≤ (what).toInt := Int32.le_iff_toInt_le.mp (c356.1); have : (what).toInt ≤ 1 := Int32.le_iff_toInt_le.mp (c356.2); have : (what).toInt = 0 := congrArg Int32.toInt (c380); simp only [F_left, Int32.le_iff_toInt_le, Int32.lt_iff_toInt_lt, ← Int32.toInt_inj]; split <;> first | rfl | (exfalso; simp at *; omega)) | (have : 0 ≤ (n).toInt := Int32.le_iff_toInt_le.mp (c355.1); have : (n).toInt ≤ 16 := Int32.le_iff_toInt_le.mp (c355.2); have : 0 < (n).toInt := Int32.lt_iff_toInt_lt.mp (Int32.not_le.mp c357); have : 1 < (n).toInt := Int32.lt_iff_toInt_lt.mp (Int32.not_le.mp c359); have : 2 < (n).toInt := Int32.lt_iff_toInt_lt.mp (Int32.not_le.mp c361); have : 3 < (n).toInt := Int32.lt_iff_toInt_lt.mp (Int32.not_le.mp c363); have : 4 < (n).toInt := Int32.lt_iff_toInt_lt.mp (Int32.not_le.mp c365); have : 5 < (n).toInt := Int32.lt_iff_toInt_lt.mp (Int32.not_le.mp c367); have : 6 < (n).toInt := Int32.lt_iff_toInt_lt.mp (Int32.not_le.mp c369); have : 7 < (n).toInt := Int32.lt_iff_toInt_lt.mp (Int32.not_le.mp c371); have : 8 < (n).toInt := Int32.lt_iff_toInt_lt.mp (Int32.not_le.mp c373); have : 9 < (n).toInt := Int32.lt_iff_toInt_lt.mp (Int32.not_le.mp c375); have : 10 < (n).toInt := Int32.lt_iff_toInt_lt.mp (Int32.not_le.mp c377); have : (n).toInt ≤ 11 := Int32.le_iff_toInt_le.mp (c379); have : 0 ≤ (what).toInt := Int32.le_iff_toInt_le.mp (c356.1); have : (what).toInt ≤ 1 := Int32.le_iff_toInt_le.mp (c356.2); have : (what).toInt = 0 := congrArg Int32.toInt (c380); unfold F_left; (repeat' split) <;> first | rfl | (exfalso; (try simp only [Int32.le_iff_toInt_le, Int32.lt_iff_toInt_lt, ← Int32.toInt_inj] at *); first | omega | (simp at *; done) | (simp at *; omega))))
                            · refine G_aload_n (pc := 36) rfl dX12_left_36 ?_
                              refine G_callV (pc := 37) (mc1 := 0) (ms1 := 0) (ci := 12) (mj := mX12_isOver) (vs := []) dX12_left_37 rfl rfl cm_X12_isOver wh_22 wh_24 wh_25 rfl (Nat.le_of_ble_eq_true rfl) (Nat.le_of_ble_eq_true rfl) (Nat.le_of_ble_eq_true rfl) (Nat.le_of_ble_eq_true rfl) (s10277_X12_isOver J (d + 1)  ) ?_
                              rintro _ _ ⟨rfl, rfl⟩
                              dsimp only [Option.toList, List.cons_append, List.nil_append]
                              refine G_if_ne (pc := 40) (tgt := 57) (by decide) dX12_left_40 (fun z => absurd (by decide) z) (fun _ => ?_)
                              refine G_iload_n (pc := 43) rfl dX12_left_43 ?_
                              refine G_aload_n (pc := 44) rfl dX12_left_44 ?_
                              refine G_iconst (pc := 45) (v := (-1)) (by decide) dX12_left_45 ?_
                              refine G_callV (pc := 46) (mc1 := 0) (ms1 := 0) (ci := 12) (mj := mX12_goesBy) (vs := [_]) dX12_left_46 rfl rfl cm_X12_goesBy wh_72 wh_74 wh_75 rfl (Nat.le_of_ble_eq_true rfl) (Nat.le_of_ble_eq_true rfl) (Nat.le_of_ble_eq_true rfl) (Nat.le_of_ble_eq_true rfl) (s10278_X12_goesBy J d  ) ?_
                              rintro _ _ ⟨rfl, rfl⟩
                              dsimp only [Option.toList, List.cons_append, List.nil_append]
                              refine G_iadd (pc := 49) (z := 0) (by decide) dX12_left_49 ?_
                              refine G_istore_n (pc := 50) (L1 := [some (.ref 67), some (.int n), some (.int what), some (.int 0), some (.int 11)]) rfl rfl (by decide) dX12_left_50 ?_
                              refine G_iinc (pc := 51) (v := 1) (w := 12) (L1 := [some (.ref 67), some (.int n), some (.int what), some (.int 0), some (.int 12)]) (by decide) rfl rfl (by decide) rfl (by decide) dX12_left_51 ?_
                              refine G_goto (pc := 54) (tgt := 30) (by decide) dX12_left_54 ?_
                              refine G_iload (pc := 30) rfl dX12_left_30 ?_
                              refine G_iload_n (pc := 32) rfl dX12_left_32 ?_
                              refine G_icmp_ge (pc := 33) (tgt := 57) (by decide) dX12_left_33 (fun c381 => ?_) (fun c381 => ?_)
                              · refine G_iload_n (pc := 57) rfl dX12_left_57 ?_
                                refine G_if_ge (pc := 58) (tgt := 65) (by decide) dX12_left_58 (fun _ => ?_) (fun z => absurd (by decide) z)
                                refine G_iload_n (pc := 65) rfl dX12_left_65 ?_
                                refine G_if_ne (pc := 66) (tgt := 76) (by decide) dX12_left_66 (fun c382 => ?_) (fun c382 => ?_)
                                · refine G_aload_n (pc := 76) rfl dX12_left_76 ?_
                                  refine G_iconst (pc := 77) (v := 4) (by decide) dX12_left_77 ?_
                                  refine G_callV (pc := 78) (mc1 := 0) (ms1 := 0) (ci := 12) (mj := mX12_those) (vs := [_]) dX12_left_78 rfl rfl cm_X12_those wh_26 wh_28 wh_29 rfl (Nat.le_of_ble_eq_true rfl) (Nat.le_of_ble_eq_true rfl) (Nat.le_of_ble_eq_true rfl) (Nat.le_of_ble_eq_true rfl) (s10322_X12_those J (d + 1)  ) ?_
                                  rintro _ _ ⟨rfl, rfl⟩
                                  dsimp only [Option.toList, List.cons_append, List.nil_append]
                                  refine G_istore (pc := 81) (L1 := [some (.ref 67), some (.int n), some (.int what), some (.int 0), some (.int 0)]) rfl rfl (by decide) dX12_left_81 ?_
                                  refine G_aload_n (pc := 83) rfl dX12_left_83 ?_
                                  refine G_callV (pc := 84) (mc1 := 0) (ms1 := 0) (ci := 12) (mj := mX12_layBack) (vs := []) dX12_left_84 rfl rfl cm_X12_layBack wh_57 wh_59 wh_60 rfl (Nat.le_of_ble_eq_true rfl) (Nat.le_of_ble_eq_true rfl) (Nat.le_of_ble_eq_true rfl) (Nat.le_of_ble_eq_true rfl) (layBack_s (d + 1) (gup (gup (gup (gup (gup (gup (gup (gup (gup (gup (gup (gup (gup (gup (gup (gup (gup (gup (gup (gup (gup (gup (gup (gup (gcp (gmx J) 68 70 0 0 65) 68 0 1) 68 2 0) 68 0 2) 68 2 0) 68 0 3) 68 2 0) 68 0 4) 68 2 0) 68 0 5) 68 2 0) 68 0 6) 68 2 0) 68 0 7) 68 2 0) 68 0 8) 68 2 0) 68 0 9) 68 2 0) 68 0 10) 68 2 0) 68 0 11) 68 2 0) 68 0 12) 68 2 0)) ?_
                                  rintro _ _ ⟨rfl, rfl⟩
                                  dsimp only [Option.toList, List.cons_append, List.nil_append]
                                  refine G_iload (pc := 87) rfl dX12_left_87 ?_
                                  exact G_iret (pc := 89) (Nat.le_of_ble_eq_true rfl) (Nat.le_of_ble_eq_true rfl) rfl dX12_left_89 (by first | rfl | (simp [F_left, *]; done) | (have : 0 ≤ (n).toInt := Int32.le_iff_toInt_le.mp (c355.1); have : (n).toInt ≤ 16 := Int32.le_iff_toInt_le.mp (c355.2); have : 0 < (n).toInt := Int32.lt_iff_toInt_lt.mp (Int32.not_le.mp c357); have : 1 < (n).toInt := Int32.lt_iff_toInt_lt.mp (Int32.not_le.mp c359); have : 2 < (n).toInt := Int32.lt_iff_toInt_lt.mp (Int32.not_le.mp c361); have : 3 < (n).toInt := Int32.lt_iff_toInt_lt.mp (Int32.not_le.mp c363); have : 4 < (n).toInt := Int32.lt_iff_toInt_lt.mp (Int32.not_le.mp c365); have : 5 < (n).toInt := Int32.lt_iff_toInt_lt.mp (Int32.not_le.mp c367); have : 6 < (n).toInt := Int32.lt_iff_toInt_lt.mp (Int32.not_le.mp c369); have : 7 < (n).toInt := Int32.lt_iff_toInt_lt.mp (Int32.not_le.mp c371); have : 8 < (n).toInt := Int32.lt_iff_toInt_lt.mp (Int32.not_le.mp c373); have : 9 < (n).toInt := Int32.lt_iff_toInt_lt.mp (Int32.not_le.mp c375); have : 10 < (n).toInt := Int32.lt_iff_toInt_lt.mp (Int32.not_le.mp c377); have : 11 < (n).toInt := Int32.lt_iff_toInt_lt.mp (Int32.not_le.mp c379); have : (n).toInt ≤ 12 := Int32.le_iff_toInt_le.mp (c381); have : 0 ≤ (what).toInt := Int32.le_iff_toInt_le.mp (c356.1); have : (what).toInt ≤ 1 := Int32.le_iff_toInt_le.mp (c356.2); have : (what).toInt ≠ 0 := g_ne (c382); simp only [F_left, Int32.le_iff_toInt_le, Int32.lt_iff_toInt_lt, ← Int32.toInt_inj]; simp; omega) | (have : 0 ≤ (n).toInt := Int32.le_iff_toInt_le.mp (c355.1); have : (n).toInt ≤ 16 := Int32.le_iff_toInt_le.mp (c355.2); have : 0 < (n).toInt := Int32.lt_iff_toInt_lt.mp (Int32.not_le.mp c357); have : 1 < (n).toInt := Int32.lt_iff_toInt_lt.mp (Int32.not_le.mp c359); have : 2 < (n).toInt := Int32.lt_iff_toInt_lt.mp (Int32.not_le.mp c361); have : 3 < (n).toInt := Int32.lt_iff_toInt_lt.mp (Int32.not_le.mp c363); have : 4 < (n).toInt := Int32.lt_iff_toInt_lt.mp (Int32.not_le.mp c365); have : 5 < (n).toInt := Int32.lt_iff_toInt_lt.mp (Int32.not_le.mp c367); have : 6 < (n).toInt := Int32.lt_iff_toInt_lt.mp (Int32.not_le.mp c369); have : 7 < (n).toInt := Int32.lt_iff_toInt_lt.mp (Int32.not_le.mp c371); have : 8 < (n).toInt := Int32.lt_iff_toInt_lt.mp (Int32.not_le.mp c373); have : 9 < (n).toInt := Int32.lt_iff_toInt_lt.mp (Int32.not_le.mp c375); have : 10 < (n).toInt := Int32.lt_iff_toInt_lt.mp (Int32.not_le.mp c377); have : 11 < (n).toInt := Int32.lt_iff_toInt_lt.mp (Int32.not_le.mp c379); have : (n).toInt ≤ 12 := Int32.le_iff_toInt_le.mp (c381); have : 0 ≤ (what).toInt := Int32.le_iff_toInt_le.mp (c356.1); have : (what).toInt ≤ 1 := Int32.le_iff_toInt_le.mp (c356.2); have : (what).toInt ≠ 0 := g_ne (c382); simp only [F_left, Int32.le_iff_toInt_le, Int32.lt_iff_toInt_lt, ← Int32.toInt_inj]; split <;> first | rfl | (exfalso; simp at *; omega)) | (have : 0 ≤ (n).toInt := Int32.le_iff_toInt_le.mp (c355.1); have : (n).toInt ≤ 16 := Int32.le_iff_toInt_le.mp (c355.2); have : 0 < (n).toInt := Int32.lt_iff_toInt_lt.mp (Int32.not_le.mp c357); have : 1 < (n).toInt := Int32.lt_iff_toInt_lt.mp (Int32.not_le.mp c359); have : 2 < (n).toInt := Int32.lt_iff_toInt_lt.mp (Int32.not_le.mp c361); have : 3 < (n).toInt := Int32.lt_iff_toInt_lt.mp (Int32.not_le.mp c363); have : 4 < (n).toInt := Int32.lt_iff_toInt_lt.mp (Int32.not_le.mp c365); have : 5 < (n).toInt := Int32.lt_iff_toInt_lt.mp (Int32.not_le.mp c367); have : 6 < (n).toInt := Int32.lt_iff_toInt_lt.mp (Int32.not_le.mp c369); have : 7 < (n).toInt := Int32.lt_iff_toInt_lt.mp (Int32.not_le.mp c371); have : 8 < (n).toInt := Int32.lt_iff_toInt_lt.mp (Int32.not_le.mp c373); have : 9 < (n).toInt := Int32.lt_iff_toInt_lt.mp (Int32.not_le.mp c375); have : 10 < (n).toInt := Int32.lt_iff_toInt_lt.mp (Int32.not_le.mp c377); have : 11 < (n).toInt := Int32.lt_iff_toInt_lt.mp (Int32.not_le.mp c379); have : (n).toInt ≤ 12 := Int32.le_iff_toInt_le.mp (c381); have : 0 ≤ (what).toInt := Int32.le_iff_toInt_le.mp (c356.1); have : (what).toInt ≤ 1 := Int32.le_iff_toInt_le.mp (c356.2); have : (what).toInt ≠ 0 := g_ne (c382); unfold F_left; (repeat' split) <;> first | rfl | (exfalso; (try simp only [Int32.le_iff_toInt_le, Int32.lt_iff_toInt_lt, ← Int32.toInt_inj] at *); first | omega | (simp at *; done) | (simp at *; omega))))
                                · refine G_aload_n (pc := 69) rfl dX12_left_69 ?_
                                  refine G_callV (pc := 70) (mc1 := 0) (ms1 := 0) (ci := 12) (mj := mX12_teethAll) (vs := []) dX12_left_70 rfl rfl cm_X12_teethAll wh_34 wh_36 wh_37 rfl (Nat.le_of_ble_eq_true rfl) (Nat.le_of_ble_eq_true rfl) (Nat.le_of_ble_eq_true rfl) (Nat.le_of_ble_eq_true rfl) (s10323_X12_teethAll J (d + 1)  ) ?_
                                  rintro _ _ ⟨rfl, rfl⟩
                                  dsimp only [Option.toList, List.cons_append, List.nil_append]
                                  refine G_goto (pc := 73) (tgt := 81) (by decide) dX12_left_73 ?_
                                  refine G_istore (pc := 81) (L1 := [some (.ref 67), some (.int n), some (.int what), some (.int 0), some (.int 0)]) rfl rfl (by decide) dX12_left_81 ?_
                                  refine G_aload_n (pc := 83) rfl dX12_left_83 ?_
                                  refine G_callV (pc := 84) (mc1 := 0) (ms1 := 0) (ci := 12) (mj := mX12_layBack) (vs := []) dX12_left_84 rfl rfl cm_X12_layBack wh_57 wh_59 wh_60 rfl (Nat.le_of_ble_eq_true rfl) (Nat.le_of_ble_eq_true rfl) (Nat.le_of_ble_eq_true rfl) (Nat.le_of_ble_eq_true rfl) (layBack_s (d + 1) (gup (gup (gup (gup (gup (gup (gup (gup (gup (gup (gup (gup (gup (gup (gup (gup (gup (gup (gup (gup (gup (gup (gup (gup (gcp (gmx J) 68 70 0 0 65) 68 0 1) 68 2 0) 68 0 2) 68 2 0) 68 0 3) 68 2 0) 68 0 4) 68 2 0) 68 0 5) 68 2 0) 68 0 6) 68 2 0) 68 0 7) 68 2 0) 68 0 8) 68 2 0) 68 0 9) 68 2 0) 68 0 10) 68 2 0) 68 0 11) 68 2 0) 68 0 12) 68 2 0)) ?_
                                  rintro _ _ ⟨rfl, rfl⟩
                                  dsimp only [Option.toList, List.cons_append, List.nil_append]
                                  refine G_iload (pc := 87) rfl dX12_left_87 ?_
                                  exact G_iret (pc := 89) (Nat.le_of_ble_eq_true rfl) (Nat.le_of_ble_eq_true rfl) rfl dX12_left_89 (by first | rfl | (simp [F_left, *]; done) | (have : 0 ≤ (n).toInt := Int32.le_iff_toInt_le.mp (c355.1); have : (n).toInt ≤ 16 := Int32.le_iff_toInt_le.mp (c355.2); have : 0 < (n).toInt := Int32.lt_iff_toInt_lt.mp (Int32.not_le.mp c357); have : 1 < (n).toInt := Int32.lt_iff_toInt_lt.mp (Int32.not_le.mp c359); have : 2 < (n).toInt := Int32.lt_iff_toInt_lt.mp (Int32.not_le.mp c361); have : 3 < (n).toInt := Int32.lt_iff_toInt_lt.mp (Int32.not_le.mp c363); have : 4 < (n).toInt := Int32.lt_iff_toInt_lt.mp (Int32.not_le.mp c365); have : 5 < (n).toInt := Int32.lt_iff_toInt_lt.mp (Int32.not_le.mp c367); have : 6 < (n).toInt := Int32.lt_iff_toInt_lt.mp (Int32.not_le.mp c369); have : 7 < (n).toInt := Int32.lt_iff_toInt_lt.mp (Int32.not_le.mp c371); have : 8 < (n).toInt := Int32.lt_iff_toInt_lt.mp (Int32.not_le.mp c373); have : 9 < (n).toInt := Int32.lt_iff_toInt_lt.mp (Int32.not_le.mp c375); have : 10 < (n).toInt := Int32.lt_iff_toInt_lt.mp (Int32.not_le.mp c377); have : 11 < (n).toInt := Int32.lt_iff_toInt_lt.mp (Int32.not_le.mp c379); have : (n).toInt ≤ 12 := Int32.le_iff_toInt_le.mp (c381); have : 0 ≤ (what).toInt := Int32.le_iff_toInt_le.mp (c356.1); have : (what).toInt ≤ 1 := Int32.le_iff_toInt_le.mp (c356.2); have : (what).toInt = 0 := congrArg Int32.toInt (c382); simp only [F_left, Int32.le_iff_toInt_le, Int32.lt_iff_toInt_lt, ← Int32.toInt_inj]; simp; omega) | (have : 0 ≤ (n).toInt := Int32.le_iff_toInt_le.mp (c355.1); have : (n).toInt ≤ 16 := Int32.le_iff_toInt_le.mp (c355.2); have : 0 < (n).toInt := Int32.lt_iff_toInt_lt.mp (Int32.not_le.mp c357); have : 1 < (n).toInt := Int32.lt_iff_toInt_lt.mp (Int32.not_le.mp c359); have : 2 < (n).toInt := Int32.lt_iff_toInt_lt.mp (Int32.not_le.mp c361); have : 3 < (n).toInt := Int32.lt_iff_toInt_lt.mp (Int32.not_le.mp c363); have : 4 < (n).toInt := Int32.lt_iff_toInt_lt.mp (Int32.not_le.mp c365); have : 5 < (n).toInt := Int32.lt_iff_toInt_lt.mp (Int32.not_le.mp c367); have : 6 < (n).toInt := Int32.lt_iff_toInt_lt.mp (Int32.not_le.mp c369); have : 7 < (n).toInt := Int32.lt_iff_toInt_lt.mp (Int32.not_le.mp c371); have : 8 < (n).toInt := Int32.lt_iff_toInt_lt.mp (Int32.not_le.mp c373); have : 9 < (n).toInt := Int32.lt_iff_toInt_lt.mp (Int32.not_le.mp c375); have : 10 < (n).toInt := Int32.lt_iff_toInt_lt.mp (Int32.not_le.mp c377); have : 11 < (n).toInt := Int32.lt_iff_toInt_lt.mp (Int32.not_le.mp c379); have : (n).toInt ≤ 12 := Int32.le_iff_toInt_le.mp (c381); have : 0 ≤ (what).toInt := Int32.le_iff_toInt_le.mp (c356.1); have : (what).toInt ≤ 1 := Int32.le_iff_toInt_le.mp (c356.2); have : (what).toInt = 0 := congrArg Int32.toInt (c382); simp only [F_left, Int32.le_iff_toInt_le, Int32.lt_iff_toInt_lt, ← Int32.toInt_inj]; split <;> first | rfl | (exfalso; simp at *; omega)) | (have : 0 ≤ (n).toInt := Int32.le_iff_toInt_le.mp (c355.1); have : (n).toInt ≤ 16 := Int32.le_iff_toInt_le.mp (c355.2); have : 0 < (n).toInt := Int32.lt_iff_toInt_lt.mp (Int32.not_le.mp c357); have : 1 < (n).toInt := Int32.lt_iff_toInt_lt.mp (Int32.not_le.mp c359); have : 2 < (n).toInt := Int32.lt_iff_toInt_lt.mp (Int32.not_le.mp c361); have : 3 < (n).toInt := Int32.lt_iff_toInt_lt.mp (Int32.not_le.mp c363); have : 4 < (n).toInt := Int32.lt_iff_toInt_lt.mp (Int32.not_le.mp c365); have : 5 < (n).toInt := Int32.lt_iff_toInt_lt.mp (Int32.not_le.mp c367); have : 6 < (n).toInt := Int32.lt_iff_toInt_lt.mp (Int32.not_le.mp c369); have : 7 < (n).toInt := Int32.lt_iff_toInt_lt.mp (Int32.not_le.mp c371); have : 8 < (n).toInt := Int32.lt_iff_toInt_lt.mp (Int32.not_le.mp c373); have : 9 < (n).toInt := Int32.lt_iff_toInt_lt.mp (Int32.not_le.mp c375); have : 10 < (n).toInt := Int32.lt_iff_toInt_lt.mp (Int32.not_le.mp c377); have : 11 < (n).toInt := Int32.lt_iff_toInt_lt.mp (Int32.not_le.mp c379); have : (n).toInt ≤ 12 := Int32.le_iff_toInt_le.mp (c381); have : 0 ≤ (what).toInt := Int32.le_iff_toInt_le.mp (c356.1); have : (what).toInt ≤ 1 := Int32.le_iff_toInt_le.mp (c356.2); have : (what).toInt = 0 := congrArg Int32.toInt (c382); unfold F_left; (repeat' split) <;> first | rfl | (exfalso; (try simp only [Int32.le_iff_toInt_le, Int32.lt_iff_toInt_lt, ← Int32.toInt_inj] at *); first | omega | (simp at *; done) | (simp at *; omega))))
                              · refine G_aload_n (pc := 36) rfl dX12_left_36 ?_
                                refine G_callV (pc := 37) (mc1 := 0) (ms1 := 0) (ci := 12) (mj := mX12_isOver) (vs := []) dX12_left_37 rfl rfl cm_X12_isOver wh_22 wh_24 wh_25 rfl (Nat.le_of_ble_eq_true rfl) (Nat.le_of_ble_eq_true rfl) (Nat.le_of_ble_eq_true rfl) (Nat.le_of_ble_eq_true rfl) (s10280_X12_isOver J (d + 1)  ) ?_
                                rintro _ _ ⟨rfl, rfl⟩
                                dsimp only [Option.toList, List.cons_append, List.nil_append]
                                refine G_if_ne (pc := 40) (tgt := 57) (by decide) dX12_left_40 (fun _ => ?_) (fun z => absurd z (by decide))
                                refine G_iload_n (pc := 57) rfl dX12_left_57 ?_
                                refine G_if_ge (pc := 58) (tgt := 65) (by decide) dX12_left_58 (fun _ => ?_) (fun z => absurd (by decide) z)
                                refine G_iload_n (pc := 65) rfl dX12_left_65 ?_
                                refine G_if_ne (pc := 66) (tgt := 76) (by decide) dX12_left_66 (fun c383 => ?_) (fun c383 => ?_)
                                · refine G_aload_n (pc := 76) rfl dX12_left_76 ?_
                                  refine G_iconst (pc := 77) (v := 4) (by decide) dX12_left_77 ?_
                                  refine G_callV (pc := 78) (mc1 := 0) (ms1 := 0) (ci := 12) (mj := mX12_those) (vs := [_]) dX12_left_78 rfl rfl cm_X12_those wh_26 wh_28 wh_29 rfl (Nat.le_of_ble_eq_true rfl) (Nat.le_of_ble_eq_true rfl) (Nat.le_of_ble_eq_true rfl) (Nat.le_of_ble_eq_true rfl) (s10322_X12_those J (d + 1)  ) ?_
                                  rintro _ _ ⟨rfl, rfl⟩
                                  dsimp only [Option.toList, List.cons_append, List.nil_append]
                                  refine G_istore (pc := 81) (L1 := [some (.ref 67), some (.int n), some (.int what), some (.int 0), some (.int 0)]) rfl rfl (by decide) dX12_left_81 ?_
                                  refine G_aload_n (pc := 83) rfl dX12_left_83 ?_
                                  refine G_callV (pc := 84) (mc1 := 0) (ms1 := 0) (ci := 12) (mj := mX12_layBack) (vs := []) dX12_left_84 rfl rfl cm_X12_layBack wh_57 wh_59 wh_60 rfl (Nat.le_of_ble_eq_true rfl) (Nat.le_of_ble_eq_true rfl) (Nat.le_of_ble_eq_true rfl) (Nat.le_of_ble_eq_true rfl) (layBack_s (d + 1) (gup (gup (gup (gup (gup (gup (gup (gup (gup (gup (gup (gup (gup (gup (gup (gup (gup (gup (gup (gup (gup (gup (gup (gup (gcp (gmx J) 68 70 0 0 65) 68 0 1) 68 2 0) 68 0 2) 68 2 0) 68 0 3) 68 2 0) 68 0 4) 68 2 0) 68 0 5) 68 2 0) 68 0 6) 68 2 0) 68 0 7) 68 2 0) 68 0 8) 68 2 0) 68 0 9) 68 2 0) 68 0 10) 68 2 0) 68 0 11) 68 2 0) 68 0 12) 68 2 0)) ?_
                                  rintro _ _ ⟨rfl, rfl⟩
                                  dsimp only [Option.toList, List.cons_append, List.nil_append]
                                  refine G_iload (pc := 87) rfl dX12_left_87 ?_
                                  exact G_iret (pc := 89) (Nat.le_of_ble_eq_true rfl) (Nat.le_of_ble_eq_true rfl) rfl dX12_left_89 (by first | rfl | (simp [F_left, *]; done) | (have : 0 ≤ (n).toInt := Int32.le_iff_toInt_le.mp (c355.1); have : (n).toInt ≤ 16 := Int32.le_iff_toInt_le.mp (c355.2); have : 0 < (n).toInt := Int32.lt_iff_toInt_lt.mp (Int32.not_le.mp c357); have : 1 < (n).toInt := Int32.lt_iff_toInt_lt.mp (Int32.not_le.mp c359); have : 2 < (n).toInt := Int32.lt_iff_toInt_lt.mp (Int32.not_le.mp c361); have : 3 < (n).toInt := Int32.lt_iff_toInt_lt.mp (Int32.not_le.mp c363); have : 4 < (n).toInt := Int32.lt_iff_toInt_lt.mp (Int32.not_le.mp c365); have : 5 < (n).toInt := Int32.lt_iff_toInt_lt.mp (Int32.not_le.mp c367); have : 6 < (n).toInt := Int32.lt_iff_toInt_lt.mp (Int32.not_le.mp c369); have : 7 < (n).toInt := Int32.lt_iff_toInt_lt.mp (Int32.not_le.mp c371); have : 8 < (n).toInt := Int32.lt_iff_toInt_lt.mp (Int32.not_le.mp c373); have : 9 < (n).toInt := Int32.lt_iff_toInt_lt.mp (Int32.not_le.mp c375); have : 10 < (n).toInt := Int32.lt_iff_toInt_lt.mp (Int32.not_le.mp c377); have : 11 < (n).toInt := Int32.lt_iff_toInt_lt.mp (Int32.not_le.mp c379); have : 12 < (n).toInt := Int32.lt_iff_toInt_lt.mp (Int32.not_le.mp c381); have : 0 ≤ (what).toInt := Int32.le_iff_toInt_le.mp (c356.1); have : (what).toInt ≤ 1 := Int32.le_iff_toInt_le.mp (c356.2); have : (what).toInt ≠ 0 := g_ne (c383); simp only [F_left, Int32.le_iff_toInt_le, Int32.lt_iff_toInt_lt, ← Int32.toInt_inj]; simp; omega) | (have : 0 ≤ (n).toInt := Int32.le_iff_toInt_le.mp (c355.1); have : (n).toInt ≤ 16 := Int32.le_iff_toInt_le.mp (c355.2); have : 0 < (n).toInt := Int32.lt_iff_toInt_lt.mp (Int32.not_le.mp c357); have : 1 < (n).toInt := Int32.lt_iff_toInt_lt.mp (Int32.not_le.mp c359); have : 2 < (n).toInt := Int32.lt_iff_toInt_lt.mp (Int32.not_le.mp c361); have : 3 < (n).toInt := Int32.lt_iff_toInt_lt.mp (Int32.not_le.mp c363); have : 4 < (n).toInt := Int32.lt_iff_toInt_lt.mp (Int32.not_le.mp c365); have : 5 < (n).toInt := Int32.lt_iff_toInt_lt.mp (Int32.not_le.mp c367); have : 6 < (n).toInt := Int32.lt_iff_toInt_lt.mp (Int32.not_le.mp c369); have : 7 < (n).toInt := Int32.lt_iff_toInt_lt.mp (Int32.not_le.mp c371); have : 8 < (n).toInt := Int32.lt_iff_toInt_lt.mp (Int32.not_le.mp c373); have : 9 < (n).toInt := Int32.lt_iff_toInt_lt.mp (Int32.not_le.mp c375); have : 10 < (n).toInt := Int32.lt_iff_toInt_lt.mp (Int32.not_le.mp c377); have : 11 < (n).toInt := Int32.lt_iff_toInt_lt.mp (Int32.not_le.mp c379); have : 12 < (n).toInt := Int32.lt_iff_toInt_lt.mp (Int32.not_le.mp c381); have : 0 ≤ (what).toInt := Int32.le_iff_toInt_le.mp (c356.1); have : (what).toInt ≤ 1 := Int32.le_iff_toInt_le.mp (c356.2); have : (what).toInt ≠ 0 := g_ne (c383); simp only [F_left, Int32.le_iff_toInt_le, Int32.lt_iff_toInt_lt, ← Int32.toInt_inj]; split <;> first | rfl | (exfalso; simp at *; omega)) | (have : 0 ≤ (n).toInt := Int32.le_iff_toInt_le.mp (c355.1); have : (n).toInt ≤ 16 := Int32.le_iff_toInt_le.mp (c355.2); have : 0 < (n).toInt := Int32.lt_iff_toInt_lt.mp (Int32.not_le.mp c357); have : 1 < (n).toInt := Int32.lt_iff_toInt_lt.mp (Int32.not_le.mp c359); have : 2 < (n).toInt := Int32.lt_iff_toInt_lt.mp (Int32.not_le.mp c361); have : 3 < (n).toInt := Int32.lt_iff_toInt_lt.mp (Int32.not_le.mp c363); have : 4 < (n).toInt := Int32.lt_iff_toInt_lt.mp (Int32.not_le.mp c365); have : 5 < (n).toInt := Int32.lt_iff_toInt_lt.mp (Int32.not_le.mp c367); have : 6 < (n).toInt := Int32.lt_iff_toInt_lt.mp (Int32.not_le.mp c369); have : 7 < (n).toInt := Int32.lt_iff_toInt_lt.mp (Int32.not_le.mp c371); have : 8 < (n).toInt := Int32.lt_iff_toInt_lt.mp (Int32.not_le.mp c373); have : 9 < (n).toInt := Int32.lt_iff_toInt_lt.mp (Int32.not_le.mp c375); have : 10 < (n).toInt := Int32.lt_iff_toInt_lt.mp (Int32.not_le.mp c377); have : 11 < (n).toInt := Int32.lt_iff_toInt_lt.mp (Int32.not_le.mp c379); have : 12 < (n).toInt := Int32.lt_iff_toInt_lt.mp (Int32.not_le.mp c381); have : 0 ≤ (what).toInt := Int32.le_iff_toInt_le.mp (c356.1); have : (what).toInt ≤ 1 := Int32.le_iff_toInt_le.mp (c356.2); have : (what).toInt ≠ 0 := g_ne (c383); unfold F_left; (repeat' split) <;> first | rfl | (exfalso; (try simp only [Int32.le_iff_toInt_le, Int32.lt_iff_toInt_lt, ← Int32.toInt_inj] at *); first | omega | (simp at *; done) | (simp at *; omega))))
                                · refine G_aload_n (pc := 69) rfl dX12_left_69 ?_
                                  refine G_callV (pc := 70) (mc1 := 0) (ms1 := 0) (ci := 12) (mj := mX12_teethAll) (vs := []) dX12_left_70 rfl rfl cm_X12_teethAll wh_34 wh_36 wh_37 rfl (Nat.le_of_ble_eq_true rfl) (Nat.le_of_ble_eq_true rfl) (Nat.le_of_ble_eq_true rfl) (Nat.le_of_ble_eq_true rfl) (s10323_X12_teethAll J (d + 1)  ) ?_
                                  rintro _ _ ⟨rfl, rfl⟩
                                  dsimp only [Option.toList, List.cons_append, List.nil_append]
                                  refine G_goto (pc := 73) (tgt := 81) (by decide) dX12_left_73 ?_
                                  refine G_istore (pc := 81) (L1 := [some (.ref 67), some (.int n), some (.int what), some (.int 0), some (.int 0)]) rfl rfl (by decide) dX12_left_81 ?_
                                  refine G_aload_n (pc := 83) rfl dX12_left_83 ?_
                                  refine G_callV (pc := 84) (mc1 := 0) (ms1 := 0) (ci := 12) (mj := mX12_layBack) (vs := []) dX12_left_84 rfl rfl cm_X12_layBack wh_57 wh_59 wh_60 rfl (Nat.le_of_ble_eq_true rfl) (Nat.le_of_ble_eq_true rfl) (Nat.le_of_ble_eq_true rfl) (Nat.le_of_ble_eq_true rfl) (layBack_s (d + 1) (gup (gup (gup (gup (gup (gup (gup (gup (gup (gup (gup (gup (gup (gup (gup (gup (gup (gup (gup (gup (gup (gup (gup (gup (gcp (gmx J) 68 70 0 0 65) 68 0 1) 68 2 0) 68 0 2) 68 2 0) 68 0 3) 68 2 0) 68 0 4) 68 2 0) 68 0 5) 68 2 0) 68 0 6) 68 2 0) 68 0 7) 68 2 0) 68 0 8) 68 2 0) 68 0 9) 68 2 0) 68 0 10) 68 2 0) 68 0 11) 68 2 0) 68 0 12) 68 2 0)) ?_
                                  rintro _ _ ⟨rfl, rfl⟩
                                  dsimp only [Option.toList, List.cons_append, List.nil_append]
                                  refine G_iload (pc := 87) rfl dX12_left_87 ?_
                                  exact G_iret (pc := 89) (Nat.le_of_ble_eq_true rfl) (Nat.le_of_ble_eq_true rfl) rfl dX12_left_89 (by first | rfl | (simp [F_left, *]; done) | (have : 0 ≤ (n).toInt := Int32.le_iff_toInt_le.mp (c355.1); have : (n).toInt ≤ 16 := Int32.le_iff_toInt_le.mp (c355.2); have : 0 < (n).toInt := Int32.lt_iff_toInt_lt.mp (Int32.not_le.mp c357); have : 1 < (n).toInt := Int32.lt_iff_toInt_lt.mp (Int32.not_le.mp c359); have : 2 < (n).toInt := Int32.lt_iff_toInt_lt.mp (Int32.not_le.mp c361); have : 3 < (n).toInt := Int32.lt_iff_toInt_lt.mp (Int32.not_le.mp c363); have : 4 < (n).toInt := Int32.lt_iff_toInt_lt.mp (Int32.not_le.mp c365); have : 5 < (n).toInt := Int32.lt_iff_toInt_lt.mp (Int32.not_le.mp c367); have : 6 < (n).toInt := Int32.lt_iff_toInt_lt.mp (Int32.not_le.mp c369); have : 7 < (n).toInt := Int32.lt_iff_toInt_lt.mp (Int32.not_le.mp c371); have : 8 < (n).toInt := Int32.lt_iff_toInt_lt.mp (Int32.not_le.mp c373); have : 9 < (n).toInt := Int32.lt_iff_toInt_lt.mp (Int32.not_le.mp c375); have : 10 < (n).toInt := Int32.lt_iff_toInt_lt.mp (Int32.not_le.mp c377); have : 11 < (n).toInt := Int32.lt_iff_toInt_lt.mp (Int32.not_le.mp c379); have : 12 < (n).toInt := Int32.lt_iff_toInt_lt.mp (Int32.not_le.mp c381); have : 0 ≤ (what).toInt := Int32.le_iff_toInt_le.mp (c356.1); have : (what).toInt ≤ 1 := Int32.le_iff_toInt_le.mp (c356.2); have : (what).toInt = 0 := congrArg Int32.toInt (c383); simp only [F_left, Int32.le_iff_toInt_le, Int32.lt_iff_toInt_lt, ← Int32.toInt_inj]; simp; omega) | (have : 0 ≤ (n).toInt := Int32.le_iff_toInt_le.mp (c355.1); have : (n).toInt ≤ 16 := Int32.le_iff_toInt_le.mp (c355.2); have : 0 < (n).toInt := Int32.lt_iff_toInt_lt.mp (Int32.not_le.mp c357); have : 1 < (n).toInt := Int32.lt_iff_toInt_lt.mp (Int32.not_le.mp c359); have : 2 < (n).toInt := Int32.lt_iff_toInt_lt.mp (Int32.not_le.mp c361); have : 3 < (n).toInt := Int32.lt_iff_toInt_lt.mp (Int32.not_le.mp c363); have : 4 < (n).toInt := Int32.lt_iff_toInt_lt.mp (Int32.not_le.mp c365); have : 5 < (n).toInt := Int32.lt_iff_toInt_lt.mp (Int32.not_le.mp c367); have : 6 < (n).toInt := Int32.lt_iff_toInt_lt.mp (Int32.not_le.mp c369); have : 7 < (n).toInt := Int32.lt_iff_toInt_lt.mp (Int32.not_le.mp c371); have : 8 < (n).toInt := Int32.lt_iff_toInt_lt.mp (Int32.not_le.mp c373); have : 9 < (n).toInt := Int32.lt_iff_toInt_lt.mp (Int32.not_le.mp c375); have : 10 < (n).toInt := Int32.lt_iff_toInt_lt.mp (Int32.not_le.mp c377); have : 11 < (n).toInt := Int32.lt_iff_toInt_lt.mp (Int32.not_le.mp c379); have : 12 < (n).toInt := Int32.lt_iff_toInt_lt.mp (Int32.not_le.mp c381); have : 0 ≤ (what).toInt := Int32.le_iff_toInt_le.mp (c356.1); have : (what).toInt ≤ 1 := Int32.le_iff_toInt_le.mp (c356.2); have : (what).toInt = 0 := congrArg Int32.toInt (c383); simp only [F_left, Int32.le_iff_toInt_le, Int32.lt_iff_toInt_lt, ← Int32.toInt_inj]; split <;> first | rfl | (exfalso; simp at *; omega)) | (have : 0 ≤ (n).toInt := Int32.le_iff_toInt_le.mp (c355.1); have : (n).toInt ≤ 16 := Int32.le_iff_toInt_le.mp (c355.2); have : 0 < (n).toInt := Int32.lt_iff_toInt_lt.mp (Int32.not_le.mp c357); have : 1 < (n).toInt := Int32.lt_iff_toInt_lt.mp (Int32.not_le.mp c359); have : 2 < (n).toInt := Int32.lt_iff_toInt_lt.mp (Int32.not_le.mp c361); have : 3 < (n).toInt := Int32.lt_iff_toInt_lt.mp (Int32.not_le.mp c363); have : 4 < (n).toInt := Int32.lt_iff_toInt_lt.mp (Int32.not_le.mp c365); have : 5 < (n).toInt := Int32.lt_iff_toInt_lt.mp (Int32.not_le.mp c367); have : 6 < (n).toInt := Int32.lt_iff_toInt_lt.mp (Int32.not_le.mp c369); have : 7 < (n).toInt := Int32.lt_iff_toInt_lt.mp (Int32.not_le.mp c371); have : 8 < (n).toInt := Int32.lt_iff_toInt_lt.mp (Int32.not_le.mp c373); have : 9 < (n).toInt := Int32.lt_iff_toInt_lt.mp (Int32.not_le.mp c375); have : 10 < (n).toInt := Int32.lt_iff_toInt_lt.mp (Int32.not_le.mp c377); have : 11 < (n).toInt := Int32.lt_iff_toInt_lt.mp (Int32.not_le.mp c379); have : 12 < (n).toInt := Int32.lt_iff_toInt_lt.mp (Int32.not_le.mp c381); have : 0 ≤ (what).toInt := Int32.le_iff_toInt_le.mp (c356.1); have : (what).toInt ≤ 1 := Int32.le_iff_toInt_le.mp (c356.2); have : (what).toInt = 0 := congrArg Int32.toInt (c383); unfold F_left; (repeat' split) <;> first | rfl | (exfalso; (try simp only [Int32.le_iff_toInt_le, Int32.lt_iff_toInt_lt, ← Int32.toInt_inj] at *); first | omega | (simp at *; done) | (simp at *; omega))))
    · have c356 := gB_z c356
      refine G_iconst (pc := 19) (v := (-1)) (by decide) dX12_left_19 ?_
      exact G_iret (pc := 20) (Nat.le_of_ble_eq_true rfl) (Nat.le_of_ble_eq_true rfl) rfl dX12_left_20 (by first | rfl | (simp [F_left, *]; done) | (have : 0 ≤ (n).toInt := Int32.le_iff_toInt_le.mp (c355.1); have : (n).toInt ≤ 16 := Int32.le_iff_toInt_le.mp (c355.2); have : ¬ (0 ≤ (what).toInt ∧ (what).toInt ≤ 1) := fun z => c356 ⟨Int32.le_iff_toInt_le.mpr z.1, Int32.le_iff_toInt_le.mpr z.2⟩; simp only [F_left, Int32.le_iff_toInt_le, Int32.lt_iff_toInt_lt, ← Int32.toInt_inj]; simp; omega) | (have : 0 ≤ (n).toInt := Int32.le_iff_toInt_le.mp (c355.1); have : (n).toInt ≤ 16 := Int32.le_iff_toInt_le.mp (c355.2); have : ¬ (0 ≤ (what).toInt ∧ (what).toInt ≤ 1) := fun z => c356 ⟨Int32.le_iff_toInt_le.mpr z.1, Int32.le_iff_toInt_le.mpr z.2⟩; simp only [F_left, Int32.le_iff_toInt_le, Int32.lt_iff_toInt_lt, ← Int32.toInt_inj]; split <;> first | rfl | (exfalso; simp at *; omega)) | (have : 0 ≤ (n).toInt := Int32.le_iff_toInt_le.mp (c355.1); have : (n).toInt ≤ 16 := Int32.le_iff_toInt_le.mp (c355.2); have : ¬ (0 ≤ (what).toInt ∧ (what).toInt ≤ 1) := fun z => c356 ⟨Int32.le_iff_toInt_le.mpr z.1, Int32.le_iff_toInt_le.mpr z.2⟩; unfold F_left; (repeat' split) <;> first | rfl | (exfalso; (try simp only [Int32.le_iff_toInt_le, Int32.lt_iff_toInt_lt, ← Int32.toInt_inj] at *); first | omega | (simp at *; done) | (simp at *; omega))))
set_option maxRecDepth 100000 in
set_option maxHeartbeats 4000000 in
theorem z_report (J : gI) (d : Nat) (k : Int32) (asked : Int32) (least : Int32) (most : Int32) : G (d + 1) mX12_report 0 0 0 0 0 (gent 7 [.ref 67, .int k, .int asked, .int least, .int most]) [] SH0 RF0 (gmx J) (fun r _ => r = some (.int (F_report k asked least most))) := by
  refine G_iload_n (pc := 0) rfl dX12_report_0 ?_
  refine G_if_ne (pc := 1) (tgt := 9) (by decide) dX12_report_1 (fun c384 => ?_) (fun c384 => ?_)
  · refine G_bipush (pc := 9) (v := 9) (by decide) dX12_report_9 ?_
    refine G_istore (pc := 11) (L1 := [some (.ref 67), some (.int k), some (.int asked), some (.int least), some (.int most), some (.int 9), none]) rfl rfl (by decide) dX12_report_11 ?_
    refine G_iload_n (pc := 13) rfl dX12_report_13 ?_
    refine G_iconst (pc := 14) (v := 0) (by decide) dX12_report_14 ?_
    refine G_bipush (pc := 15) (v := 15) (by decide) dX12_report_15 ?_
    refine G_callS (pc := 17) (mc1 := 0) (ms1 := 0) (mj := mX12_in1) (vs := [_, _, _]) dX12_report_17 cm_X12_in1 wh_0 wh_3 rfl (Nat.le_of_ble_eq_true rfl) (Nat.le_of_ble_eq_true rfl) (Nat.le_of_ble_eq_true rfl) (Nat.le_of_ble_eq_true rfl) (in1_s d k 0 15) ?_
    rintro _ _ ⟨rfl, rfl⟩
    dsimp only [Option.toList, List.cons_append, List.nil_append]
    refine G_if_eq (pc := 20) (tgt := 53) (by decide) dX12_report_20 (fun c385 => ?_) (fun c385 => ?_)
    · have c385 := gB_z c385
      refine G_iconst (pc := 53) (v := (-1)) (by decide) dX12_report_53 ?_
      exact G_iret (pc := 54) (Nat.le_of_ble_eq_true rfl) (Nat.le_of_ble_eq_true rfl) rfl dX12_report_54 (by first | rfl | (simp [F_report, *]; done) | (have : ¬ (0 ≤ (k).toInt ∧ (k).toInt ≤ 15) := fun z => c385 ⟨Int32.le_iff_toInt_le.mpr z.1, Int32.le_iff_toInt_le.mpr z.2⟩; have : (asked).toInt ≠ 0 := g_ne (c384); simp only [F_report, Int32.le_iff_toInt_le, Int32.lt_iff_toInt_lt, ← Int32.toInt_inj]; simp; omega) | (have : ¬ (0 ≤ (k).toInt ∧ (k).toInt ≤ 15) := fun z => c385 ⟨Int32.le_iff_toInt_le.mpr z.1, Int32.le_iff_toInt_le.mpr z.2⟩; have : (asked).toInt ≠ 0 := g_ne (c384); simp only [F_report, Int32.le_iff_toInt_le, Int32.lt_iff_toInt_lt, ← Int32.toInt_inj]; split <;> first | rfl | (exfalso; simp at *; omega)) | (have : ¬ (0 ≤ (k).toInt ∧ (k).toInt ≤ 15) := fun z => c385 ⟨Int32.le_iff_toInt_le.mpr z.1, Int32.le_iff_toInt_le.mpr z.2⟩; have : (asked).toInt ≠ 0 := g_ne (c384); unfold F_report; (repeat' split) <;> first | rfl | (exfalso; (try simp only [Int32.le_iff_toInt_le, Int32.lt_iff_toInt_lt, ← Int32.toInt_inj] at *); first | omega | (simp at *; done) | (simp at *; omega))))
    · have c385 := gB_o c385
      refine G_iload_n (pc := 23) rfl dX12_report_23 ?_
      refine G_iconst (pc := 24) (v := 0) (by decide) dX12_report_24 ?_
      refine G_iconst (pc := 25) (v := 1) (by decide) dX12_report_25 ?_
      refine G_callS (pc := 26) (mc1 := 0) (ms1 := 0) (mj := mX12_in1) (vs := [_, _, _]) dX12_report_26 cm_X12_in1 wh_0 wh_3 rfl (Nat.le_of_ble_eq_true rfl) (Nat.le_of_ble_eq_true rfl) (Nat.le_of_ble_eq_true rfl) (Nat.le_of_ble_eq_true rfl) (in1_s d asked 0 1) ?_
      rintro _ _ ⟨rfl, rfl⟩
      dsimp only [Option.toList, List.cons_append, List.nil_append]
      refine G_if_eq (pc := 29) (tgt := 53) (by decide) dX12_report_29 (fun c386 => ?_) (fun c386 => ?_)
      · have c386 := gB_z c386
        refine G_iconst (pc := 53) (v := (-1)) (by decide) dX12_report_53 ?_
        exact G_iret (pc := 54) (Nat.le_of_ble_eq_true rfl) (Nat.le_of_ble_eq_true rfl) rfl dX12_report_54 (by first | rfl | (simp [F_report, *]; done) | (have : 0 ≤ (k).toInt := Int32.le_iff_toInt_le.mp (c385.1); have : (k).toInt ≤ 15 := Int32.le_iff_toInt_le.mp (c385.2); have : (asked).toInt ≠ 0 := g_ne (c384); have : ¬ (0 ≤ (asked).toInt ∧ (asked).toInt ≤ 1) := fun z => c386 ⟨Int32.le_iff_toInt_le.mpr z.1, Int32.le_iff_toInt_le.mpr z.2⟩; simp only [F_report, Int32.le_iff_toInt_le, Int32.lt_iff_toInt_lt, ← Int32.toInt_inj]; simp; omega) | (have : 0 ≤ (k).toInt := Int32.le_iff_toInt_le.mp (c385.1); have : (k).toInt ≤ 15 := Int32.le_iff_toInt_le.mp (c385.2); have : (asked).toInt ≠ 0 := g_ne (c384); have : ¬ (0 ≤ (asked).toInt ∧ (asked).toInt ≤ 1) := fun z => c386 ⟨Int32.le_iff_toInt_le.mpr z.1, Int32.le_iff_toInt_le.mpr z.2⟩; simp only [F_report, Int32.le_iff_toInt_le, Int32.lt_iff_toInt_lt, ← Int32.toInt_inj]; split <;> first | rfl | (exfalso; simp at *; omega)) | (have : 0 ≤ (k).toInt := Int32.le_iff_toInt_le.mp (c385.1); have : (k).toInt ≤ 15 := Int32.le_iff_toInt_le.mp (c385.2); have : (asked).toInt ≠ 0 := g_ne (c384); have : ¬ (0 ≤ (asked).toInt ∧ (asked).toInt ≤ 1) := fun z => c386 ⟨Int32.le_iff_toInt_le.mpr z.1, Int32.le_iff_toInt_le.mpr z.2⟩; unfold F_report; (repeat' split) <;> first | rfl | (exfalso; (try simp only [Int32.le_iff_toInt_le, Int32.lt_iff_toInt_lt, ← Int32.toInt_inj] at *); first | omega | (simp at *; done) | (simp at *; omega))))
      · have c386 := gB_o c386
        refine G_iload_n (pc := 32) rfl dX12_report_32 ?_
        refine G_iconst (pc := 33) (v := 0) (by decide) dX12_report_33 ?_
        refine G_iload (pc := 34) rfl dX12_report_34 ?_
        refine G_callS (pc := 36) (mc1 := 0) (ms1 := 0) (mj := mX12_in1) (vs := [_, _, _]) dX12_report_36 cm_X12_in1 wh_0 wh_3 rfl (Nat.le_of_ble_eq_true rfl) (Nat.le_of_ble_eq_true rfl) (Nat.le_of_ble_eq_true rfl) (Nat.le_of_ble_eq_true rfl) (in1_s d least 0 9) ?_
        rintro _ _ ⟨rfl, rfl⟩
        dsimp only [Option.toList, List.cons_append, List.nil_append]
        refine G_if_eq (pc := 39) (tgt := 53) (by decide) dX12_report_39 (fun c387 => ?_) (fun c387 => ?_)
        · have c387 := gB_z c387
          refine G_iconst (pc := 53) (v := (-1)) (by decide) dX12_report_53 ?_
          exact G_iret (pc := 54) (Nat.le_of_ble_eq_true rfl) (Nat.le_of_ble_eq_true rfl) rfl dX12_report_54 (by first | rfl | (simp [F_report, *]; done) | (have : 0 ≤ (k).toInt := Int32.le_iff_toInt_le.mp (c385.1); have : (k).toInt ≤ 15 := Int32.le_iff_toInt_le.mp (c385.2); have : (asked).toInt ≠ 0 := g_ne (c384); have : 0 ≤ (asked).toInt := Int32.le_iff_toInt_le.mp (c386.1); have : (asked).toInt ≤ 1 := Int32.le_iff_toInt_le.mp (c386.2); have : ¬ (0 ≤ (least).toInt ∧ (least).toInt ≤ 9) := fun z => c387 ⟨Int32.le_iff_toInt_le.mpr z.1, Int32.le_iff_toInt_le.mpr z.2⟩; simp only [F_report, Int32.le_iff_toInt_le, Int32.lt_iff_toInt_lt, ← Int32.toInt_inj]; simp; omega) | (have : 0 ≤ (k).toInt := Int32.le_iff_toInt_le.mp (c385.1); have : (k).toInt ≤ 15 := Int32.le_iff_toInt_le.mp (c385.2); have : (asked).toInt ≠ 0 := g_ne (c384); have : 0 ≤ (asked).toInt := Int32.le_iff_toInt_le.mp (c386.1); have : (asked).toInt ≤ 1 := Int32.le_iff_toInt_le.mp (c386.2); have : ¬ (0 ≤ (least).toInt ∧ (least).toInt ≤ 9) := fun z => c387 ⟨Int32.le_iff_toInt_le.mpr z.1, Int32.le_iff_toInt_le.mpr z.2⟩; simp only [F_report, Int32.le_iff_toInt_le, Int32.lt_iff_toInt_lt, ← Int32.toInt_inj]; split <;> first | rfl | (exfalso; simp at *; omega)) | (have : 0 ≤ (k).toInt := Int32.le_iff_toInt_le.mp (c385.1); have : (k).toInt ≤ 15 := Int32.le_iff_toInt_le.mp (c385.2); have : (asked).toInt ≠ 0 := g_ne (c384); have : 0 ≤ (asked).toInt := Int32.le_iff_toInt_le.mp (c386.1); have : (asked).toInt ≤ 1 := Int32.le_iff_toInt_le.mp (c386.2); have : ¬ (0 ≤ (least).toInt ∧ (least).toInt ≤ 9) := fun z => c387 ⟨Int32.le_iff_toInt_le.mpr z.1, Int32.le_iff_toInt_le.mpr z.2⟩; unfold F_report; (repeat' split) <;> first | rfl | (exfalso; (try simp only [Int32.le_iff_toInt_le, Int32.lt_iff_toInt_lt, ← Int32.toInt_inj] at *); first | omega | (simp at *; done) | (simp at *; omega))))
        · have c387 := gB_o c387
          refine G_iload (pc := 42) rfl dX12_report_42 ?_
          refine G_iload_n (pc := 44) rfl dX12_report_44 ?_
          refine G_iload (pc := 45) rfl dX12_report_45 ?_
          refine G_callS (pc := 47) (mc1 := 0) (ms1 := 0) (mj := mX12_in1) (vs := [_, _, _]) dX12_report_47 cm_X12_in1 wh_0 wh_3 rfl (Nat.le_of_ble_eq_true rfl) (Nat.le_of_ble_eq_true rfl) (Nat.le_of_ble_eq_true rfl) (Nat.le_of_ble_eq_true rfl) (in1_s d most least 9) ?_
          rintro _ _ ⟨rfl, rfl⟩
          dsimp only [Option.toList, List.cons_append, List.nil_append]
          refine G_if_ne (pc := 50) (tgt := 55) (by decide) dX12_report_50 (fun c388 => ?_) (fun c388 => ?_)
          · have c388 := gB_o c388
            refine G_aload_n (pc := 55) rfl dX12_report_55 ?_
            refine G_getR (pc := 56) (r := 68) (ci := 12) (j := 0) rfl lk_RX12_9 rfl rfl rfl dX12_report_56 ?_
            refine G_bipush (pc := 59) (v := 6) (by decide) dX12_report_59 ?_
            refine G_iald (pc := 61) (jj := 6) (v := 0) (by decide) rfl rfl (by unfold vp_in; decide) dX12_report_61 ?_
            refine G_bipush (pc := 62) (v := 6) (by decide) dX12_report_62 ?_
            refine G_icmp_ne (pc := 64) (tgt := 70) (by decide) dX12_report_64 (fun _ => ?_) (fun z => absurd z (by decide))
            refine G_bipush (pc := 70) (v := 65) (by decide) dX12_report_70 ?_
            refine G_iconst (pc := 72) (v := 4) (by decide) dX12_report_72 ?_
            refine G_aload_n (pc := 73) rfl dX12_report_73 ?_
            refine G_getR (pc := 74) (r := 68) (ci := 12) (j := 0) rfl lk_RX12_9 rfl rfl rfl dX12_report_74 ?_
            refine G_bipush (pc := 77) (v := 6) (by decide) dX12_report_77 ?_
            refine G_iald (pc := 79) (jj := 6) (v := 0) (by decide) rfl rfl (by unfold vp_in; decide) dX12_report_79 ?_
            refine G_imul (pc := 80) (z := 0) (by decide) dX12_report_80 ?_
            refine G_iadd (pc := 81) (z := 65) (by decide) dX12_report_81 ?_
            refine G_istore (pc := 82) (L1 := [some (.ref 67), some (.int k), some (.int asked), some (.int least), some (.int most), some (.int 9), some (.int 65)]) rfl rfl (by decide) dX12_report_82 ?_
            refine G_aload_n (pc := 84) rfl dX12_report_84 ?_
            refine G_getR (pc := 85) (r := 68) (ci := 12) (j := 0) rfl lk_RX12_9 rfl rfl rfl dX12_report_85 ?_
            refine G_iload (pc := 88) rfl dX12_report_88 ?_
            refine G_iload_n (pc := 90) rfl dX12_report_90 ?_
            refine G_iast (pc := 91) (jj := 65) (by decide) rfl (by unfold vp_in; decide) dX12_report_91 ?_
            refine G_aload_n (pc := 92) rfl dX12_report_92 ?_
            refine G_getR (pc := 93) (r := 68) (ci := 12) (j := 0) rfl lk_RX12_9 rfl rfl rfl dX12_report_93 ?_
            refine G_iload (pc := 96) rfl dX12_report_96 ?_
            refine G_iconst (pc := 98) (v := 1) (by decide) dX12_report_98 ?_
            refine G_iadd (pc := 99) (z := 66) (by decide) dX12_report_99 ?_
            refine G_iload_n (pc := 100) rfl dX12_report_100 ?_
            refine G_iast (pc := 101) (jj := 66) (by decide) rfl (by unfold vp_in; decide) dX12_report_101 ?_
            refine G_aload_n (pc := 102) rfl dX12_report_102 ?_
            refine G_getR (pc := 103) (r := 68) (ci := 12) (j := 0) rfl lk_RX12_9 rfl rfl rfl dX12_report_103 ?_
            refine G_iload (pc := 106) rfl dX12_report_106 ?_
            refine G_iconst (pc := 108) (v := 2) (by decide) dX12_report_108 ?_
            refine G_iadd (pc := 109) (z := 67) (by decide) dX12_report_109 ?_
            refine G_iload_n (pc := 110) rfl dX12_report_110 ?_
            refine G_iast (pc := 111) (jj := 67) (by decide) rfl (by unfold vp_in; decide) dX12_report_111 ?_
            refine G_aload_n (pc := 112) rfl dX12_report_112 ?_
            refine G_getR (pc := 113) (r := 68) (ci := 12) (j := 0) rfl lk_RX12_9 rfl rfl rfl dX12_report_113 ?_
            refine G_iload (pc := 116) rfl dX12_report_116 ?_
            refine G_iconst (pc := 118) (v := 3) (by decide) dX12_report_118 ?_
            refine G_iadd (pc := 119) (z := 68) (by decide) dX12_report_119 ?_
            refine G_iload (pc := 120) rfl dX12_report_120 ?_
            refine G_iast (pc := 122) (jj := 68) (by decide) rfl (by unfold vp_in; decide) dX12_report_122 ?_
            refine G_aload_n (pc := 123) rfl dX12_report_123 ?_
            refine G_getR (pc := 124) (r := 68) (ci := 12) (j := 0) rfl lk_RX12_9 rfl rfl rfl dX12_report_124 ?_
            refine G_bipush (pc := 127) (v := 6) (by decide) dX12_report_127 ?_
            refine G_dup2 (pc := 129) rfl rfl dX12_report_129 ?_
            refine G_iald (pc := 130) (jj := 6) (v := 0) (by decide) rfl rfl (by unfold vp_in; decide) dX12_report_130 ?_
            refine G_iconst (pc := 131) (v := 1) (by decide) dX12_report_131 ?_
            refine G_iadd (pc := 132) (z := 1) (by decide) dX12_report_132 ?_
            refine G_iast (pc := 133) (jj := 6) (by decide) rfl (by unfold vp_in; decide) dX12_report_133 ?_
            refine G_aload_n (pc := 134) rfl dX12_report_134 ?_
            refine G_getR (pc := 135) (r := 68) (ci := 12) (j := 0) rfl lk_RX12_9 rfl rfl rfl dX12_report_135 ?_
            refine G_bipush (pc := 138) (v := 6) (by decide) dX12_report_138 ?_
            refine G_iald (pc := 140) (jj := 6) (v := 1) (by decide) rfl rfl (by unfold vp_in; decide) dX12_report_140 ?_
            refine G_iconst (pc := 141) (v := 1) (by decide) dX12_report_141 ?_
            refine G_isub (pc := 142) (z := 0) (by decide) dX12_report_142 ?_
            exact G_iret (pc := 143) (Nat.le_of_ble_eq_true rfl) (Nat.le_of_ble_eq_true rfl) rfl dX12_report_143 (by first | rfl | (simp [F_report, *]; done) | (have : 0 ≤ (k).toInt := Int32.le_iff_toInt_le.mp (c385.1); have : (k).toInt ≤ 15 := Int32.le_iff_toInt_le.mp (c385.2); have : (asked).toInt ≠ 0 := g_ne (c384); have : 0 ≤ (asked).toInt := Int32.le_iff_toInt_le.mp (c386.1); have : (asked).toInt ≤ 1 := Int32.le_iff_toInt_le.mp (c386.2); have : 0 ≤ (least).toInt := Int32.le_iff_toInt_le.mp (c387.1); have : (least).toInt ≤ 9 := Int32.le_iff_toInt_le.mp (c387.2); simp only [F_report, Int32.le_iff_toInt_le, Int32.lt_iff_toInt_lt, ← Int32.toInt_inj]; simp; omega) | (have : 0 ≤ (k).toInt := Int32.le_iff_toInt_le.mp (c385.1); have : (k).toInt ≤ 15 := Int32.le_iff_toInt_le.mp (c385.2); have : (asked).toInt ≠ 0 := g_ne (c384); have : 0 ≤ (asked).toInt := Int32.le_iff_toInt_le.mp (c386.1); have : (asked).toInt ≤ 1 := Int32.le_iff_toInt_le.mp (c386.2); have : 0 ≤ (least).toInt := Int32.le_iff_toInt_le.mp (c387.1); have : (least).toInt ≤ 9 := Int32.le_iff_toInt_le.mp (c387.2); simp only [F_report, Int32.le_iff_toInt_le, Int32.lt_iff_toInt_lt, ← Int32.toInt_inj]; split <;> first | rfl | (exfalso; simp at *; omega)) | (have : 0 ≤ (k).toInt := Int32.le_iff_toInt_le.mp (c385.1); have : (k).toInt ≤ 15 := Int32.le_iff_toInt_le.mp (c385.2); have : (asked).toInt ≠ 0 := g_ne (c384); have : 0 ≤ (asked).toInt := Int32.le_iff_toInt_le.mp (c386.1); have : (asked).toInt ≤ 1 := Int32.le_iff_toInt_le.mp (c386.2); have : 0 ≤ (least).toInt := Int32.le_iff_toInt_le.mp (c387.1); have : (least).toInt ≤ 9 := Int32.le_iff_toInt_le.mp (c387.2); unfold F_report; (repeat' split) <;> first | rfl | (exfalso; (try simp only [Int32.le_iff_toInt_le, Int32.lt_iff_toInt_lt, ← Int32.toInt_inj] at *); first | omega | (simp at *; done) | (simp at *; omega))))
          · have c388 := gB_z c388
            refine G_iconst (pc := 53) (v := (-1)) (by decide) dX12_report_53 ?_
            exact G_iret (pc := 54) (Nat.le_of_ble_eq_true rfl) (Nat.le_of_ble_eq_true rfl) rfl dX12_report_54 (by first | rfl | (simp [F_report, *]; done) | (have : 0 ≤ (k).toInt := Int32.le_iff_toInt_le.mp (c385.1); have : (k).toInt ≤ 15 := Int32.le_iff_toInt_le.mp (c385.2); have : (asked).toInt ≠ 0 := g_ne (c384); have : 0 ≤ (asked).toInt := Int32.le_iff_toInt_le.mp (c386.1); have : (asked).toInt ≤ 1 := Int32.le_iff_toInt_le.mp (c386.2); have : 0 ≤ (least).toInt := Int32.le_iff_toInt_le.mp (c387.1); have : (least).toInt ≤ 9 := Int32.le_iff_toInt_le.mp (c387.2); simp only [F_report, Int32.le_iff_toInt_le, Int32.lt_iff_toInt_lt, ← Int32.toInt_inj]; simp; omega) | (have : 0 ≤ (k).toInt := Int32.le_iff_toInt_le.mp (c385.1); have : (k).toInt ≤ 15 := Int32.le_iff_toInt_le.mp (c385.2); have : (asked).toInt ≠ 0 := g_ne (c384); have : 0 ≤ (asked).toInt := Int32.le_iff_toInt_le.mp (c386.1); have : (asked).toInt ≤ 1 := Int32.le_iff_toInt_le.mp (c386.2); have : 0 ≤ (least).toInt := Int32.le_iff_toInt_le.mp (c387.1); have : (least).toInt ≤ 9 := Int32.le_iff_toInt_le.mp (c387.2); simp only [F_report, Int32.le_iff_toInt_le, Int32.lt_iff_toInt_lt, ← Int32.toInt_inj]; split <;> first | rfl | (exfalso; simp at *; omega)) | (have : 0 ≤ (k).toInt := Int32.le_iff_toInt_le.mp (c385.1); have : (k).toInt ≤ 15 := Int32.le_iff_toInt_le.mp (c385.2); have : (asked).toInt ≠ 0 := g_ne (c384); have : 0 ≤ (asked).toInt := Int32.le_iff_toInt_le.mp (c386.1); have : (asked).toInt ≤ 1 := Int32.le_iff_toInt_le.mp (c386.2); have : 0 ≤ (least).toInt := Int32.le_iff_toInt_le.mp (c387.1); have : (least).toInt ≤ 9 := Int32.le_iff_toInt_le.mp (c387.2); unfold F_report; (repeat' split) <;> first | rfl | (exfalso; (try simp only [Int32.le_iff_toInt_le, Int32.lt_iff_toInt_lt, ← Int32.toInt_inj] at *); first | omega | (simp at *; done) | (simp at *; omega))))
  · refine G_bipush (pc := 4) (v := 99) (by decide) dX12_report_4 ?_
    refine G_goto (pc := 6) (tgt := 11) (by decide) dX12_report_6 ?_
    refine G_istore (pc := 11) (L1 := [some (.ref 67), some (.int k), some (.int asked), some (.int least), some (.int most), some (.int 99), none]) rfl rfl (by decide) dX12_report_11 ?_
    refine G_iload_n (pc := 13) rfl dX12_report_13 ?_
    refine G_iconst (pc := 14) (v := 0) (by decide) dX12_report_14 ?_
    refine G_bipush (pc := 15) (v := 15) (by decide) dX12_report_15 ?_
    refine G_callS (pc := 17) (mc1 := 0) (ms1 := 0) (mj := mX12_in1) (vs := [_, _, _]) dX12_report_17 cm_X12_in1 wh_0 wh_3 rfl (Nat.le_of_ble_eq_true rfl) (Nat.le_of_ble_eq_true rfl) (Nat.le_of_ble_eq_true rfl) (Nat.le_of_ble_eq_true rfl) (in1_s d k 0 15) ?_
    rintro _ _ ⟨rfl, rfl⟩
    dsimp only [Option.toList, List.cons_append, List.nil_append]
    refine G_if_eq (pc := 20) (tgt := 53) (by decide) dX12_report_20 (fun c389 => ?_) (fun c389 => ?_)
    · have c389 := gB_z c389
      refine G_iconst (pc := 53) (v := (-1)) (by decide) dX12_report_53 ?_
      exact G_iret (pc := 54) (Nat.le_of_ble_eq_true rfl) (Nat.le_of_ble_eq_true rfl) rfl dX12_report_54 (by first | rfl | (simp [F_report, *]; done) | (have : ¬ (0 ≤ (k).toInt ∧ (k).toInt ≤ 15) := fun z => c389 ⟨Int32.le_iff_toInt_le.mpr z.1, Int32.le_iff_toInt_le.mpr z.2⟩; have : (asked).toInt = 0 := congrArg Int32.toInt (c384); simp only [F_report, Int32.le_iff_toInt_le, Int32.lt_iff_toInt_lt, ← Int32.toInt_inj]; simp; omega) | (have : ¬ (0 ≤ (k).toInt ∧ (k).toInt ≤ 15) := fun z => c389 ⟨Int32.le_iff_toInt_le.mpr z.1, Int32.le_iff_toInt_le.mpr z.2⟩; have : (asked).toInt = 0 := congrArg Int32.toInt (c384); simp only [F_report, Int32.le_iff_toInt_le, Int32.lt_iff_toInt_lt, ← Int32.toInt_inj]; split <;> first | rfl | (exfalso; simp at *; omega)) | (have : ¬ (0 ≤ (k).toInt ∧ (k).toInt ≤ 15) := fun z => c389 ⟨Int32.le_iff_toInt_le.mpr z.1, Int32.le_iff_toInt_le.mpr z.2⟩; have : (asked).toInt = 0 := congrArg Int32.toInt (c384); unfold F_report; (repeat' split) <;> first | rfl | (exfalso; (try simp only [Int32.le_iff_toInt_le, Int32.lt_iff_toInt_lt, ← Int32.toInt_inj] at *); first | omega | (simp at *; done) | (simp at *; omega))))
    · have c389 := gB_o c389
      refine G_iload_n (pc := 23) rfl dX12_report_23 ?_
      refine G_iconst (pc := 24) (v := 0) (by decide) dX12_report_24 ?_
      refine G_iconst (pc := 25) (v := 1) (by decide) dX12_report_25 ?_
      refine G_callS (pc := 26) (mc1 := 0) (ms1 := 0) (mj := mX12_in1) (vs := [_, _, _]) dX12_report_26 cm_X12_in1 wh_0 wh_3 rfl (Nat.le_of_ble_eq_true rfl) (Nat.le_of_ble_eq_true rfl) (Nat.le_of_ble_eq_true rfl) (Nat.le_of_ble_eq_true rfl) (in1_s d asked 0 1) ?_
      rintro _ _ ⟨rfl, rfl⟩
      dsimp only [Option.toList, List.cons_append, List.nil_append]
      refine G_if_eq (pc := 29) (tgt := 53) (by decide) dX12_report_29 (fun c390 => ?_) (fun c390 => ?_)
      · have c390 := gB_z c390
        exfalso; have : (asked).toInt = 0 := congrArg Int32.toInt (c384); exact c390 ⟨Int32.le_iff_toInt_le.mpr (by show (0 : Int) ≤ _; omega), Int32.le_iff_toInt_le.mpr (by show _ ≤ (1 : Int); omega)⟩
      · have c390 := gB_o c390
        refine G_iload_n (pc := 32) rfl dX12_report_32 ?_
        refine G_iconst (pc := 33) (v := 0) (by decide) dX12_report_33 ?_
        refine G_iload (pc := 34) rfl dX12_report_34 ?_
        refine G_callS (pc := 36) (mc1 := 0) (ms1 := 0) (mj := mX12_in1) (vs := [_, _, _]) dX12_report_36 cm_X12_in1 wh_0 wh_3 rfl (Nat.le_of_ble_eq_true rfl) (Nat.le_of_ble_eq_true rfl) (Nat.le_of_ble_eq_true rfl) (Nat.le_of_ble_eq_true rfl) (in1_s d least 0 99) ?_
        rintro _ _ ⟨rfl, rfl⟩
        dsimp only [Option.toList, List.cons_append, List.nil_append]
        refine G_if_eq (pc := 39) (tgt := 53) (by decide) dX12_report_39 (fun c391 => ?_) (fun c391 => ?_)
        · have c391 := gB_z c391
          refine G_iconst (pc := 53) (v := (-1)) (by decide) dX12_report_53 ?_
          exact G_iret (pc := 54) (Nat.le_of_ble_eq_true rfl) (Nat.le_of_ble_eq_true rfl) rfl dX12_report_54 (by first | rfl | (simp [F_report, *]; done) | (have : 0 ≤ (k).toInt := Int32.le_iff_toInt_le.mp (c389.1); have : (k).toInt ≤ 15 := Int32.le_iff_toInt_le.mp (c389.2); have : (asked).toInt = 0 := congrArg Int32.toInt (c384); have : 0 ≤ (asked).toInt := Int32.le_iff_toInt_le.mp (c390.1); have : (asked).toInt ≤ 1 := Int32.le_iff_toInt_le.mp (c390.2); have : ¬ (0 ≤ (least).toInt ∧ (least).toInt ≤ 99) := fun z => c391 ⟨Int32.le_iff_toInt_le.mpr z.1, Int32.le_iff_toInt_le.mpr z.2⟩; simp only [F_report, Int32.le_iff_toInt_le, Int32.lt_iff_toInt_lt, ← Int32.toInt_inj]; simp; omega) | (have : 0 ≤ (k).toInt := Int32.le_iff_toInt_le.mp (c389.1); have : (k).toInt ≤ 15 := Int32.le_iff_toInt_le.mp (c389.2); have : (asked).toInt = 0 := congrArg Int32.toInt (c384); have : 0 ≤ (asked).toInt := Int32.le_iff_toInt_le.mp (c390.1); have : (asked).toInt ≤ 1 := Int32.le_iff_toInt_le.mp (c390.2); have : ¬ (0 ≤ (least).toInt ∧ (least).toInt ≤ 99) := fun z => c391 ⟨Int32.le_iff_toInt_le.mpr z.1, Int32.le_iff_toInt_le.mpr z.2⟩; simp only [F_report, Int32.le_iff_toInt_le, Int32.lt_iff_toInt_lt, ← Int32.toInt_inj]; split <;> first | rfl | (exfalso; simp at *; omega)) | (have : 0 ≤ (k).toInt := Int32.le_iff_toInt_le.mp (c389.1); have : (k).toInt ≤ 15 := Int32.le_iff_toInt_le.mp (c389.2); have : (asked).toInt = 0 := congrArg Int32.toInt (c384); have : 0 ≤ (asked).toInt := Int32.le_iff_toInt_le.mp (c390.1); have : (asked).toInt ≤ 1 := Int32.le_iff_toInt_le.mp (c390.2); have : ¬ (0 ≤ (least).toInt ∧ (least).toInt ≤ 99) := fun z => c391 ⟨Int32.le_iff_toInt_le.mpr z.1, Int32.le_iff_toInt_le.mpr z.2⟩; unfold F_report; (repeat' split) <;> first | rfl | (exfalso; (try simp only [Int32.le_iff_toInt_le, Int32.lt_iff_toInt_lt, ← Int32.toInt_inj] at *); first | omega | (simp at *; done) | (simp at *; omega))))
        · have c391 := gB_o c391
          refine G_iload (pc := 42) rfl dX12_report_42 ?_
          refine G_iload_n (pc := 44) rfl dX12_report_44 ?_
          refine G_iload (pc := 45) rfl dX12_report_45 ?_
          refine G_callS (pc := 47) (mc1 := 0) (ms1 := 0) (mj := mX12_in1) (vs := [_, _, _]) dX12_report_47 cm_X12_in1 wh_0 wh_3 rfl (Nat.le_of_ble_eq_true rfl) (Nat.le_of_ble_eq_true rfl) (Nat.le_of_ble_eq_true rfl) (Nat.le_of_ble_eq_true rfl) (in1_s d most least 99) ?_
          rintro _ _ ⟨rfl, rfl⟩
          dsimp only [Option.toList, List.cons_append, List.nil_append]
          refine G_if_ne (pc := 50) (tgt := 55) (by decide) dX12_report_50 (fun c392 => ?_) (fun c392 => ?_)
          · have c392 := gB_o c392
            refine G_aload_n (pc := 55) rfl dX12_report_55 ?_
            refine G_getR (pc := 56) (r := 68) (ci := 12) (j := 0) rfl lk_RX12_9 rfl rfl rfl dX12_report_56 ?_
            refine G_bipush (pc := 59) (v := 6) (by decide) dX12_report_59 ?_
            refine G_iald (pc := 61) (jj := 6) (v := 0) (by decide) rfl rfl (by unfold vp_in; decide) dX12_report_61 ?_
            refine G_bipush (pc := 62) (v := 6) (by decide) dX12_report_62 ?_
            refine G_icmp_ne (pc := 64) (tgt := 70) (by decide) dX12_report_64 (fun _ => ?_) (fun z => absurd z (by decide))
            refine G_bipush (pc := 70) (v := 65) (by decide) dX12_report_70 ?_
            refine G_iconst (pc := 72) (v := 4) (by decide) dX12_report_72 ?_
            refine G_aload_n (pc := 73) rfl dX12_report_73 ?_
            refine G_getR (pc := 74) (r := 68) (ci := 12) (j := 0) rfl lk_RX12_9 rfl rfl rfl dX12_report_74 ?_
            refine G_bipush (pc := 77) (v := 6) (by decide) dX12_report_77 ?_
            refine G_iald (pc := 79) (jj := 6) (v := 0) (by decide) rfl rfl (by unfold vp_in; decide) dX12_report_79 ?_
            refine G_imul (pc := 80) (z := 0) (by decide) dX12_report_80 ?_
            refine G_iadd (pc := 81) (z := 65) (by decide) dX12_report_81 ?_
            refine G_istore (pc := 82) (L1 := [some (.ref 67), some (.int k), some (.int asked), some (.int least), some (.int most), some (.int 99), some (.int 65)]) rfl rfl (by decide) dX12_report_82 ?_
            refine G_aload_n (pc := 84) rfl dX12_report_84 ?_
            refine G_getR (pc := 85) (r := 68) (ci := 12) (j := 0) rfl lk_RX12_9 rfl rfl rfl dX12_report_85 ?_
            refine G_iload (pc := 88) rfl dX12_report_88 ?_
            refine G_iload_n (pc := 90) rfl dX12_report_90 ?_
            refine G_iast (pc := 91) (jj := 65) (by decide) rfl (by unfold vp_in; decide) dX12_report_91 ?_
            refine G_aload_n (pc := 92) rfl dX12_report_92 ?_
            refine G_getR (pc := 93) (r := 68) (ci := 12) (j := 0) rfl lk_RX12_9 rfl rfl rfl dX12_report_93 ?_
            refine G_iload (pc := 96) rfl dX12_report_96 ?_
            refine G_iconst (pc := 98) (v := 1) (by decide) dX12_report_98 ?_
            refine G_iadd (pc := 99) (z := 66) (by decide) dX12_report_99 ?_
            refine G_iload_n (pc := 100) rfl dX12_report_100 ?_
            refine G_iast (pc := 101) (jj := 66) (by decide) rfl (by unfold vp_in; decide) dX12_report_101 ?_
            refine G_aload_n (pc := 102) rfl dX12_report_102 ?_
            refine G_getR (pc := 103) (r := 68) (ci := 12) (j := 0) rfl lk_RX12_9 rfl rfl rfl dX12_report_103 ?_
            refine G_iload (pc := 106) rfl dX12_report_106 ?_
            refine G_iconst (pc := 108) (v := 2) (by decide) dX12_report_108 ?_
            refine G_iadd (pc := 109) (z := 67) (by decide) dX12_report_109 ?_
            refine G_iload_n (pc := 110) rfl dX12_report_110 ?_
            refine G_iast (pc := 111) (jj := 67) (by decide) rfl (by unfold vp_in; decide) dX12_report_111 ?_
            refine G_aload_n (pc := 112) rfl dX12_report_112 ?_
            refine G_getR (pc := 113) (r := 68) (ci := 12) (j := 0) rfl lk_RX12_9 rfl rfl rfl dX12_report_113 ?_
            refine G_iload (pc := 116) rfl dX12_report_116 ?_
            refine G_iconst (pc := 118) (v := 3) (by decide) dX12_report_118 ?_
            refine G_iadd (pc := 119) (z := 68) (by decide) dX12_report_119 ?_
            refine G_iload (pc := 120) rfl dX12_report_120 ?_
            refine G_iast (pc := 122) (jj := 68) (by decide) rfl (by unfold vp_in; decide) dX12_report_122 ?_
            refine G_aload_n (pc := 123) rfl dX12_report_123 ?_
            refine G_getR (pc := 124) (r := 68) (ci := 12) (j := 0) rfl lk_RX12_9 rfl rfl rfl dX12_report_124 ?_
            refine G_bipush (pc := 127) (v := 6) (by decide) dX12_report_127 ?_
            refine G_dup2 (pc := 129) rfl rfl dX12_report_129 ?_
            refine G_iald (pc := 130) (jj := 6) (v := 0) (by decide) rfl rfl (by unfold vp_in; decide) dX12_report_130 ?_
            refine G_iconst (pc := 131) (v := 1) (by decide) dX12_report_131 ?_
            refine G_iadd (pc := 132) (z := 1) (by decide) dX12_report_132 ?_
            refine G_iast (pc := 133) (jj := 6) (by decide) rfl (by unfold vp_in; decide) dX12_report_133 ?_
            refine G_aload_n (pc := 134) rfl dX12_report_134 ?_
            refine G_getR (pc := 135) (r := 68) (ci := 12) (j := 0) rfl lk_RX12_9 rfl rfl rfl dX12_report_135 ?_
            refine G_bipush (pc := 138) (v := 6) (by decide) dX12_report_138 ?_
            refine G_iald (pc := 140) (jj := 6) (v := 1) (by decide) rfl rfl (by unfold vp_in; decide) dX12_report_140 ?_
            refine G_iconst (pc := 141) (v := 1) (by decide) dX12_report_141 ?_
            refine G_isub (pc := 142) (z := 0) (by decide) dX12_report_142 ?_
            exact G_iret (pc := 143) (Nat.le_of_ble_eq_true rfl) (Nat.le_of_ble_eq_true rfl) rfl dX12_report_143 (by first | rfl | (simp [F_report, *]; done) | (have : 0 ≤ (k).toInt := Int32.le_iff_toInt_le.mp (c389.1); have : (k).toInt ≤ 15 := Int32.le_iff_toInt_le.mp (c389.2); have : (asked).toInt = 0 := congrArg Int32.toInt (c384); have : 0 ≤ (asked).toInt := Int32.le_iff_toInt_le.mp (c390.1); have : (asked).toInt ≤ 1 := Int32.le_iff_toInt_le.mp (c390.2); have : 0 ≤ (least).toInt := Int32.le_iff_toInt_le.mp (c391.1); have : (least).toInt ≤ 99 := Int32.le_iff_toInt_le.mp (c391.2); simp only [F_report, Int32.le_iff_toInt_le, Int32.lt_iff_toInt_lt, ← Int32.toInt_inj]; simp; omega) | (have : 0 ≤ (k).toInt := Int32.le_iff_toInt_le.mp (c389.1); have : (k).toInt ≤ 15 := Int32.le_iff_toInt_le.mp (c389.2); have : (asked).toInt = 0 := congrArg Int32.toInt (c384); have : 0 ≤ (asked).toInt := Int32.le_iff_toInt_le.mp (c390.1); have : (asked).toInt ≤ 1 := Int32.le_iff_toInt_le.mp (c390.2); have : 0 ≤ (least).toInt := Int32.le_iff_toInt_le.mp (c391.1); have : (least).toInt ≤ 99 := Int32.le_iff_toInt_le.mp (c391.2); simp only [F_report, Int32.le_iff_toInt_le, Int32.lt_iff_toInt_lt, ← Int32.toInt_inj]; split <;> first | rfl | (exfalso; simp at *; omega)) | (have : 0 ≤ (k).toInt := Int32.le_iff_toInt_le.mp (c389.1); have : (k).toInt ≤ 15 := Int32.le_iff_toInt_le.mp (c389.2); have : (asked).toInt = 0 := congrArg Int32.toInt (c384); have : 0 ≤ (asked).toInt := Int32.le_iff_toInt_le.mp (c390.1); have : (asked).toInt ≤ 1 := Int32.le_iff_toInt_le.mp (c390.2); have : 0 ≤ (least).toInt := Int32.le_iff_toInt_le.mp (c391.1); have : (least).toInt ≤ 99 := Int32.le_iff_toInt_le.mp (c391.2); unfold F_report; (repeat' split) <;> first | rfl | (exfalso; (try simp only [Int32.le_iff_toInt_le, Int32.lt_iff_toInt_lt, ← Int32.toInt_inj] at *); first | omega | (simp at *; done) | (simp at *; omega))))
          · have c392 := gB_z c392
            refine G_iconst (pc := 53) (v := (-1)) (by decide) dX12_report_53 ?_
            exact G_iret (pc := 54) (Nat.le_of_ble_eq_true rfl) (Nat.le_of_ble_eq_true rfl) rfl dX12_report_54 (by first | rfl | (simp [F_report, *]; done) | (have : 0 ≤ (k).toInt := Int32.le_iff_toInt_le.mp (c389.1); have : (k).toInt ≤ 15 := Int32.le_iff_toInt_le.mp (c389.2); have : (asked).toInt = 0 := congrArg Int32.toInt (c384); have : 0 ≤ (asked).toInt := Int32.le_iff_toInt_le.mp (c390.1); have : (asked).toInt ≤ 1 := Int32.le_iff_toInt_le.mp (c390.2); have : 0 ≤ (least).toInt := Int32.le_iff_toInt_le.mp (c391.1); have : (least).toInt ≤ 99 := Int32.le_iff_toInt_le.mp (c391.2); simp only [F_report, Int32.le_iff_toInt_le, Int32.lt_iff_toInt_lt, ← Int32.toInt_inj]; simp; omega) | (have : 0 ≤ (k).toInt := Int32.le_iff_toInt_le.mp (c389.1); have : (k).toInt ≤ 15 := Int32.le_iff_toInt_le.mp (c389.2); have : (asked).toInt = 0 := congrArg Int32.toInt (c384); have : 0 ≤ (asked).toInt := Int32.le_iff_toInt_le.mp (c390.1); have : (asked).toInt ≤ 1 := Int32.le_iff_toInt_le.mp (c390.2); have : 0 ≤ (least).toInt := Int32.le_iff_toInt_le.mp (c391.1); have : (least).toInt ≤ 99 := Int32.le_iff_toInt_le.mp (c391.2); simp only [F_report, Int32.le_iff_toInt_le, Int32.lt_iff_toInt_lt, ← Int32.toInt_inj]; split <;> first | rfl | (exfalso; simp at *; omega)) | (have : 0 ≤ (k).toInt := Int32.le_iff_toInt_le.mp (c389.1); have : (k).toInt ≤ 15 := Int32.le_iff_toInt_le.mp (c389.2); have : (asked).toInt = 0 := congrArg Int32.toInt (c384); have : 0 ≤ (asked).toInt := Int32.le_iff_toInt_le.mp (c390.1); have : (asked).toInt ≤ 1 := Int32.le_iff_toInt_le.mp (c390.2); have : 0 ≤ (least).toInt := Int32.le_iff_toInt_le.mp (c391.1); have : (least).toInt ≤ 99 := Int32.le_iff_toInt_le.mp (c391.2); unfold F_report; (repeat' split) <;> first | rfl | (exfalso; (try simp only [Int32.le_iff_toInt_le, Int32.lt_iff_toInt_lt, ← Int32.toInt_inj] at *); first | omega | (simp at *; done) | (simp at *; omega))))
set_option maxRecDepth 100000 in
set_option maxHeartbeats 4000000 in
theorem lm_keep  (d : Nat)  (f : Nat) : ∀ (i : Int32) (I : gI), (True) → 0 ≤ i.toInt → i.toInt ≤ 313 → 313 - i.toInt < f → G (d) mX12_keep 0 0 0 0 2 [some (.ref 67), some (.int i)] [] SH0 RF0 I (fun r _ => r = some (.int (1))) := by
  induction f with
  | zero => intro i I hI h0 h1 hf; exfalso; omega
  | succ f ih =>
    intro i I hI h0 h1 hf
    refine G_iload_n (pc := 2) rfl dX12_keep_2 ?_
    refine G_sipush (pc := 3) (v := 313) (by decide) dX12_keep_3 ?_
    refine G_icmp_ge (pc := 6) (tgt := 27) (by decide) dX12_keep_6 (fun c393 => ?_) (fun c393 => ?_)
    · refine G_aload_n (pc := 27) rfl dX12_keep_27 ?_
      refine G_iconst (pc := 28) (v := 1) (by decide) dX12_keep_28 ?_
      refine G_putI (pc := 29) (ci := 12) (j := 3) rfl lk_RX12_369 rfl rfl rfl (Or.inr rfl) dX12_keep_29 ?_
      refine G_iconst (pc := 32) (v := 1) (by decide) dX12_keep_32 ?_
      exact G_iret (pc := 33) (Nat.le_of_ble_eq_true rfl) (Nat.le_of_ble_eq_true rfl) rfl dX12_keep_33 rfl
    · refine G_aload_n (pc := 9) rfl dX12_keep_9 ?_
      refine G_getR (pc := 10) (r := 69) (ci := 12) (j := 1) rfl lk_RX12_13 rfl rfl rfl dX12_keep_10 ?_
      refine G_iload_n (pc := 13) rfl dX12_keep_13 ?_
      refine G_aload_n (pc := 14) rfl dX12_keep_14 ?_
      refine G_getR (pc := 15) (r := 68) (ci := 12) (j := 0) rfl lk_RX12_9 rfl rfl rfl dX12_keep_15 ?_
      refine G_iload_n (pc := 18) rfl dX12_keep_18 ?_
      refine G_iald (pc := 19) (nn := 313) rfl rfl rfl (by have e := Int32.lt_iff_toInt_lt.mp (Int32.not_le.mp c393); have e1 : (313 : Int32).toInt = 313 := rfl; exact g_in (by omega) (by omega)) dX12_keep_19 ?_
      refine G_iast (pc := 20) (nn := 313) rfl rfl (by have e := Int32.lt_iff_toInt_lt.mp (Int32.not_le.mp c393); have e1 : (313 : Int32).toInt = 313 := rfl; exact g_in (by omega) (by omega)) dX12_keep_20 ?_
      refine G_iinc (pc := 21) (v := 1) (w := (i + 1)) (L1 := [some (.ref 67), some (.int (i + 1))]) rfl rfl rfl (by decide) rfl (by decide) dX12_keep_21 ?_
      refine G_goto (pc := 24) (tgt := 2) (by decide) dX12_keep_24 ?_
      have e := Int32.lt_iff_toInt_lt.mp (Int32.not_le.mp c393)
      have e1 : (313 : Int32).toInt = 313 := rfl
      have e2 : (i + 1).toInt = i.toInt + 1 := g_inc (by omega)
      exact ih (i + 1) _ trivial (by omega) (by omega) (by omega)
set_option maxRecDepth 100000 in
set_option maxHeartbeats 4000000 in
theorem z_keep (J : gI) (d : Nat)  : G (d) mX12_keep 0 0 0 0 0 (gent 2 [.ref 67]) [] SH0 RF0 (gmx J) (fun r _ => r = some (.int (F_keep ))) := by
  refine G_iconst (pc := 0) (v := 0) (by decide) dX12_keep_0 ?_
  refine G_istore_n (pc := 1) (L1 := [some (.ref 67), some (.int 0)]) rfl rfl (by decide) dX12_keep_1 ?_
  exact lm_keep d 314 0 _ trivial (by decide) (by decide) (by decide)
set_option maxRecDepth 100000 in
set_option maxHeartbeats 4000000 in
theorem lm_sheet0  (d : Nat) (sort n : Int32) (f : Nat) : ∀ (i : Int32) (I : gI), (True) → 0 ≤ i.toInt → i.toInt ≤ 40 → 40 - i.toInt < f → G (d) mX12_sheet 0 0 0 0 64 [some (.ref 67), some (.int 0), some (.int sort), some (.int n), some (.int i)] [] SH0 RF0 I (fun r _ => r = some (.int (1))) := by
  induction f with
  | zero => intro i I hI h0 h1 hf; exfalso; omega
  | succ f ih =>
    intro i I hI h0 h1 hf
    refine G_iload (pc := 64) rfl dX12_sheet_64 ?_
    refine G_bipush (pc := 66) (v := 40) (by decide) dX12_sheet_66 ?_
    refine G_icmp_ge (pc := 68) (tgt := 90) (by decide) dX12_sheet_68 (fun c394 => ?_) (fun c394 => ?_)
    · refine G_iconst (pc := 90) (v := 1) (by decide) dX12_sheet_90 ?_
      exact G_iret (pc := 91) (Nat.le_of_ble_eq_true rfl) (Nat.le_of_ble_eq_true rfl) rfl dX12_sheet_91 rfl
    · refine G_aload_n (pc := 71) rfl dX12_sheet_71 ?_
      refine G_getR (pc := 72) (r := 84) (ci := 12) (j := 30) rfl lk_RX12_59 rfl rfl rfl dX12_sheet_72 ?_
      refine G_bipush (pc := 75) (v := 40) (by decide) dX12_sheet_75 ?_
      refine G_iload_n (pc := 77) rfl dX12_sheet_77 ?_
      refine G_imul (pc := 78) (z := 0) (by decide) dX12_sheet_78 ?_
      refine G_iload (pc := 79) rfl dX12_sheet_79 ?_
      refine G_iadd (pc := 81) rfl dX12_sheet_81 ?_
      refine G_iconst (pc := 82) (v := 0) (by decide) dX12_sheet_82 ?_
      refine G_iast (pc := 83) (nn := 160) rfl rfl (by have e := Int32.lt_iff_toInt_lt.mp (Int32.not_le.mp c394); have e1 : (40 : Int32).toInt = 40 := rfl; have e4 : ((0 + i) : Int32).toInt = 0 + i.toInt := g_addc rfl (by omega) (by omega); exact g_in (by omega) (by omega)) dX12_sheet_83 ?_
      refine G_iinc (pc := 84) (v := 1) (w := (i + 1)) (L1 := [some (.ref 67), some (.int 0), some (.int sort), some (.int n), some (.int (i + 1))]) rfl rfl rfl (by decide) rfl (by decide) dX12_sheet_84 ?_
      refine G_goto (pc := 87) (tgt := 64) (by decide) dX12_sheet_87 ?_
      have e := Int32.lt_iff_toInt_lt.mp (Int32.not_le.mp c394)
      have e1 : (40 : Int32).toInt = 40 := rfl
      have e2 : (i + 1).toInt = i.toInt + 1 := g_inc (by omega)
      exact ih (i + 1) _ trivial (by omega) (by omega) (by omega)
set_option maxRecDepth 100000 in
set_option maxHeartbeats 4000000 in
theorem lm_sheet1  (d : Nat) (sort n : Int32) (f : Nat) : ∀ (i : Int32) (I : gI), (True) → 0 ≤ i.toInt → i.toInt ≤ 40 → 40 - i.toInt < f → G (d) mX12_sheet 0 0 0 0 64 [some (.ref 67), some (.int 1), some (.int sort), some (.int n), some (.int i)] [] SH0 RF0 I (fun r _ => r = some (.int (1))) := by
  induction f with
  | zero => intro i I hI h0 h1 hf; exfalso; omega
  | succ f ih =>
    intro i I hI h0 h1 hf
    refine G_iload (pc := 64) rfl dX12_sheet_64 ?_
    refine G_bipush (pc := 66) (v := 40) (by decide) dX12_sheet_66 ?_
    refine G_icmp_ge (pc := 68) (tgt := 90) (by decide) dX12_sheet_68 (fun c395 => ?_) (fun c395 => ?_)
    · refine G_iconst (pc := 90) (v := 1) (by decide) dX12_sheet_90 ?_
      exact G_iret (pc := 91) (Nat.le_of_ble_eq_true rfl) (Nat.le_of_ble_eq_true rfl) rfl dX12_sheet_91 rfl
    · refine G_aload_n (pc := 71) rfl dX12_sheet_71 ?_
      refine G_getR (pc := 72) (r := 84) (ci := 12) (j := 30) rfl lk_RX12_59 rfl rfl rfl dX12_sheet_72 ?_
      refine G_bipush (pc := 75) (v := 40) (by decide) dX12_sheet_75 ?_
      refine G_iload_n (pc := 77) rfl dX12_sheet_77 ?_
      refine G_imul (pc := 78) (z := 40) (by decide) dX12_sheet_78 ?_
      refine G_iload (pc := 79) rfl dX12_sheet_79 ?_
      refine G_iadd (pc := 81) rfl dX12_sheet_81 ?_
      refine G_iconst (pc := 82) (v := 0) (by decide) dX12_sheet_82 ?_
      refine G_iast (pc := 83) (nn := 160) rfl rfl (by have e := Int32.lt_iff_toInt_lt.mp (Int32.not_le.mp c395); have e1 : (40 : Int32).toInt = 40 := rfl; have e4 : ((40 + i) : Int32).toInt = 40 + i.toInt := g_addc rfl (by omega) (by omega); exact g_in (by omega) (by omega)) dX12_sheet_83 ?_
      refine G_iinc (pc := 84) (v := 1) (w := (i + 1)) (L1 := [some (.ref 67), some (.int 1), some (.int sort), some (.int n), some (.int (i + 1))]) rfl rfl rfl (by decide) rfl (by decide) dX12_sheet_84 ?_
      refine G_goto (pc := 87) (tgt := 64) (by decide) dX12_sheet_87 ?_
      have e := Int32.lt_iff_toInt_lt.mp (Int32.not_le.mp c395)
      have e1 : (40 : Int32).toInt = 40 := rfl
      have e2 : (i + 1).toInt = i.toInt + 1 := g_inc (by omega)
      exact ih (i + 1) _ trivial (by omega) (by omega) (by omega)
set_option maxRecDepth 100000 in
set_option maxHeartbeats 4000000 in
theorem lm_sheet2  (d : Nat) (sort n : Int32) (f : Nat) : ∀ (i : Int32) (I : gI), (True) → 0 ≤ i.toInt → i.toInt ≤ 40 → 40 - i.toInt < f → G (d) mX12_sheet 0 0 0 0 64 [some (.ref 67), some (.int 2), some (.int sort), some (.int n), some (.int i)] [] SH0 RF0 I (fun r _ => r = some (.int (1))) := by
  induction f with
  | zero => intro i I hI h0 h1 hf; exfalso; omega
  | succ f ih =>
    intro i I hI h0 h1 hf
    refine G_iload (pc := 64) rfl dX12_sheet_64 ?_
    refine G_bipush (pc := 66) (v := 40) (by decide) dX12_sheet_66 ?_
    refine G_icmp_ge (pc := 68) (tgt := 90) (by decide) dX12_sheet_68 (fun c396 => ?_) (fun c396 => ?_)
    · refine G_iconst (pc := 90) (v := 1) (by decide) dX12_sheet_90 ?_
      exact G_iret (pc := 91) (Nat.le_of_ble_eq_true rfl) (Nat.le_of_ble_eq_true rfl) rfl dX12_sheet_91 rfl
    · refine G_aload_n (pc := 71) rfl dX12_sheet_71 ?_
      refine G_getR (pc := 72) (r := 84) (ci := 12) (j := 30) rfl lk_RX12_59 rfl rfl rfl dX12_sheet_72 ?_
      refine G_bipush (pc := 75) (v := 40) (by decide) dX12_sheet_75 ?_
      refine G_iload_n (pc := 77) rfl dX12_sheet_77 ?_
      refine G_imul (pc := 78) (z := 80) (by decide) dX12_sheet_78 ?_
      refine G_iload (pc := 79) rfl dX12_sheet_79 ?_
      refine G_iadd (pc := 81) rfl dX12_sheet_81 ?_
      refine G_iconst (pc := 82) (v := 0) (by decide) dX12_sheet_82 ?_
      refine G_iast (pc := 83) (nn := 160) rfl rfl (by have e := Int32.lt_iff_toInt_lt.mp (Int32.not_le.mp c396); have e1 : (40 : Int32).toInt = 40 := rfl; have e4 : ((80 + i) : Int32).toInt = 80 + i.toInt := g_addc rfl (by omega) (by omega); exact g_in (by omega) (by omega)) dX12_sheet_83 ?_
      refine G_iinc (pc := 84) (v := 1) (w := (i + 1)) (L1 := [some (.ref 67), some (.int 2), some (.int sort), some (.int n), some (.int (i + 1))]) rfl rfl rfl (by decide) rfl (by decide) dX12_sheet_84 ?_
      refine G_goto (pc := 87) (tgt := 64) (by decide) dX12_sheet_87 ?_
      have e := Int32.lt_iff_toInt_lt.mp (Int32.not_le.mp c396)
      have e1 : (40 : Int32).toInt = 40 := rfl
      have e2 : (i + 1).toInt = i.toInt + 1 := g_inc (by omega)
      exact ih (i + 1) _ trivial (by omega) (by omega) (by omega)
set_option maxRecDepth 100000 in
set_option maxHeartbeats 4000000 in
theorem lm_sheet3  (d : Nat) (sort n : Int32) (f : Nat) : ∀ (i : Int32) (I : gI), (True) → 0 ≤ i.toInt → i.toInt ≤ 40 → 40 - i.toInt < f → G (d) mX12_sheet 0 0 0 0 64 [some (.ref 67), some (.int 3), some (.int sort), some (.int n), some (.int i)] [] SH0 RF0 I (fun r _ => r = some (.int (1))) := by
  induction f with
  | zero => intro i I hI h0 h1 hf; exfalso; omega
  | succ f ih =>
    intro i I hI h0 h1 hf
    refine G_iload (pc := 64) rfl dX12_sheet_64 ?_
    refine G_bipush (pc := 66) (v := 40) (by decide) dX12_sheet_66 ?_
    refine G_icmp_ge (pc := 68) (tgt := 90) (by decide) dX12_sheet_68 (fun c397 => ?_) (fun c397 => ?_)
    · refine G_iconst (pc := 90) (v := 1) (by decide) dX12_sheet_90 ?_
      exact G_iret (pc := 91) (Nat.le_of_ble_eq_true rfl) (Nat.le_of_ble_eq_true rfl) rfl dX12_sheet_91 rfl
    · refine G_aload_n (pc := 71) rfl dX12_sheet_71 ?_
      refine G_getR (pc := 72) (r := 84) (ci := 12) (j := 30) rfl lk_RX12_59 rfl rfl rfl dX12_sheet_72 ?_
      refine G_bipush (pc := 75) (v := 40) (by decide) dX12_sheet_75 ?_
      refine G_iload_n (pc := 77) rfl dX12_sheet_77 ?_
      refine G_imul (pc := 78) (z := 120) (by decide) dX12_sheet_78 ?_
      refine G_iload (pc := 79) rfl dX12_sheet_79 ?_
      refine G_iadd (pc := 81) rfl dX12_sheet_81 ?_
      refine G_iconst (pc := 82) (v := 0) (by decide) dX12_sheet_82 ?_
      refine G_iast (pc := 83) (nn := 160) rfl rfl (by have e := Int32.lt_iff_toInt_lt.mp (Int32.not_le.mp c397); have e1 : (40 : Int32).toInt = 40 := rfl; have e4 : ((120 + i) : Int32).toInt = 120 + i.toInt := g_addc rfl (by omega) (by omega); exact g_in (by omega) (by omega)) dX12_sheet_83 ?_
      refine G_iinc (pc := 84) (v := 1) (w := (i + 1)) (L1 := [some (.ref 67), some (.int 3), some (.int sort), some (.int n), some (.int (i + 1))]) rfl rfl rfl (by decide) rfl (by decide) dX12_sheet_84 ?_
      refine G_goto (pc := 87) (tgt := 64) (by decide) dX12_sheet_87 ?_
      have e := Int32.lt_iff_toInt_lt.mp (Int32.not_le.mp c397)
      have e1 : (40 : Int32).toInt = 40 := rfl
      have e2 : (i + 1).toInt = i.toInt + 1 := g_inc (by omega)
      exact ih (i + 1) _ trivial (by omega) (by omega) (by omega)
set_option maxRecDepth 100000 in
set_option maxHeartbeats 4000000 in
theorem z_sheet (J : gI) (d : Nat) (sheet : Int32) (sort : Int32) (n : Int32) : G (d + 2) mX12_sheet 0 0 0 0 0 (gent 5 [.ref 67, .int sheet, .int sort, .int n]) [] SH0 RF0 (gmx J) (fun r _ => r = some (.int (F_sheet sheet sort n))) := by
  refine G_iload_n (pc := 0) rfl dX12_sheet_0 ?_
  refine G_callS (pc := 1) (mc1 := 0) (ms1 := 0) (mj := mX12_isSheet) (vs := [_]) dX12_sheet_1 cm_X12_isSheet wh_46 wh_48 rfl (Nat.le_of_ble_eq_true rfl) (Nat.le_of_ble_eq_true rfl) (Nat.le_of_ble_eq_true rfl) (Nat.le_of_ble_eq_true rfl) (s10023_X12_isSheet J d  _) ?_
  rintro _ _ ⟨rfl, rfl⟩
  dsimp only [Option.toList, List.cons_append, List.nil_append]
  refine G_if_eq (pc := 4) (tgt := 26) (by decide) dX12_sheet_4 (fun c398 => ?_) (fun c398 => ?_)
  · have c398 := gB_z c398
    refine G_iconst (pc := 26) (v := (-1)) (by decide) dX12_sheet_26 ?_
    exact G_iret (pc := 27) (Nat.le_of_ble_eq_true rfl) (Nat.le_of_ble_eq_true rfl) rfl dX12_sheet_27 (by first | rfl | (simp [F_sheet, *]; done) | (have : ¬ (0 ≤ (sheet).toInt ∧ (sheet).toInt ≤ 3) := fun z => c398 ⟨Int32.le_iff_toInt_le.mpr z.1, Int32.le_iff_toInt_le.mpr z.2⟩; simp only [F_sheet, Int32.le_iff_toInt_le, Int32.lt_iff_toInt_lt, ← Int32.toInt_inj]; simp; omega) | (have : ¬ (0 ≤ (sheet).toInt ∧ (sheet).toInt ≤ 3) := fun z => c398 ⟨Int32.le_iff_toInt_le.mpr z.1, Int32.le_iff_toInt_le.mpr z.2⟩; simp only [F_sheet, Int32.le_iff_toInt_le, Int32.lt_iff_toInt_lt, ← Int32.toInt_inj]; split <;> first | rfl | (exfalso; simp at *; omega)) | (have : ¬ (0 ≤ (sheet).toInt ∧ (sheet).toInt ≤ 3) := fun z => c398 ⟨Int32.le_iff_toInt_le.mpr z.1, Int32.le_iff_toInt_le.mpr z.2⟩; unfold F_sheet; (repeat' split) <;> first | rfl | (exfalso; (try simp only [Int32.le_iff_toInt_le, Int32.lt_iff_toInt_lt, ← Int32.toInt_inj] at *); first | omega | (simp at *; done) | (simp at *; omega))))
  · have c398 := gB_o c398
    refine G_iload_n (pc := 7) rfl dX12_sheet_7 ?_
    refine G_iconst (pc := 8) (v := (-1)) (by decide) dX12_sheet_8 ?_
    refine G_iconst (pc := 9) (v := 4) (by decide) dX12_sheet_9 ?_
    refine G_callS (pc := 10) (mc1 := 0) (ms1 := 0) (mj := mX12_in1) (vs := [_, _, _]) dX12_sheet_10 cm_X12_in1 wh_0 wh_3 rfl (Nat.le_of_ble_eq_true rfl) (Nat.le_of_ble_eq_true rfl) (Nat.le_of_ble_eq_true rfl) (Nat.le_of_ble_eq_true rfl) (in1_s (d + 1) sort ((-1)) 4) ?_
    rintro _ _ ⟨rfl, rfl⟩
    dsimp only [Option.toList, List.cons_append, List.nil_append]
    refine G_if_eq (pc := 13) (tgt := 26) (by decide) dX12_sheet_13 (fun c399 => ?_) (fun c399 => ?_)
    · have c399 := gB_z c399
      refine G_iconst (pc := 26) (v := (-1)) (by decide) dX12_sheet_26 ?_
      exact G_iret (pc := 27) (Nat.le_of_ble_eq_true rfl) (Nat.le_of_ble_eq_true rfl) rfl dX12_sheet_27 (by first | rfl | (simp [F_sheet, *]; done) | (have : 0 ≤ (sheet).toInt := Int32.le_iff_toInt_le.mp (c398.1); have : (sheet).toInt ≤ 3 := Int32.le_iff_toInt_le.mp (c398.2); have : ¬ (-1 ≤ (sort).toInt ∧ (sort).toInt ≤ 4) := fun z => c399 ⟨Int32.le_iff_toInt_le.mpr z.1, Int32.le_iff_toInt_le.mpr z.2⟩; simp only [F_sheet, Int32.le_iff_toInt_le, Int32.lt_iff_toInt_lt, ← Int32.toInt_inj]; simp; omega) | (have : 0 ≤ (sheet).toInt := Int32.le_iff_toInt_le.mp (c398.1); have : (sheet).toInt ≤ 3 := Int32.le_iff_toInt_le.mp (c398.2); have : ¬ (-1 ≤ (sort).toInt ∧ (sort).toInt ≤ 4) := fun z => c399 ⟨Int32.le_iff_toInt_le.mpr z.1, Int32.le_iff_toInt_le.mpr z.2⟩; simp only [F_sheet, Int32.le_iff_toInt_le, Int32.lt_iff_toInt_lt, ← Int32.toInt_inj]; split <;> first | rfl | (exfalso; simp at *; omega)) | (have : 0 ≤ (sheet).toInt := Int32.le_iff_toInt_le.mp (c398.1); have : (sheet).toInt ≤ 3 := Int32.le_iff_toInt_le.mp (c398.2); have : ¬ (-1 ≤ (sort).toInt ∧ (sort).toInt ≤ 4) := fun z => c399 ⟨Int32.le_iff_toInt_le.mpr z.1, Int32.le_iff_toInt_le.mpr z.2⟩; unfold F_sheet; (repeat' split) <;> first | rfl | (exfalso; (try simp only [Int32.le_iff_toInt_le, Int32.lt_iff_toInt_lt, ← Int32.toInt_inj] at *); first | omega | (simp at *; done) | (simp at *; omega))))
    · have c399 := gB_o c399
      refine G_iload_n (pc := 16) rfl dX12_sheet_16 ?_
      refine G_if_lt (pc := 17) (tgt := 28) (by decide) dX12_sheet_17 (fun c400 => ?_) (fun c400 => ?_)
      · refine G_iload_n (pc := 28) rfl dX12_sheet_28 ?_
        refine G_if_lt (pc := 29) (tgt := 39) (by decide) dX12_sheet_29 (fun c401 => ?_) (fun c401 => ?_)
        · refine G_aload_n (pc := 39) rfl dX12_sheet_39 ?_
          refine G_getR (pc := 40) (r := 82) (ci := 12) (j := 28) rfl lk_RX12_53 rfl rfl rfl dX12_sheet_40 ?_
          refine G_iload_n (pc := 43) rfl dX12_sheet_43 ?_
          refine G_iload_n (pc := 44) rfl dX12_sheet_44 ?_
          by_cases c402 : sheet = 0
          · subst c402
            refine G_iast (pc := 45) (jj := 0) (by decide) rfl (by unfold vp_in; decide) dX12_sheet_45 ?_
            refine G_aload_n (pc := 46) rfl dX12_sheet_46 ?_
            refine G_getR (pc := 47) (r := 83) (ci := 12) (j := 29) rfl lk_RX12_56 rfl rfl rfl dX12_sheet_47 ?_
            refine G_iload_n (pc := 50) rfl dX12_sheet_50 ?_
            refine G_iload_n (pc := 51) rfl dX12_sheet_51 ?_
            refine G_if_ge (pc := 52) (tgt := 59) (by decide) dX12_sheet_52 (fun c403 => ?_) (fun c403 => ?_)
            · exfalso; have : -1 ≤ (sort).toInt := Int32.le_iff_toInt_le.mp (c399.1); have : (sort).toInt ≤ 4 := Int32.le_iff_toInt_le.mp (c399.2); have : (sort).toInt < 0 := Int32.lt_iff_toInt_lt.mp (c400); have : (sort).toInt < 0 := Int32.lt_iff_toInt_lt.mp (c401); have : 0 ≤ (sort).toInt := Int32.le_iff_toInt_le.mp (c403); omega
            · refine G_iconst (pc := 55) (v := 0) (by decide) dX12_sheet_55 ?_
              refine G_goto (pc := 56) (tgt := 60) (by decide) dX12_sheet_56 ?_
              refine G_iast (pc := 60) (jj := 0) (by decide) rfl (by unfold vp_in; decide) dX12_sheet_60 ?_
              refine G_iconst (pc := 61) (v := 0) (by decide) dX12_sheet_61 ?_
              refine G_istore (pc := 62) (L1 := [some (.ref 67), some (.int 0), some (.int sort), some (.int n), some (.int 0)]) rfl rfl (by decide) dX12_sheet_62 ?_
              have : -1 ≤ (sort).toInt := Int32.le_iff_toInt_le.mp (c399.1)
              have : (sort).toInt ≤ 4 := Int32.le_iff_toInt_le.mp (c399.2)
              have : (sort).toInt < 0 := Int32.lt_iff_toInt_lt.mp (c400)
              have : (sort).toInt < 0 := Int32.lt_iff_toInt_lt.mp (c401)
              have : (sort).toInt < 0 := Int32.lt_iff_toInt_lt.mp (Int32.not_le.mp c403)
              have e : F_sheet 0 sort n = 1 := by
                first | rfl | (unfold F_sheet; (repeat' split) <;> first | rfl | (exfalso; (try simp only [Int32.le_iff_toInt_le, Int32.lt_iff_toInt_lt, ← Int32.toInt_inj] at *); first | omega | (simp at *; done) | (simp at *; omega)))
              rw [e]
              exact lm_sheet0 (d + 2) _ _ 41 0 _ trivial (by decide) (by decide) (by decide)
          by_cases c404 : sheet = 1
          · subst c404
            refine G_iast (pc := 45) (jj := 1) (by decide) rfl (by unfold vp_in; decide) dX12_sheet_45 ?_
            refine G_aload_n (pc := 46) rfl dX12_sheet_46 ?_
            refine G_getR (pc := 47) (r := 83) (ci := 12) (j := 29) rfl lk_RX12_56 rfl rfl rfl dX12_sheet_47 ?_
            refine G_iload_n (pc := 50) rfl dX12_sheet_50 ?_
            refine G_iload_n (pc := 51) rfl dX12_sheet_51 ?_
            refine G_if_ge (pc := 52) (tgt := 59) (by decide) dX12_sheet_52 (fun c405 => ?_) (fun c405 => ?_)
            · exfalso; have : -1 ≤ (sort).toInt := Int32.le_iff_toInt_le.mp (c399.1); have : (sort).toInt ≤ 4 := Int32.le_iff_toInt_le.mp (c399.2); have : (sort).toInt < 0 := Int32.lt_iff_toInt_lt.mp (c400); have : (sort).toInt < 0 := Int32.lt_iff_toInt_lt.mp (c401); have : 0 ≤ (sort).toInt := Int32.le_iff_toInt_le.mp (c405); omega
            · refine G_iconst (pc := 55) (v := 0) (by decide) dX12_sheet_55 ?_
              refine G_goto (pc := 56) (tgt := 60) (by decide) dX12_sheet_56 ?_
              refine G_iast (pc := 60) (jj := 1) (by decide) rfl (by unfold vp_in; decide) dX12_sheet_60 ?_
              refine G_iconst (pc := 61) (v := 0) (by decide) dX12_sheet_61 ?_
              refine G_istore (pc := 62) (L1 := [some (.ref 67), some (.int 1), some (.int sort), some (.int n), some (.int 0)]) rfl rfl (by decide) dX12_sheet_62 ?_
              have : -1 ≤ (sort).toInt := Int32.le_iff_toInt_le.mp (c399.1)
              have : (sort).toInt ≤ 4 := Int32.le_iff_toInt_le.mp (c399.2)
              have : (sort).toInt < 0 := Int32.lt_iff_toInt_lt.mp (c400)
              have : (sort).toInt < 0 := Int32.lt_iff_toInt_lt.mp (c401)
              have : (sort).toInt < 0 := Int32.lt_iff_toInt_lt.mp (Int32.not_le.mp c405)
              have e : F_sheet 1 sort n = 1 := by
                first | rfl | (unfold F_sheet; (repeat' split) <;> first | rfl | (exfalso; (try simp only [Int32.le_iff_toInt_le, Int32.lt_iff_toInt_lt, ← Int32.toInt_inj] at *); first | omega | (simp at *; done) | (simp at *; omega)))
              rw [e]
              exact lm_sheet1 (d + 2) _ _ 41 0 _ trivial (by decide) (by decide) (by decide)
          by_cases c406 : sheet = 2
          · subst c406
            refine G_iast (pc := 45) (jj := 2) (by decide) rfl (by unfold vp_in; decide) dX12_sheet_45 ?_
            refine G_aload_n (pc := 46) rfl dX12_sheet_46 ?_
            refine G_getR (pc := 47) (r := 83) (ci := 12) (j := 29) rfl lk_RX12_56 rfl rfl rfl dX12_sheet_47 ?_
            refine G_iload_n (pc := 50) rfl dX12_sheet_50 ?_
            refine G_iload_n (pc := 51) rfl dX12_sheet_51 ?_
            refine G_if_ge (pc := 52) (tgt := 59) (by decide) dX12_sheet_52 (fun c407 => ?_) (fun c407 => ?_)
            · exfalso; have : -1 ≤ (sort).toInt := Int32.le_iff_toInt_le.mp (c399.1); have : (sort).toInt ≤ 4 := Int32.le_iff_toInt_le.mp (c399.2); have : (sort).toInt < 0 := Int32.lt_iff_toInt_lt.mp (c400); have : (sort).toInt < 0 := Int32.lt_iff_toInt_lt.mp (c401); have : 0 ≤ (sort).toInt := Int32.le_iff_toInt_le.mp (c407); omega
            · refine G_iconst (pc := 55) (v := 0) (by decide) dX12_sheet_55 ?_
              refine G_goto (pc := 56) (tgt := 60) (by decide) dX12_sheet_56 ?_
              refine G_iast (pc := 60) (jj := 2) (by decide) rfl (by unfold vp_in; decide) dX12_sheet_60 ?_
              refine G_iconst (pc := 61) (v := 0) (by decide) dX12_sheet_61 ?_
              refine G_istore (pc := 62) (L1 := [some (.ref 67), some (.int 2), some (.int sort), some (.int n), some (.int 0)]) rfl rfl (by decide) dX12_sheet_62 ?_
              have : -1 ≤ (sort).toInt := Int32.le_iff_toInt_le.mp (c399.1)
              have : (sort).toInt ≤ 4 := Int32.le_iff_toInt_le.mp (c399.2)
              have : (sort).toInt < 0 := Int32.lt_iff_toInt_lt.mp (c400)
              have : (sort).toInt < 0 := Int32.lt_iff_toInt_lt.mp (c401)
              have : (sort).toInt < 0 := Int32.lt_iff_toInt_lt.mp (Int32.not_le.mp c407)
              have e : F_sheet 2 sort n = 1 := by
                first | rfl | (unfold F_sheet; (repeat' split) <;> first | rfl | (exfalso; (try simp only [Int32.le_iff_toInt_le, Int32.lt_iff_toInt_lt, ← Int32.toInt_inj] at *); first | omega | (simp at *; done) | (simp at *; omega)))
              rw [e]
              exact lm_sheet2 (d + 2) _ _ 41 0 _ trivial (by decide) (by decide) (by decide)
          by_cases c408 : sheet = 3
          · subst c408
            refine G_iast (pc := 45) (jj := 3) (by decide) rfl (by unfold vp_in; decide) dX12_sheet_45 ?_
            refine G_aload_n (pc := 46) rfl dX12_sheet_46 ?_
            refine G_getR (pc := 47) (r := 83) (ci := 12) (j := 29) rfl lk_RX12_56 rfl rfl rfl dX12_sheet_47 ?_
            refine G_iload_n (pc := 50) rfl dX12_sheet_50 ?_
            refine G_iload_n (pc := 51) rfl dX12_sheet_51 ?_
            refine G_if_ge (pc := 52) (tgt := 59) (by decide) dX12_sheet_52 (fun c409 => ?_) (fun c409 => ?_)
            · exfalso; have : -1 ≤ (sort).toInt := Int32.le_iff_toInt_le.mp (c399.1); have : (sort).toInt ≤ 4 := Int32.le_iff_toInt_le.mp (c399.2); have : (sort).toInt < 0 := Int32.lt_iff_toInt_lt.mp (c400); have : (sort).toInt < 0 := Int32.lt_iff_toInt_lt.mp (c401); have : 0 ≤ (sort).toInt := Int32.le_iff_toInt_le.mp (c409); omega
            · refine G_iconst (pc := 55) (v := 0) (by decide) dX12_sheet_55 ?_
              refine G_goto (pc := 56) (tgt := 60) (by decide) dX12_sheet_56 ?_
              refine G_iast (pc := 60) (jj := 3) (by decide) rfl (by unfold vp_in; decide) dX12_sheet_60 ?_
              refine G_iconst (pc := 61) (v := 0) (by decide) dX12_sheet_61 ?_
              refine G_istore (pc := 62) (L1 := [some (.ref 67), some (.int 3), some (.int sort), some (.int n), some (.int 0)]) rfl rfl (by decide) dX12_sheet_62 ?_
              have : -1 ≤ (sort).toInt := Int32.le_iff_toInt_le.mp (c399.1)
              have : (sort).toInt ≤ 4 := Int32.le_iff_toInt_le.mp (c399.2)
              have : (sort).toInt < 0 := Int32.lt_iff_toInt_lt.mp (c400)
              have : (sort).toInt < 0 := Int32.lt_iff_toInt_lt.mp (c401)
              have : (sort).toInt < 0 := Int32.lt_iff_toInt_lt.mp (Int32.not_le.mp c409)
              have e : F_sheet 3 sort n = 1 := by
                first | rfl | (unfold F_sheet; (repeat' split) <;> first | rfl | (exfalso; (try simp only [Int32.le_iff_toInt_le, Int32.lt_iff_toInt_lt, ← Int32.toInt_inj] at *); first | omega | (simp at *; done) | (simp at *; omega)))
              rw [e]
              exact lm_sheet3 (d + 2) _ _ 41 0 _ trivial (by decide) (by decide) (by decide)
          exfalso
          have : 0 ≤ (sheet).toInt := Int32.le_iff_toInt_le.mp (c398.1)
          have : (sheet).toInt ≤ 3 := Int32.le_iff_toInt_le.mp (c398.2)
          have : (sheet).toInt ≠ 0 := g_ne (c402)
          have : (sheet).toInt ≠ 1 := g_ne (c404)
          have : (sheet).toInt ≠ 2 := g_ne (c406)
          have : (sheet).toInt ≠ 3 := g_ne (c408)
          omega
        · exact absurd c400 c401
      · refine G_iload_n (pc := 20) rfl dX12_sheet_20 ?_
        refine G_bipush (pc := 21) (v := 40) (by decide) dX12_sheet_21 ?_
        refine G_icmp_le (pc := 23) (tgt := 28) (by decide) dX12_sheet_23 (fun c410 => ?_) (fun c410 => ?_)
        · refine G_iload_n (pc := 28) rfl dX12_sheet_28 ?_
          refine G_if_lt (pc := 29) (tgt := 39) (by decide) dX12_sheet_29 (fun c411 => ?_) (fun c411 => ?_)
          · exact absurd c411 c400
          · refine G_iload_n (pc := 32) rfl dX12_sheet_32 ?_
            refine G_if_ge (pc := 33) (tgt := 39) (by decide) dX12_sheet_33 (fun c412 => ?_) (fun c412 => ?_)
            · refine G_aload_n (pc := 39) rfl dX12_sheet_39 ?_
              refine G_getR (pc := 40) (r := 82) (ci := 12) (j := 28) rfl lk_RX12_53 rfl rfl rfl dX12_sheet_40 ?_
              refine G_iload_n (pc := 43) rfl dX12_sheet_43 ?_
              refine G_iload_n (pc := 44) rfl dX12_sheet_44 ?_
              by_cases c413 : sheet = 0
              · subst c413
                refine G_iast (pc := 45) (jj := 0) (by decide) rfl (by unfold vp_in; decide) dX12_sheet_45 ?_
                refine G_aload_n (pc := 46) rfl dX12_sheet_46 ?_
                refine G_getR (pc := 47) (r := 83) (ci := 12) (j := 29) rfl lk_RX12_56 rfl rfl rfl dX12_sheet_47 ?_
                refine G_iload_n (pc := 50) rfl dX12_sheet_50 ?_
                refine G_iload_n (pc := 51) rfl dX12_sheet_51 ?_
                refine G_if_ge (pc := 52) (tgt := 59) (by decide) dX12_sheet_52 (fun c414 => ?_) (fun c414 => ?_)
                · refine G_iload_n (pc := 59) rfl dX12_sheet_59 ?_
                  refine G_iast (pc := 60) (jj := 0) (by decide) rfl (by unfold vp_in; decide) dX12_sheet_60 ?_
                  refine G_iconst (pc := 61) (v := 0) (by decide) dX12_sheet_61 ?_
                  refine G_istore (pc := 62) (L1 := [some (.ref 67), some (.int 0), some (.int sort), some (.int n), some (.int 0)]) rfl rfl (by decide) dX12_sheet_62 ?_
                  have : (n).toInt ≤ 40 := Int32.le_iff_toInt_le.mp (c410)
                  have : 0 ≤ (n).toInt := Int32.le_iff_toInt_le.mp (c412)
                  have : -1 ≤ (sort).toInt := Int32.le_iff_toInt_le.mp (c399.1)
                  have : (sort).toInt ≤ 4 := Int32.le_iff_toInt_le.mp (c399.2)
                  have : 0 ≤ (sort).toInt := Int32.le_iff_toInt_le.mp (Int32.not_lt.mp c400)
                  have : 0 ≤ (sort).toInt := Int32.le_iff_toInt_le.mp (Int32.not_lt.mp c411)
                  have : 0 ≤ (sort).toInt := Int32.le_iff_toInt_le.mp (c414)
                  have e : F_sheet 0 sort n = 1 := by
                    first | rfl | (unfold F_sheet; (repeat' split) <;> first | rfl | (exfalso; (try simp only [Int32.le_iff_toInt_le, Int32.lt_iff_toInt_lt, ← Int32.toInt_inj] at *); first | omega | (simp at *; done) | (simp at *; omega)))
                  rw [e]
                  exact lm_sheet0 (d + 2) _ _ 41 0 _ trivial (by decide) (by decide) (by decide)
                · exfalso; have : -1 ≤ (sort).toInt := Int32.le_iff_toInt_le.mp (c399.1); have : (sort).toInt ≤ 4 := Int32.le_iff_toInt_le.mp (c399.2); have : 0 ≤ (sort).toInt := Int32.le_iff_toInt_le.mp (Int32.not_lt.mp c400); have : 0 ≤ (sort).toInt := Int32.le_iff_toInt_le.mp (Int32.not_lt.mp c411); have : (sort).toInt < 0 := Int32.lt_iff_toInt_lt.mp (Int32.not_le.mp c414); omega
              by_cases c415 : sheet = 1
              · subst c415
                refine G_iast (pc := 45) (jj := 1) (by decide) rfl (by unfold vp_in; decide) dX12_sheet_45 ?_
                refine G_aload_n (pc := 46) rfl dX12_sheet_46 ?_
                refine G_getR (pc := 47) (r := 83) (ci := 12) (j := 29) rfl lk_RX12_56 rfl rfl rfl dX12_sheet_47 ?_
                refine G_iload_n (pc := 50) rfl dX12_sheet_50 ?_
                refine G_iload_n (pc := 51) rfl dX12_sheet_51 ?_
                refine G_if_ge (pc := 52) (tgt := 59) (by decide) dX12_sheet_52 (fun c416 => ?_) (fun c416 => ?_)
                · refine G_iload_n (pc := 59) rfl dX12_sheet_59 ?_
                  refine G_iast (pc := 60) (jj := 1) (by decide) rfl (by unfold vp_in; decide) dX12_sheet_60 ?_
                  refine G_iconst (pc := 61) (v := 0) (by decide) dX12_sheet_61 ?_
                  refine G_istore (pc := 62) (L1 := [some (.ref 67), some (.int 1), some (.int sort), some (.int n), some (.int 0)]) rfl rfl (by decide) dX12_sheet_62 ?_
                  have : (n).toInt ≤ 40 := Int32.le_iff_toInt_le.mp (c410)
                  have : 0 ≤ (n).toInt := Int32.le_iff_toInt_le.mp (c412)
                  have : -1 ≤ (sort).toInt := Int32.le_iff_toInt_le.mp (c399.1)
                  have : (sort).toInt ≤ 4 := Int32.le_iff_toInt_le.mp (c399.2)
                  have : 0 ≤ (sort).toInt := Int32.le_iff_toInt_le.mp (Int32.not_lt.mp c400)
                  have : 0 ≤ (sort).toInt := Int32.le_iff_toInt_le.mp (Int32.not_lt.mp c411)
                  have : 0 ≤ (sort).toInt := Int32.le_iff_toInt_le.mp (c416)
                  have e : F_sheet 1 sort n = 1 := by
                    first | rfl | (unfold F_sheet; (repeat' split) <;> first | rfl | (exfalso; (try simp only [Int32.le_iff_toInt_le, Int32.lt_iff_toInt_lt, ← Int32.toInt_inj] at *); first | omega | (simp at *; done) | (simp at *; omega)))
                  rw [e]
                  exact lm_sheet1 (d + 2) _ _ 41 0 _ trivial (by decide) (by decide) (by decide)
                · exfalso; have : -1 ≤ (sort).toInt := Int32.le_iff_toInt_le.mp (c399.1); have : (sort).toInt ≤ 4 := Int32.le_iff_toInt_le.mp (c399.2); have : 0 ≤ (sort).toInt := Int32.le_iff_toInt_le.mp (Int32.not_lt.mp c400); have : 0 ≤ (sort).toInt := Int32.le_iff_toInt_le.mp (Int32.not_lt.mp c411); have : (sort).toInt < 0 := Int32.lt_iff_toInt_lt.mp (Int32.not_le.mp c416); omega
              by_cases c417 : sheet = 2
              · subst c417
                refine G_iast (pc := 45) (jj := 2) (by decide) rfl (by unfold vp_in; decide) dX12_sheet_45 ?_
                refine G_aload_n (pc := 46) rfl dX12_sheet_46 ?_
                refine G_getR (pc := 47) (r := 83) (ci := 12) (j := 29) rfl lk_RX12_56 rfl rfl rfl dX12_sheet_47 ?_
                refine G_iload_n (pc := 50) rfl dX12_sheet_50 ?_
                refine G_iload_n (pc := 51) rfl dX12_sheet_51 ?_
                refine G_if_ge (pc := 52) (tgt := 59) (by decide) dX12_sheet_52 (fun c418 => ?_) (fun c418 => ?_)
                · refine G_iload_n (pc := 59) rfl dX12_sheet_59 ?_
                  refine G_iast (pc := 60) (jj := 2) (by decide) rfl (by unfold vp_in; decide) dX12_sheet_60 ?_
                  refine G_iconst (pc := 61) (v := 0) (by decide) dX12_sheet_61 ?_
                  refine G_istore (pc := 62) (L1 := [some (.ref 67), some (.int 2), some (.int sort), some (.int n), some (.int 0)]) rfl rfl (by decide) dX12_sheet_62 ?_
                  have : (n).toInt ≤ 40 := Int32.le_iff_toInt_le.mp (c410)
                  have : 0 ≤ (n).toInt := Int32.le_iff_toInt_le.mp (c412)
                  have : -1 ≤ (sort).toInt := Int32.le_iff_toInt_le.mp (c399.1)
                  have : (sort).toInt ≤ 4 := Int32.le_iff_toInt_le.mp (c399.2)
                  have : 0 ≤ (sort).toInt := Int32.le_iff_toInt_le.mp (Int32.not_lt.mp c400)
                  have : 0 ≤ (sort).toInt := Int32.le_iff_toInt_le.mp (Int32.not_lt.mp c411)
                  have : 0 ≤ (sort).toInt := Int32.le_iff_toInt_le.mp (c418)
                  have e : F_sheet 2 sort n = 1 := by
                    first | rfl | (unfold F_sheet; (repeat' split) <;> first | rfl | (exfalso; (try simp only [Int32.le_iff_toInt_le, Int32.lt_iff_toInt_lt, ← Int32.toInt_inj] at *); first | omega | (simp at *; done) | (simp at *; omega)))
                  rw [e]
                  exact lm_sheet2 (d + 2) _ _ 41 0 _ trivial (by decide) (by decide) (by decide)
                · exfalso; have : -1 ≤ (sort).toInt := Int32.le_iff_toInt_le.mp (c399.1); have : (sort).toInt ≤ 4 := Int32.le_iff_toInt_le.mp (c399.2); have : 0 ≤ (sort).toInt := Int32.le_iff_toInt_le.mp (Int32.not_lt.mp c400); have : 0 ≤ (sort).toInt := Int32.le_iff_toInt_le.mp (Int32.not_lt.mp c411); have : (sort).toInt < 0 := Int32.lt_iff_toInt_lt.mp (Int32.not_le.mp c418); omega
              by_cases c419 : sheet = 3
              · subst c419
                refine G_iast (pc := 45) (jj := 3) (by decide) rfl (by unfold vp_in; decide) dX12_sheet_45 ?_
                refine G_aload_n (pc := 46) rfl dX12_sheet_46 ?_
                refine G_getR (pc := 47) (r := 83) (ci := 12) (j := 29) rfl lk_RX12_56 rfl rfl rfl dX12_sheet_47 ?_
                refine G_iload_n (pc := 50) rfl dX12_sheet_50 ?_
                refine G_iload_n (pc := 51) rfl dX12_sheet_51 ?_
                refine G_if_ge (pc := 52) (tgt := 59) (by decide) dX12_sheet_52 (fun c420 => ?_) (fun c420 => ?_)
                · refine G_iload_n (pc := 59) rfl dX12_sheet_59 ?_
                  refine G_iast (pc := 60) (jj := 3) (by decide) rfl (by unfold vp_in; decide) dX12_sheet_60 ?_
                  refine G_iconst (pc := 61) (v := 0) (by decide) dX12_sheet_61 ?_
                  refine G_istore (pc := 62) (L1 := [some (.ref 67), some (.int 3), some (.int sort), some (.int n), some (.int 0)]) rfl rfl (by decide) dX12_sheet_62 ?_
                  have : (n).toInt ≤ 40 := Int32.le_iff_toInt_le.mp (c410)
                  have : 0 ≤ (n).toInt := Int32.le_iff_toInt_le.mp (c412)
                  have : -1 ≤ (sort).toInt := Int32.le_iff_toInt_le.mp (c399.1)
                  have : (sort).toInt ≤ 4 := Int32.le_iff_toInt_le.mp (c399.2)
                  have : 0 ≤ (sort).toInt := Int32.le_iff_toInt_le.mp (Int32.not_lt.mp c400)
                  have : 0 ≤ (sort).toInt := Int32.le_iff_toInt_le.mp (Int32.not_lt.mp c411)
                  have : 0 ≤ (sort).toInt := Int32.le_iff_toInt_le.mp (c420)
                  have e : F_sheet 3 sort n = 1 := by
                    first | rfl | (unfold F_sheet; (repeat' split) <;> first | rfl | (exfalso; (try simp only [Int32.le_iff_toInt_le, Int32.lt_iff_toInt_lt, ← Int32.toInt_inj] at *); first | omega | (simp at *; done) | (simp at *; omega)))
                  rw [e]
                  exact lm_sheet3 (d + 2) _ _ 41 0 _ trivial (by decide) (by decide) (by decide)
                · exfalso; have : -1 ≤ (sort).toInt := Int32.le_iff_toInt_le.mp (c399.1); have : (sort).toInt ≤ 4 := Int32.le_iff_toInt_le.mp (c399.2); have : 0 ≤ (sort).toInt := Int32.le_iff_toInt_le.mp (Int32.not_lt.mp c400); have : 0 ≤ (sort).toInt := Int32.le_iff_toInt_le.mp (Int32.not_lt.mp c411); have : (sort).toInt < 0 := Int32.lt_iff_toInt_lt.mp (Int32.not_le.mp c420); omega
              exfalso
              have : 0 ≤ (sheet).toInt := Int32.le_iff_toInt_le.mp (c398.1)
              have : (sheet).toInt ≤ 3 := Int32.le_iff_toInt_le.mp (c398.2)
              have : (sheet).toInt ≠ 0 := g_ne (c413)
              have : (sheet).toInt ≠ 1 := g_ne (c415)
              have : (sheet).toInt ≠ 2 := g_ne (c417)
              have : (sheet).toInt ≠ 3 := g_ne (c419)
              omega
            · refine G_bipush (pc := 36) (v := (-14)) (by decide) dX12_sheet_36 ?_
              exact G_iret (pc := 38) (Nat.le_of_ble_eq_true rfl) (Nat.le_of_ble_eq_true rfl) rfl dX12_sheet_38 (by first | rfl | (simp [F_sheet, *]; done) | (have : 0 ≤ (sheet).toInt := Int32.le_iff_toInt_le.mp (c398.1); have : (sheet).toInt ≤ 3 := Int32.le_iff_toInt_le.mp (c398.2); have : -1 ≤ (sort).toInt := Int32.le_iff_toInt_le.mp (c399.1); have : (sort).toInt ≤ 4 := Int32.le_iff_toInt_le.mp (c399.2); have : 0 ≤ (sort).toInt := Int32.le_iff_toInt_le.mp (Int32.not_lt.mp c400); have : 0 ≤ (sort).toInt := Int32.le_iff_toInt_le.mp (Int32.not_lt.mp c411); have : (n).toInt ≤ 40 := Int32.le_iff_toInt_le.mp (c410); have : (n).toInt < 0 := Int32.lt_iff_toInt_lt.mp (Int32.not_le.mp c412); simp only [F_sheet, Int32.le_iff_toInt_le, Int32.lt_iff_toInt_lt, ← Int32.toInt_inj]; simp; omega) | (have : 0 ≤ (sheet).toInt := Int32.le_iff_toInt_le.mp (c398.1); have : (sheet).toInt ≤ 3 := Int32.le_iff_toInt_le.mp (c398.2); have : -1 ≤ (sort).toInt := Int32.le_iff_toInt_le.mp (c399.1); have : (sort).toInt ≤ 4 := Int32.le_iff_toInt_le.mp (c399.2); have : 0 ≤ (sort).toInt := Int32.le_iff_toInt_le.mp (Int32.not_lt.mp c400); have : 0 ≤ (sort).toInt := Int32.le_iff_toInt_le.mp (Int32.not_lt.mp c411); have : (n).toInt ≤ 40 := Int32.le_iff_toInt_le.mp (c410); have : (n).toInt < 0 := Int32.lt_iff_toInt_lt.mp (Int32.not_le.mp c412); simp only [F_sheet, Int32.le_iff_toInt_le, Int32.lt_iff_toInt_lt, ← Int32.toInt_inj]; split <;> first | rfl | (exfalso; simp at *; omega)) | (have : 0 ≤ (sheet).toInt := Int32.le_iff_toInt_le.mp (c398.1); have : (sheet).toInt ≤ 3 := Int32.le_iff_toInt_le.mp (c398.2); have : -1 ≤ (sort).toInt := Int32.le_iff_toInt_le.mp (c399.1); have : (sort).toInt ≤ 4 := Int32.le_iff_toInt_le.mp (c399.2); have : 0 ≤ (sort).toInt := Int32.le_iff_toInt_le.mp (Int32.not_lt.mp c400); have : 0 ≤ (sort).toInt := Int32.le_iff_toInt_le.mp (Int32.not_lt.mp c411); have : (n).toInt ≤ 40 := Int32.le_iff_toInt_le.mp (c410); have : (n).toInt < 0 := Int32.lt_iff_toInt_lt.mp (Int32.not_le.mp c412); unfold F_sheet; (repeat' split) <;> first | rfl | (exfalso; (try simp only [Int32.le_iff_toInt_le, Int32.lt_iff_toInt_lt, ← Int32.toInt_inj] at *); first | omega | (simp at *; done) | (simp at *; omega))))
        · refine G_iconst (pc := 26) (v := (-1)) (by decide) dX12_sheet_26 ?_
          exact G_iret (pc := 27) (Nat.le_of_ble_eq_true rfl) (Nat.le_of_ble_eq_true rfl) rfl dX12_sheet_27 (by first | rfl | (simp [F_sheet, *]; done) | (have : 0 ≤ (sheet).toInt := Int32.le_iff_toInt_le.mp (c398.1); have : (sheet).toInt ≤ 3 := Int32.le_iff_toInt_le.mp (c398.2); have : -1 ≤ (sort).toInt := Int32.le_iff_toInt_le.mp (c399.1); have : (sort).toInt ≤ 4 := Int32.le_iff_toInt_le.mp (c399.2); have : 0 ≤ (sort).toInt := Int32.le_iff_toInt_le.mp (Int32.not_lt.mp c400); have : 40 < (n).toInt := Int32.lt_iff_toInt_lt.mp (Int32.not_le.mp c410); simp only [F_sheet, Int32.le_iff_toInt_le, Int32.lt_iff_toInt_lt, ← Int32.toInt_inj]; simp; omega) | (have : 0 ≤ (sheet).toInt := Int32.le_iff_toInt_le.mp (c398.1); have : (sheet).toInt ≤ 3 := Int32.le_iff_toInt_le.mp (c398.2); have : -1 ≤ (sort).toInt := Int32.le_iff_toInt_le.mp (c399.1); have : (sort).toInt ≤ 4 := Int32.le_iff_toInt_le.mp (c399.2); have : 0 ≤ (sort).toInt := Int32.le_iff_toInt_le.mp (Int32.not_lt.mp c400); have : 40 < (n).toInt := Int32.lt_iff_toInt_lt.mp (Int32.not_le.mp c410); simp only [F_sheet, Int32.le_iff_toInt_le, Int32.lt_iff_toInt_lt, ← Int32.toInt_inj]; split <;> first | rfl | (exfalso; simp at *; omega)) | (have : 0 ≤ (sheet).toInt := Int32.le_iff_toInt_le.mp (c398.1); have : (sheet).toInt ≤ 3 := Int32.le_iff_toInt_le.mp (c398.2); have : -1 ≤ (sort).toInt := Int32.le_iff_toInt_le.mp (c399.1); have : (sort).toInt ≤ 4 := Int32.le_iff_toInt_le.mp (c399.2); have : 0 ≤ (sort).toInt := Int32.le_iff_toInt_le.mp (Int32.not_lt.mp c400); have : 40 < (n).toInt := Int32.lt_iff_toInt_lt.mp (Int32.not_le.mp c410); unfold F_sheet; (repeat' split) <;> first | rfl | (exfalso; (try simp only [Int32.le_iff_toInt_le, Int32.lt_iff_toInt_lt, ← Int32.toInt_inj] at *); first | omega | (simp at *; done) | (simp at *; omega))))
set_option maxRecDepth 100000 in
set_option maxHeartbeats 4000000 in
theorem s10324_X12_isOver  (d : Nat) (I : gI) (hI : I 68 0 = 0 ∧ I 68 1 = 12 ∧ I 68 4 = 0 ∧ I 70 0 = 0 ∧ I 70 1 = 12 ∧ I 70 4 = 0 ∧ True)  : G (d) mX12_isOver 0 0 0 0 0 (gent 1 [.ref 67]) [] SH0 RF0 I (fun r h => r = some (.int 0) ∧ h = (SH0, RF0, I)) := by
  refine G_aload_n (pc := 0) rfl dX12_isOver_0 ?_
  refine G_getR (pc := 1) (r := 68) (ci := 12) (j := 0) rfl lk_RX12_9 rfl rfl rfl dX12_isOver_1 ?_
  refine G_iconst (pc := 4) (v := 0) (by decide) dX12_isOver_4 ?_
  refine G_iald (pc := 5) (jj := 0) (v := 0) (by decide) (hI.1) rfl (by unfold vp_in; decide) dX12_isOver_5 ?_
  refine G_aload_n (pc := 6) rfl dX12_isOver_6 ?_
  refine G_getR (pc := 7) (r := 68) (ci := 12) (j := 0) rfl lk_RX12_9 rfl rfl rfl dX12_isOver_7 ?_
  refine G_iconst (pc := 10) (v := 1) (by decide) dX12_isOver_10 ?_
  refine G_iald (pc := 11) (jj := 1) (v := 12) (by decide) (hI.2.1) rfl (by unfold vp_in; decide) dX12_isOver_11 ?_
  refine G_icmp_lt (pc := 12) (tgt := 19) (by decide) dX12_isOver_12 (fun _ => ?_) (fun z => absurd (by decide) z)
  refine G_iconst (pc := 19) (v := 0) (by decide) dX12_isOver_19 ?_
  exact G_zret (pc := 20) (Nat.le_of_ble_eq_true rfl) (Nat.le_of_ble_eq_true rfl) rfl (by decide) dX12_isOver_20 ⟨rfl, rfl⟩
set_option maxRecDepth 100000 in
set_option maxHeartbeats 4000000 in
theorem s10326_X12_goesBy  (d : Nat) (I : gI) (hI : I 68 0 = 0 ∧ I 68 1 = 12 ∧ I 68 4 = 0 ∧ I 70 0 = 0 ∧ I 70 1 = 12 ∧ I 70 4 = 0 ∧ True)  : G (d) mX12_goesBy 0 0 0 0 0 (gent 5 [.ref 67, .int 0]) [] SH0 RF0 (gup I 68 3 (((I 68 3) * 1103515245) + 12345)) (fun r h => r = some (.int 0) ∧ h = (SH0, RF0, (gup (gup (gup I 68 3 (((I 68 3) * 1103515245) + 12345)) 68 0 1) 68 2 ((I 68 2) + 0)))) := by
  refine G_iload_n (pc := 0) rfl dX12_goesBy_0 ?_
  refine G_if_ge (pc := 1) (tgt := 11) (by decide) dX12_goesBy_1 (fun _ => ?_) (fun z => absurd (by decide) z)
  refine G_iload_n (pc := 11) rfl dX12_goesBy_11 ?_
  refine G_iconst (pc := 12) (v := 1) (by decide) dX12_goesBy_12 ?_
  refine G_isub (pc := 13) (z := (-1)) (by decide) dX12_goesBy_13 ?_
  refine G_istore_n (pc := 14) (L1 := [some (.ref 67), some (.int 0), some (.int (-1)), none, none]) rfl rfl (by decide) dX12_goesBy_14 ?_
  refine G_iload_n (pc := 15) rfl dX12_goesBy_15 ?_
  refine G_if_lt (pc := 16) (tgt := 27) (by decide) dX12_goesBy_16 (fun _ => ?_) (fun z => absurd (by decide) z)
  refine G_iconst (pc := 27) (v := 0) (by decide) dX12_goesBy_27 ?_
  refine G_istore_n (pc := 28) (L1 := [some (.ref 67), some (.int 0), some (.int (-1)), some (.int 0), none]) rfl rfl (by decide) dX12_goesBy_28 ?_
  refine G_iconst (pc := 29) (v := 0) (by decide) dX12_goesBy_29 ?_
  refine G_istore (pc := 30) (L1 := [some (.ref 67), some (.int 0), some (.int (-1)), some (.int 0), some (.int 0)]) rfl rfl (by decide) dX12_goesBy_30 ?_
  refine G_iload (pc := 32) rfl dX12_goesBy_32 ?_
  refine G_aload_n (pc := 34) rfl dX12_goesBy_34 ?_
  refine G_getR (pc := 35) (r := 68) (ci := 12) (j := 0) rfl lk_RX12_9 rfl rfl rfl dX12_goesBy_35 ?_
  refine G_iconst (pc := 38) (v := 4) (by decide) dX12_goesBy_38 ?_
  refine G_iald (pc := 39) (jj := 4) (v := 0) (by decide) (hI.2.2.1) rfl (by unfold vp_in; decide) dX12_goesBy_39 ?_
  refine G_icmp_ge (pc := 40) (tgt := 104) (by decide) dX12_goesBy_40 (fun _ => ?_) (fun z => absurd (by decide) z)
  refine G_aload_n (pc := 104) rfl dX12_goesBy_104 ?_
  refine G_getR (pc := 105) (r := 68) (ci := 12) (j := 0) rfl lk_RX12_9 rfl rfl rfl dX12_goesBy_105 ?_
  refine G_iconst (pc := 108) (v := 0) (by decide) dX12_goesBy_108 ?_
  refine G_dup2 (pc := 109) rfl rfl dX12_goesBy_109 ?_
  refine G_iald (pc := 110) (jj := 0) (v := 0) (by decide) (hI.1) rfl (by unfold vp_in; decide) dX12_goesBy_110 ?_
  refine G_iconst (pc := 111) (v := 1) (by decide) dX12_goesBy_111 ?_
  refine G_iadd (pc := 112) (z := 1) (by decide) dX12_goesBy_112 ?_
  refine G_iast (pc := 113) (jj := 0) (by decide) rfl (by unfold vp_in; decide) dX12_goesBy_113 ?_
  refine G_aload_n (pc := 114) rfl dX12_goesBy_114 ?_
  refine G_getR (pc := 115) (r := 68) (ci := 12) (j := 0) rfl lk_RX12_9 rfl rfl rfl dX12_goesBy_115 ?_
  refine G_iconst (pc := 118) (v := 2) (by decide) dX12_goesBy_118 ?_
  refine G_dup2 (pc := 119) rfl rfl dX12_goesBy_119 ?_
  refine G_iald (pc := 120) (jj := 2) (v := (I 68 2)) (by decide) rfl rfl (by unfold vp_in; decide) dX12_goesBy_120 ?_
  refine G_iload_n (pc := 121) rfl dX12_goesBy_121 ?_
  refine G_iadd (pc := 122) rfl dX12_goesBy_122 ?_
  refine G_iast (pc := 123) (jj := 2) (by decide) rfl (by unfold vp_in; decide) dX12_goesBy_123 ?_
  refine G_iload_n (pc := 124) rfl dX12_goesBy_124 ?_
  exact G_iret (pc := 125) (Nat.le_of_ble_eq_true rfl) (Nat.le_of_ble_eq_true rfl) rfl dX12_goesBy_125 ⟨rfl, rfl⟩
set_option maxRecDepth 100000 in
set_option maxHeartbeats 4000000 in
theorem s10325_X12_byLot  (d : Nat) (I : gI) (hI : I 68 0 = 0 ∧ I 68 1 = 12 ∧ I 68 4 = 0 ∧ I 70 0 = 0 ∧ I 70 1 = 12 ∧ I 70 4 = 0 ∧ True)  : G (d + 1) mX12_byLot 0 0 0 0 0 (gent 1 [.ref 67]) [] SH0 RF0 I (fun r h => r = some (.int 0) ∧ h = (SH0, RF0, (gup (gup (gup I 68 3 (((I 68 3) * 1103515245) + 12345)) 68 0 1) 68 2 ((I 68 2) + 0)))) := by
  refine G_aload_n (pc := 0) rfl dX12_byLot_0 ?_
  refine G_getR (pc := 1) (r := 68) (ci := 12) (j := 0) rfl lk_RX12_9 rfl rfl rfl dX12_byLot_1 ?_
  refine G_iconst (pc := 4) (v := 3) (by decide) dX12_byLot_4 ?_
  refine G_aload_n (pc := 5) rfl dX12_byLot_5 ?_
  refine G_getR (pc := 6) (r := 68) (ci := 12) (j := 0) rfl lk_RX12_9 rfl rfl rfl dX12_byLot_6 ?_
  refine G_iconst (pc := 9) (v := 3) (by decide) dX12_byLot_9 ?_
  refine G_iald (pc := 10) (jj := 3) (v := (I 68 3)) (by decide) rfl rfl (by unfold vp_in; decide) dX12_byLot_10 ?_
  refine G_ldcw (pc := 11) (v := 1103515245) ck_RX12_313 dX12_byLot_11 ?_
  refine G_imul (pc := 14) rfl dX12_byLot_14 ?_
  refine G_sipush (pc := 15) (v := 12345) (by decide) dX12_byLot_15 ?_
  refine G_iadd (pc := 18) rfl dX12_byLot_18 ?_
  refine G_iast (pc := 19) (jj := 3) (by decide) rfl (by unfold vp_in; decide) dX12_byLot_19 ?_
  refine G_aload_n (pc := 20) rfl dX12_byLot_20 ?_
  refine G_aload_n (pc := 21) rfl dX12_byLot_21 ?_
  refine G_getR (pc := 22) (r := 68) (ci := 12) (j := 0) rfl lk_RX12_9 rfl rfl rfl dX12_byLot_22 ?_
  refine G_iconst (pc := 25) (v := 3) (by decide) dX12_byLot_25 ?_
  refine G_iald (pc := 26) (jj := 3) (v := (((I 68 3) * 1103515245) + 12345)) (by decide) rfl rfl (by unfold vp_in; decide) dX12_byLot_26 ?_
  refine G_bipush (pc := 27) (v := 16) (by decide) dX12_byLot_27 ?_
  refine G_iushr (pc := 29) rfl dX12_byLot_29 ?_
  refine G_aload_n (pc := 30) rfl dX12_byLot_30 ?_
  refine G_getR (pc := 31) (r := 68) (ci := 12) (j := 0) rfl lk_RX12_9 rfl rfl rfl dX12_byLot_31 ?_
  refine G_iconst (pc := 34) (v := 4) (by decide) dX12_byLot_34 ?_
  refine G_iald (pc := 35) (jj := 4) (v := 0) (by decide) (hI.2.2.1) rfl (by unfold vp_in; decide) dX12_byLot_35 ?_
  refine G_iconst (pc := 36) (v := 1) (by decide) dX12_byLot_36 ?_
  refine G_iadd (pc := 37) (z := 1) (by decide) dX12_byLot_37 ?_
  refine G_irem (pc := 38) (z := 0) (g_rem1 _) (by decide) dX12_byLot_38 ?_
  refine G_callV (pc := 39) (mc1 := 0) (ms1 := 0) (ci := 12) (mj := mX12_goesBy) (vs := [_]) dX12_byLot_39 rfl rfl cm_X12_goesBy wh_72 wh_74 wh_75 rfl (Nat.le_of_ble_eq_true rfl) (Nat.le_of_ble_eq_true rfl) (Nat.le_of_ble_eq_true rfl) (Nat.le_of_ble_eq_true rfl) (s10326_X12_goesBy  d _ hI ) ?_
  rintro _ _ ⟨rfl, rfl⟩
  dsimp only [Option.toList, List.cons_append, List.nil_append]
  exact G_iret (pc := 42) (Nat.le_of_ble_eq_true rfl) (Nat.le_of_ble_eq_true rfl) rfl dX12_byLot_42 ⟨rfl, rfl⟩
set_option maxRecDepth 100000 in
set_option maxHeartbeats 4000000 in
theorem s10327_X12_isOver  (d : Nat) (I : gI) (hI : I 68 0 = 0 ∧ I 68 1 = 12 ∧ I 68 4 = 0 ∧ I 70 0 = 0 ∧ I 70 1 = 12 ∧ I 70 4 = 0 ∧ True)  : G (d) mX12_isOver 0 0 0 0 0 (gent 1 [.ref 67]) [] SH0 RF0 (gup (gup (gup I 68 3 (((I 68 3) * 1103515245) + 12345)) 68 0 1) 68 2 ((I 68 2) + 0)) (fun r h => r = some (.int 0) ∧ h = (SH0, RF0, (gup (gup (gup I 68 3 (((I 68 3) * 1103515245) + 12345)) 68 0 1) 68 2 ((I 68 2) + 0)))) := by
  refine G_aload_n (pc := 0) rfl dX12_isOver_0 ?_
  refine G_getR (pc := 1) (r := 68) (ci := 12) (j := 0) rfl lk_RX12_9 rfl rfl rfl dX12_isOver_1 ?_
  refine G_iconst (pc := 4) (v := 0) (by decide) dX12_isOver_4 ?_
  refine G_iald (pc := 5) (jj := 0) (v := 1) (by decide) rfl rfl (by unfold vp_in; decide) dX12_isOver_5 ?_
  refine G_aload_n (pc := 6) rfl dX12_isOver_6 ?_
  refine G_getR (pc := 7) (r := 68) (ci := 12) (j := 0) rfl lk_RX12_9 rfl rfl rfl dX12_isOver_7 ?_
  refine G_iconst (pc := 10) (v := 1) (by decide) dX12_isOver_10 ?_
  refine G_iald (pc := 11) (jj := 1) (v := 12) (by decide) (hI.2.1) rfl (by unfold vp_in; decide) dX12_isOver_11 ?_
  refine G_icmp_lt (pc := 12) (tgt := 19) (by decide) dX12_isOver_12 (fun _ => ?_) (fun z => absurd (by decide) z)
  refine G_iconst (pc := 19) (v := 0) (by decide) dX12_isOver_19 ?_
  exact G_zret (pc := 20) (Nat.le_of_ble_eq_true rfl) (Nat.le_of_ble_eq_true rfl) rfl (by decide) dX12_isOver_20 ⟨rfl, rfl⟩
set_option maxRecDepth 100000 in
set_option maxHeartbeats 4000000 in
theorem s10329_X12_goesBy  (d : Nat) (I : gI) (hI : I 68 0 = 0 ∧ I 68 1 = 12 ∧ I 68 4 = 0 ∧ I 70 0 = 0 ∧ I 70 1 = 12 ∧ I 70 4 = 0 ∧ True)  : G (d) mX12_goesBy 0 0 0 0 0 (gent 5 [.ref 67, .int 0]) [] SH0 RF0 (gup (gup (gup (gup I 68 3 (((I 68 3) * 1103515245) + 12345)) 68 0 1) 68 2 ((I 68 2) + 0)) 68 3 (((((I 68 3) * 1103515245) + 12345) * 1103515245) + 12345)) (fun r h => r = some (.int 0) ∧ h = (SH0, RF0, (gup (gup (gup (gup (gup (gup I 68 3 (((I 68 3) * 1103515245) + 12345)) 68 0 1) 68 2 ((I 68 2) + 0)) 68 3 (((((I 68 3) * 1103515245) + 12345) * 1103515245) + 12345)) 68 0 2) 68 2 (((I 68 2) + 0) + 0)))) := by
  refine G_iload_n (pc := 0) rfl dX12_goesBy_0 ?_
  refine G_if_ge (pc := 1) (tgt := 11) (by decide) dX12_goesBy_1 (fun _ => ?_) (fun z => absurd (by decide) z)
  refine G_iload_n (pc := 11) rfl dX12_goesBy_11 ?_
  refine G_iconst (pc := 12) (v := 1) (by decide) dX12_goesBy_12 ?_
  refine G_isub (pc := 13) (z := (-1)) (by decide) dX12_goesBy_13 ?_
  refine G_istore_n (pc := 14) (L1 := [some (.ref 67), some (.int 0), some (.int (-1)), none, none]) rfl rfl (by decide) dX12_goesBy_14 ?_
  refine G_iload_n (pc := 15) rfl dX12_goesBy_15 ?_
  refine G_if_lt (pc := 16) (tgt := 27) (by decide) dX12_goesBy_16 (fun _ => ?_) (fun z => absurd (by decide) z)
  refine G_iconst (pc := 27) (v := 0) (by decide) dX12_goesBy_27 ?_
  refine G_istore_n (pc := 28) (L1 := [some (.ref 67), some (.int 0), some (.int (-1)), some (.int 0), none]) rfl rfl (by decide) dX12_goesBy_28 ?_
  refine G_iconst (pc := 29) (v := 0) (by decide) dX12_goesBy_29 ?_
  refine G_istore (pc := 30) (L1 := [some (.ref 67), some (.int 0), some (.int (-1)), some (.int 0), some (.int 0)]) rfl rfl (by decide) dX12_goesBy_30 ?_
  refine G_iload (pc := 32) rfl dX12_goesBy_32 ?_
  refine G_aload_n (pc := 34) rfl dX12_goesBy_34 ?_
  refine G_getR (pc := 35) (r := 68) (ci := 12) (j := 0) rfl lk_RX12_9 rfl rfl rfl dX12_goesBy_35 ?_
  refine G_iconst (pc := 38) (v := 4) (by decide) dX12_goesBy_38 ?_
  refine G_iald (pc := 39) (jj := 4) (v := 0) (by decide) (hI.2.2.1) rfl (by unfold vp_in; decide) dX12_goesBy_39 ?_
  refine G_icmp_ge (pc := 40) (tgt := 104) (by decide) dX12_goesBy_40 (fun _ => ?_) (fun z => absurd (by decide) z)
  refine G_aload_n (pc := 104) rfl dX12_goesBy_104 ?_
  refine G_getR (pc := 105) (r := 68) (ci := 12) (j := 0) rfl lk_RX12_9 rfl rfl rfl dX12_goesBy_105 ?_
  refine G_iconst (pc := 108) (v := 0) (by decide) dX12_goesBy_108 ?_
  refine G_dup2 (pc := 109) rfl rfl dX12_goesBy_109 ?_
  refine G_iald (pc := 110) (jj := 0) (v := 1) (by decide) rfl rfl (by unfold vp_in; decide) dX12_goesBy_110 ?_
  refine G_iconst (pc := 111) (v := 1) (by decide) dX12_goesBy_111 ?_
  refine G_iadd (pc := 112) (z := 2) (by decide) dX12_goesBy_112 ?_
  refine G_iast (pc := 113) (jj := 0) (by decide) rfl (by unfold vp_in; decide) dX12_goesBy_113 ?_
  refine G_aload_n (pc := 114) rfl dX12_goesBy_114 ?_
  refine G_getR (pc := 115) (r := 68) (ci := 12) (j := 0) rfl lk_RX12_9 rfl rfl rfl dX12_goesBy_115 ?_
  refine G_iconst (pc := 118) (v := 2) (by decide) dX12_goesBy_118 ?_
  refine G_dup2 (pc := 119) rfl rfl dX12_goesBy_119 ?_
  refine G_iald (pc := 120) (jj := 2) (v := ((I 68 2) + 0)) (by decide) rfl rfl (by unfold vp_in; decide) dX12_goesBy_120 ?_
  refine G_iload_n (pc := 121) rfl dX12_goesBy_121 ?_
  refine G_iadd (pc := 122) rfl dX12_goesBy_122 ?_
  refine G_iast (pc := 123) (jj := 2) (by decide) rfl (by unfold vp_in; decide) dX12_goesBy_123 ?_
  refine G_iload_n (pc := 124) rfl dX12_goesBy_124 ?_
  exact G_iret (pc := 125) (Nat.le_of_ble_eq_true rfl) (Nat.le_of_ble_eq_true rfl) rfl dX12_goesBy_125 ⟨rfl, rfl⟩
set_option maxRecDepth 100000 in
set_option maxHeartbeats 4000000 in
theorem s10328_X12_byLot  (d : Nat) (I : gI) (hI : I 68 0 = 0 ∧ I 68 1 = 12 ∧ I 68 4 = 0 ∧ I 70 0 = 0 ∧ I 70 1 = 12 ∧ I 70 4 = 0 ∧ True)  : G (d + 1) mX12_byLot 0 0 0 0 0 (gent 1 [.ref 67]) [] SH0 RF0 (gup (gup (gup I 68 3 (((I 68 3) * 1103515245) + 12345)) 68 0 1) 68 2 ((I 68 2) + 0)) (fun r h => r = some (.int 0) ∧ h = (SH0, RF0, (gup (gup (gup (gup (gup (gup I 68 3 (((I 68 3) * 1103515245) + 12345)) 68 0 1) 68 2 ((I 68 2) + 0)) 68 3 (((((I 68 3) * 1103515245) + 12345) * 1103515245) + 12345)) 68 0 2) 68 2 (((I 68 2) + 0) + 0)))) := by
  refine G_aload_n (pc := 0) rfl dX12_byLot_0 ?_
  refine G_getR (pc := 1) (r := 68) (ci := 12) (j := 0) rfl lk_RX12_9 rfl rfl rfl dX12_byLot_1 ?_
  refine G_iconst (pc := 4) (v := 3) (by decide) dX12_byLot_4 ?_
  refine G_aload_n (pc := 5) rfl dX12_byLot_5 ?_
  refine G_getR (pc := 6) (r := 68) (ci := 12) (j := 0) rfl lk_RX12_9 rfl rfl rfl dX12_byLot_6 ?_
  refine G_iconst (pc := 9) (v := 3) (by decide) dX12_byLot_9 ?_
  refine G_iald (pc := 10) (jj := 3) (v := (((I 68 3) * 1103515245) + 12345)) (by decide) rfl rfl (by unfold vp_in; decide) dX12_byLot_10 ?_
  refine G_ldcw (pc := 11) (v := 1103515245) ck_RX12_313 dX12_byLot_11 ?_
  refine G_imul (pc := 14) rfl dX12_byLot_14 ?_
  refine G_sipush (pc := 15) (v := 12345) (by decide) dX12_byLot_15 ?_
  refine G_iadd (pc := 18) rfl dX12_byLot_18 ?_
  refine G_iast (pc := 19) (jj := 3) (by decide) rfl (by unfold vp_in; decide) dX12_byLot_19 ?_
  refine G_aload_n (pc := 20) rfl dX12_byLot_20 ?_
  refine G_aload_n (pc := 21) rfl dX12_byLot_21 ?_
  refine G_getR (pc := 22) (r := 68) (ci := 12) (j := 0) rfl lk_RX12_9 rfl rfl rfl dX12_byLot_22 ?_
  refine G_iconst (pc := 25) (v := 3) (by decide) dX12_byLot_25 ?_
  refine G_iald (pc := 26) (jj := 3) (v := (((((I 68 3) * 1103515245) + 12345) * 1103515245) + 12345)) (by decide) rfl rfl (by unfold vp_in; decide) dX12_byLot_26 ?_
  refine G_bipush (pc := 27) (v := 16) (by decide) dX12_byLot_27 ?_
  refine G_iushr (pc := 29) rfl dX12_byLot_29 ?_
  refine G_aload_n (pc := 30) rfl dX12_byLot_30 ?_
  refine G_getR (pc := 31) (r := 68) (ci := 12) (j := 0) rfl lk_RX12_9 rfl rfl rfl dX12_byLot_31 ?_
  refine G_iconst (pc := 34) (v := 4) (by decide) dX12_byLot_34 ?_
  refine G_iald (pc := 35) (jj := 4) (v := 0) (by decide) (hI.2.2.1) rfl (by unfold vp_in; decide) dX12_byLot_35 ?_
  refine G_iconst (pc := 36) (v := 1) (by decide) dX12_byLot_36 ?_
  refine G_iadd (pc := 37) (z := 1) (by decide) dX12_byLot_37 ?_
  refine G_irem (pc := 38) (z := 0) (g_rem1 _) (by decide) dX12_byLot_38 ?_
  refine G_callV (pc := 39) (mc1 := 0) (ms1 := 0) (ci := 12) (mj := mX12_goesBy) (vs := [_]) dX12_byLot_39 rfl rfl cm_X12_goesBy wh_72 wh_74 wh_75 rfl (Nat.le_of_ble_eq_true rfl) (Nat.le_of_ble_eq_true rfl) (Nat.le_of_ble_eq_true rfl) (Nat.le_of_ble_eq_true rfl) (s10329_X12_goesBy  d _ hI ) ?_
  rintro _ _ ⟨rfl, rfl⟩
  dsimp only [Option.toList, List.cons_append, List.nil_append]
  exact G_iret (pc := 42) (Nat.le_of_ble_eq_true rfl) (Nat.le_of_ble_eq_true rfl) rfl dX12_byLot_42 ⟨rfl, rfl⟩
set_option maxRecDepth 100000 in
set_option maxHeartbeats 4000000 in
theorem s10330_X12_isOver  (d : Nat) (I : gI) (hI : I 68 0 = 0 ∧ I 68 1 = 12 ∧ I 68 4 = 0 ∧ I 70 0 = 0 ∧ I 70 1 = 12 ∧ I 70 4 = 0 ∧ True)  : G (d) mX12_isOver 0 0 0 0 0 (gent 1 [.ref 67]) [] SH0 RF0 (gup (gup (gup (gup (gup (gup I 68 3 (((I 68 3) * 1103515245) + 12345)) 68 0 1) 68 2 ((I 68 2) + 0)) 68 3 (((((I 68 3) * 1103515245) + 12345) * 1103515245) + 12345)) 68 0 2) 68 2 (((I 68 2) + 0) + 0)) (fun r h => r = some (.int 0) ∧ h = (SH0, RF0, (gup (gup (gup (gup (gup (gup I 68 3 (((I 68 3) * 1103515245) + 12345)) 68 0 1) 68 2 ((I 68 2) + 0)) 68 3 (((((I 68 3) * 1103515245) + 12345) * 1103515245) + 12345)) 68 0 2) 68 2 (((I 68 2) + 0) + 0)))) := by
  refine G_aload_n (pc := 0) rfl dX12_isOver_0 ?_
  refine G_getR (pc := 1) (r := 68) (ci := 12) (j := 0) rfl lk_RX12_9 rfl rfl rfl dX12_isOver_1 ?_
  refine G_iconst (pc := 4) (v := 0) (by decide) dX12_isOver_4 ?_
  refine G_iald (pc := 5) (jj := 0) (v := 2) (by decide) rfl rfl (by unfold vp_in; decide) dX12_isOver_5 ?_
  refine G_aload_n (pc := 6) rfl dX12_isOver_6 ?_
  refine G_getR (pc := 7) (r := 68) (ci := 12) (j := 0) rfl lk_RX12_9 rfl rfl rfl dX12_isOver_7 ?_
  refine G_iconst (pc := 10) (v := 1) (by decide) dX12_isOver_10 ?_
  refine G_iald (pc := 11) (jj := 1) (v := 12) (by decide) (hI.2.1) rfl (by unfold vp_in; decide) dX12_isOver_11 ?_
  refine G_icmp_lt (pc := 12) (tgt := 19) (by decide) dX12_isOver_12 (fun _ => ?_) (fun z => absurd (by decide) z)
  refine G_iconst (pc := 19) (v := 0) (by decide) dX12_isOver_19 ?_
  exact G_zret (pc := 20) (Nat.le_of_ble_eq_true rfl) (Nat.le_of_ble_eq_true rfl) rfl (by decide) dX12_isOver_20 ⟨rfl, rfl⟩
set_option maxRecDepth 100000 in
set_option maxHeartbeats 4000000 in
theorem s10332_X12_goesBy  (d : Nat) (I : gI) (hI : I 68 0 = 0 ∧ I 68 1 = 12 ∧ I 68 4 = 0 ∧ I 70 0 = 0 ∧ I 70 1 = 12 ∧ I 70 4 = 0 ∧ True)  : G (d) mX12_goesBy 0 0 0 0 0 (gent 5 [.ref 67, .int 0]) [] SH0 RF0 (gup (gup (gup (gup (gup (gup (gup I 68 3 (((I 68 3) * 1103515245) + 12345)) 68 0 1) 68 2 ((I 68 2) + 0)) 68 3 (((((I 68 3) * 1103515245) + 12345) * 1103515245) + 12345)) 68 0 2) 68 2 (((I 68 2) + 0) + 0)) 68 3 (((((((I 68 3) * 1103515245) + 12345) * 1103515245) + 12345) * 1103515245) + 12345)) (fun r h => r = some (.int 0) ∧ h = (SH0, RF0, (gup (gup (gup (gup (gup (gup (gup (gup (gup I 68 3 (((I 68 3) * 1103515245) + 12345)) 68 0 1) 68 2 ((I 68 2) + 0)) 68 3 (((((I 68 3) * 1103515245) + 12345) * 1103515245) + 12345)) 68 0 2) 68 2 (((I 68 2) + 0) + 0)) 68 3 (((((((I 68 3) * 1103515245) + 12345) * 1103515245) + 12345) * 1103515245) + 12345)) 68 0 3) 68 2 ((((I 68 2) + 0) + 0) + 0)))) := by
  refine G_iload_n (pc := 0) rfl dX12_goesBy_0 ?_
  refine G_if_ge (pc := 1) (tgt := 11) (by decide) dX12_goesBy_1 (fun _ => ?_) (fun z => absurd (by decide) z)
  refine G_iload_n (pc := 11) rfl dX12_goesBy_11 ?_
  refine G_iconst (pc := 12) (v := 1) (by decide) dX12_goesBy_12 ?_
  refine G_isub (pc := 13) (z := (-1)) (by decide) dX12_goesBy_13 ?_
  refine G_istore_n (pc := 14) (L1 := [some (.ref 67), some (.int 0), some (.int (-1)), none, none]) rfl rfl (by decide) dX12_goesBy_14 ?_
  refine G_iload_n (pc := 15) rfl dX12_goesBy_15 ?_
  refine G_if_lt (pc := 16) (tgt := 27) (by decide) dX12_goesBy_16 (fun _ => ?_) (fun z => absurd (by decide) z)
  refine G_iconst (pc := 27) (v := 0) (by decide) dX12_goesBy_27 ?_
  refine G_istore_n (pc := 28) (L1 := [some (.ref 67), some (.int 0), some (.int (-1)), some (.int 0), none]) rfl rfl (by decide) dX12_goesBy_28 ?_
  refine G_iconst (pc := 29) (v := 0) (by decide) dX12_goesBy_29 ?_
  refine G_istore (pc := 30) (L1 := [some (.ref 67), some (.int 0), some (.int (-1)), some (.int 0), some (.int 0)]) rfl rfl (by decide) dX12_goesBy_30 ?_
  refine G_iload (pc := 32) rfl dX12_goesBy_32 ?_
  refine G_aload_n (pc := 34) rfl dX12_goesBy_34 ?_
  refine G_getR (pc := 35) (r := 68) (ci := 12) (j := 0) rfl lk_RX12_9 rfl rfl rfl dX12_goesBy_35 ?_
  refine G_iconst (pc := 38) (v := 4) (by decide) dX12_goesBy_38 ?_
  refine G_iald (pc := 39) (jj := 4) (v := 0) (by decide) (hI.2.2.1) rfl (by unfold vp_in; decide) dX12_goesBy_39 ?_
  refine G_icmp_ge (pc := 40) (tgt := 104) (by decide) dX12_goesBy_40 (fun _ => ?_) (fun z => absurd (by decide) z)
  refine G_aload_n (pc := 104) rfl dX12_goesBy_104 ?_
  refine G_getR (pc := 105) (r := 68) (ci := 12) (j := 0) rfl lk_RX12_9 rfl rfl rfl dX12_goesBy_105 ?_
  refine G_iconst (pc := 108) (v := 0) (by decide) dX12_goesBy_108 ?_
  refine G_dup2 (pc := 109) rfl rfl dX12_goesBy_109 ?_
  refine G_iald (pc := 110) (jj := 0) (v := 2) (by decide) rfl rfl (by unfold vp_in; decide) dX12_goesBy_110 ?_
  refine G_iconst (pc := 111) (v := 1) (by decide) dX12_goesBy_111 ?_
  refine G_iadd (pc := 112) (z := 3) (by decide) dX12_goesBy_112 ?_
  refine G_iast (pc := 113) (jj := 0) (by decide) rfl (by unfold vp_in; decide) dX12_goesBy_113 ?_
  refine G_aload_n (pc := 114) rfl dX12_goesBy_114 ?_
  refine G_getR (pc := 115) (r := 68) (ci := 12) (j := 0) rfl lk_RX12_9 rfl rfl rfl dX12_goesBy_115 ?_
  refine G_iconst (pc := 118) (v := 2) (by decide) dX12_goesBy_118 ?_
  refine G_dup2 (pc := 119) rfl rfl dX12_goesBy_119 ?_
  refine G_iald (pc := 120) (jj := 2) (v := (((I 68 2) + 0) + 0)) (by decide) rfl rfl (by unfold vp_in; decide) dX12_goesBy_120 ?_
  refine G_iload_n (pc := 121) rfl dX12_goesBy_121 ?_
  refine G_iadd (pc := 122) rfl dX12_goesBy_122 ?_
  refine G_iast (pc := 123) (jj := 2) (by decide) rfl (by unfold vp_in; decide) dX12_goesBy_123 ?_
  refine G_iload_n (pc := 124) rfl dX12_goesBy_124 ?_
  exact G_iret (pc := 125) (Nat.le_of_ble_eq_true rfl) (Nat.le_of_ble_eq_true rfl) rfl dX12_goesBy_125 ⟨rfl, rfl⟩
set_option maxRecDepth 100000 in
set_option maxHeartbeats 4000000 in
theorem s10331_X12_byLot  (d : Nat) (I : gI) (hI : I 68 0 = 0 ∧ I 68 1 = 12 ∧ I 68 4 = 0 ∧ I 70 0 = 0 ∧ I 70 1 = 12 ∧ I 70 4 = 0 ∧ True)  : G (d + 1) mX12_byLot 0 0 0 0 0 (gent 1 [.ref 67]) [] SH0 RF0 (gup (gup (gup (gup (gup (gup I 68 3 (((I 68 3) * 1103515245) + 12345)) 68 0 1) 68 2 ((I 68 2) + 0)) 68 3 (((((I 68 3) * 1103515245) + 12345) * 1103515245) + 12345)) 68 0 2) 68 2 (((I 68 2) + 0) + 0)) (fun r h => r = some (.int 0) ∧ h = (SH0, RF0, (gup (gup (gup (gup (gup (gup (gup (gup (gup I 68 3 (((I 68 3) * 1103515245) + 12345)) 68 0 1) 68 2 ((I 68 2) + 0)) 68 3 (((((I 68 3) * 1103515245) + 12345) * 1103515245) + 12345)) 68 0 2) 68 2 (((I 68 2) + 0) + 0)) 68 3 (((((((I 68 3) * 1103515245) + 12345) * 1103515245) + 12345) * 1103515245) + 12345)) 68 0 3) 68 2 ((((I 68 2) + 0) + 0) + 0)))) := by
  refine G_aload_n (pc := 0) rfl dX12_byLot_0 ?_
  refine G_getR (pc := 1) (r := 68) (ci := 12) (j := 0) rfl lk_RX12_9 rfl rfl rfl dX12_byLot_1 ?_
  refine G_iconst (pc := 4) (v := 3) (by decide) dX12_byLot_4 ?_
  refine G_aload_n (pc := 5) rfl dX12_byLot_5 ?_
  refine G_getR (pc := 6) (r := 68) (ci := 12) (j := 0) rfl lk_RX12_9 rfl rfl rfl dX12_byLot_6 ?_
  refine G_iconst (pc := 9) (v := 3) (by decide) dX12_byLot_9 ?_
  refine G_iald (pc := 10) (jj := 3) (v := (((((I 68 3) * 1103515245) + 12345) * 1103515245) + 12345)) (by decide) rfl rfl (by unfold vp_in; decide) dX12_byLot_10 ?_
  refine G_ldcw (pc := 11) (v := 1103515245) ck_RX12_313 dX12_byLot_11 ?_
  refine G_imul (pc := 14) rfl dX12_byLot_14 ?_
  refine G_sipush (pc := 15) (v := 12345) (by decide) dX12_byLot_15 ?_
  refine G_iadd (pc := 18) rfl dX12_byLot_18 ?_
  refine G_iast (pc := 19) (jj := 3) (by decide) rfl (by unfold vp_in; decide) dX12_byLot_19 ?_
  refine G_aload_n (pc := 20) rfl dX12_byLot_20 ?_
  refine G_aload_n (pc := 21) rfl dX12_byLot_21 ?_
  refine G_getR (pc := 22) (r := 68) (ci := 12) (j := 0) rfl lk_RX12_9 rfl rfl rfl dX12_byLot_22 ?_
  refine G_iconst (pc := 25) (v := 3) (by decide) dX12_byLot_25 ?_
  refine G_iald (pc := 26) (jj := 3) (v := (((((((I 68 3) * 1103515245) + 12345) * 1103515245) + 12345) * 1103515245) + 12345)) (by decide) rfl rfl (by unfold vp_in; decide) dX12_byLot_26 ?_
  refine G_bipush (pc := 27) (v := 16) (by decide) dX12_byLot_27 ?_
  refine G_iushr (pc := 29) rfl dX12_byLot_29 ?_
  refine G_aload_n (pc := 30) rfl dX12_byLot_30 ?_
  refine G_getR (pc := 31) (r := 68) (ci := 12) (j := 0) rfl lk_RX12_9 rfl rfl rfl dX12_byLot_31 ?_
  refine G_iconst (pc := 34) (v := 4) (by decide) dX12_byLot_34 ?_
  refine G_iald (pc := 35) (jj := 4) (v := 0) (by decide) (hI.2.2.1) rfl (by unfold vp_in; decide) dX12_byLot_35 ?_
  refine G_iconst (pc := 36) (v := 1) (by decide) dX12_byLot_36 ?_
  refine G_iadd (pc := 37) (z := 1) (by decide) dX12_byLot_37 ?_
  refine G_irem (pc := 38) (z := 0) (g_rem1 _) (by decide) dX12_byLot_38 ?_
  refine G_callV (pc := 39) (mc1 := 0) (ms1 := 0) (ci := 12) (mj := mX12_goesBy) (vs := [_]) dX12_byLot_39 rfl rfl cm_X12_goesBy wh_72 wh_74 wh_75 rfl (Nat.le_of_ble_eq_true rfl) (Nat.le_of_ble_eq_true rfl) (Nat.le_of_ble_eq_true rfl) (Nat.le_of_ble_eq_true rfl) (s10332_X12_goesBy  d _ hI ) ?_
  rintro _ _ ⟨rfl, rfl⟩
  dsimp only [Option.toList, List.cons_append, List.nil_append]
  exact G_iret (pc := 42) (Nat.le_of_ble_eq_true rfl) (Nat.le_of_ble_eq_true rfl) rfl dX12_byLot_42 ⟨rfl, rfl⟩
set_option maxRecDepth 100000 in
set_option maxHeartbeats 4000000 in
theorem s10333_X12_isOver  (d : Nat) (I : gI) (hI : I 68 0 = 0 ∧ I 68 1 = 12 ∧ I 68 4 = 0 ∧ I 70 0 = 0 ∧ I 70 1 = 12 ∧ I 70 4 = 0 ∧ True)  : G (d) mX12_isOver 0 0 0 0 0 (gent 1 [.ref 67]) [] SH0 RF0 (gup (gup (gup (gup (gup (gup (gup (gup (gup I 68 3 (((I 68 3) * 1103515245) + 12345)) 68 0 1) 68 2 ((I 68 2) + 0)) 68 3 (((((I 68 3) * 1103515245) + 12345) * 1103515245) + 12345)) 68 0 2) 68 2 (((I 68 2) + 0) + 0)) 68 3 (((((((I 68 3) * 1103515245) + 12345) * 1103515245) + 12345) * 1103515245) + 12345)) 68 0 3) 68 2 ((((I 68 2) + 0) + 0) + 0)) (fun r h => r = some (.int 0) ∧ h = (SH0, RF0, (gup (gup (gup (gup (gup (gup (gup (gup (gup I 68 3 (((I 68 3) * 1103515245) + 12345)) 68 0 1) 68 2 ((I 68 2) + 0)) 68 3 (((((I 68 3) * 1103515245) + 12345) * 1103515245) + 12345)) 68 0 2) 68 2 (((I 68 2) + 0) + 0)) 68 3 (((((((I 68 3) * 1103515245) + 12345) * 1103515245) + 12345) * 1103515245) + 12345)) 68 0 3) 68 2 ((((I 68 2) + 0) + 0) + 0)))) := by
  refine G_aload_n (pc := 0) rfl dX12_isOver_0 ?_
  refine G_getR (pc := 1) (r := 68) (ci := 12) (j := 0) rfl lk_RX12_9 rfl rfl rfl dX12_isOver_1 ?_
  refine G_iconst (pc := 4) (v := 0) (by decide) dX12_isOver_4 ?_
  refine G_iald (pc := 5) (jj := 0) (v := 3) (by decide) rfl rfl (by unfold vp_in; decide) dX12_isOver_5 ?_
  refine G_aload_n (pc := 6) rfl dX12_isOver_6 ?_
  refine G_getR (pc := 7) (r := 68) (ci := 12) (j := 0) rfl lk_RX12_9 rfl rfl rfl dX12_isOver_7 ?_
  refine G_iconst (pc := 10) (v := 1) (by decide) dX12_isOver_10 ?_
  refine G_iald (pc := 11) (jj := 1) (v := 12) (by decide) (hI.2.1) rfl (by unfold vp_in; decide) dX12_isOver_11 ?_
  refine G_icmp_lt (pc := 12) (tgt := 19) (by decide) dX12_isOver_12 (fun _ => ?_) (fun z => absurd (by decide) z)
  refine G_iconst (pc := 19) (v := 0) (by decide) dX12_isOver_19 ?_
  exact G_zret (pc := 20) (Nat.le_of_ble_eq_true rfl) (Nat.le_of_ble_eq_true rfl) rfl (by decide) dX12_isOver_20 ⟨rfl, rfl⟩
set_option maxRecDepth 100000 in
set_option maxHeartbeats 4000000 in
theorem s10335_X12_goesBy  (d : Nat) (I : gI) (hI : I 68 0 = 0 ∧ I 68 1 = 12 ∧ I 68 4 = 0 ∧ I 70 0 = 0 ∧ I 70 1 = 12 ∧ I 70 4 = 0 ∧ True)  : G (d) mX12_goesBy 0 0 0 0 0 (gent 5 [.ref 67, .int 0]) [] SH0 RF0 (gup (gup (gup (gup (gup (gup (gup (gup (gup (gup I 68 3 (((I 68 3) * 1103515245) + 12345)) 68 0 1) 68 2 ((I 68 2) + 0)) 68 3 (((((I 68 3) * 1103515245) + 12345) * 1103515245) + 12345)) 68 0 2) 68 2 (((I 68 2) + 0) + 0)) 68 3 (((((((I 68 3) * 1103515245) + 12345) * 1103515245) + 12345) * 1103515245) + 12345)) 68 0 3) 68 2 ((((I 68 2) + 0) + 0) + 0)) 68 3 (((((((((I 68 3) * 1103515245) + 12345) * 1103515245) + 12345) * 1103515245) + 12345) * 1103515245) + 12345)) (fun r h => r = some (.int 0) ∧ h = (SH0, RF0, (gup (gup (gup (gup (gup (gup (gup (gup (gup (gup (gup (gup I 68 3 (((I 68 3) * 1103515245) + 12345)) 68 0 1) 68 2 ((I 68 2) + 0)) 68 3 (((((I 68 3) * 1103515245) + 12345) * 1103515245) + 12345)) 68 0 2) 68 2 (((I 68 2) + 0) + 0)) 68 3 (((((((I 68 3) * 1103515245) + 12345) * 1103515245) + 12345) * 1103515245) + 12345)) 68 0 3) 68 2 ((((I 68 2) + 0) + 0) + 0)) 68 3 (((((((((I 68 3) * 1103515245) + 12345) * 1103515245) + 12345) * 1103515245) + 12345) * 1103515245) + 12345)) 68 0 4) 68 2 (((((I 68 2) + 0) + 0) + 0) + 0)))) := by
  refine G_iload_n (pc := 0) rfl dX12_goesBy_0 ?_
  refine G_if_ge (pc := 1) (tgt := 11) (by decide) dX12_goesBy_1 (fun _ => ?_) (fun z => absurd (by decide) z)
  refine G_iload_n (pc := 11) rfl dX12_goesBy_11 ?_
  refine G_iconst (pc := 12) (v := 1) (by decide) dX12_goesBy_12 ?_
  refine G_isub (pc := 13) (z := (-1)) (by decide) dX12_goesBy_13 ?_
  refine G_istore_n (pc := 14) (L1 := [some (.ref 67), some (.int 0), some (.int (-1)), none, none]) rfl rfl (by decide) dX12_goesBy_14 ?_
  refine G_iload_n (pc := 15) rfl dX12_goesBy_15 ?_
  refine G_if_lt (pc := 16) (tgt := 27) (by decide) dX12_goesBy_16 (fun _ => ?_) (fun z => absurd (by decide) z)
  refine G_iconst (pc := 27) (v := 0) (by decide) dX12_goesBy_27 ?_
  refine G_istore_n (pc := 28) (L1 := [some (.ref 67), some (.int 0), some (.int (-1)), some (.int 0), none]) rfl rfl (by decide) dX12_goesBy_28 ?_
  refine G_iconst (pc := 29) (v := 0) (by decide) dX12_goesBy_29 ?_
  refine G_istore (pc := 30) (L1 := [some (.ref 67), some (.int 0), some (.int (-1)), some (.int 0), some (.int 0)]) rfl rfl (by decide) dX12_goesBy_30 ?_
  refine G_iload (pc := 32) rfl dX12_goesBy_32 ?_
  refine G_aload_n (pc := 34) rfl dX12_goesBy_34 ?_
  refine G_getR (pc := 35) (r := 68) (ci := 12) (j := 0) rfl lk_RX12_9 rfl rfl rfl dX12_goesBy_35 ?_
  refine G_iconst (pc := 38) (v := 4) (by decide) dX12_goesBy_38 ?_
  refine G_iald (pc := 39) (jj := 4) (v := 0) (by decide) (hI.2.2.1) rfl (by unfold vp_in; decide) dX12_goesBy_39 ?_
  refine G_icmp_ge (pc := 40) (tgt := 104) (by decide) dX12_goesBy_40 (fun _ => ?_) (fun z => absurd (by decide) z)
  refine G_aload_n (pc := 104) rfl dX12_goesBy_104 ?_
  refine G_getR (pc := 105) (r := 68) (ci := 12) (j := 0) rfl lk_RX12_9 rfl rfl rfl dX12_goesBy_105 ?_
  refine G_iconst (pc := 108) (v := 0) (by decide) dX12_goesBy_108 ?_
  refine G_dup2 (pc := 109) rfl rfl dX12_goesBy_109 ?_
  refine G_iald (pc := 110) (jj := 0) (v := 3) (by decide) rfl rfl (by unfold vp_in; decide) dX12_goesBy_110 ?_
  refine G_iconst (pc := 111) (v := 1) (by decide) dX12_goesBy_111 ?_
  refine G_iadd (pc := 112) (z := 4) (by decide) dX12_goesBy_112 ?_
  refine G_iast (pc := 113) (jj := 0) (by decide) rfl (by unfold vp_in; decide) dX12_goesBy_113 ?_
  refine G_aload_n (pc := 114) rfl dX12_goesBy_114 ?_
  refine G_getR (pc := 115) (r := 68) (ci := 12) (j := 0) rfl lk_RX12_9 rfl rfl rfl dX12_goesBy_115 ?_
  refine G_iconst (pc := 118) (v := 2) (by decide) dX12_goesBy_118 ?_
  refine G_dup2 (pc := 119) rfl rfl dX12_goesBy_119 ?_
  refine G_iald (pc := 120) (jj := 2) (v := ((((I 68 2) + 0) + 0) + 0)) (by decide) rfl rfl (by unfold vp_in; decide) dX12_goesBy_120 ?_
  refine G_iload_n (pc := 121) rfl dX12_goesBy_121 ?_
  refine G_iadd (pc := 122) rfl dX12_goesBy_122 ?_
  refine G_iast (pc := 123) (jj := 2) (by decide) rfl (by unfold vp_in; decide) dX12_goesBy_123 ?_
  refine G_iload_n (pc := 124) rfl dX12_goesBy_124 ?_
  exact G_iret (pc := 125) (Nat.le_of_ble_eq_true rfl) (Nat.le_of_ble_eq_true rfl) rfl dX12_goesBy_125 ⟨rfl, rfl⟩
set_option maxRecDepth 100000 in
set_option maxHeartbeats 4000000 in
theorem s10334_X12_byLot  (d : Nat) (I : gI) (hI : I 68 0 = 0 ∧ I 68 1 = 12 ∧ I 68 4 = 0 ∧ I 70 0 = 0 ∧ I 70 1 = 12 ∧ I 70 4 = 0 ∧ True)  : G (d + 1) mX12_byLot 0 0 0 0 0 (gent 1 [.ref 67]) [] SH0 RF0 (gup (gup (gup (gup (gup (gup (gup (gup (gup I 68 3 (((I 68 3) * 1103515245) + 12345)) 68 0 1) 68 2 ((I 68 2) + 0)) 68 3 (((((I 68 3) * 1103515245) + 12345) * 1103515245) + 12345)) 68 0 2) 68 2 (((I 68 2) + 0) + 0)) 68 3 (((((((I 68 3) * 1103515245) + 12345) * 1103515245) + 12345) * 1103515245) + 12345)) 68 0 3) 68 2 ((((I 68 2) + 0) + 0) + 0)) (fun r h => r = some (.int 0) ∧ h = (SH0, RF0, (gup (gup (gup (gup (gup (gup (gup (gup (gup (gup (gup (gup I 68 3 (((I 68 3) * 1103515245) + 12345)) 68 0 1) 68 2 ((I 68 2) + 0)) 68 3 (((((I 68 3) * 1103515245) + 12345) * 1103515245) + 12345)) 68 0 2) 68 2 (((I 68 2) + 0) + 0)) 68 3 (((((((I 68 3) * 1103515245) + 12345) * 1103515245) + 12345) * 1103515245) + 12345)) 68 0 3) 68 2 ((((I 68 2) + 0) + 0) + 0)) 68 3 (((((((((I 68 3) * 1103515245) + 12345) * 1103515245) + 12345) * 1103515245) + 12345) * 1103515245) + 12345)) 68 0 4) 68 2 (((((I 68 2) + 0) + 0) + 0) + 0)))) := by
  refine G_aload_n (pc := 0) rfl dX12_byLot_0 ?_
  refine G_getR (pc := 1) (r := 68) (ci := 12) (j := 0) rfl lk_RX12_9 rfl rfl rfl dX12_byLot_1 ?_
  refine G_iconst (pc := 4) (v := 3) (by decide) dX12_byLot_4 ?_
  refine G_aload_n (pc := 5) rfl dX12_byLot_5 ?_
  refine G_getR (pc := 6) (r := 68) (ci := 12) (j := 0) rfl lk_RX12_9 rfl rfl rfl dX12_byLot_6 ?_
  refine G_iconst (pc := 9) (v := 3) (by decide) dX12_byLot_9 ?_
  refine G_iald (pc := 10) (jj := 3) (v := (((((((I 68 3) * 1103515245) + 12345) * 1103515245) + 12345) * 1103515245) + 12345)) (by decide) rfl rfl (by unfold vp_in; decide) dX12_byLot_10 ?_
  refine G_ldcw (pc := 11) (v := 1103515245) ck_RX12_313 dX12_byLot_11 ?_
  refine G_imul (pc := 14) rfl dX12_byLot_14 ?_
  refine G_sipush (pc := 15) (v := 12345) (by decide) dX12_byLot_15 ?_
  refine G_iadd (pc := 18) rfl dX12_byLot_18 ?_
  refine G_iast (pc := 19) (jj := 3) (by decide) rfl (by unfold vp_in; decide) dX12_byLot_19 ?_
  refine G_aload_n (pc := 20) rfl dX12_byLot_20 ?_
  refine G_aload_n (pc := 21) rfl dX12_byLot_21 ?_
  refine G_getR (pc := 22) (r := 68) (ci := 12) (j := 0) rfl lk_RX12_9 rfl rfl rfl dX12_byLot_22 ?_
  refine G_iconst (pc := 25) (v := 3) (by decide) dX12_byLot_25 ?_
  refine G_iald (pc := 26) (jj := 3) (v := (((((((((I 68 3) * 1103515245) + 12345) * 1103515245) + 12345) * 1103515245) + 12345) * 1103515245) + 12345)) (by decide) rfl rfl (by unfold vp_in; decide) dX12_byLot_26 ?_
  refine G_bipush (pc := 27) (v := 16) (by decide) dX12_byLot_27 ?_
  refine G_iushr (pc := 29) rfl dX12_byLot_29 ?_
  refine G_aload_n (pc := 30) rfl dX12_byLot_30 ?_
  refine G_getR (pc := 31) (r := 68) (ci := 12) (j := 0) rfl lk_RX12_9 rfl rfl rfl dX12_byLot_31 ?_
  refine G_iconst (pc := 34) (v := 4) (by decide) dX12_byLot_34 ?_
  refine G_iald (pc := 35) (jj := 4) (v := 0) (by decide) (hI.2.2.1) rfl (by unfold vp_in; decide) dX12_byLot_35 ?_
  refine G_iconst (pc := 36) (v := 1) (by decide) dX12_byLot_36 ?_
  refine G_iadd (pc := 37) (z := 1) (by decide) dX12_byLot_37 ?_
  refine G_irem (pc := 38) (z := 0) (g_rem1 _) (by decide) dX12_byLot_38 ?_
  refine G_callV (pc := 39) (mc1 := 0) (ms1 := 0) (ci := 12) (mj := mX12_goesBy) (vs := [_]) dX12_byLot_39 rfl rfl cm_X12_goesBy wh_72 wh_74 wh_75 rfl (Nat.le_of_ble_eq_true rfl) (Nat.le_of_ble_eq_true rfl) (Nat.le_of_ble_eq_true rfl) (Nat.le_of_ble_eq_true rfl) (s10335_X12_goesBy  d _ hI ) ?_
  rintro _ _ ⟨rfl, rfl⟩
  dsimp only [Option.toList, List.cons_append, List.nil_append]
  exact G_iret (pc := 42) (Nat.le_of_ble_eq_true rfl) (Nat.le_of_ble_eq_true rfl) rfl dX12_byLot_42 ⟨rfl, rfl⟩
set_option maxRecDepth 100000 in
set_option maxHeartbeats 4000000 in
theorem s10336_X12_isOver  (d : Nat) (I : gI) (hI : I 68 0 = 0 ∧ I 68 1 = 12 ∧ I 68 4 = 0 ∧ I 70 0 = 0 ∧ I 70 1 = 12 ∧ I 70 4 = 0 ∧ True)  : G (d) mX12_isOver 0 0 0 0 0 (gent 1 [.ref 67]) [] SH0 RF0 (gup (gup (gup (gup (gup (gup (gup (gup (gup (gup (gup (gup I 68 3 (((I 68 3) * 1103515245) + 12345)) 68 0 1) 68 2 ((I 68 2) + 0)) 68 3 (((((I 68 3) * 1103515245) + 12345) * 1103515245) + 12345)) 68 0 2) 68 2 (((I 68 2) + 0) + 0)) 68 3 (((((((I 68 3) * 1103515245) + 12345) * 1103515245) + 12345) * 1103515245) + 12345)) 68 0 3) 68 2 ((((I 68 2) + 0) + 0) + 0)) 68 3 (((((((((I 68 3) * 1103515245) + 12345) * 1103515245) + 12345) * 1103515245) + 12345) * 1103515245) + 12345)) 68 0 4) 68 2 (((((I 68 2) + 0) + 0) + 0) + 0)) (fun r h => r = some (.int 0) ∧ h = (SH0, RF0, (gup (gup (gup (gup (gup (gup (gup (gup (gup (gup (gup (gup I 68 3 (((I 68 3) * 1103515245) + 12345)) 68 0 1) 68 2 ((I 68 2) + 0)) 68 3 (((((I 68 3) * 1103515245) + 12345) * 1103515245) + 12345)) 68 0 2) 68 2 (((I 68 2) + 0) + 0)) 68 3 (((((((I 68 3) * 1103515245) + 12345) * 1103515245) + 12345) * 1103515245) + 12345)) 68 0 3) 68 2 ((((I 68 2) + 0) + 0) + 0)) 68 3 (((((((((I 68 3) * 1103515245) + 12345) * 1103515245) + 12345) * 1103515245) + 12345) * 1103515245) + 12345)) 68 0 4) 68 2 (((((I 68 2) + 0) + 0) + 0) + 0)))) := by
  refine G_aload_n (pc := 0) rfl dX12_isOver_0 ?_
  refine G_getR (pc := 1) (r := 68) (ci := 12) (j := 0) rfl lk_RX12_9 rfl rfl rfl dX12_isOver_1 ?_
  refine G_iconst (pc := 4) (v := 0) (by decide) dX12_isOver_4 ?_
  refine G_iald (pc := 5) (jj := 0) (v := 4) (by decide) rfl rfl (by unfold vp_in; decide) dX12_isOver_5 ?_
  refine G_aload_n (pc := 6) rfl dX12_isOver_6 ?_
  refine G_getR (pc := 7) (r := 68) (ci := 12) (j := 0) rfl lk_RX12_9 rfl rfl rfl dX12_isOver_7 ?_
  refine G_iconst (pc := 10) (v := 1) (by decide) dX12_isOver_10 ?_
  refine G_iald (pc := 11) (jj := 1) (v := 12) (by decide) (hI.2.1) rfl (by unfold vp_in; decide) dX12_isOver_11 ?_
  refine G_icmp_lt (pc := 12) (tgt := 19) (by decide) dX12_isOver_12 (fun _ => ?_) (fun z => absurd (by decide) z)
  refine G_iconst (pc := 19) (v := 0) (by decide) dX12_isOver_19 ?_
  exact G_zret (pc := 20) (Nat.le_of_ble_eq_true rfl) (Nat.le_of_ble_eq_true rfl) rfl (by decide) dX12_isOver_20 ⟨rfl, rfl⟩
set_option maxRecDepth 100000 in
set_option maxHeartbeats 4000000 in
theorem s10338_X12_goesBy  (d : Nat) (I : gI) (hI : I 68 0 = 0 ∧ I 68 1 = 12 ∧ I 68 4 = 0 ∧ I 70 0 = 0 ∧ I 70 1 = 12 ∧ I 70 4 = 0 ∧ True)  : G (d) mX12_goesBy 0 0 0 0 0 (gent 5 [.ref 67, .int 0]) [] SH0 RF0 (gup (gup (gup (gup (gup (gup (gup (gup (gup (gup (gup (gup (gup I 68 3 (((I 68 3) * 1103515245) + 12345)) 68 0 1) 68 2 ((I 68 2) + 0)) 68 3 (((((I 68 3) * 1103515245) + 12345) * 1103515245) + 12345)) 68 0 2) 68 2 (((I 68 2) + 0) + 0)) 68 3 (((((((I 68 3) * 1103515245) + 12345) * 1103515245) + 12345) * 1103515245) + 12345)) 68 0 3) 68 2 ((((I 68 2) + 0) + 0) + 0)) 68 3 (((((((((I 68 3) * 1103515245) + 12345) * 1103515245) + 12345) * 1103515245) + 12345) * 1103515245) + 12345)) 68 0 4) 68 2 (((((I 68 2) + 0) + 0) + 0) + 0)) 68 3 (((((((((((I 68 3) * 1103515245) + 12345) * 1103515245) + 12345) * 1103515245) + 12345) * 1103515245) + 12345) * 1103515245) + 12345)) (fun r h => r = some (.int 0) ∧ h = (SH0, RF0, (gup (gup (gup (gup (gup (gup (gup (gup (gup (gup (gup (gup (gup (gup (gup I 68 3 (((I 68 3) * 1103515245) + 12345)) 68 0 1) 68 2 ((I 68 2) + 0)) 68 3 (((((I 68 3) * 1103515245) + 12345) * 1103515245) + 12345)) 68 0 2) 68 2 (((I 68 2) + 0) + 0)) 68 3 (((((((I 68 3) * 1103515245) + 12345) * 1103515245) + 12345) * 1103515245) + 12345)) 68 0 3) 68 2 ((((I 68 2) + 0) + 0) + 0)) 68 3 (((((((((I 68 3) * 1103515245) + 12345) * 1103515245) + 12345) * 1103515245) + 12345) * 1103515245) + 12345)) 68 0 4) 68 2 (((((I 68 2) + 0) + 0) + 0) + 0)) 68 3 (((((((((((I 68 3) * 1103515245) + 12345) * 1103515245) + 12345) * 1103515245) + 12345) * 1103515245) + 12345) * 1103515245) + 12345)) 68 0 5) 68 2 ((((((I 68 2) + 0) + 0) + 0) + 0) + 0)))) := by
  refine G_iload_n (pc := 0) rfl dX12_goesBy_0 ?_
  refine G_if_ge (pc := 1) (tgt := 11) (by decide) dX12_goesBy_1 (fun _ => ?_) (fun z => absurd (by decide) z)
  refine G_iload_n (pc := 11) rfl dX12_goesBy_11 ?_
  refine G_iconst (pc := 12) (v := 1) (by decide) dX12_goesBy_12 ?_
  refine G_isub (pc := 13) (z := (-1)) (by decide) dX12_goesBy_13 ?_
  refine G_istore_n (pc := 14) (L1 := [some (.ref 67), some (.int 0), some (.int (-1)), none, none]) rfl rfl (by decide) dX12_goesBy_14 ?_
  refine G_iload_n (pc := 15) rfl dX12_goesBy_15 ?_
  refine G_if_lt (pc := 16) (tgt := 27) (by decide) dX12_goesBy_16 (fun _ => ?_) (fun z => absurd (by decide) z)
  refine G_iconst (pc := 27) (v := 0) (by decide) dX12_goesBy_27 ?_
  refine G_istore_n (pc := 28) (L1 := [some (.ref 67), some (.int 0), some (.int (-1)), some (.int 0), none]) rfl rfl (by decide) dX12_goesBy_28 ?_
  refine G_iconst (pc := 29) (v := 0) (by decide) dX12_goesBy_29 ?_
  refine G_istore (pc := 30) (L1 := [some (.ref 67), some (.int 0), some (.int (-1)), some (.int 0), some (.int 0)]) rfl rfl (by decide) dX12_goesBy_30 ?_
  refine G_iload (pc := 32) rfl dX12_goesBy_32 ?_
  refine G_aload_n (pc := 34) rfl dX12_goesBy_34 ?_
  refine G_getR (pc := 35) (r := 68) (ci := 12) (j := 0) rfl lk_RX12_9 rfl rfl rfl dX12_goesBy_35 ?_
  refine G_iconst (pc := 38) (v := 4) (by decide) dX12_goesBy_38 ?_
  refine G_iald (pc := 39) (jj := 4) (v := 0) (by decide) (hI.2.2.1) rfl (by unfold vp_in; decide) dX12_goesBy_39 ?_
  refine G_icmp_ge (pc := 40) (tgt := 104) (by decide) dX12_goesBy_40 (fun _ => ?_) (fun z => absurd (by decide) z)
  refine G_aload_n (pc := 104) rfl dX12_goesBy_104 ?_
  refine G_getR (pc := 105) (r := 68) (ci := 12) (j := 0) rfl lk_RX12_9 rfl rfl rfl dX12_goesBy_105 ?_
  refine G_iconst (pc := 108) (v := 0) (by decide) dX12_goesBy_108 ?_
  refine G_dup2 (pc := 109) rfl rfl dX12_goesBy_109 ?_
  refine G_iald (pc := 110) (jj := 0) (v := 4) (by decide) rfl rfl (by unfold vp_in; decide) dX12_goesBy_110 ?_
  refine G_iconst (pc := 111) (v := 1) (by decide) dX12_goesBy_111 ?_
  refine G_iadd (pc := 112) (z := 5) (by decide) dX12_goesBy_112 ?_
  refine G_iast (pc := 113) (jj := 0) (by decide) rfl (by unfold vp_in; decide) dX12_goesBy_113 ?_
  refine G_aload_n (pc := 114) rfl dX12_goesBy_114 ?_
  refine G_getR (pc := 115) (r := 68) (ci := 12) (j := 0) rfl lk_RX12_9 rfl rfl rfl dX12_goesBy_115 ?_
  refine G_iconst (pc := 118) (v := 2) (by decide) dX12_goesBy_118 ?_
  refine G_dup2 (pc := 119) rfl rfl dX12_goesBy_119 ?_
  refine G_iald (pc := 120) (jj := 2) (v := (((((I 68 2) + 0) + 0) + 0) + 0)) (by decide) rfl rfl (by unfold vp_in; decide) dX12_goesBy_120 ?_
  refine G_iload_n (pc := 121) rfl dX12_goesBy_121 ?_
  refine G_iadd (pc := 122) rfl dX12_goesBy_122 ?_
  refine G_iast (pc := 123) (jj := 2) (by decide) rfl (by unfold vp_in; decide) dX12_goesBy_123 ?_
  refine G_iload_n (pc := 124) rfl dX12_goesBy_124 ?_
  exact G_iret (pc := 125) (Nat.le_of_ble_eq_true rfl) (Nat.le_of_ble_eq_true rfl) rfl dX12_goesBy_125 ⟨rfl, rfl⟩
set_option maxRecDepth 100000 in
set_option maxHeartbeats 4000000 in
theorem s10337_X12_byLot  (d : Nat) (I : gI) (hI : I 68 0 = 0 ∧ I 68 1 = 12 ∧ I 68 4 = 0 ∧ I 70 0 = 0 ∧ I 70 1 = 12 ∧ I 70 4 = 0 ∧ True)  : G (d + 1) mX12_byLot 0 0 0 0 0 (gent 1 [.ref 67]) [] SH0 RF0 (gup (gup (gup (gup (gup (gup (gup (gup (gup (gup (gup (gup I 68 3 (((I 68 3) * 1103515245) + 12345)) 68 0 1) 68 2 ((I 68 2) + 0)) 68 3 (((((I 68 3) * 1103515245) + 12345) * 1103515245) + 12345)) 68 0 2) 68 2 (((I 68 2) + 0) + 0)) 68 3 (((((((I 68 3) * 1103515245) + 12345) * 1103515245) + 12345) * 1103515245) + 12345)) 68 0 3) 68 2 ((((I 68 2) + 0) + 0) + 0)) 68 3 (((((((((I 68 3) * 1103515245) + 12345) * 1103515245) + 12345) * 1103515245) + 12345) * 1103515245) + 12345)) 68 0 4) 68 2 (((((I 68 2) + 0) + 0) + 0) + 0)) (fun r h => r = some (.int 0) ∧ h = (SH0, RF0, (gup (gup (gup (gup (gup (gup (gup (gup (gup (gup (gup (gup (gup (gup (gup I 68 3 (((I 68 3) * 1103515245) + 12345)) 68 0 1) 68 2 ((I 68 2) + 0)) 68 3 (((((I 68 3) * 1103515245) + 12345) * 1103515245) + 12345)) 68 0 2) 68 2 (((I 68 2) + 0) + 0)) 68 3 (((((((I 68 3) * 1103515245) + 12345) * 1103515245) + 12345) * 1103515245) + 12345)) 68 0 3) 68 2 ((((I 68 2) + 0) + 0) + 0)) 68 3 (((((((((I 68 3) * 1103515245) + 12345) * 1103515245) + 12345) * 1103515245) + 12345) * 1103515245) + 12345)) 68 0 4) 68 2 (((((I 68 2) + 0) + 0) + 0) + 0)) 68 3 (((((((((((I 68 3) * 1103515245) + 12345) * 1103515245) + 12345) * 1103515245) + 12345) * 1103515245) + 12345) * 1103515245) + 12345)) 68 0 5) 68 2 ((((((I 68 2) + 0) + 0) + 0) + 0) + 0)))) := by
  refine G_aload_n (pc := 0) rfl dX12_byLot_0 ?_
  refine G_getR (pc := 1) (r := 68) (ci := 12) (j := 0) rfl lk_RX12_9 rfl rfl rfl dX12_byLot_1 ?_
  refine G_iconst (pc := 4) (v := 3) (by decide) dX12_byLot_4 ?_
  refine G_aload_n (pc := 5) rfl dX12_byLot_5 ?_
  refine G_getR (pc := 6) (r := 68) (ci := 12) (j := 0) rfl lk_RX12_9 rfl rfl rfl dX12_byLot_6 ?_
  refine G_iconst (pc := 9) (v := 3) (by decide) dX12_byLot_9 ?_
  refine G_iald (pc := 10) (jj := 3) (v := (((((((((I 68 3) * 1103515245) + 12345) * 1103515245) + 12345) * 1103515245) + 12345) * 1103515245) + 12345)) (by decide) rfl rfl (by unfold vp_in; decide) dX12_byLot_10 ?_
  refine G_ldcw (pc := 11) (v := 1103515245) ck_RX12_313 dX12_byLot_11 ?_
  refine G_imul (pc := 14) rfl dX12_byLot_14 ?_
  refine G_sipush (pc := 15) (v := 12345) (by decide) dX12_byLot_15 ?_
  refine G_iadd (pc := 18) rfl dX12_byLot_18 ?_
  refine G_iast (pc := 19) (jj := 3) (by decide) rfl (by unfold vp_in; decide) dX12_byLot_19 ?_
  refine G_aload_n (pc := 20) rfl dX12_byLot_20 ?_
  refine G_aload_n (pc := 21) rfl dX12_byLot_21 ?_
  refine G_getR (pc := 22) (r := 68) (ci := 12) (j := 0) rfl lk_RX12_9 rfl rfl rfl dX12_byLot_22 ?_
  refine G_iconst (pc := 25) (v := 3) (by decide) dX12_byLot_25 ?_
  refine G_iald (pc := 26) (jj := 3) (v := (((((((((((I 68 3) * 1103515245) + 12345) * 1103515245) + 12345) * 1103515245) + 12345) * 1103515245) + 12345) * 1103515245) + 12345)) (by decide) rfl rfl (by unfold vp_in; decide) dX12_byLot_26 ?_
  refine G_bipush (pc := 27) (v := 16) (by decide) dX12_byLot_27 ?_
  refine G_iushr (pc := 29) rfl dX12_byLot_29 ?_
  refine G_aload_n (pc := 30) rfl dX12_byLot_30 ?_
  refine G_getR (pc := 31) (r := 68) (ci := 12) (j := 0) rfl lk_RX12_9 rfl rfl rfl dX12_byLot_31 ?_
  refine G_iconst (pc := 34) (v := 4) (by decide) dX12_byLot_34 ?_
  refine G_iald (pc := 35) (jj := 4) (v := 0) (by decide) (hI.2.2.1) rfl (by unfold vp_in; decide) dX12_byLot_35 ?_
  refine G_iconst (pc := 36) (v := 1) (by decide) dX12_byLot_36 ?_
  refine G_iadd (pc := 37) (z := 1) (by decide) dX12_byLot_37 ?_
  refine G_irem (pc := 38) (z := 0) (g_rem1 _) (by decide) dX12_byLot_38 ?_
  refine G_callV (pc := 39) (mc1 := 0) (ms1 := 0) (ci := 12) (mj := mX12_goesBy) (vs := [_]) dX12_byLot_39 rfl rfl cm_X12_goesBy wh_72 wh_74 wh_75 rfl (Nat.le_of_ble_eq_true rfl) (Nat.le_of_ble_eq_true rfl) (Nat.le_of_ble_eq_true rfl) (Nat.le_of_ble_eq_true rfl) (s10338_X12_goesBy  d _ hI ) ?_
  rintro _ _ ⟨rfl, rfl⟩
  dsimp only [Option.toList, List.cons_append, List.nil_append]
  exact G_iret (pc := 42) (Nat.le_of_ble_eq_true rfl) (Nat.le_of_ble_eq_true rfl) rfl dX12_byLot_42 ⟨rfl, rfl⟩
set_option maxRecDepth 100000 in
set_option maxHeartbeats 4000000 in
theorem s10339_X12_isOver  (d : Nat) (I : gI) (hI : I 68 0 = 0 ∧ I 68 1 = 12 ∧ I 68 4 = 0 ∧ I 70 0 = 0 ∧ I 70 1 = 12 ∧ I 70 4 = 0 ∧ True)  : G (d) mX12_isOver 0 0 0 0 0 (gent 1 [.ref 67]) [] SH0 RF0 (gup (gup (gup (gup (gup (gup (gup (gup (gup (gup (gup (gup (gup (gup (gup I 68 3 (((I 68 3) * 1103515245) + 12345)) 68 0 1) 68 2 ((I 68 2) + 0)) 68 3 (((((I 68 3) * 1103515245) + 12345) * 1103515245) + 12345)) 68 0 2) 68 2 (((I 68 2) + 0) + 0)) 68 3 (((((((I 68 3) * 1103515245) + 12345) * 1103515245) + 12345) * 1103515245) + 12345)) 68 0 3) 68 2 ((((I 68 2) + 0) + 0) + 0)) 68 3 (((((((((I 68 3) * 1103515245) + 12345) * 1103515245) + 12345) * 1103515245) + 12345) * 1103515245) + 12345)) 68 0 4) 68 2 (((((I 68 2) + 0) + 0) + 0) + 0)) 68 3 (((((((((((I 68 3) * 1103515245) + 12345) * 1103515245) + 12345) * 1103515245) + 12345) * 1103515245) + 12345) * 1103515245) + 12345)) 68 0 5) 68 2 ((((((I 68 2) + 0) + 0) + 0) + 0) + 0)) (fun r h => r = some (.int 0) ∧ h = (SH0, RF0, (gup (gup (gup (gup (gup (gup (gup (gup (gup (gup (gup (gup (gup (gup (gup I 68 3 (((I 68 3) * 1103515245) + 12345)) 68 0 1) 68 2 ((I 68 2) + 0)) 68 3 (((((I 68 3) * 1103515245) + 12345) * 1103515245) + 12345)) 68 0 2) 68 2 (((I 68 2) + 0) + 0)) 68 3 (((((((I 68 3) * 1103515245) + 12345) * 1103515245) + 12345) * 1103515245) + 12345)) 68 0 3) 68 2 ((((I 68 2) + 0) + 0) + 0)) 68 3 (((((((((I 68 3) * 1103515245) + 12345) * 1103515245) + 12345) * 1103515245) + 12345) * 1103515245) + 12345)) 68 0 4) 68 2 (((((I 68 2) + 0) + 0) + 0) + 0)) 68 3 (((((((((((I 68 3) * 1103515245) + 12345) * 1103515245) + 12345) * 1103515245) + 12345) * 1103515245) + 12345) * 1103515245) + 12345)) 68 0 5) 68 2 ((((((I 68 2) + 0) + 0) + 0) + 0) + 0)))) := by
  refine G_aload_n (pc := 0) rfl dX12_isOver_0 ?_
  refine G_getR (pc := 1) (r := 68) (ci := 12) (j := 0) rfl lk_RX12_9 rfl rfl rfl dX12_isOver_1 ?_
  refine G_iconst (pc := 4) (v := 0) (by decide) dX12_isOver_4 ?_
  refine G_iald (pc := 5) (jj := 0) (v := 5) (by decide) rfl rfl (by unfold vp_in; decide) dX12_isOver_5 ?_
  refine G_aload_n (pc := 6) rfl dX12_isOver_6 ?_
  refine G_getR (pc := 7) (r := 68) (ci := 12) (j := 0) rfl lk_RX12_9 rfl rfl rfl dX12_isOver_7 ?_
  refine G_iconst (pc := 10) (v := 1) (by decide) dX12_isOver_10 ?_
  refine G_iald (pc := 11) (jj := 1) (v := 12) (by decide) (hI.2.1) rfl (by unfold vp_in; decide) dX12_isOver_11 ?_
  refine G_icmp_lt (pc := 12) (tgt := 19) (by decide) dX12_isOver_12 (fun _ => ?_) (fun z => absurd (by decide) z)
  refine G_iconst (pc := 19) (v := 0) (by decide) dX12_isOver_19 ?_
  exact G_zret (pc := 20) (Nat.le_of_ble_eq_true rfl) (Nat.le_of_ble_eq_true rfl) rfl (by decide) dX12_isOver_20 ⟨rfl, rfl⟩
set_option maxRecDepth 100000 in
set_option maxHeartbeats 4000000 in
theorem s10341_X12_goesBy  (d : Nat) (I : gI) (hI : I 68 0 = 0 ∧ I 68 1 = 12 ∧ I 68 4 = 0 ∧ I 70 0 = 0 ∧ I 70 1 = 12 ∧ I 70 4 = 0 ∧ True)  : G (d) mX12_goesBy 0 0 0 0 0 (gent 5 [.ref 67, .int 0]) [] SH0 RF0 (gup (gup (gup (gup (gup (gup (gup (gup (gup (gup (gup (gup (gup (gup (gup (gup I 68 3 (((I 68 3) * 1103515245) + 12345)) 68 0 1) 68 2 ((I 68 2) + 0)) 68 3 (((((I 68 3) * 1103515245) + 12345) * 1103515245) + 12345)) 68 0 2) 68 2 (((I 68 2) + 0) + 0)) 68 3 (((((((I 68 3) * 1103515245) + 12345) * 1103515245) + 12345) * 1103515245) + 12345)) 68 0 3) 68 2 ((((I 68 2) + 0) + 0) + 0)) 68 3 (((((((((I 68 3) * 1103515245) + 12345) * 1103515245) + 12345) * 1103515245) + 12345) * 1103515245) + 12345)) 68 0 4) 68 2 (((((I 68 2) + 0) + 0) + 0) + 0)) 68 3 (((((((((((I 68 3) * 1103515245) + 12345) * 1103515245) + 12345) * 1103515245) + 12345) * 1103515245) + 12345) * 1103515245) + 12345)) 68 0 5) 68 2 ((((((I 68 2) + 0) + 0) + 0) + 0) + 0)) 68 3 (((((((((((((I 68 3) * 1103515245) + 12345) * 1103515245) + 12345) * 1103515245) + 12345) * 1103515245) + 12345) * 1103515245) + 12345) * 1103515245) + 12345)) (fun r h => r = some (.int 0) ∧ h = (SH0, RF0, (gup (gup (gup (gup (gup (gup (gup (gup (gup (gup (gup (gup (gup (gup (gup (gup (gup (gup I 68 3 (((I 68 3) * 1103515245) + 12345)) 68 0 1) 68 2 ((I 68 2) + 0)) 68 3 (((((I 68 3) * 1103515245) + 12345) * 1103515245) + 12345)) 68 0 2) 68 2 (((I 68 2) + 0) + 0)) 68 3 (((((((I 68 3) * 1103515245) + 12345) * 1103515245) + 12345) * 1103515245) + 12345)) 68 0 3) 68 2 ((((I 68 2) + 0) + 0) + 0)) 68 3 (((((((((I 68 3) * 1103515245) + 12345) * 1103515245) + 12345) * 1103515245) + 12345) * 1103515245) + 12345)) 68 0 4) 68 2 (((((I 68 2) + 0) + 0) + 0) + 0)) 68 3 (((((((((((I 68 3) * 1103515245) + 12345) * 1103515245) + 12345) * 1103515245) + 12345) * 1103515245) + 12345) * 1103515245) + 12345)) 68 0 5) 68 2 ((((((I 68 2) + 0) + 0) + 0) + 0) + 0)) 68 3 (((((((((((((I 68 3) * 1103515245) + 12345) * 1103515245) + 12345) * 1103515245) + 12345) * 1103515245) + 12345) * 1103515245) + 12345) * 1103515245) + 12345)) 68 0 6) 68 2 (((((((I 68 2) + 0) + 0) + 0) + 0) + 0) + 0)))) := by
  refine G_iload_n (pc := 0) rfl dX12_goesBy_0 ?_
  refine G_if_ge (pc := 1) (tgt := 11) (by decide) dX12_goesBy_1 (fun _ => ?_) (fun z => absurd (by decide) z)
  refine G_iload_n (pc := 11) rfl dX12_goesBy_11 ?_
  refine G_iconst (pc := 12) (v := 1) (by decide) dX12_goesBy_12 ?_
  refine G_isub (pc := 13) (z := (-1)) (by decide) dX12_goesBy_13 ?_
  refine G_istore_n (pc := 14) (L1 := [some (.ref 67), some (.int 0), some (.int (-1)), none, none]) rfl rfl (by decide) dX12_goesBy_14 ?_
  refine G_iload_n (pc := 15) rfl dX12_goesBy_15 ?_
  refine G_if_lt (pc := 16) (tgt := 27) (by decide) dX12_goesBy_16 (fun _ => ?_) (fun z => absurd (by decide) z)
  refine G_iconst (pc := 27) (v := 0) (by decide) dX12_goesBy_27 ?_
  refine G_istore_n (pc := 28) (L1 := [some (.ref 67), some (.int 0), some (.int (-1)), some (.int 0), none]) rfl rfl (by decide) dX12_goesBy_28 ?_
  refine G_iconst (pc := 29) (v := 0) (by decide) dX12_goesBy_29 ?_
  refine G_istore (pc := 30) (L1 := [some (.ref 67), some (.int 0), some (.int (-1)), some (.int 0), some (.int 0)]) rfl rfl (by decide) dX12_goesBy_30 ?_
  refine G_iload (pc := 32) rfl dX12_goesBy_32 ?_
  refine G_aload_n (pc := 34) rfl dX12_goesBy_34 ?_
  refine G_getR (pc := 35) (r := 68) (ci := 12) (j := 0) rfl lk_RX12_9 rfl rfl rfl dX12_goesBy_35 ?_
  refine G_iconst (pc := 38) (v := 4) (by decide) dX12_goesBy_38 ?_
  refine G_iald (pc := 39) (jj := 4) (v := 0) (by decide) (hI.2.2.1) rfl (by unfold vp_in; decide) dX12_goesBy_39 ?_
  refine G_icmp_ge (pc := 40) (tgt := 104) (by decide) dX12_goesBy_40 (fun _ => ?_) (fun z => absurd (by decide) z)
  refine G_aload_n (pc := 104) rfl dX12_goesBy_104 ?_
  refine G_getR (pc := 105) (r := 68) (ci := 12) (j := 0) rfl lk_RX12_9 rfl rfl rfl dX12_goesBy_105 ?_
  refine G_iconst (pc := 108) (v := 0) (by decide) dX12_goesBy_108 ?_
  refine G_dup2 (pc := 109) rfl rfl dX12_goesBy_109 ?_
  refine G_iald (pc := 110) (jj := 0) (v := 5) (by decide) rfl rfl (by unfold vp_in; decide) dX12_goesBy_110 ?_
  refine G_iconst (pc := 111) (v := 1) (by decide) dX12_goesBy_111 ?_
  refine G_iadd (pc := 112) (z := 6) (by decide) dX12_goesBy_112 ?_
  refine G_iast (pc := 113) (jj := 0) (by decide) rfl (by unfold vp_in; decide) dX12_goesBy_113 ?_
  refine G_aload_n (pc := 114) rfl dX12_goesBy_114 ?_
  refine G_getR (pc := 115) (r := 68) (ci := 12) (j := 0) rfl lk_RX12_9 rfl rfl rfl dX12_goesBy_115 ?_
  refine G_iconst (pc := 118) (v := 2) (by decide) dX12_goesBy_118 ?_
  refine G_dup2 (pc := 119) rfl rfl dX12_goesBy_119 ?_
  refine G_iald (pc := 120) (jj := 2) (v := ((((((I 68 2) + 0) + 0) + 0) + 0) + 0)) (by decide) rfl rfl (by unfold vp_in; decide) dX12_goesBy_120 ?_
  refine G_iload_n (pc := 121) rfl dX12_goesBy_121 ?_
  refine G_iadd (pc := 122) rfl dX12_goesBy_122 ?_
  refine G_iast (pc := 123) (jj := 2) (by decide) rfl (by unfold vp_in; decide) dX12_goesBy_123 ?_
  refine G_iload_n (pc := 124) rfl dX12_goesBy_124 ?_
  exact G_iret (pc := 125) (Nat.le_of_ble_eq_true rfl) (Nat.le_of_ble_eq_true rfl) rfl dX12_goesBy_125 ⟨rfl, rfl⟩
set_option maxRecDepth 100000 in
set_option maxHeartbeats 4000000 in
theorem s10340_X12_byLot  (d : Nat) (I : gI) (hI : I 68 0 = 0 ∧ I 68 1 = 12 ∧ I 68 4 = 0 ∧ I 70 0 = 0 ∧ I 70 1 = 12 ∧ I 70 4 = 0 ∧ True)  : G (d + 1) mX12_byLot 0 0 0 0 0 (gent 1 [.ref 67]) [] SH0 RF0 (gup (gup (gup (gup (gup (gup (gup (gup (gup (gup (gup (gup (gup (gup (gup I 68 3 (((I 68 3) * 1103515245) + 12345)) 68 0 1) 68 2 ((I 68 2) + 0)) 68 3 (((((I 68 3) * 1103515245) + 12345) * 1103515245) + 12345)) 68 0 2) 68 2 (((I 68 2) + 0) + 0)) 68 3 (((((((I 68 3) * 1103515245) + 12345) * 1103515245) + 12345) * 1103515245) + 12345)) 68 0 3) 68 2 ((((I 68 2) + 0) + 0) + 0)) 68 3 (((((((((I 68 3) * 1103515245) + 12345) * 1103515245) + 12345) * 1103515245) + 12345) * 1103515245) + 12345)) 68 0 4) 68 2 (((((I 68 2) + 0) + 0) + 0) + 0)) 68 3 (((((((((((I 68 3) * 1103515245) + 12345) * 1103515245) + 12345) * 1103515245) + 12345) * 1103515245) + 12345) * 1103515245) + 12345)) 68 0 5) 68 2 ((((((I 68 2) + 0) + 0) + 0) + 0) + 0)) (fun r h => r = some (.int 0) ∧ h = (SH0, RF0, (gup (gup (gup (gup (gup (gup (gup (gup (gup (gup (gup (gup (gup (gup (gup (gup (gup (gup I 68 3 (((I 68 3) * 1103515245) + 12345)) 68 0 1) 68 2 ((I 68 2) + 0)) 68 3 (((((I 68 3) * 1103515245) + 12345) * 1103515245) + 12345)) 68 0 2) 68 2 (((I 68 2) + 0) + 0)) 68 3 (((((((I 68 3) * 1103515245) + 12345) * 1103515245) + 12345) * 1103515245) + 12345)) 68 0 3) 68 2 ((((I 68 2) + 0) + 0) + 0)) 68 3 (((((((((I 68 3) * 1103515245) + 12345) * 1103515245) + 12345) * 1103515245) + 12345) * 1103515245) + 12345)) 68 0 4) 68 2 (((((I 68 2) + 0) + 0) + 0) + 0)) 68 3 (((((((((((I 68 3) * 1103515245) + 12345) * 1103515245) + 12345) * 1103515245) + 12345) * 1103515245) + 12345) * 1103515245) + 12345)) 68 0 5) 68 2 ((((((I 68 2) + 0) + 0) + 0) + 0) + 0)) 68 3 (((((((((((((I 68 3) * 1103515245) + 12345) * 1103515245) + 12345) * 1103515245) + 12345) * 1103515245) + 12345) * 1103515245) + 12345) * 1103515245) + 12345)) 68 0 6) 68 2 (((((((I 68 2) + 0) + 0) + 0) + 0) + 0) + 0)))) := by
  refine G_aload_n (pc := 0) rfl dX12_byLot_0 ?_
  refine G_getR (pc := 1) (r := 68) (ci := 12) (j := 0) rfl lk_RX12_9 rfl rfl rfl dX12_byLot_1 ?_
  refine G_iconst (pc := 4) (v := 3) (by decide) dX12_byLot_4 ?_
  refine G_aload_n (pc := 5) rfl dX12_byLot_5 ?_
  refine G_getR (pc := 6) (r := 68) (ci := 12) (j := 0) rfl lk_RX12_9 rfl rfl rfl dX12_byLot_6 ?_
  refine G_iconst (pc := 9) (v := 3) (by decide) dX12_byLot_9 ?_
  refine G_iald (pc := 10) (jj := 3) (v := (((((((((((I 68 3) * 1103515245) + 12345) * 1103515245) + 12345) * 1103515245) + 12345) * 1103515245) + 12345) * 1103515245) + 12345)) (by decide) rfl rfl (by unfold vp_in; decide) dX12_byLot_10 ?_
  refine G_ldcw (pc := 11) (v := 1103515245) ck_RX12_313 dX12_byLot_11 ?_
  refine G_imul (pc := 14) rfl dX12_byLot_14 ?_
  refine G_sipush (pc := 15) (v := 12345) (by decide) dX12_byLot_15 ?_
  refine G_iadd (pc := 18) rfl dX12_byLot_18 ?_
  refine G_iast (pc := 19) (jj := 3) (by decide) rfl (by unfold vp_in; decide) dX12_byLot_19 ?_
  refine G_aload_n (pc := 20) rfl dX12_byLot_20 ?_
  refine G_aload_n (pc := 21) rfl dX12_byLot_21 ?_
  refine G_getR (pc := 22) (r := 68) (ci := 12) (j := 0) rfl lk_RX12_9 rfl rfl rfl dX12_byLot_22 ?_
  refine G_iconst (pc := 25) (v := 3) (by decide) dX12_byLot_25 ?_
  refine G_iald (pc := 26) (jj := 3) (v := (((((((((((((I 68 3) * 1103515245) + 12345) * 1103515245) + 12345) * 1103515245) + 12345) * 1103515245) + 12345) * 1103515245) + 12345) * 1103515245) + 12345)) (by decide) rfl rfl (by unfold vp_in; decide) dX12_byLot_26 ?_
  refine G_bipush (pc := 27) (v := 16) (by decide) dX12_byLot_27 ?_
  refine G_iushr (pc := 29) rfl dX12_byLot_29 ?_
  refine G_aload_n (pc := 30) rfl dX12_byLot_30 ?_
  refine G_getR (pc := 31) (r := 68) (ci := 12) (j := 0) rfl lk_RX12_9 rfl rfl rfl dX12_byLot_31 ?_
  refine G_iconst (pc := 34) (v := 4) (by decide) dX12_byLot_34 ?_
  refine G_iald (pc := 35) (jj := 4) (v := 0) (by decide) (hI.2.2.1) rfl (by unfold vp_in; decide) dX12_byLot_35 ?_
  refine G_iconst (pc := 36) (v := 1) (by decide) dX12_byLot_36 ?_
  refine G_iadd (pc := 37) (z := 1) (by decide) dX12_byLot_37 ?_
  refine G_irem (pc := 38) (z := 0) (g_rem1 _) (by decide) dX12_byLot_38 ?_
  refine G_callV (pc := 39) (mc1 := 0) (ms1 := 0) (ci := 12) (mj := mX12_goesBy) (vs := [_]) dX12_byLot_39 rfl rfl cm_X12_goesBy wh_72 wh_74 wh_75 rfl (Nat.le_of_ble_eq_true rfl) (Nat.le_of_ble_eq_true rfl) (Nat.le_of_ble_eq_true rfl) (Nat.le_of_ble_eq_true rfl) (s10341_X12_goesBy  d _ hI ) ?_
  rintro _ _ ⟨rfl, rfl⟩
  dsimp only [Option.toList, List.cons_append, List.nil_append]
  exact G_iret (pc := 42) (Nat.le_of_ble_eq_true rfl) (Nat.le_of_ble_eq_true rfl) rfl dX12_byLot_42 ⟨rfl, rfl⟩
set_option maxRecDepth 100000 in
set_option maxHeartbeats 4000000 in
theorem s10342_X12_isOver  (d : Nat) (I : gI) (hI : I 68 0 = 0 ∧ I 68 1 = 12 ∧ I 68 4 = 0 ∧ I 70 0 = 0 ∧ I 70 1 = 12 ∧ I 70 4 = 0 ∧ True)  : G (d) mX12_isOver 0 0 0 0 0 (gent 1 [.ref 67]) [] SH0 RF0 (gup (gup (gup (gup (gup (gup (gup (gup (gup (gup (gup (gup (gup (gup (gup (gup (gup (gup I 68 3 (((I 68 3) * 1103515245) + 12345)) 68 0 1) 68 2 ((I 68 2) + 0)) 68 3 (((((I 68 3) * 1103515245) + 12345) * 1103515245) + 12345)) 68 0 2) 68 2 (((I 68 2) + 0) + 0)) 68 3 (((((((I 68 3) * 1103515245) + 12345) * 1103515245) + 12345) * 1103515245) + 12345)) 68 0 3) 68 2 ((((I 68 2) + 0) + 0) + 0)) 68 3 (((((((((I 68 3) * 1103515245) + 12345) * 1103515245) + 12345) * 1103515245) + 12345) * 1103515245) + 12345)) 68 0 4) 68 2 (((((I 68 2) + 0) + 0) + 0) + 0)) 68 3 (((((((((((I 68 3) * 1103515245) + 12345) * 1103515245) + 12345) * 1103515245) + 12345) * 1103515245) + 12345) * 1103515245) + 12345)) 68 0 5) 68 2 ((((((I 68 2) + 0) + 0) + 0) + 0) + 0)) 68 3 (((((((((((((I 68 3) * 1103515245) + 12345) * 1103515245) + 12345) * 1103515245) + 12345) * 1103515245) + 12345) * 1103515245) + 12345) * 1103515245) + 12345)) 68 0 6) 68 2 (((((((I 68 2) + 0) + 0) + 0) + 0) + 0) + 0)) (fun r h => r = some (.int 0) ∧ h = (SH0, RF0, (gup (gup (gup (gup (gup (gup (gup (gup (gup (gup (gup (gup (gup (gup (gup (gup (gup (gup I 68 3 (((I 68 3) * 1103515245) + 12345)) 68 0 1) 68 2 ((I 68 2) + 0)) 68 3 (((((I 68 3) * 1103515245) + 12345) * 1103515245) + 12345)) 68 0 2) 68 2 (((I 68 2) + 0) + 0)) 68 3 (((((((I 68 3) * 1103515245) + 12345) * 1103515245) + 12345) * 1103515245) + 12345)) 68 0 3) 68 2 ((((I 68 2) + 0) + 0) + 0)) 68 3 (((((((((I 68 3) * 1103515245) + 12345) * 1103515245) + 12345) * 1103515245) + 12345) * 1103515245) + 12345)) 68 0 4) 68 2 (((((I 68 2) + 0) + 0) + 0) + 0)) 68 3 (((((((((((I 68 3) * 1103515245) + 12345) * 1103515245) + 12345) * 1103515245) + 12345) * 1103515245) + 12345) * 1103515245) + 12345)) 68 0 5) 68 2 ((((((I 68 2) + 0) + 0) + 0) + 0) + 0)) 68 3 (((((((((((((I 68 3) * 1103515245) + 12345) * 1103515245) + 12345) * 1103515245) + 12345) * 1103515245) + 12345) * 1103515245) + 12345) * 1103515245) + 12345)) 68 0 6) 68 2 (((((((I 68 2) + 0) + 0) + 0) + 0) + 0) + 0)))) := by
  refine G_aload_n (pc := 0) rfl dX12_isOver_0 ?_
  refine G_getR (pc := 1) (r := 68) (ci := 12) (j := 0) rfl lk_RX12_9 rfl rfl rfl dX12_isOver_1 ?_
  refine G_iconst (pc := 4) (v := 0) (by decide) dX12_isOver_4 ?_
  refine G_iald (pc := 5) (jj := 0) (v := 6) (by decide) rfl rfl (by unfold vp_in; decide) dX12_isOver_5 ?_
  refine G_aload_n (pc := 6) rfl dX12_isOver_6 ?_
  refine G_getR (pc := 7) (r := 68) (ci := 12) (j := 0) rfl lk_RX12_9 rfl rfl rfl dX12_isOver_7 ?_
  refine G_iconst (pc := 10) (v := 1) (by decide) dX12_isOver_10 ?_
  refine G_iald (pc := 11) (jj := 1) (v := 12) (by decide) (hI.2.1) rfl (by unfold vp_in; decide) dX12_isOver_11 ?_
  refine G_icmp_lt (pc := 12) (tgt := 19) (by decide) dX12_isOver_12 (fun _ => ?_) (fun z => absurd (by decide) z)
  refine G_iconst (pc := 19) (v := 0) (by decide) dX12_isOver_19 ?_
  exact G_zret (pc := 20) (Nat.le_of_ble_eq_true rfl) (Nat.le_of_ble_eq_true rfl) rfl (by decide) dX12_isOver_20 ⟨rfl, rfl⟩
set_option maxRecDepth 100000 in
set_option maxHeartbeats 4000000 in
theorem s10344_X12_goesBy  (d : Nat) (I : gI) (hI : I 68 0 = 0 ∧ I 68 1 = 12 ∧ I 68 4 = 0 ∧ I 70 0 = 0 ∧ I 70 1 = 12 ∧ I 70 4 = 0 ∧ True)  : G (d) mX12_goesBy 0 0 0 0 0 (gent 5 [.ref 67, .int 0]) [] SH0 RF0 (gup (gup (gup (gup (gup (gup (gup (gup (gup (gup (gup (gup (gup (gup (gup (gup (gup (gup (gup I 68 3 (((I 68 3) * 1103515245) + 12345)) 68 0 1) 68 2 ((I 68 2) + 0)) 68 3 (((((I 68 3) * 1103515245) + 12345) * 1103515245) + 12345)) 68 0 2) 68 2 (((I 68 2) + 0) + 0)) 68 3 (((((((I 68 3) * 1103515245) + 12345) * 1103515245) + 12345) * 1103515245) + 12345)) 68 0 3) 68 2 ((((I 68 2) + 0) + 0) + 0)) 68 3 (((((((((I 68 3) * 1103515245) + 12345) * 1103515245) + 12345) * 1103515245) + 12345) * 1103515245) + 12345)) 68 0 4) 68 2 (((((I 68 2) + 0) + 0) + 0) + 0)) 68 3 (((((((((((I 68 3) * 1103515245) + 12345) * 1103515245) + 12345) * 1103515245) + 12345) * 1103515245) + 12345) * 1103515245) + 12345)) 68 0 5) 68 2 ((((((I 68 2) + 0) + 0) + 0) + 0) + 0)) 68 3 (((((((((((((I 68 3) * 1103515245) + 12345) * 1103515245) + 12345) * 1103515245) + 12345) * 1103515245) + 12345) * 1103515245) + 12345) * 1103515245) + 12345)) 68 0 6) 68 2 (((((((I 68 2) + 0) + 0) + 0) + 0) + 0) + 0)) 68 3 (((((((((((((((I 68 3) * 1103515245) + 12345) * 1103515245) + 12345) * 1103515245) + 12345) * 1103515245) + 12345) * 1103515245) + 12345) * 1103515245) + 12345) * 1103515245) + 12345)) (fun r h => r = some (.int 0) ∧ h = (SH0, RF0, (gup (gup (gup (gup (gup (gup (gup (gup (gup (gup (gup (gup (gup (gup (gup (gup (gup (gup (gup (gup (gup I 68 3 (((I 68 3) * 1103515245) + 12345)) 68 0 1) 68 2 ((I 68 2) + 0)) 68 3 (((((I 68 3) * 1103515245) + 12345) * 1103515245) + 12345)) 68 0 2) 68 2 (((I 68 2) + 0) + 0)) 68 3 (((((((I 68 3) * 1103515245) + 12345) * 1103515245) + 12345) * 1103515245) + 12345)) 68 0 3) 68 2 ((((I 68 2) + 0) + 0) + 0)) 68 3 (((((((((I 68 3) * 1103515245) + 12345) * 1103515245) + 12345) * 1103515245) + 12345) * 1103515245) + 12345)) 68 0 4) 68 2 (((((I 68 2) + 0) + 0) + 0) + 0)) 68 3 (((((((((((I 68 3) * 1103515245) + 12345) * 1103515245) + 12345) * 1103515245) + 12345) * 1103515245) + 12345) * 1103515245) + 12345)) 68 0 5) 68 2 ((((((I 68 2) + 0) + 0) + 0) + 0) + 0)) 68 3 (((((((((((((I 68 3) * 1103515245) + 12345) * 1103515245) + 12345) * 1103515245) + 12345) * 1103515245) + 12345) * 1103515245) + 12345) * 1103515245) + 12345)) 68 0 6) 68 2 (((((((I 68 2) + 0) + 0) + 0) + 0) + 0) + 0)) 68 3 (((((((((((((((I 68 3) * 1103515245) + 12345) * 1103515245) + 12345) * 1103515245) + 12345) * 1103515245) + 12345) * 1103515245) + 12345) * 1103515245) + 12345) * 1103515245) + 12345)) 68 0 7) 68 2 ((((((((I 68 2) + 0) + 0) + 0) + 0) + 0) + 0) + 0)))) := by
  refine G_iload_n (pc := 0) rfl dX12_goesBy_0 ?_
  refine G_if_ge (pc := 1) (tgt := 11) (by decide) dX12_goesBy_1 (fun _ => ?_) (fun z => absurd (by decide) z)
  refine G_iload_n (pc := 11) rfl dX12_goesBy_11 ?_
  refine G_iconst (pc := 12) (v := 1) (by decide) dX12_goesBy_12 ?_
  refine G_isub (pc := 13) (z := (-1)) (by decide) dX12_goesBy_13 ?_
  refine G_istore_n (pc := 14) (L1 := [some (.ref 67), some (.int 0), some (.int (-1)), none, none]) rfl rfl (by decide) dX12_goesBy_14 ?_
  refine G_iload_n (pc := 15) rfl dX12_goesBy_15 ?_
  refine G_if_lt (pc := 16) (tgt := 27) (by decide) dX12_goesBy_16 (fun _ => ?_) (fun z => absurd (by decide) z)
  refine G_iconst (pc := 27) (v := 0) (by decide) dX12_goesBy_27 ?_
  refine G_istore_n (pc := 28) (L1 := [some (.ref 67), some (.int 0), some (.int (-1)), some (.int 0), none]) rfl rfl (by decide) dX12_goesBy_28 ?_
  refine G_iconst (pc := 29) (v := 0) (by decide) dX12_goesBy_29 ?_
  refine G_istore (pc := 30) (L1 := [some (.ref 67), some (.int 0), some (.int (-1)), some (.int 0), some (.int 0)]) rfl rfl (by decide) dX12_goesBy_30 ?_
  refine G_iload (pc := 32) rfl dX12_goesBy_32 ?_
  refine G_aload_n (pc := 34) rfl dX12_goesBy_34 ?_
  refine G_getR (pc := 35) (r := 68) (ci := 12) (j := 0) rfl lk_RX12_9 rfl rfl rfl dX12_goesBy_35 ?_
  refine G_iconst (pc := 38) (v := 4) (by decide) dX12_goesBy_38 ?_
  refine G_iald (pc := 39) (jj := 4) (v := 0) (by decide) (hI.2.2.1) rfl (by unfold vp_in; decide) dX12_goesBy_39 ?_
  refine G_icmp_ge (pc := 40) (tgt := 104) (by decide) dX12_goesBy_40 (fun _ => ?_) (fun z => absurd (by decide) z)
  refine G_aload_n (pc := 104) rfl dX12_goesBy_104 ?_
  refine G_getR (pc := 105) (r := 68) (ci := 12) (j := 0) rfl lk_RX12_9 rfl rfl rfl dX12_goesBy_105 ?_
  refine G_iconst (pc := 108) (v := 0) (by decide) dX12_goesBy_108 ?_
  refine G_dup2 (pc := 109) rfl rfl dX12_goesBy_109 ?_
  refine G_iald (pc := 110) (jj := 0) (v := 6) (by decide) rfl rfl (by unfold vp_in; decide) dX12_goesBy_110 ?_
  refine G_iconst (pc := 111) (v := 1) (by decide) dX12_goesBy_111 ?_
  refine G_iadd (pc := 112) (z := 7) (by decide) dX12_goesBy_112 ?_
  refine G_iast (pc := 113) (jj := 0) (by decide) rfl (by unfold vp_in; decide) dX12_goesBy_113 ?_
  refine G_aload_n (pc := 114) rfl dX12_goesBy_114 ?_
  refine G_getR (pc := 115) (r := 68) (ci := 12) (j := 0) rfl lk_RX12_9 rfl rfl rfl dX12_goesBy_115 ?_
  refine G_iconst (pc := 118) (v := 2) (by decide) dX12_goesBy_118 ?_
  refine G_dup2 (pc := 119) rfl rfl dX12_goesBy_119 ?_
  refine G_iald (pc := 120) (jj := 2) (v := (((((((I 68 2) + 0) + 0) + 0) + 0) + 0) + 0)) (by decide) rfl rfl (by unfold vp_in; decide) dX12_goesBy_120 ?_
  refine G_iload_n (pc := 121) rfl dX12_goesBy_121 ?_
  refine G_iadd (pc := 122) rfl dX12_goesBy_122 ?_
  refine G_iast (pc := 123) (jj := 2) (by decide) rfl (by unfold vp_in; decide) dX12_goesBy_123 ?_
  refine G_iload_n (pc := 124) rfl dX12_goesBy_124 ?_
  exact G_iret (pc := 125) (Nat.le_of_ble_eq_true rfl) (Nat.le_of_ble_eq_true rfl) rfl dX12_goesBy_125 ⟨rfl, rfl⟩
set_option maxRecDepth 100000 in
set_option maxHeartbeats 4000000 in
theorem s10343_X12_byLot  (d : Nat) (I : gI) (hI : I 68 0 = 0 ∧ I 68 1 = 12 ∧ I 68 4 = 0 ∧ I 70 0 = 0 ∧ I 70 1 = 12 ∧ I 70 4 = 0 ∧ True)  : G (d + 1) mX12_byLot 0 0 0 0 0 (gent 1 [.ref 67]) [] SH0 RF0 (gup (gup (gup (gup (gup (gup (gup (gup (gup (gup (gup (gup (gup (gup (gup (gup (gup (gup I 68 3 (((I 68 3) * 1103515245) + 12345)) 68 0 1) 68 2 ((I 68 2) + 0)) 68 3 (((((I 68 3) * 1103515245) + 12345) * 1103515245) + 12345)) 68 0 2) 68 2 (((I 68 2) + 0) + 0)) 68 3 (((((((I 68 3) * 1103515245) + 12345) * 1103515245) + 12345) * 1103515245) + 12345)) 68 0 3) 68 2 ((((I 68 2) + 0) + 0) + 0)) 68 3 (((((((((I 68 3) * 1103515245) + 12345) * 1103515245) + 12345) * 1103515245) + 12345) * 1103515245) + 12345)) 68 0 4) 68 2 (((((I 68 2) + 0) + 0) + 0) + 0)) 68 3 (((((((((((I 68 3) * 1103515245) + 12345) * 1103515245) + 12345) * 1103515245) + 12345) * 1103515245) + 12345) * 1103515245) + 12345)) 68 0 5) 68 2 ((((((I 68 2) + 0) + 0) + 0) + 0) + 0)) 68 3 (((((((((((((I 68 3) * 1103515245) + 12345) * 1103515245) + 12345) * 1103515245) + 12345) * 1103515245) + 12345) * 1103515245) + 12345) * 1103515245) + 12345)) 68 0 6) 68 2 (((((((I 68 2) + 0) + 0) + 0) + 0) + 0) + 0)) (fun r h => r = some (.int 0) ∧ h = (SH0, RF0, (gup (gup (gup (gup (gup (gup (gup (gup (gup (gup (gup (gup (gup (gup (gup (gup (gup (gup (gup (gup (gup I 68 3 (((I 68 3) * 1103515245) + 12345)) 68 0 1) 68 2 ((I 68 2) + 0)) 68 3 (((((I 68 3) * 1103515245) + 12345) * 1103515245) + 12345)) 68 0 2) 68 2 (((I 68 2) + 0) + 0)) 68 3 (((((((I 68 3) * 1103515245) + 12345) * 1103515245) + 12345) * 1103515245) + 12345)) 68 0 3) 68 2 ((((I 68 2) + 0) + 0) + 0)) 68 3 (((((((((I 68 3) * 1103515245) + 12345) * 1103515245) + 12345) * 1103515245) + 12345) * 1103515245) + 12345)) 68 0 4) 68 2 (((((I 68 2) + 0) + 0) + 0) + 0)) 68 3 (((((((((((I 68 3) * 1103515245) + 12345) * 1103515245) + 12345) * 1103515245) + 12345) * 1103515245) + 12345) * 1103515245) + 12345)) 68 0 5) 68 2 ((((((I 68 2) + 0) + 0) + 0) + 0) + 0)) 68 3 (((((((((((((I 68 3) * 1103515245) + 12345) * 1103515245) + 12345) * 1103515245) + 12345) * 1103515245) + 12345) * 1103515245) + 12345) * 1103515245) + 12345)) 68 0 6) 68 2 (((((((I 68 2) + 0) + 0) + 0) + 0) + 0) + 0)) 68 3 (((((((((((((((I 68 3) * 1103515245) + 12345) * 1103515245) + 12345) * 1103515245) + 12345) * 1103515245) + 12345) * 1103515245) + 12345) * 1103515245) + 12345) * 1103515245) + 12345)) 68 0 7) 68 2 ((((((((I 68 2) + 0) + 0) + 0) + 0) + 0) + 0) + 0)))) := by
  refine G_aload_n (pc := 0) rfl dX12_byLot_0 ?_
  refine G_getR (pc := 1) (r := 68) (ci := 12) (j := 0) rfl lk_RX12_9 rfl rfl rfl dX12_byLot_1 ?_
  refine G_iconst (pc := 4) (v := 3) (by decide) dX12_byLot_4 ?_
  refine G_aload_n (pc := 5) rfl dX12_byLot_5 ?_
  refine G_getR (pc := 6) (r := 68) (ci := 12) (j := 0) rfl lk_RX12_9 rfl rfl rfl dX12_byLot_6 ?_
  refine G_iconst (pc := 9) (v := 3) (by decide) dX12_byLot_9 ?_
  refine G_iald (pc := 10) (jj := 3) (v := (((((((((((((I 68 3) * 1103515245) + 12345) * 1103515245) + 12345) * 1103515245) + 12345) * 1103515245) + 12345) * 1103515245) + 12345) * 1103515245) + 12345)) (by decide) rfl rfl (by unfold vp_in; decide) dX12_byLot_10 ?_
  refine G_ldcw (pc := 11) (v := 1103515245) ck_RX12_313 dX12_byLot_11 ?_
  refine G_imul (pc := 14) rfl dX12_byLot_14 ?_
  refine G_sipush (pc := 15) (v := 12345) (by decide) dX12_byLot_15 ?_
  refine G_iadd (pc := 18) rfl dX12_byLot_18 ?_
  refine G_iast (pc := 19) (jj := 3) (by decide) rfl (by unfold vp_in; decide) dX12_byLot_19 ?_
  refine G_aload_n (pc := 20) rfl dX12_byLot_20 ?_
  refine G_aload_n (pc := 21) rfl dX12_byLot_21 ?_
  refine G_getR (pc := 22) (r := 68) (ci := 12) (j := 0) rfl lk_RX12_9 rfl rfl rfl dX12_byLot_22 ?_
  refine G_iconst (pc := 25) (v := 3) (by decide) dX12_byLot_25 ?_
  refine G_iald (pc := 26) (jj := 3) (v := (((((((((((((((I 68 3) * 1103515245) + 12345) * 1103515245) + 12345) * 1103515245) + 12345) * 1103515245) + 12345) * 1103515245) + 12345) * 1103515245) + 12345) * 1103515245) + 12345)) (by decide) rfl rfl (by unfold vp_in; decide) dX12_byLot_26 ?_
  refine G_bipush (pc := 27) (v := 16) (by decide) dX12_byLot_27 ?_
  refine G_iushr (pc := 29) rfl dX12_byLot_29 ?_
  refine G_aload_n (pc := 30) rfl dX12_byLot_30 ?_
  refine G_getR (pc := 31) (r := 68) (ci := 12) (j := 0) rfl lk_RX12_9 rfl rfl rfl dX12_byLot_31 ?_
  refine G_iconst (pc := 34) (v := 4) (by decide) dX12_byLot_34 ?_
  refine G_iald (pc := 35) (jj := 4) (v := 0) (by decide) (hI.2.2.1) rfl (by unfold vp_in; decide) dX12_byLot_35 ?_
  refine G_iconst (pc := 36) (v := 1) (by decide) dX12_byLot_36 ?_
  refine G_iadd (pc := 37) (z := 1) (by decide) dX12_byLot_37 ?_
  refine G_irem (pc := 38) (z := 0) (g_rem1 _) (by decide) dX12_byLot_38 ?_
  refine G_callV (pc := 39) (mc1 := 0) (ms1 := 0) (ci := 12) (mj := mX12_goesBy) (vs := [_]) dX12_byLot_39 rfl rfl cm_X12_goesBy wh_72 wh_74 wh_75 rfl (Nat.le_of_ble_eq_true rfl) (Nat.le_of_ble_eq_true rfl) (Nat.le_of_ble_eq_true rfl) (Nat.le_of_ble_eq_true rfl) (s10344_X12_goesBy  d _ hI ) ?_
  rintro _ _ ⟨rfl, rfl⟩
  dsimp only [Option.toList, List.cons_append, List.nil_append]
  exact G_iret (pc := 42) (Nat.le_of_ble_eq_true rfl) (Nat.le_of_ble_eq_true rfl) rfl dX12_byLot_42 ⟨rfl, rfl⟩
set_option maxRecDepth 100000 in
set_option maxHeartbeats 4000000 in
theorem s10345_X12_isOver  (d : Nat) (I : gI) (hI : I 68 0 = 0 ∧ I 68 1 = 12 ∧ I 68 4 = 0 ∧ I 70 0 = 0 ∧ I 70 1 = 12 ∧ I 70 4 = 0 ∧ True)  : G (d) mX12_isOver 0 0 0 0 0 (gent 1 [.ref 67]) [] SH0 RF0 (gup (gup (gup (gup (gup (gup (gup (gup (gup (gup (gup (gup (gup (gup (gup (gup (gup (gup (gup (gup (gup I 68 3 (((I 68 3) * 1103515245) + 12345)) 68 0 1) 68 2 ((I 68 2) + 0)) 68 3 (((((I 68 3) * 1103515245) + 12345) * 1103515245) + 12345)) 68 0 2) 68 2 (((I 68 2) + 0) + 0)) 68 3 (((((((I 68 3) * 1103515245) + 12345) * 1103515245) + 12345) * 1103515245) + 12345)) 68 0 3) 68 2 ((((I 68 2) + 0) + 0) + 0)) 68 3 (((((((((I 68 3) * 1103515245) + 12345) * 1103515245) + 12345) * 1103515245) + 12345) * 1103515245) + 12345)) 68 0 4) 68 2 (((((I 68 2) + 0) + 0) + 0) + 0)) 68 3 (((((((((((I 68 3) * 1103515245) + 12345) * 1103515245) + 12345) * 1103515245) + 12345) * 1103515245) + 12345) * 1103515245) + 12345)) 68 0 5) 68 2 ((((((I 68 2) + 0) + 0) + 0) + 0) + 0)) 68 3 (((((((((((((I 68 3) * 1103515245) + 12345) * 1103515245) + 12345) * 1103515245) + 12345) * 1103515245) + 12345) * 1103515245) + 12345) * 1103515245) + 12345)) 68 0 6) 68 2 (((((((I 68 2) + 0) + 0) + 0) + 0) + 0) + 0)) 68 3 (((((((((((((((I 68 3) * 1103515245) + 12345) * 1103515245) + 12345) * 1103515245) + 12345) * 1103515245) + 12345) * 1103515245) + 12345) * 1103515245) + 12345) * 1103515245) + 12345)) 68 0 7) 68 2 ((((((((I 68 2) + 0) + 0) + 0) + 0) + 0) + 0) + 0)) (fun r h => r = some (.int 0) ∧ h = (SH0, RF0, (gup (gup (gup (gup (gup (gup (gup (gup (gup (gup (gup (gup (gup (gup (gup (gup (gup (gup (gup (gup (gup I 68 3 (((I 68 3) * 1103515245) + 12345)) 68 0 1) 68 2 ((I 68 2) + 0)) 68 3 (((((I 68 3) * 1103515245) + 12345) * 1103515245) + 12345)) 68 0 2) 68 2 (((I 68 2) + 0) + 0)) 68 3 (((((((I 68 3) * 1103515245) + 12345) * 1103515245) + 12345) * 1103515245) + 12345)) 68 0 3) 68 2 ((((I 68 2) + 0) + 0) + 0)) 68 3 (((((((((I 68 3) * 1103515245) + 12345) * 1103515245) + 12345) * 1103515245) + 12345) * 1103515245) + 12345)) 68 0 4) 68 2 (((((I 68 2) + 0) + 0) + 0) + 0)) 68 3 (((((((((((I 68 3) * 1103515245) + 12345) * 1103515245) + 12345) * 1103515245) + 12345) * 1103515245) + 12345) * 1103515245) + 12345)) 68 0 5) 68 2 ((((((I 68 2) + 0) + 0) + 0) + 0) + 0)) 68 3 (((((((((((((I 68 3) * 1103515245) + 12345) * 1103515245) + 12345) * 1103515245) + 12345) * 1103515245) + 12345) * 1103515245) + 12345) * 1103515245) + 12345)) 68 0 6) 68 2 (((((((I 68 2) + 0) + 0) + 0) + 0) + 0) + 0)) 68 3 (((((((((((((((I 68 3) * 1103515245) + 12345) * 1103515245) + 12345) * 1103515245) + 12345) * 1103515245) + 12345) * 1103515245) + 12345) * 1103515245) + 12345) * 1103515245) + 12345)) 68 0 7) 68 2 ((((((((I 68 2) + 0) + 0) + 0) + 0) + 0) + 0) + 0)))) := by
  refine G_aload_n (pc := 0) rfl dX12_isOver_0 ?_
  refine G_getR (pc := 1) (r := 68) (ci := 12) (j := 0) rfl lk_RX12_9 rfl rfl rfl dX12_isOver_1 ?_
  refine G_iconst (pc := 4) (v := 0) (by decide) dX12_isOver_4 ?_
  refine G_iald (pc := 5) (jj := 0) (v := 7) (by decide) rfl rfl (by unfold vp_in; decide) dX12_isOver_5 ?_
  refine G_aload_n (pc := 6) rfl dX12_isOver_6 ?_
  refine G_getR (pc := 7) (r := 68) (ci := 12) (j := 0) rfl lk_RX12_9 rfl rfl rfl dX12_isOver_7 ?_
  refine G_iconst (pc := 10) (v := 1) (by decide) dX12_isOver_10 ?_
  refine G_iald (pc := 11) (jj := 1) (v := 12) (by decide) (hI.2.1) rfl (by unfold vp_in; decide) dX12_isOver_11 ?_
  refine G_icmp_lt (pc := 12) (tgt := 19) (by decide) dX12_isOver_12 (fun _ => ?_) (fun z => absurd (by decide) z)
  refine G_iconst (pc := 19) (v := 0) (by decide) dX12_isOver_19 ?_
  exact G_zret (pc := 20) (Nat.le_of_ble_eq_true rfl) (Nat.le_of_ble_eq_true rfl) rfl (by decide) dX12_isOver_20 ⟨rfl, rfl⟩
set_option maxRecDepth 100000 in
set_option maxHeartbeats 4000000 in
theorem s10347_X12_goesBy  (d : Nat) (I : gI) (hI : I 68 0 = 0 ∧ I 68 1 = 12 ∧ I 68 4 = 0 ∧ I 70 0 = 0 ∧ I 70 1 = 12 ∧ I 70 4 = 0 ∧ True)  : G (d) mX12_goesBy 0 0 0 0 0 (gent 5 [.ref 67, .int 0]) [] SH0 RF0 (gup (gup (gup (gup (gup (gup (gup (gup (gup (gup (gup (gup (gup (gup (gup (gup (gup (gup (gup (gup (gup (gup I 68 3 (((I 68 3) * 1103515245) + 12345)) 68 0 1) 68 2 ((I 68 2) + 0)) 68 3 (((((I 68 3) * 1103515245) + 12345) * 1103515245) + 12345)) 68 0 2) 68 2 (((I 68 2) + 0) + 0)) 68 3 (((((((I 68 3) * 1103515245) + 12345) * 1103515245) + 12345) * 1103515245) + 12345)) 68 0 3) 68 2 ((((I 68 2) + 0) + 0) + 0)) 68 3 (((((((((I 68 3) * 1103515245) + 12345) * 1103515245) + 12345) * 1103515245) + 12345) * 1103515245) + 12345)) 68 0 4) 68 2 (((((I 68 2) + 0) + 0) + 0) + 0)) 68 3 (((((((((((I 68 3) * 1103515245) + 12345) * 1103515245) + 12345) * 1103515245) + 12345) * 1103515245) + 12345) * 1103515245) + 12345)) 68 0 5) 68 2 ((((((I 68 2) + 0) + 0) + 0) + 0) + 0)) 68 3 (((((((((((((I 68 3) * 1103515245) + 12345) * 1103515245) + 12345) * 1103515245) + 12345) * 1103515245) + 12345) * 1103515245) + 12345) * 1103515245) + 12345)) 68 0 6) 68 2 (((((((I 68 2) + 0) + 0) + 0) + 0) + 0) + 0)) 68 3 (((((((((((((((I 68 3) * 1103515245) + 12345) * 1103515245) + 12345) * 1103515245) + 12345) * 1103515245) + 12345) * 1103515245) + 12345) * 1103515245) + 12345) * 1103515245) + 12345)) 68 0 7) 68 2 ((((((((I 68 2) + 0) + 0) + 0) + 0) + 0) + 0) + 0)) 68 3 (((((((((((((((((I 68 3) * 1103515245) + 12345) * 1103515245) + 12345) * 1103515245) + 12345) * 1103515245) + 12345) * 1103515245) + 12345) * 1103515245) + 12345) * 1103515245) + 12345) * 1103515245) + 12345)) (fun r h => r = some (.int 0) ∧ h = (SH0, RF0, (gup (gup (gup (gup (gup (gup (gup (gup (gup (gup (gup (gup (gup (gup (gup (gup (gup (gup (gup (gup (gup (gup (gup (gup I 68 3 (((I 68 3) * 1103515245) + 12345)) 68 0 1) 68 2 ((I 68 2) + 0)) 68 3 (((((I 68 3) * 1103515245) + 12345) * 1103515245) + 12345)) 68 0 2) 68 2 (((I 68 2) + 0) + 0)) 68 3 (((((((I 68 3) * 1103515245) + 12345) * 1103515245) + 12345) * 1103515245) + 12345)) 68 0 3) 68 2 ((((I 68 2) + 0) + 0) + 0)) 68 3 (((((((((I 68 3) * 1103515245) + 12345) * 1103515245) + 12345) * 1103515245) + 12345) * 1103515245) + 12345)) 68 0 4) 68 2 (((((I 68 2) + 0) + 0) + 0) + 0)) 68 3 (((((((((((I 68 3) * 1103515245) + 12345) * 1103515245) + 12345) * 1103515245) + 12345) * 1103515245) + 12345) * 1103515245) + 12345)) 68 0 5) 68 2 ((((((I 68 2) + 0) + 0) + 0) + 0) + 0)) 68 3 (((((((((((((I 68 3) * 1103515245) + 12345) * 1103515245) + 12345) * 1103515245) + 12345) * 1103515245) + 12345) * 1103515245) + 12345) * 1103515245) + 12345)) 68 0 6) 68 2 (((((((I 68 2) + 0) + 0) + 0) + 0) + 0) + 0)) 68 3 (((((((((((((((I 68 3) * 1103515245) + 12345) * 1103515245) + 12345) * 1103515245) + 12345) * 1103515245) + 12345) * 1103515245) + 12345) * 1103515245) + 12345) * 1103515245) + 12345)) 68 0 7) 68 2 ((((((((I 68 2) + 0) + 0) + 0) + 0) + 0) + 0) + 0)) 68 3 (((((((((((((((((I 68 3) * 1103515245) + 12345) * 1103515245) + 12345) * 1103515245) + 12345) * 1103515245) + 12345) * 1103515245) + 12345) * 1103515245) + 12345) * 1103515245) + 12345) * 1103515245) + 12345)) 68 0 8) 68 2 (((((((((I 68 2) + 0) + 0) + 0) + 0) + 0) + 0) + 0) + 0)))) := by
  refine G_iload_n (pc := 0) rfl dX12_goesBy_0 ?_
  refine G_if_ge (pc := 1) (tgt := 11) (by decide) dX12_goesBy_1 (fun _ => ?_) (fun z => absurd (by decide) z)
  refine G_iload_n (pc := 11) rfl dX12_goesBy_11 ?_
  refine G_iconst (pc := 12) (v := 1) (by decide) dX12_goesBy_12 ?_
  refine G_isub (pc := 13) (z := (-1)) (by decide) dX12_goesBy_13 ?_
  refine G_istore_n (pc := 14) (L1 := [some (.ref 67), some (.int 0), some (.int (-1)), none, none]) rfl rfl (by decide) dX12_goesBy_14 ?_
  refine G_iload_n (pc := 15) rfl dX12_goesBy_15 ?_
  refine G_if_lt (pc := 16) (tgt := 27) (by decide) dX12_goesBy_16 (fun _ => ?_) (fun z => absurd (by decide) z)
  refine G_iconst (pc := 27) (v := 0) (by decide) dX12_goesBy_27 ?_
  refine G_istore_n (pc := 28) (L1 := [some (.ref 67), some (.int 0), some (.int (-1)), some (.int 0), none]) rfl rfl (by decide) dX12_goesBy_28 ?_
  refine G_iconst (pc := 29) (v := 0) (by decide) dX12_goesBy_29 ?_
  refine G_istore (pc := 30) (L1 := [some (.ref 67), some (.int 0), some (.int (-1)), some (.int 0), some (.int 0)]) rfl rfl (by decide) dX12_goesBy_30 ?_
  refine G_iload (pc := 32) rfl dX12_goesBy_32 ?_
  refine G_aload_n (pc := 34) rfl dX12_goesBy_34 ?_
  refine G_getR (pc := 35) (r := 68) (ci := 12) (j := 0) rfl lk_RX12_9 rfl rfl rfl dX12_goesBy_35 ?_
  refine G_iconst (pc := 38) (v := 4) (by decide) dX12_goesBy_38 ?_
  refine G_iald (pc := 39) (jj := 4) (v := 0) (by decide) (hI.2.2.1) rfl (by unfold vp_in; decide) dX12_goesBy_39 ?_
  refine G_icmp_ge (pc := 40) (tgt := 104) (by decide) dX12_goesBy_40 (fun _ => ?_) (fun z => absurd (by decide) z)
  refine G_aload_n (pc := 104) rfl dX12_goesBy_104 ?_
  refine G_getR (pc := 105) (r := 68) (ci := 12) (j := 0) rfl lk_RX12_9 rfl rfl rfl dX12_goesBy_105 ?_
  refine G_iconst (pc := 108) (v := 0) (by decide) dX12_goesBy_108 ?_
  refine G_dup2 (pc := 109) rfl rfl dX12_goesBy_109 ?_
  refine G_iald (pc := 110) (jj := 0) (v := 7) (by decide) rfl rfl (by unfold vp_in; decide) dX12_goesBy_110 ?_
  refine G_iconst (pc := 111) (v := 1) (by decide) dX12_goesBy_111 ?_
  refine G_iadd (pc := 112) (z := 8) (by decide) dX12_goesBy_112 ?_
  refine G_iast (pc := 113) (jj := 0) (by decide) rfl (by unfold vp_in; decide) dX12_goesBy_113 ?_
  refine G_aload_n (pc := 114) rfl dX12_goesBy_114 ?_
  refine G_getR (pc := 115) (r := 68) (ci := 12) (j := 0) rfl lk_RX12_9 rfl rfl rfl dX12_goesBy_115 ?_
  refine G_iconst (pc := 118) (v := 2) (by decide) dX12_goesBy_118 ?_
  refine G_dup2 (pc := 119) rfl rfl dX12_goesBy_119 ?_
  refine G_iald (pc := 120) (jj := 2) (v := ((((((((I 68 2) + 0) + 0) + 0) + 0) + 0) + 0) + 0)) (by decide) rfl rfl (by unfold vp_in; decide) dX12_goesBy_120 ?_
  refine G_iload_n (pc := 121) rfl dX12_goesBy_121 ?_
  refine G_iadd (pc := 122) rfl dX12_goesBy_122 ?_
  refine G_iast (pc := 123) (jj := 2) (by decide) rfl (by unfold vp_in; decide) dX12_goesBy_123 ?_
  refine G_iload_n (pc := 124) rfl dX12_goesBy_124 ?_
  exact G_iret (pc := 125) (Nat.le_of_ble_eq_true rfl) (Nat.le_of_ble_eq_true rfl) rfl dX12_goesBy_125 ⟨rfl, rfl⟩
set_option maxRecDepth 100000 in
set_option maxHeartbeats 4000000 in
theorem s10346_X12_byLot  (d : Nat) (I : gI) (hI : I 68 0 = 0 ∧ I 68 1 = 12 ∧ I 68 4 = 0 ∧ I 70 0 = 0 ∧ I 70 1 = 12 ∧ I 70 4 = 0 ∧ True)  : G (d + 1) mX12_byLot 0 0 0 0 0 (gent 1 [.ref 67]) [] SH0 RF0 (gup (gup (gup (gup (gup (gup (gup (gup (gup (gup (gup (gup (gup (gup (gup (gup (gup (gup (gup (gup (gup I 68 3 (((I 68 3) * 1103515245) + 12345)) 68 0 1) 68 2 ((I 68 2) + 0)) 68 3 (((((I 68 3) * 1103515245) + 12345) * 1103515245) + 12345)) 68 0 2) 68 2 (((I 68 2) + 0) + 0)) 68 3 (((((((I 68 3) * 1103515245) + 12345) * 1103515245) + 12345) * 1103515245) + 12345)) 68 0 3) 68 2 ((((I 68 2) + 0) + 0) + 0)) 68 3 (((((((((I 68 3) * 1103515245) + 12345) * 1103515245) + 12345) * 1103515245) + 12345) * 1103515245) + 12345)) 68 0 4) 68 2 (((((I 68 2) + 0) + 0) + 0) + 0)) 68 3 (((((((((((I 68 3) * 1103515245) + 12345) * 1103515245) + 12345) * 1103515245) + 12345) * 1103515245) + 12345) * 1103515245) + 12345)) 68 0 5) 68 2 ((((((I 68 2) + 0) + 0) + 0) + 0) + 0)) 68 3 (((((((((((((I 68 3) * 1103515245) + 12345) * 1103515245) + 12345) * 1103515245) + 12345) * 1103515245) + 12345) * 1103515245) + 12345) * 1103515245) + 12345)) 68 0 6) 68 2 (((((((I 68 2) + 0) + 0) + 0) + 0) + 0) + 0)) 68 3 (((((((((((((((I 68 3) * 1103515245) + 12345) * 1103515245) + 12345) * 1103515245) + 12345) * 1103515245) + 12345) * 1103515245) + 12345) * 1103515245) + 12345) * 1103515245) + 12345)) 68 0 7) 68 2 ((((((((I 68 2) + 0) + 0) + 0) + 0) + 0) + 0) + 0)) (fun r h => r = some (.int 0) ∧ h = (SH0, RF0, (gup (gup (gup (gup (gup (gup (gup (gup (gup (gup (gup (gup (gup (gup (gup (gup (gup (gup (gup (gup (gup (gup (gup (gup I 68 3 (((I 68 3) * 1103515245) + 12345)) 68 0 1) 68 2 ((I 68 2) + 0)) 68 3 (((((I 68 3) * 1103515245) + 12345) * 1103515245) + 12345)) 68 0 2) 68 2 (((I 68 2) + 0) + 0)) 68 3 (((((((I 68 3) * 1103515245) + 12345) * 1103515245) + 12345) * 1103515245) + 12345)) 68 0 3) 68 2 ((((I 68 2) + 0) + 0) + 0)) 68 3 (((((((((I 68 3) * 1103515245) + 12345) * 1103515245) + 12345) * 1103515245) + 12345) * 1103515245) + 12345)) 68 0 4) 68 2 (((((I 68 2) + 0) + 0) + 0) + 0)) 68 3 (((((((((((I 68 3) * 1103515245) + 12345) * 1103515245) + 12345) * 1103515245) + 12345) * 1103515245) + 12345) * 1103515245) + 12345)) 68 0 5) 68 2 ((((((I 68 2) + 0) + 0) + 0) + 0) + 0)) 68 3 (((((((((((((I 68 3) * 1103515245) + 12345) * 1103515245) + 12345) * 1103515245) + 12345) * 1103515245) + 12345) * 1103515245) + 12345) * 1103515245) + 12345)) 68 0 6) 68 2 (((((((I 68 2) + 0) + 0) + 0) + 0) + 0) + 0)) 68 3 (((((((((((((((I 68 3) * 1103515245) + 12345) * 1103515245) + 12345) * 1103515245) + 12345) * 1103515245) + 12345) * 1103515245) + 12345) * 1103515245) + 12345) * 1103515245) + 12345)) 68 0 7) 68 2 ((((((((I 68 2) + 0) + 0) + 0) + 0) + 0) + 0) + 0)) 68 3 (((((((((((((((((I 68 3) * 1103515245) + 12345) * 1103515245) + 12345) * 1103515245) + 12345) * 1103515245) + 12345) * 1103515245) + 12345) * 1103515245) + 12345) * 1103515245) + 12345) * 1103515245) + 12345)) 68 0 8) 68 2 (((((((((I 68 2) + 0) + 0) + 0) + 0) + 0) + 0) + 0) + 0)))) := by
  refine G_aload_n (pc := 0) rfl dX12_byLot_0 ?_
  refine G_getR (pc := 1) (r := 68) (ci := 12) (j := 0) rfl lk_RX12_9 rfl rfl rfl dX12_byLot_1 ?_
  refine G_iconst (pc := 4) (v := 3) (by decide) dX12_byLot_4 ?_
  refine G_aload_n (pc := 5) rfl dX12_byLot_5 ?_
  refine G_getR (pc := 6) (r := 68) (ci := 12) (j := 0) rfl lk_RX12_9 rfl rfl rfl dX12_byLot_6 ?_
  refine G_iconst (pc := 9) (v := 3) (by decide) dX12_byLot_9 ?_
  refine G_iald (pc := 10) (jj := 3) (v := (((((((((((((((I 68 3) * 1103515245) + 12345) * 1103515245) + 12345) * 1103515245) + 12345) * 1103515245) + 12345) * 1103515245) + 12345) * 1103515245) + 12345) * 1103515245) + 12345)) (by decide) rfl rfl (by unfold vp_in; decide) dX12_byLot_10 ?_
  refine G_ldcw (pc := 11) (v := 1103515245) ck_RX12_313 dX12_byLot_11 ?_
  refine G_imul (pc := 14) rfl dX12_byLot_14 ?_
  refine G_sipush (pc := 15) (v := 12345) (by decide) dX12_byLot_15 ?_
  refine G_iadd (pc := 18) rfl dX12_byLot_18 ?_
  refine G_iast (pc := 19) (jj := 3) (by decide) rfl (by unfold vp_in; decide) dX12_byLot_19 ?_
  refine G_aload_n (pc := 20) rfl dX12_byLot_20 ?_
  refine G_aload_n (pc := 21) rfl dX12_byLot_21 ?_
  refine G_getR (pc := 22) (r := 68) (ci := 12) (j := 0) rfl lk_RX12_9 rfl rfl rfl dX12_byLot_22 ?_
  refine G_iconst (pc := 25) (v := 3) (by decide) dX12_byLot_25 ?_
  refine G_iald (pc := 26) (jj := 3) (v := (((((((((((((((((I 68 3) * 1103515245) + 12345) * 1103515245) + 12345) * 1103515245) + 12345) * 1103515245) + 12345) * 1103515245) + 12345) * 1103515245) + 12345) * 1103515245) + 12345) * 1103515245) + 12345)) (by decide) rfl rfl (by unfold vp_in; decide) dX12_byLot_26 ?_
  refine G_bipush (pc := 27) (v := 16) (by decide) dX12_byLot_27 ?_
  refine G_iushr (pc := 29) rfl dX12_byLot_29 ?_
  refine G_aload_n (pc := 30) rfl dX12_byLot_30 ?_
  refine G_getR (pc := 31) (r := 68) (ci := 12) (j := 0) rfl lk_RX12_9 rfl rfl rfl dX12_byLot_31 ?_
  refine G_iconst (pc := 34) (v := 4) (by decide) dX12_byLot_34 ?_
  refine G_iald (pc := 35) (jj := 4) (v := 0) (by decide) (hI.2.2.1) rfl (by unfold vp_in; decide) dX12_byLot_35 ?_
  refine G_iconst (pc := 36) (v := 1) (by decide) dX12_byLot_36 ?_
  refine G_iadd (pc := 37) (z := 1) (by decide) dX12_byLot_37 ?_
  refine G_irem (pc := 38) (z := 0) (g_rem1 _) (by decide) dX12_byLot_38 ?_
  refine G_callV (pc := 39) (mc1 := 0) (ms1 := 0) (ci := 12) (mj := mX12_goesBy) (vs := [_]) dX12_byLot_39 rfl rfl cm_X12_goesBy wh_72 wh_74 wh_75 rfl (Nat.le_of_ble_eq_true rfl) (Nat.le_of_ble_eq_true rfl) (Nat.le_of_ble_eq_true rfl) (Nat.le_of_ble_eq_true rfl) (s10347_X12_goesBy  d _ hI ) ?_
  rintro _ _ ⟨rfl, rfl⟩
  dsimp only [Option.toList, List.cons_append, List.nil_append]
  exact G_iret (pc := 42) (Nat.le_of_ble_eq_true rfl) (Nat.le_of_ble_eq_true rfl) rfl dX12_byLot_42 ⟨rfl, rfl⟩
set_option maxRecDepth 100000 in
set_option maxHeartbeats 4000000 in
theorem s10348_X12_isOver  (d : Nat) (I : gI) (hI : I 68 0 = 0 ∧ I 68 1 = 12 ∧ I 68 4 = 0 ∧ I 70 0 = 0 ∧ I 70 1 = 12 ∧ I 70 4 = 0 ∧ True)  : G (d) mX12_isOver 0 0 0 0 0 (gent 1 [.ref 67]) [] SH0 RF0 (gup (gup (gup (gup (gup (gup (gup (gup (gup (gup (gup (gup (gup (gup (gup (gup (gup (gup (gup (gup (gup (gup (gup (gup I 68 3 (((I 68 3) * 1103515245) + 12345)) 68 0 1) 68 2 ((I 68 2) + 0)) 68 3 (((((I 68 3) * 1103515245) + 12345) * 1103515245) + 12345)) 68 0 2) 68 2 (((I 68 2) + 0) + 0)) 68 3 (((((((I 68 3) * 1103515245) + 12345) * 1103515245) + 12345) * 1103515245) + 12345)) 68 0 3) 68 2 ((((I 68 2) + 0) + 0) + 0)) 68 3 (((((((((I 68 3) * 1103515245) + 12345) * 1103515245) + 12345) * 1103515245) + 12345) * 1103515245) + 12345)) 68 0 4) 68 2 (((((I 68 2) + 0) + 0) + 0) + 0)) 68 3 (((((((((((I 68 3) * 1103515245) + 12345) * 1103515245) + 12345) * 1103515245) + 12345) * 1103515245) + 12345) * 1103515245) + 12345)) 68 0 5) 68 2 ((((((I 68 2) + 0) + 0) + 0) + 0) + 0)) 68 3 (((((((((((((I 68 3) * 1103515245) + 12345) * 1103515245) + 12345) * 1103515245) + 12345) * 1103515245) + 12345) * 1103515245) + 12345) * 1103515245) + 12345)) 68 0 6) 68 2 (((((((I 68 2) + 0) + 0) + 0) + 0) + 0) + 0)) 68 3 (((((((((((((((I 68 3) * 1103515245) + 12345) * 1103515245) + 12345) * 1103515245) + 12345) * 1103515245) + 12345) * 1103515245) + 12345) * 1103515245) + 12345) * 1103515245) + 12345)) 68 0 7) 68 2 ((((((((I 68 2) + 0) + 0) + 0) + 0) + 0) + 0) + 0)) 68 3 (((((((((((((((((I 68 3) * 1103515245) + 12345) * 1103515245) + 12345) * 1103515245) + 12345) * 1103515245) + 12345) * 1103515245) + 12345) * 1103515245) + 12345) * 1103515245) + 12345) * 1103515245) + 12345)) 68 0 8) 68 2 (((((((((I 68 2) + 0) + 0) + 0) + 0) + 0) + 0) + 0) + 0)) (fun r h => r = some (.int 0) ∧ h = (SH0, RF0, (gup (gup (gup (gup (gup (gup (gup (gup (gup (gup (gup (gup (gup (gup (gup (gup (gup (gup (gup (gup (gup (gup (gup (gup I 68 3 (((I 68 3) * 1103515245) + 12345)) 68 0 1) 68 2 ((I 68 2) + 0)) 68 3 (((((I 68 3) * 1103515245) + 12345) * 1103515245) + 12345)) 68 0 2) 68 2 (((I 68 2) + 0) + 0)) 68 3 (((((((I 68 3) * 1103515245) + 12345) * 1103515245) + 12345) * 1103515245) + 12345)) 68 0 3) 68 2 ((((I 68 2) + 0) + 0) + 0)) 68 3 (((((((((I 68 3) * 1103515245) + 12345) * 1103515245) + 12345) * 1103515245) + 12345) * 1103515245) + 12345)) 68 0 4) 68 2 (((((I 68 2) + 0) + 0) + 0) + 0)) 68 3 (((((((((((I 68 3) * 1103515245) + 12345) * 1103515245) + 12345) * 1103515245) + 12345) * 1103515245) + 12345) * 1103515245) + 12345)) 68 0 5) 68 2 ((((((I 68 2) + 0) + 0) + 0) + 0) + 0)) 68 3 (((((((((((((I 68 3) * 1103515245) + 12345) * 1103515245) + 12345) * 1103515245) + 12345) * 1103515245) + 12345) * 1103515245) + 12345) * 1103515245) + 12345)) 68 0 6) 68 2 (((((((I 68 2) + 0) + 0) + 0) + 0) + 0) + 0)) 68 3 (((((((((((((((I 68 3) * 1103515245) + 12345) * 1103515245) + 12345) * 1103515245) + 12345) * 1103515245) + 12345) * 1103515245) + 12345) * 1103515245) + 12345) * 1103515245) + 12345)) 68 0 7) 68 2 ((((((((I 68 2) + 0) + 0) + 0) + 0) + 0) + 0) + 0)) 68 3 (((((((((((((((((I 68 3) * 1103515245) + 12345) * 1103515245) + 12345) * 1103515245) + 12345) * 1103515245) + 12345) * 1103515245) + 12345) * 1103515245) + 12345) * 1103515245) + 12345) * 1103515245) + 12345)) 68 0 8) 68 2 (((((((((I 68 2) + 0) + 0) + 0) + 0) + 0) + 0) + 0) + 0)))) := by
  refine G_aload_n (pc := 0) rfl dX12_isOver_0 ?_
  refine G_getR (pc := 1) (r := 68) (ci := 12) (j := 0) rfl lk_RX12_9 rfl rfl rfl dX12_isOver_1 ?_
  refine G_iconst (pc := 4) (v := 0) (by decide) dX12_isOver_4 ?_
  refine G_iald (pc := 5) (jj := 0) (v := 8) (by decide) rfl rfl (by unfold vp_in; decide) dX12_isOver_5 ?_
  refine G_aload_n (pc := 6) rfl dX12_isOver_6 ?_
  refine G_getR (pc := 7) (r := 68) (ci := 12) (j := 0) rfl lk_RX12_9 rfl rfl rfl dX12_isOver_7 ?_
  refine G_iconst (pc := 10) (v := 1) (by decide) dX12_isOver_10 ?_
  refine G_iald (pc := 11) (jj := 1) (v := 12) (by decide) (hI.2.1) rfl (by unfold vp_in; decide) dX12_isOver_11 ?_
  refine G_icmp_lt (pc := 12) (tgt := 19) (by decide) dX12_isOver_12 (fun _ => ?_) (fun z => absurd (by decide) z)
  refine G_iconst (pc := 19) (v := 0) (by decide) dX12_isOver_19 ?_
  exact G_zret (pc := 20) (Nat.le_of_ble_eq_true rfl) (Nat.le_of_ble_eq_true rfl) rfl (by decide) dX12_isOver_20 ⟨rfl, rfl⟩
set_option maxRecDepth 100000 in
set_option maxHeartbeats 4000000 in
theorem s10350_X12_goesBy  (d : Nat) (I : gI) (hI : I 68 0 = 0 ∧ I 68 1 = 12 ∧ I 68 4 = 0 ∧ I 70 0 = 0 ∧ I 70 1 = 12 ∧ I 70 4 = 0 ∧ True)  : G (d) mX12_goesBy 0 0 0 0 0 (gent 5 [.ref 67, .int 0]) [] SH0 RF0 (gup (gup (gup (gup (gup (gup (gup (gup (gup (gup (gup (gup (gup (gup (gup (gup (gup (gup (gup (gup (gup (gup (gup (gup (gup I 68 3 (((I 68 3) * 1103515245) + 12345)) 68 0 1) 68 2 ((I 68 2) + 0)) 68 3 (((((I 68 3) * 1103515245) + 12345) * 1103515245) + 12345)) 68 0 2) 68 2 (((I 68 2) + 0) + 0)) 68 3 (((((((I 68 3) * 1103515245) + 12345) * 1103515245) + 12345) * 1103515245) + 12345)) 68 0 3) 68 2 ((((I 68 2) + 0) + 0) + 0)) 68 3 (((((((((I 68 3) * 1103515245) + 12345) * 1103515245) + 12345) * 1103515245) + 12345) * 1103515245) + 12345)) 68 0 4) 68 2 (((((I 68 2) + 0) + 0) + 0) + 0)) 68 3 (((((((((((I 68 3) * 1103515245) + 12345) * 1103515245) + 12345) * 1103515245) + 12345) * 1103515245) + 12345) * 1103515245) + 12345)) 68 0 5) 68 2 ((((((I 68 2) + 0) + 0) + 0) + 0) + 0)) 68 3 (((((((((((((I 68 3) * 1103515245) + 12345) * 1103515245) + 12345) * 1103515245) + 12345) * 1103515245) + 12345) * 1103515245) + 12345) * 1103515245) + 12345)) 68 0 6) 68 2 (((((((I 68 2) + 0) + 0) + 0) + 0) + 0) + 0)) 68 3 (((((((((((((((I 68 3) * 1103515245) + 12345) * 1103515245) + 12345) * 1103515245) + 12345) * 1103515245) + 12345) * 1103515245) + 12345) * 1103515245) + 12345) * 1103515245) + 12345)) 68 0 7) 68 2 ((((((((I 68 2) + 0) + 0) + 0) + 0) + 0) + 0) + 0)) 68 3 (((((((((((((((((I 68 3) * 1103515245) + 12345) * 1103515245) + 12345) * 1103515245) + 12345) * 1103515245) + 12345) * 1103515245) + 12345) * 1103515245) + 12345) * 1103515245) + 12345) * 1103515245) + 12345)) 68 0 8) 68 2 (((((((((I 68 2) + 0) + 0) + 0) + 0) + 0) + 0) + 0) + 0)) 68 3 (((((((((((((((((((I 68 3) * 1103515245) + 12345) * 1103515245) + 12345) * 1103515245) + 12345) * 1103515245) + 12345) * 1103515245) + 12345) * 1103515245) + 12345) * 1103515245) + 12345) * 1103515245) + 12345) * 1103515245) + 12345)) (fun r h => r = some (.int 0) ∧ h = (SH0, RF0, (gup (gup (gup (gup (gup (gup (gup (gup (gup (gup (gup (gup (gup (gup (gup (gup (gup (gup (gup (gup (gup (gup (gup (gup (gup (gup (gup I 68 3 (((I 68 3) * 1103515245) + 12345)) 68 0 1) 68 2 ((I 68 2) + 0)) 68 3 (((((I 68 3) * 1103515245) + 12345) * 1103515245) + 12345)) 68 0 2) 68 2 (((I 68 2) + 0) + 0)) 68 3 (((((((I 68 3) * 1103515245) + 12345) * 1103515245) + 12345) * 1103515245) + 12345)) 68 0 3) 68 2 ((((I 68 2) + 0) + 0) + 0)) 68 3 (((((((((I 68 3) * 1103515245) + 12345) * 1103515245) + 12345) * 1103515245) + 12345) * 1103515245) + 12345)) 68 0 4) 68 2 (((((I 68 2) + 0) + 0) + 0) + 0)) 68 3 (((((((((((I 68 3) * 1103515245) + 12345) * 1103515245) + 12345) * 1103515245) + 12345) * 1103515245) + 12345) * 1103515245) + 12345)) 68 0 5) 68 2 ((((((I 68 2) + 0) + 0) + 0) + 0) + 0)) 68 3 (((((((((((((I 68 3) * 1103515245) + 12345) * 1103515245) + 12345) * 1103515245) + 12345) * 1103515245) + 12345) * 1103515245) + 12345) * 1103515245) + 12345)) 68 0 6) 68 2 (((((((I 68 2) + 0) + 0) + 0) + 0) + 0) + 0)) 68 3 (((((((((((((((I 68 3) * 1103515245) + 12345) * 1103515245) + 12345) * 1103515245) + 12345) * 1103515245) + 12345) * 1103515245) + 12345) * 1103515245) + 12345) * 1103515245) + 12345)) 68 0 7) 68 2 ((((((((I 68 2) + 0) + 0) + 0) + 0) + 0) + 0) + 0)) 68 3 (((((((((((((((((I 68 3) * 1103515245) + 12345) * 1103515245) + 12345) * 1103515245) + 12345) * 1103515245) + 12345) * 1103515245) + 12345) * 1103515245) + 12345) * 1103515245) + 12345) * 1103515245) + 12345)) 68 0 8) 68 2 (((((((((I 68 2) + 0) + 0) + 0) + 0) + 0) + 0) + 0) + 0)) 68 3 (((((((((((((((((((I 68 3) * 1103515245) + 12345) * 1103515245) + 12345) * 1103515245) + 12345) * 1103515245) + 12345) * 1103515245) + 12345) * 1103515245) + 12345) * 1103515245) + 12345) * 1103515245) + 12345) * 1103515245) + 12345)) 68 0 9) 68 2 ((((((((((I 68 2) + 0) + 0) + 0) + 0) + 0) + 0) + 0) + 0) + 0)))) := by
  refine G_iload_n (pc := 0) rfl dX12_goesBy_0 ?_
  refine G_if_ge (pc := 1) (tgt := 11) (by decide) dX12_goesBy_1 (fun _ => ?_) (fun z => absurd (by decide) z)
  refine G_iload_n (pc := 11) rfl dX12_goesBy_11 ?_
  refine G_iconst (pc := 12) (v := 1) (by decide) dX12_goesBy_12 ?_
  refine G_isub (pc := 13) (z := (-1)) (by decide) dX12_goesBy_13 ?_
  refine G_istore_n (pc := 14) (L1 := [some (.ref 67), some (.int 0), some (.int (-1)), none, none]) rfl rfl (by decide) dX12_goesBy_14 ?_
  refine G_iload_n (pc := 15) rfl dX12_goesBy_15 ?_
  refine G_if_lt (pc := 16) (tgt := 27) (by decide) dX12_goesBy_16 (fun _ => ?_) (fun z => absurd (by decide) z)
  refine G_iconst (pc := 27) (v := 0) (by decide) dX12_goesBy_27 ?_
  refine G_istore_n (pc := 28) (L1 := [some (.ref 67), some (.int 0), some (.int (-1)), some (.int 0), none]) rfl rfl (by decide) dX12_goesBy_28 ?_
  refine G_iconst (pc := 29) (v := 0) (by decide) dX12_goesBy_29 ?_
  refine G_istore (pc := 30) (L1 := [some (.ref 67), some (.int 0), some (.int (-1)), some (.int 0), some (.int 0)]) rfl rfl (by decide) dX12_goesBy_30 ?_
  refine G_iload (pc := 32) rfl dX12_goesBy_32 ?_
  refine G_aload_n (pc := 34) rfl dX12_goesBy_34 ?_
  refine G_getR (pc := 35) (r := 68) (ci := 12) (j := 0) rfl lk_RX12_9 rfl rfl rfl dX12_goesBy_35 ?_
  refine G_iconst (pc := 38) (v := 4) (by decide) dX12_goesBy_38 ?_
  refine G_iald (pc := 39) (jj := 4) (v := 0) (by decide) (hI.2.2.1) rfl (by unfold vp_in; decide) dX12_goesBy_39 ?_
  refine G_icmp_ge (pc := 40) (tgt := 104) (by decide) dX12_goesBy_40 (fun _ => ?_) (fun z => absurd (by decide) z)
  refine G_aload_n (pc := 104) rfl dX12_goesBy_104 ?_
  refine G_getR (pc := 105) (r := 68) (ci := 12) (j := 0) rfl lk_RX12_9 rfl rfl rfl dX12_goesBy_105 ?_
  refine G_iconst (pc := 108) (v := 0) (by decide) dX12_goesBy_108 ?_
  refine G_dup2 (pc := 109) rfl rfl dX12_goesBy_109 ?_
  refine G_iald (pc := 110) (jj := 0) (v := 8) (by decide) rfl rfl (by unfold vp_in; decide) dX12_goesBy_110 ?_
  refine G_iconst (pc := 111) (v := 1) (by decide) dX12_goesBy_111 ?_
  refine G_iadd (pc := 112) (z := 9) (by decide) dX12_goesBy_112 ?_
  refine G_iast (pc := 113) (jj := 0) (by decide) rfl (by unfold vp_in; decide) dX12_goesBy_113 ?_
  refine G_aload_n (pc := 114) rfl dX12_goesBy_114 ?_
  refine G_getR (pc := 115) (r := 68) (ci := 12) (j := 0) rfl lk_RX12_9 rfl rfl rfl dX12_goesBy_115 ?_
  refine G_iconst (pc := 118) (v := 2) (by decide) dX12_goesBy_118 ?_
  refine G_dup2 (pc := 119) rfl rfl dX12_goesBy_119 ?_
  refine G_iald (pc := 120) (jj := 2) (v := (((((((((I 68 2) + 0) + 0) + 0) + 0) + 0) + 0) + 0) + 0)) (by decide) rfl rfl (by unfold vp_in; decide) dX12_goesBy_120 ?_
  refine G_iload_n (pc := 121) rfl dX12_goesBy_121 ?_
  refine G_iadd (pc := 122) rfl dX12_goesBy_122 ?_
  refine G_iast (pc := 123) (jj := 2) (by decide) rfl (by unfold vp_in; decide) dX12_goesBy_123 ?_
  refine G_iload_n (pc := 124) rfl dX12_goesBy_124 ?_
  exact G_iret (pc := 125) (Nat.le_of_ble_eq_true rfl) (Nat.le_of_ble_eq_true rfl) rfl dX12_goesBy_125 ⟨rfl, rfl⟩
set_option maxRecDepth 100000 in
set_option maxHeartbeats 4000000 in
theorem s10349_X12_byLot  (d : Nat) (I : gI) (hI : I 68 0 = 0 ∧ I 68 1 = 12 ∧ I 68 4 = 0 ∧ I 70 0 = 0 ∧ I 70 1 = 12 ∧ I 70 4 = 0 ∧ True)  : G (d + 1) mX12_byLot 0 0 0 0 0 (gent 1 [.ref 67]) [] SH0 RF0 (gup (gup (gup (gup (gup (gup (gup (gup (gup (gup (gup (gup (gup (gup (gup (gup (gup (gup (gup (gup (gup (gup (gup (gup I 68 3 (((I 68 3) * 1103515245) + 12345)) 68 0 1) 68 2 ((I 68 2) + 0)) 68 3 (((((I 68 3) * 1103515245) + 12345) * 1103515245) + 12345)) 68 0 2) 68 2 (((I 68 2) + 0) + 0)) 68 3 (((((((I 68 3) * 1103515245) + 12345) * 1103515245) + 12345) * 1103515245) + 12345)) 68 0 3) 68 2 ((((I 68 2) + 0) + 0) + 0)) 68 3 (((((((((I 68 3) * 1103515245) + 12345) * 1103515245) + 12345) * 1103515245) + 12345) * 1103515245) + 12345)) 68 0 4) 68 2 (((((I 68 2) + 0) + 0) + 0) + 0)) 68 3 (((((((((((I 68 3) * 1103515245) + 12345) * 1103515245) + 12345) * 1103515245) + 12345) * 1103515245) + 12345) * 1103515245) + 12345)) 68 0 5) 68 2 ((((((I 68 2) + 0) + 0) + 0) + 0) + 0)) 68 3 (((((((((((((I 68 3) * 1103515245) + 12345) * 1103515245) + 12345) * 1103515245) + 12345) * 1103515245) + 12345) * 1103515245) + 12345) * 1103515245) + 12345)) 68 0 6) 68 2 (((((((I 68 2) + 0) + 0) + 0) + 0) + 0) + 0)) 68 3 (((((((((((((((I 68 3) * 1103515245) + 12345) * 1103515245) + 12345) * 1103515245) + 12345) * 1103515245) + 12345) * 1103515245) + 12345) * 1103515245) + 12345) * 1103515245) + 12345)) 68 0 7) 68 2 ((((((((I 68 2) + 0) + 0) + 0) + 0) + 0) + 0) + 0)) 68 3 (((((((((((((((((I 68 3) * 1103515245) + 12345) * 1103515245) + 12345) * 1103515245) + 12345) * 1103515245) + 12345) * 1103515245) + 12345) * 1103515245) + 12345) * 1103515245) + 12345) * 1103515245) + 12345)) 68 0 8) 68 2 (((((((((I 68 2) + 0) + 0) + 0) + 0) + 0) + 0) + 0) + 0)) (fun r h => r = some (.int 0) ∧ h = (SH0, RF0, (gup (gup (gup (gup (gup (gup (gup (gup (gup (gup (gup (gup (gup (gup (gup (gup (gup (gup (gup (gup (gup (gup (gup (gup (gup (gup (gup I 68 3 (((I 68 3) * 1103515245) + 12345)) 68 0 1) 68 2 ((I 68 2) + 0)) 68 3 (((((I 68 3) * 1103515245) + 12345) * 1103515245) + 12345)) 68 0 2) 68 2 (((I 68 2) + 0) + 0)) 68 3 (((((((I 68 3) * 1103515245) + 12345) * 1103515245) + 12345) * 1103515245) + 12345)) 68 0 3) 68 2 ((((I 68 2) + 0) + 0) + 0)) 68 3 (((((((((I 68 3) * 1103515245) + 12345) * 1103515245) + 12345) * 1103515245) + 12345) * 1103515245) + 12345)) 68 0 4) 68 2 (((((I 68 2) + 0) + 0) + 0) + 0)) 68 3 (((((((((((I 68 3) * 1103515245) + 12345) * 1103515245) + 12345) * 1103515245) + 12345) * 1103515245) + 12345) * 1103515245) + 12345)) 68 0 5) 68 2 ((((((I 68 2) + 0) + 0) + 0) + 0) + 0)) 68 3 (((((((((((((I 68 3) * 1103515245) + 12345) * 1103515245) + 12345) * 1103515245) + 12345) * 1103515245) + 12345) * 1103515245) + 12345) * 1103515245) + 12345)) 68 0 6) 68 2 (((((((I 68 2) + 0) + 0) + 0) + 0) + 0) + 0)) 68 3 (((((((((((((((I 68 3) * 1103515245) + 12345) * 1103515245) + 12345) * 1103515245) + 12345) * 1103515245) + 12345) * 1103515245) + 12345) * 1103515245) + 12345) * 1103515245) + 12345)) 68 0 7) 68 2 ((((((((I 68 2) + 0) + 0) + 0) + 0) + 0) + 0) + 0)) 68 3 (((((((((((((((((I 68 3) * 1103515245) + 12345) * 1103515245) + 12345) * 1103515245) + 12345) * 1103515245) + 12345) * 1103515245) + 12345) * 1103515245) + 12345) * 1103515245) + 12345) * 1103515245) + 12345)) 68 0 8) 68 2 (((((((((I 68 2) + 0) + 0) + 0) + 0) + 0) + 0) + 0) + 0)) 68 3 (((((((((((((((((((I 68 3) * 1103515245) + 12345) * 1103515245) + 12345) * 1103515245) + 12345) * 1103515245) + 12345) * 1103515245) + 12345) * 1103515245) + 12345) * 1103515245) + 12345) * 1103515245) + 12345) * 1103515245) + 12345)) 68 0 9) 68 2 ((((((((((I 68 2) + 0) + 0) + 0) + 0) + 0) + 0) + 0) + 0) + 0)))) := by
  refine G_aload_n (pc := 0) rfl dX12_byLot_0 ?_
  refine G_getR (pc := 1) (r := 68) (ci := 12) (j := 0) rfl lk_RX12_9 rfl rfl rfl dX12_byLot_1 ?_
  refine G_iconst (pc := 4) (v := 3) (by decide) dX12_byLot_4 ?_
  refine G_aload_n (pc := 5) rfl dX12_byLot_5 ?_
  refine G_getR (pc := 6) (r := 68) (ci := 12) (j := 0) rfl lk_RX12_9 rfl rfl rfl dX12_byLot_6 ?_
  refine G_iconst (pc := 9) (v := 3) (by decide) dX12_byLot_9 ?_
  refine G_iald (pc := 10) (jj := 3) (v := (((((((((((((((((I 68 3) * 1103515245) + 12345) * 1103515245) + 12345) * 1103515245) + 12345) * 1103515245) + 12345) * 1103515245) + 12345) * 1103515245) + 12345) * 1103515245) + 12345) * 1103515245) + 12345)) (by decide) rfl rfl (by unfold vp_in; decide) dX12_byLot_10 ?_
  refine G_ldcw (pc := 11) (v := 1103515245) ck_RX12_313 dX12_byLot_11 ?_
  refine G_imul (pc := 14) rfl dX12_byLot_14 ?_
  refine G_sipush (pc := 15) (v := 12345) (by decide) dX12_byLot_15 ?_
  refine G_iadd (pc := 18) rfl dX12_byLot_18 ?_
  refine G_iast (pc := 19) (jj := 3) (by decide) rfl (by unfold vp_in; decide) dX12_byLot_19 ?_
  refine G_aload_n (pc := 20) rfl dX12_byLot_20 ?_
  refine G_aload_n (pc := 21) rfl dX12_byLot_21 ?_
  refine G_getR (pc := 22) (r := 68) (ci := 12) (j := 0) rfl lk_RX12_9 rfl rfl rfl dX12_byLot_22 ?_
  refine G_iconst (pc := 25) (v := 3) (by decide) dX12_byLot_25 ?_
  refine G_iald (pc := 26) (jj := 3) (v := (((((((((((((((((((I 68 3) * 1103515245) + 12345) * 1103515245) + 12345) * 1103515245) + 12345) * 1103515245) + 12345) * 1103515245) + 12345) * 1103515245) + 12345) * 1103515245) + 12345) * 1103515245) + 12345) * 1103515245) + 12345)) (by decide) rfl rfl (by unfold vp_in; decide) dX12_byLot_26 ?_
  refine G_bipush (pc := 27) (v := 16) (by decide) dX12_byLot_27 ?_
  refine G_iushr (pc := 29) rfl dX12_byLot_29 ?_
  refine G_aload_n (pc := 30) rfl dX12_byLot_30 ?_
  refine G_getR (pc := 31) (r := 68) (ci := 12) (j := 0) rfl lk_RX12_9 rfl rfl rfl dX12_byLot_31 ?_
  refine G_iconst (pc := 34) (v := 4) (by decide) dX12_byLot_34 ?_
  refine G_iald (pc := 35) (jj := 4) (v := 0) (by decide) (hI.2.2.1) rfl (by unfold vp_in; decide) dX12_byLot_35 ?_
  refine G_iconst (pc := 36) (v := 1) (by decide) dX12_byLot_36 ?_
  refine G_iadd (pc := 37) (z := 1) (by decide) dX12_byLot_37 ?_
  refine G_irem (pc := 38) (z := 0) (g_rem1 _) (by decide) dX12_byLot_38 ?_
  refine G_callV (pc := 39) (mc1 := 0) (ms1 := 0) (ci := 12) (mj := mX12_goesBy) (vs := [_]) dX12_byLot_39 rfl rfl cm_X12_goesBy wh_72 wh_74 wh_75 rfl (Nat.le_of_ble_eq_true rfl) (Nat.le_of_ble_eq_true rfl) (Nat.le_of_ble_eq_true rfl) (Nat.le_of_ble_eq_true rfl) (s10350_X12_goesBy  d _ hI ) ?_
  rintro _ _ ⟨rfl, rfl⟩
  dsimp only [Option.toList, List.cons_append, List.nil_append]
  exact G_iret (pc := 42) (Nat.le_of_ble_eq_true rfl) (Nat.le_of_ble_eq_true rfl) rfl dX12_byLot_42 ⟨rfl, rfl⟩
set_option maxRecDepth 100000 in
set_option maxHeartbeats 4000000 in
theorem s10351_X12_isOver  (d : Nat) (I : gI) (hI : I 68 0 = 0 ∧ I 68 1 = 12 ∧ I 68 4 = 0 ∧ I 70 0 = 0 ∧ I 70 1 = 12 ∧ I 70 4 = 0 ∧ True)  : G (d) mX12_isOver 0 0 0 0 0 (gent 1 [.ref 67]) [] SH0 RF0 (gup (gup (gup (gup (gup (gup (gup (gup (gup (gup (gup (gup (gup (gup (gup (gup (gup (gup (gup (gup (gup (gup (gup (gup (gup (gup (gup I 68 3 (((I 68 3) * 1103515245) + 12345)) 68 0 1) 68 2 ((I 68 2) + 0)) 68 3 (((((I 68 3) * 1103515245) + 12345) * 1103515245) + 12345)) 68 0 2) 68 2 (((I 68 2) + 0) + 0)) 68 3 (((((((I 68 3) * 1103515245) + 12345) * 1103515245) + 12345) * 1103515245) + 12345)) 68 0 3) 68 2 ((((I 68 2) + 0) + 0) + 0)) 68 3 (((((((((I 68 3) * 1103515245) + 12345) * 1103515245) + 12345) * 1103515245) + 12345) * 1103515245) + 12345)) 68 0 4) 68 2 (((((I 68 2) + 0) + 0) + 0) + 0)) 68 3 (((((((((((I 68 3) * 1103515245) + 12345) * 1103515245) + 12345) * 1103515245) + 12345) * 1103515245) + 12345) * 1103515245) + 12345)) 68 0 5) 68 2 ((((((I 68 2) + 0) + 0) + 0) + 0) + 0)) 68 3 (((((((((((((I 68 3) * 1103515245) + 12345) * 1103515245) + 12345) * 1103515245) + 12345) * 1103515245) + 12345) * 1103515245) + 12345) * 1103515245) + 12345)) 68 0 6) 68 2 (((((((I 68 2) + 0) + 0) + 0) + 0) + 0) + 0)) 68 3 (((((((((((((((I 68 3) * 1103515245) + 12345) * 1103515245) + 12345) * 1103515245) + 12345) * 1103515245) + 12345) * 1103515245) + 12345) * 1103515245) + 12345) * 1103515245) + 12345)) 68 0 7) 68 2 ((((((((I 68 2) + 0) + 0) + 0) + 0) + 0) + 0) + 0)) 68 3 (((((((((((((((((I 68 3) * 1103515245) + 12345) * 1103515245) + 12345) * 1103515245) + 12345) * 1103515245) + 12345) * 1103515245) + 12345) * 1103515245) + 12345) * 1103515245) + 12345) * 1103515245) + 12345)) 68 0 8) 68 2 (((((((((I 68 2) + 0) + 0) + 0) + 0) + 0) + 0) + 0) + 0)) 68 3 (((((((((((((((((((I 68 3) * 1103515245) + 12345) * 1103515245) + 12345) * 1103515245) + 12345) * 1103515245) + 12345) * 1103515245) + 12345) * 1103515245) + 12345) * 1103515245) + 12345) * 1103515245) + 12345) * 1103515245) + 12345)) 68 0 9) 68 2 ((((((((((I 68 2) + 0) + 0) + 0) + 0) + 0) + 0) + 0) + 0) + 0)) (fun r h => r = some (.int 0) ∧ h = (SH0, RF0, (gup (gup (gup (gup (gup (gup (gup (gup (gup (gup (gup (gup (gup (gup (gup (gup (gup (gup (gup (gup (gup (gup (gup (gup (gup (gup (gup I 68 3 (((I 68 3) * 1103515245) + 12345)) 68 0 1) 68 2 ((I 68 2) + 0)) 68 3 (((((I 68 3) * 1103515245) + 12345) * 1103515245) + 12345)) 68 0 2) 68 2 (((I 68 2) + 0) + 0)) 68 3 (((((((I 68 3) * 1103515245) + 12345) * 1103515245) + 12345) * 1103515245) + 12345)) 68 0 3) 68 2 ((((I 68 2) + 0) + 0) + 0)) 68 3 (((((((((I 68 3) * 1103515245) + 12345) * 1103515245) + 12345) * 1103515245) + 12345) * 1103515245) + 12345)) 68 0 4) 68 2 (((((I 68 2) + 0) + 0) + 0) + 0)) 68 3 (((((((((((I 68 3) * 1103515245) + 12345) * 1103515245) + 12345) * 1103515245) + 12345) * 1103515245) + 12345) * 1103515245) + 12345)) 68 0 5) 68 2 ((((((I 68 2) + 0) + 0) + 0) + 0) + 0)) 68 3 (((((((((((((I 68 3) * 1103515245) + 12345) * 1103515245) + 12345) * 1103515245) + 12345) * 1103515245) + 12345) * 1103515245) + 12345) * 1103515245) + 12345)) 68 0 6) 68 2 (((((((I 68 2) + 0) + 0) + 0) + 0) + 0) + 0)) 68 3 (((((((((((((((I 68 3) * 1103515245) + 12345) * 1103515245) + 12345) * 1103515245) + 12345) * 1103515245) + 12345) * 1103515245) + 12345) * 1103515245) + 12345) * 1103515245) + 12345)) 68 0 7) 68 2 ((((((((I 68 2) + 0) + 0) + 0) + 0) + 0) + 0) + 0)) 68 3 (((((((((((((((((I 68 3) * 1103515245) + 12345) * 1103515245) + 12345) * 1103515245) + 12345) * 1103515245) + 12345) * 1103515245) + 12345) * 1103515245) + 12345) * 1103515245) + 12345) * 1103515245) + 12345)) 68 0 8) 68 2 (((((((((I 68 2) + 0) + 0) + 0) + 0) + 0) + 0) + 0) + 0)) 68 3 (((((((((((((((((((I 68 3) * 1103515245) + 12345) * 1103515245) + 12345) * 1103515245) + 12345) * 1103515245) + 12345) * 1103515245) + 12345) * 1103515245) + 12345) * 1103515245) + 12345) * 1103515245) + 12345) * 1103515245) + 12345)) 68 0 9) 68 2 ((((((((((I 68 2) + 0) + 0) + 0) + 0) + 0) + 0) + 0) + 0) + 0)))) := by
  refine G_aload_n (pc := 0) rfl dX12_isOver_0 ?_
  refine G_getR (pc := 1) (r := 68) (ci := 12) (j := 0) rfl lk_RX12_9 rfl rfl rfl dX12_isOver_1 ?_
  refine G_iconst (pc := 4) (v := 0) (by decide) dX12_isOver_4 ?_
  refine G_iald (pc := 5) (jj := 0) (v := 9) (by decide) rfl rfl (by unfold vp_in; decide) dX12_isOver_5 ?_
  refine G_aload_n (pc := 6) rfl dX12_isOver_6 ?_
  refine G_getR (pc := 7) (r := 68) (ci := 12) (j := 0) rfl lk_RX12_9 rfl rfl rfl dX12_isOver_7 ?_
  refine G_iconst (pc := 10) (v := 1) (by decide) dX12_isOver_10 ?_
  refine G_iald (pc := 11) (jj := 1) (v := 12) (by decide) (hI.2.1) rfl (by unfold vp_in; decide) dX12_isOver_11 ?_
  refine G_icmp_lt (pc := 12) (tgt := 19) (by decide) dX12_isOver_12 (fun _ => ?_) (fun z => absurd (by decide) z)
  refine G_iconst (pc := 19) (v := 0) (by decide) dX12_isOver_19 ?_
  exact G_zret (pc := 20) (Nat.le_of_ble_eq_true rfl) (Nat.le_of_ble_eq_true rfl) rfl (by decide) dX12_isOver_20 ⟨rfl, rfl⟩
set_option maxRecDepth 100000 in
set_option maxHeartbeats 4000000 in
theorem s10353_X12_goesBy  (d : Nat) (I : gI) (hI : I 68 0 = 0 ∧ I 68 1 = 12 ∧ I 68 4 = 0 ∧ I 70 0 = 0 ∧ I 70 1 = 12 ∧ I 70 4 = 0 ∧ True)  : G (d) mX12_goesBy 0 0 0 0 0 (gent 5 [.ref 67, .int 0]) [] SH0 RF0 (gup (gup (gup (gup (gup (gup (gup (gup (gup (gup (gup (gup (gup (gup (gup (gup (gup (gup (gup (gup (gup (gup (gup (gup (gup (gup (gup (gup I 68 3 (((I 68 3) * 1103515245) + 12345)) 68 0 1) 68 2 ((I 68 2) + 0)) 68 3 (((((I 68 3) * 1103515245) + 12345) * 1103515245) + 12345)) 68 0 2) 68 2 (((I 68 2) + 0) + 0)) 68 3 (((((((I 68 3) * 1103515245) + 12345) * 1103515245) + 12345) * 1103515245) + 12345)) 68 0 3) 68 2 ((((I 68 2) + 0) + 0) + 0)) 68 3 (((((((((I 68 3) * 1103515245) + 12345) * 1103515245) + 12345) * 1103515245) + 12345) * 1103515245) + 12345)) 68 0 4) 68 2 (((((I 68 2) + 0) + 0) + 0) + 0)) 68 3 (((((((((((I 68 3) * 1103515245) + 12345) * 1103515245) + 12345) * 1103515245) + 12345) * 1103515245) + 12345) * 1103515245) + 12345)) 68 0 5) 68 2 ((((((I 68 2) + 0) + 0) + 0) + 0) + 0)) 68 3 (((((((((((((I 68 3) * 1103515245) + 12345) * 1103515245) + 12345) * 1103515245) + 12345) * 1103515245) + 12345) * 1103515245) + 12345) * 1103515245) + 12345)) 68 0 6) 68 2 (((((((I 68 2) + 0) + 0) + 0) + 0) + 0) + 0)) 68 3 (((((((((((((((I 68 3) * 1103515245) + 12345) * 1103515245) + 12345) * 1103515245) + 12345) * 1103515245) + 12345) * 1103515245) + 12345) * 1103515245) + 12345) * 1103515245) + 12345)) 68 0 7) 68 2 ((((((((I 68 2) + 0) + 0) + 0) + 0) + 0) + 0) + 0)) 68 3 (((((((((((((((((I 68 3) * 1103515245) + 12345) * 1103515245) + 12345) * 1103515245) + 12345) * 1103515245) + 12345) * 1103515245) + 12345) * 1103515245) + 12345) * 1103515245) + 12345) * 1103515245) + 12345)) 68 0 8) 68 2 (((((((((I 68 2) + 0) + 0) + 0) + 0) + 0) + 0) + 0) + 0)) 68 3 (((((((((((((((((((I 68 3) * 1103515245) + 12345) * 1103515245) + 12345) * 1103515245) + 12345) * 1103515245) + 12345) * 1103515245) + 12345) * 1103515245) + 12345) * 1103515245) + 12345) * 1103515245) + 12345) * 1103515245) + 12345)) 68 0 9) 68 2 ((((((((((I 68 2) + 0) + 0) + 0) + 0) + 0) + 0) + 0) + 0) + 0)) 68 3 (((((((((((((((((((((I 68 3) * 1103515245) + 12345) * 1103515245) + 12345) * 1103515245) + 12345) * 1103515245) + 12345) * 1103515245) + 12345) * 1103515245) + 12345) * 1103515245) + 12345) * 1103515245) + 12345) * 1103515245) + 12345) * 1103515245) + 12345)) (fun r h => r = some (.int 0) ∧ h = (SH0, RF0, (gup (gup (gup (gup (gup (gup (gup (gup (gup (gup (gup (gup (gup (gup (gup (gup (gup (gup (gup (gup (gup (gup (gup (gup (gup (gup (gup (gup (gup (gup I 68 3 (((I 68 3) * 1103515245) + 12345)) 68 0 1) 68 2 ((I 68 2) + 0)) 68 3 (((((I 68 3) * 1103515245) + 12345) * 1103515245) + 12345)) 68 0 2) 68 2 (((I 68 2) + 0) + 0)) 68 3 (((((((I 68 3) * 1103515245) + 12345) * 1103515245) + 12345) * 1103515245) + 12345)) 68 0 3) 68 2 ((((I 68 2) + 0) + 0) + 0)) 68 3 (((((((((I 68 3) * 1103515245) + 12345) * 1103515245) + 12345) * 1103515245) + 12345) * 1103515245) + 12345)) 68 0 4) 68 2 (((((I 68 2) + 0) + 0) + 0) + 0)) 68 3 (((((((((((I 68 3) * 1103515245) + 12345) * 1103515245) + 12345) * 1103515245) + 12345) * 1103515245) + 12345) * 1103515245) + 12345)) 68 0 5) 68 2 ((((((I 68 2) + 0) + 0) + 0) + 0) + 0)) 68 3 (((((((((((((I 68 3) * 1103515245) + 12345) * 1103515245) + 12345) * 1103515245) + 12345) * 1103515245) + 12345) * 1103515245) + 12345) * 1103515245) + 12345)) 68 0 6) 68 2 (((((((I 68 2) + 0) + 0) + 0) + 0) + 0) + 0)) 68 3 (((((((((((((((I 68 3) * 1103515245) + 12345) * 1103515245) + 12345) * 1103515245) + 12345) * 1103515245) + 12345) * 1103515245) + 12345) * 1103515245) + 12345) * 1103515245) + 12345)) 68 0 7) 68 2 ((((((((I 68 2) + 0) + 0) + 0) + 0) + 0) + 0) + 0)) 68 3 (((((((((((((((((I 68 3) * 1103515245) + 12345) * 1103515245) + 12345) * 1103515245) + 12345) * 1103515245) + 12345) * 1103515245) + 12345) * 1103515245) + 12345) * 1103515245) + 12345) * 1103515245) + 12345)) 68 0 8) 68 2 (((((((((I 68 2) + 0) + 0) + 0) + 0) + 0) + 0) + 0) + 0)) 68 3 (((((((((((((((((((I 68 3) * 1103515245) + 12345) * 1103515245) + 12345) * 1103515245) + 12345) * 1103515245) + 12345) * 1103515245) + 12345) * 1103515245) + 12345) * 1103515245) + 12345) * 1103515245) + 12345) * 1103515245) + 12345)) 68 0 9) 68 2 ((((((((((I 68 2) + 0) + 0) + 0) + 0) + 0) + 0) + 0) + 0) + 0)) 68 3 (((((((((((((((((((((I 68 3) * 1103515245) + 12345) * 1103515245) + 12345) * 1103515245) + 12345) * 1103515245) + 12345) * 1103515245) + 12345) * 1103515245) + 12345) * 1103515245) + 12345) * 1103515245) + 12345) * 1103515245) + 12345) * 1103515245) + 12345)) 68 0 10) 68 2 (((((((((((I 68 2) + 0) + 0) + 0) + 0) + 0) + 0) + 0) + 0) + 0) + 0)))) := by
  refine G_iload_n (pc := 0) rfl dX12_goesBy_0 ?_
  refine G_if_ge (pc := 1) (tgt := 11) (by decide) dX12_goesBy_1 (fun _ => ?_) (fun z => absurd (by decide) z)
  refine G_iload_n (pc := 11) rfl dX12_goesBy_11 ?_
  refine G_iconst (pc := 12) (v := 1) (by decide) dX12_goesBy_12 ?_
  refine G_isub (pc := 13) (z := (-1)) (by decide) dX12_goesBy_13 ?_
  refine G_istore_n (pc := 14) (L1 := [some (.ref 67), some (.int 0), some (.int (-1)), none, none]) rfl rfl (by decide) dX12_goesBy_14 ?_
  refine G_iload_n (pc := 15) rfl dX12_goesBy_15 ?_
  refine G_if_lt (pc := 16) (tgt := 27) (by decide) dX12_goesBy_16 (fun _ => ?_) (fun z => absurd (by decide) z)
  refine G_iconst (pc := 27) (v := 0) (by decide) dX12_goesBy_27 ?_
  refine G_istore_n (pc := 28) (L1 := [some (.ref 67), some (.int 0), some (.int (-1)), some (.int 0), none]) rfl rfl (by decide) dX12_goesBy_28 ?_
  refine G_iconst (pc := 29) (v := 0) (by decide) dX12_goesBy_29 ?_
  refine G_istore (pc := 30) (L1 := [some (.ref 67), some (.int 0), some (.int (-1)), some (.int 0), some (.int 0)]) rfl rfl (by decide) dX12_goesBy_30 ?_
  refine G_iload (pc := 32) rfl dX12_goesBy_32 ?_
  refine G_aload_n (pc := 34) rfl dX12_goesBy_34 ?_
  refine G_getR (pc := 35) (r := 68) (ci := 12) (j := 0) rfl lk_RX12_9 rfl rfl rfl dX12_goesBy_35 ?_
  refine G_iconst (pc := 38) (v := 4) (by decide) dX12_goesBy_38 ?_
  refine G_iald (pc := 39) (jj := 4) (v := 0) (by decide) (hI.2.2.1) rfl (by unfold vp_in; decide) dX12_goesBy_39 ?_
  refine G_icmp_ge (pc := 40) (tgt := 104) (by decide) dX12_goesBy_40 (fun _ => ?_) (fun z => absurd (by decide) z)
  refine G_aload_n (pc := 104) rfl dX12_goesBy_104 ?_
  refine G_getR (pc := 105) (r := 68) (ci := 12) (j := 0) rfl lk_RX12_9 rfl rfl rfl dX12_goesBy_105 ?_
  refine G_iconst (pc := 108) (v := 0) (by decide) dX12_goesBy_108 ?_
  refine G_dup2 (pc := 109) rfl rfl dX12_goesBy_109 ?_
  refine G_iald (pc := 110) (jj := 0) (v := 9) (by decide) rfl rfl (by unfold vp_in; decide) dX12_goesBy_110 ?_
  refine G_iconst (pc := 111) (v := 1) (by decide) dX12_goesBy_111 ?_
  refine G_iadd (pc := 112) (z := 10) (by decide) dX12_goesBy_112 ?_
  refine G_iast (pc := 113) (jj := 0) (by decide) rfl (by unfold vp_in; decide) dX12_goesBy_113 ?_
  refine G_aload_n (pc := 114) rfl dX12_goesBy_114 ?_
  refine G_getR (pc := 115) (r := 68) (ci := 12) (j := 0) rfl lk_RX12_9 rfl rfl rfl dX12_goesBy_115 ?_
  refine G_iconst (pc := 118) (v := 2) (by decide) dX12_goesBy_118 ?_
  refine G_dup2 (pc := 119) rfl rfl dX12_goesBy_119 ?_
  refine G_iald (pc := 120) (jj := 2) (v := ((((((((((I 68 2) + 0) + 0) + 0) + 0) + 0) + 0) + 0) + 0) + 0)) (by decide) rfl rfl (by unfold vp_in; decide) dX12_goesBy_120 ?_
  refine G_iload_n (pc := 121) rfl dX12_goesBy_121 ?_
  refine G_iadd (pc := 122) rfl dX12_goesBy_122 ?_
  refine G_iast (pc := 123) (jj := 2) (by decide) rfl (by unfold vp_in; decide) dX12_goesBy_123 ?_
  refine G_iload_n (pc := 124) rfl dX12_goesBy_124 ?_
  exact G_iret (pc := 125) (Nat.le_of_ble_eq_true rfl) (Nat.le_of_ble_eq_true rfl) rfl dX12_goesBy_125 ⟨rfl, rfl⟩
set_option maxRecDepth 100000 in
set_option maxHeartbeats 4000000 in
theorem s10352_X12_byLot  (d : Nat) (I : gI) (hI : I 68 0 = 0 ∧ I 68 1 = 12 ∧ I 68 4 = 0 ∧ I 70 0 = 0 ∧ I 70 1 = 12 ∧ I 70 4 = 0 ∧ True)  : G (d + 1) mX12_byLot 0 0 0 0 0 (gent 1 [.ref 67]) [] SH0 RF0 (gup (gup (gup (gup (gup (gup (gup (gup (gup (gup (gup (gup (gup (gup (gup (gup (gup (gup (gup (gup (gup (gup (gup (gup (gup (gup (gup I 68 3 (((I 68 3) * 1103515245) + 12345)) 68 0 1) 68 2 ((I 68 2) + 0)) 68 3 (((((I 68 3) * 1103515245) + 12345) * 1103515245) + 12345)) 68 0 2) 68 2 (((I 68 2) + 0) + 0)) 68 3 (((((((I 68 3) * 1103515245) + 12345) * 1103515245) + 12345) * 1103515245) + 12345)) 68 0 3) 68 2 ((((I 68 2) + 0) + 0) + 0)) 68 3 (((((((((I 68 3) * 1103515245) + 12345) * 1103515245) + 12345) * 1103515245) + 12345) * 1103515245) + 12345)) 68 0 4) 68 2 (((((I 68 2) + 0) + 0) + 0) + 0)) 68 3 (((((((((((I 68 3) * 1103515245) + 12345) * 1103515245) + 12345) * 1103515245) + 12345) * 1103515245) + 12345) * 1103515245) + 12345)) 68 0 5) 68 2 ((((((I 68 2) + 0) + 0) + 0) + 0) + 0)) 68 3 (((((((((((((I 68 3) * 1103515245) + 12345) * 1103515245) + 12345) * 1103515245) + 12345) * 1103515245) + 12345) * 1103515245) + 12345) * 1103515245) + 12345)) 68 0 6) 68 2 (((((((I 68 2) + 0) + 0) + 0) + 0) + 0) + 0)) 68 3 (((((((((((((((I 68 3) * 1103515245) + 12345) * 1103515245) + 12345) * 1103515245) + 12345) * 1103515245) + 12345) * 1103515245) + 12345) * 1103515245) + 12345) * 1103515245) + 12345)) 68 0 7) 68 2 ((((((((I 68 2) + 0) + 0) + 0) + 0) + 0) + 0) + 0)) 68 3 (((((((((((((((((I 68 3) * 1103515245) + 12345) * 1103515245) + 12345) * 1103515245) + 12345) * 1103515245) + 12345) * 1103515245) + 12345) * 1103515245) + 12345) * 1103515245) + 12345) * 1103515245) + 12345)) 68 0 8) 68 2 (((((((((I 68 2) + 0) + 0) + 0) + 0) + 0) + 0) + 0) + 0)) 68 3 (((((((((((((((((((I 68 3) * 1103515245) + 12345) * 1103515245) + 12345) * 1103515245) + 12345) * 1103515245) + 12345) * 1103515245) + 12345) * 1103515245) + 12345) * 1103515245) + 12345) * 1103515245) + 12345) * 1103515245) + 12345)) 68 0 9) 68 2 ((((((((((I 68 2) + 0) + 0) + 0) + 0) + 0) + 0) + 0) + 0) + 0)) (fun r h => r = some (.int 0) ∧ h = (SH0, RF0, (gup (gup (gup (gup (gup (gup (gup (gup (gup (gup (gup (gup (gup (gup (gup (gup (gup (gup (gup (gup (gup (gup (gup (gup (gup (gup (gup (gup (gup (gup I 68 3 (((I 68 3) * 1103515245) + 12345)) 68 0 1) 68 2 ((I 68 2) + 0)) 68 3 (((((I 68 3) * 1103515245) + 12345) * 1103515245) + 12345)) 68 0 2) 68 2 (((I 68 2) + 0) + 0)) 68 3 (((((((I 68 3) * 1103515245) + 12345) * 1103515245) + 12345) * 1103515245) + 12345)) 68 0 3) 68 2 ((((I 68 2) + 0) + 0) + 0)) 68 3 (((((((((I 68 3) * 1103515245) + 12345) * 1103515245) + 12345) * 1103515245) + 12345) * 1103515245) + 12345)) 68 0 4) 68 2 (((((I 68 2) + 0) + 0) + 0) + 0)) 68 3 (((((((((((I 68 3) * 1103515245) + 12345) * 1103515245) + 12345) * 1103515245) + 12345) * 1103515245) + 12345) * 1103515245) + 12345)) 68 0 5) 68 2 ((((((I 68 2) + 0) + 0) + 0) + 0) + 0)) 68 3 (((((((((((((I 68 3) * 1103515245) + 12345) * 1103515245) + 12345) * 1103515245) + 12345) * 1103515245) + 12345) * 1103515245) + 12345) * 1103515245) + 12345)) 68 0 6) 68 2 (((((((I 68 2) + 0) + 0) + 0) + 0) + 0) + 0)) 68 3 (((((((((((((((I 68 3) * 1103515245) + 12345) * 1103515245) + 12345) * 1103515245) + 12345) * 1103515245) + 12345) * 1103515245) + 12345) * 1103515245) + 12345) * 1103515245) + 12345)) 68 0 7) 68 2 ((((((((I 68 2) + 0) + 0) + 0) + 0) + 0) + 0) + 0)) 68 3 (((((((((((((((((I 68 3) * 1103515245) + 12345) * 1103515245) + 12345) * 1103515245) + 12345) * 1103515245) + 12345) * 1103515245) + 12345) * 1103515245) + 12345) * 1103515245) + 12345) * 1103515245) + 12345)) 68 0 8) 68 2 (((((((((I 68 2) + 0) + 0) + 0) + 0) + 0) + 0) + 0) + 0)) 68 3 (((((((((((((((((((I 68 3) * 1103515245) + 12345) * 1103515245) + 12345) * 1103515245) + 12345) * 1103515245) + 12345) * 1103515245) + 12345) * 1103515245) + 12345) * 1103515245) + 12345) * 1103515245) + 12345) * 1103515245) + 12345)) 68 0 9) 68 2 ((((((((((I 68 2) + 0) + 0) + 0) + 0) + 0) + 0) + 0) + 0) + 0)) 68 3 (((((((((((((((((((((I 68 3) * 1103515245) + 12345) * 1103515245) + 12345) * 1103515245) + 12345) * 1103515245) + 12345) * 1103515245) + 12345) * 1103515245) + 12345) * 1103515245) + 12345) * 1103515245) + 12345) * 1103515245) + 12345) * 1103515245) + 12345)) 68 0 10) 68 2 (((((((((((I 68 2) + 0) + 0) + 0) + 0) + 0) + 0) + 0) + 0) + 0) + 0)))) := by
  refine G_aload_n (pc := 0) rfl dX12_byLot_0 ?_
  refine G_getR (pc := 1) (r := 68) (ci := 12) (j := 0) rfl lk_RX12_9 rfl rfl rfl dX12_byLot_1 ?_
  refine G_iconst (pc := 4) (v := 3) (by decide) dX12_byLot_4 ?_
  refine G_aload_n (pc := 5) rfl dX12_byLot_5 ?_
  refine G_getR (pc := 6) (r := 68) (ci := 12) (j := 0) rfl lk_RX12_9 rfl rfl rfl dX12_byLot_6 ?_
  refine G_iconst (pc := 9) (v := 3) (by decide) dX12_byLot_9 ?_
  refine G_iald (pc := 10) (jj := 3) (v := (((((((((((((((((((I 68 3) * 1103515245) + 12345) * 1103515245) + 12345) * 1103515245) + 12345) * 1103515245) + 12345) * 1103515245) + 12345) * 1103515245) + 12345) * 1103515245) + 12345) * 1103515245) + 12345) * 1103515245) + 12345)) (by decide) rfl rfl (by unfold vp_in; decide) dX12_byLot_10 ?_
  refine G_ldcw (pc := 11) (v := 1103515245) ck_RX12_313 dX12_byLot_11 ?_
  refine G_imul (pc := 14) rfl dX12_byLot_14 ?_
  refine G_sipush (pc := 15) (v := 12345) (by decide) dX12_byLot_15 ?_
  refine G_iadd (pc := 18) rfl dX12_byLot_18 ?_
  refine G_iast (pc := 19) (jj := 3) (by decide) rfl (by unfold vp_in; decide) dX12_byLot_19 ?_
  refine G_aload_n (pc := 20) rfl dX12_byLot_20 ?_
  refine G_aload_n (pc := 21) rfl dX12_byLot_21 ?_
  refine G_getR (pc := 22) (r := 68) (ci := 12) (j := 0) rfl lk_RX12_9 rfl rfl rfl dX12_byLot_22 ?_
  refine G_iconst (pc := 25) (v := 3) (by decide) dX12_byLot_25 ?_
  refine G_iald (pc := 26) (jj := 3) (v := (((((((((((((((((((((I 68 3) * 1103515245) + 12345) * 1103515245) + 12345) * 1103515245) + 12345) * 1103515245) + 12345) * 1103515245) + 12345) * 1103515245) + 12345) * 1103515245) + 12345) * 1103515245) + 12345) * 1103515245) + 12345) * 1103515245) + 12345)) (by decide) rfl rfl (by unfold vp_in; decide) dX12_byLot_26 ?_
  refine G_bipush (pc := 27) (v := 16) (by decide) dX12_byLot_27 ?_
  refine G_iushr (pc := 29) rfl dX12_byLot_29 ?_
  refine G_aload_n (pc := 30) rfl dX12_byLot_30 ?_
  refine G_getR (pc := 31) (r := 68) (ci := 12) (j := 0) rfl lk_RX12_9 rfl rfl rfl dX12_byLot_31 ?_
  refine G_iconst (pc := 34) (v := 4) (by decide) dX12_byLot_34 ?_
  refine G_iald (pc := 35) (jj := 4) (v := 0) (by decide) (hI.2.2.1) rfl (by unfold vp_in; decide) dX12_byLot_35 ?_
  refine G_iconst (pc := 36) (v := 1) (by decide) dX12_byLot_36 ?_
  refine G_iadd (pc := 37) (z := 1) (by decide) dX12_byLot_37 ?_
  refine G_irem (pc := 38) (z := 0) (g_rem1 _) (by decide) dX12_byLot_38 ?_
  refine G_callV (pc := 39) (mc1 := 0) (ms1 := 0) (ci := 12) (mj := mX12_goesBy) (vs := [_]) dX12_byLot_39 rfl rfl cm_X12_goesBy wh_72 wh_74 wh_75 rfl (Nat.le_of_ble_eq_true rfl) (Nat.le_of_ble_eq_true rfl) (Nat.le_of_ble_eq_true rfl) (Nat.le_of_ble_eq_true rfl) (s10353_X12_goesBy  d _ hI ) ?_
  rintro _ _ ⟨rfl, rfl⟩
  dsimp only [Option.toList, List.cons_append, List.nil_append]
  exact G_iret (pc := 42) (Nat.le_of_ble_eq_true rfl) (Nat.le_of_ble_eq_true rfl) rfl dX12_byLot_42 ⟨rfl, rfl⟩
set_option maxRecDepth 100000 in
set_option maxHeartbeats 4000000 in
theorem s10354_X12_isOver  (d : Nat) (I : gI) (hI : I 68 0 = 0 ∧ I 68 1 = 12 ∧ I 68 4 = 0 ∧ I 70 0 = 0 ∧ I 70 1 = 12 ∧ I 70 4 = 0 ∧ True)  : G (d) mX12_isOver 0 0 0 0 0 (gent 1 [.ref 67]) [] SH0 RF0 (gup (gup (gup (gup (gup (gup (gup (gup (gup (gup (gup (gup (gup (gup (gup (gup (gup (gup (gup (gup (gup (gup (gup (gup (gup (gup (gup (gup (gup (gup I 68 3 (((I 68 3) * 1103515245) + 12345)) 68 0 1) 68 2 ((I 68 2) + 0)) 68 3 (((((I 68 3) * 1103515245) + 12345) * 1103515245) + 12345)) 68 0 2) 68 2 (((I 68 2) + 0) + 0)) 68 3 (((((((I 68 3) * 1103515245) + 12345) * 1103515245) + 12345) * 1103515245) + 12345)) 68 0 3) 68 2 ((((I 68 2) + 0) + 0) + 0)) 68 3 (((((((((I 68 3) * 1103515245) + 12345) * 1103515245) + 12345) * 1103515245) + 12345) * 1103515245) + 12345)) 68 0 4) 68 2 (((((I 68 2) + 0) + 0) + 0) + 0)) 68 3 (((((((((((I 68 3) * 1103515245) + 12345) * 1103515245) + 12345) * 1103515245) + 12345) * 1103515245) + 12345) * 1103515245) + 12345)) 68 0 5) 68 2 ((((((I 68 2) + 0) + 0) + 0) + 0) + 0)) 68 3 (((((((((((((I 68 3) * 1103515245) + 12345) * 1103515245) + 12345) * 1103515245) + 12345) * 1103515245) + 12345) * 1103515245) + 12345) * 1103515245) + 12345)) 68 0 6) 68 2 (((((((I 68 2) + 0) + 0) + 0) + 0) + 0) + 0)) 68 3 (((((((((((((((I 68 3) * 1103515245) + 12345) * 1103515245) + 12345) * 1103515245) + 12345) * 1103515245) + 12345) * 1103515245) + 12345) * 1103515245) + 12345) * 1103515245) + 12345)) 68 0 7) 68 2 ((((((((I 68 2) + 0) + 0) + 0) + 0) + 0) + 0) + 0)) 68 3 (((((((((((((((((I 68 3) * 1103515245) + 12345) * 1103515245) + 12345) * 1103515245) + 12345) * 1103515245) + 12345) * 1103515245) + 12345) * 1103515245) + 12345) * 1103515245) + 12345) * 1103515245) + 12345)) 68 0 8) 68 2 (((((((((I 68 2) + 0) + 0) + 0) + 0) + 0) + 0) + 0) + 0)) 68 3 (((((((((((((((((((I 68 3) * 1103515245) + 12345) * 1103515245) + 12345) * 1103515245) + 12345) * 1103515245) + 12345) * 1103515245) + 12345) * 1103515245) + 12345) * 1103515245) + 12345) * 1103515245) + 12345) * 1103515245) + 12345)) 68 0 9) 68 2 ((((((((((I 68 2) + 0) + 0) + 0) + 0) + 0) + 0) + 0) + 0) + 0)) 68 3 (((((((((((((((((((((I 68 3) * 1103515245) + 12345) * 1103515245) + 12345) * 1103515245) + 12345) * 1103515245) + 12345) * 1103515245) + 12345) * 1103515245) + 12345) * 1103515245) + 12345) * 1103515245) + 12345) * 1103515245) + 12345) * 1103515245) + 12345)) 68 0 10) 68 2 (((((((((((I 68 2) + 0) + 0) + 0) + 0) + 0) + 0) + 0) + 0) + 0) + 0)) (fun r h => r = some (.int 0) ∧ h = (SH0, RF0, (gup (gup (gup (gup (gup (gup (gup (gup (gup (gup (gup (gup (gup (gup (gup (gup (gup (gup (gup (gup (gup (gup (gup (gup (gup (gup (gup (gup (gup (gup I 68 3 (((I 68 3) * 1103515245) + 12345)) 68 0 1) 68 2 ((I 68 2) + 0)) 68 3 (((((I 68 3) * 1103515245) + 12345) * 1103515245) + 12345)) 68 0 2) 68 2 (((I 68 2) + 0) + 0)) 68 3 (((((((I 68 3) * 1103515245) + 12345) * 1103515245) + 12345) * 1103515245) + 12345)) 68 0 3) 68 2 ((((I 68 2) + 0) + 0) + 0)) 68 3 (((((((((I 68 3) * 1103515245) + 12345) * 1103515245) + 12345) * 1103515245) + 12345) * 1103515245) + 12345)) 68 0 4) 68 2 (((((I 68 2) + 0) + 0) + 0) + 0)) 68 3 (((((((((((I 68 3) * 1103515245) + 12345) * 1103515245) + 12345) * 1103515245) + 12345) * 1103515245) + 12345) * 1103515245) + 12345)) 68 0 5) 68 2 ((((((I 68 2) + 0) + 0) + 0) + 0) + 0)) 68 3 (((((((((((((I 68 3) * 1103515245) + 12345) * 1103515245) + 12345) * 1103515245) + 12345) * 1103515245) + 12345) * 1103515245) + 12345) * 1103515245) + 12345)) 68 0 6) 68 2 (((((((I 68 2) + 0) + 0) + 0) + 0) + 0) + 0)) 68 3 (((((((((((((((I 68 3) * 1103515245) + 12345) * 1103515245) + 12345) * 1103515245) + 12345) * 1103515245) + 12345) * 1103515245) + 12345) * 1103515245) + 12345) * 1103515245) + 12345)) 68 0 7) 68 2 ((((((((I 68 2) + 0) + 0) + 0) + 0) + 0) + 0) + 0)) 68 3 (((((((((((((((((I 68 3) * 1103515245) + 12345) * 1103515245) + 12345) * 1103515245) + 12345) * 1103515245) + 12345) * 1103515245) + 12345) * 1103515245) + 12345) * 1103515245) + 12345) * 1103515245) + 12345)) 68 0 8) 68 2 (((((((((I 68 2) + 0) + 0) + 0) + 0) + 0) + 0) + 0) + 0)) 68 3 (((((((((((((((((((I 68 3) * 1103515245) + 12345) * 1103515245) + 12345) * 1103515245) + 12345) * 1103515245) + 12345) * 1103515245) + 12345) * 1103515245) + 12345) * 1103515245) + 12345) * 1103515245) + 12345) * 1103515245) + 12345)) 68 0 9) 68 2 ((((((((((I 68 2) + 0) + 0) + 0) + 0) + 0) + 0) + 0) + 0) + 0)) 68 3 (((((((((((((((((((((I 68 3) * 1103515245) + 12345) * 1103515245) + 12345) * 1103515245) + 12345) * 1103515245) + 12345) * 1103515245) + 12345) * 1103515245) + 12345) * 1103515245) + 12345) * 1103515245) + 12345) * 1103515245) + 12345) * 1103515245) + 12345)) 68 0 10) 68 2 (((((((((((I 68 2) + 0) + 0) + 0) + 0) + 0) + 0) + 0) + 0) + 0) + 0)))) := by
  refine G_aload_n (pc := 0) rfl dX12_isOver_0 ?_
  refine G_getR (pc := 1) (r := 68) (ci := 12) (j := 0) rfl lk_RX12_9 rfl rfl rfl dX12_isOver_1 ?_
  refine G_iconst (pc := 4) (v := 0) (by decide) dX12_isOver_4 ?_
  refine G_iald (pc := 5) (jj := 0) (v := 10) (by decide) rfl rfl (by unfold vp_in; decide) dX12_isOver_5 ?_
  refine G_aload_n (pc := 6) rfl dX12_isOver_6 ?_
  refine G_getR (pc := 7) (r := 68) (ci := 12) (j := 0) rfl lk_RX12_9 rfl rfl rfl dX12_isOver_7 ?_
  refine G_iconst (pc := 10) (v := 1) (by decide) dX12_isOver_10 ?_
  refine G_iald (pc := 11) (jj := 1) (v := 12) (by decide) (hI.2.1) rfl (by unfold vp_in; decide) dX12_isOver_11 ?_
  refine G_icmp_lt (pc := 12) (tgt := 19) (by decide) dX12_isOver_12 (fun _ => ?_) (fun z => absurd (by decide) z)
  refine G_iconst (pc := 19) (v := 0) (by decide) dX12_isOver_19 ?_
  exact G_zret (pc := 20) (Nat.le_of_ble_eq_true rfl) (Nat.le_of_ble_eq_true rfl) rfl (by decide) dX12_isOver_20 ⟨rfl, rfl⟩
set_option maxRecDepth 100000 in
set_option maxHeartbeats 4000000 in
theorem s10356_X12_goesBy  (d : Nat) (I : gI) (hI : I 68 0 = 0 ∧ I 68 1 = 12 ∧ I 68 4 = 0 ∧ I 70 0 = 0 ∧ I 70 1 = 12 ∧ I 70 4 = 0 ∧ True)  : G (d) mX12_goesBy 0 0 0 0 0 (gent 5 [.ref 67, .int 0]) [] SH0 RF0 (gup (gup (gup (gup (gup (gup (gup (gup (gup (gup (gup (gup (gup (gup (gup (gup (gup (gup (gup (gup (gup (gup (gup (gup (gup (gup (gup (gup (gup (gup (gup I 68 3 (((I 68 3) * 1103515245) + 12345)) 68 0 1) 68 2 ((I 68 2) + 0)) 68 3 (((((I 68 3) * 1103515245) + 12345) * 1103515245) + 12345)) 68 0 2) 68 2 (((I 68 2) + 0) + 0)) 68 3 (((((((I 68 3) * 1103515245) + 12345) * 1103515245) + 12345) * 1103515245) + 12345)) 68 0 3) 68 2 ((((I 68 2) + 0) + 0) + 0)) 68 3 (((((((((I 68 3) * 1103515245) + 12345) * 1103515245) + 12345) * 1103515245) + 12345) * 1103515245) + 12345)) 68 0 4) 68 2 (((((I 68 2) + 0) + 0) + 0) + 0)) 68 3 (((((((((((I 68 3) * 1103515245) + 12345) * 1103515245) + 12345) * 1103515245) + 12345) * 1103515245) + 12345) * 1103515245) + 12345)) 68 0 5) 68 2 ((((((I 68 2) + 0) + 0) + 0) + 0) + 0)) 68 3 (((((((((((((I 68 3) * 1103515245) + 12345) * 1103515245) + 12345) * 1103515245) + 12345) * 1103515245) + 12345) * 1103515245) + 12345) * 1103515245) + 12345)) 68 0 6) 68 2 (((((((I 68 2) + 0) + 0) + 0) + 0) + 0) + 0)) 68 3 (((((((((((((((I 68 3) * 1103515245) + 12345) * 1103515245) + 12345) * 1103515245) + 12345) * 1103515245) + 12345) * 1103515245) + 12345) * 1103515245) + 12345) * 1103515245) + 12345)) 68 0 7) 68 2 ((((((((I 68 2) + 0) + 0) + 0) + 0) + 0) + 0) + 0)) 68 3 (((((((((((((((((I 68 3) * 1103515245) + 12345) * 1103515245) + 12345) * 1103515245) + 12345) * 1103515245) + 12345) * 1103515245) + 12345) * 1103515245) + 12345) * 1103515245) + 12345) * 1103515245) + 12345)) 68 0 8) 68 2 (((((((((I 68 2) + 0) + 0) + 0) + 0) + 0) + 0) + 0) + 0)) 68 3 (((((((((((((((((((I 68 3) * 1103515245) + 12345) * 1103515245) + 12345) * 1103515245) + 12345) * 1103515245) + 12345) * 1103515245) + 12345) * 1103515245) + 12345) * 1103515245) + 12345) * 1103515245) + 12345) * 1103515245) + 12345)) 68 0 9) 68 2 ((((((((((I 68 2) + 0) + 0) + 0) + 0) + 0) + 0) + 0) + 0) + 0)) 68 3 (((((((((((((((((((((I 68 3) * 1103515245) + 12345) * 1103515245) + 12345) * 1103515245) + 12345) * 1103515245) + 12345) * 1103515245) + 12345) * 1103515245) + 12345) * 1103515245) + 12345) * 1103515245) + 12345) * 1103515245) + 12345) * 1103515245) + 12345)) 68 0 10) 68 2 (((((((((((I 68 2) + 0) + 0) + 0) + 0) + 0) + 0) + 0) + 0) + 0) + 0)) 68 3 (((((((((((((((((((((((I 68 3) * 1103515245) + 12345) * 1103515245) + 12345) * 1103515245) + 12345) * 1103515245) + 12345) * 1103515245) + 12345) * 1103515245) + 12345) * 1103515245) + 12345) * 1103515245) + 12345) * 1103515245) + 12345) * 1103515245) + 12345) * 1103515245) + 12345)) (fun r h => r = some (.int 0) ∧ h = (SH0, RF0, (gup (gup (gup (gup (gup (gup (gup (gup (gup (gup (gup (gup (gup (gup (gup (gup (gup (gup (gup (gup (gup (gup (gup (gup (gup (gup (gup (gup (gup (gup (gup (gup (gup I 68 3 (((I 68 3) * 1103515245) + 12345)) 68 0 1) 68 2 ((I 68 2) + 0)) 68 3 (((((I 68 3) * 1103515245) + 12345) * 1103515245) + 12345)) 68 0 2) 68 2 (((I 68 2) + 0) + 0)) 68 3 (((((((I 68 3) * 1103515245) + 12345) * 1103515245) + 12345) * 1103515245) + 12345)) 68 0 3) 68 2 ((((I 68 2) + 0) + 0) + 0)) 68 3 (((((((((I 68 3) * 1103515245) + 12345) * 1103515245) + 12345) * 1103515245) + 12345) * 1103515245) + 12345)) 68 0 4) 68 2 (((((I 68 2) + 0) + 0) + 0) + 0)) 68 3 (((((((((((I 68 3) * 1103515245) + 12345) * 1103515245) + 12345) * 1103515245) + 12345) * 1103515245) + 12345) * 1103515245) + 12345)) 68 0 5) 68 2 ((((((I 68 2) + 0) + 0) + 0) + 0) + 0)) 68 3 (((((((((((((I 68 3) * 1103515245) + 12345) * 1103515245) + 12345) * 1103515245) + 12345) * 1103515245) + 12345) * 1103515245) + 12345) * 1103515245) + 12345)) 68 0 6) 68 2 (((((((I 68 2) + 0) + 0) + 0) + 0) + 0) + 0)) 68 3 (((((((((((((((I 68 3) * 1103515245) + 12345) * 1103515245) + 12345) * 1103515245) + 12345) * 1103515245) + 12345) * 1103515245) + 12345) * 1103515245) + 12345) * 1103515245) + 12345)) 68 0 7) 68 2 ((((((((I 68 2) + 0) + 0) + 0) + 0) + 0) + 0) + 0)) 68 3 (((((((((((((((((I 68 3) * 1103515245) + 12345) * 1103515245) + 12345) * 1103515245) + 12345) * 1103515245) + 12345) * 1103515245) + 12345) * 1103515245) + 12345) * 1103515245) + 12345) * 1103515245) + 12345)) 68 0 8) 68 2 (((((((((I 68 2) + 0) + 0) + 0) + 0) + 0) + 0) + 0) + 0)) 68 3 (((((((((((((((((((I 68 3) * 1103515245) + 12345) * 1103515245) + 12345) * 1103515245) + 12345) * 1103515245) + 12345) * 1103515245) + 12345) * 1103515245) + 12345) * 1103515245) + 12345) * 1103515245) + 12345) * 1103515245) + 12345)) 68 0 9) 68 2 ((((((((((I 68 2) + 0) + 0) + 0) + 0) + 0) + 0) + 0) + 0) + 0)) 68 3 (((((((((((((((((((((I 68 3) * 1103515245) + 12345) * 1103515245) + 12345) * 1103515245) + 12345) * 1103515245) + 12345) * 1103515245) + 12345) * 1103515245) + 12345) * 1103515245) + 12345) * 1103515245) + 12345) * 1103515245) + 12345) * 1103515245) + 12345)) 68 0 10) 68 2 (((((((((((I 68 2) + 0) + 0) + 0) + 0) + 0) + 0) + 0) + 0) + 0) + 0)) 68 3 (((((((((((((((((((((((I 68 3) * 1103515245) + 12345) * 1103515245) + 12345) * 1103515245) + 12345) * 1103515245) + 12345) * 1103515245) + 12345) * 1103515245) + 12345) * 1103515245) + 12345) * 1103515245) + 12345) * 1103515245) + 12345) * 1103515245) + 12345) * 1103515245) + 12345)) 68 0 11) 68 2 ((((((((((((I 68 2) + 0) + 0) + 0) + 0) + 0) + 0) + 0) + 0) + 0) + 0) + 0)))) := by
  refine G_iload_n (pc := 0) rfl dX12_goesBy_0 ?_
  refine G_if_ge (pc := 1) (tgt := 11) (by decide) dX12_goesBy_1 (fun _ => ?_) (fun z => absurd (by decide) z)
  refine G_iload_n (pc := 11) rfl dX12_goesBy_11 ?_
  refine G_iconst (pc := 12) (v := 1) (by decide) dX12_goesBy_12 ?_
  refine G_isub (pc := 13) (z := (-1)) (by decide) dX12_goesBy_13 ?_
  refine G_istore_n (pc := 14) (L1 := [some (.ref 67), some (.int 0), some (.int (-1)), none, none]) rfl rfl (by decide) dX12_goesBy_14 ?_
  refine G_iload_n (pc := 15) rfl dX12_goesBy_15 ?_
  refine G_if_lt (pc := 16) (tgt := 27) (by decide) dX12_goesBy_16 (fun _ => ?_) (fun z => absurd (by decide) z)
  refine G_iconst (pc := 27) (v := 0) (by decide) dX12_goesBy_27 ?_
  refine G_istore_n (pc := 28) (L1 := [some (.ref 67), some (.int 0), some (.int (-1)), some (.int 0), none]) rfl rfl (by decide) dX12_goesBy_28 ?_
  refine G_iconst (pc := 29) (v := 0) (by decide) dX12_goesBy_29 ?_
  refine G_istore (pc := 30) (L1 := [some (.ref 67), some (.int 0), some (.int (-1)), some (.int 0), some (.int 0)]) rfl rfl (by decide) dX12_goesBy_30 ?_
  refine G_iload (pc := 32) rfl dX12_goesBy_32 ?_
  refine G_aload_n (pc := 34) rfl dX12_goesBy_34 ?_
  refine G_getR (pc := 35) (r := 68) (ci := 12) (j := 0) rfl lk_RX12_9 rfl rfl rfl dX12_goesBy_35 ?_
  refine G_iconst (pc := 38) (v := 4) (by decide) dX12_goesBy_38 ?_
  refine G_iald (pc := 39) (jj := 4) (v := 0) (by decide) (hI.2.2.1) rfl (by unfold vp_in; decide) dX12_goesBy_39 ?_
  refine G_icmp_ge (pc := 40) (tgt := 104) (by decide) dX12_goesBy_40 (fun _ => ?_) (fun z => absurd (by decide) z)
  refine G_aload_n (pc := 104) rfl dX12_goesBy_104 ?_
  refine G_getR (pc := 105) (r := 68) (ci := 12) (j := 0) rfl lk_RX12_9 rfl rfl rfl dX12_goesBy_105 ?_
  refine G_iconst (pc := 108) (v := 0) (by decide) dX12_goesBy_108 ?_
  refine G_dup2 (pc := 109) rfl rfl dX12_goesBy_109 ?_
  refine G_iald (pc := 110) (jj := 0) (v := 10) (by decide) rfl rfl (by unfold vp_in; decide) dX12_goesBy_110 ?_
  refine G_iconst (pc := 111) (v := 1) (by decide) dX12_goesBy_111 ?_
  refine G_iadd (pc := 112) (z := 11) (by decide) dX12_goesBy_112 ?_
  refine G_iast (pc := 113) (jj := 0) (by decide) rfl (by unfold vp_in; decide) dX12_goesBy_113 ?_
  refine G_aload_n (pc := 114) rfl dX12_goesBy_114 ?_
  refine G_getR (pc := 115) (r := 68) (ci := 12) (j := 0) rfl lk_RX12_9 rfl rfl rfl dX12_goesBy_115 ?_
  refine G_iconst (pc := 118) (v := 2) (by decide) dX12_goesBy_118 ?_
  refine G_dup2 (pc := 119) rfl rfl dX12_goesBy_119 ?_
  refine G_iald (pc := 120) (jj := 2) (v := (((((((((((I 68 2) + 0) + 0) + 0) + 0) + 0) + 0) + 0) + 0) + 0) + 0)) (by decide) rfl rfl (by unfold vp_in; decide) dX12_goesBy_120 ?_
  refine G_iload_n (pc := 121) rfl dX12_goesBy_121 ?_
  refine G_iadd (pc := 122) rfl dX12_goesBy_122 ?_
  refine G_iast (pc := 123) (jj := 2) (by decide) rfl (by unfold vp_in; decide) dX12_goesBy_123 ?_
  refine G_iload_n (pc := 124) rfl dX12_goesBy_124 ?_
  exact G_iret (pc := 125) (Nat.le_of_ble_eq_true rfl) (Nat.le_of_ble_eq_true rfl) rfl dX12_goesBy_125 ⟨rfl, rfl⟩
set_option maxRecDepth 100000 in
set_option maxHeartbeats 4000000 in
theorem s10355_X12_byLot  (d : Nat) (I : gI) (hI : I 68 0 = 0 ∧ I 68 1 = 12 ∧ I 68 4 = 0 ∧ I 70 0 = 0 ∧ I 70 1 = 12 ∧ I 70 4 = 0 ∧ True)  : G (d + 1) mX12_byLot 0 0 0 0 0 (gent 1 [.ref 67]) [] SH0 RF0 (gup (gup (gup (gup (gup (gup (gup (gup (gup (gup (gup (gup (gup (gup (gup (gup (gup (gup (gup (gup (gup (gup (gup (gup (gup (gup (gup (gup (gup (gup I 68 3 (((I 68 3) * 1103515245) + 12345)) 68 0 1) 68 2 ((I 68 2) + 0)) 68 3 (((((I 68 3) * 1103515245) + 12345) * 1103515245) + 12345)) 68 0 2) 68 2 (((I 68 2) + 0) + 0)) 68 3 (((((((I 68 3) * 1103515245) + 12345) * 1103515245) + 12345) * 1103515245) + 12345)) 68 0 3) 68 2 ((((I 68 2) + 0) + 0) + 0)) 68 3 (((((((((I 68 3) * 1103515245) + 12345) * 1103515245) + 12345) * 1103515245) + 12345) * 1103515245) + 12345)) 68 0 4) 68 2 (((((I 68 2) + 0) + 0) + 0) + 0)) 68 3 (((((((((((I 68 3) * 1103515245) + 12345) * 1103515245) + 12345) * 1103515245) + 12345) * 1103515245) + 12345) * 1103515245) + 12345)) 68 0 5) 68 2 ((((((I 68 2) + 0) + 0) + 0) + 0) + 0)) 68 3 (((((((((((((I 68 3) * 1103515245) + 12345) * 1103515245) + 12345) * 1103515245) + 12345) * 1103515245) + 12345) * 1103515245) + 12345) * 1103515245) + 12345)) 68 0 6) 68 2 (((((((I 68 2) + 0) + 0) + 0) + 0) + 0) + 0)) 68 3 (((((((((((((((I 68 3) * 1103515245) + 12345) * 1103515245) + 12345) * 1103515245) + 12345) * 1103515245) + 12345) * 1103515245) + 12345) * 1103515245) + 12345) * 1103515245) + 12345)) 68 0 7) 68 2 ((((((((I 68 2) + 0) + 0) + 0) + 0) + 0) + 0) + 0)) 68 3 (((((((((((((((((I 68 3) * 1103515245) + 12345) * 1103515245) + 12345) * 1103515245) + 12345) * 1103515245) + 12345) * 1103515245) + 12345) * 1103515245) + 12345) * 1103515245) + 12345) * 1103515245) + 12345)) 68 0 8) 68 2 (((((((((I 68 2) + 0) + 0) + 0) + 0) + 0) + 0) + 0) + 0)) 68 3 (((((((((((((((((((I 68 3) * 1103515245) + 12345) * 1103515245) + 12345) * 1103515245) + 12345) * 1103515245) + 12345) * 1103515245) + 12345) * 1103515245) + 12345) * 1103515245) + 12345) * 1103515245) + 12345) * 1103515245) + 12345)) 68 0 9) 68 2 ((((((((((I 68 2) + 0) + 0) + 0) + 0) + 0) + 0) + 0) + 0) + 0)) 68 3 (((((((((((((((((((((I 68 3) * 1103515245) + 12345) * 1103515245) + 12345) * 1103515245) + 12345) * 1103515245) + 12345) * 1103515245) + 12345) * 1103515245) + 12345) * 1103515245) + 12345) * 1103515245) + 12345) * 1103515245) + 12345) * 1103515245) + 12345)) 68 0 10) 68 2 (((((((((((I 68 2) + 0) + 0) + 0) + 0) + 0) + 0) + 0) + 0) + 0) + 0)) (fun r h => r = some (.int 0) ∧ h = (SH0, RF0, (gup (gup (gup (gup (gup (gup (gup (gup (gup (gup (gup (gup (gup (gup (gup (gup (gup (gup (gup (gup (gup (gup (gup (gup (gup (gup (gup (gup (gup (gup (gup (gup (gup I 68 3 (((I 68 3) * 1103515245) + 12345)) 68 0 1) 68 2 ((I 68 2) + 0)) 68 3 (((((I 68 3) * 1103515245) + 12345) * 1103515245) + 12345)) 68 0 2) 68 2 (((I 68 2) + 0) + 0)) 68 3 (((((((I 68 3) * 1103515245) + 12345) * 1103515245) + 12345) * 1103515245) + 12345)) 68 0 3) 68 2 ((((I 68 2) + 0) + 0) + 0)) 68 3 (((((((((I 68 3) * 1103515245) + 12345) * 1103515245) + 12345) * 1103515245) + 12345) * 1103515245) + 12345)) 68 0 4) 68 2 (((((I 68 2) + 0) + 0) + 0) + 0)) 68 3 (((((((((((I 68 3) * 1103515245) + 12345) * 1103515245) + 12345) * 1103515245) + 12345) * 1103515245) + 12345) * 1103515245) + 12345)) 68 0 5) 68 2 ((((((I 68 2) + 0) + 0) + 0) + 0) + 0)) 68 3 (((((((((((((I 68 3) * 1103515245) + 12345) * 1103515245) + 12345) * 1103515245) + 12345) * 1103515245) + 12345) * 1103515245) + 12345) * 1103515245) + 12345)) 68 0 6) 68 2 (((((((I 68 2) + 0) + 0) + 0) + 0) + 0) + 0)) 68 3 (((((((((((((((I 68 3) * 1103515245) + 12345) * 1103515245) + 12345) * 1103515245) + 12345) * 1103515245) + 12345) * 1103515245) + 12345) * 1103515245) + 12345) * 1103515245) + 12345)) 68 0 7) 68 2 ((((((((I 68 2) + 0) + 0) + 0) + 0) + 0) + 0) + 0)) 68 3 (((((((((((((((((I 68 3) * 1103515245) + 12345) * 1103515245) + 12345) * 1103515245) + 12345) * 1103515245) + 12345) * 1103515245) + 12345) * 1103515245) + 12345) * 1103515245) + 12345) * 1103515245) + 12345)) 68 0 8) 68 2 (((((((((I 68 2) + 0) + 0) + 0) + 0) + 0) + 0) + 0) + 0)) 68 3 (((((((((((((((((((I 68 3) * 1103515245) + 12345) * 1103515245) + 12345) * 1103515245) + 12345) * 1103515245) + 12345) * 1103515245) + 12345) * 1103515245) + 12345) * 1103515245) + 12345) * 1103515245) + 12345) * 1103515245) + 12345)) 68 0 9) 68 2 ((((((((((I 68 2) + 0) + 0) + 0) + 0) + 0) + 0) + 0) + 0) + 0)) 68 3 (((((((((((((((((((((I 68 3) * 1103515245) + 12345) * 1103515245) + 12345) * 1103515245) + 12345) * 1103515245) + 12345) * 1103515245) + 12345) * 1103515245) + 12345) * 1103515245) + 12345) * 1103515245) + 12345) * 1103515245) + 12345) * 1103515245) + 12345)) 68 0 10) 68 2 (((((((((((I 68 2) + 0) + 0) + 0) + 0) + 0) + 0) + 0) + 0) + 0) + 0)) 68 3 (((((((((((((((((((((((I 68 3) * 1103515245) + 12345) * 1103515245) + 12345) * 1103515245) + 12345) * 1103515245) + 12345) * 1103515245) + 12345) * 1103515245) + 12345) * 1103515245) + 12345) * 1103515245) + 12345) * 1103515245) + 12345) * 1103515245) + 12345) * 1103515245) + 12345)) 68 0 11) 68 2 ((((((((((((I 68 2) + 0) + 0) + 0) + 0) + 0) + 0) + 0) + 0) + 0) + 0) + 0)))) := by
  refine G_aload_n (pc := 0) rfl dX12_byLot_0 ?_
  refine G_getR (pc := 1) (r := 68) (ci := 12) (j := 0) rfl lk_RX12_9 rfl rfl rfl dX12_byLot_1 ?_
  refine G_iconst (pc := 4) (v := 3) (by decide) dX12_byLot_4 ?_
  refine G_aload_n (pc := 5) rfl dX12_byLot_5 ?_
  refine G_getR (pc := 6) (r := 68) (ci := 12) (j := 0) rfl lk_RX12_9 rfl rfl rfl dX12_byLot_6 ?_
  refine G_iconst (pc := 9) (v := 3) (by decide) dX12_byLot_9 ?_
  refine G_iald (pc := 10) (jj := 3) (v := (((((((((((((((((((((I 68 3) * 1103515245) + 12345) * 1103515245) + 12345) * 1103515245) + 12345) * 1103515245) + 12345) * 1103515245) + 12345) * 1103515245) + 12345) * 1103515245) + 12345) * 1103515245) + 12345) * 1103515245) + 12345) * 1103515245) + 12345)) (by decide) rfl rfl (by unfold vp_in; decide) dX12_byLot_10 ?_
  refine G_ldcw (pc := 11) (v := 1103515245) ck_RX12_313 dX12_byLot_11 ?_
  refine G_imul (pc := 14) rfl dX12_byLot_14 ?_
  refine G_sipush (pc := 15) (v := 12345) (by decide) dX12_byLot_15 ?_
  refine G_iadd (pc := 18) rfl dX12_byLot_18 ?_
  refine G_iast (pc := 19) (jj := 3) (by decide) rfl (by unfold vp_in; decide) dX12_byLot_19 ?_
  refine G_aload_n (pc := 20) rfl dX12_byLot_20 ?_
  refine G_aload_n (pc := 21) rfl dX12_byLot_21 ?_
  refine G_getR (pc := 22) (r := 68) (ci := 12) (j := 0) rfl lk_RX12_9 rfl rfl rfl dX12_byLot_22 ?_
  refine G_iconst (pc := 25) (v := 3) (by decide) dX12_byLot_25 ?_
  refine G_iald (pc := 26) (jj := 3) (v := (((((((((((((((((((((((I 68 3) * 1103515245) + 12345) * 1103515245) + 12345) * 1103515245) + 12345) * 1103515245) + 12345) * 1103515245) + 12345) * 1103515245) + 12345) * 1103515245) + 12345) * 1103515245) + 12345) * 1103515245) + 12345) * 1103515245) + 12345) * 1103515245) + 12345)) (by decide) rfl rfl (by unfold vp_in; decide) dX12_byLot_26 ?_
  refine G_bipush (pc := 27) (v := 16) (by decide) dX12_byLot_27 ?_
  refine G_iushr (pc := 29) rfl dX12_byLot_29 ?_
  refine G_aload_n (pc := 30) rfl dX12_byLot_30 ?_
  refine G_getR (pc := 31) (r := 68) (ci := 12) (j := 0) rfl lk_RX12_9 rfl rfl rfl dX12_byLot_31 ?_
  refine G_iconst (pc := 34) (v := 4) (by decide) dX12_byLot_34 ?_
  refine G_iald (pc := 35) (jj := 4) (v := 0) (by decide) (hI.2.2.1) rfl (by unfold vp_in; decide) dX12_byLot_35 ?_
  refine G_iconst (pc := 36) (v := 1) (by decide) dX12_byLot_36 ?_
  refine G_iadd (pc := 37) (z := 1) (by decide) dX12_byLot_37 ?_
  refine G_irem (pc := 38) (z := 0) (g_rem1 _) (by decide) dX12_byLot_38 ?_
  refine G_callV (pc := 39) (mc1 := 0) (ms1 := 0) (ci := 12) (mj := mX12_goesBy) (vs := [_]) dX12_byLot_39 rfl rfl cm_X12_goesBy wh_72 wh_74 wh_75 rfl (Nat.le_of_ble_eq_true rfl) (Nat.le_of_ble_eq_true rfl) (Nat.le_of_ble_eq_true rfl) (Nat.le_of_ble_eq_true rfl) (s10356_X12_goesBy  d _ hI ) ?_
  rintro _ _ ⟨rfl, rfl⟩
  dsimp only [Option.toList, List.cons_append, List.nil_append]
  exact G_iret (pc := 42) (Nat.le_of_ble_eq_true rfl) (Nat.le_of_ble_eq_true rfl) rfl dX12_byLot_42 ⟨rfl, rfl⟩
set_option maxRecDepth 100000 in
set_option maxHeartbeats 4000000 in
theorem s10357_X12_isOver  (d : Nat) (I : gI) (hI : I 68 0 = 0 ∧ I 68 1 = 12 ∧ I 68 4 = 0 ∧ I 70 0 = 0 ∧ I 70 1 = 12 ∧ I 70 4 = 0 ∧ True)  : G (d) mX12_isOver 0 0 0 0 0 (gent 1 [.ref 67]) [] SH0 RF0 (gup (gup (gup (gup (gup (gup (gup (gup (gup (gup (gup (gup (gup (gup (gup (gup (gup (gup (gup (gup (gup (gup (gup (gup (gup (gup (gup (gup (gup (gup (gup (gup (gup I 68 3 (((I 68 3) * 1103515245) + 12345)) 68 0 1) 68 2 ((I 68 2) + 0)) 68 3 (((((I 68 3) * 1103515245) + 12345) * 1103515245) + 12345)) 68 0 2) 68 2 (((I 68 2) + 0) + 0)) 68 3 (((((((I 68 3) * 1103515245) + 12345) * 1103515245) + 12345) * 1103515245) + 12345)) 68 0 3) 68 2 ((((I 68 2) + 0) + 0) + 0)) 68 3 (((((((((I 68 3) * 1103515245) + 12345) * 1103515245) + 12345) * 1103515245) + 12345) * 1103515245) + 12345)) 68 0 4) 68 2 (((((I 68 2) + 0) + 0) + 0) + 0)) 68 3 (((((((((((I 68 3) * 1103515245) + 12345) * 1103515245) + 12345) * 1103515245) + 12345) * 1103515245) + 12345) * 1103515245) + 12345)) 68 0 5) 68 2 ((((((I 68 2) + 0) + 0) + 0) + 0) + 0)) 68 3 (((((((((((((I 68 3) * 1103515245) + 12345) * 1103515245) + 12345) * 1103515245) + 12345) * 1103515245) + 12345) * 1103515245) + 12345) * 1103515245) + 12345)) 68 0 6) 68 2 (((((((I 68 2) + 0) + 0) + 0) + 0) + 0) + 0)) 68 3 (((((((((((((((I 68 3) * 1103515245) + 12345) * 1103515245) + 12345) * 1103515245) + 12345) * 1103515245) + 12345) * 1103515245) + 12345) * 1103515245) + 12345) * 1103515245) + 12345)) 68 0 7) 68 2 ((((((((I 68 2) + 0) + 0) + 0) + 0) + 0) + 0) + 0)) 68 3 (((((((((((((((((I 68 3) * 1103515245) + 12345) * 1103515245) + 12345) * 1103515245) + 12345) * 1103515245) + 12345) * 1103515245) + 12345) * 1103515245) + 12345) * 1103515245) + 12345) * 1103515245) + 12345)) 68 0 8) 68 2 (((((((((I 68 2) + 0) + 0) + 0) + 0) + 0) + 0) + 0) + 0)) 68 3 (((((((((((((((((((I 68 3) * 1103515245) + 12345) * 1103515245) + 12345) * 1103515245) + 12345) * 1103515245) + 12345) * 1103515245) + 12345) * 1103515245) + 12345) * 1103515245) + 12345) * 1103515245) + 12345) * 1103515245) + 12345)) 68 0 9) 68 2 ((((((((((I 68 2) + 0) + 0) + 0) + 0) + 0) + 0) + 0) + 0) + 0)) 68 3 (((((((((((((((((((((I 68 3) * 1103515245) + 12345) * 1103515245) + 12345) * 1103515245) + 12345) * 1103515245) + 12345) * 1103515245) + 12345) * 1103515245) + 12345) * 1103515245) + 12345) * 1103515245) + 12345) * 1103515245) + 12345) * 1103515245) + 12345)) 68 0 10) 68 2 (((((((((((I 68 2) + 0) + 0) + 0) + 0) + 0) + 0) + 0) + 0) + 0) + 0)) 68 3 (((((((((((((((((((((((I 68 3) * 1103515245) + 12345) * 1103515245) + 12345) * 1103515245) + 12345) * 1103515245) + 12345) * 1103515245) + 12345) * 1103515245) + 12345) * 1103515245) + 12345) * 1103515245) + 12345) * 1103515245) + 12345) * 1103515245) + 12345) * 1103515245) + 12345)) 68 0 11) 68 2 ((((((((((((I 68 2) + 0) + 0) + 0) + 0) + 0) + 0) + 0) + 0) + 0) + 0) + 0)) (fun r h => r = some (.int 0) ∧ h = (SH0, RF0, (gup (gup (gup (gup (gup (gup (gup (gup (gup (gup (gup (gup (gup (gup (gup (gup (gup (gup (gup (gup (gup (gup (gup (gup (gup (gup (gup (gup (gup (gup (gup (gup (gup I 68 3 (((I 68 3) * 1103515245) + 12345)) 68 0 1) 68 2 ((I 68 2) + 0)) 68 3 (((((I 68 3) * 1103515245) + 12345) * 1103515245) + 12345)) 68 0 2) 68 2 (((I 68 2) + 0) + 0)) 68 3 (((((((I 68 3) * 1103515245) + 12345) * 1103515245) + 12345) * 1103515245) + 12345)) 68 0 3) 68 2 ((((I 68 2) + 0) + 0) + 0)) 68 3 (((((((((I 68 3) * 1103515245) + 12345) * 1103515245) + 12345) * 1103515245) + 12345) * 1103515245) + 12345)) 68 0 4) 68 2 (((((I 68 2) + 0) + 0) + 0) + 0)) 68 3 (((((((((((I 68 3) * 1103515245) + 12345) * 1103515245) + 12345) * 1103515245) + 12345) * 1103515245) + 12345) * 1103515245) + 12345)) 68 0 5) 68 2 ((((((I 68 2) + 0) + 0) + 0) + 0) + 0)) 68 3 (((((((((((((I 68 3) * 1103515245) + 12345) * 1103515245) + 12345) * 1103515245) + 12345) * 1103515245) + 12345) * 1103515245) + 12345) * 1103515245) + 12345)) 68 0 6) 68 2 (((((((I 68 2) + 0) + 0) + 0) + 0) + 0) + 0)) 68 3 (((((((((((((((I 68 3) * 1103515245) + 12345) * 1103515245) + 12345) * 1103515245) + 12345) * 1103515245) + 12345) * 1103515245) + 12345) * 1103515245) + 12345) * 1103515245) + 12345)) 68 0 7) 68 2 ((((((((I 68 2) + 0) + 0) + 0) + 0) + 0) + 0) + 0)) 68 3 (((((((((((((((((I 68 3) * 1103515245) + 12345) * 1103515245) + 12345) * 1103515245) + 12345) * 1103515245) + 12345) * 1103515245) + 12345) * 1103515245) + 12345) * 1103515245) + 12345) * 1103515245) + 12345)) 68 0 8) 68 2 (((((((((I 68 2) + 0) + 0) + 0) + 0) + 0) + 0) + 0) + 0)) 68 3 (((((((((((((((((((I 68 3) * 1103515245) + 12345) * 1103515245) + 12345) * 1103515245) + 12345) * 1103515245) + 12345) * 1103515245) + 12345) * 1103515245) + 12345) * 1103515245) + 12345) * 1103515245) + 12345) * 1103515245) + 12345)) 68 0 9) 68 2 ((((((((((I 68 2) + 0) + 0) + 0) + 0) + 0) + 0) + 0) + 0) + 0)) 68 3 (((((((((((((((((((((I 68 3) * 1103515245) + 12345) * 1103515245) + 12345) * 1103515245) + 12345) * 1103515245) + 12345) * 1103515245) + 12345) * 1103515245) + 12345) * 1103515245) + 12345) * 1103515245) + 12345) * 1103515245) + 12345) * 1103515245) + 12345)) 68 0 10) 68 2 (((((((((((I 68 2) + 0) + 0) + 0) + 0) + 0) + 0) + 0) + 0) + 0) + 0)) 68 3 (((((((((((((((((((((((I 68 3) * 1103515245) + 12345) * 1103515245) + 12345) * 1103515245) + 12345) * 1103515245) + 12345) * 1103515245) + 12345) * 1103515245) + 12345) * 1103515245) + 12345) * 1103515245) + 12345) * 1103515245) + 12345) * 1103515245) + 12345) * 1103515245) + 12345)) 68 0 11) 68 2 ((((((((((((I 68 2) + 0) + 0) + 0) + 0) + 0) + 0) + 0) + 0) + 0) + 0) + 0)))) := by
  refine G_aload_n (pc := 0) rfl dX12_isOver_0 ?_
  refine G_getR (pc := 1) (r := 68) (ci := 12) (j := 0) rfl lk_RX12_9 rfl rfl rfl dX12_isOver_1 ?_
  refine G_iconst (pc := 4) (v := 0) (by decide) dX12_isOver_4 ?_
  refine G_iald (pc := 5) (jj := 0) (v := 11) (by decide) rfl rfl (by unfold vp_in; decide) dX12_isOver_5 ?_
  refine G_aload_n (pc := 6) rfl dX12_isOver_6 ?_
  refine G_getR (pc := 7) (r := 68) (ci := 12) (j := 0) rfl lk_RX12_9 rfl rfl rfl dX12_isOver_7 ?_
  refine G_iconst (pc := 10) (v := 1) (by decide) dX12_isOver_10 ?_
  refine G_iald (pc := 11) (jj := 1) (v := 12) (by decide) (hI.2.1) rfl (by unfold vp_in; decide) dX12_isOver_11 ?_
  refine G_icmp_lt (pc := 12) (tgt := 19) (by decide) dX12_isOver_12 (fun _ => ?_) (fun z => absurd (by decide) z)
  refine G_iconst (pc := 19) (v := 0) (by decide) dX12_isOver_19 ?_
  exact G_zret (pc := 20) (Nat.le_of_ble_eq_true rfl) (Nat.le_of_ble_eq_true rfl) rfl (by decide) dX12_isOver_20 ⟨rfl, rfl⟩
set_option maxRecDepth 100000 in
set_option maxHeartbeats 4000000 in
theorem s10359_X12_goesBy  (d : Nat) (I : gI) (hI : I 68 0 = 0 ∧ I 68 1 = 12 ∧ I 68 4 = 0 ∧ I 70 0 = 0 ∧ I 70 1 = 12 ∧ I 70 4 = 0 ∧ True)  : G (d) mX12_goesBy 0 0 0 0 0 (gent 5 [.ref 67, .int 0]) [] SH0 RF0 (gup (gup (gup (gup (gup (gup (gup (gup (gup (gup (gup (gup (gup (gup (gup (gup (gup (gup (gup (gup (gup (gup (gup (gup (gup (gup (gup (gup (gup (gup (gup (gup (gup (gup I 68 3 (((I 68 3) * 1103515245) + 12345)) 68 0 1) 68 2 ((I 68 2) + 0)) 68 3 (((((I 68 3) * 1103515245) + 12345) * 1103515245) + 12345)) 68 0 2) 68 2 (((I 68 2) + 0) + 0)) 68 3 (((((((I 68 3) * 1103515245) + 12345) * 1103515245) + 12345) * 1103515245) + 12345)) 68 0 3) 68 2 ((((I 68 2) + 0) + 0) + 0)) 68 3 (((((((((I 68 3) * 1103515245) + 12345) * 1103515245) + 12345) * 1103515245) + 12345) * 1103515245) + 12345)) 68 0 4) 68 2 (((((I 68 2) + 0) + 0) + 0) + 0)) 68 3 (((((((((((I 68 3) * 1103515245) + 12345) * 1103515245) + 12345) * 1103515245) + 12345) * 1103515245) + 12345) * 1103515245) + 12345)) 68 0 5) 68 2 ((((((I 68 2) + 0) + 0) + 0) + 0) + 0)) 68 3 (((((((((((((I 68 3) * 1103515245) + 12345) * 1103515245) + 12345) * 1103515245) + 12345) * 1103515245) + 12345) * 1103515245) + 12345) * 1103515245) + 12345)) 68 0 6) 68 2 (((((((I 68 2) + 0) + 0) + 0) + 0) + 0) + 0)) 68 3 (((((((((((((((I 68 3) * 1103515245) + 12345) * 1103515245) + 12345) * 1103515245) + 12345) * 1103515245) + 12345) * 1103515245) + 12345) * 1103515245) + 12345) * 1103515245) + 12345)) 68 0 7) 68 2 ((((((((I 68 2) + 0) + 0) + 0) + 0) + 0) + 0) + 0)) 68 3 (((((((((((((((((I 68 3) * 1103515245) + 12345) * 1103515245) + 12345) * 1103515245) + 12345) * 1103515245) + 12345) * 1103515245) + 12345) * 1103515245) + 12345) * 1103515245) + 12345) * 1103515245) + 12345)) 68 0 8) 68 2 (((((((((I 68 2) + 0) + 0) + 0) + 0) + 0) + 0) + 0) + 0)) 68 3 (((((((((((((((((((I 68 3) * 1103515245) + 12345) * 1103515245) + 12345) * 1103515245) + 12345) * 1103515245) + 12345) * 1103515245) + 12345) * 1103515245) + 12345) * 1103515245) + 12345) * 1103515245) + 12345) * 1103515245) + 12345)) 68 0 9) 68 2 ((((((((((I 68 2) + 0) + 0) + 0) + 0) + 0) + 0) + 0) + 0) + 0)) 68 3 (((((((((((((((((((((I 68 3) * 1103515245) + 12345) * 1103515245) + 12345) * 1103515245) + 12345) * 1103515245) + 12345) * 1103515245) + 12345) * 1103515245) + 12345) * 1103515245) + 12345) * 1103515245) + 12345) * 1103515245) + 12345) * 1103515245) + 12345)) 68 0 10) 68 2 (((((((((((I 68 2) + 0) + 0) + 0) + 0) + 0) + 0) + 0) + 0) + 0) + 0)) 68 3 (((((((((((((((((((((((I 68 3) * 1103515245) + 12345) * 1103515245) + 12345) * 1103515245) + 12345) * 1103515245) + 12345) * 1103515245) + 12345) * 1103515245) + 12345) * 1103515245) + 12345) * 1103515245) + 12345) * 1103515245) + 12345) * 1103515245) + 12345) * 1103515245) + 12345)) 68 0 11) 68 2 ((((((((((((I 68 2) + 0) + 0) + 0) + 0) + 0) + 0) + 0) + 0) + 0) + 0) + 0)) 68 3 (((((((((((((((((((((((((I 68 3) * 1103515245) + 12345) * 1103515245) + 12345) * 1103515245) + 12345) * 1103515245) + 12345) * 1103515245) + 12345) * 1103515245) + 12345) * 1103515245) + 12345) * 1103515245) + 12345) * 1103515245) + 12345) * 1103515245) + 12345) * 1103515245) + 12345) * 1103515245) + 12345)) (fun r h => r = some (.int 0) ∧ h = (SH0, RF0, (gup (gup (gup (gup (gup (gup (gup (gup (gup (gup (gup (gup (gup (gup (gup (gup (gup (gup (gup (gup (gup (gup (gup (gup (gup (gup (gup (gup (gup (gup (gup (gup (gup (gup (gup (gup I 68 3 (((I 68 3) * 1103515245) + 12345)) 68 0 1) 68 2 ((I 68 2) + 0)) 68 3 (((((I 68 3) * 1103515245) + 12345) * 1103515245) + 12345)) 68 0 2) 68 2 (((I 68 2) + 0) + 0)) 68 3 (((((((I 68 3) * 1103515245) + 12345) * 1103515245) + 12345) * 1103515245) + 12345)) 68 0 3) 68 2 ((((I 68 2) + 0) + 0) + 0)) 68 3 (((((((((I 68 3) * 1103515245) + 12345) * 1103515245) + 12345) * 1103515245) + 12345) * 1103515245) + 12345)) 68 0 4) 68 2 (((((I 68 2) + 0) + 0) + 0) + 0)) 68 3 (((((((((((I 68 3) * 1103515245) + 12345) * 1103515245) + 12345) * 1103515245) + 12345) * 1103515245) + 12345) * 1103515245) + 12345)) 68 0 5) 68 2 ((((((I 68 2) + 0) + 0) + 0) + 0) + 0)) 68 3 (((((((((((((I 68 3) * 1103515245) + 12345) * 1103515245) + 12345) * 1103515245) + 12345) * 1103515245) + 12345) * 1103515245) + 12345) * 1103515245) + 12345)) 68 0 6) 68 2 (((((((I 68 2) + 0) + 0) + 0) + 0) + 0) + 0)) 68 3 (((((((((((((((I 68 3) * 1103515245) + 12345) * 1103515245) + 12345) * 1103515245) + 12345) * 1103515245) + 12345) * 1103515245) + 12345) * 1103515245) + 12345) * 1103515245) + 12345)) 68 0 7) 68 2 ((((((((I 68 2) + 0) + 0) + 0) + 0) + 0) + 0) + 0)) 68 3 (((((((((((((((((I 68 3) * 1103515245) + 12345) * 1103515245) + 12345) * 1103515245) + 12345) * 1103515245) + 12345) * 1103515245) + 12345) * 1103515245) + 12345) * 1103515245) + 12345) * 1103515245) + 12345)) 68 0 8) 68 2 (((((((((I 68 2) + 0) + 0) + 0) + 0) + 0) + 0) + 0) + 0)) 68 3 (((((((((((((((((((I 68 3) * 1103515245) + 12345) * 1103515245) + 12345) * 1103515245) + 12345) * 1103515245) + 12345) * 1103515245) + 12345) * 1103515245) + 12345) * 1103515245) + 12345) * 1103515245) + 12345) * 1103515245) + 12345)) 68 0 9) 68 2 ((((((((((I 68 2) + 0) + 0) + 0) + 0) + 0) + 0) + 0) + 0) + 0)) 68 3 (((((((((((((((((((((I 68 3) * 1103515245) + 12345) * 1103515245) + 12345) * 1103515245) + 12345) * 1103515245) + 12345) * 1103515245) + 12345) * 1103515245) + 12345) * 1103515245) + 12345) * 1103515245) + 12345) * 1103515245) + 12345) * 1103515245) + 12345)) 68 0 10) 68 2 (((((((((((I 68 2) + 0) + 0) + 0) + 0) + 0) + 0) + 0) + 0) + 0) + 0)) 68 3 (((((((((((((((((((((((I 68 3) * 1103515245) + 12345) * 1103515245) + 12345) * 1103515245) + 12345) * 1103515245) + 12345) * 1103515245) + 12345) * 1103515245) + 12345) * 1103515245) + 12345) * 1103515245) + 12345) * 1103515245) + 12345) * 1103515245) + 12345) * 1103515245) + 12345)) 68 0 11) 68 2 ((((((((((((I 68 2) + 0) + 0) + 0) + 0) + 0) + 0) + 0) + 0) + 0) + 0) + 0)) 68 3 (((((((((((((((((((((((((I 68 3) * 1103515245) + 12345) * 1103515245) + 12345) * 1103515245) + 12345) * 1103515245) + 12345) * 1103515245) + 12345) * 1103515245) + 12345) * 1103515245) + 12345) * 1103515245) + 12345) * 1103515245) + 12345) * 1103515245) + 12345) * 1103515245) + 12345) * 1103515245) + 12345)) 68 0 12) 68 2 (((((((((((((I 68 2) + 0) + 0) + 0) + 0) + 0) + 0) + 0) + 0) + 0) + 0) + 0) + 0)))) := by
  refine G_iload_n (pc := 0) rfl dX12_goesBy_0 ?_
  refine G_if_ge (pc := 1) (tgt := 11) (by decide) dX12_goesBy_1 (fun _ => ?_) (fun z => absurd (by decide) z)
  refine G_iload_n (pc := 11) rfl dX12_goesBy_11 ?_
  refine G_iconst (pc := 12) (v := 1) (by decide) dX12_goesBy_12 ?_
  refine G_isub (pc := 13) (z := (-1)) (by decide) dX12_goesBy_13 ?_
  refine G_istore_n (pc := 14) (L1 := [some (.ref 67), some (.int 0), some (.int (-1)), none, none]) rfl rfl (by decide) dX12_goesBy_14 ?_
  refine G_iload_n (pc := 15) rfl dX12_goesBy_15 ?_
  refine G_if_lt (pc := 16) (tgt := 27) (by decide) dX12_goesBy_16 (fun _ => ?_) (fun z => absurd (by decide) z)
  refine G_iconst (pc := 27) (v := 0) (by decide) dX12_goesBy_27 ?_
  refine G_istore_n (pc := 28) (L1 := [some (.ref 67), some (.int 0), some (.int (-1)), some (.int 0), none]) rfl rfl (by decide) dX12_goesBy_28 ?_
  refine G_iconst (pc := 29) (v := 0) (by decide) dX12_goesBy_29 ?_
  refine G_istore (pc := 30) (L1 := [some (.ref 67), some (.int 0), some (.int (-1)), some (.int 0), some (.int 0)]) rfl rfl (by decide) dX12_goesBy_30 ?_
  refine G_iload (pc := 32) rfl dX12_goesBy_32 ?_
  refine G_aload_n (pc := 34) rfl dX12_goesBy_34 ?_
  refine G_getR (pc := 35) (r := 68) (ci := 12) (j := 0) rfl lk_RX12_9 rfl rfl rfl dX12_goesBy_35 ?_
  refine G_iconst (pc := 38) (v := 4) (by decide) dX12_goesBy_38 ?_
  refine G_iald (pc := 39) (jj := 4) (v := 0) (by decide) (hI.2.2.1) rfl (by unfold vp_in; decide) dX12_goesBy_39 ?_
  refine G_icmp_ge (pc := 40) (tgt := 104) (by decide) dX12_goesBy_40 (fun _ => ?_) (fun z => absurd (by decide) z)
  refine G_aload_n (pc := 104) rfl dX12_goesBy_104 ?_
  refine G_getR (pc := 105) (r := 68) (ci := 12) (j := 0) rfl lk_RX12_9 rfl rfl rfl dX12_goesBy_105 ?_
  refine G_iconst (pc := 108) (v := 0) (by decide) dX12_goesBy_108 ?_
  refine G_dup2 (pc := 109) rfl rfl dX12_goesBy_109 ?_
  refine G_iald (pc := 110) (jj := 0) (v := 11) (by decide) rfl rfl (by unfold vp_in; decide) dX12_goesBy_110 ?_
  refine G_iconst (pc := 111) (v := 1) (by decide) dX12_goesBy_111 ?_
  refine G_iadd (pc := 112) (z := 12) (by decide) dX12_goesBy_112 ?_
  refine G_iast (pc := 113) (jj := 0) (by decide) rfl (by unfold vp_in; decide) dX12_goesBy_113 ?_
  refine G_aload_n (pc := 114) rfl dX12_goesBy_114 ?_
  refine G_getR (pc := 115) (r := 68) (ci := 12) (j := 0) rfl lk_RX12_9 rfl rfl rfl dX12_goesBy_115 ?_
  refine G_iconst (pc := 118) (v := 2) (by decide) dX12_goesBy_118 ?_
  refine G_dup2 (pc := 119) rfl rfl dX12_goesBy_119 ?_
  refine G_iald (pc := 120) (jj := 2) (v := ((((((((((((I 68 2) + 0) + 0) + 0) + 0) + 0) + 0) + 0) + 0) + 0) + 0) + 0)) (by decide) rfl rfl (by unfold vp_in; decide) dX12_goesBy_120 ?_
  refine G_iload_n (pc := 121) rfl dX12_goesBy_121 ?_
  refine G_iadd (pc := 122) rfl dX12_goesBy_122 ?_
  refine G_iast (pc := 123) (jj := 2) (by decide) rfl (by unfold vp_in; decide) dX12_goesBy_123 ?_
  refine G_iload_n (pc := 124) rfl dX12_goesBy_124 ?_
  exact G_iret (pc := 125) (Nat.le_of_ble_eq_true rfl) (Nat.le_of_ble_eq_true rfl) rfl dX12_goesBy_125 ⟨rfl, rfl⟩
set_option maxRecDepth 100000 in
set_option maxHeartbeats 4000000 in
theorem s10358_X12_byLot  (d : Nat) (I : gI) (hI : I 68 0 = 0 ∧ I 68 1 = 12 ∧ I 68 4 = 0 ∧ I 70 0 = 0 ∧ I 70 1 = 12 ∧ I 70 4 = 0 ∧ True)  : G (d + 1) mX12_byLot 0 0 0 0 0 (gent 1 [.ref 67]) [] SH0 RF0 (gup (gup (gup (gup (gup (gup (gup (gup (gup (gup (gup (gup (gup (gup (gup (gup (gup (gup (gup (gup (gup (gup (gup (gup (gup (gup (gup (gup (gup (gup (gup (gup (gup I 68 3 (((I 68 3) * 1103515245) + 12345)) 68 0 1) 68 2 ((I 68 2) + 0)) 68 3 (((((I 68 3) * 1103515245) + 12345) * 1103515245) + 12345)) 68 0 2) 68 2 (((I 68 2) + 0) + 0)) 68 3 (((((((I 68 3) * 1103515245) + 12345) * 1103515245) + 12345) * 1103515245) + 12345)) 68 0 3) 68 2 ((((I 68 2) + 0) + 0) + 0)) 68 3 (((((((((I 68 3) * 1103515245) + 12345) * 1103515245) + 12345) * 1103515245) + 12345) * 1103515245) + 12345)) 68 0 4) 68 2 (((((I 68 2) + 0) + 0) + 0) + 0)) 68 3 (((((((((((I 68 3) * 1103515245) + 12345) * 1103515245) + 12345) * 1103515245) + 12345) * 1103515245) + 12345) * 1103515245) + 12345)) 68 0 5) 68 2 ((((((I 68 2) + 0) + 0) + 0) + 0) + 0)) 68 3 (((((((((((((I 68 3) * 1103515245) + 12345) * 1103515245) + 12345) * 1103515245) + 12345) * 1103515245) + 12345) * 1103515245) + 12345) * 1103515245) + 12345)) 68 0 6) 68 2 (((((((I 68 2) + 0) + 0) + 0) + 0) + 0) + 0)) 68 3 (((((((((((((((I 68 3) * 1103515245) + 12345) * 1103515245) + 12345) * 1103515245) + 12345) * 1103515245) + 12345) * 1103515245) + 12345) * 1103515245) + 12345) * 1103515245) + 12345)) 68 0 7) 68 2 ((((((((I 68 2) + 0) + 0) + 0) + 0) + 0) + 0) + 0)) 68 3 (((((((((((((((((I 68 3) * 1103515245) + 12345) * 1103515245) + 12345) * 1103515245) + 12345) * 1103515245) + 12345) * 1103515245) + 12345) * 1103515245) + 12345) * 1103515245) + 12345) * 1103515245) + 12345)) 68 0 8) 68 2 (((((((((I 68 2) + 0) + 0) + 0) + 0) + 0) + 0) + 0) + 0)) 68 3 (((((((((((((((((((I 68 3) * 1103515245) + 12345) * 1103515245) + 12345) * 1103515245) + 12345) * 1103515245) + 12345) * 1103515245) + 12345) * 1103515245) + 12345) * 1103515245) + 12345) * 1103515245) + 12345) * 1103515245) + 12345)) 68 0 9) 68 2 ((((((((((I 68 2) + 0) + 0) + 0) + 0) + 0) + 0) + 0) + 0) + 0)) 68 3 (((((((((((((((((((((I 68 3) * 1103515245) + 12345) * 1103515245) + 12345) * 1103515245) + 12345) * 1103515245) + 12345) * 1103515245) + 12345) * 1103515245) + 12345) * 1103515245) + 12345) * 1103515245) + 12345) * 1103515245) + 12345) * 1103515245) + 12345)) 68 0 10) 68 2 (((((((((((I 68 2) + 0) + 0) + 0) + 0) + 0) + 0) + 0) + 0) + 0) + 0)) 68 3 (((((((((((((((((((((((I 68 3) * 1103515245) + 12345) * 1103515245) + 12345) * 1103515245) + 12345) * 1103515245) + 12345) * 1103515245) + 12345) * 1103515245) + 12345) * 1103515245) + 12345) * 1103515245) + 12345) * 1103515245) + 12345) * 1103515245) + 12345) * 1103515245) + 12345)) 68 0 11) 68 2 ((((((((((((I 68 2) + 0) + 0) + 0) + 0) + 0) + 0) + 0) + 0) + 0) + 0) + 0)) (fun r h => r = some (.int 0) ∧ h = (SH0, RF0, (gup (gup (gup (gup (gup (gup (gup (gup (gup (gup (gup (gup (gup (gup (gup (gup (gup (gup (gup (gup (gup (gup (gup (gup (gup (gup (gup (gup (gup (gup (gup (gup (gup (gup (gup (gup I 68 3 (((I 68 3) * 1103515245) + 12345)) 68 0 1) 68 2 ((I 68 2) + 0)) 68 3 (((((I 68 3) * 1103515245) + 12345) * 1103515245) + 12345)) 68 0 2) 68 2 (((I 68 2) + 0) + 0)) 68 3 (((((((I 68 3) * 1103515245) + 12345) * 1103515245) + 12345) * 1103515245) + 12345)) 68 0 3) 68 2 ((((I 68 2) + 0) + 0) + 0)) 68 3 (((((((((I 68 3) * 1103515245) + 12345) * 1103515245) + 12345) * 1103515245) + 12345) * 1103515245) + 12345)) 68 0 4) 68 2 (((((I 68 2) + 0) + 0) + 0) + 0)) 68 3 (((((((((((I 68 3) * 1103515245) + 12345) * 1103515245) + 12345) * 1103515245) + 12345) * 1103515245) + 12345) * 1103515245) + 12345)) 68 0 5) 68 2 ((((((I 68 2) + 0) + 0) + 0) + 0) + 0)) 68 3 (((((((((((((I 68 3) * 1103515245) + 12345) * 1103515245) + 12345) * 1103515245) + 12345) * 1103515245) + 12345) * 1103515245) + 12345) * 1103515245) + 12345)) 68 0 6) 68 2 (((((((I 68 2) + 0) + 0) + 0) + 0) + 0) + 0)) 68 3 (((((((((((((((I 68 3) * 1103515245) + 12345) * 1103515245) + 12345) * 1103515245) + 12345) * 1103515245) + 12345) * 1103515245) + 12345) * 1103515245) + 12345) * 1103515245) + 12345)) 68 0 7) 68 2 ((((((((I 68 2) + 0) + 0) + 0) + 0) + 0) + 0) + 0)) 68 3 (((((((((((((((((I 68 3) * 1103515245) + 12345) * 1103515245) + 12345) * 1103515245) + 12345) * 1103515245) + 12345) * 1103515245) + 12345) * 1103515245) + 12345) * 1103515245) + 12345) * 1103515245) + 12345)) 68 0 8) 68 2 (((((((((I 68 2) + 0) + 0) + 0) + 0) + 0) + 0) + 0) + 0)) 68 3 (((((((((((((((((((I 68 3) * 1103515245) + 12345) * 1103515245) + 12345) * 1103515245) + 12345) * 1103515245) + 12345) * 1103515245) + 12345) * 1103515245) + 12345) * 1103515245) + 12345) * 1103515245) + 12345) * 1103515245) + 12345)) 68 0 9) 68 2 ((((((((((I 68 2) + 0) + 0) + 0) + 0) + 0) + 0) + 0) + 0) + 0)) 68 3 (((((((((((((((((((((I 68 3) * 1103515245) + 12345) * 1103515245) + 12345) * 1103515245) + 12345) * 1103515245) + 12345) * 1103515245) + 12345) * 1103515245) + 12345) * 1103515245) + 12345) * 1103515245) + 12345) * 1103515245) + 12345) * 1103515245) + 12345)) 68 0 10) 68 2 (((((((((((I 68 2) + 0) + 0) + 0) + 0) + 0) + 0) + 0) + 0) + 0) + 0)) 68 3 (((((((((((((((((((((((I 68 3) * 1103515245) + 12345) * 1103515245) + 12345) * 1103515245) + 12345) * 1103515245) + 12345) * 1103515245) + 12345) * 1103515245) + 12345) * 1103515245) + 12345) * 1103515245) + 12345) * 1103515245) + 12345) * 1103515245) + 12345) * 1103515245) + 12345)) 68 0 11) 68 2 ((((((((((((I 68 2) + 0) + 0) + 0) + 0) + 0) + 0) + 0) + 0) + 0) + 0) + 0)) 68 3 (((((((((((((((((((((((((I 68 3) * 1103515245) + 12345) * 1103515245) + 12345) * 1103515245) + 12345) * 1103515245) + 12345) * 1103515245) + 12345) * 1103515245) + 12345) * 1103515245) + 12345) * 1103515245) + 12345) * 1103515245) + 12345) * 1103515245) + 12345) * 1103515245) + 12345) * 1103515245) + 12345)) 68 0 12) 68 2 (((((((((((((I 68 2) + 0) + 0) + 0) + 0) + 0) + 0) + 0) + 0) + 0) + 0) + 0) + 0)))) := by
  refine G_aload_n (pc := 0) rfl dX12_byLot_0 ?_
  refine G_getR (pc := 1) (r := 68) (ci := 12) (j := 0) rfl lk_RX12_9 rfl rfl rfl dX12_byLot_1 ?_
  refine G_iconst (pc := 4) (v := 3) (by decide) dX12_byLot_4 ?_
  refine G_aload_n (pc := 5) rfl dX12_byLot_5 ?_
  refine G_getR (pc := 6) (r := 68) (ci := 12) (j := 0) rfl lk_RX12_9 rfl rfl rfl dX12_byLot_6 ?_
  refine G_iconst (pc := 9) (v := 3) (by decide) dX12_byLot_9 ?_
  refine G_iald (pc := 10) (jj := 3) (v := (((((((((((((((((((((((I 68 3) * 1103515245) + 12345) * 1103515245) + 12345) * 1103515245) + 12345) * 1103515245) + 12345) * 1103515245) + 12345) * 1103515245) + 12345) * 1103515245) + 12345) * 1103515245) + 12345) * 1103515245) + 12345) * 1103515245) + 12345) * 1103515245) + 12345)) (by decide) rfl rfl (by unfold vp_in; decide) dX12_byLot_10 ?_
  refine G_ldcw (pc := 11) (v := 1103515245) ck_RX12_313 dX12_byLot_11 ?_
  refine G_imul (pc := 14) rfl dX12_byLot_14 ?_
  refine G_sipush (pc := 15) (v := 12345) (by decide) dX12_byLot_15 ?_
  refine G_iadd (pc := 18) rfl dX12_byLot_18 ?_
  refine G_iast (pc := 19) (jj := 3) (by decide) rfl (by unfold vp_in; decide) dX12_byLot_19 ?_
  refine G_aload_n (pc := 20) rfl dX12_byLot_20 ?_
  refine G_aload_n (pc := 21) rfl dX12_byLot_21 ?_
  refine G_getR (pc := 22) (r := 68) (ci := 12) (j := 0) rfl lk_RX12_9 rfl rfl rfl dX12_byLot_22 ?_
  refine G_iconst (pc := 25) (v := 3) (by decide) dX12_byLot_25 ?_
  refine G_iald (pc := 26) (jj := 3) (v := (((((((((((((((((((((((((I 68 3) * 1103515245) + 12345) * 1103515245) + 12345) * 1103515245) + 12345) * 1103515245) + 12345) * 1103515245) + 12345) * 1103515245) + 12345) * 1103515245) + 12345) * 1103515245) + 12345) * 1103515245) + 12345) * 1103515245) + 12345) * 1103515245) + 12345) * 1103515245) + 12345)) (by decide) rfl rfl (by unfold vp_in; decide) dX12_byLot_26 ?_
  refine G_bipush (pc := 27) (v := 16) (by decide) dX12_byLot_27 ?_
  refine G_iushr (pc := 29) rfl dX12_byLot_29 ?_
  refine G_aload_n (pc := 30) rfl dX12_byLot_30 ?_
  refine G_getR (pc := 31) (r := 68) (ci := 12) (j := 0) rfl lk_RX12_9 rfl rfl rfl dX12_byLot_31 ?_
  refine G_iconst (pc := 34) (v := 4) (by decide) dX12_byLot_34 ?_
  refine G_iald (pc := 35) (jj := 4) (v := 0) (by decide) (hI.2.2.1) rfl (by unfold vp_in; decide) dX12_byLot_35 ?_
  refine G_iconst (pc := 36) (v := 1) (by decide) dX12_byLot_36 ?_
  refine G_iadd (pc := 37) (z := 1) (by decide) dX12_byLot_37 ?_
  refine G_irem (pc := 38) (z := 0) (g_rem1 _) (by decide) dX12_byLot_38 ?_
  refine G_callV (pc := 39) (mc1 := 0) (ms1 := 0) (ci := 12) (mj := mX12_goesBy) (vs := [_]) dX12_byLot_39 rfl rfl cm_X12_goesBy wh_72 wh_74 wh_75 rfl (Nat.le_of_ble_eq_true rfl) (Nat.le_of_ble_eq_true rfl) (Nat.le_of_ble_eq_true rfl) (Nat.le_of_ble_eq_true rfl) (s10359_X12_goesBy  d _ hI ) ?_
  rintro _ _ ⟨rfl, rfl⟩
  dsimp only [Option.toList, List.cons_append, List.nil_append]
  exact G_iret (pc := 42) (Nat.le_of_ble_eq_true rfl) (Nat.le_of_ble_eq_true rfl) rfl dX12_byLot_42 ⟨rfl, rfl⟩
set_option maxRecDepth 100000 in
set_option maxHeartbeats 4000000 in
theorem s10360_X12_isOver  (d : Nat) (I : gI) (hI : I 68 0 = 0 ∧ I 68 1 = 12 ∧ I 68 4 = 0 ∧ I 70 0 = 0 ∧ I 70 1 = 12 ∧ I 70 4 = 0 ∧ True)  : G (d) mX12_isOver 0 0 0 0 0 (gent 1 [.ref 67]) [] SH0 RF0 (gup (gup (gup (gup (gup (gup (gup (gup (gup (gup (gup (gup (gup (gup (gup (gup (gup (gup (gup (gup (gup (gup (gup (gup (gup (gup (gup (gup (gup (gup (gup (gup (gup (gup (gup (gup I 68 3 (((I 68 3) * 1103515245) + 12345)) 68 0 1) 68 2 ((I 68 2) + 0)) 68 3 (((((I 68 3) * 1103515245) + 12345) * 1103515245) + 12345)) 68 0 2) 68 2 (((I 68 2) + 0) + 0)) 68 3 (((((((I 68 3) * 1103515245) + 12345) * 1103515245) + 12345) * 1103515245) + 12345)) 68 0 3) 68 2 ((((I 68 2) + 0) + 0) + 0)) 68 3 (((((((((I 68 3) * 1103515245) + 12345) * 1103515245) + 12345) * 1103515245) + 12345) * 1103515245) + 12345)) 68 0 4) 68 2 (((((I 68 2) + 0) + 0) + 0) + 0)) 68 3 (((((((((((I 68 3) * 1103515245) + 12345) * 1103515245) + 12345) * 1103515245) + 12345) * 1103515245) + 12345) * 1103515245) + 12345)) 68 0 5) 68 2 ((((((I 68 2) + 0) + 0) + 0) + 0) + 0)) 68 3 (((((((((((((I 68 3) * 1103515245) + 12345) * 1103515245) + 12345) * 1103515245) + 12345) * 1103515245) + 12345) * 1103515245) + 12345) * 1103515245) + 12345)) 68 0 6) 68 2 (((((((I 68 2) + 0) + 0) + 0) + 0) + 0) + 0)) 68 3 (((((((((((((((I 68 3) * 1103515245) + 12345) * 1103515245) + 12345) * 1103515245) + 12345) * 1103515245) + 12345) * 1103515245) + 12345) * 1103515245) + 12345) * 1103515245) + 12345)) 68 0 7) 68 2 ((((((((I 68 2) + 0) + 0) + 0) + 0) + 0) + 0) + 0)) 68 3 (((((((((((((((((I 68 3) * 1103515245) + 12345) * 1103515245) + 12345) * 1103515245) + 12345) * 1103515245) + 12345) * 1103515245) + 12345) * 1103515245) + 12345) * 1103515245) + 12345) * 1103515245) + 12345)) 68 0 8) 68 2 (((((((((I 68 2) + 0) + 0) + 0) + 0) + 0) + 0) + 0) + 0)) 68 3 (((((((((((((((((((I 68 3) * 1103515245) + 12345) * 1103515245) + 12345) * 1103515245) + 12345) * 1103515245) + 12345) * 1103515245) + 12345) * 1103515245) + 12345) * 1103515245) + 12345) * 1103515245) + 12345) * 1103515245) + 12345)) 68 0 9) 68 2 ((((((((((I 68 2) + 0) + 0) + 0) + 0) + 0) + 0) + 0) + 0) + 0)) 68 3 (((((((((((((((((((((I 68 3) * 1103515245) + 12345) * 1103515245) + 12345) * 1103515245) + 12345) * 1103515245) + 12345) * 1103515245) + 12345) * 1103515245) + 12345) * 1103515245) + 12345) * 1103515245) + 12345) * 1103515245) + 12345) * 1103515245) + 12345)) 68 0 10) 68 2 (((((((((((I 68 2) + 0) + 0) + 0) + 0) + 0) + 0) + 0) + 0) + 0) + 0)) 68 3 (((((((((((((((((((((((I 68 3) * 1103515245) + 12345) * 1103515245) + 12345) * 1103515245) + 12345) * 1103515245) + 12345) * 1103515245) + 12345) * 1103515245) + 12345) * 1103515245) + 12345) * 1103515245) + 12345) * 1103515245) + 12345) * 1103515245) + 12345) * 1103515245) + 12345)) 68 0 11) 68 2 ((((((((((((I 68 2) + 0) + 0) + 0) + 0) + 0) + 0) + 0) + 0) + 0) + 0) + 0)) 68 3 (((((((((((((((((((((((((I 68 3) * 1103515245) + 12345) * 1103515245) + 12345) * 1103515245) + 12345) * 1103515245) + 12345) * 1103515245) + 12345) * 1103515245) + 12345) * 1103515245) + 12345) * 1103515245) + 12345) * 1103515245) + 12345) * 1103515245) + 12345) * 1103515245) + 12345) * 1103515245) + 12345)) 68 0 12) 68 2 (((((((((((((I 68 2) + 0) + 0) + 0) + 0) + 0) + 0) + 0) + 0) + 0) + 0) + 0) + 0)) (fun r h => r = some (.int 1) ∧ h = (SH0, RF0, (gup (gup (gup (gup (gup (gup (gup (gup (gup (gup (gup (gup (gup (gup (gup (gup (gup (gup (gup (gup (gup (gup (gup (gup (gup (gup (gup (gup (gup (gup (gup (gup (gup (gup (gup (gup I 68 3 (((I 68 3) * 1103515245) + 12345)) 68 0 1) 68 2 ((I 68 2) + 0)) 68 3 (((((I 68 3) * 1103515245) + 12345) * 1103515245) + 12345)) 68 0 2) 68 2 (((I 68 2) + 0) + 0)) 68 3 (((((((I 68 3) * 1103515245) + 12345) * 1103515245) + 12345) * 1103515245) + 12345)) 68 0 3) 68 2 ((((I 68 2) + 0) + 0) + 0)) 68 3 (((((((((I 68 3) * 1103515245) + 12345) * 1103515245) + 12345) * 1103515245) + 12345) * 1103515245) + 12345)) 68 0 4) 68 2 (((((I 68 2) + 0) + 0) + 0) + 0)) 68 3 (((((((((((I 68 3) * 1103515245) + 12345) * 1103515245) + 12345) * 1103515245) + 12345) * 1103515245) + 12345) * 1103515245) + 12345)) 68 0 5) 68 2 ((((((I 68 2) + 0) + 0) + 0) + 0) + 0)) 68 3 (((((((((((((I 68 3) * 1103515245) + 12345) * 1103515245) + 12345) * 1103515245) + 12345) * 1103515245) + 12345) * 1103515245) + 12345) * 1103515245) + 12345)) 68 0 6) 68 2 (((((((I 68 2) + 0) + 0) + 0) + 0) + 0) + 0)) 68 3 (((((((((((((((I 68 3) * 1103515245) + 12345) * 1103515245) + 12345) * 1103515245) + 12345) * 1103515245) + 12345) * 1103515245) + 12345) * 1103515245) + 12345) * 1103515245) + 12345)) 68 0 7) 68 2 ((((((((I 68 2) + 0) + 0) + 0) + 0) + 0) + 0) + 0)) 68 3 (((((((((((((((((I 68 3) * 1103515245) + 12345) * 1103515245) + 12345) * 1103515245) + 12345) * 1103515245) + 12345) * 1103515245) + 12345) * 1103515245) + 12345) * 1103515245) + 12345) * 1103515245) + 12345)) 68 0 8) 68 2 (((((((((I 68 2) + 0) + 0) + 0) + 0) + 0) + 0) + 0) + 0)) 68 3 (((((((((((((((((((I 68 3) * 1103515245) + 12345) * 1103515245) + 12345) * 1103515245) + 12345) * 1103515245) + 12345) * 1103515245) + 12345) * 1103515245) + 12345) * 1103515245) + 12345) * 1103515245) + 12345) * 1103515245) + 12345)) 68 0 9) 68 2 ((((((((((I 68 2) + 0) + 0) + 0) + 0) + 0) + 0) + 0) + 0) + 0)) 68 3 (((((((((((((((((((((I 68 3) * 1103515245) + 12345) * 1103515245) + 12345) * 1103515245) + 12345) * 1103515245) + 12345) * 1103515245) + 12345) * 1103515245) + 12345) * 1103515245) + 12345) * 1103515245) + 12345) * 1103515245) + 12345) * 1103515245) + 12345)) 68 0 10) 68 2 (((((((((((I 68 2) + 0) + 0) + 0) + 0) + 0) + 0) + 0) + 0) + 0) + 0)) 68 3 (((((((((((((((((((((((I 68 3) * 1103515245) + 12345) * 1103515245) + 12345) * 1103515245) + 12345) * 1103515245) + 12345) * 1103515245) + 12345) * 1103515245) + 12345) * 1103515245) + 12345) * 1103515245) + 12345) * 1103515245) + 12345) * 1103515245) + 12345) * 1103515245) + 12345)) 68 0 11) 68 2 ((((((((((((I 68 2) + 0) + 0) + 0) + 0) + 0) + 0) + 0) + 0) + 0) + 0) + 0)) 68 3 (((((((((((((((((((((((((I 68 3) * 1103515245) + 12345) * 1103515245) + 12345) * 1103515245) + 12345) * 1103515245) + 12345) * 1103515245) + 12345) * 1103515245) + 12345) * 1103515245) + 12345) * 1103515245) + 12345) * 1103515245) + 12345) * 1103515245) + 12345) * 1103515245) + 12345) * 1103515245) + 12345)) 68 0 12) 68 2 (((((((((((((I 68 2) + 0) + 0) + 0) + 0) + 0) + 0) + 0) + 0) + 0) + 0) + 0) + 0)))) := by
  refine G_aload_n (pc := 0) rfl dX12_isOver_0 ?_
  refine G_getR (pc := 1) (r := 68) (ci := 12) (j := 0) rfl lk_RX12_9 rfl rfl rfl dX12_isOver_1 ?_
  refine G_iconst (pc := 4) (v := 0) (by decide) dX12_isOver_4 ?_
  refine G_iald (pc := 5) (jj := 0) (v := 12) (by decide) rfl rfl (by unfold vp_in; decide) dX12_isOver_5 ?_
  refine G_aload_n (pc := 6) rfl dX12_isOver_6 ?_
  refine G_getR (pc := 7) (r := 68) (ci := 12) (j := 0) rfl lk_RX12_9 rfl rfl rfl dX12_isOver_7 ?_
  refine G_iconst (pc := 10) (v := 1) (by decide) dX12_isOver_10 ?_
  refine G_iald (pc := 11) (jj := 1) (v := 12) (by decide) (hI.2.1) rfl (by unfold vp_in; decide) dX12_isOver_11 ?_
  refine G_icmp_lt (pc := 12) (tgt := 19) (by decide) dX12_isOver_12 (fun z => absurd z (by decide)) (fun _ => ?_)
  refine G_iconst (pc := 15) (v := 1) (by decide) dX12_isOver_15 ?_
  refine G_goto (pc := 16) (tgt := 20) (by decide) dX12_isOver_16 ?_
  exact G_zret (pc := 20) (Nat.le_of_ble_eq_true rfl) (Nat.le_of_ble_eq_true rfl) rfl (by decide) dX12_isOver_20 ⟨rfl, rfl⟩
set_option maxRecDepth 100000 in
set_option maxHeartbeats 4000000 in
theorem lm_times0  (d : Nat) (n : Int32) (hn : n.toInt ≤ 40) (f : Nat) : ∀ (i : Int32) (I : gI), (I 68 0 = 0 ∧ I 68 1 = 12 ∧ I 68 4 = 0 ∧ I 70 0 = 0 ∧ I 70 1 = 12 ∧ I 70 4 = 0 ∧ True) → 0 ≤ i.toInt → i.toInt ≤ n.toInt → n.toInt - i.toInt < f → G (d + 2) mX12_times 0 0 0 0 32 [some (.ref 67), some (.int n), some (.int 0), some (.int i), some (.int i), none, none] [] SH0 RF0 I (fun r _ => r = some (.int (n))) := by
  induction f with
  | zero => intro i I hI h0 h1 hf; exfalso; omega
  | succ f ih =>
    intro i I hI h0 h1 hf
    refine G_iload (pc := 32) rfl dX12_times_32 ?_
    refine G_iload_n (pc := 34) rfl dX12_times_34 ?_
    refine G_icmp_ge (pc := 35) (tgt := 100) (by decide) dX12_times_35 (fun c421 => ?_) (fun c421 => ?_)
    · refine G_aload_n (pc := 100) rfl dX12_times_100 ?_
      refine G_callV (pc := 101) (mc1 := 0) (ms1 := 0) (ci := 12) (mj := mX12_layBack) (vs := []) dX12_times_101 rfl rfl cm_X12_layBack wh_57 wh_59 wh_60 rfl (Nat.le_of_ble_eq_true rfl) (Nat.le_of_ble_eq_true rfl) (Nat.le_of_ble_eq_true rfl) (Nat.le_of_ble_eq_true rfl) (layBack_s (d + 1) I) ?_
      rintro _ _ ⟨rfl, rfl⟩
      dsimp only [Option.toList, List.cons_append, List.nil_append]
      refine G_iload_n (pc := 104) rfl dX12_times_104 ?_
      exact G_iret (pc := 105) (Nat.le_of_ble_eq_true rfl) (Nat.le_of_ble_eq_true rfl) rfl dX12_times_105 (by rw [show i = n from Int32.toInt_inj.mp (by have := Int32.le_iff_toInt_le.mp c421; omega)])
    · refine G_iconst (pc := 38) (v := 0) (by decide) dX12_times_38 ?_
      refine G_istore (pc := 39) (L1 := [some (.ref 67), some (.int n), some (.int 0), some (.int i), some (.int i), some (.int 0), none]) rfl rfl (by decide) dX12_times_39 ?_
      refine G_aload_n (pc := 41) rfl dX12_times_41 ?_
      refine G_callV (pc := 42) (mc1 := 0) (ms1 := 0) (ci := 12) (mj := mX12_isOver) (vs := []) dX12_times_42 rfl rfl cm_X12_isOver wh_22 wh_24 wh_25 rfl (Nat.le_of_ble_eq_true rfl) (Nat.le_of_ble_eq_true rfl) (Nat.le_of_ble_eq_true rfl) (Nat.le_of_ble_eq_true rfl) (s10324_X12_isOver  (d + 1) _ hI ) ?_
      rintro _ _ ⟨rfl, rfl⟩
      dsimp only [Option.toList, List.cons_append, List.nil_append]
      refine G_if_ne (pc := 45) (tgt := 60) (by decide) dX12_times_45 (fun z => absurd (by decide) z) (fun _ => ?_)
      refine G_iload (pc := 48) rfl dX12_times_48 ?_
      refine G_aload_n (pc := 50) rfl dX12_times_50 ?_
      refine G_callV (pc := 51) (mc1 := 0) (ms1 := 0) (ci := 12) (mj := mX12_byLot) (vs := []) dX12_times_51 rfl rfl cm_X12_byLot wh_84 wh_86 wh_87 rfl (Nat.le_of_ble_eq_true rfl) (Nat.le_of_ble_eq_true rfl) (Nat.le_of_ble_eq_true rfl) (Nat.le_of_ble_eq_true rfl) (s10325_X12_byLot  d _ hI ) ?_
      rintro _ _ ⟨rfl, rfl⟩
      dsimp only [Option.toList, List.cons_append, List.nil_append]
      refine G_iadd (pc := 54) (z := 0) (by decide) dX12_times_54 ?_
      refine G_istore (pc := 55) (L1 := [some (.ref 67), some (.int n), some (.int 0), some (.int i), some (.int i), some (.int 0), none]) rfl rfl (by decide) dX12_times_55 ?_
      refine G_goto (pc := 57) (tgt := 41) (by decide) dX12_times_57 ?_
      refine G_aload_n (pc := 41) rfl dX12_times_41 ?_
      refine G_callV (pc := 42) (mc1 := 0) (ms1 := 0) (ci := 12) (mj := mX12_isOver) (vs := []) dX12_times_42 rfl rfl cm_X12_isOver wh_22 wh_24 wh_25 rfl (Nat.le_of_ble_eq_true rfl) (Nat.le_of_ble_eq_true rfl) (Nat.le_of_ble_eq_true rfl) (Nat.le_of_ble_eq_true rfl) (s10327_X12_isOver  (d + 1) _ hI ) ?_
      rintro _ _ ⟨rfl, rfl⟩
      dsimp only [Option.toList, List.cons_append, List.nil_append]
      refine G_if_ne (pc := 45) (tgt := 60) (by decide) dX12_times_45 (fun z => absurd (by decide) z) (fun _ => ?_)
      refine G_iload (pc := 48) rfl dX12_times_48 ?_
      refine G_aload_n (pc := 50) rfl dX12_times_50 ?_
      refine G_callV (pc := 51) (mc1 := 0) (ms1 := 0) (ci := 12) (mj := mX12_byLot) (vs := []) dX12_times_51 rfl rfl cm_X12_byLot wh_84 wh_86 wh_87 rfl (Nat.le_of_ble_eq_true rfl) (Nat.le_of_ble_eq_true rfl) (Nat.le_of_ble_eq_true rfl) (Nat.le_of_ble_eq_true rfl) (s10328_X12_byLot  d _ hI ) ?_
      rintro _ _ ⟨rfl, rfl⟩
      dsimp only [Option.toList, List.cons_append, List.nil_append]
      refine G_iadd (pc := 54) (z := 0) (by decide) dX12_times_54 ?_
      refine G_istore (pc := 55) (L1 := [some (.ref 67), some (.int n), some (.int 0), some (.int i), some (.int i), some (.int 0), none]) rfl rfl (by decide) dX12_times_55 ?_
      refine G_goto (pc := 57) (tgt := 41) (by decide) dX12_times_57 ?_
      refine G_aload_n (pc := 41) rfl dX12_times_41 ?_
      refine G_callV (pc := 42) (mc1 := 0) (ms1 := 0) (ci := 12) (mj := mX12_isOver) (vs := []) dX12_times_42 rfl rfl cm_X12_isOver wh_22 wh_24 wh_25 rfl (Nat.le_of_ble_eq_true rfl) (Nat.le_of_ble_eq_true rfl) (Nat.le_of_ble_eq_true rfl) (Nat.le_of_ble_eq_true rfl) (s10330_X12_isOver  (d + 1) _ hI ) ?_
      rintro _ _ ⟨rfl, rfl⟩
      dsimp only [Option.toList, List.cons_append, List.nil_append]
      refine G_if_ne (pc := 45) (tgt := 60) (by decide) dX12_times_45 (fun z => absurd (by decide) z) (fun _ => ?_)
      refine G_iload (pc := 48) rfl dX12_times_48 ?_
      refine G_aload_n (pc := 50) rfl dX12_times_50 ?_
      refine G_callV (pc := 51) (mc1 := 0) (ms1 := 0) (ci := 12) (mj := mX12_byLot) (vs := []) dX12_times_51 rfl rfl cm_X12_byLot wh_84 wh_86 wh_87 rfl (Nat.le_of_ble_eq_true rfl) (Nat.le_of_ble_eq_true rfl) (Nat.le_of_ble_eq_true rfl) (Nat.le_of_ble_eq_true rfl) (s10331_X12_byLot  d _ hI ) ?_
      rintro _ _ ⟨rfl, rfl⟩
      dsimp only [Option.toList, List.cons_append, List.nil_append]
      refine G_iadd (pc := 54) (z := 0) (by decide) dX12_times_54 ?_
      refine G_istore (pc := 55) (L1 := [some (.ref 67), some (.int n), some (.int 0), some (.int i), some (.int i), some (.int 0), none]) rfl rfl (by decide) dX12_times_55 ?_
      refine G_goto (pc := 57) (tgt := 41) (by decide) dX12_times_57 ?_
      refine G_aload_n (pc := 41) rfl dX12_times_41 ?_
      refine G_callV (pc := 42) (mc1 := 0) (ms1 := 0) (ci := 12) (mj := mX12_isOver) (vs := []) dX12_times_42 rfl rfl cm_X12_isOver wh_22 wh_24 wh_25 rfl (Nat.le_of_ble_eq_true rfl) (Nat.le_of_ble_eq_true rfl) (Nat.le_of_ble_eq_true rfl) (Nat.le_of_ble_eq_true rfl) (s10333_X12_isOver  (d + 1) _ hI ) ?_
      rintro _ _ ⟨rfl, rfl⟩
      dsimp only [Option.toList, List.cons_append, List.nil_append]
      refine G_if_ne (pc := 45) (tgt := 60) (by decide) dX12_times_45 (fun z => absurd (by decide) z) (fun _ => ?_)
      refine G_iload (pc := 48) rfl dX12_times_48 ?_
      refine G_aload_n (pc := 50) rfl dX12_times_50 ?_
      refine G_callV (pc := 51) (mc1 := 0) (ms1 := 0) (ci := 12) (mj := mX12_byLot) (vs := []) dX12_times_51 rfl rfl cm_X12_byLot wh_84 wh_86 wh_87 rfl (Nat.le_of_ble_eq_true rfl) (Nat.le_of_ble_eq_true rfl) (Nat.le_of_ble_eq_true rfl) (Nat.le_of_ble_eq_true rfl) (s10334_X12_byLot  d _ hI ) ?_
      rintro _ _ ⟨rfl, rfl⟩
      dsimp only [Option.toList, List.cons_append, List.nil_append]
      refine G_iadd (pc := 54) (z := 0) (by decide) dX12_times_54 ?_
      refine G_istore (pc := 55) (L1 := [some (.ref 67), some (.int n), some (.int 0), some (.int i), some (.int i), some (.int 0), none]) rfl rfl (by decide) dX12_times_55 ?_
      refine G_goto (pc := 57) (tgt := 41) (by decide) dX12_times_57 ?_
      refine G_aload_n (pc := 41) rfl dX12_times_41 ?_
      refine G_callV (pc := 42) (mc1 := 0) (ms1 := 0) (ci := 12) (mj := mX12_isOver) (vs := []) dX12_times_42 rfl rfl cm_X12_isOver wh_22 wh_24 wh_25 rfl (Nat.le_of_ble_eq_true rfl) (Nat.le_of_ble_eq_true rfl) (Nat.le_of_ble_eq_true rfl) (Nat.le_of_ble_eq_true rfl) (s10336_X12_isOver  (d + 1) _ hI ) ?_
      rintro _ _ ⟨rfl, rfl⟩
      dsimp only [Option.toList, List.cons_append, List.nil_append]
      refine G_if_ne (pc := 45) (tgt := 60) (by decide) dX12_times_45 (fun z => absurd (by decide) z) (fun _ => ?_)
      refine G_iload (pc := 48) rfl dX12_times_48 ?_
      refine G_aload_n (pc := 50) rfl dX12_times_50 ?_
      refine G_callV (pc := 51) (mc1 := 0) (ms1 := 0) (ci := 12) (mj := mX12_byLot) (vs := []) dX12_times_51 rfl rfl cm_X12_byLot wh_84 wh_86 wh_87 rfl (Nat.le_of_ble_eq_true rfl) (Nat.le_of_ble_eq_true rfl) (Nat.le_of_ble_eq_true rfl) (Nat.le_of_ble_eq_true rfl) (s10337_X12_byLot  d _ hI ) ?_
      rintro _ _ ⟨rfl, rfl⟩
      dsimp only [Option.toList, List.cons_append, List.nil_append]
      refine G_iadd (pc := 54) (z := 0) (by decide) dX12_times_54 ?_
      refine G_istore (pc := 55) (L1 := [some (.ref 67), some (.int n), some (.int 0), some (.int i), some (.int i), some (.int 0), none]) rfl rfl (by decide) dX12_times_55 ?_
      refine G_goto (pc := 57) (tgt := 41) (by decide) dX12_times_57 ?_
      refine G_aload_n (pc := 41) rfl dX12_times_41 ?_
      refine G_callV (pc := 42) (mc1 := 0) (ms1 := 0) (ci := 12) (mj := mX12_isOver) (vs := []) dX12_times_42 rfl rfl cm_X12_isOver wh_22 wh_24 wh_25 rfl (Nat.le_of_ble_eq_true rfl) (Nat.le_of_ble_eq_true rfl) (Nat.le_of_ble_eq_true rfl) (Nat.le_of_ble_eq_true rfl) (s10339_X12_isOver  (d + 1) _ hI ) ?_
      rintro _ _ ⟨rfl, rfl⟩
      dsimp only [Option.toList, List.cons_append, List.nil_append]
      refine G_if_ne (pc := 45) (tgt := 60) (by decide) dX12_times_45 (fun z => absurd (by decide) z) (fun _ => ?_)
      refine G_iload (pc := 48) rfl dX12_times_48 ?_
      refine G_aload_n (pc := 50) rfl dX12_times_50 ?_
      refine G_callV (pc := 51) (mc1 := 0) (ms1 := 0) (ci := 12) (mj := mX12_byLot) (vs := []) dX12_times_51 rfl rfl cm_X12_byLot wh_84 wh_86 wh_87 rfl (Nat.le_of_ble_eq_true rfl) (Nat.le_of_ble_eq_true rfl) (Nat.le_of_ble_eq_true rfl) (Nat.le_of_ble_eq_true rfl) (s10340_X12_byLot  d _ hI ) ?_
      rintro _ _ ⟨rfl, rfl⟩
      dsimp only [Option.toList, List.cons_append, List.nil_append]
      refine G_iadd (pc := 54) (z := 0) (by decide) dX12_times_54 ?_
      refine G_istore (pc := 55) (L1 := [some (.ref 67), some (.int n), some (.int 0), some (.int i), some (.int i), some (.int 0), none]) rfl rfl (by decide) dX12_times_55 ?_
      refine G_goto (pc := 57) (tgt := 41) (by decide) dX12_times_57 ?_
      refine G_aload_n (pc := 41) rfl dX12_times_41 ?_
      refine G_callV (pc := 42) (mc1 := 0) (ms1 := 0) (ci := 12) (mj := mX12_isOver) (vs := []) dX12_times_42 rfl rfl cm_X12_isOver wh_22 wh_24 wh_25 rfl (Nat.le_of_ble_eq_true rfl) (Nat.le_of_ble_eq_true rfl) (Nat.le_of_ble_eq_true rfl) (Nat.le_of_ble_eq_true rfl) (s10342_X12_isOver  (d + 1) _ hI ) ?_
      rintro _ _ ⟨rfl, rfl⟩
      dsimp only [Option.toList, List.cons_append, List.nil_append]
      refine G_if_ne (pc := 45) (tgt := 60) (by decide) dX12_times_45 (fun z => absurd (by decide) z) (fun _ => ?_)
      refine G_iload (pc := 48) rfl dX12_times_48 ?_
      refine G_aload_n (pc := 50) rfl dX12_times_50 ?_
      refine G_callV (pc := 51) (mc1 := 0) (ms1 := 0) (ci := 12) (mj := mX12_byLot) (vs := []) dX12_times_51 rfl rfl cm_X12_byLot wh_84 wh_86 wh_87 rfl (Nat.le_of_ble_eq_true rfl) (Nat.le_of_ble_eq_true rfl) (Nat.le_of_ble_eq_true rfl) (Nat.le_of_ble_eq_true rfl) (s10343_X12_byLot  d _ hI ) ?_
      rintro _ _ ⟨rfl, rfl⟩
      dsimp only [Option.toList, List.cons_append, List.nil_append]
      refine G_iadd (pc := 54) (z := 0) (by decide) dX12_times_54 ?_
      refine G_istore (pc := 55) (L1 := [some (.ref 67), some (.int n), some (.int 0), some (.int i), some (.int i), some (.int 0), none]) rfl rfl (by decide) dX12_times_55 ?_
      refine G_goto (pc := 57) (tgt := 41) (by decide) dX12_times_57 ?_
      refine G_aload_n (pc := 41) rfl dX12_times_41 ?_
      refine G_callV (pc := 42) (mc1 := 0) (ms1 := 0) (ci := 12) (mj := mX12_isOver) (vs := []) dX12_times_42 rfl rfl cm_X12_isOver wh_22 wh_24 wh_25 rfl (Nat.le_of_ble_eq_true rfl) (Nat.le_of_ble_eq_true rfl) (Nat.le_of_ble_eq_true rfl) (Nat.le_of_ble_eq_true rfl) (s10345_X12_isOver  (d + 1) _ hI ) ?_
      rintro _ _ ⟨rfl, rfl⟩
      dsimp only [Option.toList, List.cons_append, List.nil_append]
      refine G_if_ne (pc := 45) (tgt := 60) (by decide) dX12_times_45 (fun z => absurd (by decide) z) (fun _ => ?_)
      refine G_iload (pc := 48) rfl dX12_times_48 ?_
      refine G_aload_n (pc := 50) rfl dX12_times_50 ?_
      refine G_callV (pc := 51) (mc1 := 0) (ms1 := 0) (ci := 12) (mj := mX12_byLot) (vs := []) dX12_times_51 rfl rfl cm_X12_byLot wh_84 wh_86 wh_87 rfl (Nat.le_of_ble_eq_true rfl) (Nat.le_of_ble_eq_true rfl) (Nat.le_of_ble_eq_true rfl) (Nat.le_of_ble_eq_true rfl) (s10346_X12_byLot  d _ hI ) ?_
      rintro _ _ ⟨rfl, rfl⟩
      dsimp only [Option.toList, List.cons_append, List.nil_append]
      refine G_iadd (pc := 54) (z := 0) (by decide) dX12_times_54 ?_
      refine G_istore (pc := 55) (L1 := [some (.ref 67), some (.int n), some (.int 0), some (.int i), some (.int i), some (.int 0), none]) rfl rfl (by decide) dX12_times_55 ?_
      refine G_goto (pc := 57) (tgt := 41) (by decide) dX12_times_57 ?_
      refine G_aload_n (pc := 41) rfl dX12_times_41 ?_
      refine G_callV (pc := 42) (mc1 := 0) (ms1 := 0) (ci := 12) (mj := mX12_isOver) (vs := []) dX12_times_42 rfl rfl cm_X12_isOver wh_22 wh_24 wh_25 rfl (Nat.le_of_ble_eq_true rfl) (Nat.le_of_ble_eq_true rfl) (Nat.le_of_ble_eq_true rfl) (Nat.le_of_ble_eq_true rfl) (s10348_X12_isOver  (d + 1) _ hI ) ?_
      rintro _ _ ⟨rfl, rfl⟩
      dsimp only [Option.toList, List.cons_append, List.nil_append]
      refine G_if_ne (pc := 45) (tgt := 60) (by decide) dX12_times_45 (fun z => absurd (by decide) z) (fun _ => ?_)
      refine G_iload (pc := 48) rfl dX12_times_48 ?_
      refine G_aload_n (pc := 50) rfl dX12_times_50 ?_
      refine G_callV (pc := 51) (mc1 := 0) (ms1 := 0) (ci := 12) (mj := mX12_byLot) (vs := []) dX12_times_51 rfl rfl cm_X12_byLot wh_84 wh_86 wh_87 rfl (Nat.le_of_ble_eq_true rfl) (Nat.le_of_ble_eq_true rfl) (Nat.le_of_ble_eq_true rfl) (Nat.le_of_ble_eq_true rfl) (s10349_X12_byLot  d _ hI ) ?_
      rintro _ _ ⟨rfl, rfl⟩
      dsimp only [Option.toList, List.cons_append, List.nil_append]
      refine G_iadd (pc := 54) (z := 0) (by decide) dX12_times_54 ?_
      refine G_istore (pc := 55) (L1 := [some (.ref 67), some (.int n), some (.int 0), some (.int i), some (.int i), some (.int 0), none]) rfl rfl (by decide) dX12_times_55 ?_
      refine G_goto (pc := 57) (tgt := 41) (by decide) dX12_times_57 ?_
      refine G_aload_n (pc := 41) rfl dX12_times_41 ?_
      refine G_callV (pc := 42) (mc1 := 0) (ms1 := 0) (ci := 12) (mj := mX12_isOver) (vs := []) dX12_times_42 rfl rfl cm_X12_isOver wh_22 wh_24 wh_25 rfl (Nat.le_of_ble_eq_true rfl) (Nat.le_of_ble_eq_true rfl) (Nat.le_of_ble_eq_true rfl) (Nat.le_of_ble_eq_true rfl) (s10351_X12_isOver  (d + 1) _ hI ) ?_
      rintro _ _ ⟨rfl, rfl⟩
      dsimp only [Option.toList, List.cons_append, List.nil_append]
      refine G_if_ne (pc := 45) (tgt := 60) (by decide) dX12_times_45 (fun z => absurd (by decide) z) (fun _ => ?_)
      refine G_iload (pc := 48) rfl dX12_times_48 ?_
      refine G_aload_n (pc := 50) rfl dX12_times_50 ?_
      refine G_callV (pc := 51) (mc1 := 0) (ms1 := 0) (ci := 12) (mj := mX12_byLot) (vs := []) dX12_times_51 rfl rfl cm_X12_byLot wh_84 wh_86 wh_87 rfl (Nat.le_of_ble_eq_true rfl) (Nat.le_of_ble_eq_true rfl) (Nat.le_of_ble_eq_true rfl) (Nat.le_of_ble_eq_true rfl) (s10352_X12_byLot  d _ hI ) ?_
      rintro _ _ ⟨rfl, rfl⟩
      dsimp only [Option.toList, List.cons_append, List.nil_append]
      refine G_iadd (pc := 54) (z := 0) (by decide) dX12_times_54 ?_
      refine G_istore (pc := 55) (L1 := [some (.ref 67), some (.int n), some (.int 0), some (.int i), some (.int i), some (.int 0), none]) rfl rfl (by decide) dX12_times_55 ?_
      refine G_goto (pc := 57) (tgt := 41) (by decide) dX12_times_57 ?_
      refine G_aload_n (pc := 41) rfl dX12_times_41 ?_
      refine G_callV (pc := 42) (mc1 := 0) (ms1 := 0) (ci := 12) (mj := mX12_isOver) (vs := []) dX12_times_42 rfl rfl cm_X12_isOver wh_22 wh_24 wh_25 rfl (Nat.le_of_ble_eq_true rfl) (Nat.le_of_ble_eq_true rfl) (Nat.le_of_ble_eq_true rfl) (Nat.le_of_ble_eq_true rfl) (s10354_X12_isOver  (d + 1) _ hI ) ?_
      rintro _ _ ⟨rfl, rfl⟩
      dsimp only [Option.toList, List.cons_append, List.nil_append]
      refine G_if_ne (pc := 45) (tgt := 60) (by decide) dX12_times_45 (fun z => absurd (by decide) z) (fun _ => ?_)
      refine G_iload (pc := 48) rfl dX12_times_48 ?_
      refine G_aload_n (pc := 50) rfl dX12_times_50 ?_
      refine G_callV (pc := 51) (mc1 := 0) (ms1 := 0) (ci := 12) (mj := mX12_byLot) (vs := []) dX12_times_51 rfl rfl cm_X12_byLot wh_84 wh_86 wh_87 rfl (Nat.le_of_ble_eq_true rfl) (Nat.le_of_ble_eq_true rfl) (Nat.le_of_ble_eq_true rfl) (Nat.le_of_ble_eq_true rfl) (s10355_X12_byLot  d _ hI ) ?_
      rintro _ _ ⟨rfl, rfl⟩
      dsimp only [Option.toList, List.cons_append, List.nil_append]
      refine G_iadd (pc := 54) (z := 0) (by decide) dX12_times_54 ?_
      refine G_istore (pc := 55) (L1 := [some (.ref 67), some (.int n), some (.int 0), some (.int i), some (.int i), some (.int 0), none]) rfl rfl (by decide) dX12_times_55 ?_
      refine G_goto (pc := 57) (tgt := 41) (by decide) dX12_times_57 ?_
      refine G_aload_n (pc := 41) rfl dX12_times_41 ?_
      refine G_callV (pc := 42) (mc1 := 0) (ms1 := 0) (ci := 12) (mj := mX12_isOver) (vs := []) dX12_times_42 rfl rfl cm_X12_isOver wh_22 wh_24 wh_25 rfl (Nat.le_of_ble_eq_true rfl) (Nat.le_of_ble_eq_true rfl) (Nat.le_of_ble_eq_true rfl) (Nat.le_of_ble_eq_true rfl) (s10357_X12_isOver  (d + 1) _ hI ) ?_
      rintro _ _ ⟨rfl, rfl⟩
      dsimp only [Option.toList, List.cons_append, List.nil_append]
      refine G_if_ne (pc := 45) (tgt := 60) (by decide) dX12_times_45 (fun z => absurd (by decide) z) (fun _ => ?_)
      refine G_iload (pc := 48) rfl dX12_times_48 ?_
      refine G_aload_n (pc := 50) rfl dX12_times_50 ?_
      refine G_callV (pc := 51) (mc1 := 0) (ms1 := 0) (ci := 12) (mj := mX12_byLot) (vs := []) dX12_times_51 rfl rfl cm_X12_byLot wh_84 wh_86 wh_87 rfl (Nat.le_of_ble_eq_true rfl) (Nat.le_of_ble_eq_true rfl) (Nat.le_of_ble_eq_true rfl) (Nat.le_of_ble_eq_true rfl) (s10358_X12_byLot  d _ hI ) ?_
      rintro _ _ ⟨rfl, rfl⟩
      dsimp only [Option.toList, List.cons_append, List.nil_append]
      refine G_iadd (pc := 54) (z := 0) (by decide) dX12_times_54 ?_
      refine G_istore (pc := 55) (L1 := [some (.ref 67), some (.int n), some (.int 0), some (.int i), some (.int i), some (.int 0), none]) rfl rfl (by decide) dX12_times_55 ?_
      refine G_goto (pc := 57) (tgt := 41) (by decide) dX12_times_57 ?_
      refine G_aload_n (pc := 41) rfl dX12_times_41 ?_
      refine G_callV (pc := 42) (mc1 := 0) (ms1 := 0) (ci := 12) (mj := mX12_isOver) (vs := []) dX12_times_42 rfl rfl cm_X12_isOver wh_22 wh_24 wh_25 rfl (Nat.le_of_ble_eq_true rfl) (Nat.le_of_ble_eq_true rfl) (Nat.le_of_ble_eq_true rfl) (Nat.le_of_ble_eq_true rfl) (s10360_X12_isOver  (d + 1) _ hI ) ?_
      rintro _ _ ⟨rfl, rfl⟩
      dsimp only [Option.toList, List.cons_append, List.nil_append]
      refine G_if_ne (pc := 45) (tgt := 60) (by decide) dX12_times_45 (fun _ => ?_) (fun z => absurd z (by decide))
      refine G_iload_n (pc := 60) rfl dX12_times_60 ?_
      refine G_iload (pc := 61) rfl dX12_times_61 ?_
      refine G_iload_n (pc := 63) rfl dX12_times_63 ?_
      refine G_icmp_lt (pc := 64) (tgt := 71) (by decide) dX12_times_64 (fun z => absurd z (by decide)) (fun _ => ?_)
      refine G_iconst (pc := 67) (v := 1) (by decide) dX12_times_67 ?_
      refine G_goto (pc := 68) (tgt := 72) (by decide) dX12_times_68 ?_
      refine G_iadd (pc := 72) rfl dX12_times_72 ?_
      refine G_istore_n (pc := 73) (L1 := [some (.ref 67), some (.int n), some (.int 0), some (.int (i + 1)), some (.int i), some (.int 0), none]) rfl rfl (by decide) dX12_times_73 ?_
      refine G_aload_n (pc := 74) rfl dX12_times_74 ?_
      refine G_getR (pc := 75) (r := 68) (ci := 12) (j := 0) rfl lk_RX12_9 rfl rfl rfl dX12_times_75 ?_
      refine G_iconst (pc := 78) (v := 3) (by decide) dX12_times_78 ?_
      refine G_iald (pc := 79) (jj := 3) (v := (((((((((((((((((((((((((I 68 3) * 1103515245) + 12345) * 1103515245) + 12345) * 1103515245) + 12345) * 1103515245) + 12345) * 1103515245) + 12345) * 1103515245) + 12345) * 1103515245) + 12345) * 1103515245) + 12345) * 1103515245) + 12345) * 1103515245) + 12345) * 1103515245) + 12345) * 1103515245) + 12345)) (by decide) rfl rfl (by unfold vp_in; decide) dX12_times_79 ?_
      refine G_istore (pc := 80) (L1 := [some (.ref 67), some (.int n), some (.int 0), some (.int (i + 1)), some (.int i), some (.int 0), some (.int (((((((((((((((((((((((((I 68 3) * 1103515245) + 12345) * 1103515245) + 12345) * 1103515245) + 12345) * 1103515245) + 12345) * 1103515245) + 12345) * 1103515245) + 12345) * 1103515245) + 12345) * 1103515245) + 12345) * 1103515245) + 12345) * 1103515245) + 12345) * 1103515245) + 12345) * 1103515245) + 12345))]) rfl rfl (by decide) dX12_times_80 ?_
      refine G_aload_n (pc := 82) rfl dX12_times_82 ?_
      refine G_callV (pc := 83) (mc1 := 0) (ms1 := 0) (ci := 12) (mj := mX12_layBack) (vs := []) dX12_times_83 rfl rfl cm_X12_layBack wh_57 wh_59 wh_60 rfl (Nat.le_of_ble_eq_true rfl) (Nat.le_of_ble_eq_true rfl) (Nat.le_of_ble_eq_true rfl) (Nat.le_of_ble_eq_true rfl) (layBack_s (d + 1) (gup (gup (gup (gup (gup (gup (gup (gup (gup (gup (gup (gup (gup (gup (gup (gup (gup (gup (gup (gup (gup (gup (gup (gup (gup (gup (gup (gup (gup (gup (gup (gup (gup (gup (gup (gup I 68 3 (((I 68 3) * 1103515245) + 12345)) 68 0 1) 68 2 ((I 68 2) + 0)) 68 3 (((((I 68 3) * 1103515245) + 12345) * 1103515245) + 12345)) 68 0 2) 68 2 (((I 68 2) + 0) + 0)) 68 3 (((((((I 68 3) * 1103515245) + 12345) * 1103515245) + 12345) * 1103515245) + 12345)) 68 0 3) 68 2 ((((I 68 2) + 0) + 0) + 0)) 68 3 (((((((((I 68 3) * 1103515245) + 12345) * 1103515245) + 12345) * 1103515245) + 12345) * 1103515245) + 12345)) 68 0 4) 68 2 (((((I 68 2) + 0) + 0) + 0) + 0)) 68 3 (((((((((((I 68 3) * 1103515245) + 12345) * 1103515245) + 12345) * 1103515245) + 12345) * 1103515245) + 12345) * 1103515245) + 12345)) 68 0 5) 68 2 ((((((I 68 2) + 0) + 0) + 0) + 0) + 0)) 68 3 (((((((((((((I 68 3) * 1103515245) + 12345) * 1103515245) + 12345) * 1103515245) + 12345) * 1103515245) + 12345) * 1103515245) + 12345) * 1103515245) + 12345)) 68 0 6) 68 2 (((((((I 68 2) + 0) + 0) + 0) + 0) + 0) + 0)) 68 3 (((((((((((((((I 68 3) * 1103515245) + 12345) * 1103515245) + 12345) * 1103515245) + 12345) * 1103515245) + 12345) * 1103515245) + 12345) * 1103515245) + 12345) * 1103515245) + 12345)) 68 0 7) 68 2 ((((((((I 68 2) + 0) + 0) + 0) + 0) + 0) + 0) + 0)) 68 3 (((((((((((((((((I 68 3) * 1103515245) + 12345) * 1103515245) + 12345) * 1103515245) + 12345) * 1103515245) + 12345) * 1103515245) + 12345) * 1103515245) + 12345) * 1103515245) + 12345) * 1103515245) + 12345)) 68 0 8) 68 2 (((((((((I 68 2) + 0) + 0) + 0) + 0) + 0) + 0) + 0) + 0)) 68 3 (((((((((((((((((((I 68 3) * 1103515245) + 12345) * 1103515245) + 12345) * 1103515245) + 12345) * 1103515245) + 12345) * 1103515245) + 12345) * 1103515245) + 12345) * 1103515245) + 12345) * 1103515245) + 12345) * 1103515245) + 12345)) 68 0 9) 68 2 ((((((((((I 68 2) + 0) + 0) + 0) + 0) + 0) + 0) + 0) + 0) + 0)) 68 3 (((((((((((((((((((((I 68 3) * 1103515245) + 12345) * 1103515245) + 12345) * 1103515245) + 12345) * 1103515245) + 12345) * 1103515245) + 12345) * 1103515245) + 12345) * 1103515245) + 12345) * 1103515245) + 12345) * 1103515245) + 12345) * 1103515245) + 12345)) 68 0 10) 68 2 (((((((((((I 68 2) + 0) + 0) + 0) + 0) + 0) + 0) + 0) + 0) + 0) + 0)) 68 3 (((((((((((((((((((((((I 68 3) * 1103515245) + 12345) * 1103515245) + 12345) * 1103515245) + 12345) * 1103515245) + 12345) * 1103515245) + 12345) * 1103515245) + 12345) * 1103515245) + 12345) * 1103515245) + 12345) * 1103515245) + 12345) * 1103515245) + 12345) * 1103515245) + 12345)) 68 0 11) 68 2 ((((((((((((I 68 2) + 0) + 0) + 0) + 0) + 0) + 0) + 0) + 0) + 0) + 0) + 0)) 68 3 (((((((((((((((((((((((((I 68 3) * 1103515245) + 12345) * 1103515245) + 12345) * 1103515245) + 12345) * 1103515245) + 12345) * 1103515245) + 12345) * 1103515245) + 12345) * 1103515245) + 12345) * 1103515245) + 12345) * 1103515245) + 12345) * 1103515245) + 12345) * 1103515245) + 12345) * 1103515245) + 12345)) 68 0 12) 68 2 (((((((((((((I 68 2) + 0) + 0) + 0) + 0) + 0) + 0) + 0) + 0) + 0) + 0) + 0) + 0))) ?_
      rintro _ _ ⟨rfl, rfl⟩
      dsimp only [Option.toList, List.cons_append, List.nil_append]
      refine G_aload_n (pc := 86) rfl dX12_times_86 ?_
      refine G_getR (pc := 87) (r := 68) (ci := 12) (j := 0) rfl lk_RX12_9 rfl rfl rfl dX12_times_87 ?_
      refine G_iconst (pc := 90) (v := 3) (by decide) dX12_times_90 ?_
      refine G_iload (pc := 91) rfl dX12_times_91 ?_
      refine G_iast (pc := 93) (jj := 3) (by decide) rfl (by unfold vp_in; decide) dX12_times_93 ?_
      refine G_iinc (pc := 94) (v := 1) (w := (i + 1)) (L1 := [some (.ref 67), some (.int n), some (.int 0), some (.int (i + 1)), some (.int (i + 1)), some (.int 0), some (.int (((((((((((((((((((((((((I 68 3) * 1103515245) + 12345) * 1103515245) + 12345) * 1103515245) + 12345) * 1103515245) + 12345) * 1103515245) + 12345) * 1103515245) + 12345) * 1103515245) + 12345) * 1103515245) + 12345) * 1103515245) + 12345) * 1103515245) + 12345) * 1103515245) + 12345) * 1103515245) + 12345))]) rfl rfl rfl (by decide) rfl (by decide) dX12_times_94 ?_
      refine G_goto (pc := 97) (tgt := 32) (by decide) dX12_times_97 ?_
      have e := Int32.lt_iff_toInt_lt.mp (Int32.not_le.mp c421)
      have e1 := hn
      have e2 : (i + 1).toInt = i.toInt + 1 := g_inc (by omega)
      refine G_drop 5 rfl ?_
      refine G_drop 6 rfl ?_
      exact ih (i + 1) _ ⟨(hI.2.2.2.1), (hI.2.2.2.2.1), (hI.2.2.2.2.2.1), (hI.2.2.2.1), (hI.2.2.2.2.1), (hI.2.2.2.2.2.1), trivial⟩ (by omega) (by omega) (by omega)
set_option maxRecDepth 100000 in
set_option maxHeartbeats 4000000 in
theorem lm_times1  (d : Nat) (n v : Int32) (hn : n.toInt ≤ 40) (hv : v > 0) (f : Nat) : ∀ (i : Int32) (I : gI), (I 68 0 = 0 ∧ I 68 1 = 12 ∧ I 68 4 = 0 ∧ I 70 0 = 0 ∧ I 70 1 = 12 ∧ I 70 4 = 0 ∧ True) → 0 ≤ i.toInt → i.toInt ≤ n.toInt → n.toInt - i.toInt < f → G (d + 2) mX12_times 0 0 0 0 32 [some (.ref 67), some (.int n), some (.int v), some (.int 0), some (.int i), none, none] [] SH0 RF0 I (fun r _ => r = some (.int (0))) := by
  induction f with
  | zero => intro i I hI h0 h1 hf; exfalso; omega
  | succ f ih =>
    intro i I hI h0 h1 hf
    refine G_iload (pc := 32) rfl dX12_times_32 ?_
    refine G_iload_n (pc := 34) rfl dX12_times_34 ?_
    refine G_icmp_ge (pc := 35) (tgt := 100) (by decide) dX12_times_35 (fun c422 => ?_) (fun c422 => ?_)
    · refine G_aload_n (pc := 100) rfl dX12_times_100 ?_
      refine G_callV (pc := 101) (mc1 := 0) (ms1 := 0) (ci := 12) (mj := mX12_layBack) (vs := []) dX12_times_101 rfl rfl cm_X12_layBack wh_57 wh_59 wh_60 rfl (Nat.le_of_ble_eq_true rfl) (Nat.le_of_ble_eq_true rfl) (Nat.le_of_ble_eq_true rfl) (Nat.le_of_ble_eq_true rfl) (layBack_s (d + 1) I) ?_
      rintro _ _ ⟨rfl, rfl⟩
      dsimp only [Option.toList, List.cons_append, List.nil_append]
      refine G_iload_n (pc := 104) rfl dX12_times_104 ?_
      exact G_iret (pc := 105) (Nat.le_of_ble_eq_true rfl) (Nat.le_of_ble_eq_true rfl) rfl dX12_times_105 rfl
    · refine G_iconst (pc := 38) (v := 0) (by decide) dX12_times_38 ?_
      refine G_istore (pc := 39) (L1 := [some (.ref 67), some (.int n), some (.int v), some (.int 0), some (.int i), some (.int 0), none]) rfl rfl (by decide) dX12_times_39 ?_
      refine G_aload_n (pc := 41) rfl dX12_times_41 ?_
      refine G_callV (pc := 42) (mc1 := 0) (ms1 := 0) (ci := 12) (mj := mX12_isOver) (vs := []) dX12_times_42 rfl rfl cm_X12_isOver wh_22 wh_24 wh_25 rfl (Nat.le_of_ble_eq_true rfl) (Nat.le_of_ble_eq_true rfl) (Nat.le_of_ble_eq_true rfl) (Nat.le_of_ble_eq_true rfl) (s10324_X12_isOver  (d + 1) _ hI ) ?_
      rintro _ _ ⟨rfl, rfl⟩
      dsimp only [Option.toList, List.cons_append, List.nil_append]
      refine G_if_ne (pc := 45) (tgt := 60) (by decide) dX12_times_45 (fun z => absurd (by decide) z) (fun _ => ?_)
      refine G_iload (pc := 48) rfl dX12_times_48 ?_
      refine G_aload_n (pc := 50) rfl dX12_times_50 ?_
      refine G_callV (pc := 51) (mc1 := 0) (ms1 := 0) (ci := 12) (mj := mX12_byLot) (vs := []) dX12_times_51 rfl rfl cm_X12_byLot wh_84 wh_86 wh_87 rfl (Nat.le_of_ble_eq_true rfl) (Nat.le_of_ble_eq_true rfl) (Nat.le_of_ble_eq_true rfl) (Nat.le_of_ble_eq_true rfl) (s10325_X12_byLot  d _ hI ) ?_
      rintro _ _ ⟨rfl, rfl⟩
      dsimp only [Option.toList, List.cons_append, List.nil_append]
      refine G_iadd (pc := 54) (z := 0) (by decide) dX12_times_54 ?_
      refine G_istore (pc := 55) (L1 := [some (.ref 67), some (.int n), some (.int v), some (.int 0), some (.int i), some (.int 0), none]) rfl rfl (by decide) dX12_times_55 ?_
      refine G_goto (pc := 57) (tgt := 41) (by decide) dX12_times_57 ?_
      refine G_aload_n (pc := 41) rfl dX12_times_41 ?_
      refine G_callV (pc := 42) (mc1 := 0) (ms1 := 0) (ci := 12) (mj := mX12_isOver) (vs := []) dX12_times_42 rfl rfl cm_X12_isOver wh_22 wh_24 wh_25 rfl (Nat.le_of_ble_eq_true rfl) (Nat.le_of_ble_eq_true rfl) (Nat.le_of_ble_eq_true rfl) (Nat.le_of_ble_eq_true rfl) (s10327_X12_isOver  (d + 1) _ hI ) ?_
      rintro _ _ ⟨rfl, rfl⟩
      dsimp only [Option.toList, List.cons_append, List.nil_append]
      refine G_if_ne (pc := 45) (tgt := 60) (by decide) dX12_times_45 (fun z => absurd (by decide) z) (fun _ => ?_)
      refine G_iload (pc := 48) rfl dX12_times_48 ?_
      refine G_aload_n (pc := 50) rfl dX12_times_50 ?_
      refine G_callV (pc := 51) (mc1 := 0) (ms1 := 0) (ci := 12) (mj := mX12_byLot) (vs := []) dX12_times_51 rfl rfl cm_X12_byLot wh_84 wh_86 wh_87 rfl (Nat.le_of_ble_eq_true rfl) (Nat.le_of_ble_eq_true rfl) (Nat.le_of_ble_eq_true rfl) (Nat.le_of_ble_eq_true rfl) (s10328_X12_byLot  d _ hI ) ?_
      rintro _ _ ⟨rfl, rfl⟩
      dsimp only [Option.toList, List.cons_append, List.nil_append]
      refine G_iadd (pc := 54) (z := 0) (by decide) dX12_times_54 ?_
      refine G_istore (pc := 55) (L1 := [some (.ref 67), some (.int n), some (.int v), some (.int 0), some (.int i), some (.int 0), none]) rfl rfl (by decide) dX12_times_55 ?_
      refine G_goto (pc := 57) (tgt := 41) (by decide) dX12_times_57 ?_
      refine G_aload_n (pc := 41) rfl dX12_times_41 ?_
      refine G_callV (pc := 42) (mc1 := 0) (ms1 := 0) (ci := 12) (mj := mX12_isOver) (vs := []) dX12_times_42 rfl rfl cm_X12_isOver wh_22 wh_24 wh_25 rfl (Nat.le_of_ble_eq_true rfl) (Nat.le_of_ble_eq_true rfl) (Nat.le_of_ble_eq_true rfl) (Nat.le_of_ble_eq_true rfl) (s10330_X12_isOver  (d + 1) _ hI ) ?_
      rintro _ _ ⟨rfl, rfl⟩
      dsimp only [Option.toList, List.cons_append, List.nil_append]
      refine G_if_ne (pc := 45) (tgt := 60) (by decide) dX12_times_45 (fun z => absurd (by decide) z) (fun _ => ?_)
      refine G_iload (pc := 48) rfl dX12_times_48 ?_
      refine G_aload_n (pc := 50) rfl dX12_times_50 ?_
      refine G_callV (pc := 51) (mc1 := 0) (ms1 := 0) (ci := 12) (mj := mX12_byLot) (vs := []) dX12_times_51 rfl rfl cm_X12_byLot wh_84 wh_86 wh_87 rfl (Nat.le_of_ble_eq_true rfl) (Nat.le_of_ble_eq_true rfl) (Nat.le_of_ble_eq_true rfl) (Nat.le_of_ble_eq_true rfl) (s10331_X12_byLot  d _ hI ) ?_
      rintro _ _ ⟨rfl, rfl⟩
      dsimp only [Option.toList, List.cons_append, List.nil_append]
      refine G_iadd (pc := 54) (z := 0) (by decide) dX12_times_54 ?_
      refine G_istore (pc := 55) (L1 := [some (.ref 67), some (.int n), some (.int v), some (.int 0), some (.int i), some (.int 0), none]) rfl rfl (by decide) dX12_times_55 ?_
      refine G_goto (pc := 57) (tgt := 41) (by decide) dX12_times_57 ?_
      refine G_aload_n (pc := 41) rfl dX12_times_41 ?_
      refine G_callV (pc := 42) (mc1 := 0) (ms1 := 0) (ci := 12) (mj := mX12_isOver) (vs := []) dX12_times_42 rfl rfl cm_X12_isOver wh_22 wh_24 wh_25 rfl (Nat.le_of_ble_eq_true rfl) (Nat.le_of_ble_eq_true rfl) (Nat.le_of_ble_eq_true rfl) (Nat.le_of_ble_eq_true rfl) (s10333_X12_isOver  (d + 1) _ hI ) ?_
      rintro _ _ ⟨rfl, rfl⟩
      dsimp only [Option.toList, List.cons_append, List.nil_append]
      refine G_if_ne (pc := 45) (tgt := 60) (by decide) dX12_times_45 (fun z => absurd (by decide) z) (fun _ => ?_)
      refine G_iload (pc := 48) rfl dX12_times_48 ?_
      refine G_aload_n (pc := 50) rfl dX12_times_50 ?_
      refine G_callV (pc := 51) (mc1 := 0) (ms1 := 0) (ci := 12) (mj := mX12_byLot) (vs := []) dX12_times_51 rfl rfl cm_X12_byLot wh_84 wh_86 wh_87 rfl (Nat.le_of_ble_eq_true rfl) (Nat.le_of_ble_eq_true rfl) (Nat.le_of_ble_eq_true rfl) (Nat.le_of_ble_eq_true rfl) (s10334_X12_byLot  d _ hI ) ?_
      rintro _ _ ⟨rfl, rfl⟩
      dsimp only [Option.toList, List.cons_append, List.nil_append]
      refine G_iadd (pc := 54) (z := 0) (by decide) dX12_times_54 ?_
      refine G_istore (pc := 55) (L1 := [some (.ref 67), some (.int n), some (.int v), some (.int 0), some (.int i), some (.int 0), none]) rfl rfl (by decide) dX12_times_55 ?_
      refine G_goto (pc := 57) (tgt := 41) (by decide) dX12_times_57 ?_
      refine G_aload_n (pc := 41) rfl dX12_times_41 ?_
      refine G_callV (pc := 42) (mc1 := 0) (ms1 := 0) (ci := 12) (mj := mX12_isOver) (vs := []) dX12_times_42 rfl rfl cm_X12_isOver wh_22 wh_24 wh_25 rfl (Nat.le_of_ble_eq_true rfl) (Nat.le_of_ble_eq_true rfl) (Nat.le_of_ble_eq_true rfl) (Nat.le_of_ble_eq_true rfl) (s10336_X12_isOver  (d + 1) _ hI ) ?_
      rintro _ _ ⟨rfl, rfl⟩
      dsimp only [Option.toList, List.cons_append, List.nil_append]
      refine G_if_ne (pc := 45) (tgt := 60) (by decide) dX12_times_45 (fun z => absurd (by decide) z) (fun _ => ?_)
      refine G_iload (pc := 48) rfl dX12_times_48 ?_
      refine G_aload_n (pc := 50) rfl dX12_times_50 ?_
      refine G_callV (pc := 51) (mc1 := 0) (ms1 := 0) (ci := 12) (mj := mX12_byLot) (vs := []) dX12_times_51 rfl rfl cm_X12_byLot wh_84 wh_86 wh_87 rfl (Nat.le_of_ble_eq_true rfl) (Nat.le_of_ble_eq_true rfl) (Nat.le_of_ble_eq_true rfl) (Nat.le_of_ble_eq_true rfl) (s10337_X12_byLot  d _ hI ) ?_
      rintro _ _ ⟨rfl, rfl⟩
      dsimp only [Option.toList, List.cons_append, List.nil_append]
      refine G_iadd (pc := 54) (z := 0) (by decide) dX12_times_54 ?_
      refine G_istore (pc := 55) (L1 := [some (.ref 67), some (.int n), some (.int v), some (.int 0), some (.int i), some (.int 0), none]) rfl rfl (by decide) dX12_times_55 ?_
      refine G_goto (pc := 57) (tgt := 41) (by decide) dX12_times_57 ?_
      refine G_aload_n (pc := 41) rfl dX12_times_41 ?_
      refine G_callV (pc := 42) (mc1 := 0) (ms1 := 0) (ci := 12) (mj := mX12_isOver) (vs := []) dX12_times_42 rfl rfl cm_X12_isOver wh_22 wh_24 wh_25 rfl (Nat.le_of_ble_eq_true rfl) (Nat.le_of_ble_eq_true rfl) (Nat.le_of_ble_eq_true rfl) (Nat.le_of_ble_eq_true rfl) (s10339_X12_isOver  (d + 1) _ hI ) ?_
      rintro _ _ ⟨rfl, rfl⟩
      dsimp only [Option.toList, List.cons_append, List.nil_append]
      refine G_if_ne (pc := 45) (tgt := 60) (by decide) dX12_times_45 (fun z => absurd (by decide) z) (fun _ => ?_)
      refine G_iload (pc := 48) rfl dX12_times_48 ?_
      refine G_aload_n (pc := 50) rfl dX12_times_50 ?_
      refine G_callV (pc := 51) (mc1 := 0) (ms1 := 0) (ci := 12) (mj := mX12_byLot) (vs := []) dX12_times_51 rfl rfl cm_X12_byLot wh_84 wh_86 wh_87 rfl (Nat.le_of_ble_eq_true rfl) (Nat.le_of_ble_eq_true rfl) (Nat.le_of_ble_eq_true rfl) (Nat.le_of_ble_eq_true rfl) (s10340_X12_byLot  d _ hI ) ?_
      rintro _ _ ⟨rfl, rfl⟩
      dsimp only [Option.toList, List.cons_append, List.nil_append]
      refine G_iadd (pc := 54) (z := 0) (by decide) dX12_times_54 ?_
      refine G_istore (pc := 55) (L1 := [some (.ref 67), some (.int n), some (.int v), some (.int 0), some (.int i), some (.int 0), none]) rfl rfl (by decide) dX12_times_55 ?_
      refine G_goto (pc := 57) (tgt := 41) (by decide) dX12_times_57 ?_
      refine G_aload_n (pc := 41) rfl dX12_times_41 ?_
      refine G_callV (pc := 42) (mc1 := 0) (ms1 := 0) (ci := 12) (mj := mX12_isOver) (vs := []) dX12_times_42 rfl rfl cm_X12_isOver wh_22 wh_24 wh_25 rfl (Nat.le_of_ble_eq_true rfl) (Nat.le_of_ble_eq_true rfl) (Nat.le_of_ble_eq_true rfl) (Nat.le_of_ble_eq_true rfl) (s10342_X12_isOver  (d + 1) _ hI ) ?_
      rintro _ _ ⟨rfl, rfl⟩
      dsimp only [Option.toList, List.cons_append, List.nil_append]
      refine G_if_ne (pc := 45) (tgt := 60) (by decide) dX12_times_45 (fun z => absurd (by decide) z) (fun _ => ?_)
      refine G_iload (pc := 48) rfl dX12_times_48 ?_
      refine G_aload_n (pc := 50) rfl dX12_times_50 ?_
      refine G_callV (pc := 51) (mc1 := 0) (ms1 := 0) (ci := 12) (mj := mX12_byLot) (vs := []) dX12_times_51 rfl rfl cm_X12_byLot wh_84 wh_86 wh_87 rfl (Nat.le_of_ble_eq_true rfl) (Nat.le_of_ble_eq_true rfl) (Nat.le_of_ble_eq_true rfl) (Nat.le_of_ble_eq_true rfl) (s10343_X12_byLot  d _ hI ) ?_
      rintro _ _ ⟨rfl, rfl⟩
      dsimp only [Option.toList, List.cons_append, List.nil_append]
      refine G_iadd (pc := 54) (z := 0) (by decide) dX12_times_54 ?_
      refine G_istore (pc := 55) (L1 := [some (.ref 67), some (.int n), some (.int v), some (.int 0), some (.int i), some (.int 0), none]) rfl rfl (by decide) dX12_times_55 ?_
      refine G_goto (pc := 57) (tgt := 41) (by decide) dX12_times_57 ?_
      refine G_aload_n (pc := 41) rfl dX12_times_41 ?_
      refine G_callV (pc := 42) (mc1 := 0) (ms1 := 0) (ci := 12) (mj := mX12_isOver) (vs := []) dX12_times_42 rfl rfl cm_X12_isOver wh_22 wh_24 wh_25 rfl (Nat.le_of_ble_eq_true rfl) (Nat.le_of_ble_eq_true rfl) (Nat.le_of_ble_eq_true rfl) (Nat.le_of_ble_eq_true rfl) (s10345_X12_isOver  (d + 1) _ hI ) ?_
      rintro _ _ ⟨rfl, rfl⟩
      dsimp only [Option.toList, List.cons_append, List.nil_append]
      refine G_if_ne (pc := 45) (tgt := 60) (by decide) dX12_times_45 (fun z => absurd (by decide) z) (fun _ => ?_)
      refine G_iload (pc := 48) rfl dX12_times_48 ?_
      refine G_aload_n (pc := 50) rfl dX12_times_50 ?_
      refine G_callV (pc := 51) (mc1 := 0) (ms1 := 0) (ci := 12) (mj := mX12_byLot) (vs := []) dX12_times_51 rfl rfl cm_X12_byLot wh_84 wh_86 wh_87 rfl (Nat.le_of_ble_eq_true rfl) (Nat.le_of_ble_eq_true rfl) (Nat.le_of_ble_eq_true rfl) (Nat.le_of_ble_eq_true rfl) (s10346_X12_byLot  d _ hI ) ?_
      rintro _ _ ⟨rfl, rfl⟩
      dsimp only [Option.toList, List.cons_append, List.nil_append]
      refine G_iadd (pc := 54) (z := 0) (by decide) dX12_times_54 ?_
      refine G_istore (pc := 55) (L1 := [some (.ref 67), some (.int n), some (.int v), some (.int 0), some (.int i), some (.int 0), none]) rfl rfl (by decide) dX12_times_55 ?_
      refine G_goto (pc := 57) (tgt := 41) (by decide) dX12_times_57 ?_
      refine G_aload_n (pc := 41) rfl dX12_times_41 ?_
      refine G_callV (pc := 42) (mc1 := 0) (ms1 := 0) (ci := 12) (mj := mX12_isOver) (vs := []) dX12_times_42 rfl rfl cm_X12_isOver wh_22 wh_24 wh_25 rfl (Nat.le_of_ble_eq_true rfl) (Nat.le_of_ble_eq_true rfl) (Nat.le_of_ble_eq_true rfl) (Nat.le_of_ble_eq_true rfl) (s10348_X12_isOver  (d + 1) _ hI ) ?_
      rintro _ _ ⟨rfl, rfl⟩
      dsimp only [Option.toList, List.cons_append, List.nil_append]
      refine G_if_ne (pc := 45) (tgt := 60) (by decide) dX12_times_45 (fun z => absurd (by decide) z) (fun _ => ?_)
      refine G_iload (pc := 48) rfl dX12_times_48 ?_
      refine G_aload_n (pc := 50) rfl dX12_times_50 ?_
      refine G_callV (pc := 51) (mc1 := 0) (ms1 := 0) (ci := 12) (mj := mX12_byLot) (vs := []) dX12_times_51 rfl rfl cm_X12_byLot wh_84 wh_86 wh_87 rfl (Nat.le_of_ble_eq_true rfl) (Nat.le_of_ble_eq_true rfl) (Nat.le_of_ble_eq_true rfl) (Nat.le_of_ble_eq_true rfl) (s10349_X12_byLot  d _ hI ) ?_
      rintro _ _ ⟨rfl, rfl⟩
      dsimp only [Option.toList, List.cons_append, List.nil_append]
      refine G_iadd (pc := 54) (z := 0) (by decide) dX12_times_54 ?_
      refine G_istore (pc := 55) (L1 := [some (.ref 67), some (.int n), some (.int v), some (.int 0), some (.int i), some (.int 0), none]) rfl rfl (by decide) dX12_times_55 ?_
      refine G_goto (pc := 57) (tgt := 41) (by decide) dX12_times_57 ?_
      refine G_aload_n (pc := 41) rfl dX12_times_41 ?_
      refine G_callV (pc := 42) (mc1 := 0) (ms1 := 0) (ci := 12) (mj := mX12_isOver) (vs := []) dX12_times_42 rfl rfl cm_X12_isOver wh_22 wh_24 wh_25 rfl (Nat.le_of_ble_eq_true rfl) (Nat.le_of_ble_eq_true rfl) (Nat.le_of_ble_eq_true rfl) (Nat.le_of_ble_eq_true rfl) (s10351_X12_isOver  (d + 1) _ hI ) ?_
      rintro _ _ ⟨rfl, rfl⟩
      dsimp only [Option.toList, List.cons_append, List.nil_append]
      refine G_if_ne (pc := 45) (tgt := 60) (by decide) dX12_times_45 (fun z => absurd (by decide) z) (fun _ => ?_)
      refine G_iload (pc := 48) rfl dX12_times_48 ?_
      refine G_aload_n (pc := 50) rfl dX12_times_50 ?_
      refine G_callV (pc := 51) (mc1 := 0) (ms1 := 0) (ci := 12) (mj := mX12_byLot) (vs := []) dX12_times_51 rfl rfl cm_X12_byLot wh_84 wh_86 wh_87 rfl (Nat.le_of_ble_eq_true rfl) (Nat.le_of_ble_eq_true rfl) (Nat.le_of_ble_eq_true rfl) (Nat.le_of_ble_eq_true rfl) (s10352_X12_byLot  d _ hI ) ?_
      rintro _ _ ⟨rfl, rfl⟩
      dsimp only [Option.toList, List.cons_append, List.nil_append]
      refine G_iadd (pc := 54) (z := 0) (by decide) dX12_times_54 ?_
      refine G_istore (pc := 55) (L1 := [some (.ref 67), some (.int n), some (.int v), some (.int 0), some (.int i), some (.int 0), none]) rfl rfl (by decide) dX12_times_55 ?_
      refine G_goto (pc := 57) (tgt := 41) (by decide) dX12_times_57 ?_
      refine G_aload_n (pc := 41) rfl dX12_times_41 ?_
      refine G_callV (pc := 42) (mc1 := 0) (ms1 := 0) (ci := 12) (mj := mX12_isOver) (vs := []) dX12_times_42 rfl rfl cm_X12_isOver wh_22 wh_24 wh_25 rfl (Nat.le_of_ble_eq_true rfl) (Nat.le_of_ble_eq_true rfl) (Nat.le_of_ble_eq_true rfl) (Nat.le_of_ble_eq_true rfl) (s10354_X12_isOver  (d + 1) _ hI ) ?_
      rintro _ _ ⟨rfl, rfl⟩
      dsimp only [Option.toList, List.cons_append, List.nil_append]
      refine G_if_ne (pc := 45) (tgt := 60) (by decide) dX12_times_45 (fun z => absurd (by decide) z) (fun _ => ?_)
      refine G_iload (pc := 48) rfl dX12_times_48 ?_
      refine G_aload_n (pc := 50) rfl dX12_times_50 ?_
      refine G_callV (pc := 51) (mc1 := 0) (ms1 := 0) (ci := 12) (mj := mX12_byLot) (vs := []) dX12_times_51 rfl rfl cm_X12_byLot wh_84 wh_86 wh_87 rfl (Nat.le_of_ble_eq_true rfl) (Nat.le_of_ble_eq_true rfl) (Nat.le_of_ble_eq_true rfl) (Nat.le_of_ble_eq_true rfl) (s10355_X12_byLot  d _ hI ) ?_
      rintro _ _ ⟨rfl, rfl⟩
      dsimp only [Option.toList, List.cons_append, List.nil_append]
      refine G_iadd (pc := 54) (z := 0) (by decide) dX12_times_54 ?_
      refine G_istore (pc := 55) (L1 := [some (.ref 67), some (.int n), some (.int v), some (.int 0), some (.int i), some (.int 0), none]) rfl rfl (by decide) dX12_times_55 ?_
      refine G_goto (pc := 57) (tgt := 41) (by decide) dX12_times_57 ?_
      refine G_aload_n (pc := 41) rfl dX12_times_41 ?_
      refine G_callV (pc := 42) (mc1 := 0) (ms1 := 0) (ci := 12) (mj := mX12_isOver) (vs := []) dX12_times_42 rfl rfl cm_X12_isOver wh_22 wh_24 wh_25 rfl (Nat.le_of_ble_eq_true rfl) (Nat.le_of_ble_eq_true rfl) (Nat.le_of_ble_eq_true rfl) (Nat.le_of_ble_eq_true rfl) (s10357_X12_isOver  (d + 1) _ hI ) ?_
      rintro _ _ ⟨rfl, rfl⟩
      dsimp only [Option.toList, List.cons_append, List.nil_append]
      refine G_if_ne (pc := 45) (tgt := 60) (by decide) dX12_times_45 (fun z => absurd (by decide) z) (fun _ => ?_)
      refine G_iload (pc := 48) rfl dX12_times_48 ?_
      refine G_aload_n (pc := 50) rfl dX12_times_50 ?_
      refine G_callV (pc := 51) (mc1 := 0) (ms1 := 0) (ci := 12) (mj := mX12_byLot) (vs := []) dX12_times_51 rfl rfl cm_X12_byLot wh_84 wh_86 wh_87 rfl (Nat.le_of_ble_eq_true rfl) (Nat.le_of_ble_eq_true rfl) (Nat.le_of_ble_eq_true rfl) (Nat.le_of_ble_eq_true rfl) (s10358_X12_byLot  d _ hI ) ?_
      rintro _ _ ⟨rfl, rfl⟩
      dsimp only [Option.toList, List.cons_append, List.nil_append]
      refine G_iadd (pc := 54) (z := 0) (by decide) dX12_times_54 ?_
      refine G_istore (pc := 55) (L1 := [some (.ref 67), some (.int n), some (.int v), some (.int 0), some (.int i), some (.int 0), none]) rfl rfl (by decide) dX12_times_55 ?_
      refine G_goto (pc := 57) (tgt := 41) (by decide) dX12_times_57 ?_
      refine G_aload_n (pc := 41) rfl dX12_times_41 ?_
      refine G_callV (pc := 42) (mc1 := 0) (ms1 := 0) (ci := 12) (mj := mX12_isOver) (vs := []) dX12_times_42 rfl rfl cm_X12_isOver wh_22 wh_24 wh_25 rfl (Nat.le_of_ble_eq_true rfl) (Nat.le_of_ble_eq_true rfl) (Nat.le_of_ble_eq_true rfl) (Nat.le_of_ble_eq_true rfl) (s10360_X12_isOver  (d + 1) _ hI ) ?_
      rintro _ _ ⟨rfl, rfl⟩
      dsimp only [Option.toList, List.cons_append, List.nil_append]
      refine G_if_ne (pc := 45) (tgt := 60) (by decide) dX12_times_45 (fun _ => ?_) (fun z => absurd z (by decide))
      refine G_iload_n (pc := 60) rfl dX12_times_60 ?_
      refine G_iload (pc := 61) rfl dX12_times_61 ?_
      refine G_iload_n (pc := 63) rfl dX12_times_63 ?_
      refine G_icmp_lt (pc := 64) (tgt := 71) (by decide) dX12_times_64 (fun c423 => ?_) (fun c423 => ?_)
      · refine G_iconst (pc := 71) (v := 0) (by decide) dX12_times_71 ?_
        refine G_iadd (pc := 72) (z := 0) (by decide) dX12_times_72 ?_
        refine G_istore_n (pc := 73) (L1 := [some (.ref 67), some (.int n), some (.int v), some (.int 0), some (.int i), some (.int 0), none]) rfl rfl (by decide) dX12_times_73 ?_
        refine G_aload_n (pc := 74) rfl dX12_times_74 ?_
        refine G_getR (pc := 75) (r := 68) (ci := 12) (j := 0) rfl lk_RX12_9 rfl rfl rfl dX12_times_75 ?_
        refine G_iconst (pc := 78) (v := 3) (by decide) dX12_times_78 ?_
        refine G_iald (pc := 79) (jj := 3) (v := (((((((((((((((((((((((((I 68 3) * 1103515245) + 12345) * 1103515245) + 12345) * 1103515245) + 12345) * 1103515245) + 12345) * 1103515245) + 12345) * 1103515245) + 12345) * 1103515245) + 12345) * 1103515245) + 12345) * 1103515245) + 12345) * 1103515245) + 12345) * 1103515245) + 12345) * 1103515245) + 12345)) (by decide) rfl rfl (by unfold vp_in; decide) dX12_times_79 ?_
        refine G_istore (pc := 80) (L1 := [some (.ref 67), some (.int n), some (.int v), some (.int 0), some (.int i), some (.int 0), some (.int (((((((((((((((((((((((((I 68 3) * 1103515245) + 12345) * 1103515245) + 12345) * 1103515245) + 12345) * 1103515245) + 12345) * 1103515245) + 12345) * 1103515245) + 12345) * 1103515245) + 12345) * 1103515245) + 12345) * 1103515245) + 12345) * 1103515245) + 12345) * 1103515245) + 12345) * 1103515245) + 12345))]) rfl rfl (by decide) dX12_times_80 ?_
        refine G_aload_n (pc := 82) rfl dX12_times_82 ?_
        refine G_callV (pc := 83) (mc1 := 0) (ms1 := 0) (ci := 12) (mj := mX12_layBack) (vs := []) dX12_times_83 rfl rfl cm_X12_layBack wh_57 wh_59 wh_60 rfl (Nat.le_of_ble_eq_true rfl) (Nat.le_of_ble_eq_true rfl) (Nat.le_of_ble_eq_true rfl) (Nat.le_of_ble_eq_true rfl) (layBack_s (d + 1) (gup (gup (gup (gup (gup (gup (gup (gup (gup (gup (gup (gup (gup (gup (gup (gup (gup (gup (gup (gup (gup (gup (gup (gup (gup (gup (gup (gup (gup (gup (gup (gup (gup (gup (gup (gup I 68 3 (((I 68 3) * 1103515245) + 12345)) 68 0 1) 68 2 ((I 68 2) + 0)) 68 3 (((((I 68 3) * 1103515245) + 12345) * 1103515245) + 12345)) 68 0 2) 68 2 (((I 68 2) + 0) + 0)) 68 3 (((((((I 68 3) * 1103515245) + 12345) * 1103515245) + 12345) * 1103515245) + 12345)) 68 0 3) 68 2 ((((I 68 2) + 0) + 0) + 0)) 68 3 (((((((((I 68 3) * 1103515245) + 12345) * 1103515245) + 12345) * 1103515245) + 12345) * 1103515245) + 12345)) 68 0 4) 68 2 (((((I 68 2) + 0) + 0) + 0) + 0)) 68 3 (((((((((((I 68 3) * 1103515245) + 12345) * 1103515245) + 12345) * 1103515245) + 12345) * 1103515245) + 12345) * 1103515245) + 12345)) 68 0 5) 68 2 ((((((I 68 2) + 0) + 0) + 0) + 0) + 0)) 68 3 (((((((((((((I 68 3) * 1103515245) + 12345) * 1103515245) + 12345) * 1103515245) + 12345) * 1103515245) + 12345) * 1103515245) + 12345) * 1103515245) + 12345)) 68 0 6) 68 2 (((((((I 68 2) + 0) + 0) + 0) + 0) + 0) + 0)) 68 3 (((((((((((((((I 68 3) * 1103515245) + 12345) * 1103515245) + 12345) * 1103515245) + 12345) * 1103515245) + 12345) * 1103515245) + 12345) * 1103515245) + 12345) * 1103515245) + 12345)) 68 0 7) 68 2 ((((((((I 68 2) + 0) + 0) + 0) + 0) + 0) + 0) + 0)) 68 3 (((((((((((((((((I 68 3) * 1103515245) + 12345) * 1103515245) + 12345) * 1103515245) + 12345) * 1103515245) + 12345) * 1103515245) + 12345) * 1103515245) + 12345) * 1103515245) + 12345) * 1103515245) + 12345)) 68 0 8) 68 2 (((((((((I 68 2) + 0) + 0) + 0) + 0) + 0) + 0) + 0) + 0)) 68 3 (((((((((((((((((((I 68 3) * 1103515245) + 12345) * 1103515245) + 12345) * 1103515245) + 12345) * 1103515245) + 12345) * 1103515245) + 12345) * 1103515245) + 12345) * 1103515245) + 12345) * 1103515245) + 12345) * 1103515245) + 12345)) 68 0 9) 68 2 ((((((((((I 68 2) + 0) + 0) + 0) + 0) + 0) + 0) + 0) + 0) + 0)) 68 3 (((((((((((((((((((((I 68 3) * 1103515245) + 12345) * 1103515245) + 12345) * 1103515245) + 12345) * 1103515245) + 12345) * 1103515245) + 12345) * 1103515245) + 12345) * 1103515245) + 12345) * 1103515245) + 12345) * 1103515245) + 12345) * 1103515245) + 12345)) 68 0 10) 68 2 (((((((((((I 68 2) + 0) + 0) + 0) + 0) + 0) + 0) + 0) + 0) + 0) + 0)) 68 3 (((((((((((((((((((((((I 68 3) * 1103515245) + 12345) * 1103515245) + 12345) * 1103515245) + 12345) * 1103515245) + 12345) * 1103515245) + 12345) * 1103515245) + 12345) * 1103515245) + 12345) * 1103515245) + 12345) * 1103515245) + 12345) * 1103515245) + 12345) * 1103515245) + 12345)) 68 0 11) 68 2 ((((((((((((I 68 2) + 0) + 0) + 0) + 0) + 0) + 0) + 0) + 0) + 0) + 0) + 0)) 68 3 (((((((((((((((((((((((((I 68 3) * 1103515245) + 12345) * 1103515245) + 12345) * 1103515245) + 12345) * 1103515245) + 12345) * 1103515245) + 12345) * 1103515245) + 12345) * 1103515245) + 12345) * 1103515245) + 12345) * 1103515245) + 12345) * 1103515245) + 12345) * 1103515245) + 12345) * 1103515245) + 12345)) 68 0 12) 68 2 (((((((((((((I 68 2) + 0) + 0) + 0) + 0) + 0) + 0) + 0) + 0) + 0) + 0) + 0) + 0))) ?_
        rintro _ _ ⟨rfl, rfl⟩
        dsimp only [Option.toList, List.cons_append, List.nil_append]
        refine G_aload_n (pc := 86) rfl dX12_times_86 ?_
        refine G_getR (pc := 87) (r := 68) (ci := 12) (j := 0) rfl lk_RX12_9 rfl rfl rfl dX12_times_87 ?_
        refine G_iconst (pc := 90) (v := 3) (by decide) dX12_times_90 ?_
        refine G_iload (pc := 91) rfl dX12_times_91 ?_
        refine G_iast (pc := 93) (jj := 3) (by decide) rfl (by unfold vp_in; decide) dX12_times_93 ?_
        refine G_iinc (pc := 94) (v := 1) (w := (i + 1)) (L1 := [some (.ref 67), some (.int n), some (.int v), some (.int 0), some (.int (i + 1)), some (.int 0), some (.int (((((((((((((((((((((((((I 68 3) * 1103515245) + 12345) * 1103515245) + 12345) * 1103515245) + 12345) * 1103515245) + 12345) * 1103515245) + 12345) * 1103515245) + 12345) * 1103515245) + 12345) * 1103515245) + 12345) * 1103515245) + 12345) * 1103515245) + 12345) * 1103515245) + 12345) * 1103515245) + 12345))]) rfl rfl rfl (by decide) rfl (by decide) dX12_times_94 ?_
        refine G_goto (pc := 97) (tgt := 32) (by decide) dX12_times_97 ?_
        have e := Int32.lt_iff_toInt_lt.mp (Int32.not_le.mp c422)
        have e1 := hn
        have e2 : (i + 1).toInt = i.toInt + 1 := g_inc (by omega)
        refine G_drop 5 rfl ?_
        refine G_drop 6 rfl ?_
        exact ih (i + 1) _ ⟨(hI.2.2.2.1), (hI.2.2.2.2.1), (hI.2.2.2.2.2.1), (hI.2.2.2.1), (hI.2.2.2.2.1), (hI.2.2.2.2.2.1), trivial⟩ (by omega) (by omega) (by omega)
      · exfalso; have : 0 < (v).toInt := Int32.lt_iff_toInt_lt.mp (hv); have : (v).toInt ≤ 0 := Int32.le_iff_toInt_le.mp (Int32.not_lt.mp c423); omega
set_option maxRecDepth 100000 in
set_option maxHeartbeats 4000000 in
theorem z_times (J : gI) (d : Nat) (n : Int32) (v : Int32) : G (d + 2) mX12_times 0 0 0 0 0 (gent 7 [.ref 67, .int n, .int v]) [] SH0 RF0 (gmx J) (fun r _ => r = some (.int (F_times n v))) := by
  refine G_iload_n (pc := 0) rfl dX12_times_0 ?_
  refine G_iconst (pc := 1) (v := 1) (by decide) dX12_times_1 ?_
  refine G_bipush (pc := 2) (v := 40) (by decide) dX12_times_2 ?_
  refine G_callS (pc := 4) (mc1 := 0) (ms1 := 0) (mj := mX12_in1) (vs := [_, _, _]) dX12_times_4 cm_X12_in1 wh_0 wh_3 rfl (Nat.le_of_ble_eq_true rfl) (Nat.le_of_ble_eq_true rfl) (Nat.le_of_ble_eq_true rfl) (Nat.le_of_ble_eq_true rfl) (in1_s (d + 1) n 1 40) ?_
  rintro _ _ ⟨rfl, rfl⟩
  dsimp only [Option.toList, List.cons_append, List.nil_append]
  refine G_if_eq (pc := 7) (tgt := 21) (by decide) dX12_times_7 (fun c424 => ?_) (fun c424 => ?_)
  · have c424 := gB_z c424
    refine G_iconst (pc := 21) (v := (-1)) (by decide) dX12_times_21 ?_
    exact G_iret (pc := 22) (Nat.le_of_ble_eq_true rfl) (Nat.le_of_ble_eq_true rfl) rfl dX12_times_22 (by first | rfl | (simp [F_times, *]; done) | (have : ¬ (1 ≤ (n).toInt ∧ (n).toInt ≤ 40) := fun z => c424 ⟨Int32.le_iff_toInt_le.mpr z.1, Int32.le_iff_toInt_le.mpr z.2⟩; simp only [F_times, Int32.le_iff_toInt_le, Int32.lt_iff_toInt_lt, ← Int32.toInt_inj]; simp; omega) | (have : ¬ (1 ≤ (n).toInt ∧ (n).toInt ≤ 40) := fun z => c424 ⟨Int32.le_iff_toInt_le.mpr z.1, Int32.le_iff_toInt_le.mpr z.2⟩; simp only [F_times, Int32.le_iff_toInt_le, Int32.lt_iff_toInt_lt, ← Int32.toInt_inj]; split <;> first | rfl | (exfalso; simp at *; omega)) | (have : ¬ (1 ≤ (n).toInt ∧ (n).toInt ≤ 40) := fun z => c424 ⟨Int32.le_iff_toInt_le.mpr z.1, Int32.le_iff_toInt_le.mpr z.2⟩; unfold F_times; (repeat' split) <;> first | rfl | (exfalso; (try simp only [Int32.le_iff_toInt_le, Int32.lt_iff_toInt_lt, ← Int32.toInt_inj] at *); first | omega | (simp at *; done) | (simp at *; omega))))
  · have c424 := gB_o c424
    refine G_iload_n (pc := 10) rfl dX12_times_10 ?_
    refine G_iconst (pc := 11) (v := 0) (by decide) dX12_times_11 ?_
    refine G_sipush (pc := 12) (v := 999) (by decide) dX12_times_12 ?_
    refine G_callS (pc := 15) (mc1 := 0) (ms1 := 0) (mj := mX12_in1) (vs := [_, _, _]) dX12_times_15 cm_X12_in1 wh_0 wh_3 rfl (Nat.le_of_ble_eq_true rfl) (Nat.le_of_ble_eq_true rfl) (Nat.le_of_ble_eq_true rfl) (Nat.le_of_ble_eq_true rfl) (in1_s (d + 1) v 0 999) ?_
    rintro _ _ ⟨rfl, rfl⟩
    dsimp only [Option.toList, List.cons_append, List.nil_append]
    refine G_if_ne (pc := 18) (tgt := 23) (by decide) dX12_times_18 (fun c425 => ?_) (fun c425 => ?_)
    · have c425 := gB_o c425
      refine G_aload_n (pc := 23) rfl dX12_times_23 ?_
      refine G_callV (pc := 24) (mc1 := 0) (ms1 := 0) (ci := 12) (mj := mX12_layDown) (vs := []) dX12_times_24 rfl rfl cm_X12_layDown wh_53 wh_55 wh_56 rfl (Nat.le_of_ble_eq_true rfl) (Nat.le_of_ble_eq_true rfl) (Nat.le_of_ble_eq_true rfl) (Nat.le_of_ble_eq_true rfl) (layDown_s (d + 1) (gmx J)) ?_
      rintro _ _ ⟨rfl, rfl⟩
      dsimp only [Option.toList, List.cons_append, List.nil_append]
      refine G_iconst (pc := 27) (v := 0) (by decide) dX12_times_27 ?_
      refine G_istore_n (pc := 28) (L1 := [some (.ref 67), some (.int n), some (.int v), some (.int 0), none, none, none]) rfl rfl (by decide) dX12_times_28 ?_
      refine G_iconst (pc := 29) (v := 0) (by decide) dX12_times_29 ?_
      refine G_istore (pc := 30) (L1 := [some (.ref 67), some (.int n), some (.int v), some (.int 0), some (.int 0), none, none]) rfl rfl (by decide) dX12_times_30 ?_
      by_cases hv : v = 0
      · subst hv
        have e : F_times n 0 = n := by unfold F_times; rw [if_pos ⟨c424, by decide⟩, if_pos rfl]
        rw [e]
        have : 1 ≤ (n).toInt := Int32.le_iff_toInt_le.mp (c424.1)
        have : (n).toInt ≤ 40 := Int32.le_iff_toInt_le.mp (c424.2)
        exact lm_times0 d n (by omega) 41 0 _ ⟨rfl, rfl, rfl, rfl, rfl, rfl, trivial⟩ (by decide) (by show (0 : Int) ≤ _; omega) (by show _ - (0 : Int) < _; omega)
      · have e : F_times n v = 0 := by unfold F_times; rw [if_pos ⟨c424, c425⟩, if_neg hv]
        rw [e]
        have : 1 ≤ (n).toInt := Int32.le_iff_toInt_le.mp (c424.1)
        have : (n).toInt ≤ 40 := Int32.le_iff_toInt_le.mp (c424.2)
        have : 0 ≤ (v).toInt := Int32.le_iff_toInt_le.mp (c425.1)
        have : (v).toInt ≤ 999 := Int32.le_iff_toInt_le.mp (c425.2)
        have : v.toInt ≠ 0 := g_ne hv
        exact lm_times1 d n v (by omega) (Int32.lt_iff_toInt_lt.mpr (by show (0 : Int) < _; omega)) 41 0 _ ⟨rfl, rfl, rfl, rfl, rfl, rfl, trivial⟩ (by decide) (by show (0 : Int) ≤ _; omega) (by show _ - (0 : Int) < _; omega)
    · have c425 := gB_z c425
      refine G_iconst (pc := 21) (v := (-1)) (by decide) dX12_times_21 ?_
      exact G_iret (pc := 22) (Nat.le_of_ble_eq_true rfl) (Nat.le_of_ble_eq_true rfl) rfl dX12_times_22 (by first | rfl | (simp [F_times, *]; done) | (have : 1 ≤ (n).toInt := Int32.le_iff_toInt_le.mp (c424.1); have : (n).toInt ≤ 40 := Int32.le_iff_toInt_le.mp (c424.2); have : ¬ (0 ≤ (v).toInt ∧ (v).toInt ≤ 999) := fun z => c425 ⟨Int32.le_iff_toInt_le.mpr z.1, Int32.le_iff_toInt_le.mpr z.2⟩; simp only [F_times, Int32.le_iff_toInt_le, Int32.lt_iff_toInt_lt, ← Int32.toInt_inj]; simp; omega) | (have : 1 ≤ (n).toInt := Int32.le_iff_toInt_le.mp (c424.1); have : (n).toInt ≤ 40 := Int32.le_iff_toInt_le.mp (c424.2); have : ¬ (0 ≤ (v).toInt ∧ (v).toInt ≤ 999) := fun z => c425 ⟨Int32.le_iff_toInt_le.mpr z.1, Int32.le_iff_toInt_le.mpr z.2⟩; simp only [F_times, Int32.le_iff_toInt_le, Int32.lt_iff_toInt_lt, ← Int32.toInt_inj]; split <;> first | rfl | (exfalso; simp at *; omega)) | (have : 1 ≤ (n).toInt := Int32.le_iff_toInt_le.mp (c424.1); have : (n).toInt ≤ 40 := Int32.le_iff_toInt_le.mp (c424.2); have : ¬ (0 ≤ (v).toInt ∧ (v).toInt ≤ 999) := fun z => c425 ⟨Int32.le_iff_toInt_le.mpr z.1, Int32.le_iff_toInt_le.mpr z.2⟩; unfold F_times; (repeat' split) <;> first | rfl | (exfalso; (try simp only [Int32.le_iff_toInt_le, Int32.lt_iff_toInt_lt, ← Int32.toInt_inj] at *); first | omega | (simp at *; done) | (simp at *; omega))))
set_option maxRecDepth 100000 in
set_option maxHeartbeats 4000000 in
theorem o10361_X12_shapeBy {I : gI} (d : Nat) (a0 a1 a2 a3 : Int32) : G (d) mX12_shapeBy 0 0 0 0 0 (gent 6 [.int a0, .int a1, .int a2, .int a3]) [] SH0 RF0 I (fun r h => ∃ v, r = some (.int v) ∧ h = (SH0, RF0, I)) := by
  refine G_iload_n (pc := 0) rfl dX12_shapeBy_0 ?_
  refine G_bipush (pc := 1) (v := 10) (by decide) dX12_shapeBy_1 ?_
  refine G_idiv (pc := 3) rfl (by decide) dX12_shapeBy_3 ?_
  refine G_iload_n (pc := 4) rfl dX12_shapeBy_4 ?_
  refine G_bipush (pc := 5) (v := 50) (by decide) dX12_shapeBy_5 ?_
  refine G_idiv (pc := 7) rfl (by decide) dX12_shapeBy_7 ?_
  refine G_iadd (pc := 8) rfl dX12_shapeBy_8 ?_
  refine G_istore (pc := 9) (L1 := [some (.int a0), some (.int a1), some (.int a2), some (.int a3), some (.int ((a1 / 10) + (a1 / 50))), none]) rfl rfl (by decide) dX12_shapeBy_9 ?_
  refine G_iload_n (pc := 11) rfl dX12_shapeBy_11 ?_
  refine G_bipush (pc := 12) (v := 12) (by decide) dX12_shapeBy_12 ?_
  refine G_idiv (pc := 14) rfl (by decide) dX12_shapeBy_14 ?_
  refine G_istore (pc := 15) (L1 := [some (.int a0), some (.int a1), some (.int a2), some (.int a3), some (.int ((a1 / 10) + (a1 / 50))), some (.int (a1 / 12))]) rfl rfl (by decide) dX12_shapeBy_15 ?_
  refine G_iload_n (pc := 17) rfl dX12_shapeBy_17 ?_
  by_cases c427 : a0 = 1
  · subst c427
    refine G_tabIn (pc := 18) (tgt := 52) (off := 34) (by decide) (by decide) (by decide) (by decide) dX12_shapeBy_18 ?_
    refine G_iconst (pc := 52) (v := 5) (by decide) dX12_shapeBy_52 ?_
    exact G_iret (pc := 53) (Nat.le_of_ble_eq_true rfl) (Nat.le_of_ble_eq_true rfl) rfl dX12_shapeBy_53 ⟨_, rfl, rfl⟩
  by_cases c428 : a0 = 2
  · subst c428
    refine G_tabIn (pc := 18) (tgt := 54) (off := 36) (by decide) (by decide) (by decide) (by decide) dX12_shapeBy_18 ?_
    refine G_iload (pc := 54) rfl dX12_shapeBy_54 ?_
    exact G_iret (pc := 56) (Nat.le_of_ble_eq_true rfl) (Nat.le_of_ble_eq_true rfl) rfl dX12_shapeBy_56 ⟨_, rfl, rfl⟩
  by_cases c429 : a0 = 3
  · subst c429
    refine G_tabIn (pc := 18) (tgt := 57) (off := 39) (by decide) (by decide) (by decide) (by decide) dX12_shapeBy_18 ?_
    refine G_iload (pc := 57) rfl dX12_shapeBy_57 ?_
    refine G_iload_n (pc := 59) rfl dX12_shapeBy_59 ?_
    refine G_iconst (pc := 60) (v := 4) (by decide) dX12_shapeBy_60 ?_
    refine G_idiv (pc := 61) rfl (by decide) dX12_shapeBy_61 ?_
    refine G_icmp_le (pc := 62) (tgt := 74) (by decide) dX12_shapeBy_62 (fun c430 => ?_) (fun c430 => ?_)
    · refine G_iconst (pc := 74) (v := 0) (by decide) dX12_shapeBy_74 ?_
      exact G_iret (pc := 75) (Nat.le_of_ble_eq_true rfl) (Nat.le_of_ble_eq_true rfl) rfl dX12_shapeBy_75 ⟨_, rfl, rfl⟩
    · refine G_iload (pc := 65) rfl dX12_shapeBy_65 ?_
      refine G_iload_n (pc := 67) rfl dX12_shapeBy_67 ?_
      refine G_iconst (pc := 68) (v := 4) (by decide) dX12_shapeBy_68 ?_
      refine G_idiv (pc := 69) rfl (by decide) dX12_shapeBy_69 ?_
      refine G_isub (pc := 70) rfl dX12_shapeBy_70 ?_
      refine G_goto (pc := 71) (tgt := 75) (by decide) dX12_shapeBy_71 ?_
      exact G_iret (pc := 75) (Nat.le_of_ble_eq_true rfl) (Nat.le_of_ble_eq_true rfl) rfl dX12_shapeBy_75 ⟨_, rfl, rfl⟩
  by_cases c431 : a0 = 4
  · subst c431
    refine G_tabIn (pc := 18) (tgt := 76) (off := 58) (by decide) (by decide) (by decide) (by decide) dX12_shapeBy_18 ?_
    refine G_iload (pc := 76) rfl dX12_shapeBy_76 ?_
    exact G_iret (pc := 78) (Nat.le_of_ble_eq_true rfl) (Nat.le_of_ble_eq_true rfl) rfl dX12_shapeBy_78 ⟨_, rfl, rfl⟩
  by_cases c432 : a0 = 5
  · subst c432
    refine G_tabIn (pc := 18) (tgt := 79) (off := 61) (by decide) (by decide) (by decide) (by decide) dX12_shapeBy_18 ?_
    refine G_iload (pc := 79) rfl dX12_shapeBy_79 ?_
    refine G_iload_n (pc := 81) rfl dX12_shapeBy_81 ?_
    refine G_iadd (pc := 82) rfl dX12_shapeBy_82 ?_
    refine G_bipush (pc := 83) (v := 9) (by decide) dX12_shapeBy_83 ?_
    refine G_icmp_le (pc := 85) (tgt := 93) (by decide) dX12_shapeBy_85 (fun c433 => ?_) (fun c433 => ?_)
    · refine G_iload (pc := 93) rfl dX12_shapeBy_93 ?_
      refine G_iload_n (pc := 95) rfl dX12_shapeBy_95 ?_
      refine G_iadd (pc := 96) rfl dX12_shapeBy_96 ?_
      exact G_iret (pc := 97) (Nat.le_of_ble_eq_true rfl) (Nat.le_of_ble_eq_true rfl) rfl dX12_shapeBy_97 ⟨_, rfl, rfl⟩
    · refine G_bipush (pc := 88) (v := 9) (by decide) dX12_shapeBy_88 ?_
      refine G_goto (pc := 90) (tgt := 97) (by decide) dX12_shapeBy_90 ?_
      exact G_iret (pc := 97) (Nat.le_of_ble_eq_true rfl) (Nat.le_of_ble_eq_true rfl) rfl dX12_shapeBy_97 ⟨_, rfl, rfl⟩
  refine G_tabOut (pc := 18) (tgt := 98) (by decide) (by have : (a0).toInt ≠ 1 := g_ne c427; have : (a0).toInt ≠ 2 := g_ne c428; have : (a0).toInt ≠ 3 := g_ne c429; have : (a0).toInt ≠ 4 := g_ne c431; have : (a0).toInt ≠ 5 := g_ne c432; omega) dX12_shapeBy_18 ?_
  refine G_iload_n (pc := 98) rfl dX12_shapeBy_98 ?_
  refine G_bipush (pc := 99) (v := 10) (by decide) dX12_shapeBy_99 ?_
  refine G_idiv (pc := 101) rfl (by decide) dX12_shapeBy_101 ?_
  exact G_iret (pc := 102) (Nat.le_of_ble_eq_true rfl) (Nat.le_of_ble_eq_true rfl) rfl dX12_shapeBy_102 ⟨_, rfl, rfl⟩
set_option maxRecDepth 100000 in
set_option maxHeartbeats 4000000 in
theorem o10362_X12_meltsBy {I : gI} (d : Nat) (a0 a1 a2 a3 : Int32) : G (d) mX12_meltsBy 0 0 0 0 0 (gent 6 [.int a0, .int a1, .int a2, .int a3]) [] SH0 RF0 I (fun r h => ∃ v, r = some (.int v) ∧ h = (SH0, RF0, I)) := by
  refine G_iconst (pc := 0) (v := 3) (by decide) dX12_meltsBy_0 ?_
  refine G_iconst (pc := 1) (v := 2) (by decide) dX12_meltsBy_1 ?_
  refine G_iload_n (pc := 2) rfl dX12_meltsBy_2 ?_
  refine G_imul (pc := 3) rfl dX12_meltsBy_3 ?_
  refine G_iadd (pc := 4) rfl dX12_meltsBy_4 ?_
  refine G_istore (pc := 5) (L1 := [some (.int a0), some (.int a1), some (.int a2), some (.int a3), some (.int (3 + (2 * a1))), none]) rfl rfl (by decide) dX12_meltsBy_5 ?_
  refine G_iconst (pc := 7) (v := 2) (by decide) dX12_meltsBy_7 ?_
  refine G_iload (pc := 8) rfl dX12_meltsBy_8 ?_
  refine G_imul (pc := 10) rfl dX12_meltsBy_10 ?_
  refine G_iload_n (pc := 11) rfl dX12_meltsBy_11 ?_
  refine G_isub (pc := 12) rfl dX12_meltsBy_12 ?_
  refine G_istore (pc := 13) (L1 := [some (.int a0), some (.int a1), some (.int a2), some (.int a3), some (.int (3 + (2 * a1))), some (.int ((2 * (3 + (2 * a1))) - a2))]) rfl rfl (by decide) dX12_meltsBy_13 ?_
  refine G_iload_n (pc := 15) rfl dX12_meltsBy_15 ?_
  by_cases c435 : a0 = 1
  · subst c435
    refine G_tabIn (pc := 16) (tgt := 52) (off := 36) (by decide) (by decide) (by decide) (by decide) dX12_meltsBy_16 ?_
    refine G_iconst (pc := 52) (v := 0) (by decide) dX12_meltsBy_52 ?_
    exact G_iret (pc := 53) (Nat.le_of_ble_eq_true rfl) (Nat.le_of_ble_eq_true rfl) rfl dX12_meltsBy_53 ⟨_, rfl, rfl⟩
  by_cases c436 : a0 = 2
  · subst c436
    refine G_tabIn (pc := 16) (tgt := 54) (off := 38) (by decide) (by decide) (by decide) (by decide) dX12_meltsBy_16 ?_
    refine G_iload (pc := 54) rfl dX12_meltsBy_54 ?_
    refine G_if_le (pc := 56) (tgt := 64) (by decide) dX12_meltsBy_56 (fun c437 => ?_) (fun c437 => ?_)
    · refine G_iconst (pc := 64) (v := 0) (by decide) dX12_meltsBy_64 ?_
      exact G_iret (pc := 65) (Nat.le_of_ble_eq_true rfl) (Nat.le_of_ble_eq_true rfl) rfl dX12_meltsBy_65 ⟨_, rfl, rfl⟩
    · refine G_iload (pc := 59) rfl dX12_meltsBy_59 ?_
      refine G_goto (pc := 61) (tgt := 65) (by decide) dX12_meltsBy_61 ?_
      exact G_iret (pc := 65) (Nat.le_of_ble_eq_true rfl) (Nat.le_of_ble_eq_true rfl) rfl dX12_meltsBy_65 ⟨_, rfl, rfl⟩
  by_cases c438 : a0 = 3
  · subst c438
    refine G_tabIn (pc := 16) (tgt := 66) (off := 50) (by decide) (by decide) (by decide) (by decide) dX12_meltsBy_16 ?_
    refine G_iload (pc := 66) rfl dX12_meltsBy_66 ?_
    refine G_if_le (pc := 68) (tgt := 78) (by decide) dX12_meltsBy_68 (fun c439 => ?_) (fun c439 => ?_)
    · refine G_iconst (pc := 78) (v := 0) (by decide) dX12_meltsBy_78 ?_
      exact G_iret (pc := 79) (Nat.le_of_ble_eq_true rfl) (Nat.le_of_ble_eq_true rfl) rfl dX12_meltsBy_79 ⟨_, rfl, rfl⟩
    · refine G_iload (pc := 71) rfl dX12_meltsBy_71 ?_
      refine G_iconst (pc := 73) (v := 2) (by decide) dX12_meltsBy_73 ?_
      refine G_idiv (pc := 74) rfl (by decide) dX12_meltsBy_74 ?_
      refine G_goto (pc := 75) (tgt := 79) (by decide) dX12_meltsBy_75 ?_
      exact G_iret (pc := 79) (Nat.le_of_ble_eq_true rfl) (Nat.le_of_ble_eq_true rfl) rfl dX12_meltsBy_79 ⟨_, rfl, rfl⟩
  by_cases c440 : a0 = 4
  · subst c440
    refine G_tabIn (pc := 16) (tgt := 80) (off := 64) (by decide) (by decide) (by decide) (by decide) dX12_meltsBy_16 ?_
    refine G_iload_n (pc := 80) rfl dX12_meltsBy_80 ?_
    refine G_iload_n (pc := 81) rfl dX12_meltsBy_81 ?_
    refine G_imul (pc := 82) rfl dX12_meltsBy_82 ?_
    exact G_iret (pc := 83) (Nat.le_of_ble_eq_true rfl) (Nat.le_of_ble_eq_true rfl) rfl dX12_meltsBy_83 ⟨_, rfl, rfl⟩
  by_cases c441 : a0 = 5
  · subst c441
    refine G_tabIn (pc := 16) (tgt := 84) (off := 68) (by decide) (by decide) (by decide) (by decide) dX12_meltsBy_16 ?_
    refine G_iload_n (pc := 84) rfl dX12_meltsBy_84 ?_
    refine G_iload_n (pc := 85) rfl dX12_meltsBy_85 ?_
    refine G_imul (pc := 86) rfl dX12_meltsBy_86 ?_
    refine G_iload_n (pc := 87) rfl dX12_meltsBy_87 ?_
    refine G_iconst (pc := 88) (v := 3) (by decide) dX12_meltsBy_88 ?_
    refine G_idiv (pc := 89) rfl (by decide) dX12_meltsBy_89 ?_
    refine G_iadd (pc := 90) rfl dX12_meltsBy_90 ?_
    exact G_iret (pc := 91) (Nat.le_of_ble_eq_true rfl) (Nat.le_of_ble_eq_true rfl) rfl dX12_meltsBy_91 ⟨_, rfl, rfl⟩
  refine G_tabOut (pc := 16) (tgt := 92) (by decide) (by have : (a0).toInt ≠ 1 := g_ne c435; have : (a0).toInt ≠ 2 := g_ne c436; have : (a0).toInt ≠ 3 := g_ne c438; have : (a0).toInt ≠ 4 := g_ne c440; have : (a0).toInt ≠ 5 := g_ne c441; omega) dX12_meltsBy_16 ?_
  refine G_iload (pc := 92) rfl dX12_meltsBy_92 ?_
  exact G_iret (pc := 94) (Nat.le_of_ble_eq_true rfl) (Nat.le_of_ble_eq_true rfl) rfl dX12_meltsBy_94 ⟨_, rfl, rfl⟩
set_option maxRecDepth 100000 in
set_option maxHeartbeats 4000000 in
theorem o10363_X12_held {I : gI} (d : Nat) (a0 a1 : Int32) : G (d) mX12_held 0 0 0 0 0 (gent 2 [.int a0, .int a1]) [] SH0 RF0 I (fun r h => ∃ v, r = some (.int v) ∧ h = (SH0, RF0, I)) := by
  refine G_iload_n (pc := 0) rfl dX12_held_0 ?_
  refine G_if_ge (pc := 1) (tgt := 8) (by decide) dX12_held_1 (fun c444 => ?_) (fun c444 => ?_)
  · refine G_iload_n (pc := 8) rfl dX12_held_8 ?_
    refine G_iload_n (pc := 9) rfl dX12_held_9 ?_
    refine G_icmp_le (pc := 10) (tgt := 17) (by decide) dX12_held_10 (fun c445 => ?_) (fun c445 => ?_)
    · refine G_iload_n (pc := 17) rfl dX12_held_17 ?_
      exact G_iret (pc := 18) (Nat.le_of_ble_eq_true rfl) (Nat.le_of_ble_eq_true rfl) rfl dX12_held_18 ⟨_, rfl, rfl⟩
    · refine G_iload_n (pc := 13) rfl dX12_held_13 ?_
      refine G_goto (pc := 14) (tgt := 18) (by decide) dX12_held_14 ?_
      exact G_iret (pc := 18) (Nat.le_of_ble_eq_true rfl) (Nat.le_of_ble_eq_true rfl) rfl dX12_held_18 ⟨_, rfl, rfl⟩
  · refine G_iconst (pc := 4) (v := 0) (by decide) dX12_held_4 ?_
    refine G_goto (pc := 5) (tgt := 18) (by decide) dX12_held_5 ?_
    exact G_iret (pc := 18) (Nat.le_of_ble_eq_true rfl) (Nat.le_of_ble_eq_true rfl) rfl dX12_held_18 ⟨_, rfl, rfl⟩
set_option maxRecDepth 100000 in
set_option maxHeartbeats 4000000 in
theorem lm_tells  (d : Nat) (K : gI) (k sw t0 : Int32) (f : Nat) : ∀ (t i : Int32) (I : gI), (True) → (∀ a, a ≠ 79 → a ≠ 80 → I a = K a) → 0 ≤ i.toInt → i.toInt ≤ 16 → 16 - i.toInt < f → G (d + 1) mX12_tellsLone 0 0 0 0 6 [some (.ref 67), some (.int k), some (.int sw), some (.int t0), some (.int t), some (.int i), none, none] [] SH0 RF0 I (fun r h => r = none ∧ ∃ I1, h = (SH0, RF0, I1) ∧ ∀ a, a ≠ 79 → a ≠ 80 → I1 a = K a) := by
  induction f with
  | zero => intro t i I hI hK h0 h1 hf; exfalso; omega
  | succ f ih =>
    intro t i I hI hK h0 h1 hf
    refine G_iload (pc := 6) rfl dX12_tellsLone_6 ?_
    refine G_bipush (pc := 8) (v := 16) (by decide) dX12_tellsLone_8 ?_
    refine G_icmp_ge (pc := 10) (tgt := 97) (by decide) dX12_tellsLone_10 (fun c426 => ?_) (fun c426 => ?_)
    · exact G_vret (pc := 97) (Nat.le_of_ble_eq_true rfl) (Nat.le_of_ble_eq_true rfl) rfl dX12_tellsLone_97 ⟨rfl, _, rfl, hK⟩
    · refine G_aload_n (pc := 13) rfl dX12_tellsLone_13 ?_
      refine G_getR (pc := 14) (r := 79) (ci := 12) (j := 23) rfl lk_RX12_44 rfl rfl rfl dX12_tellsLone_14 ?_
      refine G_iload (pc := 17) rfl dX12_tellsLone_17 ?_
      refine G_iload (pc := 19) rfl dX12_tellsLone_19 ?_
      refine G_iast (pc := 21) (nn := 16) rfl rfl (by have e := Int32.lt_iff_toInt_lt.mp (Int32.not_le.mp c426); have e1 : (16 : Int32).toInt = 16 := rfl; exact g_in (by omega) (by omega)) dX12_tellsLone_21 ?_
      refine G_aload_n (pc := 22) rfl dX12_tellsLone_22 ?_
      refine G_getR (pc := 23) (r := 80) (ci := 12) (j := 24) rfl lk_RX12_47 rfl rfl rfl dX12_tellsLone_23 ?_
      refine G_iload (pc := 26) rfl dX12_tellsLone_26 ?_
      refine G_iload_n (pc := 28) rfl dX12_tellsLone_28 ?_
      refine G_iload (pc := 29) rfl dX12_tellsLone_29 ?_
      refine G_iload_n (pc := 31) rfl dX12_tellsLone_31 ?_
      refine G_iconst (pc := 32) (v := 0) (by decide) dX12_tellsLone_32 ?_
      refine G_callS (pc := 33) (mc1 := 0) (ms1 := 0) (mj := mX12_shapeBy) (vs := [_, _, _, _]) dX12_tellsLone_33 cm_X12_shapeBy wh_127 wh_129 rfl (Nat.le_of_ble_eq_true rfl) (Nat.le_of_ble_eq_true rfl) (Nat.le_of_ble_eq_true rfl) (Nat.le_of_ble_eq_true rfl) (o10361_X12_shapeBy  d _ _ _ _) ?_
      rintro _ _ ⟨v434, rfl, rfl⟩
      dsimp only [Option.toList, List.cons_append, List.nil_append]
      refine G_iast (pc := 36) (nn := 16) rfl rfl (by have e := Int32.lt_iff_toInt_lt.mp (Int32.not_le.mp c426); have e1 : (16 : Int32).toInt = 16 := rfl; exact g_in (by omega) (by omega)) dX12_tellsLone_36 ?_
      refine G_aload_n (pc := 37) rfl dX12_tellsLone_37 ?_
      refine G_getR (pc := 38) (r := 68) (ci := 12) (j := 0) rfl lk_RX12_9 rfl rfl rfl dX12_tellsLone_38 ?_
      refine G_bipush (pc := 41) (v := 7) (by decide) dX12_tellsLone_41 ?_
      refine G_iload (pc := 43) rfl dX12_tellsLone_43 ?_
      refine G_iadd (pc := 45) rfl dX12_tellsLone_45 ?_
      refine G_iald (pc := 46) (nn := 313) rfl rfl rfl (by have e := Int32.lt_iff_toInt_lt.mp (Int32.not_le.mp c426); have e1 : (16 : Int32).toInt = 16 := rfl; have e4 : ((7 + i) : Int32).toInt = 7 + i.toInt := g_addc rfl (by omega) (by omega); exact g_in (by omega) (by omega)) dX12_tellsLone_46 ?_
      refine G_istore (pc := 47) (L1 := [some (.ref 67), some (.int k), some (.int sw), some (.int t0), some (.int t), some (.int i), some (.int ((gup (gup I 79 (i).toNatClampNeg t) 80 (i).toNatClampNeg v434) 68 ((7 + i)).toNatClampNeg)), none]) rfl rfl (by decide) dX12_tellsLone_47 ?_
      refine G_iload_n (pc := 49) rfl dX12_tellsLone_49 ?_
      refine G_iload (pc := 50) rfl dX12_tellsLone_50 ?_
      refine G_iconst (pc := 52) (v := 4) (by decide) dX12_tellsLone_52 ?_
      refine G_idiv (pc := 53) rfl (by decide) dX12_tellsLone_53 ?_
      refine G_iload (pc := 54) rfl dX12_tellsLone_54 ?_
      refine G_iconst (pc := 56) (v := 4) (by decide) dX12_tellsLone_56 ?_
      refine G_irem (pc := 57) rfl (by decide) dX12_tellsLone_57 ?_
      refine G_iload (pc := 58) rfl dX12_tellsLone_58 ?_
      refine G_callS (pc := 60) (mc1 := 0) (ms1 := 0) (mj := mX12_meltsBy) (vs := [_, _, _, _]) dX12_tellsLone_60 cm_X12_meltsBy wh_130 wh_132 rfl (Nat.le_of_ble_eq_true rfl) (Nat.le_of_ble_eq_true rfl) (Nat.le_of_ble_eq_true rfl) (Nat.le_of_ble_eq_true rfl) (o10362_X12_meltsBy  d _ _ _ _) ?_
      rintro _ _ ⟨v442, rfl, rfl⟩
      dsimp only [Option.toList, List.cons_append, List.nil_append]
      refine G_iload_n (pc := 63) rfl dX12_tellsLone_63 ?_
      refine G_iconst (pc := 64) (v := 3) (by decide) dX12_tellsLone_64 ?_
      refine G_idiv (pc := 65) rfl (by decide) dX12_tellsLone_65 ?_
      refine G_isub (pc := 66) rfl dX12_tellsLone_66 ?_
      refine G_istore (pc := 67) (L1 := [some (.ref 67), some (.int k), some (.int sw), some (.int t0), some (.int t), some (.int i), some (.int ((gup (gup I 79 (i).toNatClampNeg t) 80 (i).toNatClampNeg v434) 68 ((7 + i)).toNatClampNeg)), some (.int (v442 - (sw / 3)))]) rfl rfl (by decide) dX12_tellsLone_67 ?_
      refine G_iload (pc := 69) rfl dX12_tellsLone_69 ?_
      refine G_if_le (pc := 71) (tgt := 87) (by decide) dX12_tellsLone_71 (fun c443 => ?_) (fun c443 => ?_)
      · refine G_iload (pc := 87) rfl dX12_tellsLone_87 ?_
        refine G_istore (pc := 89) (L1 := [some (.ref 67), some (.int k), some (.int sw), some (.int t0), some (.int t), some (.int i), some (.int ((gup (gup I 79 (i).toNatClampNeg t) 80 (i).toNatClampNeg v434) 68 ((7 + i)).toNatClampNeg)), some (.int (v442 - (sw / 3)))]) rfl rfl (by decide) dX12_tellsLone_89 ?_
        refine G_iinc (pc := 91) (v := 1) (w := (i + 1)) (L1 := [some (.ref 67), some (.int k), some (.int sw), some (.int t0), some (.int t), some (.int (i + 1)), some (.int ((gup (gup I 79 (i).toNatClampNeg t) 80 (i).toNatClampNeg v434) 68 ((7 + i)).toNatClampNeg)), some (.int (v442 - (sw / 3)))]) rfl rfl rfl (by decide) rfl (by decide) dX12_tellsLone_91 ?_
        refine G_goto (pc := 94) (tgt := 6) (by decide) dX12_tellsLone_94 ?_
        have e := Int32.lt_iff_toInt_lt.mp (Int32.not_le.mp c426)
        have e1 : (16 : Int32).toInt = 16 := rfl
        have e2 : (i + 1).toInt = i.toInt + 1 := g_inc (by omega)
        refine G_drop 6 rfl ?_
        refine G_drop 7 rfl ?_
        exact ih _ (i + 1) _ trivial (fun a z1 z2 => by rw [gup_ne z2]; rw [gup_ne z1]; exact hK a z1 z2) (by omega) (by omega) (by omega)
      · refine G_iload (pc := 74) rfl dX12_tellsLone_74 ?_
        refine G_iload (pc := 76) rfl dX12_tellsLone_76 ?_
        refine G_isub (pc := 78) rfl dX12_tellsLone_78 ?_
        refine G_bipush (pc := 79) (v := 99) (by decide) dX12_tellsLone_79 ?_
        refine G_callS (pc := 81) (mc1 := 0) (ms1 := 0) (mj := mX12_held) (vs := [_, _]) dX12_tellsLone_81 cm_X12_held wh_133 wh_135 rfl (Nat.le_of_ble_eq_true rfl) (Nat.le_of_ble_eq_true rfl) (Nat.le_of_ble_eq_true rfl) (Nat.le_of_ble_eq_true rfl) (o10363_X12_held  d _ _) ?_
        rintro _ _ ⟨v446, rfl, rfl⟩
        dsimp only [Option.toList, List.cons_append, List.nil_append]
        refine G_goto (pc := 84) (tgt := 89) (by decide) dX12_tellsLone_84 ?_
        refine G_istore (pc := 89) (L1 := [some (.ref 67), some (.int k), some (.int sw), some (.int t0), some (.int v446), some (.int i), some (.int ((gup (gup I 79 (i).toNatClampNeg t) 80 (i).toNatClampNeg v434) 68 ((7 + i)).toNatClampNeg)), some (.int (v442 - (sw / 3)))]) rfl rfl (by decide) dX12_tellsLone_89 ?_
        refine G_iinc (pc := 91) (v := 1) (w := (i + 1)) (L1 := [some (.ref 67), some (.int k), some (.int sw), some (.int t0), some (.int v446), some (.int (i + 1)), some (.int ((gup (gup I 79 (i).toNatClampNeg t) 80 (i).toNatClampNeg v434) 68 ((7 + i)).toNatClampNeg)), some (.int (v442 - (sw / 3)))]) rfl rfl rfl (by decide) rfl (by decide) dX12_tellsLone_91 ?_
        refine G_goto (pc := 94) (tgt := 6) (by decide) dX12_tellsLone_94 ?_
        have e := Int32.lt_iff_toInt_lt.mp (Int32.not_le.mp c426)
        have e1 : (16 : Int32).toInt = 16 := rfl
        have e2 : (i + 1).toInt = i.toInt + 1 := g_inc (by omega)
        refine G_drop 6 rfl ?_
        refine G_drop 7 rfl ?_
        exact ih _ (i + 1) _ trivial (fun a z1 z2 => by rw [gup_ne z2]; rw [gup_ne z1]; exact hK a z1 z2) (by omega) (by omega) (by omega)
set_option maxRecDepth 100000 in
set_option maxHeartbeats 4000000 in
theorem tells_s (d : Nat) (I : gI) (k sw t0 : Int32) : G (d + 1) mX12_tellsLone 0 0 0 0 0 (gent 8 [.ref 67, .int k, .int sw, .int t0]) [] SH0 RF0 I (fun r h => r = none ∧ ∃ I1, h = (SH0, RF0, I1) ∧ ∀ a, a ≠ 79 → a ≠ 80 → I1 a = I a) := by
  refine G_iload_n (pc := 0) rfl dX12_tellsLone_0 ?_
  refine G_istore (pc := 1) (L1 := [some (.ref 67), some (.int k), some (.int sw), some (.int t0), some (.int t0), none, none, none]) rfl rfl (by decide) dX12_tellsLone_1 ?_
  refine G_iconst (pc := 3) (v := 0) (by decide) dX12_tellsLone_3 ?_
  refine G_istore (pc := 4) (L1 := [some (.ref 67), some (.int k), some (.int sw), some (.int t0), some (.int t0), some (.int 0), none, none]) rfl rfl (by decide) dX12_tellsLone_4 ?_
  exact lm_tells d _ _ _ _ 17 _ 0 _ trivial (fun _ _ _ => rfl) (by decide) (by decide) (by decide)
set_option maxRecDepth 100000 in
set_option maxHeartbeats 4000000 in
theorem lm_fit  (d : Nat)  (f : Nat) : ∀ (i : Int32) (I : gI), (I 68 6 = 0 ∧ I 67 25 = 0 ∧ True) → 0 ≤ i.toInt → i.toInt ≤ 500 → 500 - i.toInt < f → G (d + 2) mX12_fitting 0 0 0 0 9 [some (.ref 67), some (.int (-1)), some (.int i), some (.int i), none, none] [] SH0 RF0 I (fun r h => r = some (.int 500) ∧ ∃ I1, h = (SH0, RF0, I1) ∧ I1 68 6 = 0 ∧ I1 67 25 = 0 ∧ True) := by
  induction f with
  | zero => intro i I hI h0 h1 hf; exfalso; omega
  | succ f ih =>
    intro i I hI h0 h1 hf
    refine G_iload_n (pc := 9) rfl dX12_fitting_9 ?_
    refine G_sipush (pc := 10) (v := 500) (by decide) dX12_fitting_10 ?_
    refine G_icmp_ge (pc := 13) (tgt := 137) (by decide) dX12_fitting_13 (fun c447 => ?_) (fun c447 => ?_)
    · refine G_iload_n (pc := 137) rfl dX12_fitting_137 ?_
      exact G_iret (pc := 138) (Nat.le_of_ble_eq_true rfl) (Nat.le_of_ble_eq_true rfl) rfl dX12_fitting_138 ⟨by rw [show i = 500 from Int32.toInt_inj.mp (by have := Int32.le_iff_toInt_le.mp c447; have e1 : (500 : Int32).toInt = 500 := rfl; omega)], _, rfl, ⟨(hI.1), (hI.2.1), trivial⟩⟩
    · refine G_aload_n (pc := 16) rfl dX12_fitting_16 ?_
      refine G_iconst (pc := 17) (v := 1) (by decide) dX12_fitting_17 ?_
      refine G_iload_n (pc := 18) rfl dX12_fitting_18 ?_
      refine G_bipush (pc := 19) (v := 100) (by decide) dX12_fitting_19 ?_
      refine G_idiv (pc := 21) rfl (by decide) dX12_fitting_21 ?_
      refine G_iadd (pc := 22) rfl dX12_fitting_22 ?_
      refine G_iload_n (pc := 23) rfl dX12_fitting_23 ?_
      refine G_bipush (pc := 24) (v := 10) (by decide) dX12_fitting_24 ?_
      refine G_idiv (pc := 26) rfl (by decide) dX12_fitting_26 ?_
      refine G_bipush (pc := 27) (v := 10) (by decide) dX12_fitting_27 ?_
      refine G_irem (pc := 29) rfl (by decide) dX12_fitting_29 ?_
      refine G_bipush (pc := 30) (v := 10) (by decide) dX12_fitting_30 ?_
      refine G_iload_n (pc := 32) rfl dX12_fitting_32 ?_
      refine G_bipush (pc := 33) (v := 10) (by decide) dX12_fitting_33 ?_
      refine G_irem (pc := 35) rfl (by decide) dX12_fitting_35 ?_
      refine G_imul (pc := 36) rfl dX12_fitting_36 ?_
      refine G_bipush (pc := 37) (v := 9) (by decide) dX12_fitting_37 ?_
      refine G_iadd (pc := 39) rfl dX12_fitting_39 ?_
      refine G_callV (pc := 40) (mc1 := 0) (ms1 := 0) (ci := 12) (mj := mX12_tellsLone) (vs := [_, _, _]) dX12_fitting_40 rfl rfl cm_X12_tellsLone wh_136 wh_138 wh_139 rfl (Nat.le_of_ble_eq_true rfl) (Nat.le_of_ble_eq_true rfl) (Nat.le_of_ble_eq_true rfl) (Nat.le_of_ble_eq_true rfl) (tells_s d I _ _ _) ?_
      rintro _ _ ⟨rfl, I448, rfl, h448⟩; have k448 : I448 68 6 = 0 ∧ I448 67 25 = 0 ∧ True := ⟨(congrFun (h448 68 (by decide) (by decide)) 6).trans (hI.1), (congrFun (h448 67 (by decide) (by decide)) 25).trans (hI.2.1), trivial⟩
      dsimp only [Option.toList, List.cons_append, List.nil_append]
      refine G_iconst (pc := 43) (v := 1) (by decide) dX12_fitting_43 ?_
      refine G_istore (pc := 44) (L1 := [some (.ref 67), some (.int (-1)), some (.int i), some (.int i), some (.int 1), none]) rfl rfl (by decide) dX12_fitting_44 ?_
      refine G_iconst (pc := 46) (v := 0) (by decide) dX12_fitting_46 ?_
      refine G_istore (pc := 47) (L1 := [some (.ref 67), some (.int (-1)), some (.int i), some (.int i), some (.int 1), some (.int 0)]) rfl rfl (by decide) dX12_fitting_47 ?_
      refine G_iload (pc := 49) rfl dX12_fitting_49 ?_
      refine G_aload_n (pc := 51) rfl dX12_fitting_51 ?_
      refine G_getR (pc := 52) (r := 68) (ci := 12) (j := 0) rfl lk_RX12_9 rfl rfl rfl dX12_fitting_52 ?_
      refine G_bipush (pc := 55) (v := 6) (by decide) dX12_fitting_55 ?_
      refine G_iald (pc := 57) (jj := 6) (v := 0) (by decide) (k448.1) rfl (by unfold vp_in; decide) dX12_fitting_57 ?_
      refine G_icmp_ge (pc := 58) (tgt := 94) (by decide) dX12_fitting_58 (fun _ => ?_) (fun z => absurd (by decide) z)
      refine G_iload_n (pc := 94) rfl dX12_fitting_94 ?_
      refine G_iload (pc := 95) rfl dX12_fitting_95 ?_
      refine G_if_eq (pc := 97) (tgt := 104) (by decide) dX12_fitting_97 (fun z => absurd z (by decide)) (fun _ => ?_)
      refine G_iconst (pc := 100) (v := 1) (by decide) dX12_fitting_100 ?_
      refine G_goto (pc := 101) (tgt := 105) (by decide) dX12_fitting_101 ?_
      refine G_iadd (pc := 105) rfl dX12_fitting_105 ?_
      refine G_istore_n (pc := 106) (L1 := [some (.ref 67), some (.int (-1)), some (.int (i + 1)), some (.int i), some (.int 1), some (.int 0)]) rfl rfl (by decide) dX12_fitting_106 ?_
      refine G_aload_n (pc := 107) rfl dX12_fitting_107 ?_
      refine G_iload (pc := 108) rfl dX12_fitting_108 ?_
      refine G_if_eq (pc := 110) (tgt := 124) (by decide) dX12_fitting_110 (fun z => absurd z (by decide)) (fun _ => ?_)
      refine G_aload_n (pc := 113) rfl dX12_fitting_113 ?_
      refine G_getI (pc := 114) (v := 0) (ci := 12) (j := 25) (k448.2.1) rfl lk_RX12_301 rfl rfl dX12_fitting_114 ?_
      refine G_if_ge (pc := 117) (tgt := 124) (by decide) dX12_fitting_117 (fun _ => ?_) (fun z => absurd (by decide) z)
      refine G_aload_n (pc := 124) rfl dX12_fitting_124 ?_
      refine G_getI (pc := 125) (v := 0) (ci := 12) (j := 25) (k448.2.1) rfl lk_RX12_301 rfl rfl dX12_fitting_125 ?_
      refine G_putI (pc := 128) (ci := 12) (j := 25) rfl lk_RX12_301 rfl rfl rfl trivial dX12_fitting_128 ?_
      refine G_iinc (pc := 131) (v := 1) (w := (i + 1)) (L1 := [some (.ref 67), some (.int (-1)), some (.int (i + 1)), some (.int (i + 1)), some (.int 1), some (.int 0)]) rfl rfl rfl (by decide) rfl (by decide) dX12_fitting_131 ?_
      refine G_goto (pc := 134) (tgt := 9) (by decide) dX12_fitting_134 ?_
      have e := Int32.lt_iff_toInt_lt.mp (Int32.not_le.mp c447)
      have e1 : (500 : Int32).toInt = 500 := rfl
      have e2 : (i + 1).toInt = i.toInt + 1 := g_inc (by omega)
      refine G_drop 4 rfl ?_
      refine G_drop 5 rfl ?_
      exact ih (i + 1) _ ⟨(k448.1), rfl, trivial⟩ (by omega) (by omega) (by omega)
set_option maxRecDepth 100000 in
set_option maxHeartbeats 4000000 in
theorem fit_s (J : gI) (d : Nat) : G (d + 2) mX12_fitting 0 0 0 0 0 (gent 6 [.ref 67, .int (-1)]) [] SH0 RF0 (gmx J) (fun r h => r = some (.int 500) ∧ ∃ I1, h = (SH0, RF0, I1) ∧ I1 68 6 = 0 ∧ I1 67 25 = 0 ∧ True) := by
  refine G_iconst (pc := 0) (v := 0) (by decide) dX12_fitting_0 ?_
  refine G_istore_n (pc := 1) (L1 := [some (.ref 67), some (.int (-1)), some (.int 0), none, none, none]) rfl rfl (by decide) dX12_fitting_1 ?_
  refine G_aload_n (pc := 2) rfl dX12_fitting_2 ?_
  refine G_iconst (pc := 3) (v := (-1)) (by decide) dX12_fitting_3 ?_
  refine G_putI (pc := 4) (ci := 12) (j := 25) rfl lk_RX12_301 rfl rfl rfl trivial dX12_fitting_4 ?_
  refine G_iconst (pc := 7) (v := 0) (by decide) dX12_fitting_7 ?_
  refine G_istore_n (pc := 8) (L1 := [some (.ref 67), some (.int (-1)), some (.int 0), some (.int 0), none, none]) rfl rfl (by decide) dX12_fitting_8 ?_
  refine G_iload_n (pc := 9) rfl dX12_fitting_9 ?_
  refine G_sipush (pc := 10) (v := 500) (by decide) dX12_fitting_10 ?_
  refine G_icmp_ge (pc := 13) (tgt := 137) (by decide) dX12_fitting_13 (fun z => absurd z (by decide)) (fun _ => ?_)
  refine G_aload_n (pc := 16) rfl dX12_fitting_16 ?_
  refine G_iconst (pc := 17) (v := 1) (by decide) dX12_fitting_17 ?_
  refine G_iload_n (pc := 18) rfl dX12_fitting_18 ?_
  refine G_bipush (pc := 19) (v := 100) (by decide) dX12_fitting_19 ?_
  refine G_idiv (pc := 21) (z := 0) (by decide) (by decide) dX12_fitting_21 ?_
  refine G_iadd (pc := 22) (z := 1) (by decide) dX12_fitting_22 ?_
  refine G_iload_n (pc := 23) rfl dX12_fitting_23 ?_
  refine G_bipush (pc := 24) (v := 10) (by decide) dX12_fitting_24 ?_
  refine G_idiv (pc := 26) (z := 0) (by decide) (by decide) dX12_fitting_26 ?_
  refine G_bipush (pc := 27) (v := 10) (by decide) dX12_fitting_27 ?_
  refine G_irem (pc := 29) (z := 0) (by decide) (by decide) dX12_fitting_29 ?_
  refine G_bipush (pc := 30) (v := 10) (by decide) dX12_fitting_30 ?_
  refine G_iload_n (pc := 32) rfl dX12_fitting_32 ?_
  refine G_bipush (pc := 33) (v := 10) (by decide) dX12_fitting_33 ?_
  refine G_irem (pc := 35) (z := 0) (by decide) (by decide) dX12_fitting_35 ?_
  refine G_imul (pc := 36) (z := 0) (by decide) dX12_fitting_36 ?_
  refine G_bipush (pc := 37) (v := 9) (by decide) dX12_fitting_37 ?_
  refine G_iadd (pc := 39) (z := 9) (by decide) dX12_fitting_39 ?_
  refine G_callV (pc := 40) (mc1 := 0) (ms1 := 0) (ci := 12) (mj := mX12_tellsLone) (vs := [_, _, _]) dX12_fitting_40 rfl rfl cm_X12_tellsLone wh_136 wh_138 wh_139 rfl (Nat.le_of_ble_eq_true rfl) (Nat.le_of_ble_eq_true rfl) (Nat.le_of_ble_eq_true rfl) (Nat.le_of_ble_eq_true rfl) (tells_s d (gup (gmx J) 67 25 (-1)) _ _ _) ?_
  rintro _ _ ⟨rfl, I449, rfl, h449⟩; have k449 : I449 68 6 = 0 ∧ I449 67 25 = (-1) ∧ True := ⟨(congrFun (h449 68 (by decide) (by decide)) 6).trans rfl, (congrFun (h449 67 (by decide) (by decide)) 25).trans rfl, trivial⟩
  dsimp only [Option.toList, List.cons_append, List.nil_append]
  refine G_iconst (pc := 43) (v := 1) (by decide) dX12_fitting_43 ?_
  refine G_istore (pc := 44) (L1 := [some (.ref 67), some (.int (-1)), some (.int 0), some (.int 0), some (.int 1), none]) rfl rfl (by decide) dX12_fitting_44 ?_
  refine G_iconst (pc := 46) (v := 0) (by decide) dX12_fitting_46 ?_
  refine G_istore (pc := 47) (L1 := [some (.ref 67), some (.int (-1)), some (.int 0), some (.int 0), some (.int 1), some (.int 0)]) rfl rfl (by decide) dX12_fitting_47 ?_
  refine G_iload (pc := 49) rfl dX12_fitting_49 ?_
  refine G_aload_n (pc := 51) rfl dX12_fitting_51 ?_
  refine G_getR (pc := 52) (r := 68) (ci := 12) (j := 0) rfl lk_RX12_9 rfl rfl rfl dX12_fitting_52 ?_
  refine G_bipush (pc := 55) (v := 6) (by decide) dX12_fitting_55 ?_
  refine G_iald (pc := 57) (jj := 6) (v := 0) (by decide) (k449.1) rfl (by unfold vp_in; decide) dX12_fitting_57 ?_
  refine G_icmp_ge (pc := 58) (tgt := 94) (by decide) dX12_fitting_58 (fun _ => ?_) (fun z => absurd (by decide) z)
  refine G_iload_n (pc := 94) rfl dX12_fitting_94 ?_
  refine G_iload (pc := 95) rfl dX12_fitting_95 ?_
  refine G_if_eq (pc := 97) (tgt := 104) (by decide) dX12_fitting_97 (fun z => absurd z (by decide)) (fun _ => ?_)
  refine G_iconst (pc := 100) (v := 1) (by decide) dX12_fitting_100 ?_
  refine G_goto (pc := 101) (tgt := 105) (by decide) dX12_fitting_101 ?_
  refine G_iadd (pc := 105) (z := 1) (by decide) dX12_fitting_105 ?_
  refine G_istore_n (pc := 106) (L1 := [some (.ref 67), some (.int (-1)), some (.int 1), some (.int 0), some (.int 1), some (.int 0)]) rfl rfl (by decide) dX12_fitting_106 ?_
  refine G_aload_n (pc := 107) rfl dX12_fitting_107 ?_
  refine G_iload (pc := 108) rfl dX12_fitting_108 ?_
  refine G_if_eq (pc := 110) (tgt := 124) (by decide) dX12_fitting_110 (fun z => absurd z (by decide)) (fun _ => ?_)
  refine G_aload_n (pc := 113) rfl dX12_fitting_113 ?_
  refine G_getI (pc := 114) (v := (-1)) (ci := 12) (j := 25) (k449.2.1) rfl lk_RX12_301 rfl rfl dX12_fitting_114 ?_
  refine G_if_ge (pc := 117) (tgt := 124) (by decide) dX12_fitting_117 (fun z => absurd z (by decide)) (fun _ => ?_)
  refine G_iload_n (pc := 120) rfl dX12_fitting_120 ?_
  refine G_goto (pc := 121) (tgt := 128) (by decide) dX12_fitting_121 ?_
  refine G_putI (pc := 128) (ci := 12) (j := 25) rfl lk_RX12_301 rfl rfl rfl trivial dX12_fitting_128 ?_
  refine G_iinc (pc := 131) (v := 1) (w := 1) (L1 := [some (.ref 67), some (.int (-1)), some (.int 1), some (.int 1), some (.int 1), some (.int 0)]) (by decide) rfl rfl (by decide) rfl (by decide) dX12_fitting_131 ?_
  refine G_goto (pc := 134) (tgt := 9) (by decide) dX12_fitting_134 ?_
  refine G_drop 4 rfl ?_
  refine G_drop 5 rfl ?_
  exact lm_fit d 501 1 _ ⟨(k449.1), rfl, trivial⟩ (by decide) (by decide) (by decide)
