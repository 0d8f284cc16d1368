set_option maxRecDepth 100000 in
set_option maxHeartbeats 4000000 in
theorem s60_X1_isOver  (d : Nat)   : G (d) mX1_isOver 0 0 0 0 0 (gent 1 [.ref 19]) [] SH0 RF0 (gup (gup (gup I0 52 0 0) 53 0 1) 54 0 0) (fun r h => r = some (.int 0) ∧ h = (SH0, RF0, (gup (gup (gup I0 52 0 0) 53 0 1) 54 0 0))) := by
  refine G_aload_n (pc := 0) rfl dX1_isOver_0 ?_
  refine G_getI (pc := 1) (v := 0) (ci := 1) (j := 1) rfl rfl lk_RX1_60 rfl rfl dX1_isOver_1 ?_
  refine G_aload_n (pc := 4) rfl dX1_isOver_4 ?_
  refine G_getI (pc := 5) (v := 12) (ci := 1) (j := 2) rfl rfl lk_RX1_9 rfl rfl dX1_isOver_5 ?_
  refine G_icmp_lt (pc := 8) (tgt := 15) (by decide) dX1_isOver_8 (fun _ => ?_) (fun z => absurd (by decide) z)
  refine G_iconst (pc := 15) (v := 0) (by decide) dX1_isOver_15 ?_
  exact G_zret (pc := 16) (Nat.le_of_ble_eq_true rfl) (Nat.le_of_ble_eq_true rfl) rfl (by decide) dX1_isOver_16 ⟨rfl, rfl⟩
set_option maxRecDepth 100000 in
set_option maxHeartbeats 4000000 in
theorem s62_X4_isLast  (d : Nat)   : G (d) mX4_isLast 0 0 0 0 0 (gent 3 [.ref 51, .int 0, .int 0]) [] SH0 RF0 (gup (gup (gup I0 52 0 0) 53 0 1) 54 0 0) (fun r h => r = some (.int 1) ∧ h = (SH0, RF0, (gup (gup (gup I0 52 0 0) 53 0 1) 54 0 0))) := by
  refine G_iload_n (pc := 0) rfl dX4_isLast_0 ?_
  refine G_if_le (pc := 1) (tgt := 19) (by decide) dX4_isLast_1 (fun _ => ?_) (fun z => absurd (by decide) z)
  refine G_iconst (pc := 19) (v := 1) (by decide) dX4_isLast_19 ?_
  refine G_goto (pc := 20) (tgt := 24) (by decide) dX4_isLast_20 ?_
  exact G_zret (pc := 24) (Nat.le_of_ble_eq_true rfl) (Nat.le_of_ble_eq_true rfl) rfl (by decide) dX4_isLast_24 ⟨rfl, rfl⟩
set_option maxRecDepth 100000 in
set_option maxHeartbeats 4000000 in
theorem s61_X4_seek  (d : Nat)   : G (d + 1) mX4_seek 0 0 0 0 0 (gent 8 [.ref 51, .int 0, .int 0]) [] SH0 RF0 I0 (fun r h => r = none ∧ h = (SH0, RF0, (gup (gup (gup I0 52 0 0) 53 0 1) 54 0 0))) := by
  refine G_aload_n (pc := 0) rfl dX4_seek_0 ?_
  refine G_getR (pc := 1) (r := 52) (ci := 4) (j := 1) rfl lk_RX4_9 rfl rfl rfl dX4_seek_1 ?_
  refine G_iload_n (pc := 4) rfl dX4_seek_4 ?_
  refine G_iconst (pc := 5) (v := 0) (by decide) dX4_seek_5 ?_
  refine G_iast (pc := 6) (jj := 0) (by decide) rfl (by unfold vp_in; decide) dX4_seek_6 ?_
  refine G_aload_n (pc := 7) rfl dX4_seek_7 ?_
  refine G_getR (pc := 8) (r := 53) (ci := 4) (j := 2) rfl lk_RX4_15 rfl rfl rfl dX4_seek_8 ?_
  refine G_iload_n (pc := 11) rfl dX4_seek_11 ?_
  refine G_iconst (pc := 12) (v := 1) (by decide) dX4_seek_12 ?_
  refine G_iast (pc := 13) (jj := 0) (by decide) rfl (by unfold vp_in; decide) dX4_seek_13 ?_
  refine G_aload_n (pc := 14) rfl dX4_seek_14 ?_
  refine G_getR (pc := 15) (r := 54) (ci := 4) (j := 3) rfl lk_RX4_18 rfl rfl rfl dX4_seek_15 ?_
  refine G_iload_n (pc := 18) rfl dX4_seek_18 ?_
  refine G_iconst (pc := 19) (v := 0) (by decide) dX4_seek_19 ?_
  refine G_iast (pc := 20) (jj := 0) (by decide) rfl (by unfold vp_in; decide) dX4_seek_20 ?_
  refine G_aload_n (pc := 21) rfl dX4_seek_21 ?_
  refine G_iload_n (pc := 22) rfl dX4_seek_22 ?_
  refine G_iload_n (pc := 23) rfl dX4_seek_23 ?_
  refine G_callV (pc := 24) (mc1 := 0) (ms1 := 0) (ci := 4) (mj := mX4_isLast) (vs := [_, _]) dX4_seek_24 rfl rfl cm_X4_isLast wf_126 wf_129 wf_130 rfl (Nat.le_of_ble_eq_true rfl) (Nat.le_of_ble_eq_true rfl) (Nat.le_of_ble_eq_true rfl) (Nat.le_of_ble_eq_true rfl) (s62_X4_isLast  d  ) ?_
  rintro _ _ ⟨rfl, rfl⟩
  dsimp only [Option.toList, List.cons_append, List.nil_append]
  refine G_if_eq (pc := 27) (tgt := 31) (by decide) dX4_seek_27 (fun z => absurd z (by decide)) (fun _ => ?_)
  exact G_vret (pc := 30) (Nat.le_of_ble_eq_true rfl) (Nat.le_of_ble_eq_true rfl) rfl dX4_seek_30 ⟨rfl, rfl⟩
set_option maxRecDepth 100000 in
set_option maxHeartbeats 4000000 in
theorem s64_X4_isLast  (d : Nat)   : G (d + 1) mX4_isLast 0 0 0 0 0 (gent 3 [.ref 51, .int 0, .int 1]) [] SH0 RF0 (gup (gup (gup I0 52 0 0) 53 0 1) 54 0 0) (fun r h => r = some (.int 0) ∧ h = (SH0, RF0, (gup (gup (gup I0 52 0 0) 53 0 1) 54 0 0))) := by
  refine G_iload_n (pc := 0) rfl dX4_isLast_0 ?_
  refine G_if_le (pc := 1) (tgt := 19) (by decide) dX4_isLast_1 (fun z => absurd z (by decide)) (fun _ => ?_)
  refine G_iload_n (pc := 4) rfl dX4_isLast_4 ?_
  refine G_iconst (pc := 5) (v := 4) (by decide) dX4_isLast_5 ?_
  refine G_icmp_ge (pc := 6) (tgt := 19) (by decide) dX4_isLast_6 (fun z => absurd z (by decide)) (fun _ => ?_)
  refine G_aload_n (pc := 9) rfl dX4_isLast_9 ?_
  refine G_getR (pc := 10) (r := 19) (ci := 4) (j := 0) rfl lk_RX4_21 rfl rfl rfl dX4_isLast_10 ?_
  refine G_callV (pc := 13) (mc1 := 0) (ms1 := 0) (ci := 1) (mj := mX1_isOver) (vs := []) dX4_isLast_13 rfl rfl cm_X1_isOver wf_125 wf_17 wf_18 rfl (Nat.le_of_ble_eq_true rfl) (Nat.le_of_ble_eq_true rfl) (Nat.le_of_ble_eq_true rfl) (Nat.le_of_ble_eq_true rfl) (s60_X1_isOver  d  ) ?_
  rintro _ _ ⟨rfl, rfl⟩
  dsimp only [Option.toList, List.cons_append, List.nil_append]
  refine G_if_eq (pc := 16) (tgt := 23) (by decide) dX4_isLast_16 (fun _ => ?_) (fun z => absurd (by decide) z)
  refine G_iconst (pc := 23) (v := 0) (by decide) dX4_isLast_23 ?_
  exact G_zret (pc := 24) (Nat.le_of_ble_eq_true rfl) (Nat.le_of_ble_eq_true rfl) rfl (by decide) dX4_isLast_24 ⟨rfl, rfl⟩
set_option maxRecDepth 100000 in
set_option maxHeartbeats 4000000 in
theorem s65_X1_save  (d : Nat)   : G (d + 1) mX1_save 0 0 0 0 0 (gent 3 [.ref 19, .int 0]) [] SH0 RF0 (gup (gup (gup (gup I0 52 0 0) 53 0 1) 54 0 0) 52 0 (-1)) (fun r h => r = none ∧ h = (SH0, RF0, (gup (gup (gcp (gup (gup (gup (gup I0 52 0 0) 53 0 1) 54 0 0) 52 0 (-1)) 24 34 (0 : Int32).toNatClampNeg (0 : Int32).toNatClampNeg (6 : Int32).toNatClampNeg) 34 6 0) 34 7 0))) := by
  refine G_iload_n (pc := 0) rfl dX1_save_0 ?_
  refine G_bipush (pc := 1) (v := 8) (by decide) dX1_save_1 ?_
  refine G_imul (pc := 3) (z := 0) (by decide) dX1_save_3 ?_
  refine G_istore_n (pc := 4) (L1 := [some (.ref 19), some (.int 0), some (.int 0)]) rfl rfl (by decide) dX1_save_4 ?_
  refine G_aload_n (pc := 5) rfl dX1_save_5 ?_
  refine G_getR (pc := 6) (r := 24) (ci := 1) (j := 11) rfl lk_RX1_31 rfl rfl rfl dX1_save_6 ?_
  refine G_iconst (pc := 9) (v := 0) (by decide) dX1_save_9 ?_
  refine G_aload_n (pc := 10) rfl dX1_save_10 ?_
  refine G_getR (pc := 11) (r := 34) (ci := 1) (j := 18) rfl lk_RX1_53 rfl rfl rfl dX1_save_11 ?_
  refine G_iload_n (pc := 14) rfl dX1_save_14 ?_
  refine G_bipush (pc := 15) (v := 6) (by decide) dX1_save_15 ?_
  refine G_copy (pc := 17) (x := 24) (y := 34) rfl rfl (by decide) (by decide) (by decide) (by decide) (by decide) wf_50 wf_51 wf_52 wf_53 (Nat.le_of_ble_eq_true rfl) dX1_save_17 ?_
  refine G_aload_n (pc := 20) rfl dX1_save_20 ?_
  refine G_getR (pc := 21) (r := 34) (ci := 1) (j := 18) rfl lk_RX1_53 rfl rfl rfl dX1_save_21 ?_
  refine G_iload_n (pc := 24) rfl dX1_save_24 ?_
  refine G_bipush (pc := 25) (v := 6) (by decide) dX1_save_25 ?_
  refine G_iadd (pc := 27) (z := 6) (by decide) dX1_save_27 ?_
  refine G_aload_n (pc := 28) rfl dX1_save_28 ?_
  refine G_getI (pc := 29) (v := 0) (ci := 1) (j := 9) rfl rfl lk_RX1_75 rfl rfl dX1_save_29 ?_
  refine G_iast (pc := 32) (jj := 6) (by decide) rfl (by unfold vp_in; decide) dX1_save_32 ?_
  refine G_aload_n (pc := 33) rfl dX1_save_33 ?_
  refine G_getR (pc := 34) (r := 34) (ci := 1) (j := 18) rfl lk_RX1_53 rfl rfl rfl dX1_save_34 ?_
  refine G_iload_n (pc := 37) rfl dX1_save_37 ?_
  refine G_bipush (pc := 38) (v := 6) (by decide) dX1_save_38 ?_
  refine G_iadd (pc := 40) (z := 6) (by decide) dX1_save_40 ?_
  refine G_iconst (pc := 41) (v := 1) (by decide) dX1_save_41 ?_
  refine G_iadd (pc := 42) (z := 7) (by decide) dX1_save_42 ?_
  refine G_aload_n (pc := 43) rfl dX1_save_43 ?_
  refine G_getI (pc := 44) (v := 0) (ci := 1) (j := 1) rfl rfl lk_RX1_60 rfl rfl dX1_save_44 ?_
  refine G_iast (pc := 47) (jj := 7) (by decide) rfl (by unfold vp_in; decide) dX1_save_47 ?_
  exact G_vret (pc := 48) (Nat.le_of_ble_eq_true rfl) (Nat.le_of_ble_eq_true rfl) rfl dX1_save_48 ⟨rfl, rfl⟩
set_option maxRecDepth 100000 in
set_option maxHeartbeats 4000000 in
theorem s67_X1_isKey  (d : Nat)   : G (d) mX1_isKey 0 0 0 0 0 (gent 2 [.ref 19, .int (-1)]) [] SH0 RF0 (gup (gup (gcp (gup (gup (gup (gup I0 52 0 0) 53 0 1) 54 0 0) 52 0 (-1)) 24 34 (0 : Int32).toNatClampNeg (0 : Int32).toNatClampNeg (6 : Int32).toNatClampNeg) 34 6 0) 34 7 0) (fun r h => r = some (.int 0) ∧ h = (SH0, RF0, (gup (gup (gcp (gup (gup (gup (gup I0 52 0 0) 53 0 1) 54 0 0) 52 0 (-1)) 24 34 (0 : Int32).toNatClampNeg (0 : Int32).toNatClampNeg (6 : Int32).toNatClampNeg) 34 6 0) 34 7 0))) := by
  refine G_iload_n (pc := 0) rfl dX1_isKey_0 ?_
  refine G_if_lt (pc := 1) (tgt := 16) (by decide) dX1_isKey_1 (fun _ => ?_) (fun z => absurd (by decide) z)
  refine G_iconst (pc := 16) (v := 0) (by decide) dX1_isKey_16 ?_
  exact G_zret (pc := 17) (Nat.le_of_ble_eq_true rfl) (Nat.le_of_ble_eq_true rfl) rfl (by decide) dX1_isKey_17 ⟨rfl, rfl⟩
set_option maxRecDepth 100000 in
set_option maxHeartbeats 4000000 in
theorem s66_X1_tell  (d : Nat)   : G (d + 1) mX1_tell 0 0 0 0 0 (gent 5 [.ref 19, .int 0]) [] SH0 RF0 (gup (gup (gcp (gup (gup (gup (gup I0 52 0 0) 53 0 1) 54 0 0) 52 0 (-1)) 24 34 (0 : Int32).toNatClampNeg (0 : Int32).toNatClampNeg (6 : Int32).toNatClampNeg) 34 6 0) 34 7 0) (fun r h => r = some (.int 0) ∧ h = (SH0, RF0, (gup (gup (gcp (gup (gup (gup (gup I0 52 0 0) 53 0 1) 54 0 0) 52 0 (-1)) 24 34 (0 : Int32).toNatClampNeg (0 : Int32).toNatClampNeg (6 : Int32).toNatClampNeg) 34 6 0) 34 7 0))) := by
  refine G_iload_n (pc := 0) rfl dX1_tell_0 ?_
  refine G_iconst (pc := 1) (v := 1) (by decide) dX1_tell_1 ?_
  refine G_isub (pc := 2) (z := (-1)) (by decide) dX1_tell_2 ?_
  refine G_istore_n (pc := 3) (L1 := [some (.ref 19), some (.int 0), some (.int (-1)), none, none]) rfl rfl (by decide) dX1_tell_3 ?_
  refine G_aload_n (pc := 4) rfl dX1_tell_4 ?_
  refine G_iload_n (pc := 5) rfl dX1_tell_5 ?_
  refine G_callV (pc := 6) (mc1 := 0) (ms1 := 0) (ci := 1) (mj := mX1_isKey) (vs := [_]) dX1_tell_6 rfl rfl cm_X1_isKey wf_68 wf_13 wf_14 rfl (Nat.le_of_ble_eq_true rfl) (Nat.le_of_ble_eq_true rfl) (Nat.le_of_ble_eq_true rfl) (Nat.le_of_ble_eq_true rfl) (s67_X1_isKey  d  ) ?_
  rintro _ _ ⟨rfl, rfl⟩
  dsimp only [Option.toList, List.cons_append, List.nil_append]
  refine G_if_eq (pc := 9) (tgt := 20) (by decide) dX1_tell_9 (fun _ => ?_) (fun z => absurd (by decide) z)
  refine G_iconst (pc := 20) (v := 0) (by decide) dX1_tell_20 ?_
  exact G_iret (pc := 21) (Nat.le_of_ble_eq_true rfl) (Nat.le_of_ble_eq_true rfl) rfl dX1_tell_21 ⟨rfl, rfl⟩
set_option maxRecDepth 100000 in
set_option maxHeartbeats 4000000 in
theorem s68_X1_melt  (d : Nat)   : G (d) mX1_melt 0 0 0 0 0 (gent 3 [.ref 19]) [] SH0 RF0 (gup (gup (gcp (gup (gup (gup (gup I0 52 0 0) 53 0 1) 54 0 0) 52 0 (-1)) 24 34 (0 : Int32).toNatClampNeg (0 : Int32).toNatClampNeg (6 : Int32).toNatClampNeg) 34 6 0) 34 7 0) (fun r h => r = some (.int 0) ∧ h = (SH0, RF0, (gup (gup (gup (gcp (gup (gup (gup (gup I0 52 0 0) 53 0 1) 54 0 0) 52 0 (-1)) 24 34 (0 : Int32).toNatClampNeg (0 : Int32).toNatClampNeg (6 : Int32).toNatClampNeg) 34 6 0) 34 7 0) 19 1 1))) := by
  refine G_iconst (pc := 0) (v := 0) (by decide) dX1_melt_0 ?_
  refine G_istore_n (pc := 1) (L1 := [some (.ref 19), some (.int 0), none]) rfl rfl (by decide) dX1_melt_1 ?_
  refine G_iconst (pc := 2) (v := 0) (by decide) dX1_melt_2 ?_
  refine G_istore_n (pc := 3) (L1 := [some (.ref 19), some (.int 0), some (.int 0)]) rfl rfl (by decide) dX1_melt_3 ?_
  refine G_iload_n (pc := 4) rfl dX1_melt_4 ?_
  refine G_aload_n (pc := 5) rfl dX1_melt_5 ?_
  refine G_getI (pc := 6) (v := 0) (ci := 1) (j := 8) rfl rfl lk_RX1_72 rfl rfl dX1_melt_6 ?_
  refine G_icmp_ge (pc := 9) (tgt := 60) (by decide) dX1_melt_9 (fun _ => ?_) (fun z => absurd (by decide) z)
  refine G_aload_n (pc := 60) rfl dX1_melt_60 ?_
  refine G_dup (pc := 61) rfl dX1_melt_61 ?_
  refine G_getI (pc := 62) (v := 0) (ci := 1) (j := 1) rfl rfl lk_RX1_60 rfl rfl dX1_melt_62 ?_
  refine G_iconst (pc := 65) (v := 1) (by decide) dX1_melt_65 ?_
  refine G_iadd (pc := 66) (z := 1) (by decide) dX1_melt_66 ?_
  refine G_putI (pc := 67) (ci := 1) (j := 1) rfl lk_RX1_60 rfl rfl rfl trivial dX1_melt_67 ?_
  refine G_iload_n (pc := 70) rfl dX1_melt_70 ?_
  exact G_iret (pc := 71) (Nat.le_of_ble_eq_true rfl) (Nat.le_of_ble_eq_true rfl) rfl dX1_melt_71 ⟨rfl, rfl⟩
set_option maxRecDepth 100000 in
set_option maxHeartbeats 4000000 in
theorem s70_X4_isLast  (d : Nat)   : G (d) mX4_isLast 0 0 0 0 0 (gent 3 [.ref 51, .int 1, .int 0]) [] SH0 RF0 (gup (gup (gup (gup (gup (gup (gcp (gup (gup (gup (gup I0 52 0 0) 53 0 1) 54 0 0) 52 0 (-1)) 24 34 (0 : Int32).toNatClampNeg (0 : Int32).toNatClampNeg (6 : Int32).toNatClampNeg) 34 6 0) 34 7 0) 19 1 1) 52 1 0) 53 1 1) 54 1 0) (fun r h => r = some (.int 1) ∧ h = (SH0, RF0, (gup (gup (gup (gup (gup (gup (gcp (gup (gup (gup (gup I0 52 0 0) 53 0 1) 54 0 0) 52 0 (-1)) 24 34 (0 : Int32).toNatClampNeg (0 : Int32).toNatClampNeg (6 : Int32).toNatClampNeg) 34 6 0) 34 7 0) 19 1 1) 52 1 0) 53 1 1) 54 1 0))) := by
  refine G_iload_n (pc := 0) rfl dX4_isLast_0 ?_
  refine G_if_le (pc := 1) (tgt := 19) (by decide) dX4_isLast_1 (fun _ => ?_) (fun z => absurd (by decide) z)
  refine G_iconst (pc := 19) (v := 1) (by decide) dX4_isLast_19 ?_
  refine G_goto (pc := 20) (tgt := 24) (by decide) dX4_isLast_20 ?_
  exact G_zret (pc := 24) (Nat.le_of_ble_eq_true rfl) (Nat.le_of_ble_eq_true rfl) rfl (by decide) dX4_isLast_24 ⟨rfl, rfl⟩
set_option maxRecDepth 100000 in
set_option maxHeartbeats 4000000 in
theorem s69_X4_seek  (d : Nat)   : G (d + 1) mX4_seek 0 0 0 0 0 (gent 8 [.ref 51, .int 1, .int 0]) [] SH0 RF0 (gup (gup (gup (gcp (gup (gup (gup (gup I0 52 0 0) 53 0 1) 54 0 0) 52 0 (-1)) 24 34 (0 : Int32).toNatClampNeg (0 : Int32).toNatClampNeg (6 : Int32).toNatClampNeg) 34 6 0) 34 7 0) 19 1 1) (fun r h => r = none ∧ h = (SH0, RF0, (gup (gup (gup (gup (gup (gup (gcp (gup (gup (gup (gup I0 52 0 0) 53 0 1) 54 0 0) 52 0 (-1)) 24 34 (0 : Int32).toNatClampNeg (0 : Int32).toNatClampNeg (6 : Int32).toNatClampNeg) 34 6 0) 34 7 0) 19 1 1) 52 1 0) 53 1 1) 54 1 0))) := by
  refine G_aload_n (pc := 0) rfl dX4_seek_0 ?_
  refine G_getR (pc := 1) (r := 52) (ci := 4) (j := 1) rfl lk_RX4_9 rfl rfl rfl dX4_seek_1 ?_
  refine G_iload_n (pc := 4) rfl dX4_seek_4 ?_
  refine G_iconst (pc := 5) (v := 0) (by decide) dX4_seek_5 ?_
  refine G_iast (pc := 6) (jj := 1) (by decide) rfl (by unfold vp_in; decide) dX4_seek_6 ?_
  refine G_aload_n (pc := 7) rfl dX4_seek_7 ?_
  refine G_getR (pc := 8) (r := 53) (ci := 4) (j := 2) rfl lk_RX4_15 rfl rfl rfl dX4_seek_8 ?_
  refine G_iload_n (pc := 11) rfl dX4_seek_11 ?_
  refine G_iconst (pc := 12) (v := 1) (by decide) dX4_seek_12 ?_
  refine G_iast (pc := 13) (jj := 1) (by decide) rfl (by unfold vp_in; decide) dX4_seek_13 ?_
  refine G_aload_n (pc := 14) rfl dX4_seek_14 ?_
  refine G_getR (pc := 15) (r := 54) (ci := 4) (j := 3) rfl lk_RX4_18 rfl rfl rfl dX4_seek_15 ?_
  refine G_iload_n (pc := 18) rfl dX4_seek_18 ?_
  refine G_iconst (pc := 19) (v := 0) (by decide) dX4_seek_19 ?_
  refine G_iast (pc := 20) (jj := 1) (by decide) rfl (by unfold vp_in; decide) dX4_seek_20 ?_
  refine G_aload_n (pc := 21) rfl dX4_seek_21 ?_
  refine G_iload_n (pc := 22) rfl dX4_seek_22 ?_
  refine G_iload_n (pc := 23) rfl dX4_seek_23 ?_
  refine G_callV (pc := 24) (mc1 := 0) (ms1 := 0) (ci := 4) (mj := mX4_isLast) (vs := [_, _]) dX4_seek_24 rfl rfl cm_X4_isLast wf_126 wf_129 wf_130 rfl (Nat.le_of_ble_eq_true rfl) (Nat.le_of_ble_eq_true rfl) (Nat.le_of_ble_eq_true rfl) (Nat.le_of_ble_eq_true rfl) (s70_X4_isLast  d  ) ?_
  rintro _ _ ⟨rfl, rfl⟩
  dsimp only [Option.toList, List.cons_append, List.nil_append]
  refine G_if_eq (pc := 27) (tgt := 31) (by decide) dX4_seek_27 (fun z => absurd z (by decide)) (fun _ => ?_)
  exact G_vret (pc := 30) (Nat.le_of_ble_eq_true rfl) (Nat.le_of_ble_eq_true rfl) rfl dX4_seek_30 ⟨rfl, rfl⟩
set_option maxRecDepth 100000 in
set_option maxHeartbeats 4000000 in
theorem s71_X1_restore  (d : Nat)   : G (d + 1) mX1_restore 0 0 0 0 0 (gent 3 [.ref 19, .int 0]) [] SH0 RF0 (gup (gup (gup (gup (gup (gup (gcp (gup (gup (gup (gup I0 52 0 0) 53 0 1) 54 0 0) 52 0 (-1)) 24 34 (0 : Int32).toNatClampNeg (0 : Int32).toNatClampNeg (6 : Int32).toNatClampNeg) 34 6 0) 34 7 0) 19 1 1) 52 1 0) 53 1 1) 54 1 0) (fun r h => r = none ∧ h = (SH0, RF0, (gup (gup (gcp (gup (gup (gup (gup (gup (gup (gcp (gup (gup (gup (gup I0 52 0 0) 53 0 1) 54 0 0) 52 0 (-1)) 24 34 (0 : Int32).toNatClampNeg (0 : Int32).toNatClampNeg (6 : Int32).toNatClampNeg) 34 6 0) 34 7 0) 19 1 1) 52 1 0) 53 1 1) 54 1 0) 34 24 (0 : Int32).toNatClampNeg (0 : Int32).toNatClampNeg (6 : Int32).toNatClampNeg) 19 9 0) 19 1 0))) := by
  refine G_iload_n (pc := 0) rfl dX1_restore_0 ?_
  refine G_bipush (pc := 1) (v := 8) (by decide) dX1_restore_1 ?_
  refine G_imul (pc := 3) (z := 0) (by decide) dX1_restore_3 ?_
  refine G_istore_n (pc := 4) (L1 := [some (.ref 19), some (.int 0), some (.int 0)]) rfl rfl (by decide) dX1_restore_4 ?_
  refine G_aload_n (pc := 5) rfl dX1_restore_5 ?_
  refine G_getR (pc := 6) (r := 34) (ci := 1) (j := 18) rfl lk_RX1_53 rfl rfl rfl dX1_restore_6 ?_
  refine G_iload_n (pc := 9) rfl dX1_restore_9 ?_
  refine G_aload_n (pc := 10) rfl dX1_restore_10 ?_
  refine G_getR (pc := 11) (r := 24) (ci := 1) (j := 11) rfl lk_RX1_31 rfl rfl rfl dX1_restore_11 ?_
  refine G_iconst (pc := 14) (v := 0) (by decide) dX1_restore_14 ?_
  refine G_bipush (pc := 15) (v := 6) (by decide) dX1_restore_15 ?_
  refine G_copy (pc := 17) (x := 34) (y := 24) rfl rfl (by decide) (by decide) (by decide) (by decide) (by decide) wf_50 wf_51 wf_52 wf_53 (Nat.le_of_ble_eq_true rfl) dX1_restore_17 ?_
  refine G_aload_n (pc := 20) rfl dX1_restore_20 ?_
  refine G_aload_n (pc := 21) rfl dX1_restore_21 ?_
  refine G_getR (pc := 22) (r := 34) (ci := 1) (j := 18) rfl lk_RX1_53 rfl rfl rfl dX1_restore_22 ?_
  refine G_iload_n (pc := 25) rfl dX1_restore_25 ?_
  refine G_bipush (pc := 26) (v := 6) (by decide) dX1_restore_26 ?_
  refine G_iadd (pc := 28) (z := 6) (by decide) dX1_restore_28 ?_
  refine G_iald (pc := 29) (jj := 6) (v := 0) (by decide) rfl rfl (by unfold vp_in; decide) dX1_restore_29 ?_
  refine G_putI (pc := 30) (ci := 1) (j := 9) rfl lk_RX1_75 rfl rfl rfl trivial dX1_restore_30 ?_
  refine G_aload_n (pc := 33) rfl dX1_restore_33 ?_
  refine G_aload_n (pc := 34) rfl dX1_restore_34 ?_
  refine G_getR (pc := 35) (r := 34) (ci := 1) (j := 18) rfl lk_RX1_53 rfl rfl rfl dX1_restore_35 ?_
  refine G_iload_n (pc := 38) rfl dX1_restore_38 ?_
  refine G_bipush (pc := 39) (v := 6) (by decide) dX1_restore_39 ?_
  refine G_iadd (pc := 41) (z := 6) (by decide) dX1_restore_41 ?_
  refine G_iconst (pc := 42) (v := 1) (by decide) dX1_restore_42 ?_
  refine G_iadd (pc := 43) (z := 7) (by decide) dX1_restore_43 ?_
  refine G_iald (pc := 44) (jj := 7) (v := 0) (by decide) rfl rfl (by unfold vp_in; decide) dX1_restore_44 ?_
  refine G_putI (pc := 45) (ci := 1) (j := 1) rfl lk_RX1_60 rfl rfl rfl trivial dX1_restore_45 ?_
  exact G_vret (pc := 48) (Nat.le_of_ble_eq_true rfl) (Nat.le_of_ble_eq_true rfl) rfl dX1_restore_48 ⟨rfl, rfl⟩
set_option maxRecDepth 100000 in
set_option maxHeartbeats 4000000 in
theorem s72_X4_weigh  (d : Nat)   : G (d) mX4_weigh 0 0 0 0 0 (gent 5 [.ref 51, .int 0, .int 0, .int 1, .int 0]) [] SH0 RF0 (gup (gup (gcp (gup (gup (gup (gup (gup (gup (gcp (gup (gup (gup (gup I0 52 0 0) 53 0 1) 54 0 0) 52 0 (-1)) 24 34 (0 : Int32).toNatClampNeg (0 : Int32).toNatClampNeg (6 : Int32).toNatClampNeg) 34 6 0) 34 7 0) 19 1 1) 52 1 0) 53 1 1) 54 1 0) 34 24 (0 : Int32).toNatClampNeg (0 : Int32).toNatClampNeg (6 : Int32).toNatClampNeg) 19 9 0) 19 1 0) (fun r h => r = none ∧ h = (SH0, RF0, (gup (gup (gup (gup (gup (gcp (gup (gup (gup (gup (gup (gup (gcp (gup (gup (gup (gup I0 52 0 0) 53 0 1) 54 0 0) 52 0 (-1)) 24 34 (0 : Int32).toNatClampNeg (0 : Int32).toNatClampNeg (6 : Int32).toNatClampNeg) 34 6 0) 34 7 0) 19 1 1) 52 1 0) 53 1 1) 54 1 0) 34 24 (0 : Int32).toNatClampNeg (0 : Int32).toNatClampNeg (6 : Int32).toNatClampNeg) 19 9 0) 19 1 0) 52 0 0) 53 0 1) 54 0 0))) := by
  refine G_iload_n (pc := 0) rfl dX4_weigh_0 ?_
  refine G_aload_n (pc := 1) rfl dX4_weigh_1 ?_
  refine G_getR (pc := 2) (r := 52) (ci := 4) (j := 1) rfl lk_RX4_9 rfl rfl rfl dX4_weigh_2 ?_
  refine G_iload_n (pc := 5) rfl dX4_weigh_5 ?_
  refine G_iald (pc := 6) (jj := 0) (v := (-1)) (by decide) rfl rfl (by unfold vp_in; decide) dX4_weigh_6 ?_
  refine G_icmp_le (pc := 7) (tgt := 35) (by decide) dX4_weigh_7 (fun z => absurd z (by decide)) (fun _ => ?_)
  refine G_aload_n (pc := 10) rfl dX4_weigh_10 ?_
  refine G_getR (pc := 11) (r := 52) (ci := 4) (j := 1) rfl lk_RX4_9 rfl rfl rfl dX4_weigh_11 ?_
  refine G_iload_n (pc := 14) rfl dX4_weigh_14 ?_
  refine G_iload_n (pc := 15) rfl dX4_weigh_15 ?_
  refine G_iast (pc := 16) (jj := 0) (by decide) rfl (by unfold vp_in; decide) dX4_weigh_16 ?_
  refine G_aload_n (pc := 17) rfl dX4_weigh_17 ?_
  refine G_getR (pc := 18) (r := 53) (ci := 4) (j := 2) rfl lk_RX4_15 rfl rfl rfl dX4_weigh_18 ?_
  refine G_iload_n (pc := 21) rfl dX4_weigh_21 ?_
  refine G_iload_n (pc := 22) rfl dX4_weigh_22 ?_
  refine G_iast (pc := 23) (jj := 0) (by decide) rfl (by unfold vp_in; decide) dX4_weigh_23 ?_
  refine G_aload_n (pc := 24) rfl dX4_weigh_24 ?_
  refine G_getR (pc := 25) (r := 54) (ci := 4) (j := 3) rfl lk_RX4_18 rfl rfl rfl dX4_weigh_25 ?_
  refine G_iload_n (pc := 28) rfl dX4_weigh_28 ?_
  refine G_iload (pc := 29) rfl dX4_weigh_29 ?_
  refine G_iast (pc := 31) (jj := 0) (by decide) rfl (by unfold vp_in; decide) dX4_weigh_31 ?_
  refine G_goto (pc := 32) (tgt := 55) (by decide) dX4_weigh_32 ?_
  exact G_vret (pc := 55) (Nat.le_of_ble_eq_true rfl) (Nat.le_of_ble_eq_true rfl) rfl dX4_weigh_55 ⟨rfl, rfl⟩
set_option maxRecDepth 100000 in
set_option maxHeartbeats 4000000 in
theorem s63_X4_seek  (d : Nat)   : G (d + 2) mX4_seek 0 0 0 0 0 (gent 8 [.ref 51, .int 0, .int 1]) [] SH0 RF0 I0 (fun r h => r = none ∧ h = (SH0, RF0, (gup (gup (gup (gup (gup (gcp (gup (gup (gup (gup (gup (gup (gcp (gup (gup (gup (gup I0 52 0 0) 53 0 1) 54 0 0) 52 0 (-1)) 24 34 (0 : Int32).toNatClampNeg (0 : Int32).toNatClampNeg (6 : Int32).toNatClampNeg) 34 6 0) 34 7 0) 19 1 1) 52 1 0) 53 1 1) 54 1 0) 34 24 (0 : Int32).toNatClampNeg (0 : Int32).toNatClampNeg (6 : Int32).toNatClampNeg) 19 9 0) 19 1 0) 52 0 0) 53 0 1) 54 0 0))) := by
  refine G_aload_n (pc := 0) rfl dX4_seek_0 ?_
  refine G_getR (pc := 1) (r := 52) (ci := 4) (j := 1) rfl lk_RX4_9 rfl rfl rfl dX4_seek_1 ?_
  refine G_iload_n (pc := 4) rfl dX4_seek_4 ?_
  refine G_iconst (pc := 5) (v := 0) (by decide) dX4_seek_5 ?_
  refine G_iast (pc := 6) (jj := 0) (by decide) rfl (by unfold vp_in; decide) dX4_seek_6 ?_
  refine G_aload_n (pc := 7) rfl dX4_seek_7 ?_
  refine G_getR (pc := 8) (r := 53) (ci := 4) (j := 2) rfl lk_RX4_15 rfl rfl rfl dX4_seek_8 ?_
  refine G_iload_n (pc := 11) rfl dX4_seek_11 ?_
  refine G_iconst (pc := 12) (v := 1) (by decide) dX4_seek_12 ?_
  refine G_iast (pc := 13) (jj := 0) (by decide) rfl (by unfold vp_in; decide) dX4_seek_13 ?_
  refine G_aload_n (pc := 14) rfl dX4_seek_14 ?_
  refine G_getR (pc := 15) (r := 54) (ci := 4) (j := 3) rfl lk_RX4_18 rfl rfl rfl dX4_seek_15 ?_
  refine G_iload_n (pc := 18) rfl dX4_seek_18 ?_
  refine G_iconst (pc := 19) (v := 0) (by decide) dX4_seek_19 ?_
  refine G_iast (pc := 20) (jj := 0) (by decide) rfl (by unfold vp_in; decide) dX4_seek_20 ?_
  refine G_aload_n (pc := 21) rfl dX4_seek_21 ?_
  refine G_iload_n (pc := 22) rfl dX4_seek_22 ?_
  refine G_iload_n (pc := 23) rfl dX4_seek_23 ?_
  refine G_callV (pc := 24) (mc1 := 0) (ms1 := 0) (ci := 4) (mj := mX4_isLast) (vs := [_, _]) dX4_seek_24 rfl rfl cm_X4_isLast wf_126 wf_129 wf_130 rfl (Nat.le_of_ble_eq_true rfl) (Nat.le_of_ble_eq_true rfl) (Nat.le_of_ble_eq_true rfl) (Nat.le_of_ble_eq_true rfl) (s64_X4_isLast  d  ) ?_
  rintro _ _ ⟨rfl, rfl⟩
  dsimp only [Option.toList, List.cons_append, List.nil_append]
  refine G_if_eq (pc := 27) (tgt := 31) (by decide) dX4_seek_27 (fun _ => ?_) (fun z => absurd (by decide) z)
  refine G_aload_n (pc := 31) rfl dX4_seek_31 ?_
  refine G_getR (pc := 32) (r := 52) (ci := 4) (j := 1) rfl lk_RX4_9 rfl rfl rfl dX4_seek_32 ?_
  refine G_iload_n (pc := 35) rfl dX4_seek_35 ?_
  refine G_iconst (pc := 36) (v := (-1)) (by decide) dX4_seek_36 ?_
  refine G_iast (pc := 37) (jj := 0) (by decide) rfl (by unfold vp_in; decide) dX4_seek_37 ?_
  refine G_iconst (pc := 38) (v := 0) (by decide) dX4_seek_38 ?_
  refine G_istore_n (pc := 39) (L1 := [some (.ref 51), some (.int 0), some (.int 1), some (.int 0), none, none, none, none]) rfl rfl (by decide) dX4_seek_39 ?_
  refine G_iconst (pc := 40) (v := 0) (by decide) dX4_seek_40 ?_
  refine G_istore (pc := 41) (L1 := [some (.ref 51), some (.int 0), some (.int 1), some (.int 0), some (.int 0), none, none, none]) rfl rfl (by decide) dX4_seek_41 ?_
  refine G_aload_n (pc := 43) rfl dX4_seek_43 ?_
  refine G_getR (pc := 44) (r := 19) (ci := 4) (j := 0) rfl lk_RX4_21 rfl rfl rfl dX4_seek_44 ?_
  refine G_iload_n (pc := 47) rfl dX4_seek_47 ?_
  refine G_callV (pc := 48) (mc1 := 0) (ms1 := 0) (ci := 1) (mj := mX1_save) (vs := [_]) dX4_seek_48 rfl rfl cm_X1_save wf_134 wf_105 wf_106 rfl (Nat.le_of_ble_eq_true rfl) (Nat.le_of_ble_eq_true rfl) (Nat.le_of_ble_eq_true rfl) (Nat.le_of_ble_eq_true rfl) (s65_X1_save  d  ) ?_
  rintro _ _ ⟨rfl, rfl⟩
  dsimp only [Option.toList, List.cons_append, List.nil_append]
  refine G_iconst (pc := 51) (v := 0) (by decide) dX4_seek_51 ?_
  refine G_istore (pc := 52) (L1 := [some (.ref 51), some (.int 0), some (.int 1), some (.int 0), some (.int 0), some (.int 0), none, none]) rfl rfl (by decide) dX4_seek_52 ?_
  refine G_iload (pc := 54) rfl dX4_seek_54 ?_
  refine G_aload_n (pc := 56) rfl dX4_seek_56 ?_
  refine G_getR (pc := 57) (r := 19) (ci := 4) (j := 0) rfl lk_RX4_21 rfl rfl rfl dX4_seek_57 ?_
  refine G_getI (pc := 60) (v := 0) (ci := 1) (j := 8) rfl rfl lk_RX4_39 rfl rfl dX4_seek_60 ?_
  refine G_icmp_gt (pc := 63) (tgt := 208) (by decide) dX4_seek_63 (fun z => absurd z (by decide)) (fun _ => ?_)
  refine G_aload_n (pc := 66) rfl dX4_seek_66 ?_
  refine G_getR (pc := 67) (r := 19) (ci := 4) (j := 0) rfl lk_RX4_21 rfl rfl rfl dX4_seek_67 ?_
  refine G_iload (pc := 70) rfl dX4_seek_70 ?_
  refine G_callV (pc := 72) (mc1 := 0) (ms1 := 0) (ci := 1) (mj := mX1_tell) (vs := [_]) dX4_seek_72 rfl rfl cm_X1_tell wf_135 wf_71 wf_72 rfl (Nat.le_of_ble_eq_true rfl) (Nat.le_of_ble_eq_true rfl) (Nat.le_of_ble_eq_true rfl) (Nat.le_of_ble_eq_true rfl) (s66_X1_tell  d  ) ?_
  rintro _ _ ⟨rfl, rfl⟩
  dsimp only [Option.toList, List.cons_append, List.nil_append]
  refine G_istore (pc := 75) (L1 := [some (.ref 51), some (.int 0), some (.int 1), some (.int 0), some (.int 0), some (.int 0), some (.int 0), none]) rfl rfl (by decide) dX4_seek_75 ?_
  refine G_iload (pc := 77) rfl dX4_seek_77 ?_
  refine G_if_eq (pc := 79) (tgt := 87) (by decide) dX4_seek_79 (fun _ => ?_) (fun z => absurd (by decide) z)
  refine G_iload (pc := 87) rfl dX4_seek_87 ?_
  refine G_aload_n (pc := 89) rfl dX4_seek_89 ?_
  refine G_getR (pc := 90) (r := 19) (ci := 4) (j := 0) rfl lk_RX4_21 rfl rfl rfl dX4_seek_90 ?_
  refine G_callV (pc := 93) (mc1 := 0) (ms1 := 0) (ci := 1) (mj := mX1_melt) (vs := []) dX4_seek_93 rfl rfl cm_X1_melt wf_136 wf_75 wf_76 rfl (Nat.le_of_ble_eq_true rfl) (Nat.le_of_ble_eq_true rfl) (Nat.le_of_ble_eq_true rfl) (Nat.le_of_ble_eq_true rfl) (s68_X1_melt  (d + 1)  ) ?_
  rintro _ _ ⟨rfl, rfl⟩
  dsimp only [Option.toList, List.cons_append, List.nil_append]
  refine G_iadd (pc := 96) (z := 0) (by decide) dX4_seek_96 ?_
  refine G_istore (pc := 97) (L1 := [some (.ref 51), some (.int 0), some (.int 1), some (.int 0), some (.int 0), some (.int 0), some (.int 0), some (.int 0)]) rfl rfl (by decide) dX4_seek_97 ?_
  refine G_aload_n (pc := 99) rfl dX4_seek_99 ?_
  refine G_iload_n (pc := 100) rfl dX4_seek_100 ?_
  refine G_iconst (pc := 101) (v := 1) (by decide) dX4_seek_101 ?_
  refine G_iadd (pc := 102) (z := 1) (by decide) dX4_seek_102 ?_
  refine G_iload_n (pc := 103) rfl dX4_seek_103 ?_
  refine G_iconst (pc := 104) (v := 1) (by decide) dX4_seek_104 ?_
  refine G_isub (pc := 105) (z := 0) (by decide) dX4_seek_105 ?_
  refine G_callV (pc := 106) (mc1 := 0) (ms1 := 0) (ci := 4) (mj := mX4_seek) (vs := [_, _]) dX4_seek_106 rfl rfl cm_X4_seek wf_137 wf_132 wf_133 rfl (Nat.le_of_ble_eq_true rfl) (Nat.le_of_ble_eq_true rfl) (Nat.le_of_ble_eq_true rfl) (Nat.le_of_ble_eq_true rfl) (s69_X4_seek  d  ) ?_
  rintro _ _ ⟨rfl, rfl⟩
  dsimp only [Option.toList, List.cons_append, List.nil_append]
  refine G_aload_n (pc := 109) rfl dX4_seek_109 ?_
  refine G_getR (pc := 110) (r := 19) (ci := 4) (j := 0) rfl lk_RX4_21 rfl rfl rfl dX4_seek_110 ?_
  refine G_iload_n (pc := 113) rfl dX4_seek_113 ?_
  refine G_callV (pc := 114) (mc1 := 0) (ms1 := 0) (ci := 1) (mj := mX1_restore) (vs := [_]) dX4_seek_114 rfl rfl cm_X1_restore wf_138 wf_109 wf_110 rfl (Nat.le_of_ble_eq_true rfl) (Nat.le_of_ble_eq_true rfl) (Nat.le_of_ble_eq_true rfl) (Nat.le_of_ble_eq_true rfl) (s71_X1_restore  d  ) ?_
  rintro _ _ ⟨rfl, rfl⟩
  dsimp only [Option.toList, List.cons_append, List.nil_append]
  refine G_iload (pc := 117) rfl dX4_seek_117 ?_
  refine G_aload_n (pc := 119) rfl dX4_seek_119 ?_
  refine G_getR (pc := 120) (r := 52) (ci := 4) (j := 1) rfl lk_RX4_9 rfl rfl rfl dX4_seek_120 ?_
  refine G_iload_n (pc := 123) rfl dX4_seek_123 ?_
  refine G_iconst (pc := 124) (v := 1) (by decide) dX4_seek_124 ?_
  refine G_iadd (pc := 125) (z := 1) (by decide) dX4_seek_125 ?_
  refine G_iald (pc := 126) (jj := 1) (v := 0) (by decide) rfl rfl (by unfold vp_in; decide) dX4_seek_126 ?_
  refine G_iadd (pc := 127) (z := 0) (by decide) dX4_seek_127 ?_
  refine G_istore (pc := 128) (L1 := [some (.ref 51), some (.int 0), some (.int 1), some (.int 0), some (.int 0), some (.int 0), some (.int 0), some (.int 0)]) rfl rfl (by decide) dX4_seek_128 ?_
  refine G_aload_n (pc := 130) rfl dX4_seek_130 ?_
  refine G_iload_n (pc := 131) rfl dX4_seek_131 ?_
  refine G_iload (pc := 132) rfl dX4_seek_132 ?_
  refine G_aload_n (pc := 134) rfl dX4_seek_134 ?_
  refine G_getR (pc := 135) (r := 53) (ci := 4) (j := 2) rfl lk_RX4_15 rfl rfl rfl dX4_seek_135 ?_
  refine G_iload_n (pc := 138) rfl dX4_seek_138 ?_
  refine G_iconst (pc := 139) (v := 1) (by decide) dX4_seek_139 ?_
  refine G_iadd (pc := 140) (z := 1) (by decide) dX4_seek_140 ?_
  refine G_iald (pc := 141) (jj := 1) (v := 1) (by decide) rfl rfl (by unfold vp_in; decide) dX4_seek_141 ?_
  refine G_iload (pc := 142) rfl dX4_seek_142 ?_
  refine G_aload_n (pc := 144) rfl dX4_seek_144 ?_
  refine G_getR (pc := 145) (r := 54) (ci := 4) (j := 3) rfl lk_RX4_18 rfl rfl rfl dX4_seek_145 ?_
  refine G_iload_n (pc := 148) rfl dX4_seek_148 ?_
  refine G_iconst (pc := 149) (v := 1) (by decide) dX4_seek_149 ?_
  refine G_iadd (pc := 150) (z := 1) (by decide) dX4_seek_150 ?_
  refine G_iald (pc := 151) (jj := 1) (v := 0) (by decide) rfl rfl (by unfold vp_in; decide) dX4_seek_151 ?_
  refine G_iconst (pc := 152) (v := 3) (by decide) dX4_seek_152 ?_
  refine G_ishl (pc := 153) (z := 0) (by decide) dX4_seek_153 ?_
  refine G_ior (pc := 154) (z := 0) (by decide) dX4_seek_154 ?_
  refine G_callV (pc := 155) (mc1 := 0) (ms1 := 0) (ci := 4) (mj := mX4_weigh) (vs := [_, _, _, _]) dX4_seek_155 rfl rfl cm_X4_weigh wf_139 wf_141 wf_142 rfl (Nat.le_of_ble_eq_true rfl) (Nat.le_of_ble_eq_true rfl) (Nat.le_of_ble_eq_true rfl) (Nat.le_of_ble_eq_true rfl) (s72_X4_weigh  (d + 1)  ) ?_
  rintro _ _ ⟨rfl, rfl⟩
  dsimp only [Option.toList, List.cons_append, List.nil_append]
  refine G_iload (pc := 158) rfl dX4_seek_158 ?_
  refine G_if_ne (pc := 160) (tgt := 168) (by decide) dX4_seek_160 (fun z => absurd (by decide) z) (fun _ => ?_)
  refine G_iload (pc := 163) rfl dX4_seek_163 ?_
  refine G_goto (pc := 165) (tgt := 169) (by decide) dX4_seek_165 ?_
  refine G_istore_n (pc := 169) (L1 := [some (.ref 51), some (.int 0), some (.int 1), some (.int 0), some (.int 0), some (.int 0), some (.int 0), some (.int 0)]) rfl rfl (by decide) dX4_seek_169 ?_
  refine G_iload (pc := 170) rfl dX4_seek_170 ?_
  refine G_if_ne (pc := 172) (tgt := 186) (by decide) dX4_seek_172 (fun z => absurd (by decide) z) (fun _ => ?_)
  refine G_aload_n (pc := 175) rfl dX4_seek_175 ?_
  refine G_getR (pc := 176) (r := 53) (ci := 4) (j := 2) rfl lk_RX4_15 rfl rfl rfl dX4_seek_176 ?_
  refine G_iload_n (pc := 179) rfl dX4_seek_179 ?_
  refine G_iconst (pc := 180) (v := 1) (by decide) dX4_seek_180 ?_
  refine G_iadd (pc := 181) (z := 1) (by decide) dX4_seek_181 ?_
  refine G_iald (pc := 182) (jj := 1) (v := 1) (by decide) rfl rfl (by unfold vp_in; decide) dX4_seek_182 ?_
  refine G_goto (pc := 183) (tgt := 188) (by decide) dX4_seek_183 ?_
  refine G_istore (pc := 188) (L1 := [some (.ref 51), some (.int 0), some (.int 1), some (.int 0), some (.int 1), some (.int 0), some (.int 0), some (.int 0)]) rfl rfl (by decide) dX4_seek_188 ?_
  refine G_goto (pc := 190) (tgt := 202) (by decide) dX4_seek_190 ?_
  refine G_iinc (pc := 202) (v := 1) (w := 1) (L1 := [some (.ref 51), some (.int 0), some (.int 1), some (.int 0), some (.int 1), some (.int 1), some (.int 0), some (.int 0)]) (by decide) rfl rfl (by decide) rfl (by decide) dX4_seek_202 ?_
  refine G_goto (pc := 205) (tgt := 54) (by decide) dX4_seek_205 ?_
  refine G_iload (pc := 54) rfl dX4_seek_54 ?_
  refine G_aload_n (pc := 56) rfl dX4_seek_56 ?_
  refine G_getR (pc := 57) (r := 19) (ci := 4) (j := 0) rfl lk_RX4_21 rfl rfl rfl dX4_seek_57 ?_
  refine G_getI (pc := 60) (v := 0) (ci := 1) (j := 8) rfl rfl lk_RX4_39 rfl rfl dX4_seek_60 ?_
  refine G_icmp_gt (pc := 63) (tgt := 208) (by decide) dX4_seek_63 (fun _ => ?_) (fun z => absurd (by decide) z)
  exact G_vret (pc := 208) (Nat.le_of_ble_eq_true rfl) (Nat.le_of_ble_eq_true rfl) rfl dX4_seek_208 ⟨rfl, rfl⟩
set_option maxRecDepth 100000 in
set_option maxHeartbeats 4000000 in
theorem s74_X4_isLast  (d : Nat)   : G (d + 1) mX4_isLast 0 0 0 0 0 (gent 3 [.ref 51, .int 0, .int 2]) [] SH0 RF0 (gup (gup (gup I0 52 0 0) 53 0 1) 54 0 0) (fun r h => r = some (.int 0) ∧ h = (SH0, RF0, (gup (gup (gup I0 52 0 0) 53 0 1) 54 0 0))) := by
  refine G_iload_n (pc := 0) rfl dX4_isLast_0 ?_
  refine G_if_le (pc := 1) (tgt := 19) (by decide) dX4_isLast_1 (fun z => absurd z (by decide)) (fun _ => ?_)
  refine G_iload_n (pc := 4) rfl dX4_isLast_4 ?_
  refine G_iconst (pc := 5) (v := 4) (by decide) dX4_isLast_5 ?_
  refine G_icmp_ge (pc := 6) (tgt := 19) (by decide) dX4_isLast_6 (fun z => absurd z (by decide)) (fun _ => ?_)
  refine G_aload_n (pc := 9) rfl dX4_isLast_9 ?_
  refine G_getR (pc := 10) (r := 19) (ci := 4) (j := 0) rfl lk_RX4_21 rfl rfl rfl dX4_isLast_10 ?_
  refine G_callV (pc := 13) (mc1 := 0) (ms1 := 0) (ci := 1) (mj := mX1_isOver) (vs := []) dX4_isLast_13 rfl rfl cm_X1_isOver wf_125 wf_17 wf_18 rfl (Nat.le_of_ble_eq_true rfl) (Nat.le_of_ble_eq_true rfl) (Nat.le_of_ble_eq_true rfl) (Nat.le_of_ble_eq_true rfl) (s60_X1_isOver  d  ) ?_
  rintro _ _ ⟨rfl, rfl⟩
  dsimp only [Option.toList, List.cons_append, List.nil_append]
  refine G_if_eq (pc := 16) (tgt := 23) (by decide) dX4_isLast_16 (fun _ => ?_) (fun z => absurd (by decide) z)
  refine G_iconst (pc := 23) (v := 0) (by decide) dX4_isLast_23 ?_
  exact G_zret (pc := 24) (Nat.le_of_ble_eq_true rfl) (Nat.le_of_ble_eq_true rfl) rfl (by decide) dX4_isLast_24 ⟨rfl, rfl⟩
set_option maxRecDepth 100000 in
set_option maxHeartbeats 4000000 in
theorem s77_X1_isOver  (d : Nat)   : G (d) mX1_isOver 0 0 0 0 0 (gent 1 [.ref 19]) [] SH0 RF0 (gup (gup (gup (gup (gup (gup (gcp (gup (gup (gup (gup I0 52 0 0) 53 0 1) 54 0 0) 52 0 (-1)) 24 34 (0 : Int32).toNatClampNeg (0 : Int32).toNatClampNeg (6 : Int32).toNatClampNeg) 34 6 0) 34 7 0) 19 1 1) 52 1 0) 53 1 1) 54 1 0) (fun r h => r = some (.int 0) ∧ h = (SH0, RF0, (gup (gup (gup (gup (gup (gup (gcp (gup (gup (gup (gup I0 52 0 0) 53 0 1) 54 0 0) 52 0 (-1)) 24 34 (0 : Int32).toNatClampNeg (0 : Int32).toNatClampNeg (6 : Int32).toNatClampNeg) 34 6 0) 34 7 0) 19 1 1) 52 1 0) 53 1 1) 54 1 0))) := by
  refine G_aload_n (pc := 0) rfl dX1_isOver_0 ?_
  refine G_getI (pc := 1) (v := 1) (ci := 1) (j := 1) rfl rfl lk_RX1_60 rfl rfl dX1_isOver_1 ?_
  refine G_aload_n (pc := 4) rfl dX1_isOver_4 ?_
  refine G_getI (pc := 5) (v := 12) (ci := 1) (j := 2) rfl rfl lk_RX1_9 rfl rfl dX1_isOver_5 ?_
  refine G_icmp_lt (pc := 8) (tgt := 15) (by decide) dX1_isOver_8 (fun _ => ?_) (fun z => absurd (by decide) z)
  refine G_iconst (pc := 15) (v := 0) (by decide) dX1_isOver_15 ?_
  exact G_zret (pc := 16) (Nat.le_of_ble_eq_true rfl) (Nat.le_of_ble_eq_true rfl) rfl (by decide) dX1_isOver_16 ⟨rfl, rfl⟩
set_option maxRecDepth 100000 in
set_option maxHeartbeats 4000000 in
theorem s76_X4_isLast  (d : Nat)   : G (d + 1) mX4_isLast 0 0 0 0 0 (gent 3 [.ref 51, .int 1, .int 1]) [] SH0 RF0 (gup (gup (gup (gup (gup (gup (gcp (gup (gup (gup (gup I0 52 0 0) 53 0 1) 54 0 0) 52 0 (-1)) 24 34 (0 : Int32).toNatClampNeg (0 : Int32).toNatClampNeg (6 : Int32).toNatClampNeg) 34 6 0) 34 7 0) 19 1 1) 52 1 0) 53 1 1) 54 1 0) (fun r h => r = some (.int 0) ∧ h = (SH0, RF0, (gup (gup (gup (gup (gup (gup (gcp (gup (gup (gup (gup I0 52 0 0) 53 0 1) 54 0 0) 52 0 (-1)) 24 34 (0 : Int32).toNatClampNeg (0 : Int32).toNatClampNeg (6 : Int32).toNatClampNeg) 34 6 0) 34 7 0) 19 1 1) 52 1 0) 53 1 1) 54 1 0))) := by
  refine G_iload_n (pc := 0) rfl dX4_isLast_0 ?_
  refine G_if_le (pc := 1) (tgt := 19) (by decide) dX4_isLast_1 (fun z => absurd z (by decide)) (fun _ => ?_)
  refine G_iload_n (pc := 4) rfl dX4_isLast_4 ?_
  refine G_iconst (pc := 5) (v := 4) (by decide) dX4_isLast_5 ?_
  refine G_icmp_ge (pc := 6) (tgt := 19) (by decide) dX4_isLast_6 (fun z => absurd z (by decide)) (fun _ => ?_)
  refine G_aload_n (pc := 9) rfl dX4_isLast_9 ?_
  refine G_getR (pc := 10) (r := 19) (ci := 4) (j := 0) rfl lk_RX4_21 rfl rfl rfl dX4_isLast_10 ?_
  refine G_callV (pc := 13) (mc1 := 0) (ms1 := 0) (ci := 1) (mj := mX1_isOver) (vs := []) dX4_isLast_13 rfl rfl cm_X1_isOver wf_125 wf_17 wf_18 rfl (Nat.le_of_ble_eq_true rfl) (Nat.le_of_ble_eq_true rfl) (Nat.le_of_ble_eq_true rfl) (Nat.le_of_ble_eq_true rfl) (s77_X1_isOver  d  ) ?_
  rintro _ _ ⟨rfl, rfl⟩
  dsimp only [Option.toList, List.cons_append, List.nil_append]
  refine G_if_eq (pc := 16) (tgt := 23) (by decide) dX4_isLast_16 (fun _ => ?_) (fun z => absurd (by decide) z)
  refine G_iconst (pc := 23) (v := 0) (by decide) dX4_isLast_23 ?_
  exact G_zret (pc := 24) (Nat.le_of_ble_eq_true rfl) (Nat.le_of_ble_eq_true rfl) rfl (by decide) dX4_isLast_24 ⟨rfl, rfl⟩
set_option maxRecDepth 100000 in
set_option maxHeartbeats 4000000 in
theorem s78_X1_save  (d : Nat)   : G (d + 1) mX1_save 0 0 0 0 0 (gent 3 [.ref 19, .int 1]) [] SH0 RF0 (gup (gup (gup (gup (gup (gup (gup (gcp (gup (gup (gup (gup I0 52 0 0) 53 0 1) 54 0 0) 52 0 (-1)) 24 34 (0 : Int32).toNatClampNeg (0 : Int32).toNatClampNeg (6 : Int32).toNatClampNeg) 34 6 0) 34 7 0) 19 1 1) 52 1 0) 53 1 1) 54 1 0) 52 1 (-1)) (fun r h => r = none ∧ h = (SH0, RF0, (gup (gup (gcp (gup (gup (gup (gup (gup (gup (gup (gcp (gup (gup (gup (gup I0 52 0 0) 53 0 1) 54 0 0) 52 0 (-1)) 24 34 (0 : Int32).toNatClampNeg (0 : Int32).toNatClampNeg (6 : Int32).toNatClampNeg) 34 6 0) 34 7 0) 19 1 1) 52 1 0) 53 1 1) 54 1 0) 52 1 (-1)) 24 34 (0 : Int32).toNatClampNeg (8 : Int32).toNatClampNeg (6 : Int32).toNatClampNeg) 34 14 0) 34 15 1))) := by
  refine G_iload_n (pc := 0) rfl dX1_save_0 ?_
  refine G_bipush (pc := 1) (v := 8) (by decide) dX1_save_1 ?_
  refine G_imul (pc := 3) (z := 8) (by decide) dX1_save_3 ?_
  refine G_istore_n (pc := 4) (L1 := [some (.ref 19), some (.int 1), some (.int 8)]) rfl rfl (by decide) dX1_save_4 ?_
  refine G_aload_n (pc := 5) rfl dX1_save_5 ?_
  refine G_getR (pc := 6) (r := 24) (ci := 1) (j := 11) rfl lk_RX1_31 rfl rfl rfl dX1_save_6 ?_
  refine G_iconst (pc := 9) (v := 0) (by decide) dX1_save_9 ?_
  refine G_aload_n (pc := 10) rfl dX1_save_10 ?_
  refine G_getR (pc := 11) (r := 34) (ci := 1) (j := 18) rfl lk_RX1_53 rfl rfl rfl dX1_save_11 ?_
  refine G_iload_n (pc := 14) rfl dX1_save_14 ?_
  refine G_bipush (pc := 15) (v := 6) (by decide) dX1_save_15 ?_
  refine G_copy (pc := 17) (x := 24) (y := 34) rfl rfl (by decide) (by decide) (by decide) (by decide) (by decide) wf_50 wf_51 wf_52 wf_53 (Nat.le_of_ble_eq_true rfl) dX1_save_17 ?_
  refine G_aload_n (pc := 20) rfl dX1_save_20 ?_
  refine G_getR (pc := 21) (r := 34) (ci := 1) (j := 18) rfl lk_RX1_53 rfl rfl rfl dX1_save_21 ?_
  refine G_iload_n (pc := 24) rfl dX1_save_24 ?_
  refine G_bipush (pc := 25) (v := 6) (by decide) dX1_save_25 ?_
  refine G_iadd (pc := 27) (z := 14) (by decide) dX1_save_27 ?_
  refine G_aload_n (pc := 28) rfl dX1_save_28 ?_
  refine G_getI (pc := 29) (v := 0) (ci := 1) (j := 9) rfl rfl lk_RX1_75 rfl rfl dX1_save_29 ?_
  refine G_iast (pc := 32) (jj := 14) (by decide) rfl (by unfold vp_in; decide) dX1_save_32 ?_
  refine G_aload_n (pc := 33) rfl dX1_save_33 ?_
  refine G_getR (pc := 34) (r := 34) (ci := 1) (j := 18) rfl lk_RX1_53 rfl rfl rfl dX1_save_34 ?_
  refine G_iload_n (pc := 37) rfl dX1_save_37 ?_
  refine G_bipush (pc := 38) (v := 6) (by decide) dX1_save_38 ?_
  refine G_iadd (pc := 40) (z := 14) (by decide) dX1_save_40 ?_
  refine G_iconst (pc := 41) (v := 1) (by decide) dX1_save_41 ?_
  refine G_iadd (pc := 42) (z := 15) (by decide) dX1_save_42 ?_
  refine G_aload_n (pc := 43) rfl dX1_save_43 ?_
  refine G_getI (pc := 44) (v := 1) (ci := 1) (j := 1) rfl rfl lk_RX1_60 rfl rfl dX1_save_44 ?_
  refine G_iast (pc := 47) (jj := 15) (by decide) rfl (by unfold vp_in; decide) dX1_save_47 ?_
  exact G_vret (pc := 48) (Nat.le_of_ble_eq_true rfl) (Nat.le_of_ble_eq_true rfl) rfl dX1_save_48 ⟨rfl, rfl⟩
set_option maxRecDepth 100000 in
set_option maxHeartbeats 4000000 in
theorem s80_X1_isKey  (d : Nat)   : G (d) mX1_isKey 0 0 0 0 0 (gent 2 [.ref 19, .int (-1)]) [] SH0 RF0 (gup (gup (gcp (gup (gup (gup (gup (gup (gup (gup (gcp (gup (gup (gup (gup I0 52 0 0) 53 0 1) 54 0 0) 52 0 (-1)) 24 34 (0 : Int32).toNatClampNeg (0 : Int32).toNatClampNeg (6 : Int32).toNatClampNeg) 34 6 0) 34 7 0) 19 1 1) 52 1 0) 53 1 1) 54 1 0) 52 1 (-1)) 24 34 (0 : Int32).toNatClampNeg (8 : Int32).toNatClampNeg (6 : Int32).toNatClampNeg) 34 14 0) 34 15 1) (fun r h => r = some (.int 0) ∧ h = (SH0, RF0, (gup (gup (gcp (gup (gup (gup (gup (gup (gup (gup (gcp (gup (gup (gup (gup I0 52 0 0) 53 0 1) 54 0 0) 52 0 (-1)) 24 34 (0 : Int32).toNatClampNeg (0 : Int32).toNatClampNeg (6 : Int32).toNatClampNeg) 34 6 0) 34 7 0) 19 1 1) 52 1 0) 53 1 1) 54 1 0) 52 1 (-1)) 24 34 (0 : Int32).toNatClampNeg (8 : Int32).toNatClampNeg (6 : Int32).toNatClampNeg) 34 14 0) 34 15 1))) := by
  refine G_iload_n (pc := 0) rfl dX1_isKey_0 ?_
  refine G_if_lt (pc := 1) (tgt := 16) (by decide) dX1_isKey_1 (fun _ => ?_) (fun z => absurd (by decide) z)
  refine G_iconst (pc := 16) (v := 0) (by decide) dX1_isKey_16 ?_
  exact G_zret (pc := 17) (Nat.le_of_ble_eq_true rfl) (Nat.le_of_ble_eq_true rfl) rfl (by decide) dX1_isKey_17 ⟨rfl, rfl⟩
set_option maxRecDepth 100000 in
set_option maxHeartbeats 4000000 in
theorem s79_X1_tell  (d : Nat)   : G (d + 1) mX1_tell 0 0 0 0 0 (gent 5 [.ref 19, .int 0]) [] SH0 RF0 (gup (gup (gcp (gup (gup (gup (gup (gup (gup (gup (gcp (gup (gup (gup (gup I0 52 0 0) 53 0 1) 54 0 0) 52 0 (-1)) 24 34 (0 : Int32).toNatClampNeg (0 : Int32).toNatClampNeg (6 : Int32).toNatClampNeg) 34 6 0) 34 7 0) 19 1 1) 52 1 0) 53 1 1) 54 1 0) 52 1 (-1)) 24 34 (0 : Int32).toNatClampNeg (8 : Int32).toNatClampNeg (6 : Int32).toNatClampNeg) 34 14 0) 34 15 1) (fun r h => r = some (.int 0) ∧ h = (SH0, RF0, (gup (gup (gcp (gup (gup (gup (gup (gup (gup (gup (gcp (gup (gup (gup (gup I0 52 0 0) 53 0 1) 54 0 0) 52 0 (-1)) 24 34 (0 : Int32).toNatClampNeg (0 : Int32).toNatClampNeg (6 : Int32).toNatClampNeg) 34 6 0) 34 7 0) 19 1 1) 52 1 0) 53 1 1) 54 1 0) 52 1 (-1)) 24 34 (0 : Int32).toNatClampNeg (8 : Int32).toNatClampNeg (6 : Int32).toNatClampNeg) 34 14 0) 34 15 1))) := by
  refine G_iload_n (pc := 0) rfl dX1_tell_0 ?_
  refine G_iconst (pc := 1) (v := 1) (by decide) dX1_tell_1 ?_
  refine G_isub (pc := 2) (z := (-1)) (by decide) dX1_tell_2 ?_
  refine G_istore_n (pc := 3) (L1 := [some (.ref 19), some (.int 0), some (.int (-1)), none, none]) rfl rfl (by decide) dX1_tell_3 ?_
  refine G_aload_n (pc := 4) rfl dX1_tell_4 ?_
  refine G_iload_n (pc := 5) rfl dX1_tell_5 ?_
  refine G_callV (pc := 6) (mc1 := 0) (ms1 := 0) (ci := 1) (mj := mX1_isKey) (vs := [_]) dX1_tell_6 rfl rfl cm_X1_isKey wf_68 wf_13 wf_14 rfl (Nat.le_of_ble_eq_true rfl) (Nat.le_of_ble_eq_true rfl) (Nat.le_of_ble_eq_true rfl) (Nat.le_of_ble_eq_true rfl) (s80_X1_isKey  d  ) ?_
  rintro _ _ ⟨rfl, rfl⟩
  dsimp only [Option.toList, List.cons_append, List.nil_append]
  refine G_if_eq (pc := 9) (tgt := 20) (by decide) dX1_tell_9 (fun _ => ?_) (fun z => absurd (by decide) z)
  refine G_iconst (pc := 20) (v := 0) (by decide) dX1_tell_20 ?_
  exact G_iret (pc := 21) (Nat.le_of_ble_eq_true rfl) (Nat.le_of_ble_eq_true rfl) rfl dX1_tell_21 ⟨rfl, rfl⟩
set_option maxRecDepth 100000 in
set_option maxHeartbeats 4000000 in
theorem s81_X1_melt  (d : Nat)   : G (d) mX1_melt 0 0 0 0 0 (gent 3 [.ref 19]) [] SH0 RF0 (gup (gup (gcp (gup (gup (gup (gup (gup (gup (gup (gcp (gup (gup (gup (gup I0 52 0 0) 53 0 1) 54 0 0) 52 0 (-1)) 24 34 (0 : Int32).toNatClampNeg (0 : Int32).toNatClampNeg (6 : Int32).toNatClampNeg) 34 6 0) 34 7 0) 19 1 1) 52 1 0) 53 1 1) 54 1 0) 52 1 (-1)) 24 34 (0 : Int32).toNatClampNeg (8 : Int32).toNatClampNeg (6 : Int32).toNatClampNeg) 34 14 0) 34 15 1) (fun r h => r = some (.int 0) ∧ h = (SH0, RF0, (gup (gup (gup (gcp (gup (gup (gup (gup (gup (gup (gup (gcp (gup (gup (gup (gup I0 52 0 0) 53 0 1) 54 0 0) 52 0 (-1)) 24 34 (0 : Int32).toNatClampNeg (0 : Int32).toNatClampNeg (6 : Int32).toNatClampNeg) 34 6 0) 34 7 0) 19 1 1) 52 1 0) 53 1 1) 54 1 0) 52 1 (-1)) 24 34 (0 : Int32).toNatClampNeg (8 : Int32).toNatClampNeg (6 : Int32).toNatClampNeg) 34 14 0) 34 15 1) 19 1 2))) := by
  refine G_iconst (pc := 0) (v := 0) (by decide) dX1_melt_0 ?_
  refine G_istore_n (pc := 1) (L1 := [some (.ref 19), some (.int 0), none]) rfl rfl (by decide) dX1_melt_1 ?_
  refine G_iconst (pc := 2) (v := 0) (by decide) dX1_melt_2 ?_
  refine G_istore_n (pc := 3) (L1 := [some (.ref 19), some (.int 0), some (.int 0)]) rfl rfl (by decide) dX1_melt_3 ?_
  refine G_iload_n (pc := 4) rfl dX1_melt_4 ?_
  refine G_aload_n (pc := 5) rfl dX1_melt_5 ?_
  refine G_getI (pc := 6) (v := 0) (ci := 1) (j := 8) rfl rfl lk_RX1_72 rfl rfl dX1_melt_6 ?_
  refine G_icmp_ge (pc := 9) (tgt := 60) (by decide) dX1_melt_9 (fun _ => ?_) (fun z => absurd (by decide) z)
  refine G_aload_n (pc := 60) rfl dX1_melt_60 ?_
  refine G_dup (pc := 61) rfl dX1_melt_61 ?_
  refine G_getI (pc := 62) (v := 1) (ci := 1) (j := 1) rfl rfl lk_RX1_60 rfl rfl dX1_melt_62 ?_
  refine G_iconst (pc := 65) (v := 1) (by decide) dX1_melt_65 ?_
  refine G_iadd (pc := 66) (z := 2) (by decide) dX1_melt_66 ?_
  refine G_putI (pc := 67) (ci := 1) (j := 1) rfl lk_RX1_60 rfl rfl rfl trivial dX1_melt_67 ?_
  refine G_iload_n (pc := 70) rfl dX1_melt_70 ?_
  exact G_iret (pc := 71) (Nat.le_of_ble_eq_true rfl) (Nat.le_of_ble_eq_true rfl) rfl dX1_melt_71 ⟨rfl, rfl⟩
set_option maxRecDepth 100000 in
set_option maxHeartbeats 4000000 in
theorem s83_X4_isLast  (d : Nat)   : G (d) mX4_isLast 0 0 0 0 0 (gent 3 [.ref 51, .int 2, .int 0]) [] SH0 RF0 (gup (gup (gup (gup (gup (gup (gcp (gup (gup (gup (gup (gup (gup (gup (gcp (gup (gup (gup (gup I0 52 0 0) 53 0 1) 54 0 0) 52 0 (-1)) 24 34 (0 : Int32).toNatClampNeg (0 : Int32).toNatClampNeg (6 : Int32).toNatClampNeg) 34 6 0) 34 7 0) 19 1 1) 52 1 0) 53 1 1) 54 1 0) 52 1 (-1)) 24 34 (0 : Int32).toNatClampNeg (8 : Int32).toNatClampNeg (6 : Int32).toNatClampNeg) 34 14 0) 34 15 1) 19 1 2) 52 2 0) 53 2 1) 54 2 0) (fun r h => r = some (.int 1) ∧ h = (SH0, RF0, (gup (gup (gup (gup (gup (gup (gcp (gup (gup (gup (gup (gup (gup (gup (gcp (gup (gup (gup (gup I0 52 0 0) 53 0 1) 54 0 0) 52 0 (-1)) 24 34 (0 : Int32).toNatClampNeg (0 : Int32).toNatClampNeg (6 : Int32).toNatClampNeg) 34 6 0) 34 7 0) 19 1 1) 52 1 0) 53 1 1) 54 1 0) 52 1 (-1)) 24 34 (0 : Int32).toNatClampNeg (8 : Int32).toNatClampNeg (6 : Int32).toNatClampNeg) 34 14 0) 34 15 1) 19 1 2) 52 2 0) 53 2 1) 54 2 0))) := by
  refine G_iload_n (pc := 0) rfl dX4_isLast_0 ?_
  refine G_if_le (pc := 1) (tgt := 19) (by decide) dX4_isLast_1 (fun _ => ?_) (fun z => absurd (by decide) z)
  refine G_iconst (pc := 19) (v := 1) (by decide) dX4_isLast_19 ?_
  refine G_goto (pc := 20) (tgt := 24) (by decide) dX4_isLast_20 ?_
  exact G_zret (pc := 24) (Nat.le_of_ble_eq_true rfl) (Nat.le_of_ble_eq_true rfl) rfl (by decide) dX4_isLast_24 ⟨rfl, rfl⟩
set_option maxRecDepth 100000 in
set_option maxHeartbeats 4000000 in
theorem s82_X4_seek  (d : Nat)   : G (d + 1) mX4_seek 0 0 0 0 0 (gent 8 [.ref 51, .int 2, .int 0]) [] SH0 RF0 (gup (gup (gup (gcp (gup (gup (gup (gup (gup (gup (gup (gcp (gup (gup (gup (gup I0 52 0 0) 53 0 1) 54 0 0) 52 0 (-1)) 24 34 (0 : Int32).toNatClampNeg (0 : Int32).toNatClampNeg (6 : Int32).toNatClampNeg) 34 6 0) 34 7 0) 19 1 1) 52 1 0) 53 1 1) 54 1 0) 52 1 (-1)) 24 34 (0 : Int32).toNatClampNeg (8 : Int32).toNatClampNeg (6 : Int32).toNatClampNeg) 34 14 0) 34 15 1) 19 1 2) (fun r h => r = none ∧ h = (SH0, RF0, (gup (gup (gup (gup (gup (gup (gcp (gup (gup (gup (gup (gup (gup (gup (gcp (gup (gup (gup (gup I0 52 0 0) 53 0 1) 54 0 0) 52 0 (-1)) 24 34 (0 : Int32).toNatClampNeg (0 : Int32).toNatClampNeg (6 : Int32).toNatClampNeg) 34 6 0) 34 7 0) 19 1 1) 52 1 0) 53 1 1) 54 1 0) 52 1 (-1)) 24 34 (0 : Int32).toNatClampNeg (8 : Int32).toNatClampNeg (6 : Int32).toNatClampNeg) 34 14 0) 34 15 1) 19 1 2) 52 2 0) 53 2 1) 54 2 0))) := by
  refine G_aload_n (pc := 0) rfl dX4_seek_0 ?_
  refine G_getR (pc := 1) (r := 52) (ci := 4) (j := 1) rfl lk_RX4_9 rfl rfl rfl dX4_seek_1 ?_
  refine G_iload_n (pc := 4) rfl dX4_seek_4 ?_
  refine G_iconst (pc := 5) (v := 0) (by decide) dX4_seek_5 ?_
  refine G_iast (pc := 6) (jj := 2) (by decide) rfl (by unfold vp_in; decide) dX4_seek_6 ?_
  refine G_aload_n (pc := 7) rfl dX4_seek_7 ?_
  refine G_getR (pc := 8) (r := 53) (ci := 4) (j := 2) rfl lk_RX4_15 rfl rfl rfl dX4_seek_8 ?_
  refine G_iload_n (pc := 11) rfl dX4_seek_11 ?_
  refine G_iconst (pc := 12) (v := 1) (by decide) dX4_seek_12 ?_
  refine G_iast (pc := 13) (jj := 2) (by decide) rfl (by unfold vp_in; decide) dX4_seek_13 ?_
  refine G_aload_n (pc := 14) rfl dX4_seek_14 ?_
  refine G_getR (pc := 15) (r := 54) (ci := 4) (j := 3) rfl lk_RX4_18 rfl rfl rfl dX4_seek_15 ?_
  refine G_iload_n (pc := 18) rfl dX4_seek_18 ?_
  refine G_iconst (pc := 19) (v := 0) (by decide) dX4_seek_19 ?_
  refine G_iast (pc := 20) (jj := 2) (by decide) rfl (by unfold vp_in; decide) dX4_seek_20 ?_
  refine G_aload_n (pc := 21) rfl dX4_seek_21 ?_
  refine G_iload_n (pc := 22) rfl dX4_seek_22 ?_
  refine G_iload_n (pc := 23) rfl dX4_seek_23 ?_
  refine G_callV (pc := 24) (mc1 := 0) (ms1 := 0) (ci := 4) (mj := mX4_isLast) (vs := [_, _]) dX4_seek_24 rfl rfl cm_X4_isLast wf_126 wf_129 wf_130 rfl (Nat.le_of_ble_eq_true rfl) (Nat.le_of_ble_eq_true rfl) (Nat.le_of_ble_eq_true rfl) (Nat.le_of_ble_eq_true rfl) (s83_X4_isLast  d  ) ?_
  rintro _ _ ⟨rfl, rfl⟩
  dsimp only [Option.toList, List.cons_append, List.nil_append]
  refine G_if_eq (pc := 27) (tgt := 31) (by decide) dX4_seek_27 (fun z => absurd z (by decide)) (fun _ => ?_)
  exact G_vret (pc := 30) (Nat.le_of_ble_eq_true rfl) (Nat.le_of_ble_eq_true rfl) rfl dX4_seek_30 ⟨rfl, rfl⟩
set_option maxRecDepth 100000 in
set_option maxHeartbeats 4000000 in
theorem s84_X1_restore  (d : Nat)   : G (d + 1) mX1_restore 0 0 0 0 0 (gent 3 [.ref 19, .int 1]) [] SH0 RF0 (gup (gup (gup (gup (gup (gup (gcp (gup (gup (gup (gup (gup (gup (gup (gcp (gup (gup (gup (gup I0 52 0 0) 53 0 1) 54 0 0) 52 0 (-1)) 24 34 (0 : Int32).toNatClampNeg (0 : Int32).toNatClampNeg (6 : Int32).toNatClampNeg) 34 6 0) 34 7 0) 19 1 1) 52 1 0) 53 1 1) 54 1 0) 52 1 (-1)) 24 34 (0 : Int32).toNatClampNeg (8 : Int32).toNatClampNeg (6 : Int32).toNatClampNeg) 34 14 0) 34 15 1) 19 1 2) 52 2 0) 53 2 1) 54 2 0) (fun r h => r = none ∧ h = (SH0, RF0, (gup (gup (gcp (gup (gup (gup (gup (gup (gup (gcp (gup (gup (gup (gup (gup (gup (gup (gcp (gup (gup (gup (gup I0 52 0 0) 53 0 1) 54 0 0) 52 0 (-1)) 24 34 (0 : Int32).toNatClampNeg (0 : Int32).toNatClampNeg (6 : Int32).toNatClampNeg) 34 6 0) 34 7 0) 19 1 1) 52 1 0) 53 1 1) 54 1 0) 52 1 (-1)) 24 34 (0 : Int32).toNatClampNeg (8 : Int32).toNatClampNeg (6 : Int32).toNatClampNeg) 34 14 0) 34 15 1) 19 1 2) 52 2 0) 53 2 1) 54 2 0) 34 24 (8 : Int32).toNatClampNeg (0 : Int32).toNatClampNeg (6 : Int32).toNatClampNeg) 19 9 0) 19 1 1))) := by
  refine G_iload_n (pc := 0) rfl dX1_restore_0 ?_
  refine G_bipush (pc := 1) (v := 8) (by decide) dX1_restore_1 ?_
  refine G_imul (pc := 3) (z := 8) (by decide) dX1_restore_3 ?_
  refine G_istore_n (pc := 4) (L1 := [some (.ref 19), some (.int 1), some (.int 8)]) rfl rfl (by decide) dX1_restore_4 ?_
  refine G_aload_n (pc := 5) rfl dX1_restore_5 ?_
  refine G_getR (pc := 6) (r := 34) (ci := 1) (j := 18) rfl lk_RX1_53 rfl rfl rfl dX1_restore_6 ?_
  refine G_iload_n (pc := 9) rfl dX1_restore_9 ?_
  refine G_aload_n (pc := 10) rfl dX1_restore_10 ?_
  refine G_getR (pc := 11) (r := 24) (ci := 1) (j := 11) rfl lk_RX1_31 rfl rfl rfl dX1_restore_11 ?_
  refine G_iconst (pc := 14) (v := 0) (by decide) dX1_restore_14 ?_
  refine G_bipush (pc := 15) (v := 6) (by decide) dX1_restore_15 ?_
  refine G_copy (pc := 17) (x := 34) (y := 24) rfl rfl (by decide) (by decide) (by decide) (by decide) (by decide) wf_50 wf_51 wf_52 wf_53 (Nat.le_of_ble_eq_true rfl) dX1_restore_17 ?_
  refine G_aload_n (pc := 20) rfl dX1_restore_20 ?_
  refine G_aload_n (pc := 21) rfl dX1_restore_21 ?_
  refine G_getR (pc := 22) (r := 34) (ci := 1) (j := 18) rfl lk_RX1_53 rfl rfl rfl dX1_restore_22 ?_
  refine G_iload_n (pc := 25) rfl dX1_restore_25 ?_
  refine G_bipush (pc := 26) (v := 6) (by decide) dX1_restore_26 ?_
  refine G_iadd (pc := 28) (z := 14) (by decide) dX1_restore_28 ?_
  refine G_iald (pc := 29) (jj := 14) (v := 0) (by decide) rfl rfl (by unfold vp_in; decide) dX1_restore_29 ?_
  refine G_putI (pc := 30) (ci := 1) (j := 9) rfl lk_RX1_75 rfl rfl rfl trivial dX1_restore_30 ?_
  refine G_aload_n (pc := 33) rfl dX1_restore_33 ?_
  refine G_aload_n (pc := 34) rfl dX1_restore_34 ?_
  refine G_getR (pc := 35) (r := 34) (ci := 1) (j := 18) rfl lk_RX1_53 rfl rfl rfl dX1_restore_35 ?_
  refine G_iload_n (pc := 38) rfl dX1_restore_38 ?_
  refine G_bipush (pc := 39) (v := 6) (by decide) dX1_restore_39 ?_
  refine G_iadd (pc := 41) (z := 14) (by decide) dX1_restore_41 ?_
  refine G_iconst (pc := 42) (v := 1) (by decide) dX1_restore_42 ?_
  refine G_iadd (pc := 43) (z := 15) (by decide) dX1_restore_43 ?_
  refine G_iald (pc := 44) (jj := 15) (v := 1) (by decide) rfl rfl (by unfold vp_in; decide) dX1_restore_44 ?_
  refine G_putI (pc := 45) (ci := 1) (j := 1) rfl lk_RX1_60 rfl rfl rfl trivial dX1_restore_45 ?_
  exact G_vret (pc := 48) (Nat.le_of_ble_eq_true rfl) (Nat.le_of_ble_eq_true rfl) rfl dX1_restore_48 ⟨rfl, rfl⟩
set_option maxRecDepth 100000 in
set_option maxHeartbeats 4000000 in
theorem s85_X4_weigh  (d : Nat)   : G (d) mX4_weigh 0 0 0 0 0 (gent 5 [.ref 51, .int 1, .int 0, .int 1, .int 0]) [] SH0 RF0 (gup (gup (gcp (gup (gup (gup (gup (gup (gup (gcp (gup (gup (gup (gup (gup (gup (gup (gcp (gup (gup (gup (gup I0 52 0 0) 53 0 1) 54 0 0) 52 0 (-1)) 24 34 (0 : Int32).toNatClampNeg (0 : Int32).toNatClampNeg (6 : Int32).toNatClampNeg) 34 6 0) 34 7 0) 19 1 1) 52 1 0) 53 1 1) 54 1 0) 52 1 (-1)) 24 34 (0 : Int32).toNatClampNeg (8 : Int32).toNatClampNeg (6 : Int32).toNatClampNeg) 34 14 0) 34 15 1) 19 1 2) 52 2 0) 53 2 1) 54 2 0) 34 24 (8 : Int32).toNatClampNeg (0 : Int32).toNatClampNeg (6 : Int32).toNatClampNeg) 19 9 0) 19 1 1) (fun r h => r = none ∧ h = (SH0, RF0, (gup (gup (gup (gup (gup (gcp (gup (gup (gup (gup (gup (gup (gcp (gup (gup (gup (gup (gup (gup (gup (gcp (gup (gup (gup (gup I0 52 0 0) 53 0 1) 54 0 0) 52 0 (-1)) 24 34 (0 : Int32).toNatClampNeg (0 : Int32).toNatClampNeg (6 : Int32).toNatClampNeg) 34 6 0) 34 7 0) 19 1 1) 52 1 0) 53 1 1) 54 1 0) 52 1 (-1)) 24 34 (0 : Int32).toNatClampNeg (8 : Int32).toNatClampNeg (6 : Int32).toNatClampNeg) 34 14 0) 34 15 1) 19 1 2) 52 2 0) 53 2 1) 54 2 0) 34 24 (8 : Int32).toNatClampNeg (0 : Int32).toNatClampNeg (6 : Int32).toNatClampNeg) 19 9 0) 19 1 1) 52 1 0) 53 1 1) 54 1 0))) := by
  refine G_iload_n (pc := 0) rfl dX4_weigh_0 ?_
  refine G_aload_n (pc := 1) rfl dX4_weigh_1 ?_
  refine G_getR (pc := 2) (r := 52) (ci := 4) (j := 1) rfl lk_RX4_9 rfl rfl rfl dX4_weigh_2 ?_
  refine G_iload_n (pc := 5) rfl dX4_weigh_5 ?_
  refine G_iald (pc := 6) (jj := 1) (v := (-1)) (by decide) rfl rfl (by unfold vp_in; decide) dX4_weigh_6 ?_
  refine G_icmp_le (pc := 7) (tgt := 35) (by decide) dX4_weigh_7 (fun z => absurd z (by decide)) (fun _ => ?_)
  refine G_aload_n (pc := 10) rfl dX4_weigh_10 ?_
  refine G_getR (pc := 11) (r := 52) (ci := 4) (j := 1) rfl lk_RX4_9 rfl rfl rfl dX4_weigh_11 ?_
  refine G_iload_n (pc := 14) rfl dX4_weigh_14 ?_
  refine G_iload_n (pc := 15) rfl dX4_weigh_15 ?_
  refine G_iast (pc := 16) (jj := 1) (by decide) rfl (by unfold vp_in; decide) dX4_weigh_16 ?_
  refine G_aload_n (pc := 17) rfl dX4_weigh_17 ?_
  refine G_getR (pc := 18) (r := 53) (ci := 4) (j := 2) rfl lk_RX4_15 rfl rfl rfl dX4_weigh_18 ?_
  refine G_iload_n (pc := 21) rfl dX4_weigh_21 ?_
  refine G_iload_n (pc := 22) rfl dX4_weigh_22 ?_
  refine G_iast (pc := 23) (jj := 1) (by decide) rfl (by unfold vp_in; decide) dX4_weigh_23 ?_
  refine G_aload_n (pc := 24) rfl dX4_weigh_24 ?_
  refine G_getR (pc := 25) (r := 54) (ci := 4) (j := 3) rfl lk_RX4_18 rfl rfl rfl dX4_weigh_25 ?_
  refine G_iload_n (pc := 28) rfl dX4_weigh_28 ?_
  refine G_iload (pc := 29) rfl dX4_weigh_29 ?_
  refine G_iast (pc := 31) (jj := 1) (by decide) rfl (by unfold vp_in; decide) dX4_weigh_31 ?_
  refine G_goto (pc := 32) (tgt := 55) (by decide) dX4_weigh_32 ?_
  exact G_vret (pc := 55) (Nat.le_of_ble_eq_true rfl) (Nat.le_of_ble_eq_true rfl) rfl dX4_weigh_55 ⟨rfl, rfl⟩
set_option maxRecDepth 100000 in
set_option maxHeartbeats 4000000 in
theorem s75_X4_seek  (d : Nat)   : G (d + 2) mX4_seek 0 0 0 0 0 (gent 8 [.ref 51, .int 1, .int 1]) [] SH0 RF0 (gup (gup (gup (gcp (gup (gup (gup (gup I0 52 0 0) 53 0 1) 54 0 0) 52 0 (-1)) 24 34 (0 : Int32).toNatClampNeg (0 : Int32).toNatClampNeg (6 : Int32).toNatClampNeg) 34 6 0) 34 7 0) 19 1 1) (fun r h => r = none ∧ h = (SH0, RF0, (gup (gup (gup (gup (gup (gcp (gup (gup (gup (gup (gup (gup (gcp (gup (gup (gup (gup (gup (gup (gup (gcp (gup (gup (gup (gup I0 52 0 0) 53 0 1) 54 0 0) 52 0 (-1)) 24 34 (0 : Int32).toNatClampNeg (0 : Int32).toNatClampNeg (6 : Int32).toNatClampNeg) 34 6 0) 34 7 0) 19 1 1) 52 1 0) 53 1 1) 54 1 0) 52 1 (-1)) 24 34 (0 : Int32).toNatClampNeg (8 : Int32).toNatClampNeg (6 : Int32).toNatClampNeg) 34 14 0) 34 15 1) 19 1 2) 52 2 0) 53 2 1) 54 2 0) 34 24 (8 : Int32).toNatClampNeg (0 : Int32).toNatClampNeg (6 : Int32).toNatClampNeg) 19 9 0) 19 1 1) 52 1 0) 53 1 1) 54 1 0))) := by
  refine G_aload_n (pc := 0) rfl dX4_seek_0 ?_
  refine G_getR (pc := 1) (r := 52) (ci := 4) (j := 1) rfl lk_RX4_9 rfl rfl rfl dX4_seek_1 ?_
  refine G_iload_n (pc := 4) rfl dX4_seek_4 ?_
  refine G_iconst (pc := 5) (v := 0) (by decide) dX4_seek_5 ?_
  refine G_iast (pc := 6) (jj := 1) (by decide) rfl (by unfold vp_in; decide) dX4_seek_6 ?_
  refine G_aload_n (pc := 7) rfl dX4_seek_7 ?_
  refine G_getR (pc := 8) (r := 53) (ci := 4) (j := 2) rfl lk_RX4_15 rfl rfl rfl dX4_seek_8 ?_
  refine G_iload_n (pc := 11) rfl dX4_seek_11 ?_
  refine G_iconst (pc := 12) (v := 1) (by decide) dX4_seek_12 ?_
  refine G_iast (pc := 13) (jj := 1) (by decide) rfl (by unfold vp_in; decide) dX4_seek_13 ?_
  refine G_aload_n (pc := 14) rfl dX4_seek_14 ?_
  refine G_getR (pc := 15) (r := 54) (ci := 4) (j := 3) rfl lk_RX4_18 rfl rfl rfl dX4_seek_15 ?_
  refine G_iload_n (pc := 18) rfl dX4_seek_18 ?_
  refine G_iconst (pc := 19) (v := 0) (by decide) dX4_seek_19 ?_
  refine G_iast (pc := 20) (jj := 1) (by decide) rfl (by unfold vp_in; decide) dX4_seek_20 ?_
  refine G_aload_n (pc := 21) rfl dX4_seek_21 ?_
  refine G_iload_n (pc := 22) rfl dX4_seek_22 ?_
  refine G_iload_n (pc := 23) rfl dX4_seek_23 ?_
  refine G_callV (pc := 24) (mc1 := 0) (ms1 := 0) (ci := 4) (mj := mX4_isLast) (vs := [_, _]) dX4_seek_24 rfl rfl cm_X4_isLast wf_126 wf_129 wf_130 rfl (Nat.le_of_ble_eq_true rfl) (Nat.le_of_ble_eq_true rfl) (Nat.le_of_ble_eq_true rfl) (Nat.le_of_ble_eq_true rfl) (s76_X4_isLast  d  ) ?_
  rintro _ _ ⟨rfl, rfl⟩
  dsimp only [Option.toList, List.cons_append, List.nil_append]
  refine G_if_eq (pc := 27) (tgt := 31) (by decide) dX4_seek_27 (fun _ => ?_) (fun z => absurd (by decide) z)
  refine G_aload_n (pc := 31) rfl dX4_seek_31 ?_
  refine G_getR (pc := 32) (r := 52) (ci := 4) (j := 1) rfl lk_RX4_9 rfl rfl rfl dX4_seek_32 ?_
  refine G_iload_n (pc := 35) rfl dX4_seek_35 ?_
  refine G_iconst (pc := 36) (v := (-1)) (by decide) dX4_seek_36 ?_
  refine G_iast (pc := 37) (jj := 1) (by decide) rfl (by unfold vp_in; decide) dX4_seek_37 ?_
  refine G_iconst (pc := 38) (v := 0) (by decide) dX4_seek_38 ?_
  refine G_istore_n (pc := 39) (L1 := [some (.ref 51), some (.int 1), some (.int 1), some (.int 0), none, none, none, none]) rfl rfl (by decide) dX4_seek_39 ?_
  refine G_iconst (pc := 40) (v := 0) (by decide) dX4_seek_40 ?_
  refine G_istore (pc := 41) (L1 := [some (.ref 51), some (.int 1), some (.int 1), some (.int 0), some (.int 0), none, none, none]) rfl rfl (by decide) dX4_seek_41 ?_
  refine G_aload_n (pc := 43) rfl dX4_seek_43 ?_
  refine G_getR (pc := 44) (r := 19) (ci := 4) (j := 0) rfl lk_RX4_21 rfl rfl rfl dX4_seek_44 ?_
  refine G_iload_n (pc := 47) rfl dX4_seek_47 ?_
  refine G_callV (pc := 48) (mc1 := 0) (ms1 := 0) (ci := 1) (mj := mX1_save) (vs := [_]) dX4_seek_48 rfl rfl cm_X1_save wf_134 wf_105 wf_106 rfl (Nat.le_of_ble_eq_true rfl) (Nat.le_of_ble_eq_true rfl) (Nat.le_of_ble_eq_true rfl) (Nat.le_of_ble_eq_true rfl) (s78_X1_save  d  ) ?_
  rintro _ _ ⟨rfl, rfl⟩
  dsimp only [Option.toList, List.cons_append, List.nil_append]
  refine G_iconst (pc := 51) (v := 0) (by decide) dX4_seek_51 ?_
  refine G_istore (pc := 52) (L1 := [some (.ref 51), some (.int 1), some (.int 1), some (.int 0), some (.int 0), some (.int 0), none, none]) rfl rfl (by decide) dX4_seek_52 ?_
  refine G_iload (pc := 54) rfl dX4_seek_54 ?_
  refine G_aload_n (pc := 56) rfl dX4_seek_56 ?_
  refine G_getR (pc := 57) (r := 19) (ci := 4) (j := 0) rfl lk_RX4_21 rfl rfl rfl dX4_seek_57 ?_
  refine G_getI (pc := 60) (v := 0) (ci := 1) (j := 8) rfl rfl lk_RX4_39 rfl rfl dX4_seek_60 ?_
  refine G_icmp_gt (pc := 63) (tgt := 208) (by decide) dX4_seek_63 (fun z => absurd z (by decide)) (fun _ => ?_)
  refine G_aload_n (pc := 66) rfl dX4_seek_66 ?_
  refine G_getR (pc := 67) (r := 19) (ci := 4) (j := 0) rfl lk_RX4_21 rfl rfl rfl dX4_seek_67 ?_
  refine G_iload (pc := 70) rfl dX4_seek_70 ?_
  refine G_callV (pc := 72) (mc1 := 0) (ms1 := 0) (ci := 1) (mj := mX1_tell) (vs := [_]) dX4_seek_72 rfl rfl cm_X1_tell wf_135 wf_71 wf_72 rfl (Nat.le_of_ble_eq_true rfl) (Nat.le_of_ble_eq_true rfl) (Nat.le_of_ble_eq_true rfl) (Nat.le_of_ble_eq_true rfl) (s79_X1_tell  d  ) ?_
  rintro _ _ ⟨rfl, rfl⟩
  dsimp only [Option.toList, List.cons_append, List.nil_append]
  refine G_istore (pc := 75) (L1 := [some (.ref 51), some (.int 1), some (.int 1), some (.int 0), some (.int 0), some (.int 0), some (.int 0), none]) rfl rfl (by decide) dX4_seek_75 ?_
  refine G_iload (pc := 77) rfl dX4_seek_77 ?_
  refine G_if_eq (pc := 79) (tgt := 87) (by decide) dX4_seek_79 (fun _ => ?_) (fun z => absurd (by decide) z)
  refine G_iload (pc := 87) rfl dX4_seek_87 ?_
  refine G_aload_n (pc := 89) rfl dX4_seek_89 ?_
  refine G_getR (pc := 90) (r := 19) (ci := 4) (j := 0) rfl lk_RX4_21 rfl rfl rfl dX4_seek_90 ?_
  refine G_callV (pc := 93) (mc1 := 0) (ms1 := 0) (ci := 1) (mj := mX1_melt) (vs := []) dX4_seek_93 rfl rfl cm_X1_melt wf_136 wf_75 wf_76 rfl (Nat.le_of_ble_eq_true rfl) (Nat.le_of_ble_eq_true rfl) (Nat.le_of_ble_eq_true rfl) (Nat.le_of_ble_eq_true rfl) (s81_X1_melt  (d + 1)  ) ?_
  rintro _ _ ⟨rfl, rfl⟩
  dsimp only [Option.toList, List.cons_append, List.nil_append]
  refine G_iadd (pc := 96) (z := 0) (by decide) dX4_seek_96 ?_
  refine G_istore (pc := 97) (L1 := [some (.ref 51), some (.int 1), some (.int 1), some (.int 0), some (.int 0), some (.int 0), some (.int 0), some (.int 0)]) rfl rfl (by decide) dX4_seek_97 ?_
  refine G_aload_n (pc := 99) rfl dX4_seek_99 ?_
  refine G_iload_n (pc := 100) rfl dX4_seek_100 ?_
  refine G_iconst (pc := 101) (v := 1) (by decide) dX4_seek_101 ?_
  refine G_iadd (pc := 102) (z := 2) (by decide) dX4_seek_102 ?_
  refine G_iload_n (pc := 103) rfl dX4_seek_103 ?_
  refine G_iconst (pc := 104) (v := 1) (by decide) dX4_seek_104 ?_
  refine G_isub (pc := 105) (z := 0) (by decide) dX4_seek_105 ?_
  refine G_callV (pc := 106) (mc1 := 0) (ms1 := 0) (ci := 4) (mj := mX4_seek) (vs := [_, _]) dX4_seek_106 rfl rfl cm_X4_seek wf_137 wf_132 wf_133 rfl (Nat.le_of_ble_eq_true rfl) (Nat.le_of_ble_eq_true rfl) (Nat.le_of_ble_eq_true rfl) (Nat.le_of_ble_eq_true rfl) (s82_X4_seek  d  ) ?_
  rintro _ _ ⟨rfl, rfl⟩
  dsimp only [Option.toList, List.cons_append, List.nil_append]
  refine G_aload_n (pc := 109) rfl dX4_seek_109 ?_
  refine G_getR (pc := 110) (r := 19) (ci := 4) (j := 0) rfl lk_RX4_21 rfl rfl rfl dX4_seek_110 ?_
  refine G_iload_n (pc := 113) rfl dX4_seek_113 ?_
  refine G_callV (pc := 114) (mc1 := 0) (ms1 := 0) (ci := 1) (mj := mX1_restore) (vs := [_]) dX4_seek_114 rfl rfl cm_X1_restore wf_138 wf_109 wf_110 rfl (Nat.le_of_ble_eq_true rfl) (Nat.le_of_ble_eq_true rfl) (Nat.le_of_ble_eq_true rfl) (Nat.le_of_ble_eq_true rfl) (s84_X1_restore  d  ) ?_
  rintro _ _ ⟨rfl, rfl⟩
  dsimp only [Option.toList, List.cons_append, List.nil_append]
  refine G_iload (pc := 117) rfl dX4_seek_117 ?_
  refine G_aload_n (pc := 119) rfl dX4_seek_119 ?_
  refine G_getR (pc := 120) (r := 52) (ci := 4) (j := 1) rfl lk_RX4_9 rfl rfl rfl dX4_seek_120 ?_
  refine G_iload_n (pc := 123) rfl dX4_seek_123 ?_
  refine G_iconst (pc := 124) (v := 1) (by decide) dX4_seek_124 ?_
  refine G_iadd (pc := 125) (z := 2) (by decide) dX4_seek_125 ?_
  refine G_iald (pc := 126) (jj := 2) (v := 0) (by decide) rfl rfl (by unfold vp_in; decide) dX4_seek_126 ?_
  refine G_iadd (pc := 127) (z := 0) (by decide) dX4_seek_127 ?_
  refine G_istore (pc := 128) (L1 := [some (.ref 51), some (.int 1), some (.int 1), some (.int 0), some (.int 0), some (.int 0), some (.int 0), some (.int 0)]) rfl rfl (by decide) dX4_seek_128 ?_
  refine G_aload_n (pc := 130) rfl dX4_seek_130 ?_
  refine G_iload_n (pc := 131) rfl dX4_seek_131 ?_
  refine G_iload (pc := 132) rfl dX4_seek_132 ?_
  refine G_aload_n (pc := 134) rfl dX4_seek_134 ?_
  refine G_getR (pc := 135) (r := 53) (ci := 4) (j := 2) rfl lk_RX4_15 rfl rfl rfl dX4_seek_135 ?_
  refine G_iload_n (pc := 138) rfl dX4_seek_138 ?_
  refine G_iconst (pc := 139) (v := 1) (by decide) dX4_seek_139 ?_
  refine G_iadd (pc := 140) (z := 2) (by decide) dX4_seek_140 ?_
  refine G_iald (pc := 141) (jj := 2) (v := 1) (by decide) rfl rfl (by unfold vp_in; decide) dX4_seek_141 ?_
  refine G_iload (pc := 142) rfl dX4_seek_142 ?_
  refine G_aload_n (pc := 144) rfl dX4_seek_144 ?_
  refine G_getR (pc := 145) (r := 54) (ci := 4) (j := 3) rfl lk_RX4_18 rfl rfl rfl dX4_seek_145 ?_
  refine G_iload_n (pc := 148) rfl dX4_seek_148 ?_
  refine G_iconst (pc := 149) (v := 1) (by decide) dX4_seek_149 ?_
  refine G_iadd (pc := 150) (z := 2) (by decide) dX4_seek_150 ?_
  refine G_iald (pc := 151) (jj := 2) (v := 0) (by decide) rfl rfl (by unfold vp_in; decide) dX4_seek_151 ?_
  refine G_iconst (pc := 152) (v := 3) (by decide) dX4_seek_152 ?_
  refine G_ishl (pc := 153) (z := 0) (by decide) dX4_seek_153 ?_
  refine G_ior (pc := 154) (z := 0) (by decide) dX4_seek_154 ?_
  refine G_callV (pc := 155) (mc1 := 0) (ms1 := 0) (ci := 4) (mj := mX4_weigh) (vs := [_, _, _, _]) dX4_seek_155 rfl rfl cm_X4_weigh wf_139 wf_141 wf_142 rfl (Nat.le_of_ble_eq_true rfl) (Nat.le_of_ble_eq_true rfl) (Nat.le_of_ble_eq_true rfl) (Nat.le_of_ble_eq_true rfl) (s85_X4_weigh  (d + 1)  ) ?_
  rintro _ _ ⟨rfl, rfl⟩
  dsimp only [Option.toList, List.cons_append, List.nil_append]
  refine G_iload (pc := 158) rfl dX4_seek_158 ?_
  refine G_if_ne (pc := 160) (tgt := 168) (by decide) dX4_seek_160 (fun z => absurd (by decide) z) (fun _ => ?_)
  refine G_iload (pc := 163) rfl dX4_seek_163 ?_
  refine G_goto (pc := 165) (tgt := 169) (by decide) dX4_seek_165 ?_
  refine G_istore_n (pc := 169) (L1 := [some (.ref 51), some (.int 1), some (.int 1), some (.int 0), some (.int 0), some (.int 0), some (.int 0), some (.int 0)]) rfl rfl (by decide) dX4_seek_169 ?_
  refine G_iload (pc := 170) rfl dX4_seek_170 ?_
  refine G_if_ne (pc := 172) (tgt := 186) (by decide) dX4_seek_172 (fun z => absurd (by decide) z) (fun _ => ?_)
  refine G_aload_n (pc := 175) rfl dX4_seek_175 ?_
  refine G_getR (pc := 176) (r := 53) (ci := 4) (j := 2) rfl lk_RX4_15 rfl rfl rfl dX4_seek_176 ?_
  refine G_iload_n (pc := 179) rfl dX4_seek_179 ?_
  refine G_iconst (pc := 180) (v := 1) (by decide) dX4_seek_180 ?_
  refine G_iadd (pc := 181) (z := 2) (by decide) dX4_seek_181 ?_
  refine G_iald (pc := 182) (jj := 2) (v := 1) (by decide) rfl rfl (by unfold vp_in; decide) dX4_seek_182 ?_
  refine G_goto (pc := 183) (tgt := 188) (by decide) dX4_seek_183 ?_
  refine G_istore (pc := 188) (L1 := [some (.ref 51), some (.int 1), some (.int 1), some (.int 0), some (.int 1), some (.int 0), some (.int 0), some (.int 0)]) rfl rfl (by decide) dX4_seek_188 ?_
  refine G_goto (pc := 190) (tgt := 202) (by decide) dX4_seek_190 ?_
  refine G_iinc (pc := 202) (v := 1) (w := 1) (L1 := [some (.ref 51), some (.int 1), some (.int 1), some (.int 0), some (.int 1), some (.int 1), some (.int 0), some (.int 0)]) (by decide) rfl rfl (by decide) rfl (by decide) dX4_seek_202 ?_
  refine G_goto (pc := 205) (tgt := 54) (by decide) dX4_seek_205 ?_
  refine G_iload (pc := 54) rfl dX4_seek_54 ?_
  refine G_aload_n (pc := 56) rfl dX4_seek_56 ?_
  refine G_getR (pc := 57) (r := 19) (ci := 4) (j := 0) rfl lk_RX4_21 rfl rfl rfl dX4_seek_57 ?_
  refine G_getI (pc := 60) (v := 0) (ci := 1) (j := 8) rfl rfl lk_RX4_39 rfl rfl dX4_seek_60 ?_
  refine G_icmp_gt (pc := 63) (tgt := 208) (by decide) dX4_seek_63 (fun _ => ?_) (fun z => absurd (by decide) z)
  exact G_vret (pc := 208) (Nat.le_of_ble_eq_true rfl) (Nat.le_of_ble_eq_true rfl) rfl dX4_seek_208 ⟨rfl, rfl⟩
set_option maxRecDepth 100000 in
set_option maxHeartbeats 4000000 in
theorem s86_X1_restore  (d : Nat)   : G (d + 1) mX1_restore 0 0 0 0 0 (gent 3 [.ref 19, .int 0]) [] SH0 RF0 (gup (gup (gup (gup (gup (gcp (gup (gup (gup (gup (gup (gup (gcp (gup (gup (gup (gup (gup (gup (gup (gcp (gup (gup (gup (gup I0 52 0 0) 53 0 1) 54 0 0) 52 0 (-1)) 24 34 (0 : Int32).toNatClampNeg (0 : Int32).toNatClampNeg (6 : Int32).toNatClampNeg) 34 6 0) 34 7 0) 19 1 1) 52 1 0) 53 1 1) 54 1 0) 52 1 (-1)) 24 34 (0 : Int32).toNatClampNeg (8 : Int32).toNatClampNeg (6 : Int32).toNatClampNeg) 34 14 0) 34 15 1) 19 1 2) 52 2 0) 53 2 1) 54 2 0) 34 24 (8 : Int32).toNatClampNeg (0 : Int32).toNatClampNeg (6 : Int32).toNatClampNeg) 19 9 0) 19 1 1) 52 1 0) 53 1 1) 54 1 0) (fun r h => r = none ∧ h = (SH0, RF0, (gup (gup (gcp (gup (gup (gup (gup (gup (gcp (gup (gup (gup (gup (gup (gup (gcp (gup (gup (gup (gup (gup (gup (gup (gcp (gup (gup (gup (gup I0 52 0 0) 53 0 1) 54 0 0) 52 0 (-1)) 24 34 (0 : Int32).toNatClampNeg (0 : Int32).toNatClampNeg (6 : Int32).toNatClampNeg) 34 6 0) 34 7 0) 19 1 1) 52 1 0) 53 1 1) 54 1 0) 52 1 (-1)) 24 34 (0 : Int32).toNatClampNeg (8 : Int32).toNatClampNeg (6 : Int32).toNatClampNeg) 34 14 0) 34 15 1) 19 1 2) 52 2 0) 53 2 1) 54 2 0) 34 24 (8 : Int32).toNatClampNeg (0 : Int32).toNatClampNeg (6 : Int32).toNatClampNeg) 19 9 0) 19 1 1) 52 1 0) 53 1 1) 54 1 0) 34 24 (0 : Int32).toNatClampNeg (0 : Int32).toNatClampNeg (6 : Int32).toNatClampNeg) 19 9 0) 19 1 0))) := by
  refine G_iload_n (pc := 0) rfl dX1_restore_0 ?_
  refine G_bipush (pc := 1) (v := 8) (by decide) dX1_restore_1 ?_
  refine G_imul (pc := 3) (z := 0) (by decide) dX1_restore_3 ?_
  refine G_istore_n (pc := 4) (L1 := [some (.ref 19), some (.int 0), some (.int 0)]) rfl rfl (by decide) dX1_restore_4 ?_
  refine G_aload_n (pc := 5) rfl dX1_restore_5 ?_
  refine G_getR (pc := 6) (r := 34) (ci := 1) (j := 18) rfl lk_RX1_53 rfl rfl rfl dX1_restore_6 ?_
  refine G_iload_n (pc := 9) rfl dX1_restore_9 ?_
  refine G_aload_n (pc := 10) rfl dX1_restore_10 ?_
  refine G_getR (pc := 11) (r := 24) (ci := 1) (j := 11) rfl lk_RX1_31 rfl rfl rfl dX1_restore_11 ?_
  refine G_iconst (pc := 14) (v := 0) (by decide) dX1_restore_14 ?_
  refine G_bipush (pc := 15) (v := 6) (by decide) dX1_restore_15 ?_
  refine G_copy (pc := 17) (x := 34) (y := 24) rfl rfl (by decide) (by decide) (by decide) (by decide) (by decide) wf_50 wf_51 wf_52 wf_53 (Nat.le_of_ble_eq_true rfl) dX1_restore_17 ?_
  refine G_aload_n (pc := 20) rfl dX1_restore_20 ?_
  refine G_aload_n (pc := 21) rfl dX1_restore_21 ?_
  refine G_getR (pc := 22) (r := 34) (ci := 1) (j := 18) rfl lk_RX1_53 rfl rfl rfl dX1_restore_22 ?_
  refine G_iload_n (pc := 25) rfl dX1_restore_25 ?_
  refine G_bipush (pc := 26) (v := 6) (by decide) dX1_restore_26 ?_
  refine G_iadd (pc := 28) (z := 6) (by decide) dX1_restore_28 ?_
  refine G_iald (pc := 29) (jj := 6) (v := 0) (by decide) rfl rfl (by unfold vp_in; decide) dX1_restore_29 ?_
  refine G_putI (pc := 30) (ci := 1) (j := 9) rfl lk_RX1_75 rfl rfl rfl trivial dX1_restore_30 ?_
  refine G_aload_n (pc := 33) rfl dX1_restore_33 ?_
  refine G_aload_n (pc := 34) rfl dX1_restore_34 ?_
  refine G_getR (pc := 35) (r := 34) (ci := 1) (j := 18) rfl lk_RX1_53 rfl rfl rfl dX1_restore_35 ?_
  refine G_iload_n (pc := 38) rfl dX1_restore_38 ?_
  refine G_bipush (pc := 39) (v := 6) (by decide) dX1_restore_39 ?_
  refine G_iadd (pc := 41) (z := 6) (by decide) dX1_restore_41 ?_
  refine G_iconst (pc := 42) (v := 1) (by decide) dX1_restore_42 ?_
  refine G_iadd (pc := 43) (z := 7) (by decide) dX1_restore_43 ?_
  refine G_iald (pc := 44) (jj := 7) (v := 0) (by decide) rfl rfl (by unfold vp_in; decide) dX1_restore_44 ?_
  refine G_putI (pc := 45) (ci := 1) (j := 1) rfl lk_RX1_60 rfl rfl rfl trivial dX1_restore_45 ?_
  exact G_vret (pc := 48) (Nat.le_of_ble_eq_true rfl) (Nat.le_of_ble_eq_true rfl) rfl dX1_restore_48 ⟨rfl, rfl⟩
set_option maxRecDepth 100000 in
set_option maxHeartbeats 4000000 in
theorem s87_X4_weigh  (d : Nat)   : G (d) mX4_weigh 0 0 0 0 0 (gent 5 [.ref 51, .int 0, .int 0, .int 1, .int 0]) [] SH0 RF0 (gup (gup (gcp (gup (gup (gup (gup (gup (gcp (gup (gup (gup (gup (gup (gup (gcp (gup (gup (gup (gup (gup (gup (gup (gcp (gup (gup (gup (gup I0 52 0 0) 53 0 1) 54 0 0) 52 0 (-1)) 24 34 (0 : Int32).toNatClampNeg (0 : Int32).toNatClampNeg (6 : Int32).toNatClampNeg) 34 6 0) 34 7 0) 19 1 1) 52 1 0) 53 1 1) 54 1 0) 52 1 (-1)) 24 34 (0 : Int32).toNatClampNeg (8 : Int32).toNatClampNeg (6 : Int32).toNatClampNeg) 34 14 0) 34 15 1) 19 1 2) 52 2 0) 53 2 1) 54 2 0) 34 24 (8 : Int32).toNatClampNeg (0 : Int32).toNatClampNeg (6 : Int32).toNatClampNeg) 19 9 0) 19 1 1) 52 1 0) 53 1 1) 54 1 0) 34 24 (0 : Int32).toNatClampNeg (0 : Int32).toNatClampNeg (6 : Int32).toNatClampNeg) 19 9 0) 19 1 0) (fun r h => r = none ∧ h = (SH0, RF0, (gup (gup (gup (gup (gup (gcp (gup (gup (gup (gup (gup (gcp (gup (gup (gup (gup (gup (gup (gcp (gup (gup (gup (gup (gup (gup (gup (gcp (gup (gup (gup (gup I0 52 0 0) 53 0 1) 54 0 0) 52 0 (-1)) 24 34 (0 : Int32).toNatClampNeg (0 : Int32).toNatClampNeg (6 : Int32).toNatClampNeg) 34 6 0) 34 7 0) 19 1 1) 52 1 0) 53 1 1) 54 1 0) 52 1 (-1)) 24 34 (0 : Int32).toNatClampNeg (8 : Int32).toNatClampNeg (6 : Int32).toNatClampNeg) 34 14 0) 34 15 1) 19 1 2) 52 2 0) 53 2 1) 54 2 0) 34 24 (8 : Int32).toNatClampNeg (0 : Int32).toNatClampNeg (6 : Int32).toNatClampNeg) 19 9 0) 19 1 1) 52 1 0) 53 1 1) 54 1 0) 34 24 (0 : Int32).toNatClampNeg (0 : Int32).toNatClampNeg (6 : Int32).toNatClampNeg) 19 9 0) 19 1 0) 52 0 0) 53 0 1) 54 0 0))) := by
  refine G_iload_n (pc := 0) rfl dX4_weigh_0 ?_
  refine G_aload_n (pc := 1) rfl dX4_weigh_1 ?_
  refine G_getR (pc := 2) (r := 52) (ci := 4) (j := 1) rfl lk_RX4_9 rfl rfl rfl dX4_weigh_2 ?_
  refine G_iload_n (pc := 5) rfl dX4_weigh_5 ?_
  refine G_iald (pc := 6) (jj := 0) (v := (-1)) (by decide) rfl rfl (by unfold vp_in; decide) dX4_weigh_6 ?_
  refine G_icmp_le (pc := 7) (tgt := 35) (by decide) dX4_weigh_7 (fun z => absurd z (by decide)) (fun _ => ?_)
  refine G_aload_n (pc := 10) rfl dX4_weigh_10 ?_
  refine G_getR (pc := 11) (r := 52) (ci := 4) (j := 1) rfl lk_RX4_9 rfl rfl rfl dX4_weigh_11 ?_
  refine G_iload_n (pc := 14) rfl dX4_weigh_14 ?_
  refine G_iload_n (pc := 15) rfl dX4_weigh_15 ?_
  refine G_iast (pc := 16) (jj := 0) (by decide) rfl (by unfold vp_in; decide) dX4_weigh_16 ?_
  refine G_aload_n (pc := 17) rfl dX4_weigh_17 ?_
  refine G_getR (pc := 18) (r := 53) (ci := 4) (j := 2) rfl lk_RX4_15 rfl rfl rfl dX4_weigh_18 ?_
  refine G_iload_n (pc := 21) rfl dX4_weigh_21 ?_
  refine G_iload_n (pc := 22) rfl dX4_weigh_22 ?_
  refine G_iast (pc := 23) (jj := 0) (by decide) rfl (by unfold vp_in; decide) dX4_weigh_23 ?_
  refine G_aload_n (pc := 24) rfl dX4_weigh_24 ?_
  refine G_getR (pc := 25) (r := 54) (ci := 4) (j := 3) rfl lk_RX4_18 rfl rfl rfl dX4_weigh_25 ?_
  refine G_iload_n (pc := 28) rfl dX4_weigh_28 ?_
  refine G_iload (pc := 29) rfl dX4_weigh_29 ?_
  refine G_iast (pc := 31) (jj := 0) (by decide) rfl (by unfold vp_in; decide) dX4_weigh_31 ?_
  refine G_goto (pc := 32) (tgt := 55) (by decide) dX4_weigh_32 ?_
  exact G_vret (pc := 55) (Nat.le_of_ble_eq_true rfl) (Nat.le_of_ble_eq_true rfl) rfl dX4_weigh_55 ⟨rfl, rfl⟩
set_option maxRecDepth 100000 in
set_option maxHeartbeats 4000000 in
theorem s73_X4_seek  (d : Nat)   : G (d + 3) mX4_seek 0 0 0 0 0 (gent 8 [.ref 51, .int 0, .int 2]) [] SH0 RF0 I0 (fun r h => r = none ∧ h = (SH0, RF0, (gup (gup (gup (gup (gup (gcp (gup (gup (gup (gup (gup (gcp (gup (gup (gup (gup (gup (gup (gcp (gup (gup (gup (gup (gup (gup (gup (gcp (gup (gup (gup (gup I0 52 0 0) 53 0 1) 54 0 0) 52 0 (-1)) 24 34 (0 : Int32).toNatClampNeg (0 : Int32).toNatClampNeg (6 : Int32).toNatClampNeg) 34 6 0) 34 7 0) 19 1 1) 52 1 0) 53 1 1) 54 1 0) 52 1 (-1)) 24 34 (0 : Int32).toNatClampNeg (8 : Int32).toNatClampNeg (6 : Int32).toNatClampNeg) 34 14 0) 34 15 1) 19 1 2) 52 2 0) 53 2 1) 54 2 0) 34 24 (8 : Int32).toNatClampNeg (0 : Int32).toNatClampNeg (6 : Int32).toNatClampNeg) 19 9 0) 19 1 1) 52 1 0) 53 1 1) 54 1 0) 34 24 (0 : Int32).toNatClampNeg (0 : Int32).toNatClampNeg (6 : Int32).toNatClampNeg) 19 9 0) 19 1 0) 52 0 0) 53 0 1) 54 0 0))) := by
  refine G_aload_n (pc := 0) rfl dX4_seek_0 ?_
  refine G_getR (pc := 1) (r := 52) (ci := 4) (j := 1) rfl lk_RX4_9 rfl rfl rfl dX4_seek_1 ?_
  refine G_iload_n (pc := 4) rfl dX4_seek_4 ?_
  refine G_iconst (pc := 5) (v := 0) (by decide) dX4_seek_5 ?_
  refine G_iast (pc := 6) (jj := 0) (by decide) rfl (by unfold vp_in; decide) dX4_seek_6 ?_
  refine G_aload_n (pc := 7) rfl dX4_seek_7 ?_
  refine G_getR (pc := 8) (r := 53) (ci := 4) (j := 2) rfl lk_RX4_15 rfl rfl rfl dX4_seek_8 ?_
  refine G_iload_n (pc := 11) rfl dX4_seek_11 ?_
  refine G_iconst (pc := 12) (v := 1) (by decide) dX4_seek_12 ?_
  refine G_iast (pc := 13) (jj := 0) (by decide) rfl (by unfold vp_in; decide) dX4_seek_13 ?_
  refine G_aload_n (pc := 14) rfl dX4_seek_14 ?_
  refine G_getR (pc := 15) (r := 54) (ci := 4) (j := 3) rfl lk_RX4_18 rfl rfl rfl dX4_seek_15 ?_
  refine G_iload_n (pc := 18) rfl dX4_seek_18 ?_
  refine G_iconst (pc := 19) (v := 0) (by decide) dX4_seek_19 ?_
  refine G_iast (pc := 20) (jj := 0) (by decide) rfl (by unfold vp_in; decide) dX4_seek_20 ?_
  refine G_aload_n (pc := 21) rfl dX4_seek_21 ?_
  refine G_iload_n (pc := 22) rfl dX4_seek_22 ?_
  refine G_iload_n (pc := 23) rfl dX4_seek_23 ?_
  refine G_callV (pc := 24) (mc1 := 0) (ms1 := 0) (ci := 4) (mj := mX4_isLast) (vs := [_, _]) dX4_seek_24 rfl rfl cm_X4_isLast wf_126 wf_129 wf_130 rfl (Nat.le_of_ble_eq_true rfl) (Nat.le_of_ble_eq_true rfl) (Nat.le_of_ble_eq_true rfl) (Nat.le_of_ble_eq_true rfl) (s74_X4_isLast  (d + 1)  ) ?_
  rintro _ _ ⟨rfl, rfl⟩
  dsimp only [Option.toList, List.cons_append, List.nil_append]
  refine G_if_eq (pc := 27) (tgt := 31) (by decide) dX4_seek_27 (fun _ => ?_) (fun z => absurd (by decide) z)
  refine G_aload_n (pc := 31) rfl dX4_seek_31 ?_
  refine G_getR (pc := 32) (r := 52) (ci := 4) (j := 1) rfl lk_RX4_9 rfl rfl rfl dX4_seek_32 ?_
  refine G_iload_n (pc := 35) rfl dX4_seek_35 ?_
  refine G_iconst (pc := 36) (v := (-1)) (by decide) dX4_seek_36 ?_
  refine G_iast (pc := 37) (jj := 0) (by decide) rfl (by unfold vp_in; decide) dX4_seek_37 ?_
  refine G_iconst (pc := 38) (v := 0) (by decide) dX4_seek_38 ?_
  refine G_istore_n (pc := 39) (L1 := [some (.ref 51), some (.int 0), some (.int 2), some (.int 0), none, none, none, none]) rfl rfl (by decide) dX4_seek_39 ?_
  refine G_iconst (pc := 40) (v := 0) (by decide) dX4_seek_40 ?_
  refine G_istore (pc := 41) (L1 := [some (.ref 51), some (.int 0), some (.int 2), some (.int 0), some (.int 0), none, none, none]) rfl rfl (by decide) dX4_seek_41 ?_
  refine G_aload_n (pc := 43) rfl dX4_seek_43 ?_
  refine G_getR (pc := 44) (r := 19) (ci := 4) (j := 0) rfl lk_RX4_21 rfl rfl rfl dX4_seek_44 ?_
  refine G_iload_n (pc := 47) rfl dX4_seek_47 ?_
  refine G_callV (pc := 48) (mc1 := 0) (ms1 := 0) (ci := 1) (mj := mX1_save) (vs := [_]) dX4_seek_48 rfl rfl cm_X1_save wf_134 wf_105 wf_106 rfl (Nat.le_of_ble_eq_true rfl) (Nat.le_of_ble_eq_true rfl) (Nat.le_of_ble_eq_true rfl) (Nat.le_of_ble_eq_true rfl) (s65_X1_save  (d + 1)  ) ?_
  rintro _ _ ⟨rfl, rfl⟩
  dsimp only [Option.toList, List.cons_append, List.nil_append]
  refine G_iconst (pc := 51) (v := 0) (by decide) dX4_seek_51 ?_
  refine G_istore (pc := 52) (L1 := [some (.ref 51), some (.int 0), some (.int 2), some (.int 0), some (.int 0), some (.int 0), none, none]) rfl rfl (by decide) dX4_seek_52 ?_
  refine G_iload (pc := 54) rfl dX4_seek_54 ?_
  refine G_aload_n (pc := 56) rfl dX4_seek_56 ?_
  refine G_getR (pc := 57) (r := 19) (ci := 4) (j := 0) rfl lk_RX4_21 rfl rfl rfl dX4_seek_57 ?_
  refine G_getI (pc := 60) (v := 0) (ci := 1) (j := 8) rfl rfl lk_RX4_39 rfl rfl dX4_seek_60 ?_
  refine G_icmp_gt (pc := 63) (tgt := 208) (by decide) dX4_seek_63 (fun z => absurd z (by decide)) (fun _ => ?_)
  refine G_aload_n (pc := 66) rfl dX4_seek_66 ?_
  refine G_getR (pc := 67) (r := 19) (ci := 4) (j := 0) rfl lk_RX4_21 rfl rfl rfl dX4_seek_67 ?_
  refine G_iload (pc := 70) rfl dX4_seek_70 ?_
  refine G_callV (pc := 72) (mc1 := 0) (ms1 := 0) (ci := 1) (mj := mX1_tell) (vs := [_]) dX4_seek_72 rfl rfl cm_X1_tell wf_135 wf_71 wf_72 rfl (Nat.le_of_ble_eq_true rfl) (Nat.le_of_ble_eq_true rfl) (Nat.le_of_ble_eq_true rfl) (Nat.le_of_ble_eq_true rfl) (s66_X1_tell  (d + 1)  ) ?_
  rintro _ _ ⟨rfl, rfl⟩
  dsimp only [Option.toList, List.cons_append, List.nil_append]
  refine G_istore (pc := 75) (L1 := [some (.ref 51), some (.int 0), some (.int 2), some (.int 0), some (.int 0), some (.int 0), some (.int 0), none]) rfl rfl (by decide) dX4_seek_75 ?_
  refine G_iload (pc := 77) rfl dX4_seek_77 ?_
  refine G_if_eq (pc := 79) (tgt := 87) (by decide) dX4_seek_79 (fun _ => ?_) (fun z => absurd (by decide) z)
  refine G_iload (pc := 87) rfl dX4_seek_87 ?_
  refine G_aload_n (pc := 89) rfl dX4_seek_89 ?_
  refine G_getR (pc := 90) (r := 19) (ci := 4) (j := 0) rfl lk_RX4_21 rfl rfl rfl dX4_seek_90 ?_
  refine G_callV (pc := 93) (mc1 := 0) (ms1 := 0) (ci := 1) (mj := mX1_melt) (vs := []) dX4_seek_93 rfl rfl cm_X1_melt wf_136 wf_75 wf_76 rfl (Nat.le_of_ble_eq_true rfl) (Nat.le_of_ble_eq_true rfl) (Nat.le_of_ble_eq_true rfl) (Nat.le_of_ble_eq_true rfl) (s68_X1_melt  (d + 2)  ) ?_
  rintro _ _ ⟨rfl, rfl⟩
  dsimp only [Option.toList, List.cons_append, List.nil_append]
  refine G_iadd (pc := 96) (z := 0) (by decide) dX4_seek_96 ?_
  refine G_istore (pc := 97) (L1 := [some (.ref 51), some (.int 0), some (.int 2), some (.int 0), some (.int 0), some (.int 0), some (.int 0), some (.int 0)]) rfl rfl (by decide) dX4_seek_97 ?_
  refine G_aload_n (pc := 99) rfl dX4_seek_99 ?_
  refine G_iload_n (pc := 100) rfl dX4_seek_100 ?_
  refine G_iconst (pc := 101) (v := 1) (by decide) dX4_seek_101 ?_
  refine G_iadd (pc := 102) (z := 1) (by decide) dX4_seek_102 ?_
  refine G_iload_n (pc := 103) rfl dX4_seek_103 ?_
  refine G_iconst (pc := 104) (v := 1) (by decide) dX4_seek_104 ?_
  refine G_isub (pc := 105) (z := 1) (by decide) dX4_seek_105 ?_
  refine G_callV (pc := 106) (mc1 := 0) (ms1 := 0) (ci := 4) (mj := mX4_seek) (vs := [_, _]) dX4_seek_106 rfl rfl cm_X4_seek wf_137 wf_132 wf_133 rfl (Nat.le_of_ble_eq_true rfl) (Nat.le_of_ble_eq_true rfl) (Nat.le_of_ble_eq_true rfl) (Nat.le_of_ble_eq_true rfl) (s75_X4_seek  d  ) ?_
  rintro _ _ ⟨rfl, rfl⟩
  dsimp only [Option.toList, List.cons_append, List.nil_append]
  refine G_aload_n (pc := 109) rfl dX4_seek_109 ?_
  refine G_getR (pc := 110) (r := 19) (ci := 4) (j := 0) rfl lk_RX4_21 rfl rfl rfl dX4_seek_110 ?_
  refine G_iload_n (pc := 113) rfl dX4_seek_113 ?_
  refine G_callV (pc := 114) (mc1 := 0) (ms1 := 0) (ci := 1) (mj := mX1_restore) (vs := [_]) dX4_seek_114 rfl rfl cm_X1_restore wf_138 wf_109 wf_110 rfl (Nat.le_of_ble_eq_true rfl) (Nat.le_of_ble_eq_true rfl) (Nat.le_of_ble_eq_true rfl) (Nat.le_of_ble_eq_true rfl) (s86_X1_restore  (d + 1)  ) ?_
  rintro _ _ ⟨rfl, rfl⟩
  dsimp only [Option.toList, List.cons_append, List.nil_append]
  refine G_iload (pc := 117) rfl dX4_seek_117 ?_
  refine G_aload_n (pc := 119) rfl dX4_seek_119 ?_
  refine G_getR (pc := 120) (r := 52) (ci := 4) (j := 1) rfl lk_RX4_9 rfl rfl rfl dX4_seek_120 ?_
  refine G_iload_n (pc := 123) rfl dX4_seek_123 ?_
  refine G_iconst (pc := 124) (v := 1) (by decide) dX4_seek_124 ?_
  refine G_iadd (pc := 125) (z := 1) (by decide) dX4_seek_125 ?_
  refine G_iald (pc := 126) (jj := 1) (v := 0) (by decide) rfl rfl (by unfold vp_in; decide) dX4_seek_126 ?_
  refine G_iadd (pc := 127) (z := 0) (by decide) dX4_seek_127 ?_
  refine G_istore (pc := 128) (L1 := [some (.ref 51), some (.int 0), some (.int 2), some (.int 0), some (.int 0), some (.int 0), some (.int 0), some (.int 0)]) rfl rfl (by decide) dX4_seek_128 ?_
  refine G_aload_n (pc := 130) rfl dX4_seek_130 ?_
  refine G_iload_n (pc := 131) rfl dX4_seek_131 ?_
  refine G_iload (pc := 132) rfl dX4_seek_132 ?_
  refine G_aload_n (pc := 134) rfl dX4_seek_134 ?_
  refine G_getR (pc := 135) (r := 53) (ci := 4) (j := 2) rfl lk_RX4_15 rfl rfl rfl dX4_seek_135 ?_
  refine G_iload_n (pc := 138) rfl dX4_seek_138 ?_
  refine G_iconst (pc := 139) (v := 1) (by decide) dX4_seek_139 ?_
  refine G_iadd (pc := 140) (z := 1) (by decide) dX4_seek_140 ?_
  refine G_iald (pc := 141) (jj := 1) (v := 1) (by decide) rfl rfl (by unfold vp_in; decide) dX4_seek_141 ?_
  refine G_iload (pc := 142) rfl dX4_seek_142 ?_
  refine G_aload_n (pc := 144) rfl dX4_seek_144 ?_
  refine G_getR (pc := 145) (r := 54) (ci := 4) (j := 3) rfl lk_RX4_18 rfl rfl rfl dX4_seek_145 ?_
  refine G_iload_n (pc := 148) rfl dX4_seek_148 ?_
  refine G_iconst (pc := 149) (v := 1) (by decide) dX4_seek_149 ?_
  refine G_iadd (pc := 150) (z := 1) (by decide) dX4_seek_150 ?_
  refine G_iald (pc := 151) (jj := 1) (v := 0) (by decide) rfl rfl (by unfold vp_in; decide) dX4_seek_151 ?_
  refine G_iconst (pc := 152) (v := 3) (by decide) dX4_seek_152 ?_
  refine G_ishl (pc := 153) (z := 0) (by decide) dX4_seek_153 ?_
  refine G_ior (pc := 154) (z := 0) (by decide) dX4_seek_154 ?_
  refine G_callV (pc := 155) (mc1 := 0) (ms1 := 0) (ci := 4) (mj := mX4_weigh) (vs := [_, _, _, _]) dX4_seek_155 rfl rfl cm_X4_weigh wf_139 wf_141 wf_142 rfl (Nat.le_of_ble_eq_true rfl) (Nat.le_of_ble_eq_true rfl) (Nat.le_of_ble_eq_true rfl) (Nat.le_of_ble_eq_true rfl) (s87_X4_weigh  (d + 2)  ) ?_
  rintro _ _ ⟨rfl, rfl⟩
  dsimp only [Option.toList, List.cons_append, List.nil_append]
  refine G_iload (pc := 158) rfl dX4_seek_158 ?_
  refine G_if_ne (pc := 160) (tgt := 168) (by decide) dX4_seek_160 (fun z => absurd (by decide) z) (fun _ => ?_)
  refine G_iload (pc := 163) rfl dX4_seek_163 ?_
  refine G_goto (pc := 165) (tgt := 169) (by decide) dX4_seek_165 ?_
  refine G_istore_n (pc := 169) (L1 := [some (.ref 51), some (.int 0), some (.int 2), some (.int 0), some (.int 0), some (.int 0), some (.int 0), some (.int 0)]) rfl rfl (by decide) dX4_seek_169 ?_
  refine G_iload (pc := 170) rfl dX4_seek_170 ?_
  refine G_if_ne (pc := 172) (tgt := 186) (by decide) dX4_seek_172 (fun z => absurd (by decide) z) (fun _ => ?_)
  refine G_aload_n (pc := 175) rfl dX4_seek_175 ?_
  refine G_getR (pc := 176) (r := 53) (ci := 4) (j := 2) rfl lk_RX4_15 rfl rfl rfl dX4_seek_176 ?_
  refine G_iload_n (pc := 179) rfl dX4_seek_179 ?_
  refine G_iconst (pc := 180) (v := 1) (by decide) dX4_seek_180 ?_
  refine G_iadd (pc := 181) (z := 1) (by decide) dX4_seek_181 ?_
  refine G_iald (pc := 182) (jj := 1) (v := 1) (by decide) rfl rfl (by unfold vp_in; decide) dX4_seek_182 ?_
  refine G_goto (pc := 183) (tgt := 188) (by decide) dX4_seek_183 ?_
  refine G_istore (pc := 188) (L1 := [some (.ref 51), some (.int 0), some (.int 2), some (.int 0), some (.int 1), some (.int 0), some (.int 0), some (.int 0)]) rfl rfl (by decide) dX4_seek_188 ?_
  refine G_goto (pc := 190) (tgt := 202) (by decide) dX4_seek_190 ?_
  refine G_iinc (pc := 202) (v := 1) (w := 1) (L1 := [some (.ref 51), some (.int 0), some (.int 2), some (.int 0), some (.int 1), some (.int 1), some (.int 0), some (.int 0)]) (by decide) rfl rfl (by decide) rfl (by decide) dX4_seek_202 ?_
  refine G_goto (pc := 205) (tgt := 54) (by decide) dX4_seek_205 ?_
  refine G_iload (pc := 54) rfl dX4_seek_54 ?_
  refine G_aload_n (pc := 56) rfl dX4_seek_56 ?_
  refine G_getR (pc := 57) (r := 19) (ci := 4) (j := 0) rfl lk_RX4_21 rfl rfl rfl dX4_seek_57 ?_
  refine G_getI (pc := 60) (v := 0) (ci := 1) (j := 8) rfl rfl lk_RX4_39 rfl rfl dX4_seek_60 ?_
  refine G_icmp_gt (pc := 63) (tgt := 208) (by decide) dX4_seek_63 (fun _ => ?_) (fun z => absurd (by decide) z)
  exact G_vret (pc := 208) (Nat.le_of_ble_eq_true rfl) (Nat.le_of_ble_eq_true rfl) rfl dX4_seek_208 ⟨rfl, rfl⟩
set_option maxRecDepth 100000 in
set_option maxHeartbeats 4000000 in
theorem s89_X4_isLast  (d : Nat)   : G (d + 1) mX4_isLast 0 0 0 0 0 (gent 3 [.ref 51, .int 0, .int 3]) [] SH0 RF0 (gup (gup (gup I0 52 0 0) 53 0 1) 54 0 0) (fun r h => r = some (.int 0) ∧ h = (SH0, RF0, (gup (gup (gup I0 52 0 0) 53 0 1) 54 0 0))) := by
  refine G_iload_n (pc := 0) rfl dX4_isLast_0 ?_
  refine G_if_le (pc := 1) (tgt := 19) (by decide) dX4_isLast_1 (fun z => absurd z (by decide)) (fun _ => ?_)
  refine G_iload_n (pc := 4) rfl dX4_isLast_4 ?_
  refine G_iconst (pc := 5) (v := 4) (by decide) dX4_isLast_5 ?_
  refine G_icmp_ge (pc := 6) (tgt := 19) (by decide) dX4_isLast_6 (fun z => absurd z (by decide)) (fun _ => ?_)
  refine G_aload_n (pc := 9) rfl dX4_isLast_9 ?_
  refine G_getR (pc := 10) (r := 19) (ci := 4) (j := 0) rfl lk_RX4_21 rfl rfl rfl dX4_isLast_10 ?_
  refine G_callV (pc := 13) (mc1 := 0) (ms1 := 0) (ci := 1) (mj := mX1_isOver) (vs := []) dX4_isLast_13 rfl rfl cm_X1_isOver wf_125 wf_17 wf_18 rfl (Nat.le_of_ble_eq_true rfl) (Nat.le_of_ble_eq_true rfl) (Nat.le_of_ble_eq_true rfl) (Nat.le_of_ble_eq_true rfl) (s60_X1_isOver  d  ) ?_
  rintro _ _ ⟨rfl, rfl⟩
  dsimp only [Option.toList, List.cons_append, List.nil_append]
  refine G_if_eq (pc := 16) (tgt := 23) (by decide) dX4_isLast_16 (fun _ => ?_) (fun z => absurd (by decide) z)
  refine G_iconst (pc := 23) (v := 0) (by decide) dX4_isLast_23 ?_
  exact G_zret (pc := 24) (Nat.le_of_ble_eq_true rfl) (Nat.le_of_ble_eq_true rfl) rfl (by decide) dX4_isLast_24 ⟨rfl, rfl⟩
set_option maxRecDepth 100000 in
set_option maxHeartbeats 4000000 in
theorem s91_X4_isLast  (d : Nat)   : G (d + 1) mX4_isLast 0 0 0 0 0 (gent 3 [.ref 51, .int 1, .int 2]) [] SH0 RF0 (gup (gup (gup (gup (gup (gup (gcp (gup (gup (gup (gup I0 52 0 0) 53 0 1) 54 0 0) 52 0 (-1)) 24 34 (0 : Int32).toNatClampNeg (0 : Int32).toNatClampNeg (6 : Int32).toNatClampNeg) 34 6 0) 34 7 0) 19 1 1) 52 1 0) 53 1 1) 54 1 0) (fun r h => r = some (.int 0) ∧ h = (SH0, RF0, (gup (gup (gup (gup (gup (gup (gcp (gup (gup (gup (gup I0 52 0 0) 53 0 1) 54 0 0) 52 0 (-1)) 24 34 (0 : Int32).toNatClampNeg (0 : Int32).toNatClampNeg (6 : Int32).toNatClampNeg) 34 6 0) 34 7 0) 19 1 1) 52 1 0) 53 1 1) 54 1 0))) := by
  refine G_iload_n (pc := 0) rfl dX4_isLast_0 ?_
  refine G_if_le (pc := 1) (tgt := 19) (by decide) dX4_isLast_1 (fun z => absurd z (by decide)) (fun _ => ?_)
  refine G_iload_n (pc := 4) rfl dX4_isLast_4 ?_
  refine G_iconst (pc := 5) (v := 4) (by decide) dX4_isLast_5 ?_
  refine G_icmp_ge (pc := 6) (tgt := 19) (by decide) dX4_isLast_6 (fun z => absurd z (by decide)) (fun _ => ?_)
  refine G_aload_n (pc := 9) rfl dX4_isLast_9 ?_
  refine G_getR (pc := 10) (r := 19) (ci := 4) (j := 0) rfl lk_RX4_21 rfl rfl rfl dX4_isLast_10 ?_
  refine G_callV (pc := 13) (mc1 := 0) (ms1 := 0) (ci := 1) (mj := mX1_isOver) (vs := []) dX4_isLast_13 rfl rfl cm_X1_isOver wf_125 wf_17 wf_18 rfl (Nat.le_of_ble_eq_true rfl) (Nat.le_of_ble_eq_true rfl) (Nat.le_of_ble_eq_true rfl) (Nat.le_of_ble_eq_true rfl) (s77_X1_isOver  d  ) ?_
  rintro _ _ ⟨rfl, rfl⟩
  dsimp only [Option.toList, List.cons_append, List.nil_append]
  refine G_if_eq (pc := 16) (tgt := 23) (by decide) dX4_isLast_16 (fun _ => ?_) (fun z => absurd (by decide) z)
  refine G_iconst (pc := 23) (v := 0) (by decide) dX4_isLast_23 ?_
  exact G_zret (pc := 24) (Nat.le_of_ble_eq_true rfl) (Nat.le_of_ble_eq_true rfl) rfl (by decide) dX4_isLast_24 ⟨rfl, rfl⟩
set_option maxRecDepth 100000 in
set_option maxHeartbeats 4000000 in
theorem s94_X1_isOver  (d : Nat)   : G (d) mX1_isOver 0 0 0 0 0 (gent 1 [.ref 19]) [] SH0 RF0 (gup (gup (gup (gup (gup (gup (gcp (gup (gup (gup (gup (gup (gup (gup (gcp (gup (gup (gup (gup I0 52 0 0) 53 0 1) 54 0 0) 52 0 (-1)) 24 34 (0 : Int32).toNatClampNeg (0 : Int32).toNatClampNeg (6 : Int32).toNatClampNeg) 34 6 0) 34 7 0) 19 1 1) 52 1 0) 53 1 1) 54 1 0) 52 1 (-1)) 24 34 (0 : Int32).toNatClampNeg (8 : Int32).toNatClampNeg (6 : Int32).toNatClampNeg) 34 14 0) 34 15 1) 19 1 2) 52 2 0) 53 2 1) 54 2 0) (fun r h => r = some (.int 0) ∧ h = (SH0, RF0, (gup (gup (gup (gup (gup (gup (gcp (gup (gup (gup (gup (gup (gup (gup (gcp (gup (gup (gup (gup I0 52 0 0) 53 0 1) 54 0 0) 52 0 (-1)) 24 34 (0 : Int32).toNatClampNeg (0 : Int32).toNatClampNeg (6 : Int32).toNatClampNeg) 34 6 0) 34 7 0) 19 1 1) 52 1 0) 53 1 1) 54 1 0) 52 1 (-1)) 24 34 (0 : Int32).toNatClampNeg (8 : Int32).toNatClampNeg (6 : Int32).toNatClampNeg) 34 14 0) 34 15 1) 19 1 2) 52 2 0) 53 2 1) 54 2 0))) := by
  refine G_aload_n (pc := 0) rfl dX1_isOver_0 ?_
  refine G_getI (pc := 1) (v := 2) (ci := 1) (j := 1) rfl rfl lk_RX1_60 rfl rfl dX1_isOver_1 ?_
  refine G_aload_n (pc := 4) rfl dX1_isOver_4 ?_
  refine G_getI (pc := 5) (v := 12) (ci := 1) (j := 2) rfl rfl lk_RX1_9 rfl rfl dX1_isOver_5 ?_
  refine G_icmp_lt (pc := 8) (tgt := 15) (by decide) dX1_isOver_8 (fun _ => ?_) (fun z => absurd (by decide) z)
  refine G_iconst (pc := 15) (v := 0) (by decide) dX1_isOver_15 ?_
  exact G_zret (pc := 16) (Nat.le_of_ble_eq_true rfl) (Nat.le_of_ble_eq_true rfl) rfl (by decide) dX1_isOver_16 ⟨rfl, rfl⟩
set_option maxRecDepth 100000 in
set_option maxHeartbeats 4000000 in
theorem s93_X4_isLast  (d : Nat)   : G (d + 1) mX4_isLast 0 0 0 0 0 (gent 3 [.ref 51, .int 2, .int 1]) [] SH0 RF0 (gup (gup (gup (gup (gup (gup (gcp (gup (gup (gup (gup (gup (gup (gup (gcp (gup (gup (gup (gup I0 52 0 0) 53 0 1) 54 0 0) 52 0 (-1)) 24 34 (0 : Int32).toNatClampNeg (0 : Int32).toNatClampNeg (6 : Int32).toNatClampNeg) 34 6 0) 34 7 0) 19 1 1) 52 1 0) 53 1 1) 54 1 0) 52 1 (-1)) 24 34 (0 : Int32).toNatClampNeg (8 : Int32).toNatClampNeg (6 : Int32).toNatClampNeg) 34 14 0) 34 15 1) 19 1 2) 52 2 0) 53 2 1) 54 2 0) (fun r h => r = some (.int 0) ∧ h = (SH0, RF0, (gup (gup (gup (gup (gup (gup (gcp (gup (gup (gup (gup (gup (gup (gup (gcp (gup (gup (gup (gup I0 52 0 0) 53 0 1) 54 0 0) 52 0 (-1)) 24 34 (0 : Int32).toNatClampNeg (0 : Int32).toNatClampNeg (6 : Int32).toNatClampNeg) 34 6 0) 34 7 0) 19 1 1) 52 1 0) 53 1 1) 54 1 0) 52 1 (-1)) 24 34 (0 : Int32).toNatClampNeg (8 : Int32).toNatClampNeg (6 : Int32).toNatClampNeg) 34 14 0) 34 15 1) 19 1 2) 52 2 0) 53 2 1) 54 2 0))) := by
  refine G_iload_n (pc := 0) rfl dX4_isLast_0 ?_
  refine G_if_le (pc := 1) (tgt := 19) (by decide) dX4_isLast_1 (fun z => absurd z (by decide)) (fun _ => ?_)
  refine G_iload_n (pc := 4) rfl dX4_isLast_4 ?_
  refine G_iconst (pc := 5) (v := 4) (by decide) dX4_isLast_5 ?_
  refine G_icmp_ge (pc := 6) (tgt := 19) (by decide) dX4_isLast_6 (fun z => absurd z (by decide)) (fun _ => ?_)
  refine G_aload_n (pc := 9) rfl dX4_isLast_9 ?_
  refine G_getR (pc := 10) (r := 19) (ci := 4) (j := 0) rfl lk_RX4_21 rfl rfl rfl dX4_isLast_10 ?_
  refine G_callV (pc := 13) (mc1 := 0) (ms1 := 0) (ci := 1) (mj := mX1_isOver) (vs := []) dX4_isLast_13 rfl rfl cm_X1_isOver wf_125 wf_17 wf_18 rfl (Nat.le_of_ble_eq_true rfl) (Nat.le_of_ble_eq_true rfl) (Nat.le_of_ble_eq_true rfl) (Nat.le_of_ble_eq_true rfl) (s94_X1_isOver  d  ) ?_
  rintro _ _ ⟨rfl, rfl⟩
  dsimp only [Option.toList, List.cons_append, List.nil_append]
  refine G_if_eq (pc := 16) (tgt := 23) (by decide) dX4_isLast_16 (fun _ => ?_) (fun z => absurd (by decide) z)
  refine G_iconst (pc := 23) (v := 0) (by decide) dX4_isLast_23 ?_
  exact G_zret (pc := 24) (Nat.le_of_ble_eq_true rfl) (Nat.le_of_ble_eq_true rfl) rfl (by decide) dX4_isLast_24 ⟨rfl, rfl⟩
set_option maxRecDepth 100000 in
set_option maxHeartbeats 4000000 in
theorem s95_X1_save  (d : Nat)   : G (d + 1) mX1_save 0 0 0 0 0 (gent 3 [.ref 19, .int 2]) [] SH0 RF0 (gup (gup (gup (gup (gup (gup (gup (gcp (gup (gup (gup (gup (gup (gup (gup (gcp (gup (gup (gup (gup I0 52 0 0) 53 0 1) 54 0 0) 52 0 (-1)) 24 34 (0 : Int32).toNatClampNeg (0 : Int32).toNatClampNeg (6 : Int32).toNatClampNeg) 34 6 0) 34 7 0) 19 1 1) 52 1 0) 53 1 1) 54 1 0) 52 1 (-1)) 24 34 (0 : Int32).toNatClampNeg (8 : Int32).toNatClampNeg (6 : Int32).toNatClampNeg) 34 14 0) 34 15 1) 19 1 2) 52 2 0) 53 2 1) 54 2 0) 52 2 (-1)) (fun r h => r = none ∧ h = (SH0, RF0, (gup (gup (gcp (gup (gup (gup (gup (gup (gup (gup (gcp (gup (gup (gup (gup (gup (gup (gup (gcp (gup (gup (gup (gup I0 52 0 0) 53 0 1) 54 0 0) 52 0 (-1)) 24 34 (0 : Int32).toNatClampNeg (0 : Int32).toNatClampNeg (6 : Int32).toNatClampNeg) 34 6 0) 34 7 0) 19 1 1) 52 1 0) 53 1 1) 54 1 0) 52 1 (-1)) 24 34 (0 : Int32).toNatClampNeg (8 : Int32).toNatClampNeg (6 : Int32).toNatClampNeg) 34 14 0) 34 15 1) 19 1 2) 52 2 0) 53 2 1) 54 2 0) 52 2 (-1)) 24 34 (0 : Int32).toNatClampNeg (16 : Int32).toNatClampNeg (6 : Int32).toNatClampNeg) 34 22 0) 34 23 2))) := by
  refine G_iload_n (pc := 0) rfl dX1_save_0 ?_
  refine G_bipush (pc := 1) (v := 8) (by decide) dX1_save_1 ?_
  refine G_imul (pc := 3) (z := 16) (by decide) dX1_save_3 ?_
  refine G_istore_n (pc := 4) (L1 := [some (.ref 19), some (.int 2), some (.int 16)]) rfl rfl (by decide) dX1_save_4 ?_
  refine G_aload_n (pc := 5) rfl dX1_save_5 ?_
  refine G_getR (pc := 6) (r := 24) (ci := 1) (j := 11) rfl lk_RX1_31 rfl rfl rfl dX1_save_6 ?_
  refine G_iconst (pc := 9) (v := 0) (by decide) dX1_save_9 ?_
  refine G_aload_n (pc := 10) rfl dX1_save_10 ?_
  refine G_getR (pc := 11) (r := 34) (ci := 1) (j := 18) rfl lk_RX1_53 rfl rfl rfl dX1_save_11 ?_
  refine G_iload_n (pc := 14) rfl dX1_save_14 ?_
  refine G_bipush (pc := 15) (v := 6) (by decide) dX1_save_15 ?_
  refine G_copy (pc := 17) (x := 24) (y := 34) rfl rfl (by decide) (by decide) (by decide) (by decide) (by decide) wf_50 wf_51 wf_52 wf_53 (Nat.le_of_ble_eq_true rfl) dX1_save_17 ?_
  refine G_aload_n (pc := 20) rfl dX1_save_20 ?_
  refine G_getR (pc := 21) (r := 34) (ci := 1) (j := 18) rfl lk_RX1_53 rfl rfl rfl dX1_save_21 ?_
  refine G_iload_n (pc := 24) rfl dX1_save_24 ?_
  refine G_bipush (pc := 25) (v := 6) (by decide) dX1_save_25 ?_
  refine G_iadd (pc := 27) (z := 22) (by decide) dX1_save_27 ?_
  refine G_aload_n (pc := 28) rfl dX1_save_28 ?_
  refine G_getI (pc := 29) (v := 0) (ci := 1) (j := 9) rfl rfl lk_RX1_75 rfl rfl dX1_save_29 ?_
  refine G_iast (pc := 32) (jj := 22) (by decide) rfl (by unfold vp_in; decide) dX1_save_32 ?_
  refine G_aload_n (pc := 33) rfl dX1_save_33 ?_
  refine G_getR (pc := 34) (r := 34) (ci := 1) (j := 18) rfl lk_RX1_53 rfl rfl rfl dX1_save_34 ?_
  refine G_iload_n (pc := 37) rfl dX1_save_37 ?_
  refine G_bipush (pc := 38) (v := 6) (by decide) dX1_save_38 ?_
  refine G_iadd (pc := 40) (z := 22) (by decide) dX1_save_40 ?_
  refine G_iconst (pc := 41) (v := 1) (by decide) dX1_save_41 ?_
  refine G_iadd (pc := 42) (z := 23) (by decide) dX1_save_42 ?_
  refine G_aload_n (pc := 43) rfl dX1_save_43 ?_
  refine G_getI (pc := 44) (v := 2) (ci := 1) (j := 1) rfl rfl lk_RX1_60 rfl rfl dX1_save_44 ?_
  refine G_iast (pc := 47) (jj := 23) (by decide) rfl (by unfold vp_in; decide) dX1_save_47 ?_
  exact G_vret (pc := 48) (Nat.le_of_ble_eq_true rfl) (Nat.le_of_ble_eq_true rfl) rfl dX1_save_48 ⟨rfl, rfl⟩
set_option maxRecDepth 100000 in
set_option maxHeartbeats 4000000 in
theorem s97_X1_isKey  (d : Nat)   : G (d) mX1_isKey 0 0 0 0 0 (gent 2 [.ref 19, .int (-1)]) [] SH0 RF0 (gup (gup (gcp (gup (gup (gup (gup (gup (gup (gup (gcp (gup (gup (gup (gup (gup (gup (gup (gcp (gup (gup (gup (gup I0 52 0 0) 53 0 1) 54 0 0) 52 0 (-1)) 24 34 (0 : Int32).toNatClampNeg (0 : Int32).toNatClampNeg (6 : Int32).toNatClampNeg) 34 6 0) 34 7 0) 19 1 1) 52 1 0) 53 1 1) 54 1 0) 52 1 (-1)) 24 34 (0 : Int32).toNatClampNeg (8 : Int32).toNatClampNeg (6 : Int32).toNatClampNeg) 34 14 0) 34 15 1) 19 1 2) 52 2 0) 53 2 1) 54 2 0) 52 2 (-1)) 24 34 (0 : Int32).toNatClampNeg (16 : Int32).toNatClampNeg (6 : Int32).toNatClampNeg) 34 22 0) 34 23 2) (fun r h => r = some (.int 0) ∧ h = (SH0, RF0, (gup (gup (gcp (gup (gup (gup (gup (gup (gup (gup (gcp (gup (gup (gup (gup (gup (gup (gup (gcp (gup (gup (gup (gup I0 52 0 0) 53 0 1) 54 0 0) 52 0 (-1)) 24 34 (0 : Int32).toNatClampNeg (0 : Int32).toNatClampNeg (6 : Int32).toNatClampNeg) 34 6 0) 34 7 0) 19 1 1) 52 1 0) 53 1 1) 54 1 0) 52 1 (-1)) 24 34 (0 : Int32).toNatClampNeg (8 : Int32).toNatClampNeg (6 : Int32).toNatClampNeg) 34 14 0) 34 15 1) 19 1 2) 52 2 0) 53 2 1) 54 2 0) 52 2 (-1)) 24 34 (0 : Int32).toNatClampNeg (16 : Int32).toNatClampNeg (6 : Int32).toNatClampNeg) 34 22 0) 34 23 2))) := by
  refine G_iload_n (pc := 0) rfl dX1_isKey_0 ?_
  refine G_if_lt (pc := 1) (tgt := 16) (by decide) dX1_isKey_1 (fun _ => ?_) (fun z => absurd (by decide) z)
  refine G_iconst (pc := 16) (v := 0) (by decide) dX1_isKey_16 ?_
  exact G_zret (pc := 17) (Nat.le_of_ble_eq_true rfl) (Nat.le_of_ble_eq_true rfl) rfl (by decide) dX1_isKey_17 ⟨rfl, rfl⟩
set_option maxRecDepth 100000 in
set_option maxHeartbeats 4000000 in
theorem s96_X1_tell  (d : Nat)   : G (d + 1) mX1_tell 0 0 0 0 0 (gent 5 [.ref 19, .int 0]) [] SH0 RF0 (gup (gup (gcp (gup (gup (gup (gup (gup (gup (gup (gcp (gup (gup (gup (gup (gup (gup (gup (gcp (gup (gup (gup (gup I0 52 0 0) 53 0 1) 54 0 0) 52 0 (-1)) 24 34 (0 : Int32).toNatClampNeg (0 : Int32).toNatClampNeg (6 : Int32).toNatClampNeg) 34 6 0) 34 7 0) 19 1 1) 52 1 0) 53 1 1) 54 1 0) 52 1 (-1)) 24 34 (0 : Int32).toNatClampNeg (8 : Int32).toNatClampNeg (6 : Int32).toNatClampNeg) 34 14 0) 34 15 1) 19 1 2) 52 2 0) 53 2 1) 54 2 0) 52 2 (-1)) 24 34 (0 : Int32).toNatClampNeg (16 : Int32).toNatClampNeg (6 : Int32).toNatClampNeg) 34 22 0) 34 23 2) (fun r h => r = some (.int 0) ∧ h = (SH0, RF0, (gup (gup (gcp (gup (gup (gup (gup (gup (gup (gup (gcp (gup (gup (gup (gup (gup (gup (gup (gcp (gup (gup (gup (gup I0 52 0 0) 53 0 1) 54 0 0) 52 0 (-1)) 24 34 (0 : Int32).toNatClampNeg (0 : Int32).toNatClampNeg (6 : Int32).toNatClampNeg) 34 6 0) 34 7 0) 19 1 1) 52 1 0) 53 1 1) 54 1 0) 52 1 (-1)) 24 34 (0 : Int32).toNatClampNeg (8 : Int32).toNatClampNeg (6 : Int32).toNatClampNeg) 34 14 0) 34 15 1) 19 1 2) 52 2 0) 53 2 1) 54 2 0) 52 2 (-1)) 24 34 (0 : Int32).toNatClampNeg (16 : Int32).toNatClampNeg (6 : Int32).toNatClampNeg) 34 22 0) 34 23 2))) := by
  refine G_iload_n (pc := 0) rfl dX1_tell_0 ?_
  refine G_iconst (pc := 1) (v := 1) (by decide) dX1_tell_1 ?_
  refine G_isub (pc := 2) (z := (-1)) (by decide) dX1_tell_2 ?_
  refine G_istore_n (pc := 3) (L1 := [some (.ref 19), some (.int 0), some (.int (-1)), none, none]) rfl rfl (by decide) dX1_tell_3 ?_
  refine G_aload_n (pc := 4) rfl dX1_tell_4 ?_
  refine G_iload_n (pc := 5) rfl dX1_tell_5 ?_
  refine G_callV (pc := 6) (mc1 := 0) (ms1 := 0) (ci := 1) (mj := mX1_isKey) (vs := [_]) dX1_tell_6 rfl rfl cm_X1_isKey wf_68 wf_13 wf_14 rfl (Nat.le_of_ble_eq_true rfl) (Nat.le_of_ble_eq_true rfl) (Nat.le_of_ble_eq_true rfl) (Nat.le_of_ble_eq_true rfl) (s97_X1_isKey  d  ) ?_
  rintro _ _ ⟨rfl, rfl⟩
  dsimp only [Option.toList, List.cons_append, List.nil_append]
  refine G_if_eq (pc := 9) (tgt := 20) (by decide) dX1_tell_9 (fun _ => ?_) (fun z => absurd (by decide) z)
  refine G_iconst (pc := 20) (v := 0) (by decide) dX1_tell_20 ?_
  exact G_iret (pc := 21) (Nat.le_of_ble_eq_true rfl) (Nat.le_of_ble_eq_true rfl) rfl dX1_tell_21 ⟨rfl, rfl⟩
set_option maxRecDepth 100000 in
set_option maxHeartbeats 4000000 in
theorem s98_X1_melt  (d : Nat)   : G (d) mX1_melt 0 0 0 0 0 (gent 3 [.ref 19]) [] SH0 RF0 (gup (gup (gcp (gup (gup (gup (gup (gup (gup (gup (gcp (gup (gup (gup (gup (gup (gup (gup (gcp (gup (gup (gup (gup I0 52 0 0) 53 0 1) 54 0 0) 52 0 (-1)) 24 34 (0 : Int32).toNatClampNeg (0 : Int32).toNatClampNeg (6 : Int32).toNatClampNeg) 34 6 0) 34 7 0) 19 1 1) 52 1 0) 53 1 1) 54 1 0) 52 1 (-1)) 24 34 (0 : Int32).toNatClampNeg (8 : Int32).toNatClampNeg (6 : Int32).toNatClampNeg) 34 14 0) 34 15 1) 19 1 2) 52 2 0) 53 2 1) 54 2 0) 52 2 (-1)) 24 34 (0 : Int32).toNatClampNeg (16 : Int32).toNatClampNeg (6 : Int32).toNatClampNeg) 34 22 0) 34 23 2) (fun r h => r = some (.int 0) ∧ h = (SH0, RF0, (gup (gup (gup (gcp (gup (gup (gup (gup (gup (gup (gup (gcp (gup (gup (gup (gup (gup (gup (gup (gcp (gup (gup (gup (gup I0 52 0 0) 53 0 1) 54 0 0) 52 0 (-1)) 24 34 (0 : Int32).toNatClampNeg (0 : Int32).toNatClampNeg (6 : Int32).toNatClampNeg) 34 6 0) 34 7 0) 19 1 1) 52 1 0) 53 1 1) 54 1 0) 52 1 (-1)) 24 34 (0 : Int32).toNatClampNeg (8 : Int32).toNatClampNeg (6 : Int32).toNatClampNeg) 34 14 0) 34 15 1) 19 1 2) 52 2 0) 53 2 1) 54 2 0) 52 2 (-1)) 24 34 (0 : Int32).toNatClampNeg (16 : Int32).toNatClampNeg (6 : Int32).toNatClampNeg) 34 22 0) 34 23 2) 19 1 3))) := by
  refine G_iconst (pc := 0) (v := 0) (by decide) dX1_melt_0 ?_
  refine G_istore_n (pc := 1) (L1 := [some (.ref 19), some (.int 0), none]) rfl rfl (by decide) dX1_melt_1 ?_
  refine G_iconst (pc := 2) (v := 0) (by decide) dX1_melt_2 ?_
  refine G_istore_n (pc := 3) (L1 := [some (.ref 19), some (.int 0), some (.int 0)]) rfl rfl (by decide) dX1_melt_3 ?_
  refine G_iload_n (pc := 4) rfl dX1_melt_4 ?_
  refine G_aload_n (pc := 5) rfl dX1_melt_5 ?_
  refine G_getI (pc := 6) (v := 0) (ci := 1) (j := 8) rfl rfl lk_RX1_72 rfl rfl dX1_melt_6 ?_
  refine G_icmp_ge (pc := 9) (tgt := 60) (by decide) dX1_melt_9 (fun _ => ?_) (fun z => absurd (by decide) z)
  refine G_aload_n (pc := 60) rfl dX1_melt_60 ?_
  refine G_dup (pc := 61) rfl dX1_melt_61 ?_
  refine G_getI (pc := 62) (v := 2) (ci := 1) (j := 1) rfl rfl lk_RX1_60 rfl rfl dX1_melt_62 ?_
  refine G_iconst (pc := 65) (v := 1) (by decide) dX1_melt_65 ?_
  refine G_iadd (pc := 66) (z := 3) (by decide) dX1_melt_66 ?_
  refine G_putI (pc := 67) (ci := 1) (j := 1) rfl lk_RX1_60 rfl rfl rfl trivial dX1_melt_67 ?_
  refine G_iload_n (pc := 70) rfl dX1_melt_70 ?_
  exact G_iret (pc := 71) (Nat.le_of_ble_eq_true rfl) (Nat.le_of_ble_eq_true rfl) rfl dX1_melt_71 ⟨rfl, rfl⟩
set_option maxRecDepth 100000 in
set_option maxHeartbeats 4000000 in
theorem s100_X4_isLast  (d : Nat)   : G (d) mX4_isLast 0 0 0 0 0 (gent 3 [.ref 51, .int 3, .int 0]) [] SH0 RF0 (gup (gup (gup (gup (gup (gup (gcp (gup (gup (gup (gup (gup (gup (gup (gcp (gup (gup (gup (gup (gup (gup (gup (gcp (gup (gup (gup (gup I0 52 0 0) 53 0 1) 54 0 0) 52 0 (-1)) 24 34 (0 : Int32).toNatClampNeg (0 : Int32).toNatClampNeg (6 : Int32).toNatClampNeg) 34 6 0) 34 7 0) 19 1 1) 52 1 0) 53 1 1) 54 1 0) 52 1 (-1)) 24 34 (0 : Int32).toNatClampNeg (8 : Int32).toNatClampNeg (6 : Int32).toNatClampNeg) 34 14 0) 34 15 1) 19 1 2) 52 2 0) 53 2 1) 54 2 0) 52 2 (-1)) 24 34 (0 : Int32).toNatClampNeg (16 : Int32).toNatClampNeg (6 : Int32).toNatClampNeg) 34 22 0) 34 23 2) 19 1 3) 52 3 0) 53 3 1) 54 3 0) (fun r h => r = some (.int 1) ∧ h = (SH0, RF0, (gup (gup (gup (gup (gup (gup (gcp (gup (gup (gup (gup (gup (gup (gup (gcp (gup (gup (gup (gup (gup (gup (gup (gcp (gup (gup (gup (gup I0 52 0 0) 53 0 1) 54 0 0) 52 0 (-1)) 24 34 (0 : Int32).toNatClampNeg (0 : Int32).toNatClampNeg (6 : Int32).toNatClampNeg) 34 6 0) 34 7 0) 19 1 1) 52 1 0) 53 1 1) 54 1 0) 52 1 (-1)) 24 34 (0 : Int32).toNatClampNeg (8 : Int32).toNatClampNeg (6 : Int32).toNatClampNeg) 34 14 0) 34 15 1) 19 1 2) 52 2 0) 53 2 1) 54 2 0) 52 2 (-1)) 24 34 (0 : Int32).toNatClampNeg (16 : Int32).toNatClampNeg (6 : Int32).toNatClampNeg) 34 22 0) 34 23 2) 19 1 3) 52 3 0) 53 3 1) 54 3 0))) := by
  refine G_iload_n (pc := 0) rfl dX4_isLast_0 ?_
  refine G_if_le (pc := 1) (tgt := 19) (by decide) dX4_isLast_1 (fun _ => ?_) (fun z => absurd (by decide) z)
  refine G_iconst (pc := 19) (v := 1) (by decide) dX4_isLast_19 ?_
  refine G_goto (pc := 20) (tgt := 24) (by decide) dX4_isLast_20 ?_
  exact G_zret (pc := 24) (Nat.le_of_ble_eq_true rfl) (Nat.le_of_ble_eq_true rfl) rfl (by decide) dX4_isLast_24 ⟨rfl, rfl⟩
set_option maxRecDepth 100000 in
set_option maxHeartbeats 4000000 in
theorem s99_X4_seek  (d : Nat)   : G (d + 1) mX4_seek 0 0 0 0 0 (gent 8 [.ref 51, .int 3, .int 0]) [] SH0 RF0 (gup (gup (gup (gcp (gup (gup (gup (gup (gup (gup (gup (gcp (gup (gup (gup (gup (gup (gup (gup (gcp (gup (gup (gup (gup I0 52 0 0) 53 0 1) 54 0 0) 52 0 (-1)) 24 34 (0 : Int32).toNatClampNeg (0 : Int32).toNatClampNeg (6 : Int32).toNatClampNeg) 34 6 0) 34 7 0) 19 1 1) 52 1 0) 53 1 1) 54 1 0) 52 1 (-1)) 24 34 (0 : Int32).toNatClampNeg (8 : Int32).toNatClampNeg (6 : Int32).toNatClampNeg) 34 14 0) 34 15 1) 19 1 2) 52 2 0) 53 2 1) 54 2 0) 52 2 (-1)) 24 34 (0 : Int32).toNatClampNeg (16 : Int32).toNatClampNeg (6 : Int32).toNatClampNeg) 34 22 0) 34 23 2) 19 1 3) (fun r h => r = none ∧ h = (SH0, RF0, (gup (gup (gup (gup (gup (gup (gcp (gup (gup (gup (gup (gup (gup (gup (gcp (gup (gup (gup (gup (gup (gup (gup (gcp (gup (gup (gup (gup I0 52 0 0) 53 0 1) 54 0 0) 52 0 (-1)) 24 34 (0 : Int32).toNatClampNeg (0 : Int32).toNatClampNeg (6 : Int32).toNatClampNeg) 34 6 0) 34 7 0) 19 1 1) 52 1 0) 53 1 1) 54 1 0) 52 1 (-1)) 24 34 (0 : Int32).toNatClampNeg (8 : Int32).toNatClampNeg (6 : Int32).toNatClampNeg) 34 14 0) 34 15 1) 19 1 2) 52 2 0) 53 2 1) 54 2 0) 52 2 (-1)) 24 34 (0 : Int32).toNatClampNeg (16 : Int32).toNatClampNeg (6 : Int32).toNatClampNeg) 34 22 0) 34 23 2) 19 1 3) 52 3 0) 53 3 1) 54 3 0))) := by
  refine G_aload_n (pc := 0) rfl dX4_seek_0 ?_
  refine G_getR (pc := 1) (r := 52) (ci := 4) (j := 1) rfl lk_RX4_9 rfl rfl rfl dX4_seek_1 ?_
  refine G_iload_n (pc := 4) rfl dX4_seek_4 ?_
  refine G_iconst (pc := 5) (v := 0) (by decide) dX4_seek_5 ?_
  refine G_iast (pc := 6) (jj := 3) (by decide) rfl (by unfold vp_in; decide) dX4_seek_6 ?_
  refine G_aload_n (pc := 7) rfl dX4_seek_7 ?_
  refine G_getR (pc := 8) (r := 53) (ci := 4) (j := 2) rfl lk_RX4_15 rfl rfl rfl dX4_seek_8 ?_
  refine G_iload_n (pc := 11) rfl dX4_seek_11 ?_
  refine G_iconst (pc := 12) (v := 1) (by decide) dX4_seek_12 ?_
  refine G_iast (pc := 13) (jj := 3) (by decide) rfl (by unfold vp_in; decide) dX4_seek_13 ?_
  refine G_aload_n (pc := 14) rfl dX4_seek_14 ?_
  refine G_getR (pc := 15) (r := 54) (ci := 4) (j := 3) rfl lk_RX4_18 rfl rfl rfl dX4_seek_15 ?_
  refine G_iload_n (pc := 18) rfl dX4_seek_18 ?_
  refine G_iconst (pc := 19) (v := 0) (by decide) dX4_seek_19 ?_
  refine G_iast (pc := 20) (jj := 3) (by decide) rfl (by unfold vp_in; decide) dX4_seek_20 ?_
  refine G_aload_n (pc := 21) rfl dX4_seek_21 ?_
  refine G_iload_n (pc := 22) rfl dX4_seek_22 ?_
  refine G_iload_n (pc := 23) rfl dX4_seek_23 ?_
  refine G_callV (pc := 24) (mc1 := 0) (ms1 := 0) (ci := 4) (mj := mX4_isLast) (vs := [_, _]) dX4_seek_24 rfl rfl cm_X4_isLast wf_126 wf_129 wf_130 rfl (Nat.le_of_ble_eq_true rfl) (Nat.le_of_ble_eq_true rfl) (Nat.le_of_ble_eq_true rfl) (Nat.le_of_ble_eq_true rfl) (s100_X4_isLast  d  ) ?_
  rintro _ _ ⟨rfl, rfl⟩
  dsimp only [Option.toList, List.cons_append, List.nil_append]
  refine G_if_eq (pc := 27) (tgt := 31) (by decide) dX4_seek_27 (fun z => absurd z (by decide)) (fun _ => ?_)
  exact G_vret (pc := 30) (Nat.le_of_ble_eq_true rfl) (Nat.le_of_ble_eq_true rfl) rfl dX4_seek_30 ⟨rfl, rfl⟩
set_option maxRecDepth 100000 in
set_option maxHeartbeats 4000000 in
theorem s101_X1_restore  (d : Nat)   : G (d + 1) mX1_restore 0 0 0 0 0 (gent 3 [.ref 19, .int 2]) [] SH0 RF0 (gup (gup (gup (gup (gup (gup (gcp (gup (gup (gup (gup (gup (gup (gup (gcp (gup (gup (gup (gup (gup (gup (gup (gcp (gup (gup (gup (gup I0 52 0 0) 53 0 1) 54 0 0) 52 0 (-1)) 24 34 (0 : Int32).toNatClampNeg (0 : Int32).toNatClampNeg (6 : Int32).toNatClampNeg) 34 6 0) 34 7 0) 19 1 1) 52 1 0) 53 1 1) 54 1 0) 52 1 (-1)) 24 34 (0 : Int32).toNatClampNeg (8 : Int32).toNatClampNeg (6 : Int32).toNatClampNeg) 34 14 0) 34 15 1) 19 1 2) 52 2 0) 53 2 1) 54 2 0) 52 2 (-1)) 24 34 (0 : Int32).toNatClampNeg (16 : Int32).toNatClampNeg (6 : Int32).toNatClampNeg) 34 22 0) 34 23 2) 19 1 3) 52 3 0) 53 3 1) 54 3 0) (fun r h => r = none ∧ h = (SH0, RF0, (gup (gup (gcp (gup (gup (gup (gup (gup (gup (gcp (gup (gup (gup (gup (gup (gup (gup (gcp (gup (gup (gup (gup (gup (gup (gup (gcp (gup (gup (gup (gup I0 52 0 0) 53 0 1) 54 0 0) 52 0 (-1)) 24 34 (0 : Int32).toNatClampNeg (0 : Int32).toNatClampNeg (6 : Int32).toNatClampNeg) 34 6 0) 34 7 0) 19 1 1) 52 1 0) 53 1 1) 54 1 0) 52 1 (-1)) 24 34 (0 : Int32).toNatClampNeg (8 : Int32).toNatClampNeg (6 : Int32).toNatClampNeg) 34 14 0) 34 15 1) 19 1 2) 52 2 0) 53 2 1) 54 2 0) 52 2 (-1)) 24 34 (0 : Int32).toNatClampNeg (16 : Int32).toNatClampNeg (6 : Int32).toNatClampNeg) 34 22 0) 34 23 2) 19 1 3) 52 3 0) 53 3 1) 54 3 0) 34 24 (16 : Int32).toNatClampNeg (0 : Int32).toNatClampNeg (6 : Int32).toNatClampNeg) 19 9 0) 19 1 2))) := by
  refine G_iload_n (pc := 0) rfl dX1_restore_0 ?_
  refine G_bipush (pc := 1) (v := 8) (by decide) dX1_restore_1 ?_
  refine G_imul (pc := 3) (z := 16) (by decide) dX1_restore_3 ?_
  refine G_istore_n (pc := 4) (L1 := [some (.ref 19), some (.int 2), some (.int 16)]) rfl rfl (by decide) dX1_restore_4 ?_
  refine G_aload_n (pc := 5) rfl dX1_restore_5 ?_
  refine G_getR (pc := 6) (r := 34) (ci := 1) (j := 18) rfl lk_RX1_53 rfl rfl rfl dX1_restore_6 ?_
  refine G_iload_n (pc := 9) rfl dX1_restore_9 ?_
  refine G_aload_n (pc := 10) rfl dX1_restore_10 ?_
  refine G_getR (pc := 11) (r := 24) (ci := 1) (j := 11) rfl lk_RX1_31 rfl rfl rfl dX1_restore_11 ?_
  refine G_iconst (pc := 14) (v := 0) (by decide) dX1_restore_14 ?_
  refine G_bipush (pc := 15) (v := 6) (by decide) dX1_restore_15 ?_
  refine G_copy (pc := 17) (x := 34) (y := 24) rfl rfl (by decide) (by decide) (by decide) (by decide) (by decide) wf_50 wf_51 wf_52 wf_53 (Nat.le_of_ble_eq_true rfl) dX1_restore_17 ?_
  refine G_aload_n (pc := 20) rfl dX1_restore_20 ?_
  refine G_aload_n (pc := 21) rfl dX1_restore_21 ?_
  refine G_getR (pc := 22) (r := 34) (ci := 1) (j := 18) rfl lk_RX1_53 rfl rfl rfl dX1_restore_22 ?_
  refine G_iload_n (pc := 25) rfl dX1_restore_25 ?_
  refine G_bipush (pc := 26) (v := 6) (by decide) dX1_restore_26 ?_
  refine G_iadd (pc := 28) (z := 22) (by decide) dX1_restore_28 ?_
  refine G_iald (pc := 29) (jj := 22) (v := 0) (by decide) rfl rfl (by unfold vp_in; decide) dX1_restore_29 ?_
  refine G_putI (pc := 30) (ci := 1) (j := 9) rfl lk_RX1_75 rfl rfl rfl trivial dX1_restore_30 ?_
  refine G_aload_n (pc := 33) rfl dX1_restore_33 ?_
  refine G_aload_n (pc := 34) rfl dX1_restore_34 ?_
  refine G_getR (pc := 35) (r := 34) (ci := 1) (j := 18) rfl lk_RX1_53 rfl rfl rfl dX1_restore_35 ?_
  refine G_iload_n (pc := 38) rfl dX1_restore_38 ?_
  refine G_bipush (pc := 39) (v := 6) (by decide) dX1_restore_39 ?_
  refine G_iadd (pc := 41) (z := 22) (by decide) dX1_restore_41 ?_
  refine G_iconst (pc := 42) (v := 1) (by decide) dX1_restore_42 ?_
  refine G_iadd (pc := 43) (z := 23) (by decide) dX1_restore_43 ?_
  refine G_iald (pc := 44) (jj := 23) (v := 2) (by decide) rfl rfl (by unfold vp_in; decide) dX1_restore_44 ?_
  refine G_putI (pc := 45) (ci := 1) (j := 1) rfl lk_RX1_60 rfl rfl rfl trivial dX1_restore_45 ?_
  exact G_vret (pc := 48) (Nat.le_of_ble_eq_true rfl) (Nat.le_of_ble_eq_true rfl) rfl dX1_restore_48 ⟨rfl, rfl⟩
set_option maxRecDepth 100000 in
set_option maxHeartbeats 4000000 in
theorem s102_X4_weigh  (d : Nat)   : G (d) mX4_weigh 0 0 0 0 0 (gent 5 [.ref 51, .int 2, .int 0, .int 1, .int 0]) [] SH0 RF0 (gup (gup (gcp (gup (gup (gup (gup (gup (gup (gcp (gup (gup (gup (gup (gup (gup (gup (gcp (gup (gup (gup (gup (gup (gup (gup (gcp (gup (gup (gup (gup I0 52 0 0) 53 0 1) 54 0 0) 52 0 (-1)) 24 34 (0 : Int32).toNatClampNeg (0 : Int32).toNatClampNeg (6 : Int32).toNatClampNeg) 34 6 0) 34 7 0) 19 1 1) 52 1 0) 53 1 1) 54 1 0) 52 1 (-1)) 24 34 (0 : Int32).toNatClampNeg (8 : Int32).toNatClampNeg (6 : Int32).toNatClampNeg) 34 14 0) 34 15 1) 19 1 2) 52 2 0) 53 2 1) 54 2 0) 52 2 (-1)) 24 34 (0 : Int32).toNatClampNeg (16 : Int32).toNatClampNeg (6 : Int32).toNatClampNeg) 34 22 0) 34 23 2) 19 1 3) 52 3 0) 53 3 1) 54 3 0) 34 24 (16 : Int32).toNatClampNeg (0 : Int32).toNatClampNeg (6 : Int32).toNatClampNeg) 19 9 0) 19 1 2) (fun r h => r = none ∧ h = (SH0, RF0, (gup (gup (gup (gup (gup (gcp (gup (gup (gup (gup (gup (gup (gcp (gup (gup (gup (gup (gup (gup (gup (gcp (gup (gup (gup (gup (gup (gup (gup (gcp (gup (gup (gup (gup I0 52 0 0) 53 0 1) 54 0 0) 52 0 (-1)) 24 34 (0 : Int32).toNatClampNeg (0 : Int32).toNatClampNeg (6 : Int32).toNatClampNeg) 34 6 0) 34 7 0) 19 1 1) 52 1 0) 53 1 1) 54 1 0) 52 1 (-1)) 24 34 (0 : Int32).toNatClampNeg (8 : Int32).toNatClampNeg (6 : Int32).toNatClampNeg) 34 14 0) 34 15 1) 19 1 2) 52 2 0) 53 2 1) 54 2 0) 52 2 (-1)) 24 34 (0 : Int32).toNatClampNeg (16 : Int32).toNatClampNeg (6 : Int32).toNatClampNeg) 34 22 0) 34 23 2) 19 1 3) 52 3 0) 53 3 1) 54 3 0) 34 24 (16 : Int32).toNatClampNeg (0 : Int32).toNatClampNeg (6 : Int32).toNatClampNeg) 19 9 0) 19 1 2) 52 2 0) 53 2 1) 54 2 0))) := by
  refine G_iload_n (pc := 0) rfl dX4_weigh_0 ?_
  refine G_aload_n (pc := 1) rfl dX4_weigh_1 ?_
  refine G_getR (pc := 2) (r := 52) (ci := 4) (j := 1) rfl lk_RX4_9 rfl rfl rfl dX4_weigh_2 ?_
  refine G_iload_n (pc := 5) rfl dX4_weigh_5 ?_
  refine G_iald (pc := 6) (jj := 2) (v := (-1)) (by decide) rfl rfl (by unfold vp_in; decide) dX4_weigh_6 ?_
  refine G_icmp_le (pc := 7) (tgt := 35) (by decide) dX4_weigh_7 (fun z => absurd z (by decide)) (fun _ => ?_)
  refine G_aload_n (pc := 10) rfl dX4_weigh_10 ?_
  refine G_getR (pc := 11) (r := 52) (ci := 4) (j := 1) rfl lk_RX4_9 rfl rfl rfl dX4_weigh_11 ?_
  refine G_iload_n (pc := 14) rfl dX4_weigh_14 ?_
  refine G_iload_n (pc := 15) rfl dX4_weigh_15 ?_
  refine G_iast (pc := 16) (jj := 2) (by decide) rfl (by unfold vp_in; decide) dX4_weigh_16 ?_
  refine G_aload_n (pc := 17) rfl dX4_weigh_17 ?_
  refine G_getR (pc := 18) (r := 53) (ci := 4) (j := 2) rfl lk_RX4_15 rfl rfl rfl dX4_weigh_18 ?_
  refine G_iload_n (pc := 21) rfl dX4_weigh_21 ?_
  refine G_iload_n (pc := 22) rfl dX4_weigh_22 ?_
  refine G_iast (pc := 23) (jj := 2) (by decide) rfl (by unfold vp_in; decide) dX4_weigh_23 ?_
  refine G_aload_n (pc := 24) rfl dX4_weigh_24 ?_
  refine G_getR (pc := 25) (r := 54) (ci := 4) (j := 3) rfl lk_RX4_18 rfl rfl rfl dX4_weigh_25 ?_
  refine G_iload_n (pc := 28) rfl dX4_weigh_28 ?_
  refine G_iload (pc := 29) rfl dX4_weigh_29 ?_
  refine G_iast (pc := 31) (jj := 2) (by decide) rfl (by unfold vp_in; decide) dX4_weigh_31 ?_
  refine G_goto (pc := 32) (tgt := 55) (by decide) dX4_weigh_32 ?_
  exact G_vret (pc := 55) (Nat.le_of_ble_eq_true rfl) (Nat.le_of_ble_eq_true rfl) rfl dX4_weigh_55 ⟨rfl, rfl⟩
set_option maxRecDepth 100000 in
set_option maxHeartbeats 4000000 in
theorem s92_X4_seek  (d : Nat)   : G (d + 2) mX4_seek 0 0 0 0 0 (gent 8 [.ref 51, .int 2, .int 1]) [] SH0 RF0 (gup (gup (gup (gcp (gup (gup (gup (gup (gup (gup (gup (gcp (gup (gup (gup (gup I0 52 0 0) 53 0 1) 54 0 0) 52 0 (-1)) 24 34 (0 : Int32).toNatClampNeg (0 : Int32).toNatClampNeg (6 : Int32).toNatClampNeg) 34 6 0) 34 7 0) 19 1 1) 52 1 0) 53 1 1) 54 1 0) 52 1 (-1)) 24 34 (0 : Int32).toNatClampNeg (8 : Int32).toNatClampNeg (6 : Int32).toNatClampNeg) 34 14 0) 34 15 1) 19 1 2) (fun r h => r = none ∧ h = (SH0, RF0, (gup (gup (gup (gup (gup (gcp (gup (gup (gup (gup (gup (gup (gcp (gup (gup (gup (gup (gup (gup (gup (gcp (gup (gup (gup (gup (gup (gup (gup (gcp (gup (gup (gup (gup I0 52 0 0) 53 0 1) 54 0 0) 52 0 (-1)) 24 34 (0 : Int32).toNatClampNeg (0 : Int32).toNatClampNeg (6 : Int32).toNatClampNeg) 34 6 0) 34 7 0) 19 1 1) 52 1 0) 53 1 1) 54 1 0) 52 1 (-1)) 24 34 (0 : Int32).toNatClampNeg (8 : Int32).toNatClampNeg (6 : Int32).toNatClampNeg) 34 14 0) 34 15 1) 19 1 2) 52 2 0) 53 2 1) 54 2 0) 52 2 (-1)) 24 34 (0 : Int32).toNatClampNeg (16 : Int32).toNatClampNeg (6 : Int32).toNatClampNeg) 34 22 0) 34 23 2) 19 1 3) 52 3 0) 53 3 1) 54 3 0) 34 24 (16 : Int32).toNatClampNeg (0 : Int32).toNatClampNeg (6 : Int32).toNatClampNeg) 19 9 0) 19 1 2) 52 2 0) 53 2 1) 54 2 0))) := by
  refine G_aload_n (pc := 0) rfl dX4_seek_0 ?_
  refine G_getR (pc := 1) (r := 52) (ci := 4) (j := 1) rfl lk_RX4_9 rfl rfl rfl dX4_seek_1 ?_
  refine G_iload_n (pc := 4) rfl dX4_seek_4 ?_
  refine G_iconst (pc := 5) (v := 0) (by decide) dX4_seek_5 ?_
  refine G_iast (pc := 6) (jj := 2) (by decide) rfl (by unfold vp_in; decide) dX4_seek_6 ?_
  refine G_aload_n (pc := 7) rfl dX4_seek_7 ?_
  refine G_getR (pc := 8) (r := 53) (ci := 4) (j := 2) rfl lk_RX4_15 rfl rfl rfl dX4_seek_8 ?_
  refine G_iload_n (pc := 11) rfl dX4_seek_11 ?_
  refine G_iconst (pc := 12) (v := 1) (by decide) dX4_seek_12 ?_
  refine G_iast (pc := 13) (jj := 2) (by decide) rfl (by unfold vp_in; decide) dX4_seek_13 ?_
  refine G_aload_n (pc := 14) rfl dX4_seek_14 ?_
  refine G_getR (pc := 15) (r := 54) (ci := 4) (j := 3) rfl lk_RX4_18 rfl rfl rfl dX4_seek_15 ?_
  refine G_iload_n (pc := 18) rfl dX4_seek_18 ?_
  refine G_iconst (pc := 19) (v := 0) (by decide) dX4_seek_19 ?_
  refine G_iast (pc := 20) (jj := 2) (by decide) rfl (by unfold vp_in; decide) dX4_seek_20 ?_
  refine G_aload_n (pc := 21) rfl dX4_seek_21 ?_
  refine G_iload_n (pc := 22) rfl dX4_seek_22 ?_
  refine G_iload_n (pc := 23) rfl dX4_seek_23 ?_
  refine G_callV (pc := 24) (mc1 := 0) (ms1 := 0) (ci := 4) (mj := mX4_isLast) (vs := [_, _]) dX4_seek_24 rfl rfl cm_X4_isLast wf_126 wf_129 wf_130 rfl (Nat.le_of_ble_eq_true rfl) (Nat.le_of_ble_eq_true rfl) (Nat.le_of_ble_eq_true rfl) (Nat.le_of_ble_eq_true rfl) (s93_X4_isLast  d  ) ?_
  rintro _ _ ⟨rfl, rfl⟩
  dsimp only [Option.toList, List.cons_append, List.nil_append]
  refine G_if_eq (pc := 27) (tgt := 31) (by decide) dX4_seek_27 (fun _ => ?_) (fun z => absurd (by decide) z)
  refine G_aload_n (pc := 31) rfl dX4_seek_31 ?_
  refine G_getR (pc := 32) (r := 52) (ci := 4) (j := 1) rfl lk_RX4_9 rfl rfl rfl dX4_seek_32 ?_
  refine G_iload_n (pc := 35) rfl dX4_seek_35 ?_
  refine G_iconst (pc := 36) (v := (-1)) (by decide) dX4_seek_36 ?_
  refine G_iast (pc := 37) (jj := 2) (by decide) rfl (by unfold vp_in; decide) dX4_seek_37 ?_
  refine G_iconst (pc := 38) (v := 0) (by decide) dX4_seek_38 ?_
  refine G_istore_n (pc := 39) (L1 := [some (.ref 51), some (.int 2), some (.int 1), some (.int 0), none, none, none, none]) rfl rfl (by decide) dX4_seek_39 ?_
  refine G_iconst (pc := 40) (v := 0) (by decide) dX4_seek_40 ?_
  refine G_istore (pc := 41) (L1 := [some (.ref 51), some (.int 2), some (.int 1), some (.int 0), some (.int 0), none, none, none]) rfl rfl (by decide) dX4_seek_41 ?_
  refine G_aload_n (pc := 43) rfl dX4_seek_43 ?_
  refine G_getR (pc := 44) (r := 19) (ci := 4) (j := 0) rfl lk_RX4_21 rfl rfl rfl dX4_seek_44 ?_
  refine G_iload_n (pc := 47) rfl dX4_seek_47 ?_
  refine G_callV (pc := 48) (mc1 := 0) (ms1 := 0) (ci := 1) (mj := mX1_save) (vs := [_]) dX4_seek_48 rfl rfl cm_X1_save wf_134 wf_105 wf_106 rfl (Nat.le_of_ble_eq_true rfl) (Nat.le_of_ble_eq_true rfl) (Nat.le_of_ble_eq_true rfl) (Nat.le_of_ble_eq_true rfl) (s95_X1_save  d  ) ?_
  rintro _ _ ⟨rfl, rfl⟩
  dsimp only [Option.toList, List.cons_append, List.nil_append]
  refine G_iconst (pc := 51) (v := 0) (by decide) dX4_seek_51 ?_
  refine G_istore (pc := 52) (L1 := [some (.ref 51), some (.int 2), some (.int 1), some (.int 0), some (.int 0), some (.int 0), none, none]) rfl rfl (by decide) dX4_seek_52 ?_
  refine G_iload (pc := 54) rfl dX4_seek_54 ?_
  refine G_aload_n (pc := 56) rfl dX4_seek_56 ?_
  refine G_getR (pc := 57) (r := 19) (ci := 4) (j := 0) rfl lk_RX4_21 rfl rfl rfl dX4_seek_57 ?_
  refine G_getI (pc := 60) (v := 0) (ci := 1) (j := 8) rfl rfl lk_RX4_39 rfl rfl dX4_seek_60 ?_
  refine G_icmp_gt (pc := 63) (tgt := 208) (by decide) dX4_seek_63 (fun z => absurd z (by decide)) (fun _ => ?_)
  refine G_aload_n (pc := 66) rfl dX4_seek_66 ?_
  refine G_getR (pc := 67) (r := 19) (ci := 4) (j := 0) rfl lk_RX4_21 rfl rfl rfl dX4_seek_67 ?_
  refine G_iload (pc := 70) rfl dX4_seek_70 ?_
  refine G_callV (pc := 72) (mc1 := 0) (ms1 := 0) (ci := 1) (mj := mX1_tell) (vs := [_]) dX4_seek_72 rfl rfl cm_X1_tell wf_135 wf_71 wf_72 rfl (Nat.le_of_ble_eq_true rfl) (Nat.le_of_ble_eq_true rfl) (Nat.le_of_ble_eq_true rfl) (Nat.le_of_ble_eq_true rfl) (s96_X1_tell  d  ) ?_
  rintro _ _ ⟨rfl, rfl⟩
  dsimp only [Option.toList, List.cons_append, List.nil_append]
  refine G_istore (pc := 75) (L1 := [some (.ref 51), some (.int 2), some (.int 1), some (.int 0), some (.int 0), some (.int 0), some (.int 0), none]) rfl rfl (by decide) dX4_seek_75 ?_
  refine G_iload (pc := 77) rfl dX4_seek_77 ?_
  refine G_if_eq (pc := 79) (tgt := 87) (by decide) dX4_seek_79 (fun _ => ?_) (fun z => absurd (by decide) z)
  refine G_iload (pc := 87) rfl dX4_seek_87 ?_
  refine G_aload_n (pc := 89) rfl dX4_seek_89 ?_
  refine G_getR (pc := 90) (r := 19) (ci := 4) (j := 0) rfl lk_RX4_21 rfl rfl rfl dX4_seek_90 ?_
  refine G_callV (pc := 93) (mc1 := 0) (ms1 := 0) (ci := 1) (mj := mX1_melt) (vs := []) dX4_seek_93 rfl rfl cm_X1_melt wf_136 wf_75 wf_76 rfl (Nat.le_of_ble_eq_true rfl) (Nat.le_of_ble_eq_true rfl) (Nat.le_of_ble_eq_true rfl) (Nat.le_of_ble_eq_true rfl) (s98_X1_melt  (d + 1)  ) ?_
  rintro _ _ ⟨rfl, rfl⟩
  dsimp only [Option.toList, List.cons_append, List.nil_append]
  refine G_iadd (pc := 96) (z := 0) (by decide) dX4_seek_96 ?_
  refine G_istore (pc := 97) (L1 := [some (.ref 51), some (.int 2), some (.int 1), some (.int 0), some (.int 0), some (.int 0), some (.int 0), some (.int 0)]) rfl rfl (by decide) dX4_seek_97 ?_
  refine G_aload_n (pc := 99) rfl dX4_seek_99 ?_
  refine G_iload_n (pc := 100) rfl dX4_seek_100 ?_
  refine G_iconst (pc := 101) (v := 1) (by decide) dX4_seek_101 ?_
  refine G_iadd (pc := 102) (z := 3) (by decide) dX4_seek_102 ?_
  refine G_iload_n (pc := 103) rfl dX4_seek_103 ?_
  refine G_iconst (pc := 104) (v := 1) (by decide) dX4_seek_104 ?_
  refine G_isub (pc := 105) (z := 0) (by decide) dX4_seek_105 ?_
  refine G_callV (pc := 106) (mc1 := 0) (ms1 := 0) (ci := 4) (mj := mX4_seek) (vs := [_, _]) dX4_seek_106 rfl rfl cm_X4_seek wf_137 wf_132 wf_133 rfl (Nat.le_of_ble_eq_true rfl) (Nat.le_of_ble_eq_true rfl) (Nat.le_of_ble_eq_true rfl) (Nat.le_of_ble_eq_true rfl) (s99_X4_seek  d  ) ?_
  rintro _ _ ⟨rfl, rfl⟩
  dsimp only [Option.toList, List.cons_append, List.nil_append]
  refine G_aload_n (pc := 109) rfl dX4_seek_109 ?_
  refine G_getR (pc := 110) (r := 19) (ci := 4) (j := 0) rfl lk_RX4_21 rfl rfl rfl dX4_seek_110 ?_
  refine G_iload_n (pc := 113) rfl dX4_seek_113 ?_
  refine G_callV (pc := 114) (mc1 := 0) (ms1 := 0) (ci := 1) (mj := mX1_restore) (vs := [_]) dX4_seek_114 rfl rfl cm_X1_restore wf_138 wf_109 wf_110 rfl (Nat.le_of_ble_eq_true rfl) (Nat.le_of_ble_eq_true rfl) (Nat.le_of_ble_eq_true rfl) (Nat.le_of_ble_eq_true rfl) (s101_X1_restore  d  ) ?_
  rintro _ _ ⟨rfl, rfl⟩
  dsimp only [Option.toList, List.cons_append, List.nil_append]
  refine G_iload (pc := 117) rfl dX4_seek_117 ?_
  refine G_aload_n (pc := 119) rfl dX4_seek_119 ?_
  refine G_getR (pc := 120) (r := 52) (ci := 4) (j := 1) rfl lk_RX4_9 rfl rfl rfl dX4_seek_120 ?_
  refine G_iload_n (pc := 123) rfl dX4_seek_123 ?_
  refine G_iconst (pc := 124) (v := 1) (by decide) dX4_seek_124 ?_
  refine G_iadd (pc := 125) (z := 3) (by decide) dX4_seek_125 ?_
  refine G_iald (pc := 126) (jj := 3) (v := 0) (by decide) rfl rfl (by unfold vp_in; decide) dX4_seek_126 ?_
  refine G_iadd (pc := 127) (z := 0) (by decide) dX4_seek_127 ?_
  refine G_istore (pc := 128) (L1 := [some (.ref 51), some (.int 2), some (.int 1), some (.int 0), some (.int 0), some (.int 0), some (.int 0), some (.int 0)]) rfl rfl (by decide) dX4_seek_128 ?_
  refine G_aload_n (pc := 130) rfl dX4_seek_130 ?_
  refine G_iload_n (pc := 131) rfl dX4_seek_131 ?_
  refine G_iload (pc := 132) rfl dX4_seek_132 ?_
  refine G_aload_n (pc := 134) rfl dX4_seek_134 ?_
  refine G_getR (pc := 135) (r := 53) (ci := 4) (j := 2) rfl lk_RX4_15 rfl rfl rfl dX4_seek_135 ?_
  refine G_iload_n (pc := 138) rfl dX4_seek_138 ?_
  refine G_iconst (pc := 139) (v := 1) (by decide) dX4_seek_139 ?_
  refine G_iadd (pc := 140) (z := 3) (by decide) dX4_seek_140 ?_
  refine G_iald (pc := 141) (jj := 3) (v := 1) (by decide) rfl rfl (by unfold vp_in; decide) dX4_seek_141 ?_
  refine G_iload (pc := 142) rfl dX4_seek_142 ?_
  refine G_aload_n (pc := 144) rfl dX4_seek_144 ?_
  refine G_getR (pc := 145) (r := 54) (ci := 4) (j := 3) rfl lk_RX4_18 rfl rfl rfl dX4_seek_145 ?_
  refine G_iload_n (pc := 148) rfl dX4_seek_148 ?_
  refine G_iconst (pc := 149) (v := 1) (by decide) dX4_seek_149 ?_
  refine G_iadd (pc := 150) (z := 3) (by decide) dX4_seek_150 ?_
  refine G_iald (pc := 151) (jj := 3) (v := 0) (by decide) rfl rfl (by unfold vp_in; decide) dX4_seek_151 ?_
  refine G_iconst (pc := 152) (v := 3) (by decide) dX4_seek_152 ?_
  refine G_ishl (pc := 153) (z := 0) (by decide) dX4_seek_153 ?_
  refine G_ior (pc := 154) (z := 0) (by decide) dX4_seek_154 ?_
  refine G_callV (pc := 155) (mc1 := 0) (ms1 := 0) (ci := 4) (mj := mX4_weigh) (vs := [_, _, _, _]) dX4_seek_155 rfl rfl cm_X4_weigh wf_139 wf_141 wf_142 rfl (Nat.le_of_ble_eq_true rfl) (Nat.le_of_ble_eq_true rfl) (Nat.le_of_ble_eq_true rfl) (Nat.le_of_ble_eq_true rfl) (s102_X4_weigh  (d + 1)  ) ?_
  rintro _ _ ⟨rfl, rfl⟩
  dsimp only [Option.toList, List.cons_append, List.nil_append]
  refine G_iload (pc := 158) rfl dX4_seek_158 ?_
  refine G_if_ne (pc := 160) (tgt := 168) (by decide) dX4_seek_160 (fun z => absurd (by decide) z) (fun _ => ?_)
  refine G_iload (pc := 163) rfl dX4_seek_163 ?_
  refine G_goto (pc := 165) (tgt := 169) (by decide) dX4_seek_165 ?_
  refine G_istore_n (pc := 169) (L1 := [some (.ref 51), some (.int 2), some (.int 1), some (.int 0), some (.int 0), some (.int 0), some (.int 0), some (.int 0)]) rfl rfl (by decide) dX4_seek_169 ?_
  refine G_iload (pc := 170) rfl dX4_seek_170 ?_
  refine G_if_ne (pc := 172) (tgt := 186) (by decide) dX4_seek_172 (fun z => absurd (by decide) z) (fun _ => ?_)
  refine G_aload_n (pc := 175) rfl dX4_seek_175 ?_
  refine G_getR (pc := 176) (r := 53) (ci := 4) (j := 2) rfl lk_RX4_15 rfl rfl rfl dX4_seek_176 ?_
  refine G_iload_n (pc := 179) rfl dX4_seek_179 ?_
  refine G_iconst (pc := 180) (v := 1) (by decide) dX4_seek_180 ?_
  refine G_iadd (pc := 181) (z := 3) (by decide) dX4_seek_181 ?_
  refine G_iald (pc := 182) (jj := 3) (v := 1) (by decide) rfl rfl (by unfold vp_in; decide) dX4_seek_182 ?_
  refine G_goto (pc := 183) (tgt := 188) (by decide) dX4_seek_183 ?_
  refine G_istore (pc := 188) (L1 := [some (.ref 51), some (.int 2), some (.int 1), some (.int 0), some (.int 1), some (.int 0), some (.int 0), some (.int 0)]) rfl rfl (by decide) dX4_seek_188 ?_
  refine G_goto (pc := 190) (tgt := 202) (by decide) dX4_seek_190 ?_
  refine G_iinc (pc := 202) (v := 1) (w := 1) (L1 := [some (.ref 51), some (.int 2), some (.int 1), some (.int 0), some (.int 1), some (.int 1), some (.int 0), some (.int 0)]) (by decide) rfl rfl (by decide) rfl (by decide) dX4_seek_202 ?_
  refine G_goto (pc := 205) (tgt := 54) (by decide) dX4_seek_205 ?_
  refine G_iload (pc := 54) rfl dX4_seek_54 ?_
  refine G_aload_n (pc := 56) rfl dX4_seek_56 ?_
  refine G_getR (pc := 57) (r := 19) (ci := 4) (j := 0) rfl lk_RX4_21 rfl rfl rfl dX4_seek_57 ?_
  refine G_getI (pc := 60) (v := 0) (ci := 1) (j := 8) rfl rfl lk_RX4_39 rfl rfl dX4_seek_60 ?_
  refine G_icmp_gt (pc := 63) (tgt := 208) (by decide) dX4_seek_63 (fun _ => ?_) (fun z => absurd (by decide) z)
  exact G_vret (pc := 208) (Nat.le_of_ble_eq_true rfl) (Nat.le_of_ble_eq_true rfl) rfl dX4_seek_208 ⟨rfl, rfl⟩
set_option maxRecDepth 100000 in
set_option maxHeartbeats 4000000 in
theorem s103_X1_restore  (d : Nat)   : G (d + 1) mX1_restore 0 0 0 0 0 (gent 3 [.ref 19, .int 1]) [] SH0 RF0 (gup (gup (gup (gup (gup (gcp (gup (gup (gup (gup (gup (gup (gcp (gup (gup (gup (gup (gup (gup (gup (gcp (gup (gup (gup (gup (gup (gup (gup (gcp (gup (gup (gup (gup I0 52 0 0) 53 0 1) 54 0 0) 52 0 (-1)) 24 34 (0 : Int32).toNatClampNeg (0 : Int32).toNatClampNeg (6 : Int32).toNatClampNeg) 34 6 0) 34 7 0) 19 1 1) 52 1 0) 53 1 1) 54 1 0) 52 1 (-1)) 24 34 (0 : Int32).toNatClampNeg (8 : Int32).toNatClampNeg (6 : Int32).toNatClampNeg) 34 14 0) 34 15 1) 19 1 2) 52 2 0) 53 2 1) 54 2 0) 52 2 (-1)) 24 34 (0 : Int32).toNatClampNeg (16 : Int32).toNatClampNeg (6 : Int32).toNatClampNeg) 34 22 0) 34 23 2) 19 1 3) 52 3 0) 53 3 1) 54 3 0) 34 24 (16 : Int32).toNatClampNeg (0 : Int32).toNatClampNeg (6 : Int32).toNatClampNeg) 19 9 0) 19 1 2) 52 2 0) 53 2 1) 54 2 0) (fun r h => r = none ∧ h = (SH0, RF0, (gup (gup (gcp (gup (gup (gup (gup (gup (gcp (gup (gup (gup (gup (gup (gup (gcp (gup (gup (gup (gup (gup (gup (gup (gcp (gup (gup (gup (gup (gup (gup (gup (gcp (gup (gup (gup (gup I0 52 0 0) 53 0 1) 54 0 0) 52 0 (-1)) 24 34 (0 : Int32).toNatClampNeg (0 : Int32).toNatClampNeg (6 : Int32).toNatClampNeg) 34 6 0) 34 7 0) 19 1 1) 52 1 0) 53 1 1) 54 1 0) 52 1 (-1)) 24 34 (0 : Int32).toNatClampNeg (8 : Int32).toNatClampNeg (6 : Int32).toNatClampNeg) 34 14 0) 34 15 1) 19 1 2) 52 2 0) 53 2 1) 54 2 0) 52 2 (-1)) 24 34 (0 : Int32).toNatClampNeg (16 : Int32).toNatClampNeg (6 : Int32).toNatClampNeg) 34 22 0) 34 23 2) 19 1 3) 52 3 0) 53 3 1) 54 3 0) 34 24 (16 : Int32).toNatClampNeg (0 : Int32).toNatClampNeg (6 : Int32).toNatClampNeg) 19 9 0) 19 1 2) 52 2 0) 53 2 1) 54 2 0) 34 24 (8 : Int32).toNatClampNeg (0 : Int32).toNatClampNeg (6 : Int32).toNatClampNeg) 19 9 0) 19 1 1))) := by
  refine G_iload_n (pc := 0) rfl dX1_restore_0 ?_
  refine G_bipush (pc := 1) (v := 8) (by decide) dX1_restore_1 ?_
  refine G_imul (pc := 3) (z := 8) (by decide) dX1_restore_3 ?_
  refine G_istore_n (pc := 4) (L1 := [some (.ref 19), some (.int 1), some (.int 8)]) rfl rfl (by decide) dX1_restore_4 ?_
  refine G_aload_n (pc := 5) rfl dX1_restore_5 ?_
  refine G_getR (pc := 6) (r := 34) (ci := 1) (j := 18) rfl lk_RX1_53 rfl rfl rfl dX1_restore_6 ?_
  refine G_iload_n (pc := 9) rfl dX1_restore_9 ?_
  refine G_aload_n (pc := 10) rfl dX1_restore_10 ?_
  refine G_getR (pc := 11) (r := 24) (ci := 1) (j := 11) rfl lk_RX1_31 rfl rfl rfl dX1_restore_11 ?_
  refine G_iconst (pc := 14) (v := 0) (by decide) dX1_restore_14 ?_
  refine G_bipush (pc := 15) (v := 6) (by decide) dX1_restore_15 ?_
  refine G_copy (pc := 17) (x := 34) (y := 24) rfl rfl (by decide) (by decide) (by decide) (by decide) (by decide) wf_50 wf_51 wf_52 wf_53 (Nat.le_of_ble_eq_true rfl) dX1_restore_17 ?_
  refine G_aload_n (pc := 20) rfl dX1_restore_20 ?_
  refine G_aload_n (pc := 21) rfl dX1_restore_21 ?_
  refine G_getR (pc := 22) (r := 34) (ci := 1) (j := 18) rfl lk_RX1_53 rfl rfl rfl dX1_restore_22 ?_
  refine G_iload_n (pc := 25) rfl dX1_restore_25 ?_
  refine G_bipush (pc := 26) (v := 6) (by decide) dX1_restore_26 ?_
  refine G_iadd (pc := 28) (z := 14) (by decide) dX1_restore_28 ?_
  refine G_iald (pc := 29) (jj := 14) (v := 0) (by decide) rfl rfl (by unfold vp_in; decide) dX1_restore_29 ?_
  refine G_putI (pc := 30) (ci := 1) (j := 9) rfl lk_RX1_75 rfl rfl rfl trivial dX1_restore_30 ?_
  refine G_aload_n (pc := 33) rfl dX1_restore_33 ?_
  refine G_aload_n (pc := 34) rfl dX1_restore_34 ?_
  refine G_getR (pc := 35) (r := 34) (ci := 1) (j := 18) rfl lk_RX1_53 rfl rfl rfl dX1_restore_35 ?_
  refine G_iload_n (pc := 38) rfl dX1_restore_38 ?_
  refine G_bipush (pc := 39) (v := 6) (by decide) dX1_restore_39 ?_
  refine G_iadd (pc := 41) (z := 14) (by decide) dX1_restore_41 ?_
  refine G_iconst (pc := 42) (v := 1) (by decide) dX1_restore_42 ?_
  refine G_iadd (pc := 43) (z := 15) (by decide) dX1_restore_43 ?_
  refine G_iald (pc := 44) (jj := 15) (v := 1) (by decide) rfl rfl (by unfold vp_in; decide) dX1_restore_44 ?_
  refine G_putI (pc := 45) (ci := 1) (j := 1) rfl lk_RX1_60 rfl rfl rfl trivial dX1_restore_45 ?_
  exact G_vret (pc := 48) (Nat.le_of_ble_eq_true rfl) (Nat.le_of_ble_eq_true rfl) rfl dX1_restore_48 ⟨rfl, rfl⟩
set_option maxRecDepth 100000 in
set_option maxHeartbeats 4000000 in
theorem s104_X4_weigh  (d : Nat)   : G (d) mX4_weigh 0 0 0 0 0 (gent 5 [.ref 51, .int 1, .int 0, .int 1, .int 0]) [] SH0 RF0 (gup (gup (gcp (gup (gup (gup (gup (gup (gcp (gup (gup (gup (gup (gup (gup (gcp (gup (gup (gup (gup (gup (gup (gup (gcp (gup (gup (gup (gup (gup (gup (gup (gcp (gup (gup (gup (gup I0 52 0 0) 53 0 1) 54 0 0) 52 0 (-1)) 24 34 (0 : Int32).toNatClampNeg (0 : Int32).toNatClampNeg (6 : Int32).toNatClampNeg) 34 6 0) 34 7 0) 19 1 1) 52 1 0) 53 1 1) 54 1 0) 52 1 (-1)) 24 34 (0 : Int32).toNatClampNeg (8 : Int32).toNatClampNeg (6 : Int32).toNatClampNeg) 34 14 0) 34 15 1) 19 1 2) 52 2 0) 53 2 1) 54 2 0) 52 2 (-1)) 24 34 (0 : Int32).toNatClampNeg (16 : Int32).toNatClampNeg (6 : Int32).toNatClampNeg) 34 22 0) 34 23 2) 19 1 3) 52 3 0) 53 3 1) 54 3 0) 34 24 (16 : Int32).toNatClampNeg (0 : Int32).toNatClampNeg (6 : Int32).toNatClampNeg) 19 9 0) 19 1 2) 52 2 0) 53 2 1) 54 2 0) 34 24 (8 : Int32).toNatClampNeg (0 : Int32).toNatClampNeg (6 : Int32).toNatClampNeg) 19 9 0) 19 1 1) (fun r h => r = none ∧ h = (SH0, RF0, (gup (gup (gup (gup (gup (gcp (gup (gup (gup (gup (gup (gcp (gup (gup (gup (gup (gup (gup (gcp (gup (gup (gup (gup (gup (gup (gup (gcp (gup (gup (gup (gup (gup (gup (gup (gcp (gup (gup (gup (gup I0 52 0 0) 53 0 1) 54 0 0) 52 0 (-1)) 24 34 (0 : Int32).toNatClampNeg (0 : Int32).toNatClampNeg (6 : Int32).toNatClampNeg) 34 6 0) 34 7 0) 19 1 1) 52 1 0) 53 1 1) 54 1 0) 52 1 (-1)) 24 34 (0 : Int32).toNatClampNeg (8 : Int32).toNatClampNeg (6 : Int32).toNatClampNeg) 34 14 0) 34 15 1) 19 1 2) 52 2 0) 53 2 1) 54 2 0) 52 2 (-1)) 24 34 (0 : Int32).toNatClampNeg (16 : Int32).toNatClampNeg (6 : Int32).toNatClampNeg) 34 22 0) 34 23 2) 19 1 3) 52 3 0) 53 3 1) 54 3 0) 34 24 (16 : Int32).toNatClampNeg (0 : Int32).toNatClampNeg (6 : Int32).toNatClampNeg) 19 9 0) 19 1 2) 52 2 0) 53 2 1) 54 2 0) 34 24 (8 : Int32).toNatClampNeg (0 : Int32).toNatClampNeg (6 : Int32).toNatClampNeg) 19 9 0) 19 1 1) 52 1 0) 53 1 1) 54 1 0))) := by
  refine G_iload_n (pc := 0) rfl dX4_weigh_0 ?_
  refine G_aload_n (pc := 1) rfl dX4_weigh_1 ?_
  refine G_getR (pc := 2) (r := 52) (ci := 4) (j := 1) rfl lk_RX4_9 rfl rfl rfl dX4_weigh_2 ?_
  refine G_iload_n (pc := 5) rfl dX4_weigh_5 ?_
  refine G_iald (pc := 6) (jj := 1) (v := (-1)) (by decide) rfl rfl (by unfold vp_in; decide) dX4_weigh_6 ?_
  refine G_icmp_le (pc := 7) (tgt := 35) (by decide) dX4_weigh_7 (fun z => absurd z (by decide)) (fun _ => ?_)
  refine G_aload_n (pc := 10) rfl dX4_weigh_10 ?_
  refine G_getR (pc := 11) (r := 52) (ci := 4) (j := 1) rfl lk_RX4_9 rfl rfl rfl dX4_weigh_11 ?_
  refine G_iload_n (pc := 14) rfl dX4_weigh_14 ?_
  refine G_iload_n (pc := 15) rfl dX4_weigh_15 ?_
  refine G_iast (pc := 16) (jj := 1) (by decide) rfl (by unfold vp_in; decide) dX4_weigh_16 ?_
  refine G_aload_n (pc := 17) rfl dX4_weigh_17 ?_
  refine G_getR (pc := 18) (r := 53) (ci := 4) (j := 2) rfl lk_RX4_15 rfl rfl rfl dX4_weigh_18 ?_
  refine G_iload_n (pc := 21) rfl dX4_weigh_21 ?_
  refine G_iload_n (pc := 22) rfl dX4_weigh_22 ?_
  refine G_iast (pc := 23) (jj := 1) (by decide) rfl (by unfold vp_in; decide) dX4_weigh_23 ?_
  refine G_aload_n (pc := 24) rfl dX4_weigh_24 ?_
  refine G_getR (pc := 25) (r := 54) (ci := 4) (j := 3) rfl lk_RX4_18 rfl rfl rfl dX4_weigh_25 ?_
  refine G_iload_n (pc := 28) rfl dX4_weigh_28 ?_
  refine G_iload (pc := 29) rfl dX4_weigh_29 ?_
  refine G_iast (pc := 31) (jj := 1) (by decide) rfl (by unfold vp_in; decide) dX4_weigh_31 ?_
  refine G_goto (pc := 32) (tgt := 55) (by decide) dX4_weigh_32 ?_
  exact G_vret (pc := 55) (Nat.le_of_ble_eq_true rfl) (Nat.le_of_ble_eq_true rfl) rfl dX4_weigh_55 ⟨rfl, rfl⟩
set_option maxRecDepth 100000 in
set_option maxHeartbeats 4000000 in
theorem s90_X4_seek  (d : Nat)   : G (d + 3) mX4_seek 0 0 0 0 0 (gent 8 [.ref 51, .int 1, .int 2]) [] SH0 RF0 (gup (gup (gup (gcp (gup (gup (gup (gup I0 52 0 0) 53 0 1) 54 0 0) 52 0 (-1)) 24 34 (0 : Int32).toNatClampNeg (0 : Int32).toNatClampNeg (6 : Int32).toNatClampNeg) 34 6 0) 34 7 0) 19 1 1) (fun r h => r = none ∧ h = (SH0, RF0, (gup (gup (gup (gup (gup (gcp (gup (gup (gup (gup (gup (gcp (gup (gup (gup (gup (gup (gup (gcp (gup (gup (gup (gup (gup (gup (gup (gcp (gup (gup (gup (gup (gup (gup (gup (gcp (gup (gup (gup (gup I0 52 0 0) 53 0 1) 54 0 0) 52 0 (-1)) 24 34 (0 : Int32).toNatClampNeg (0 : Int32).toNatClampNeg (6 : Int32).toNatClampNeg) 34 6 0) 34 7 0) 19 1 1) 52 1 0) 53 1 1) 54 1 0) 52 1 (-1)) 24 34 (0 : Int32).toNatClampNeg (8 : Int32).toNatClampNeg (6 : Int32).toNatClampNeg) 34 14 0) 34 15 1) 19 1 2) 52 2 0) 53 2 1) 54 2 0) 52 2 (-1)) 24 34 (0 : Int32).toNatClampNeg (16 : Int32).toNatClampNeg (6 : Int32).toNatClampNeg) 34 22 0) 34 23 2) 19 1 3) 52 3 0) 53 3 1) 54 3 0) 34 24 (16 : Int32).toNatClampNeg (0 : Int32).toNatClampNeg (6 : Int32).toNatClampNeg) 19 9 0) 19 1 2) 52 2 0) 53 2 1) 54 2 0) 34 24 (8 : Int32).toNatClampNeg (0 : Int32).toNatClampNeg (6 : Int32).toNatClampNeg) 19 9 0) 19 1 1) 52 1 0) 53 1 1) 54 1 0))) := by
  refine G_aload_n (pc := 0) rfl dX4_seek_0 ?_
  refine G_getR (pc := 1) (r := 52) (ci := 4) (j := 1) rfl lk_RX4_9 rfl rfl rfl dX4_seek_1 ?_
  refine G_iload_n (pc := 4) rfl dX4_seek_4 ?_
  refine G_iconst (pc := 5) (v := 0) (by decide) dX4_seek_5 ?_
  refine G_iast (pc := 6) (jj := 1) (by decide) rfl (by unfold vp_in; decide) dX4_seek_6 ?_
  refine G_aload_n (pc := 7) rfl dX4_seek_7 ?_
  refine G_getR (pc := 8) (r := 53) (ci := 4) (j := 2) rfl lk_RX4_15 rfl rfl rfl dX4_seek_8 ?_
  refine G_iload_n (pc := 11) rfl dX4_seek_11 ?_
  refine G_iconst (pc := 12) (v := 1) (by decide) dX4_seek_12 ?_
  refine G_iast (pc := 13) (jj := 1) (by decide) rfl (by unfold vp_in; decide) dX4_seek_13 ?_
  refine G_aload_n (pc := 14) rfl dX4_seek_14 ?_
  refine G_getR (pc := 15) (r := 54) (ci := 4) (j := 3) rfl lk_RX4_18 rfl rfl rfl dX4_seek_15 ?_
  refine G_iload_n (pc := 18) rfl dX4_seek_18 ?_
  refine G_iconst (pc := 19) (v := 0) (by decide) dX4_seek_19 ?_
  refine G_iast (pc := 20) (jj := 1) (by decide) rfl (by unfold vp_in; decide) dX4_seek_20 ?_
  refine G_aload_n (pc := 21) rfl dX4_seek_21 ?_
  refine G_iload_n (pc := 22) rfl dX4_seek_22 ?_
  refine G_iload_n (pc := 23) rfl dX4_seek_23 ?_
  refine G_callV (pc := 24) (mc1 := 0) (ms1 := 0) (ci := 4) (mj := mX4_isLast) (vs := [_, _]) dX4_seek_24 rfl rfl cm_X4_isLast wf_126 wf_129 wf_130 rfl (Nat.le_of_ble_eq_true rfl) (Nat.le_of_ble_eq_true rfl) (Nat.le_of_ble_eq_true rfl) (Nat.le_of_ble_eq_true rfl) (s91_X4_isLast  (d + 1)  ) ?_
  rintro _ _ ⟨rfl, rfl⟩
  dsimp only [Option.toList, List.cons_append, List.nil_append]
  refine G_if_eq (pc := 27) (tgt := 31) (by decide) dX4_seek_27 (fun _ => ?_) (fun z => absurd (by decide) z)
  refine G_aload_n (pc := 31) rfl dX4_seek_31 ?_
  refine G_getR (pc := 32) (r := 52) (ci := 4) (j := 1) rfl lk_RX4_9 rfl rfl rfl dX4_seek_32 ?_
  refine G_iload_n (pc := 35) rfl dX4_seek_35 ?_
  refine G_iconst (pc := 36) (v := (-1)) (by decide) dX4_seek_36 ?_
  refine G_iast (pc := 37) (jj := 1) (by decide) rfl (by unfold vp_in; decide) dX4_seek_37 ?_
  refine G_iconst (pc := 38) (v := 0) (by decide) dX4_seek_38 ?_
  refine G_istore_n (pc := 39) (L1 := [some (.ref 51), some (.int 1), some (.int 2), some (.int 0), none, none, none, none]) rfl rfl (by decide) dX4_seek_39 ?_
  refine G_iconst (pc := 40) (v := 0) (by decide) dX4_seek_40 ?_
  refine G_istore (pc := 41) (L1 := [some (.ref 51), some (.int 1), some (.int 2), some (.int 0), some (.int 0), none, none, none]) rfl rfl (by decide) dX4_seek_41 ?_
  refine G_aload_n (pc := 43) rfl dX4_seek_43 ?_
  refine G_getR (pc := 44) (r := 19) (ci := 4) (j := 0) rfl lk_RX4_21 rfl rfl rfl dX4_seek_44 ?_
  refine G_iload_n (pc := 47) rfl dX4_seek_47 ?_
  refine G_callV (pc := 48) (mc1 := 0) (ms1 := 0) (ci := 1) (mj := mX1_save) (vs := [_]) dX4_seek_48 rfl rfl cm_X1_save wf_134 wf_105 wf_106 rfl (Nat.le_of_ble_eq_true rfl) (Nat.le_of_ble_eq_true rfl) (Nat.le_of_ble_eq_true rfl) (Nat.le_of_ble_eq_true rfl) (s78_X1_save  (d + 1)  ) ?_
  rintro _ _ ⟨rfl, rfl⟩
  dsimp only [Option.toList, List.cons_append, List.nil_append]
  refine G_iconst (pc := 51) (v := 0) (by decide) dX4_seek_51 ?_
  refine G_istore (pc := 52) (L1 := [some (.ref 51), some (.int 1), some (.int 2), some (.int 0), some (.int 0), some (.int 0), none, none]) rfl rfl (by decide) dX4_seek_52 ?_
  refine G_iload (pc := 54) rfl dX4_seek_54 ?_
  refine G_aload_n (pc := 56) rfl dX4_seek_56 ?_
  refine G_getR (pc := 57) (r := 19) (ci := 4) (j := 0) rfl lk_RX4_21 rfl rfl rfl dX4_seek_57 ?_
  refine G_getI (pc := 60) (v := 0) (ci := 1) (j := 8) rfl rfl lk_RX4_39 rfl rfl dX4_seek_60 ?_
  refine G_icmp_gt (pc := 63) (tgt := 208) (by decide) dX4_seek_63 (fun z => absurd z (by decide)) (fun _ => ?_)
  refine G_aload_n (pc := 66) rfl dX4_seek_66 ?_
  refine G_getR (pc := 67) (r := 19) (ci := 4) (j := 0) rfl lk_RX4_21 rfl rfl rfl dX4_seek_67 ?_
  refine G_iload (pc := 70) rfl dX4_seek_70 ?_
  refine G_callV (pc := 72) (mc1 := 0) (ms1 := 0) (ci := 1) (mj := mX1_tell) (vs := [_]) dX4_seek_72 rfl rfl cm_X1_tell wf_135 wf_71 wf_72 rfl (Nat.le_of_ble_eq_true rfl) (Nat.le_of_ble_eq_true rfl) (Nat.le_of_ble_eq_true rfl) (Nat.le_of_ble_eq_true rfl) (s79_X1_tell  (d + 1)  ) ?_
  rintro _ _ ⟨rfl, rfl⟩
  dsimp only [Option.toList, List.cons_append, List.nil_append]
  refine G_istore (pc := 75) (L1 := [some (.ref 51), some (.int 1), some (.int 2), some (.int 0), some (.int 0), some (.int 0), some (.int 0), none]) rfl rfl (by decide) dX4_seek_75 ?_
  refine G_iload (pc := 77) rfl dX4_seek_77 ?_
  refine G_if_eq (pc := 79) (tgt := 87) (by decide) dX4_seek_79 (fun _ => ?_) (fun z => absurd (by decide) z)
  refine G_iload (pc := 87) rfl dX4_seek_87 ?_
  refine G_aload_n (pc := 89) rfl dX4_seek_89 ?_
  refine G_getR (pc := 90) (r := 19) (ci := 4) (j := 0) rfl lk_RX4_21 rfl rfl rfl dX4_seek_90 ?_
  refine G_callV (pc := 93) (mc1 := 0) (ms1 := 0) (ci := 1) (mj := mX1_melt) (vs := []) dX4_seek_93 rfl rfl cm_X1_melt wf_136 wf_75 wf_76 rfl (Nat.le_of_ble_eq_true rfl) (Nat.le_of_ble_eq_true rfl) (Nat.le_of_ble_eq_true rfl) (Nat.le_of_ble_eq_true rfl) (s81_X1_melt  (d + 2)  ) ?_
  rintro _ _ ⟨rfl, rfl⟩
  dsimp only [Option.toList, List.cons_append, List.nil_append]
  refine G_iadd (pc := 96) (z := 0) (by decide) dX4_seek_96 ?_
  refine G_istore (pc := 97) (L1 := [some (.ref 51), some (.int 1), some (.int 2), some (.int 0), some (.int 0), some (.int 0), some (.int 0), some (.int 0)]) rfl rfl (by decide) dX4_seek_97 ?_
  refine G_aload_n (pc := 99) rfl dX4_seek_99 ?_
  refine G_iload_n (pc := 100) rfl dX4_seek_100 ?_
  refine G_iconst (pc := 101) (v := 1) (by decide) dX4_seek_101 ?_
  refine G_iadd (pc := 102) (z := 2) (by decide) dX4_seek_102 ?_
  refine G_iload_n (pc := 103) rfl dX4_seek_103 ?_
  refine G_iconst (pc := 104) (v := 1) (by decide) dX4_seek_104 ?_
  refine G_isub (pc := 105) (z := 1) (by decide) dX4_seek_105 ?_
  refine G_callV (pc := 106) (mc1 := 0) (ms1 := 0) (ci := 4) (mj := mX4_seek) (vs := [_, _]) dX4_seek_106 rfl rfl cm_X4_seek wf_137 wf_132 wf_133 rfl (Nat.le_of_ble_eq_true rfl) (Nat.le_of_ble_eq_true rfl) (Nat.le_of_ble_eq_true rfl) (Nat.le_of_ble_eq_true rfl) (s92_X4_seek  d  ) ?_
  rintro _ _ ⟨rfl, rfl⟩
  dsimp only [Option.toList, List.cons_append, List.nil_append]
  refine G_aload_n (pc := 109) rfl dX4_seek_109 ?_
  refine G_getR (pc := 110) (r := 19) (ci := 4) (j := 0) rfl lk_RX4_21 rfl rfl rfl dX4_seek_110 ?_
  refine G_iload_n (pc := 113) rfl dX4_seek_113 ?_
  refine G_callV (pc := 114) (mc1 := 0) (ms1 := 0) (ci := 1) (mj := mX1_restore) (vs := [_]) dX4_seek_114 rfl rfl cm_X1_restore wf_138 wf_109 wf_110 rfl (Nat.le_of_ble_eq_true rfl) (Nat.le_of_ble_eq_true rfl) (Nat.le_of_ble_eq_true rfl) (Nat.le_of_ble_eq_true rfl) (s103_X1_restore  (d + 1)  ) ?_
  rintro _ _ ⟨rfl, rfl⟩
  dsimp only [Option.toList, List.cons_append, List.nil_append]
  refine G_iload (pc := 117) rfl dX4_seek_117 ?_
  refine G_aload_n (pc := 119) rfl dX4_seek_119 ?_
  refine G_getR (pc := 120) (r := 52) (ci := 4) (j := 1) rfl lk_RX4_9 rfl rfl rfl dX4_seek_120 ?_
  refine G_iload_n (pc := 123) rfl dX4_seek_123 ?_
  refine G_iconst (pc := 124) (v := 1) (by decide) dX4_seek_124 ?_
  refine G_iadd (pc := 125) (z := 2) (by decide) dX4_seek_125 ?_
  refine G_iald (pc := 126) (jj := 2) (v := 0) (by decide) rfl rfl (by unfold vp_in; decide) dX4_seek_126 ?_
  refine G_iadd (pc := 127) (z := 0) (by decide) dX4_seek_127 ?_
  refine G_istore (pc := 128) (L1 := [some (.ref 51), some (.int 1), some (.int 2), some (.int 0), some (.int 0), some (.int 0), some (.int 0), some (.int 0)]) rfl rfl (by decide) dX4_seek_128 ?_
  refine G_aload_n (pc := 130) rfl dX4_seek_130 ?_
  refine G_iload_n (pc := 131) rfl dX4_seek_131 ?_
  refine G_iload (pc := 132) rfl dX4_seek_132 ?_
  refine G_aload_n (pc := 134) rfl dX4_seek_134 ?_
  refine G_getR (pc := 135) (r := 53) (ci := 4) (j := 2) rfl lk_RX4_15 rfl rfl rfl dX4_seek_135 ?_
  refine G_iload_n (pc := 138) rfl dX4_seek_138 ?_
  refine G_iconst (pc := 139) (v := 1) (by decide) dX4_seek_139 ?_
  refine G_iadd (pc := 140) (z := 2) (by decide) dX4_seek_140 ?_
  refine G_iald (pc := 141) (jj := 2) (v := 1) (by decide) rfl rfl (by unfold vp_in; decide) dX4_seek_141 ?_
  refine G_iload (pc := 142) rfl dX4_seek_142 ?_
  refine G_aload_n (pc := 144) rfl dX4_seek_144 ?_
  refine G_getR (pc := 145) (r := 54) (ci := 4) (j := 3) rfl lk_RX4_18 rfl rfl rfl dX4_seek_145 ?_
  refine G_iload_n (pc := 148) rfl dX4_seek_148 ?_
  refine G_iconst (pc := 149) (v := 1) (by decide) dX4_seek_149 ?_
  refine G_iadd (pc := 150) (z := 2) (by decide) dX4_seek_150 ?_
  refine G_iald (pc := 151) (jj := 2) (v := 0) (by decide) rfl rfl (by unfold vp_in; decide) dX4_seek_151 ?_
  refine G_iconst (pc := 152) (v := 3) (by decide) dX4_seek_152 ?_
  refine G_ishl (pc := 153) (z := 0) (by decide) dX4_seek_153 ?_
  refine G_ior (pc := 154) (z := 0) (by decide) dX4_seek_154 ?_
  refine G_callV (pc := 155) (mc1 := 0) (ms1 := 0) (ci := 4) (mj := mX4_weigh) (vs := [_, _, _, _]) dX4_seek_155 rfl rfl cm_X4_weigh wf_139 wf_141 wf_142 rfl (Nat.le_of_ble_eq_true rfl) (Nat.le_of_ble_eq_true rfl) (Nat.le_of_ble_eq_true rfl) (Nat.le_of_ble_eq_true rfl) (s104_X4_weigh  (d + 2)  ) ?_
  rintro _ _ ⟨rfl, rfl⟩
  dsimp only [Option.toList, List.cons_append, List.nil_append]
  refine G_iload (pc := 158) rfl dX4_seek_158 ?_
  refine G_if_ne (pc := 160) (tgt := 168) (by decide) dX4_seek_160 (fun z => absurd (by decide) z) (fun _ => ?_)
  refine G_iload (pc := 163) rfl dX4_seek_163 ?_
  refine G_goto (pc := 165) (tgt := 169) (by decide) dX4_seek_165 ?_
  refine G_istore_n (pc := 169) (L1 := [some (.ref 51), some (.int 1), some (.int 2), some (.int 0), some (.int 0), some (.int 0), some (.int 0), some (.int 0)]) rfl rfl (by decide) dX4_seek_169 ?_
  refine G_iload (pc := 170) rfl dX4_seek_170 ?_
  refine G_if_ne (pc := 172) (tgt := 186) (by decide) dX4_seek_172 (fun z => absurd (by decide) z) (fun _ => ?_)
  refine G_aload_n (pc := 175) rfl dX4_seek_175 ?_
  refine G_getR (pc := 176) (r := 53) (ci := 4) (j := 2) rfl lk_RX4_15 rfl rfl rfl dX4_seek_176 ?_
  refine G_iload_n (pc := 179) rfl dX4_seek_179 ?_
  refine G_iconst (pc := 180) (v := 1) (by decide) dX4_seek_180 ?_
  refine G_iadd (pc := 181) (z := 2) (by decide) dX4_seek_181 ?_
  refine G_iald (pc := 182) (jj := 2) (v := 1) (by decide) rfl rfl (by unfold vp_in; decide) dX4_seek_182 ?_
  refine G_goto (pc := 183) (tgt := 188) (by decide) dX4_seek_183 ?_
  refine G_istore (pc := 188) (L1 := [some (.ref 51), some (.int 1), some (.int 2), some (.int 0), some (.int 1), some (.int 0), some (.int 0), some (.int 0)]) rfl rfl (by decide) dX4_seek_188 ?_
  refine G_goto (pc := 190) (tgt := 202) (by decide) dX4_seek_190 ?_
  refine G_iinc (pc := 202) (v := 1) (w := 1) (L1 := [some (.ref 51), some (.int 1), some (.int 2), some (.int 0), some (.int 1), some (.int 1), some (.int 0), some (.int 0)]) (by decide) rfl rfl (by decide) rfl (by decide) dX4_seek_202 ?_
  refine G_goto (pc := 205) (tgt := 54) (by decide) dX4_seek_205 ?_
  refine G_iload (pc := 54) rfl dX4_seek_54 ?_
  refine G_aload_n (pc := 56) rfl dX4_seek_56 ?_
  refine G_getR (pc := 57) (r := 19) (ci := 4) (j := 0) rfl lk_RX4_21 rfl rfl rfl dX4_seek_57 ?_
  refine G_getI (pc := 60) (v := 0) (ci := 1) (j := 8) rfl rfl lk_RX4_39 rfl rfl dX4_seek_60 ?_
  refine G_icmp_gt (pc := 63) (tgt := 208) (by decide) dX4_seek_63 (fun _ => ?_) (fun z => absurd (by decide) z)
  exact G_vret (pc := 208) (Nat.le_of_ble_eq_true rfl) (Nat.le_of_ble_eq_true rfl) rfl dX4_seek_208 ⟨rfl, rfl⟩
set_option maxRecDepth 100000 in
set_option maxHeartbeats 4000000 in
theorem s105_X1_restore  (d : Nat)   : G (d + 1) mX1_restore 0 0 0 0 0 (gent 3 [.ref 19, .int 0]) [] SH0 RF0 (gup (gup (gup (gup (gup (gcp (gup (gup (gup (gup (gup (gcp (gup (gup (gup (gup (gup (gup (gcp (gup (gup (gup (gup (gup (gup (gup (gcp (gup (gup (gup (gup (gup (gup (gup (gcp (gup (gup (gup (gup I0 52 0 0) 53 0 1) 54 0 0) 52 0 (-1)) 24 34 (0 : Int32).toNatClampNeg (0 : Int32).toNatClampNeg (6 : Int32).toNatClampNeg) 34 6 0) 34 7 0) 19 1 1) 52 1 0) 53 1 1) 54 1 0) 52 1 (-1)) 24 34 (0 : Int32).toNatClampNeg (8 : Int32).toNatClampNeg (6 : Int32).toNatClampNeg) 34 14 0) 34 15 1) 19 1 2) 52 2 0) 53 2 1) 54 2 0) 52 2 (-1)) 24 34 (0 : Int32).toNatClampNeg (16 : Int32).toNatClampNeg (6 : Int32).toNatClampNeg) 34 22 0) 34 23 2) 19 1 3) 52 3 0) 53 3 1) 54 3 0) 34 24 (16 : Int32).toNatClampNeg (0 : Int32).toNatClampNeg (6 : Int32).toNatClampNeg) 19 9 0) 19 1 2) 52 2 0) 53 2 1) 54 2 0) 34 24 (8 : Int32).toNatClampNeg (0 : Int32).toNatClampNeg (6 : Int32).toNatClampNeg) 19 9 0) 19 1 1) 52 1 0) 53 1 1) 54 1 0) (fun r h => r = none ∧ h = (SH0, RF0, (gup (gup (gcp (gup (gup (gup (gup (gup (gcp (gup (gup (gup (gup (gup (gcp (gup (gup (gup (gup (gup (gup (gcp (gup (gup (gup (gup (gup (gup (gup (gcp (gup (gup (gup (gup (gup (gup (gup (gcp (gup (gup (gup (gup I0 52 0 0) 53 0 1) 54 0 0) 52 0 (-1)) 24 34 (0 : Int32).toNatClampNeg (0 : Int32).toNatClampNeg (6 : Int32).toNatClampNeg) 34 6 0) 34 7 0) 19 1 1) 52 1 0) 53 1 1) 54 1 0) 52 1 (-1)) 24 34 (0 : Int32).toNatClampNeg (8 : Int32).toNatClampNeg (6 : Int32).toNatClampNeg) 34 14 0) 34 15 1) 19 1 2) 52 2 0) 53 2 1) 54 2 0) 52 2 (-1)) 24 34 (0 : Int32).toNatClampNeg (16 : Int32).toNatClampNeg (6 : Int32).toNatClampNeg) 34 22 0) 34 23 2) 19 1 3) 52 3 0) 53 3 1) 54 3 0) 34 24 (16 : Int32).toNatClampNeg (0 : Int32).toNatClampNeg (6 : Int32).toNatClampNeg) 19 9 0) 19 1 2) 52 2 0) 53 2 1) 54 2 0) 34 24 (8 : Int32).toNatClampNeg (0 : Int32).toNatClampNeg (6 : Int32).toNatClampNeg) 19 9 0) 19 1 1) 52 1 0) 53 1 1) 54 1 0) 34 24 (0 : Int32).toNatClampNeg (0 : Int32).toNatClampNeg (6 : Int32).toNatClampNeg) 19 9 0) 19 1 0))) := by
  refine G_iload_n (pc := 0) rfl dX1_restore_0 ?_
  refine G_bipush (pc := 1) (v := 8) (by decide) dX1_restore_1 ?_
  refine G_imul (pc := 3) (z := 0) (by decide) dX1_restore_3 ?_
  refine G_istore_n (pc := 4) (L1 := [some (.ref 19), some (.int 0), some (.int 0)]) rfl rfl (by decide) dX1_restore_4 ?_
  refine G_aload_n (pc := 5) rfl dX1_restore_5 ?_
  refine G_getR (pc := 6) (r := 34) (ci := 1) (j := 18) rfl lk_RX1_53 rfl rfl rfl dX1_restore_6 ?_
  refine G_iload_n (pc := 9) rfl dX1_restore_9 ?_
  refine G_aload_n (pc := 10) rfl dX1_restore_10 ?_
  refine G_getR (pc := 11) (r := 24) (ci := 1) (j := 11) rfl lk_RX1_31 rfl rfl rfl dX1_restore_11 ?_
  refine G_iconst (pc := 14) (v := 0) (by decide) dX1_restore_14 ?_
  refine G_bipush (pc := 15) (v := 6) (by decide) dX1_restore_15 ?_
  refine G_copy (pc := 17) (x := 34) (y := 24) rfl rfl (by decide) (by decide) (by decide) (by decide) (by decide) wf_50 wf_51 wf_52 wf_53 (Nat.le_of_ble_eq_true rfl) dX1_restore_17 ?_
  refine G_aload_n (pc := 20) rfl dX1_restore_20 ?_
  refine G_aload_n (pc := 21) rfl dX1_restore_21 ?_
  refine G_getR (pc := 22) (r := 34) (ci := 1) (j := 18) rfl lk_RX1_53 rfl rfl rfl dX1_restore_22 ?_
  refine G_iload_n (pc := 25) rfl dX1_restore_25 ?_
  refine G_bipush (pc := 26) (v := 6) (by decide) dX1_restore_26 ?_
  refine G_iadd (pc := 28) (z := 6) (by decide) dX1_restore_28 ?_
  refine G_iald (pc := 29) (jj := 6) (v := 0) (by decide) rfl rfl (by unfold vp_in; decide) dX1_restore_29 ?_
  refine G_putI (pc := 30) (ci := 1) (j := 9) rfl lk_RX1_75 rfl rfl rfl trivial dX1_restore_30 ?_
  refine G_aload_n (pc := 33) rfl dX1_restore_33 ?_
  refine G_aload_n (pc := 34) rfl dX1_restore_34 ?_
  refine G_getR (pc := 35) (r := 34) (ci := 1) (j := 18) rfl lk_RX1_53 rfl rfl rfl dX1_restore_35 ?_
  refine G_iload_n (pc := 38) rfl dX1_restore_38 ?_
  refine G_bipush (pc := 39) (v := 6) (by decide) dX1_restore_39 ?_
  refine G_iadd (pc := 41) (z := 6) (by decide) dX1_restore_41 ?_
  refine G_iconst (pc := 42) (v := 1) (by decide) dX1_restore_42 ?_
  refine G_iadd (pc := 43) (z := 7) (by decide) dX1_restore_43 ?_
  refine G_iald (pc := 44) (jj := 7) (v := 0) (by decide) rfl rfl (by unfold vp_in; decide) dX1_restore_44 ?_
  refine G_putI (pc := 45) (ci := 1) (j := 1) rfl lk_RX1_60 rfl rfl rfl trivial dX1_restore_45 ?_
  exact G_vret (pc := 48) (Nat.le_of_ble_eq_true rfl) (Nat.le_of_ble_eq_true rfl) rfl dX1_restore_48 ⟨rfl, rfl⟩
set_option maxRecDepth 100000 in
set_option maxHeartbeats 4000000 in
theorem s106_X4_weigh  (d : Nat)   : G (d) mX4_weigh 0 0 0 0 0 (gent 5 [.ref 51, .int 0, .int 0, .int 1, .int 0]) [] SH0 RF0 (gup (gup (gcp (gup (gup (gup (gup (gup (gcp (gup (gup (gup (gup (gup (gcp (gup (gup (gup (gup (gup (gup (gcp (gup (gup (gup (gup (gup (gup (gup (gcp (gup (gup (gup (gup (gup (gup (gup (gcp (gup (gup (gup (gup I0 52 0 0) 53 0 1) 54 0 0) 52 0 (-1)) 24 34 (0 : Int32).toNatClampNeg (0 : Int32).toNatClampNeg (6 : Int32).toNatClampNeg) 34 6 0) 34 7 0) 19 1 1) 52 1 0) 53 1 1) 54 1 0) 52 1 (-1)) 24 34 (0 : Int32).toNatClampNeg (8 : Int32).toNatClampNeg (6 : Int32).toNatClampNeg) 34 14 0) 34 15 1) 19 1 2) 52 2 0) 53 2 1) 54 2 0) 52 2 (-1)) 24 34 (0 : Int32).toNatClampNeg (16 : Int32).toNatClampNeg (6 : Int32).toNatClampNeg) 34 22 0) 34 23 2) 19 1 3) 52 3 0) 53 3 1) 54 3 0) 34 24 (16 : Int32).toNatClampNeg (0 : Int32).toNatClampNeg (6 : Int32).toNatClampNeg) 19 9 0) 19 1 2) 52 2 0) 53 2 1) 54 2 0) 34 24 (8 : Int32).toNatClampNeg (0 : Int32).toNatClampNeg (6 : Int32).toNatClampNeg) 19 9 0) 19 1 1) 52 1 0) 53 1 1) 54 1 0) 34 24 (0 : Int32).toNatClampNeg (0 : Int32).toNatClampNeg (6 : Int32).toNatClampNeg) 19 9 0) 19 1 0) (fun r h => r = none ∧ h = (SH0, RF0, (gup (gup (gup (gup (gup (gcp (gup (gup (gup (gup (gup (gcp (gup (gup (gup (gup (gup (gcp (gup (gup (gup (gup (gup (gup (gcp (gup (gup (gup (gup (gup (gup (gup (gcp (gup (gup (gup (gup (gup (gup (gup (gcp (gup (gup (gup (gup I0 52 0 0) 53 0 1) 54 0 0) 52 0 (-1)) 24 34 (0 : Int32).toNatClampNeg (0 : Int32).toNatClampNeg (6 : Int32).toNatClampNeg) 34 6 0) 34 7 0) 19 1 1) 52 1 0) 53 1 1) 54 1 0) 52 1 (-1)) 24 34 (0 : Int32).toNatClampNeg (8 : Int32).toNatClampNeg (6 : Int32).toNatClampNeg) 34 14 0) 34 15 1) 19 1 2) 52 2 0) 53 2 1) 54 2 0) 52 2 (-1)) 24 34 (0 : Int32).toNatClampNeg (16 : Int32).toNatClampNeg (6 : Int32).toNatClampNeg) 34 22 0) 34 23 2) 19 1 3) 52 3 0) 53 3 1) 54 3 0) 34 24 (16 : Int32).toNatClampNeg (0 : Int32).toNatClampNeg (6 : Int32).toNatClampNeg) 19 9 0) 19 1 2) 52 2 0) 53 2 1) 54 2 0) 34 24 (8 : Int32).toNatClampNeg (0 : Int32).toNatClampNeg (6 : Int32).toNatClampNeg) 19 9 0) 19 1 1) 52 1 0) 53 1 1) 54 1 0) 34 24 (0 : Int32).toNatClampNeg (0 : Int32).toNatClampNeg (6 : Int32).toNatClampNeg) 19 9 0) 19 1 0) 52 0 0) 53 0 1) 54 0 0))) := by
  refine G_iload_n (pc := 0) rfl dX4_weigh_0 ?_
  refine G_aload_n (pc := 1) rfl dX4_weigh_1 ?_
  refine G_getR (pc := 2) (r := 52) (ci := 4) (j := 1) rfl lk_RX4_9 rfl rfl rfl dX4_weigh_2 ?_
  refine G_iload_n (pc := 5) rfl dX4_weigh_5 ?_
  refine G_iald (pc := 6) (jj := 0) (v := (-1)) (by decide) rfl rfl (by unfold vp_in; decide) dX4_weigh_6 ?_
  refine G_icmp_le (pc := 7) (tgt := 35) (by decide) dX4_weigh_7 (fun z => absurd z (by decide)) (fun _ => ?_)
  refine G_aload_n (pc := 10) rfl dX4_weigh_10 ?_
  refine G_getR (pc := 11) (r := 52) (ci := 4) (j := 1) rfl lk_RX4_9 rfl rfl rfl dX4_weigh_11 ?_
  refine G_iload_n (pc := 14) rfl dX4_weigh_14 ?_
  refine G_iload_n (pc := 15) rfl dX4_weigh_15 ?_
  refine G_iast (pc := 16) (jj := 0) (by decide) rfl (by unfold vp_in; decide) dX4_weigh_16 ?_
  refine G_aload_n (pc := 17) rfl dX4_weigh_17 ?_
  refine G_getR (pc := 18) (r := 53) (ci := 4) (j := 2) rfl lk_RX4_15 rfl rfl rfl dX4_weigh_18 ?_
  refine G_iload_n (pc := 21) rfl dX4_weigh_21 ?_
  refine G_iload_n (pc := 22) rfl dX4_weigh_22 ?_
  refine G_iast (pc := 23) (jj := 0) (by decide) rfl (by unfold vp_in; decide) dX4_weigh_23 ?_
  refine G_aload_n (pc := 24) rfl dX4_weigh_24 ?_
  refine G_getR (pc := 25) (r := 54) (ci := 4) (j := 3) rfl lk_RX4_18 rfl rfl rfl dX4_weigh_25 ?_
  refine G_iload_n (pc := 28) rfl dX4_weigh_28 ?_
  refine G_iload (pc := 29) rfl dX4_weigh_29 ?_
  refine G_iast (pc := 31) (jj := 0) (by decide) rfl (by unfold vp_in; decide) dX4_weigh_31 ?_
  refine G_goto (pc := 32) (tgt := 55) (by decide) dX4_weigh_32 ?_
  exact G_vret (pc := 55) (Nat.le_of_ble_eq_true rfl) (Nat.le_of_ble_eq_true rfl) rfl dX4_weigh_55 ⟨rfl, rfl⟩
set_option maxRecDepth 100000 in
set_option maxHeartbeats 4000000 in
theorem s88_X4_seek  (d : Nat)   : G (d + 4) mX4_seek 0 0 0 0 0 (gent 8 [.ref 51, .int 0, .int 3]) [] SH0 RF0 I0 (fun r h => r = none ∧ h = (SH0, RF0, (gup (gup (gup (gup (gup (gcp (gup (gup (gup (gup (gup (gcp (gup (gup (gup (gup (gup (gcp (gup (gup (gup (gup (gup (gup (gcp (gup (gup (gup (gup (gup (gup (gup (gcp (gup (gup (gup (gup (gup (gup (gup (gcp (gup (gup (gup (gup I0 52 0 0) 53 0 1) 54 0 0) 52 0 (-1)) 24 34 (0 : Int32).toNatClampNeg (0 : Int32).toNatClampNeg (6 : Int32).toNatClampNeg) 34 6 0) 34 7 0) 19 1 1) 52 1 0) 53 1 1) 54 1 0) 52 1 (-1)) 24 34 (0 : Int32).toNatClampNeg (8 : Int32).toNatClampNeg (6 : Int32).toNatClampNeg) 34 14 0) 34 15 1) 19 1 2) 52 2 0) 53 2 1) 54 2 0) 52 2 (-1)) 24 34 (0 : Int32).toNatClampNeg (16 : Int32).toNatClampNeg (6 : Int32).toNatClampNeg) 34 22 0) 34 23 2) 19 1 3) 52 3 0) 53 3 1) 54 3 0) 34 24 (16 : Int32).toNatClampNeg (0 : Int32).toNatClampNeg (6 : Int32).toNatClampNeg) 19 9 0) 19 1 2) 52 2 0) 53 2 1) 54 2 0) 34 24 (8 : Int32).toNatClampNeg (0 : Int32).toNatClampNeg (6 : Int32).toNatClampNeg) 19 9 0) 19 1 1) 52 1 0) 53 1 1) 54 1 0) 34 24 (0 : Int32).toNatClampNeg (0 : Int32).toNatClampNeg (6 : Int32).toNatClampNeg) 19 9 0) 19 1 0) 52 0 0) 53 0 1) 54 0 0))) := by
  refine G_aload_n (pc := 0) rfl dX4_seek_0 ?_
  refine G_getR (pc := 1) (r := 52) (ci := 4) (j := 1) rfl lk_RX4_9 rfl rfl rfl dX4_seek_1 ?_
  refine G_iload_n (pc := 4) rfl dX4_seek_4 ?_
  refine G_iconst (pc := 5) (v := 0) (by decide) dX4_seek_5 ?_
  refine G_iast (pc := 6) (jj := 0) (by decide) rfl (by unfold vp_in; decide) dX4_seek_6 ?_
  refine G_aload_n (pc := 7) rfl dX4_seek_7 ?_
  refine G_getR (pc := 8) (r := 53) (ci := 4) (j := 2) rfl lk_RX4_15 rfl rfl rfl dX4_seek_8 ?_
  refine G_iload_n (pc := 11) rfl dX4_seek_11 ?_
  refine G_iconst (pc := 12) (v := 1) (by decide) dX4_seek_12 ?_
  refine G_iast (pc := 13) (jj := 0) (by decide) rfl (by unfold vp_in; decide) dX4_seek_13 ?_
  refine G_aload_n (pc := 14) rfl dX4_seek_14 ?_
  refine G_getR (pc := 15) (r := 54) (ci := 4) (j := 3) rfl lk_RX4_18 rfl rfl rfl dX4_seek_15 ?_
  refine G_iload_n (pc := 18) rfl dX4_seek_18 ?_
  refine G_iconst (pc := 19) (v := 0) (by decide) dX4_seek_19 ?_
  refine G_iast (pc := 20) (jj := 0) (by decide) rfl (by unfold vp_in; decide) dX4_seek_20 ?_
  refine G_aload_n (pc := 21) rfl dX4_seek_21 ?_
  refine G_iload_n (pc := 22) rfl dX4_seek_22 ?_
  refine G_iload_n (pc := 23) rfl dX4_seek_23 ?_
  refine G_callV (pc := 24) (mc1 := 0) (ms1 := 0) (ci := 4) (mj := mX4_isLast) (vs := [_, _]) dX4_seek_24 rfl rfl cm_X4_isLast wf_126 wf_129 wf_130 rfl (Nat.le_of_ble_eq_true rfl) (Nat.le_of_ble_eq_true rfl) (Nat.le_of_ble_eq_true rfl) (Nat.le_of_ble_eq_true rfl) (s89_X4_isLast  (d + 2)  ) ?_
  rintro _ _ ⟨rfl, rfl⟩
  dsimp only [Option.toList, List.cons_append, List.nil_append]
  refine G_if_eq (pc := 27) (tgt := 31) (by decide) dX4_seek_27 (fun _ => ?_) (fun z => absurd (by decide) z)
  refine G_aload_n (pc := 31) rfl dX4_seek_31 ?_
  refine G_getR (pc := 32) (r := 52) (ci := 4) (j := 1) rfl lk_RX4_9 rfl rfl rfl dX4_seek_32 ?_
  refine G_iload_n (pc := 35) rfl dX4_seek_35 ?_
  refine G_iconst (pc := 36) (v := (-1)) (by decide) dX4_seek_36 ?_
  refine G_iast (pc := 37) (jj := 0) (by decide) rfl (by unfold vp_in; decide) dX4_seek_37 ?_
  refine G_iconst (pc := 38) (v := 0) (by decide) dX4_seek_38 ?_
  refine G_istore_n (pc := 39) (L1 := [some (.ref 51), some (.int 0), some (.int 3), some (.int 0), none, none, none, none]) rfl rfl (by decide) dX4_seek_39 ?_
  refine G_iconst (pc := 40) (v := 0) (by decide) dX4_seek_40 ?_
  refine G_istore (pc := 41) (L1 := [some (.ref 51), some (.int 0), some (.int 3), some (.int 0), some (.int 0), none, none, none]) rfl rfl (by decide) dX4_seek_41 ?_
  refine G_aload_n (pc := 43) rfl dX4_seek_43 ?_
  refine G_getR (pc := 44) (r := 19) (ci := 4) (j := 0) rfl lk_RX4_21 rfl rfl rfl dX4_seek_44 ?_
  refine G_iload_n (pc := 47) rfl dX4_seek_47 ?_
  refine G_callV (pc := 48) (mc1 := 0) (ms1 := 0) (ci := 1) (mj := mX1_save) (vs := [_]) dX4_seek_48 rfl rfl cm_X1_save wf_134 wf_105 wf_106 rfl (Nat.le_of_ble_eq_true rfl) (Nat.le_of_ble_eq_true rfl) (Nat.le_of_ble_eq_true rfl) (Nat.le_of_ble_eq_true rfl) (s65_X1_save  (d + 2)  ) ?_
  rintro _ _ ⟨rfl, rfl⟩
  dsimp only [Option.toList, List.cons_append, List.nil_append]
  refine G_iconst (pc := 51) (v := 0) (by decide) dX4_seek_51 ?_
  refine G_istore (pc := 52) (L1 := [some (.ref 51), some (.int 0), some (.int 3), some (.int 0), some (.int 0), some (.int 0), none, none]) rfl rfl (by decide) dX4_seek_52 ?_
  refine G_iload (pc := 54) rfl dX4_seek_54 ?_
  refine G_aload_n (pc := 56) rfl dX4_seek_56 ?_
  refine G_getR (pc := 57) (r := 19) (ci := 4) (j := 0) rfl lk_RX4_21 rfl rfl rfl dX4_seek_57 ?_
  refine G_getI (pc := 60) (v := 0) (ci := 1) (j := 8) rfl rfl lk_RX4_39 rfl rfl dX4_seek_60 ?_
  refine G_icmp_gt (pc := 63) (tgt := 208) (by decide) dX4_seek_63 (fun z => absurd z (by decide)) (fun _ => ?_)
  refine G_aload_n (pc := 66) rfl dX4_seek_66 ?_
  refine G_getR (pc := 67) (r := 19) (ci := 4) (j := 0) rfl lk_RX4_21 rfl rfl rfl dX4_seek_67 ?_
  refine G_iload (pc := 70) rfl dX4_seek_70 ?_
  refine G_callV (pc := 72) (mc1 := 0) (ms1 := 0) (ci := 1) (mj := mX1_tell) (vs := [_]) dX4_seek_72 rfl rfl cm_X1_tell wf_135 wf_71 wf_72 rfl (Nat.le_of_ble_eq_true rfl) (Nat.le_of_ble_eq_true rfl) (Nat.le_of_ble_eq_true rfl) (Nat.le_of_ble_eq_true rfl) (s66_X1_tell  (d + 2)  ) ?_
  rintro _ _ ⟨rfl, rfl⟩
  dsimp only [Option.toList, List.cons_append, List.nil_append]
  refine G_istore (pc := 75) (L1 := [some (.ref 51), some (.int 0), some (.int 3), some (.int 0), some (.int 0), some (.int 0), some (.int 0), none]) rfl rfl (by decide) dX4_seek_75 ?_
  refine G_iload (pc := 77) rfl dX4_seek_77 ?_
  refine G_if_eq (pc := 79) (tgt := 87) (by decide) dX4_seek_79 (fun _ => ?_) (fun z => absurd (by decide) z)
  refine G_iload (pc := 87) rfl dX4_seek_87 ?_
  refine G_aload_n (pc := 89) rfl dX4_seek_89 ?_
  refine G_getR (pc := 90) (r := 19) (ci := 4) (j := 0) rfl lk_RX4_21 rfl rfl rfl dX4_seek_90 ?_
  refine G_callV (pc := 93) (mc1 := 0) (ms1 := 0) (ci := 1) (mj := mX1_melt) (vs := []) dX4_seek_93 rfl rfl cm_X1_melt wf_136 wf_75 wf_76 rfl (Nat.le_of_ble_eq_true rfl) (Nat.le_of_ble_eq_true rfl) (Nat.le_of_ble_eq_true rfl) (Nat.le_of_ble_eq_true rfl) (s68_X1_melt  (d + 3)  ) ?_
  rintro _ _ ⟨rfl, rfl⟩
  dsimp only [Option.toList, List.cons_append, List.nil_append]
  refine G_iadd (pc := 96) (z := 0) (by decide) dX4_seek_96 ?_
  refine G_istore (pc := 97) (L1 := [some (.ref 51), some (.int 0), some (.int 3), some (.int 0), some (.int 0), some (.int 0), some (.int 0), some (.int 0)]) rfl rfl (by decide) dX4_seek_97 ?_
  refine G_aload_n (pc := 99) rfl dX4_seek_99 ?_
  refine G_iload_n (pc := 100) rfl dX4_seek_100 ?_
  refine G_iconst (pc := 101) (v := 1) (by decide) dX4_seek_101 ?_
  refine G_iadd (pc := 102) (z := 1) (by decide) dX4_seek_102 ?_
  refine G_iload_n (pc := 103) rfl dX4_seek_103 ?_
  refine G_iconst (pc := 104) (v := 1) (by decide) dX4_seek_104 ?_
  refine G_isub (pc := 105) (z := 2) (by decide) dX4_seek_105 ?_
  refine G_callV (pc := 106) (mc1 := 0) (ms1 := 0) (ci := 4) (mj := mX4_seek) (vs := [_, _]) dX4_seek_106 rfl rfl cm_X4_seek wf_137 wf_132 wf_133 rfl (Nat.le_of_ble_eq_true rfl) (Nat.le_of_ble_eq_true rfl) (Nat.le_of_ble_eq_true rfl) (Nat.le_of_ble_eq_true rfl) (s90_X4_seek  d  ) ?_
  rintro _ _ ⟨rfl, rfl⟩
  dsimp only [Option.toList, List.cons_append, List.nil_append]
  refine G_aload_n (pc := 109) rfl dX4_seek_109 ?_
  refine G_getR (pc := 110) (r := 19) (ci := 4) (j := 0) rfl lk_RX4_21 rfl rfl rfl dX4_seek_110 ?_
  refine G_iload_n (pc := 113) rfl dX4_seek_113 ?_
  refine G_callV (pc := 114) (mc1 := 0) (ms1 := 0) (ci := 1) (mj := mX1_restore) (vs := [_]) dX4_seek_114 rfl rfl cm_X1_restore wf_138 wf_109 wf_110 rfl (Nat.le_of_ble_eq_true rfl) (Nat.le_of_ble_eq_true rfl) (Nat.le_of_ble_eq_true rfl) (Nat.le_of_ble_eq_true rfl) (s105_X1_restore  (d + 2)  ) ?_
  rintro _ _ ⟨rfl, rfl⟩
  dsimp only [Option.toList, List.cons_append, List.nil_append]
  refine G_iload (pc := 117) rfl dX4_seek_117 ?_
  refine G_aload_n (pc := 119) rfl dX4_seek_119 ?_
  refine G_getR (pc := 120) (r := 52) (ci := 4) (j := 1) rfl lk_RX4_9 rfl rfl rfl dX4_seek_120 ?_
  refine G_iload_n (pc := 123) rfl dX4_seek_123 ?_
  refine G_iconst (pc := 124) (v := 1) (by decide) dX4_seek_124 ?_
  refine G_iadd (pc := 125) (z := 1) (by decide) dX4_seek_125 ?_
  refine G_iald (pc := 126) (jj := 1) (v := 0) (by decide) rfl rfl (by unfold vp_in; decide) dX4_seek_126 ?_
  refine G_iadd (pc := 127) (z := 0) (by decide) dX4_seek_127 ?_
  refine G_istore (pc := 128) (L1 := [some (.ref 51), some (.int 0), some (.int 3), some (.int 0), some (.int 0), some (.int 0), some (.int 0), some (.int 0)]) rfl rfl (by decide) dX4_seek_128 ?_
  refine G_aload_n (pc := 130) rfl dX4_seek_130 ?_
  refine G_iload_n (pc := 131) rfl dX4_seek_131 ?_
  refine G_iload (pc := 132) rfl dX4_seek_132 ?_
  refine G_aload_n (pc := 134) rfl dX4_seek_134 ?_
  refine G_getR (pc := 135) (r := 53) (ci := 4) (j := 2) rfl lk_RX4_15 rfl rfl rfl dX4_seek_135 ?_
  refine G_iload_n (pc := 138) rfl dX4_seek_138 ?_
  refine G_iconst (pc := 139) (v := 1) (by decide) dX4_seek_139 ?_
  refine G_iadd (pc := 140) (z := 1) (by decide) dX4_seek_140 ?_
  refine G_iald (pc := 141) (jj := 1) (v := 1) (by decide) rfl rfl (by unfold vp_in; decide) dX4_seek_141 ?_
  refine G_iload (pc := 142) rfl dX4_seek_142 ?_
  refine G_aload_n (pc := 144) rfl dX4_seek_144 ?_
  refine G_getR (pc := 145) (r := 54) (ci := 4) (j := 3) rfl lk_RX4_18 rfl rfl rfl dX4_seek_145 ?_
  refine G_iload_n (pc := 148) rfl dX4_seek_148 ?_
  refine G_iconst (pc := 149) (v := 1) (by decide) dX4_seek_149 ?_
  refine G_iadd (pc := 150) (z := 1) (by decide) dX4_seek_150 ?_
  refine G_iald (pc := 151) (jj := 1) (v := 0) (by decide) rfl rfl (by unfold vp_in; decide) dX4_seek_151 ?_
  refine G_iconst (pc := 152) (v := 3) (by decide) dX4_seek_152 ?_
  refine G_ishl (pc := 153) (z := 0) (by decide) dX4_seek_153 ?_
  refine G_ior (pc := 154) (z := 0) (by decide) dX4_seek_154 ?_
  refine G_callV (pc := 155) (mc1 := 0) (ms1 := 0) (ci := 4) (mj := mX4_weigh) (vs := [_, _, _, _]) dX4_seek_155 rfl rfl cm_X4_weigh wf_139 wf_141 wf_142 rfl (Nat.le_of_ble_eq_true rfl) (Nat.le_of_ble_eq_true rfl) (Nat.le_of_ble_eq_true rfl) (Nat.le_of_ble_eq_true rfl) (s106_X4_weigh  (d + 3)  ) ?_
  rintro _ _ ⟨rfl, rfl⟩
  dsimp only [Option.toList, List.cons_append, List.nil_append]
  refine G_iload (pc := 158) rfl dX4_seek_158 ?_
  refine G_if_ne (pc := 160) (tgt := 168) (by decide) dX4_seek_160 (fun z => absurd (by decide) z) (fun _ => ?_)
  refine G_iload (pc := 163) rfl dX4_seek_163 ?_
  refine G_goto (pc := 165) (tgt := 169) (by decide) dX4_seek_165 ?_
  refine G_istore_n (pc := 169) (L1 := [some (.ref 51), some (.int 0), some (.int 3), some (.int 0), some (.int 0), some (.int 0), some (.int 0), some (.int 0)]) rfl rfl (by decide) dX4_seek_169 ?_
  refine G_iload (pc := 170) rfl dX4_seek_170 ?_
  refine G_if_ne (pc := 172) (tgt := 186) (by decide) dX4_seek_172 (fun z => absurd (by decide) z) (fun _ => ?_)
  refine G_aload_n (pc := 175) rfl dX4_seek_175 ?_
  refine G_getR (pc := 176) (r := 53) (ci := 4) (j := 2) rfl lk_RX4_15 rfl rfl rfl dX4_seek_176 ?_
  refine G_iload_n (pc := 179) rfl dX4_seek_179 ?_
  refine G_iconst (pc := 180) (v := 1) (by decide) dX4_seek_180 ?_
  refine G_iadd (pc := 181) (z := 1) (by decide) dX4_seek_181 ?_
  refine G_iald (pc := 182) (jj := 1) (v := 1) (by decide) rfl rfl (by unfold vp_in; decide) dX4_seek_182 ?_
  refine G_goto (pc := 183) (tgt := 188) (by decide) dX4_seek_183 ?_
  refine G_istore (pc := 188) (L1 := [some (.ref 51), some (.int 0), some (.int 3), some (.int 0), some (.int 1), some (.int 0), some (.int 0), some (.int 0)]) rfl rfl (by decide) dX4_seek_188 ?_
  refine G_goto (pc := 190) (tgt := 202) (by decide) dX4_seek_190 ?_
  refine G_iinc (pc := 202) (v := 1) (w := 1) (L1 := [some (.ref 51), some (.int 0), some (.int 3), some (.int 0), some (.int 1), some (.int 1), some (.int 0), some (.int 0)]) (by decide) rfl rfl (by decide) rfl (by decide) dX4_seek_202 ?_
  refine G_goto (pc := 205) (tgt := 54) (by decide) dX4_seek_205 ?_
  refine G_iload (pc := 54) rfl dX4_seek_54 ?_
  refine G_aload_n (pc := 56) rfl dX4_seek_56 ?_
  refine G_getR (pc := 57) (r := 19) (ci := 4) (j := 0) rfl lk_RX4_21 rfl rfl rfl dX4_seek_57 ?_
  refine G_getI (pc := 60) (v := 0) (ci := 1) (j := 8) rfl rfl lk_RX4_39 rfl rfl dX4_seek_60 ?_
  refine G_icmp_gt (pc := 63) (tgt := 208) (by decide) dX4_seek_63 (fun _ => ?_) (fun z => absurd (by decide) z)
  exact G_vret (pc := 208) (Nat.le_of_ble_eq_true rfl) (Nat.le_of_ble_eq_true rfl) rfl dX4_seek_208 ⟨rfl, rfl⟩
set_option maxRecDepth 100000 in
set_option maxHeartbeats 4000000 in
theorem s108_X4_isLast  (d : Nat)   : G (d + 1) mX4_isLast 0 0 0 0 0 (gent 3 [.ref 51, .int 0, .int 4]) [] SH0 RF0 (gup (gup (gup I0 52 0 0) 53 0 1) 54 0 0) (fun r h => r = some (.int 0) ∧ h = (SH0, RF0, (gup (gup (gup I0 52 0 0) 53 0 1) 54 0 0))) := by
  refine G_iload_n (pc := 0) rfl dX4_isLast_0 ?_
  refine G_if_le (pc := 1) (tgt := 19) (by decide) dX4_isLast_1 (fun z => absurd z (by decide)) (fun _ => ?_)
  refine G_iload_n (pc := 4) rfl dX4_isLast_4 ?_
  refine G_iconst (pc := 5) (v := 4) (by decide) dX4_isLast_5 ?_
  refine G_icmp_ge (pc := 6) (tgt := 19) (by decide) dX4_isLast_6 (fun z => absurd z (by decide)) (fun _ => ?_)
  refine G_aload_n (pc := 9) rfl dX4_isLast_9 ?_
  refine G_getR (pc := 10) (r := 19) (ci := 4) (j := 0) rfl lk_RX4_21 rfl rfl rfl dX4_isLast_10 ?_
  refine G_callV (pc := 13) (mc1 := 0) (ms1 := 0) (ci := 1) (mj := mX1_isOver) (vs := []) dX4_isLast_13 rfl rfl cm_X1_isOver wf_125 wf_17 wf_18 rfl (Nat.le_of_ble_eq_true rfl) (Nat.le_of_ble_eq_true rfl) (Nat.le_of_ble_eq_true rfl) (Nat.le_of_ble_eq_true rfl) (s60_X1_isOver  d  ) ?_
  rintro _ _ ⟨rfl, rfl⟩
  dsimp only [Option.toList, List.cons_append, List.nil_append]
  refine G_if_eq (pc := 16) (tgt := 23) (by decide) dX4_isLast_16 (fun _ => ?_) (fun z => absurd (by decide) z)
  refine G_iconst (pc := 23) (v := 0) (by decide) dX4_isLast_23 ?_
  exact G_zret (pc := 24) (Nat.le_of_ble_eq_true rfl) (Nat.le_of_ble_eq_true rfl) rfl (by decide) dX4_isLast_24 ⟨rfl, rfl⟩
set_option maxRecDepth 100000 in
set_option maxHeartbeats 4000000 in
theorem s110_X4_isLast  (d : Nat)   : G (d + 1) mX4_isLast 0 0 0 0 0 (gent 3 [.ref 51, .int 1, .int 3]) [] SH0 RF0 (gup (gup (gup (gup (gup (gup (gcp (gup (gup (gup (gup I0 52 0 0) 53 0 1) 54 0 0) 52 0 (-1)) 24 34 (0 : Int32).toNatClampNeg (0 : Int32).toNatClampNeg (6 : Int32).toNatClampNeg) 34 6 0) 34 7 0) 19 1 1) 52 1 0) 53 1 1) 54 1 0) (fun r h => r = some (.int 0) ∧ h = (SH0, RF0, (gup (gup (gup (gup (gup (gup (gcp (gup (gup (gup (gup I0 52 0 0) 53 0 1) 54 0 0) 52 0 (-1)) 24 34 (0 : Int32).toNatClampNeg (0 : Int32).toNatClampNeg (6 : Int32).toNatClampNeg) 34 6 0) 34 7 0) 19 1 1) 52 1 0) 53 1 1) 54 1 0))) := by
  refine G_iload_n (pc := 0) rfl dX4_isLast_0 ?_
  refine G_if_le (pc := 1) (tgt := 19) (by decide) dX4_isLast_1 (fun z => absurd z (by decide)) (fun _ => ?_)
  refine G_iload_n (pc := 4) rfl dX4_isLast_4 ?_
  refine G_iconst (pc := 5) (v := 4) (by decide) dX4_isLast_5 ?_
  refine G_icmp_ge (pc := 6) (tgt := 19) (by decide) dX4_isLast_6 (fun z => absurd z (by decide)) (fun _ => ?_)
  refine G_aload_n (pc := 9) rfl dX4_isLast_9 ?_
  refine G_getR (pc := 10) (r := 19) (ci := 4) (j := 0) rfl lk_RX4_21 rfl rfl rfl dX4_isLast_10 ?_
  refine G_callV (pc := 13) (mc1 := 0) (ms1 := 0) (ci := 1) (mj := mX1_isOver) (vs := []) dX4_isLast_13 rfl rfl cm_X1_isOver wf_125 wf_17 wf_18 rfl (Nat.le_of_ble_eq_true rfl) (Nat.le_of_ble_eq_true rfl) (Nat.le_of_ble_eq_true rfl) (Nat.le_of_ble_eq_true rfl) (s77_X1_isOver  d  ) ?_
  rintro _ _ ⟨rfl, rfl⟩
  dsimp only [Option.toList, List.cons_append, List.nil_append]
  refine G_if_eq (pc := 16) (tgt := 23) (by decide) dX4_isLast_16 (fun _ => ?_) (fun z => absurd (by decide) z)
  refine G_iconst (pc := 23) (v := 0) (by decide) dX4_isLast_23 ?_
  exact G_zret (pc := 24) (Nat.le_of_ble_eq_true rfl) (Nat.le_of_ble_eq_true rfl) rfl (by decide) dX4_isLast_24 ⟨rfl, rfl⟩
set_option maxRecDepth 100000 in
set_option maxHeartbeats 4000000 in
theorem s112_X4_isLast  (d : Nat)   : G (d + 1) mX4_isLast 0 0 0 0 0 (gent 3 [.ref 51, .int 2, .int 2]) [] SH0 RF0 (gup (gup (gup (gup (gup (gup (gcp (gup (gup (gup (gup (gup (gup (gup (gcp (gup (gup (gup (gup I0 52 0 0) 53 0 1) 54 0 0) 52 0 (-1)) 24 34 (0 : Int32).toNatClampNeg (0 : Int32).toNatClampNeg (6 : Int32).toNatClampNeg) 34 6 0) 34 7 0) 19 1 1) 52 1 0) 53 1 1) 54 1 0) 52 1 (-1)) 24 34 (0 : Int32).toNatClampNeg (8 : Int32).toNatClampNeg (6 : Int32).toNatClampNeg) 34 14 0) 34 15 1) 19 1 2) 52 2 0) 53 2 1) 54 2 0) (fun r h => r = some (.int 0) ∧ h = (SH0, RF0, (gup (gup (gup (gup (gup (gup (gcp (gup (gup (gup (gup (gup (gup (gup (gcp (gup (gup (gup (gup I0 52 0 0) 53 0 1) 54 0 0) 52 0 (-1)) 24 34 (0 : Int32).toNatClampNeg (0 : Int32).toNatClampNeg (6 : Int32).toNatClampNeg) 34 6 0) 34 7 0) 19 1 1) 52 1 0) 53 1 1) 54 1 0) 52 1 (-1)) 24 34 (0 : Int32).toNatClampNeg (8 : Int32).toNatClampNeg (6 : Int32).toNatClampNeg) 34 14 0) 34 15 1) 19 1 2) 52 2 0) 53 2 1) 54 2 0))) := by
  refine G_iload_n (pc := 0) rfl dX4_isLast_0 ?_
  refine G_if_le (pc := 1) (tgt := 19) (by decide) dX4_isLast_1 (fun z => absurd z (by decide)) (fun _ => ?_)
  refine G_iload_n (pc := 4) rfl dX4_isLast_4 ?_
  refine G_iconst (pc := 5) (v := 4) (by decide) dX4_isLast_5 ?_
  refine G_icmp_ge (pc := 6) (tgt := 19) (by decide) dX4_isLast_6 (fun z => absurd z (by decide)) (fun _ => ?_)
  refine G_aload_n (pc := 9) rfl dX4_isLast_9 ?_
  refine G_getR (pc := 10) (r := 19) (ci := 4) (j := 0) rfl lk_RX4_21 rfl rfl rfl dX4_isLast_10 ?_
  refine G_callV (pc := 13) (mc1 := 0) (ms1 := 0) (ci := 1) (mj := mX1_isOver) (vs := []) dX4_isLast_13 rfl rfl cm_X1_isOver wf_125 wf_17 wf_18 rfl (Nat.le_of_ble_eq_true rfl) (Nat.le_of_ble_eq_true rfl) (Nat.le_of_ble_eq_true rfl) (Nat.le_of_ble_eq_true rfl) (s94_X1_isOver  d  ) ?_
  rintro _ _ ⟨rfl, rfl⟩
  dsimp only [Option.toList, List.cons_append, List.nil_append]
  refine G_if_eq (pc := 16) (tgt := 23) (by decide) dX4_isLast_16 (fun _ => ?_) (fun z => absurd (by decide) z)
  refine G_iconst (pc := 23) (v := 0) (by decide) dX4_isLast_23 ?_
  exact G_zret (pc := 24) (Nat.le_of_ble_eq_true rfl) (Nat.le_of_ble_eq_true rfl) rfl (by decide) dX4_isLast_24 ⟨rfl, rfl⟩
set_option maxRecDepth 100000 in
set_option maxHeartbeats 4000000 in
theorem s115_X1_isOver  (d : Nat)   : G (d) mX1_isOver 0 0 0 0 0 (gent 1 [.ref 19]) [] SH0 RF0 (gup (gup (gup (gup (gup (gup (gcp (gup (gup (gup (gup (gup (gup (gup (gcp (gup (gup (gup (gup (gup (gup (gup (gcp (gup (gup (gup (gup I0 52 0 0) 53 0 1) 54 0 0) 52 0 (-1)) 24 34 (0 : Int32).toNatClampNeg (0 : Int32).toNatClampNeg (6 : Int32).toNatClampNeg) 34 6 0) 34 7 0) 19 1 1) 52 1 0) 53 1 1) 54 1 0) 52 1 (-1)) 24 34 (0 : Int32).toNatClampNeg (8 : Int32).toNatClampNeg (6 : Int32).toNatClampNeg) 34 14 0) 34 15 1) 19 1 2) 52 2 0) 53 2 1) 54 2 0) 52 2 (-1)) 24 34 (0 : Int32).toNatClampNeg (16 : Int32).toNatClampNeg (6 : Int32).toNatClampNeg) 34 22 0) 34 23 2) 19 1 3) 52 3 0) 53 3 1) 54 3 0) (fun r h => r = some (.int 0) ∧ h = (SH0, RF0, (gup (gup (gup (gup (gup (gup (gcp (gup (gup (gup (gup (gup (gup (gup (gcp (gup (gup (gup (gup (gup (gup (gup (gcp (gup (gup (gup (gup I0 52 0 0) 53 0 1) 54 0 0) 52 0 (-1)) 24 34 (0 : Int32).toNatClampNeg (0 : Int32).toNatClampNeg (6 : Int32).toNatClampNeg) 34 6 0) 34 7 0) 19 1 1) 52 1 0) 53 1 1) 54 1 0) 52 1 (-1)) 24 34 (0 : Int32).toNatClampNeg (8 : Int32).toNatClampNeg (6 : Int32).toNatClampNeg) 34 14 0) 34 15 1) 19 1 2) 52 2 0) 53 2 1) 54 2 0) 52 2 (-1)) 24 34 (0 : Int32).toNatClampNeg (16 : Int32).toNatClampNeg (6 : Int32).toNatClampNeg) 34 22 0) 34 23 2) 19 1 3) 52 3 0) 53 3 1) 54 3 0))) := by
  refine G_aload_n (pc := 0) rfl dX1_isOver_0 ?_
  refine G_getI (pc := 1) (v := 3) (ci := 1) (j := 1) rfl rfl lk_RX1_60 rfl rfl dX1_isOver_1 ?_
  refine G_aload_n (pc := 4) rfl dX1_isOver_4 ?_
  refine G_getI (pc := 5) (v := 12) (ci := 1) (j := 2) rfl rfl lk_RX1_9 rfl rfl dX1_isOver_5 ?_
  refine G_icmp_lt (pc := 8) (tgt := 15) (by decide) dX1_isOver_8 (fun _ => ?_) (fun z => absurd (by decide) z)
  refine G_iconst (pc := 15) (v := 0) (by decide) dX1_isOver_15 ?_
  exact G_zret (pc := 16) (Nat.le_of_ble_eq_true rfl) (Nat.le_of_ble_eq_true rfl) rfl (by decide) dX1_isOver_16 ⟨rfl, rfl⟩
set_option maxRecDepth 100000 in
set_option maxHeartbeats 4000000 in
theorem s114_X4_isLast  (d : Nat)   : G (d + 1) mX4_isLast 0 0 0 0 0 (gent 3 [.ref 51, .int 3, .int 1]) [] SH0 RF0 (gup (gup (gup (gup (gup (gup (gcp (gup (gup (gup (gup (gup (gup (gup (gcp (gup (gup (gup (gup (gup (gup (gup (gcp (gup (gup (gup (gup I0 52 0 0) 53 0 1) 54 0 0) 52 0 (-1)) 24 34 (0 : Int32).toNatClampNeg (0 : Int32).toNatClampNeg (6 : Int32).toNatClampNeg) 34 6 0) 34 7 0) 19 1 1) 52 1 0) 53 1 1) 54 1 0) 52 1 (-1)) 24 34 (0 : Int32).toNatClampNeg (8 : Int32).toNatClampNeg (6 : Int32).toNatClampNeg) 34 14 0) 34 15 1) 19 1 2) 52 2 0) 53 2 1) 54 2 0) 52 2 (-1)) 24 34 (0 : Int32).toNatClampNeg (16 : Int32).toNatClampNeg (6 : Int32).toNatClampNeg) 34 22 0) 34 23 2) 19 1 3) 52 3 0) 53 3 1) 54 3 0) (fun r h => r = some (.int 0) ∧ h = (SH0, RF0, (gup (gup (gup (gup (gup (gup (gcp (gup (gup (gup (gup (gup (gup (gup (gcp (gup (gup (gup (gup (gup (gup (gup (gcp (gup (gup (gup (gup I0 52 0 0) 53 0 1) 54 0 0) 52 0 (-1)) 24 34 (0 : Int32).toNatClampNeg (0 : Int32).toNatClampNeg (6 : Int32).toNatClampNeg) 34 6 0) 34 7 0) 19 1 1) 52 1 0) 53 1 1) 54 1 0) 52 1 (-1)) 24 34 (0 : Int32).toNatClampNeg (8 : Int32).toNatClampNeg (6 : Int32).toNatClampNeg) 34 14 0) 34 15 1) 19 1 2) 52 2 0) 53 2 1) 54 2 0) 52 2 (-1)) 24 34 (0 : Int32).toNatClampNeg (16 : Int32).toNatClampNeg (6 : Int32).toNatClampNeg) 34 22 0) 34 23 2) 19 1 3) 52 3 0) 53 3 1) 54 3 0))) := by
  refine G_iload_n (pc := 0) rfl dX4_isLast_0 ?_
  refine G_if_le (pc := 1) (tgt := 19) (by decide) dX4_isLast_1 (fun z => absurd z (by decide)) (fun _ => ?_)
  refine G_iload_n (pc := 4) rfl dX4_isLast_4 ?_
  refine G_iconst (pc := 5) (v := 4) (by decide) dX4_isLast_5 ?_
  refine G_icmp_ge (pc := 6) (tgt := 19) (by decide) dX4_isLast_6 (fun z => absurd z (by decide)) (fun _ => ?_)
  refine G_aload_n (pc := 9) rfl dX4_isLast_9 ?_
  refine G_getR (pc := 10) (r := 19) (ci := 4) (j := 0) rfl lk_RX4_21 rfl rfl rfl dX4_isLast_10 ?_
  refine G_callV (pc := 13) (mc1 := 0) (ms1 := 0) (ci := 1) (mj := mX1_isOver) (vs := []) dX4_isLast_13 rfl rfl cm_X1_isOver wf_125 wf_17 wf_18 rfl (Nat.le_of_ble_eq_true rfl) (Nat.le_of_ble_eq_true rfl) (Nat.le_of_ble_eq_true rfl) (Nat.le_of_ble_eq_true rfl) (s115_X1_isOver  d  ) ?_
  rintro _ _ ⟨rfl, rfl⟩
  dsimp only [Option.toList, List.cons_append, List.nil_append]
  refine G_if_eq (pc := 16) (tgt := 23) (by decide) dX4_isLast_16 (fun _ => ?_) (fun z => absurd (by decide) z)
  refine G_iconst (pc := 23) (v := 0) (by decide) dX4_isLast_23 ?_
  exact G_zret (pc := 24) (Nat.le_of_ble_eq_true rfl) (Nat.le_of_ble_eq_true rfl) rfl (by decide) dX4_isLast_24 ⟨rfl, rfl⟩
set_option maxRecDepth 100000 in
set_option maxHeartbeats 4000000 in
theorem s116_X1_save  (d : Nat)   : G (d + 1) mX1_save 0 0 0 0 0 (gent 3 [.ref 19, .int 3]) [] SH0 RF0 (gup (gup (gup (gup (gup (gup (gup (gcp (gup (gup (gup (gup (gup (gup (gup (gcp (gup (gup (gup (gup (gup (gup (gup (gcp (gup (gup (gup (gup I0 52 0 0) 53 0 1) 54 0 0) 52 0 (-1)) 24 34 (0 : Int32).toNatClampNeg (0 : Int32).toNatClampNeg (6 : Int32).toNatClampNeg) 34 6 0) 34 7 0) 19 1 1) 52 1 0) 53 1 1) 54 1 0) 52 1 (-1)) 24 34 (0 : Int32).toNatClampNeg (8 : Int32).toNatClampNeg (6 : Int32).toNatClampNeg) 34 14 0) 34 15 1) 19 1 2) 52 2 0) 53 2 1) 54 2 0) 52 2 (-1)) 24 34 (0 : Int32).toNatClampNeg (16 : Int32).toNatClampNeg (6 : Int32).toNatClampNeg) 34 22 0) 34 23 2) 19 1 3) 52 3 0) 53 3 1) 54 3 0) 52 3 (-1)) (fun r h => r = none ∧ h = (SH0, RF0, (gup (gup (gcp (gup (gup (gup (gup (gup (gup (gup (gcp (gup (gup (gup (gup (gup (gup (gup (gcp (gup (gup (gup (gup (gup (gup (gup (gcp (gup (gup (gup (gup I0 52 0 0) 53 0 1) 54 0 0) 52 0 (-1)) 24 34 (0 : Int32).toNatClampNeg (0 : Int32).toNatClampNeg (6 : Int32).toNatClampNeg) 34 6 0) 34 7 0) 19 1 1) 52 1 0) 53 1 1) 54 1 0) 52 1 (-1)) 24 34 (0 : Int32).toNatClampNeg (8 : Int32).toNatClampNeg (6 : Int32).toNatClampNeg) 34 14 0) 34 15 1) 19 1 2) 52 2 0) 53 2 1) 54 2 0) 52 2 (-1)) 24 34 (0 : Int32).toNatClampNeg (16 : Int32).toNatClampNeg (6 : Int32).toNatClampNeg) 34 22 0) 34 23 2) 19 1 3) 52 3 0) 53 3 1) 54 3 0) 52 3 (-1)) 24 34 (0 : Int32).toNatClampNeg (24 : Int32).toNatClampNeg (6 : Int32).toNatClampNeg) 34 30 0) 34 31 3))) := by
  refine G_iload_n (pc := 0) rfl dX1_save_0 ?_
  refine G_bipush (pc := 1) (v := 8) (by decide) dX1_save_1 ?_
  refine G_imul (pc := 3) (z := 24) (by decide) dX1_save_3 ?_
  refine G_istore_n (pc := 4) (L1 := [some (.ref 19), some (.int 3), some (.int 24)]) rfl rfl (by decide) dX1_save_4 ?_
  refine G_aload_n (pc := 5) rfl dX1_save_5 ?_
  refine G_getR (pc := 6) (r := 24) (ci := 1) (j := 11) rfl lk_RX1_31 rfl rfl rfl dX1_save_6 ?_
  refine G_iconst (pc := 9) (v := 0) (by decide) dX1_save_9 ?_
  refine G_aload_n (pc := 10) rfl dX1_save_10 ?_
  refine G_getR (pc := 11) (r := 34) (ci := 1) (j := 18) rfl lk_RX1_53 rfl rfl rfl dX1_save_11 ?_
  refine G_iload_n (pc := 14) rfl dX1_save_14 ?_
  refine G_bipush (pc := 15) (v := 6) (by decide) dX1_save_15 ?_
  refine G_copy (pc := 17) (x := 24) (y := 34) rfl rfl (by decide) (by decide) (by decide) (by decide) (by decide) wf_50 wf_51 wf_52 wf_53 (Nat.le_of_ble_eq_true rfl) dX1_save_17 ?_
  refine G_aload_n (pc := 20) rfl dX1_save_20 ?_
  refine G_getR (pc := 21) (r := 34) (ci := 1) (j := 18) rfl lk_RX1_53 rfl rfl rfl dX1_save_21 ?_
  refine G_iload_n (pc := 24) rfl dX1_save_24 ?_
  refine G_bipush (pc := 25) (v := 6) (by decide) dX1_save_25 ?_
  refine G_iadd (pc := 27) (z := 30) (by decide) dX1_save_27 ?_
  refine G_aload_n (pc := 28) rfl dX1_save_28 ?_
  refine G_getI (pc := 29) (v := 0) (ci := 1) (j := 9) rfl rfl lk_RX1_75 rfl rfl dX1_save_29 ?_
  refine G_iast (pc := 32) (jj := 30) (by decide) rfl (by unfold vp_in; decide) dX1_save_32 ?_
  refine G_aload_n (pc := 33) rfl dX1_save_33 ?_
  refine G_getR (pc := 34) (r := 34) (ci := 1) (j := 18) rfl lk_RX1_53 rfl rfl rfl dX1_save_34 ?_
  refine G_iload_n (pc := 37) rfl dX1_save_37 ?_
  refine G_bipush (pc := 38) (v := 6) (by decide) dX1_save_38 ?_
  refine G_iadd (pc := 40) (z := 30) (by decide) dX1_save_40 ?_
  refine G_iconst (pc := 41) (v := 1) (by decide) dX1_save_41 ?_
  refine G_iadd (pc := 42) (z := 31) (by decide) dX1_save_42 ?_
  refine G_aload_n (pc := 43) rfl dX1_save_43 ?_
  refine G_getI (pc := 44) (v := 3) (ci := 1) (j := 1) rfl rfl lk_RX1_60 rfl rfl dX1_save_44 ?_
  refine G_iast (pc := 47) (jj := 31) (by decide) rfl (by unfold vp_in; decide) dX1_save_47 ?_
  exact G_vret (pc := 48) (Nat.le_of_ble_eq_true rfl) (Nat.le_of_ble_eq_true rfl) rfl dX1_save_48 ⟨rfl, rfl⟩
set_option maxRecDepth 100000 in
set_option maxHeartbeats 4000000 in
theorem s118_X1_isKey  (d : Nat)   : G (d) mX1_isKey 0 0 0 0 0 (gent 2 [.ref 19, .int (-1)]) [] SH0 RF0 (gup (gup (gcp (gup (gup (gup (gup (gup (gup (gup (gcp (gup (gup (gup (gup (gup (gup (gup (gcp (gup (gup (gup (gup (gup (gup (gup (gcp (gup (gup (gup (gup I0 52 0 0) 53 0 1) 54 0 0) 52 0 (-1)) 24 34 (0 : Int32).toNatClampNeg (0 : Int32).toNatClampNeg (6 : Int32).toNatClampNeg) 34 6 0) 34 7 0) 19 1 1) 52 1 0) 53 1 1) 54 1 0) 52 1 (-1)) 24 34 (0 : Int32).toNatClampNeg (8 : Int32).toNatClampNeg (6 : Int32).toNatClampNeg) 34 14 0) 34 15 1) 19 1 2) 52 2 0) 53 2 1) 54 2 0) 52 2 (-1)) 24 34 (0 : Int32).toNatClampNeg (16 : Int32).toNatClampNeg (6 : Int32).toNatClampNeg) 34 22 0) 34 23 2) 19 1 3) 52 3 0) 53 3 1) 54 3 0) 52 3 (-1)) 24 34 (0 : Int32).toNatClampNeg (24 : Int32).toNatClampNeg (6 : Int32).toNatClampNeg) 34 30 0) 34 31 3) (fun r h => r = some (.int 0) ∧ h = (SH0, RF0, (gup (gup (gcp (gup (gup (gup (gup (gup (gup (gup (gcp (gup (gup (gup (gup (gup (gup (gup (gcp (gup (gup (gup (gup (gup (gup (gup (gcp (gup (gup (gup (gup I0 52 0 0) 53 0 1) 54 0 0) 52 0 (-1)) 24 34 (0 : Int32).toNatClampNeg (0 : Int32).toNatClampNeg (6 : Int32).toNatClampNeg) 34 6 0) 34 7 0) 19 1 1) 52 1 0) 53 1 1) 54 1 0) 52 1 (-1)) 24 34 (0 : Int32).toNatClampNeg (8 : Int32).toNatClampNeg (6 : Int32).toNatClampNeg) 34 14 0) 34 15 1) 19 1 2) 52 2 0) 53 2 1) 54 2 0) 52 2 (-1)) 24 34 (0 : Int32).toNatClampNeg (16 : Int32).toNatClampNeg (6 : Int32).toNatClampNeg) 34 22 0) 34 23 2) 19 1 3) 52 3 0) 53 3 1) 54 3 0) 52 3 (-1)) 24 34 (0 : Int32).toNatClampNeg (24 : Int32).toNatClampNeg (6 : Int32).toNatClampNeg) 34 30 0) 34 31 3))) := by
  refine G_iload_n (pc := 0) rfl dX1_isKey_0 ?_
  refine G_if_lt (pc := 1) (tgt := 16) (by decide) dX1_isKey_1 (fun _ => ?_) (fun z => absurd (by decide) z)
  refine G_iconst (pc := 16) (v := 0) (by decide) dX1_isKey_16 ?_
  exact G_zret (pc := 17) (Nat.le_of_ble_eq_true rfl) (Nat.le_of_ble_eq_true rfl) rfl (by decide) dX1_isKey_17 ⟨rfl, rfl⟩
set_option maxRecDepth 100000 in
set_option maxHeartbeats 4000000 in
theorem s117_X1_tell  (d : Nat)   : G (d + 1) mX1_tell 0 0 0 0 0 (gent 5 [.ref 19, .int 0]) [] SH0 RF0 (gup (gup (gcp (gup (gup (gup (gup (gup (gup (gup (gcp (gup (gup (gup (gup (gup (gup (gup (gcp (gup (gup (gup (gup (gup (gup (gup (gcp (gup (gup (gup (gup I0 52 0 0) 53 0 1) 54 0 0) 52 0 (-1)) 24 34 (0 : Int32).toNatClampNeg (0 : Int32).toNatClampNeg (6 : Int32).toNatClampNeg) 34 6 0) 34 7 0) 19 1 1) 52 1 0) 53 1 1) 54 1 0) 52 1 (-1)) 24 34 (0 : Int32).toNatClampNeg (8 : Int32).toNatClampNeg (6 : Int32).toNatClampNeg) 34 14 0) 34 15 1) 19 1 2) 52 2 0) 53 2 1) 54 2 0) 52 2 (-1)) 24 34 (0 : Int32).toNatClampNeg (16 : Int32).toNatClampNeg (6 : Int32).toNatClampNeg) 34 22 0) 34 23 2) 19 1 3) 52 3 0) 53 3 1) 54 3 0) 52 3 (-1)) 24 34 (0 : Int32).toNatClampNeg (24 : Int32).toNatClampNeg (6 : Int32).toNatClampNeg) 34 30 0) 34 31 3) (fun r h => r = some (.int 0) ∧ h = (SH0, RF0, (gup (gup (gcp (gup (gup (gup (gup (gup (gup (gup (gcp (gup (gup (gup (gup (gup (gup (gup (gcp (gup (gup (gup (gup (gup (gup (gup (gcp (gup (gup (gup (gup I0 52 0 0) 53 0 1) 54 0 0) 52 0 (-1)) 24 34 (0 : Int32).toNatClampNeg (0 : Int32).toNatClampNeg (6 : Int32).toNatClampNeg) 34 6 0) 34 7 0) 19 1 1) 52 1 0) 53 1 1) 54 1 0) 52 1 (-1)) 24 34 (0 : Int32).toNatClampNeg (8 : Int32).toNatClampNeg (6 : Int32).toNatClampNeg) 34 14 0) 34 15 1) 19 1 2) 52 2 0) 53 2 1) 54 2 0) 52 2 (-1)) 24 34 (0 : Int32).toNatClampNeg (16 : Int32).toNatClampNeg (6 : Int32).toNatClampNeg) 34 22 0) 34 23 2) 19 1 3) 52 3 0) 53 3 1) 54 3 0) 52 3 (-1)) 24 34 (0 : Int32).toNatClampNeg (24 : Int32).toNatClampNeg (6 : Int32).toNatClampNeg) 34 30 0) 34 31 3))) := by
  refine G_iload_n (pc := 0) rfl dX1_tell_0 ?_
  refine G_iconst (pc := 1) (v := 1) (by decide) dX1_tell_1 ?_
  refine G_isub (pc := 2) (z := (-1)) (by decide) dX1_tell_2 ?_
  refine G_istore_n (pc := 3) (L1 := [some (.ref 19), some (.int 0), some (.int (-1)), none, none]) rfl rfl (by decide) dX1_tell_3 ?_
  refine G_aload_n (pc := 4) rfl dX1_tell_4 ?_
  refine G_iload_n (pc := 5) rfl dX1_tell_5 ?_
  refine G_callV (pc := 6) (mc1 := 0) (ms1 := 0) (ci := 1) (mj := mX1_isKey) (vs := [_]) dX1_tell_6 rfl rfl cm_X1_isKey wf_68 wf_13 wf_14 rfl (Nat.le_of_ble_eq_true rfl) (Nat.le_of_ble_eq_true rfl) (Nat.le_of_ble_eq_true rfl) (Nat.le_of_ble_eq_true rfl) (s118_X1_isKey  d  ) ?_
  rintro _ _ ⟨rfl, rfl⟩
  dsimp only [Option.toList, List.cons_append, List.nil_append]
  refine G_if_eq (pc := 9) (tgt := 20) (by decide) dX1_tell_9 (fun _ => ?_) (fun z => absurd (by decide) z)
  refine G_iconst (pc := 20) (v := 0) (by decide) dX1_tell_20 ?_
  exact G_iret (pc := 21) (Nat.le_of_ble_eq_true rfl) (Nat.le_of_ble_eq_true rfl) rfl dX1_tell_21 ⟨rfl, rfl⟩
set_option maxRecDepth 100000 in
set_option maxHeartbeats 4000000 in
theorem s119_X1_melt  (d : Nat)   : G (d) mX1_melt 0 0 0 0 0 (gent 3 [.ref 19]) [] SH0 RF0 (gup (gup (gcp (gup (gup (gup (gup (gup (gup (gup (gcp (gup (gup (gup (gup (gup (gup (gup (gcp (gup (gup (gup (gup (gup (gup (gup (gcp (gup (gup (gup (gup I0 52 0 0) 53 0 1) 54 0 0) 52 0 (-1)) 24 34 (0 : Int32).toNatClampNeg (0 : Int32).toNatClampNeg (6 : Int32).toNatClampNeg) 34 6 0) 34 7 0) 19 1 1) 52 1 0) 53 1 1) 54 1 0) 52 1 (-1)) 24 34 (0 : Int32).toNatClampNeg (8 : Int32).toNatClampNeg (6 : Int32).toNatClampNeg) 34 14 0) 34 15 1) 19 1 2) 52 2 0) 53 2 1) 54 2 0) 52 2 (-1)) 24 34 (0 : Int32).toNatClampNeg (16 : Int32).toNatClampNeg (6 : Int32).toNatClampNeg) 34 22 0) 34 23 2) 19 1 3) 52 3 0) 53 3 1) 54 3 0) 52 3 (-1)) 24 34 (0 : Int32).toNatClampNeg (24 : Int32).toNatClampNeg (6 : Int32).toNatClampNeg) 34 30 0) 34 31 3) (fun r h => r = some (.int 0) ∧ h = (SH0, RF0, (gup (gup (gup (gcp (gup (gup (gup (gup (gup (gup (gup (gcp (gup (gup (gup (gup (gup (gup (gup (gcp (gup (gup (gup (gup (gup (gup (gup (gcp (gup (gup (gup (gup I0 52 0 0) 53 0 1) 54 0 0) 52 0 (-1)) 24 34 (0 : Int32).toNatClampNeg (0 : Int32).toNatClampNeg (6 : Int32).toNatClampNeg) 34 6 0) 34 7 0) 19 1 1) 52 1 0) 53 1 1) 54 1 0) 52 1 (-1)) 24 34 (0 : Int32).toNatClampNeg (8 : Int32).toNatClampNeg (6 : Int32).toNatClampNeg) 34 14 0) 34 15 1) 19 1 2) 52 2 0) 53 2 1) 54 2 0) 52 2 (-1)) 24 34 (0 : Int32).toNatClampNeg (16 : Int32).toNatClampNeg (6 : Int32).toNatClampNeg) 34 22 0) 34 23 2) 19 1 3) 52 3 0) 53 3 1) 54 3 0) 52 3 (-1)) 24 34 (0 : Int32).toNatClampNeg (24 : Int32).toNatClampNeg (6 : Int32).toNatClampNeg) 34 30 0) 34 31 3) 19 1 4))) := by
  refine G_iconst (pc := 0) (v := 0) (by decide) dX1_melt_0 ?_
  refine G_istore_n (pc := 1) (L1 := [some (.ref 19), some (.int 0), none]) rfl rfl (by decide) dX1_melt_1 ?_
  refine G_iconst (pc := 2) (v := 0) (by decide) dX1_melt_2 ?_
  refine G_istore_n (pc := 3) (L1 := [some (.ref 19), some (.int 0), some (.int 0)]) rfl rfl (by decide) dX1_melt_3 ?_
  refine G_iload_n (pc := 4) rfl dX1_melt_4 ?_
  refine G_aload_n (pc := 5) rfl dX1_melt_5 ?_
  refine G_getI (pc := 6) (v := 0) (ci := 1) (j := 8) rfl rfl lk_RX1_72 rfl rfl dX1_melt_6 ?_
  refine G_icmp_ge (pc := 9) (tgt := 60) (by decide) dX1_melt_9 (fun _ => ?_) (fun z => absurd (by decide) z)
  refine G_aload_n (pc := 60) rfl dX1_melt_60 ?_
  refine G_dup (pc := 61) rfl dX1_melt_61 ?_
  refine G_getI (pc := 62) (v := 3) (ci := 1) (j := 1) rfl rfl lk_RX1_60 rfl rfl dX1_melt_62 ?_
  refine G_iconst (pc := 65) (v := 1) (by decide) dX1_melt_65 ?_
  refine G_iadd (pc := 66) (z := 4) (by decide) dX1_melt_66 ?_
  refine G_putI (pc := 67) (ci := 1) (j := 1) rfl lk_RX1_60 rfl rfl rfl trivial dX1_melt_67 ?_
  refine G_iload_n (pc := 70) rfl dX1_melt_70 ?_
  exact G_iret (pc := 71) (Nat.le_of_ble_eq_true rfl) (Nat.le_of_ble_eq_true rfl) rfl dX1_melt_71 ⟨rfl, rfl⟩
set_option maxRecDepth 100000 in
set_option maxHeartbeats 4000000 in
theorem s121_X4_isLast  (d : Nat)   : G (d) mX4_isLast 0 0 0 0 0 (gent 3 [.ref 51, .int 4, .int 0]) [] SH0 RF0 (gup (gup (gup (gup (gup (gup (gcp (gup (gup (gup (gup (gup (gup (gup (gcp (gup (gup (gup (gup (gup (gup (gup (gcp (gup (gup (gup (gup (gup (gup (gup (gcp (gup (gup (gup (gup I0 52 0 0) 53 0 1) 54 0 0) 52 0 (-1)) 24 34 (0 : Int32).toNatClampNeg (0 : Int32).toNatClampNeg (6 : Int32).toNatClampNeg) 34 6 0) 34 7 0) 19 1 1) 52 1 0) 53 1 1) 54 1 0) 52 1 (-1)) 24 34 (0 : Int32).toNatClampNeg (8 : Int32).toNatClampNeg (6 : Int32).toNatClampNeg) 34 14 0) 34 15 1) 19 1 2) 52 2 0) 53 2 1) 54 2 0) 52 2 (-1)) 24 34 (0 : Int32).toNatClampNeg (16 : Int32).toNatClampNeg (6 : Int32).toNatClampNeg) 34 22 0) 34 23 2) 19 1 3) 52 3 0) 53 3 1) 54 3 0) 52 3 (-1)) 24 34 (0 : Int32).toNatClampNeg (24 : Int32).toNatClampNeg (6 : Int32).toNatClampNeg) 34 30 0) 34 31 3) 19 1 4) 52 4 0) 53 4 1) 54 4 0) (fun r h => r = some (.int 1) ∧ h = (SH0, RF0, (gup (gup (gup (gup (gup (gup (gcp (gup (gup (gup (gup (gup (gup (gup (gcp (gup (gup (gup (gup (gup (gup (gup (gcp (gup (gup (gup (gup (gup (gup (gup (gcp (gup (gup (gup (gup I0 52 0 0) 53 0 1) 54 0 0) 52 0 (-1)) 24 34 (0 : Int32).toNatClampNeg (0 : Int32).toNatClampNeg (6 : Int32).toNatClampNeg) 34 6 0) 34 7 0) 19 1 1) 52 1 0) 53 1 1) 54 1 0) 52 1 (-1)) 24 34 (0 : Int32).toNatClampNeg (8 : Int32).toNatClampNeg (6 : Int32).toNatClampNeg) 34 14 0) 34 15 1) 19 1 2) 52 2 0) 53 2 1) 54 2 0) 52 2 (-1)) 24 34 (0 : Int32).toNatClampNeg (16 : Int32).toNatClampNeg (6 : Int32).toNatClampNeg) 34 22 0) 34 23 2) 19 1 3) 52 3 0) 53 3 1) 54 3 0) 52 3 (-1)) 24 34 (0 : Int32).toNatClampNeg (24 : Int32).toNatClampNeg (6 : Int32).toNatClampNeg) 34 30 0) 34 31 3) 19 1 4) 52 4 0) 53 4 1) 54 4 0))) := by
  refine G_iload_n (pc := 0) rfl dX4_isLast_0 ?_
  refine G_if_le (pc := 1) (tgt := 19) (by decide) dX4_isLast_1 (fun _ => ?_) (fun z => absurd (by decide) z)
  refine G_iconst (pc := 19) (v := 1) (by decide) dX4_isLast_19 ?_
  refine G_goto (pc := 20) (tgt := 24) (by decide) dX4_isLast_20 ?_
  exact G_zret (pc := 24) (Nat.le_of_ble_eq_true rfl) (Nat.le_of_ble_eq_true rfl) rfl (by decide) dX4_isLast_24 ⟨rfl, rfl⟩
set_option maxRecDepth 100000 in
set_option maxHeartbeats 4000000 in
theorem s120_X4_seek  (d : Nat)   : G (d + 1) mX4_seek 0 0 0 0 0 (gent 8 [.ref 51, .int 4, .int 0]) [] SH0 RF0 (gup (gup (gup (gcp (gup (gup (gup (gup (gup (gup (gup (gcp (gup (gup (gup (gup (gup (gup (gup (gcp (gup (gup (gup (gup (gup (gup (gup (gcp (gup (gup (gup (gup I0 52 0 0) 53 0 1) 54 0 0) 52 0 (-1)) 24 34 (0 : Int32).toNatClampNeg (0 : Int32).toNatClampNeg (6 : Int32).toNatClampNeg) 34 6 0) 34 7 0) 19 1 1) 52 1 0) 53 1 1) 54 1 0) 52 1 (-1)) 24 34 (0 : Int32).toNatClampNeg (8 : Int32).toNatClampNeg (6 : Int32).toNatClampNeg) 34 14 0) 34 15 1) 19 1 2) 52 2 0) 53 2 1) 54 2 0) 52 2 (-1)) 24 34 (0 : Int32).toNatClampNeg (16 : Int32).toNatClampNeg (6 : Int32).toNatClampNeg) 34 22 0) 34 23 2) 19 1 3) 52 3 0) 53 3 1) 54 3 0) 52 3 (-1)) 24 34 (0 : Int32).toNatClampNeg (24 : Int32).toNatClampNeg (6 : Int32).toNatClampNeg) 34 30 0) 34 31 3) 19 1 4) (fun r h => r = none ∧ h = (SH0, RF0, (gup (gup (gup (gup (gup (gup (gcp (gup (gup (gup (gup (gup (gup (gup (gcp (gup (gup (gup (gup (gup (gup (gup (gcp (gup (gup (gup (gup (gup (gup (gup (gcp (gup (gup (gup (gup I0 52 0 0) 53 0 1) 54 0 0) 52 0 (-1)) 24 34 (0 : Int32).toNatClampNeg (0 : Int32).toNatClampNeg (6 : Int32).toNatClampNeg) 34 6 0) 34 7 0) 19 1 1) 52 1 0) 53 1 1) 54 1 0) 52 1 (-1)) 24 34 (0 : Int32).toNatClampNeg (8 : Int32).toNatClampNeg (6 : Int32).toNatClampNeg) 34 14 0) 34 15 1) 19 1 2) 52 2 0) 53 2 1) 54 2 0) 52 2 (-1)) 24 34 (0 : Int32).toNatClampNeg (16 : Int32).toNatClampNeg (6 : Int32).toNatClampNeg) 34 22 0) 34 23 2) 19 1 3) 52 3 0) 53 3 1) 54 3 0) 52 3 (-1)) 24 34 (0 : Int32).toNatClampNeg (24 : Int32).toNatClampNeg (6 : Int32).toNatClampNeg) 34 30 0) 34 31 3) 19 1 4) 52 4 0) 53 4 1) 54 4 0))) := by
  refine G_aload_n (pc := 0) rfl dX4_seek_0 ?_
  refine G_getR (pc := 1) (r := 52) (ci := 4) (j := 1) rfl lk_RX4_9 rfl rfl rfl dX4_seek_1 ?_
  refine G_iload_n (pc := 4) rfl dX4_seek_4 ?_
  refine G_iconst (pc := 5) (v := 0) (by decide) dX4_seek_5 ?_
  refine G_iast (pc := 6) (jj := 4) (by decide) rfl (by unfold vp_in; decide) dX4_seek_6 ?_
  refine G_aload_n (pc := 7) rfl dX4_seek_7 ?_
  refine G_getR (pc := 8) (r := 53) (ci := 4) (j := 2) rfl lk_RX4_15 rfl rfl rfl dX4_seek_8 ?_
  refine G_iload_n (pc := 11) rfl dX4_seek_11 ?_
  refine G_iconst (pc := 12) (v := 1) (by decide) dX4_seek_12 ?_
  refine G_iast (pc := 13) (jj := 4) (by decide) rfl (by unfold vp_in; decide) dX4_seek_13 ?_
  refine G_aload_n (pc := 14) rfl dX4_seek_14 ?_
  refine G_getR (pc := 15) (r := 54) (ci := 4) (j := 3) rfl lk_RX4_18 rfl rfl rfl dX4_seek_15 ?_
  refine G_iload_n (pc := 18) rfl dX4_seek_18 ?_
  refine G_iconst (pc := 19) (v := 0) (by decide) dX4_seek_19 ?_
  refine G_iast (pc := 20) (jj := 4) (by decide) rfl (by unfold vp_in; decide) dX4_seek_20 ?_
  refine G_aload_n (pc := 21) rfl dX4_seek_21 ?_
  refine G_iload_n (pc := 22) rfl dX4_seek_22 ?_
  refine G_iload_n (pc := 23) rfl dX4_seek_23 ?_
  refine G_callV (pc := 24) (mc1 := 0) (ms1 := 0) (ci := 4) (mj := mX4_isLast) (vs := [_, _]) dX4_seek_24 rfl rfl cm_X4_isLast wf_126 wf_129 wf_130 rfl (Nat.le_of_ble_eq_true rfl) (Nat.le_of_ble_eq_true rfl) (Nat.le_of_ble_eq_true rfl) (Nat.le_of_ble_eq_true rfl) (s121_X4_isLast  d  ) ?_
  rintro _ _ ⟨rfl, rfl⟩
  dsimp only [Option.toList, List.cons_append, List.nil_append]
  refine G_if_eq (pc := 27) (tgt := 31) (by decide) dX4_seek_27 (fun z => absurd z (by decide)) (fun _ => ?_)
  exact G_vret (pc := 30) (Nat.le_of_ble_eq_true rfl) (Nat.le_of_ble_eq_true rfl) rfl dX4_seek_30 ⟨rfl, rfl⟩
set_option maxRecDepth 100000 in
set_option maxHeartbeats 4000000 in
theorem s122_X1_restore  (d : Nat)   : G (d + 1) mX1_restore 0 0 0 0 0 (gent 3 [.ref 19, .int 3]) [] SH0 RF0 (gup (gup (gup (gup (gup (gup (gcp (gup (gup (gup (gup (gup (gup (gup (gcp (gup (gup (gup (gup (gup (gup (gup (gcp (gup (gup (gup (gup (gup (gup (gup (gcp (gup (gup (gup (gup I0 52 0 0) 53 0 1) 54 0 0) 52 0 (-1)) 24 34 (0 : Int32).toNatClampNeg (0 : Int32).toNatClampNeg (6 : Int32).toNatClampNeg) 34 6 0) 34 7 0) 19 1 1) 52 1 0) 53 1 1) 54 1 0) 52 1 (-1)) 24 34 (0 : Int32).toNatClampNeg (8 : Int32).toNatClampNeg (6 : Int32).toNatClampNeg) 34 14 0) 34 15 1) 19 1 2) 52 2 0) 53 2 1) 54 2 0) 52 2 (-1)) 24 34 (0 : Int32).toNatClampNeg (16 : Int32).toNatClampNeg (6 : Int32).toNatClampNeg) 34 22 0) 34 23 2) 19 1 3) 52 3 0) 53 3 1) 54 3 0) 52 3 (-1)) 24 34 (0 : Int32).toNatClampNeg (24 : Int32).toNatClampNeg (6 : Int32).toNatClampNeg) 34 30 0) 34 31 3) 19 1 4) 52 4 0) 53 4 1) 54 4 0) (fun r h => r = none ∧ h = (SH0, RF0, (gup (gup (gcp (gup (gup (gup (gup (gup (gup (gcp (gup (gup (gup (gup (gup (gup (gup (gcp (gup (gup (gup (gup (gup (gup (gup (gcp (gup (gup (gup (gup (gup (gup (gup (gcp (gup (gup (gup (gup I0 52 0 0) 53 0 1) 54 0 0) 52 0 (-1)) 24 34 (0 : Int32).toNatClampNeg (0 : Int32).toNatClampNeg (6 : Int32).toNatClampNeg) 34 6 0) 34 7 0) 19 1 1) 52 1 0) 53 1 1) 54 1 0) 52 1 (-1)) 24 34 (0 : Int32).toNatClampNeg (8 : Int32).toNatClampNeg (6 : Int32).toNatClampNeg) 34 14 0) 34 15 1) 19 1 2) 52 2 0) 53 2 1) 54 2 0) 52 2 (-1)) 24 34 (0 : Int32).toNatClampNeg (16 : Int32).toNatClampNeg (6 : Int32).toNatClampNeg) 34 22 0) 34 23 2) 19 1 3) 52 3 0) 53 3 1) 54 3 0) 52 3 (-1)) 24 34 (0 : Int32).toNatClampNeg (24 : Int32).toNatClampNeg (6 : Int32).toNatClampNeg) 34 30 0) 34 31 3) 19 1 4) 52 4 0) 53 4 1) 54 4 0) 34 24 (24 : Int32).toNatClampNeg (0 : Int32).toNatClampNeg (6 : Int32).toNatClampNeg) 19 9 0) 19 1 3))) := by
  refine G_iload_n (pc := 0) rfl dX1_restore_0 ?_
  refine G_bipush (pc := 1) (v := 8) (by decide) dX1_restore_1 ?_
  refine G_imul (pc := 3) (z := 24) (by decide) dX1_restore_3 ?_
  refine G_istore_n (pc := 4) (L1 := [some (.ref 19), some (.int 3), some (.int 24)]) rfl rfl (by decide) dX1_restore_4 ?_
  refine G_aload_n (pc := 5) rfl dX1_restore_5 ?_
  refine G_getR (pc := 6) (r := 34) (ci := 1) (j := 18) rfl lk_RX1_53 rfl rfl rfl dX1_restore_6 ?_
  refine G_iload_n (pc := 9) rfl dX1_restore_9 ?_
  refine G_aload_n (pc := 10) rfl dX1_restore_10 ?_
  refine G_getR (pc := 11) (r := 24) (ci := 1) (j := 11) rfl lk_RX1_31 rfl rfl rfl dX1_restore_11 ?_
  refine G_iconst (pc := 14) (v := 0) (by decide) dX1_restore_14 ?_
  refine G_bipush (pc := 15) (v := 6) (by decide) dX1_restore_15 ?_
  refine G_copy (pc := 17) (x := 34) (y := 24) rfl rfl (by decide) (by decide) (by decide) (by decide) (by decide) wf_50 wf_51 wf_52 wf_53 (Nat.le_of_ble_eq_true rfl) dX1_restore_17 ?_
  refine G_aload_n (pc := 20) rfl dX1_restore_20 ?_
  refine G_aload_n (pc := 21) rfl dX1_restore_21 ?_
  refine G_getR (pc := 22) (r := 34) (ci := 1) (j := 18) rfl lk_RX1_53 rfl rfl rfl dX1_restore_22 ?_
  refine G_iload_n (pc := 25) rfl dX1_restore_25 ?_
  refine G_bipush (pc := 26) (v := 6) (by decide) dX1_restore_26 ?_
  refine G_iadd (pc := 28) (z := 30) (by decide) dX1_restore_28 ?_
  refine G_iald (pc := 29) (jj := 30) (v := 0) (by decide) rfl rfl (by unfold vp_in; decide) dX1_restore_29 ?_
  refine G_putI (pc := 30) (ci := 1) (j := 9) rfl lk_RX1_75 rfl rfl rfl trivial dX1_restore_30 ?_
  refine G_aload_n (pc := 33) rfl dX1_restore_33 ?_
  refine G_aload_n (pc := 34) rfl dX1_restore_34 ?_
  refine G_getR (pc := 35) (r := 34) (ci := 1) (j := 18) rfl lk_RX1_53 rfl rfl rfl dX1_restore_35 ?_
  refine G_iload_n (pc := 38) rfl dX1_restore_38 ?_
  refine G_bipush (pc := 39) (v := 6) (by decide) dX1_restore_39 ?_
  refine G_iadd (pc := 41) (z := 30) (by decide) dX1_restore_41 ?_
  refine G_iconst (pc := 42) (v := 1) (by decide) dX1_restore_42 ?_
  refine G_iadd (pc := 43) (z := 31) (by decide) dX1_restore_43 ?_
  refine G_iald (pc := 44) (jj := 31) (v := 3) (by decide) rfl rfl (by unfold vp_in; decide) dX1_restore_44 ?_
  refine G_putI (pc := 45) (ci := 1) (j := 1) rfl lk_RX1_60 rfl rfl rfl trivial dX1_restore_45 ?_
  exact G_vret (pc := 48) (Nat.le_of_ble_eq_true rfl) (Nat.le_of_ble_eq_true rfl) rfl dX1_restore_48 ⟨rfl, rfl⟩
set_option maxRecDepth 100000 in
set_option maxHeartbeats 4000000 in
theorem s123_X4_weigh  (d : Nat)   : G (d) mX4_weigh 0 0 0 0 0 (gent 5 [.ref 51, .int 3, .int 0, .int 1, .int 0]) [] SH0 RF0 (gup (gup (gcp (gup (gup (gup (gup (gup (gup (gcp (gup (gup (gup (gup (gup (gup (gup (gcp (gup (gup (gup (gup (gup (gup (gup (gcp (gup (gup (gup (gup (gup (gup (gup (gcp (gup (gup (gup (gup I0 52 0 0) 53 0 1) 54 0 0) 52 0 (-1)) 24 34 (0 : Int32).toNatClampNeg (0 : Int32).toNatClampNeg (6 : Int32).toNatClampNeg) 34 6 0) 34 7 0) 19 1 1) 52 1 0) 53 1 1) 54 1 0) 52 1 (-1)) 24 34 (0 : Int32).toNatClampNeg (8 : Int32).toNatClampNeg (6 : Int32).toNatClampNeg) 34 14 0) 34 15 1) 19 1 2) 52 2 0) 53 2 1) 54 2 0) 52 2 (-1)) 24 34 (0 : Int32).toNatClampNeg (16 : Int32).toNatClampNeg (6 : Int32).toNatClampNeg) 34 22 0) 34 23 2) 19 1 3) 52 3 0) 53 3 1) 54 3 0) 52 3 (-1)) 24 34 (0 : Int32).toNatClampNeg (24 : Int32).toNatClampNeg (6 : Int32).toNatClampNeg) 34 30 0) 34 31 3) 19 1 4) 52 4 0) 53 4 1) 54 4 0) 34 24 (24 : Int32).toNatClampNeg (0 : Int32).toNatClampNeg (6 : Int32).toNatClampNeg) 19 9 0) 19 1 3) (fun r h => r = none ∧ h = (SH0, RF0, (gup (gup (gup (gup (gup (gcp (gup (gup (gup (gup (gup (gup (gcp (gup (gup (gup (gup (gup (gup (gup (gcp (gup (gup (gup (gup (gup (gup (gup (gcp (gup (gup (gup (gup (gup (gup (gup (gcp (gup (gup (gup (gup I0 52 0 0) 53 0 1) 54 0 0) 52 0 (-1)) 24 34 (0 : Int32).toNatClampNeg (0 : Int32).toNatClampNeg (6 : Int32).toNatClampNeg) 34 6 0) 34 7 0) 19 1 1) 52 1 0) 53 1 1) 54 1 0) 52 1 (-1)) 24 34 (0 : Int32).toNatClampNeg (8 : Int32).toNatClampNeg (6 : Int32).toNatClampNeg) 34 14 0) 34 15 1) 19 1 2) 52 2 0) 53 2 1) 54 2 0) 52 2 (-1)) 24 34 (0 : Int32).toNatClampNeg (16 : Int32).toNatClampNeg (6 : Int32).toNatClampNeg) 34 22 0) 34 23 2) 19 1 3) 52 3 0) 53 3 1) 54 3 0) 52 3 (-1)) 24 34 (0 : Int32).toNatClampNeg (24 : Int32).toNatClampNeg (6 : Int32).toNatClampNeg) 34 30 0) 34 31 3) 19 1 4) 52 4 0) 53 4 1) 54 4 0) 34 24 (24 : Int32).toNatClampNeg (0 : Int32).toNatClampNeg (6 : Int32).toNatClampNeg) 19 9 0) 19 1 3) 52 3 0) 53 3 1) 54 3 0))) := by
  refine G_iload_n (pc := 0) rfl dX4_weigh_0 ?_
  refine G_aload_n (pc := 1) rfl dX4_weigh_1 ?_
  refine G_getR (pc := 2) (r := 52) (ci := 4) (j := 1) rfl lk_RX4_9 rfl rfl rfl dX4_weigh_2 ?_
  refine G_iload_n (pc := 5) rfl dX4_weigh_5 ?_
  refine G_iald (pc := 6) (jj := 3) (v := (-1)) (by decide) rfl rfl (by unfold vp_in; decide) dX4_weigh_6 ?_
  refine G_icmp_le (pc := 7) (tgt := 35) (by decide) dX4_weigh_7 (fun z => absurd z (by decide)) (fun _ => ?_)
  refine G_aload_n (pc := 10) rfl dX4_weigh_10 ?_
  refine G_getR (pc := 11) (r := 52) (ci := 4) (j := 1) rfl lk_RX4_9 rfl rfl rfl dX4_weigh_11 ?_
  refine G_iload_n (pc := 14) rfl dX4_weigh_14 ?_
  refine G_iload_n (pc := 15) rfl dX4_weigh_15 ?_
  refine G_iast (pc := 16) (jj := 3) (by decide) rfl (by unfold vp_in; decide) dX4_weigh_16 ?_
  refine G_aload_n (pc := 17) rfl dX4_weigh_17 ?_
  refine G_getR (pc := 18) (r := 53) (ci := 4) (j := 2) rfl lk_RX4_15 rfl rfl rfl dX4_weigh_18 ?_
  refine G_iload_n (pc := 21) rfl dX4_weigh_21 ?_
  refine G_iload_n (pc := 22) rfl dX4_weigh_22 ?_
  refine G_iast (pc := 23) (jj := 3) (by decide) rfl (by unfold vp_in; decide) dX4_weigh_23 ?_
  refine G_aload_n (pc := 24) rfl dX4_weigh_24 ?_
  refine G_getR (pc := 25) (r := 54) (ci := 4) (j := 3) rfl lk_RX4_18 rfl rfl rfl dX4_weigh_25 ?_
  refine G_iload_n (pc := 28) rfl dX4_weigh_28 ?_
  refine G_iload (pc := 29) rfl dX4_weigh_29 ?_
  refine G_iast (pc := 31) (jj := 3) (by decide) rfl (by unfold vp_in; decide) dX4_weigh_31 ?_
  refine G_goto (pc := 32) (tgt := 55) (by decide) dX4_weigh_32 ?_
  exact G_vret (pc := 55) (Nat.le_of_ble_eq_true rfl) (Nat.le_of_ble_eq_true rfl) rfl dX4_weigh_55 ⟨rfl, rfl⟩
set_option maxRecDepth 100000 in
set_option maxHeartbeats 4000000 in
theorem s113_X4_seek  (d : Nat)   : G (d + 2) mX4_seek 0 0 0 0 0 (gent 8 [.ref 51, .int 3, .int 1]) [] SH0 RF0 (gup (gup (gup (gcp (gup (gup (gup (gup (gup (gup (gup (gcp (gup (gup (gup (gup (gup (gup (gup (gcp (gup (gup (gup (gup I0 52 0 0) 53 0 1) 54 0 0) 52 0 (-1)) 24 34 (0 : Int32).toNatClampNeg (0 : Int32).toNatClampNeg (6 : Int32).toNatClampNeg) 34 6 0) 34 7 0) 19 1 1) 52 1 0) 53 1 1) 54 1 0) 52 1 (-1)) 24 34 (0 : Int32).toNatClampNeg (8 : Int32).toNatClampNeg (6 : Int32).toNatClampNeg) 34 14 0) 34 15 1) 19 1 2) 52 2 0) 53 2 1) 54 2 0) 52 2 (-1)) 24 34 (0 : Int32).toNatClampNeg (16 : Int32).toNatClampNeg (6 : Int32).toNatClampNeg) 34 22 0) 34 23 2) 19 1 3) (fun r h => r = none ∧ h = (SH0, RF0, (gup (gup (gup (gup (gup (gcp (gup (gup (gup (gup (gup (gup (gcp (gup (gup (gup (gup (gup (gup (gup (gcp (gup (gup (gup (gup (gup (gup (gup (gcp (gup (gup (gup (gup (gup (gup (gup (gcp (gup (gup (gup (gup I0 52 0 0) 53 0 1) 54 0 0) 52 0 (-1)) 24 34 (0 : Int32).toNatClampNeg (0 : Int32).toNatClampNeg (6 : Int32).toNatClampNeg) 34 6 0) 34 7 0) 19 1 1) 52 1 0) 53 1 1) 54 1 0) 52 1 (-1)) 24 34 (0 : Int32).toNatClampNeg (8 : Int32).toNatClampNeg (6 : Int32).toNatClampNeg) 34 14 0) 34 15 1) 19 1 2) 52 2 0) 53 2 1) 54 2 0) 52 2 (-1)) 24 34 (0 : Int32).toNatClampNeg (16 : Int32).toNatClampNeg (6 : Int32).toNatClampNeg) 34 22 0) 34 23 2) 19 1 3) 52 3 0) 53 3 1) 54 3 0) 52 3 (-1)) 24 34 (0 : Int32).toNatClampNeg (24 : Int32).toNatClampNeg (6 : Int32).toNatClampNeg) 34 30 0) 34 31 3) 19 1 4) 52 4 0) 53 4 1) 54 4 0) 34 24 (24 : Int32).toNatClampNeg (0 : Int32).toNatClampNeg (6 : Int32).toNatClampNeg) 19 9 0) 19 1 3) 52 3 0) 53 3 1) 54 3 0))) := by
  refine G_aload_n (pc := 0) rfl dX4_seek_0 ?_
  refine G_getR (pc := 1) (r := 52) (ci := 4) (j := 1) rfl lk_RX4_9 rfl rfl rfl dX4_seek_1 ?_
  refine G_iload_n (pc := 4) rfl dX4_seek_4 ?_
  refine G_iconst (pc := 5) (v := 0) (by decide) dX4_seek_5 ?_
  refine G_iast (pc := 6) (jj := 3) (by decide) rfl (by unfold vp_in; decide) dX4_seek_6 ?_
  refine G_aload_n (pc := 7) rfl dX4_seek_7 ?_
  refine G_getR (pc := 8) (r := 53) (ci := 4) (j := 2) rfl lk_RX4_15 rfl rfl rfl dX4_seek_8 ?_
  refine G_iload_n (pc := 11) rfl dX4_seek_11 ?_
  refine G_iconst (pc := 12) (v := 1) (by decide) dX4_seek_12 ?_
  refine G_iast (pc := 13) (jj := 3) (by decide) rfl (by unfold vp_in; decide) dX4_seek_13 ?_
  refine G_aload_n (pc := 14) rfl dX4_seek_14 ?_
  refine G_getR (pc := 15) (r := 54) (ci := 4) (j := 3) rfl lk_RX4_18 rfl rfl rfl dX4_seek_15 ?_
  refine G_iload_n (pc := 18) rfl dX4_seek_18 ?_
  refine G_iconst (pc := 19) (v := 0) (by decide) dX4_seek_19 ?_
  refine G_iast (pc := 20) (jj := 3) (by decide) rfl (by unfold vp_in; decide) dX4_seek_20 ?_
  refine G_aload_n (pc := 21) rfl dX4_seek_21 ?_
  refine G_iload_n (pc := 22) rfl dX4_seek_22 ?_
  refine G_iload_n (pc := 23) rfl dX4_seek_23 ?_
  refine G_callV (pc := 24) (mc1 := 0) (ms1 := 0) (ci := 4) (mj := mX4_isLast) (vs := [_, _]) dX4_seek_24 rfl rfl cm_X4_isLast wf_126 wf_129 wf_130 rfl (Nat.le_of_ble_eq_true rfl) (Nat.le_of_ble_eq_true rfl) (Nat.le_of_ble_eq_true rfl) (Nat.le_of_ble_eq_true rfl) (s114_X4_isLast  d  ) ?_
  rintro _ _ ⟨rfl, rfl⟩
  dsimp only [Option.toList, List.cons_append, List.nil_append]
  refine G_if_eq (pc := 27) (tgt := 31) (by decide) dX4_seek_27 (fun _ => ?_) (fun z => absurd (by decide) z)
  refine G_aload_n (pc := 31) rfl dX4_seek_31 ?_
  refine G_getR (pc := 32) (r := 52) (ci := 4) (j := 1) rfl lk_RX4_9 rfl rfl rfl dX4_seek_32 ?_
  refine G_iload_n (pc := 35) rfl dX4_seek_35 ?_
  refine G_iconst (pc := 36) (v := (-1)) (by decide) dX4_seek_36 ?_
  refine G_iast (pc := 37) (jj := 3) (by decide) rfl (by unfold vp_in; decide) dX4_seek_37 ?_
  refine G_iconst (pc := 38) (v := 0) (by decide) dX4_seek_38 ?_
  refine G_istore_n (pc := 39) (L1 := [some (.ref 51), some (.int 3), some (.int 1), some (.int 0), none, none, none, none]) rfl rfl (by decide) dX4_seek_39 ?_
  refine G_iconst (pc := 40) (v := 0) (by decide) dX4_seek_40 ?_
  refine G_istore (pc := 41) (L1 := [some (.ref 51), some (.int 3), some (.int 1), some (.int 0), some (.int 0), none, none, none]) rfl rfl (by decide) dX4_seek_41 ?_
  refine G_aload_n (pc := 43) rfl dX4_seek_43 ?_
  refine G_getR (pc := 44) (r := 19) (ci := 4) (j := 0) rfl lk_RX4_21 rfl rfl rfl dX4_seek_44 ?_
  refine G_iload_n (pc := 47) rfl dX4_seek_47 ?_
  refine G_callV (pc := 48) (mc1 := 0) (ms1 := 0) (ci := 1) (mj := mX1_save) (vs := [_]) dX4_seek_48 rfl rfl cm_X1_save wf_134 wf_105 wf_106 rfl (Nat.le_of_ble_eq_true rfl) (Nat.le_of_ble_eq_true rfl) (Nat.le_of_ble_eq_true rfl) (Nat.le_of_ble_eq_true rfl) (s116_X1_save  d  ) ?_
  rintro _ _ ⟨rfl, rfl⟩
  dsimp only [Option.toList, List.cons_append, List.nil_append]
  refine G_iconst (pc := 51) (v := 0) (by decide) dX4_seek_51 ?_
  refine G_istore (pc := 52) (L1 := [some (.ref 51), some (.int 3), some (.int 1), some (.int 0), some (.int 0), some (.int 0), none, none]) rfl rfl (by decide) dX4_seek_52 ?_
  refine G_iload (pc := 54) rfl dX4_seek_54 ?_
  refine G_aload_n (pc := 56) rfl dX4_seek_56 ?_
  refine G_getR (pc := 57) (r := 19) (ci := 4) (j := 0) rfl lk_RX4_21 rfl rfl rfl dX4_seek_57 ?_
  refine G_getI (pc := 60) (v := 0) (ci := 1) (j := 8) rfl rfl lk_RX4_39 rfl rfl dX4_seek_60 ?_
  refine G_icmp_gt (pc := 63) (tgt := 208) (by decide) dX4_seek_63 (fun z => absurd z (by decide)) (fun _ => ?_)
  refine G_aload_n (pc := 66) rfl dX4_seek_66 ?_
  refine G_getR (pc := 67) (r := 19) (ci := 4) (j := 0) rfl lk_RX4_21 rfl rfl rfl dX4_seek_67 ?_
  refine G_iload (pc := 70) rfl dX4_seek_70 ?_
  refine G_callV (pc := 72) (mc1 := 0) (ms1 := 0) (ci := 1) (mj := mX1_tell) (vs := [_]) dX4_seek_72 rfl rfl cm_X1_tell wf_135 wf_71 wf_72 rfl (Nat.le_of_ble_eq_true rfl) (Nat.le_of_ble_eq_true rfl) (Nat.le_of_ble_eq_true rfl) (Nat.le_of_ble_eq_true rfl) (s117_X1_tell  d  ) ?_
  rintro _ _ ⟨rfl, rfl⟩
  dsimp only [Option.toList, List.cons_append, List.nil_append]
  refine G_istore (pc := 75) (L1 := [some (.ref 51), some (.int 3), some (.int 1), some (.int 0), some (.int 0), some (.int 0), some (.int 0), none]) rfl rfl (by decide) dX4_seek_75 ?_
  refine G_iload (pc := 77) rfl dX4_seek_77 ?_
  refine G_if_eq (pc := 79) (tgt := 87) (by decide) dX4_seek_79 (fun _ => ?_) (fun z => absurd (by decide) z)
  refine G_iload (pc := 87) rfl dX4_seek_87 ?_
  refine G_aload_n (pc := 89) rfl dX4_seek_89 ?_
  refine G_getR (pc := 90) (r := 19) (ci := 4) (j := 0) rfl lk_RX4_21 rfl rfl rfl dX4_seek_90 ?_
  refine G_callV (pc := 93) (mc1 := 0) (ms1 := 0) (ci := 1) (mj := mX1_melt) (vs := []) dX4_seek_93 rfl rfl cm_X1_melt wf_136 wf_75 wf_76 rfl (Nat.le_of_ble_eq_true rfl) (Nat.le_of_ble_eq_true rfl) (Nat.le_of_ble_eq_true rfl) (Nat.le_of_ble_eq_true rfl) (s119_X1_melt  (d + 1)  ) ?_
  rintro _ _ ⟨rfl, rfl⟩
  dsimp only [Option.toList, List.cons_append, List.nil_append]
  refine G_iadd (pc := 96) (z := 0) (by decide) dX4_seek_96 ?_
  refine G_istore (pc := 97) (L1 := [some (.ref 51), some (.int 3), some (.int 1), some (.int 0), some (.int 0), some (.int 0), some (.int 0), some (.int 0)]) rfl rfl (by decide) dX4_seek_97 ?_
  refine G_aload_n (pc := 99) rfl dX4_seek_99 ?_
  refine G_iload_n (pc := 100) rfl dX4_seek_100 ?_
  refine G_iconst (pc := 101) (v := 1) (by decide) dX4_seek_101 ?_
  refine G_iadd (pc := 102) (z := 4) (by decide) dX4_seek_102 ?_
  refine G_iload_n (pc := 103) rfl dX4_seek_103 ?_
  refine G_iconst (pc := 104) (v := 1) (by decide) dX4_seek_104 ?_
  refine G_isub (pc := 105) (z := 0) (by decide) dX4_seek_105 ?_
  refine G_callV (pc := 106) (mc1 := 0) (ms1 := 0) (ci := 4) (mj := mX4_seek) (vs := [_, _]) dX4_seek_106 rfl rfl cm_X4_seek wf_137 wf_132 wf_133 rfl (Nat.le_of_ble_eq_true rfl) (Nat.le_of_ble_eq_true rfl) (Nat.le_of_ble_eq_true rfl) (Nat.le_of_ble_eq_true rfl) (s120_X4_seek  d  ) ?_
  rintro _ _ ⟨rfl, rfl⟩
  dsimp only [Option.toList, List.cons_append, List.nil_append]
  refine G_aload_n (pc := 109) rfl dX4_seek_109 ?_
  refine G_getR (pc := 110) (r := 19) (ci := 4) (j := 0) rfl lk_RX4_21 rfl rfl rfl dX4_seek_110 ?_
  refine G_iload_n (pc := 113) rfl dX4_seek_113 ?_
  refine G_callV (pc := 114) (mc1 := 0) (ms1 := 0) (ci := 1) (mj := mX1_restore) (vs := [_]) dX4_seek_114 rfl rfl cm_X1_restore wf_138 wf_109 wf_110 rfl (Nat.le_of_ble_eq_true rfl) (Nat.le_of_ble_eq_true rfl) (Nat.le_of_ble_eq_true rfl) (Nat.le_of_ble_eq_true rfl) (s122_X1_restore  d  ) ?_
  rintro _ _ ⟨rfl, rfl⟩
  dsimp only [Option.toList, List.cons_append, List.nil_append]
  refine G_iload (pc := 117) rfl dX4_seek_117 ?_
  refine G_aload_n (pc := 119) rfl dX4_seek_119 ?_
  refine G_getR (pc := 120) (r := 52) (ci := 4) (j := 1) rfl lk_RX4_9 rfl rfl rfl dX4_seek_120 ?_
  refine G_iload_n (pc := 123) rfl dX4_seek_123 ?_
  refine G_iconst (pc := 124) (v := 1) (by decide) dX4_seek_124 ?_
  refine G_iadd (pc := 125) (z := 4) (by decide) dX4_seek_125 ?_
  refine G_iald (pc := 126) (jj := 4) (v := 0) (by decide) rfl rfl (by unfold vp_in; decide) dX4_seek_126 ?_
  refine G_iadd (pc := 127) (z := 0) (by decide) dX4_seek_127 ?_
  refine G_istore (pc := 128) (L1 := [some (.ref 51), some (.int 3), some (.int 1), some (.int 0), some (.int 0), some (.int 0), some (.int 0), some (.int 0)]) rfl rfl (by decide) dX4_seek_128 ?_
  refine G_aload_n (pc := 130) rfl dX4_seek_130 ?_
  refine G_iload_n (pc := 131) rfl dX4_seek_131 ?_
  refine G_iload (pc := 132) rfl dX4_seek_132 ?_
  refine G_aload_n (pc := 134) rfl dX4_seek_134 ?_
  refine G_getR (pc := 135) (r := 53) (ci := 4) (j := 2) rfl lk_RX4_15 rfl rfl rfl dX4_seek_135 ?_
  refine G_iload_n (pc := 138) rfl dX4_seek_138 ?_
  refine G_iconst (pc := 139) (v := 1) (by decide) dX4_seek_139 ?_
  refine G_iadd (pc := 140) (z := 4) (by decide) dX4_seek_140 ?_
  refine G_iald (pc := 141) (jj := 4) (v := 1) (by decide) rfl rfl (by unfold vp_in; decide) dX4_seek_141 ?_
  refine G_iload (pc := 142) rfl dX4_seek_142 ?_
  refine G_aload_n (pc := 144) rfl dX4_seek_144 ?_
  refine G_getR (pc := 145) (r := 54) (ci := 4) (j := 3) rfl lk_RX4_18 rfl rfl rfl dX4_seek_145 ?_
  refine G_iload_n (pc := 148) rfl dX4_seek_148 ?_
  refine G_iconst (pc := 149) (v := 1) (by decide) dX4_seek_149 ?_
  refine G_iadd (pc := 150) (z := 4) (by decide) dX4_seek_150 ?_
  refine G_iald (pc := 151) (jj := 4) (v := 0) (by decide) rfl rfl (by unfold vp_in; decide) dX4_seek_151 ?_
  refine G_iconst (pc := 152) (v := 3) (by decide) dX4_seek_152 ?_
  refine G_ishl (pc := 153) (z := 0) (by decide) dX4_seek_153 ?_
  refine G_ior (pc := 154) (z := 0) (by decide) dX4_seek_154 ?_
  refine G_callV (pc := 155) (mc1 := 0) (ms1 := 0) (ci := 4) (mj := mX4_weigh) (vs := [_, _, _, _]) dX4_seek_155 rfl rfl cm_X4_weigh wf_139 wf_141 wf_142 rfl (Nat.le_of_ble_eq_true rfl) (Nat.le_of_ble_eq_true rfl) (Nat.le_of_ble_eq_true rfl) (Nat.le_of_ble_eq_true rfl) (s123_X4_weigh  (d + 1)  ) ?_
  rintro _ _ ⟨rfl, rfl⟩
  dsimp only [Option.toList, List.cons_append, List.nil_append]
  refine G_iload (pc := 158) rfl dX4_seek_158 ?_
  refine G_if_ne (pc := 160) (tgt := 168) (by decide) dX4_seek_160 (fun z => absurd (by decide) z) (fun _ => ?_)
  refine G_iload (pc := 163) rfl dX4_seek_163 ?_
  refine G_goto (pc := 165) (tgt := 169) (by decide) dX4_seek_165 ?_
  refine G_istore_n (pc := 169) (L1 := [some (.ref 51), some (.int 3), some (.int 1), some (.int 0), some (.int 0), some (.int 0), some (.int 0), some (.int 0)]) rfl rfl (by decide) dX4_seek_169 ?_
  refine G_iload (pc := 170) rfl dX4_seek_170 ?_
  refine G_if_ne (pc := 172) (tgt := 186) (by decide) dX4_seek_172 (fun z => absurd (by decide) z) (fun _ => ?_)
  refine G_aload_n (pc := 175) rfl dX4_seek_175 ?_
  refine G_getR (pc := 176) (r := 53) (ci := 4) (j := 2) rfl lk_RX4_15 rfl rfl rfl dX4_seek_176 ?_
  refine G_iload_n (pc := 179) rfl dX4_seek_179 ?_
  refine G_iconst (pc := 180) (v := 1) (by decide) dX4_seek_180 ?_
  refine G_iadd (pc := 181) (z := 4) (by decide) dX4_seek_181 ?_
  refine G_iald (pc := 182) (jj := 4) (v := 1) (by decide) rfl rfl (by unfold vp_in; decide) dX4_seek_182 ?_
  refine G_goto (pc := 183) (tgt := 188) (by decide) dX4_seek_183 ?_
  refine G_istore (pc := 188) (L1 := [some (.ref 51), some (.int 3), some (.int 1), some (.int 0), some (.int 1), some (.int 0), some (.int 0), some (.int 0)]) rfl rfl (by decide) dX4_seek_188 ?_
  refine G_goto (pc := 190) (tgt := 202) (by decide) dX4_seek_190 ?_
  refine G_iinc (pc := 202) (v := 1) (w := 1) (L1 := [some (.ref 51), some (.int 3), some (.int 1), some (.int 0), some (.int 1), some (.int 1), some (.int 0), some (.int 0)]) (by decide) rfl rfl (by decide) rfl (by decide) dX4_seek_202 ?_
  refine G_goto (pc := 205) (tgt := 54) (by decide) dX4_seek_205 ?_
  refine G_iload (pc := 54) rfl dX4_seek_54 ?_
  refine G_aload_n (pc := 56) rfl dX4_seek_56 ?_
  refine G_getR (pc := 57) (r := 19) (ci := 4) (j := 0) rfl lk_RX4_21 rfl rfl rfl dX4_seek_57 ?_
  refine G_getI (pc := 60) (v := 0) (ci := 1) (j := 8) rfl rfl lk_RX4_39 rfl rfl dX4_seek_60 ?_
  refine G_icmp_gt (pc := 63) (tgt := 208) (by decide) dX4_seek_63 (fun _ => ?_) (fun z => absurd (by decide) z)
  exact G_vret (pc := 208) (Nat.le_of_ble_eq_true rfl) (Nat.le_of_ble_eq_true rfl) rfl dX4_seek_208 ⟨rfl, rfl⟩
set_option maxRecDepth 100000 in
set_option maxHeartbeats 4000000 in
theorem s124_X1_restore  (d : Nat)   : G (d + 1) mX1_restore 0 0 0 0 0 (gent 3 [.ref 19, .int 2]) [] SH0 RF0 (gup (gup (gup (gup (gup (gcp (gup (gup (gup (gup (gup (gup (gcp (gup (gup (gup (gup (gup (gup (gup (gcp (gup (gup (gup (gup (gup (gup (gup (gcp (gup (gup (gup (gup (gup (gup (gup (gcp (gup (gup (gup (gup I0 52 0 0) 53 0 1) 54 0 0) 52 0 (-1)) 24 34 (0 : Int32).toNatClampNeg (0 : Int32).toNatClampNeg (6 : Int32).toNatClampNeg) 34 6 0) 34 7 0) 19 1 1) 52 1 0) 53 1 1) 54 1 0) 52 1 (-1)) 24 34 (0 : Int32).toNatClampNeg (8 : Int32).toNatClampNeg (6 : Int32).toNatClampNeg) 34 14 0) 34 15 1) 19 1 2) 52 2 0) 53 2 1) 54 2 0) 52 2 (-1)) 24 34 (0 : Int32).toNatClampNeg (16 : Int32).toNatClampNeg (6 : Int32).toNatClampNeg) 34 22 0) 34 23 2) 19 1 3) 52 3 0) 53 3 1) 54 3 0) 52 3 (-1)) 24 34 (0 : Int32).toNatClampNeg (24 : Int32).toNatClampNeg (6 : Int32).toNatClampNeg) 34 30 0) 34 31 3) 19 1 4) 52 4 0) 53 4 1) 54 4 0) 34 24 (24 : Int32).toNatClampNeg (0 : Int32).toNatClampNeg (6 : Int32).toNatClampNeg) 19 9 0) 19 1 3) 52 3 0) 53 3 1) 54 3 0) (fun r h => r = none ∧ h = (SH0, RF0, (gup (gup (gcp (gup (gup (gup (gup (gup (gcp (gup (gup (gup (gup (gup (gup (gcp (gup (gup (gup (gup (gup (gup (gup (gcp (gup (gup (gup (gup (gup (gup (gup (gcp (gup (gup (gup (gup (gup (gup (gup (gcp (gup (gup (gup (gup I0 52 0 0) 53 0 1) 54 0 0) 52 0 (-1)) 24 34 (0 : Int32).toNatClampNeg (0 : Int32).toNatClampNeg (6 : Int32).toNatClampNeg) 34 6 0) 34 7 0) 19 1 1) 52 1 0) 53 1 1) 54 1 0) 52 1 (-1)) 24 34 (0 : Int32).toNatClampNeg (8 : Int32).toNatClampNeg (6 : Int32).toNatClampNeg) 34 14 0) 34 15 1) 19 1 2) 52 2 0) 53 2 1) 54 2 0) 52 2 (-1)) 24 34 (0 : Int32).toNatClampNeg (16 : Int32).toNatClampNeg (6 : Int32).toNatClampNeg) 34 22 0) 34 23 2) 19 1 3) 52 3 0) 53 3 1) 54 3 0) 52 3 (-1)) 24 34 (0 : Int32).toNatClampNeg (24 : Int32).toNatClampNeg (6 : Int32).toNatClampNeg) 34 30 0) 34 31 3) 19 1 4) 52 4 0) 53 4 1) 54 4 0) 34 24 (24 : Int32).toNatClampNeg (0 : Int32).toNatClampNeg (6 : Int32).toNatClampNeg) 19 9 0) 19 1 3) 52 3 0) 53 3 1) 54 3 0) 34 24 (16 : Int32).toNatClampNeg (0 : Int32).toNatClampNeg (6 : Int32).toNatClampNeg) 19 9 0) 19 1 2))) := by
  refine G_iload_n (pc := 0) rfl dX1_restore_0 ?_
  refine G_bipush (pc := 1) (v := 8) (by decide) dX1_restore_1 ?_
  refine G_imul (pc := 3) (z := 16) (by decide) dX1_restore_3 ?_
  refine G_istore_n (pc := 4) (L1 := [some (.ref 19), some (.int 2), some (.int 16)]) rfl rfl (by decide) dX1_restore_4 ?_
  refine G_aload_n (pc := 5) rfl dX1_restore_5 ?_
  refine G_getR (pc := 6) (r := 34) (ci := 1) (j := 18) rfl lk_RX1_53 rfl rfl rfl dX1_restore_6 ?_
  refine G_iload_n (pc := 9) rfl dX1_restore_9 ?_
  refine G_aload_n (pc := 10) rfl dX1_restore_10 ?_
  refine G_getR (pc := 11) (r := 24) (ci := 1) (j := 11) rfl lk_RX1_31 rfl rfl rfl dX1_restore_11 ?_
  refine G_iconst (pc := 14) (v := 0) (by decide) dX1_restore_14 ?_
  refine G_bipush (pc := 15) (v := 6) (by decide) dX1_restore_15 ?_
  refine G_copy (pc := 17) (x := 34) (y := 24) rfl rfl (by decide) (by decide) (by decide) (by decide) (by decide) wf_50 wf_51 wf_52 wf_53 (Nat.le_of_ble_eq_true rfl) dX1_restore_17 ?_
  refine G_aload_n (pc := 20) rfl dX1_restore_20 ?_
  refine G_aload_n (pc := 21) rfl dX1_restore_21 ?_
  refine G_getR (pc := 22) (r := 34) (ci := 1) (j := 18) rfl lk_RX1_53 rfl rfl rfl dX1_restore_22 ?_
  refine G_iload_n (pc := 25) rfl dX1_restore_25 ?_
  refine G_bipush (pc := 26) (v := 6) (by decide) dX1_restore_26 ?_
  refine G_iadd (pc := 28) (z := 22) (by decide) dX1_restore_28 ?_
  refine G_iald (pc := 29) (jj := 22) (v := 0) (by decide) rfl rfl (by unfold vp_in; decide) dX1_restore_29 ?_
  refine G_putI (pc := 30) (ci := 1) (j := 9) rfl lk_RX1_75 rfl rfl rfl trivial dX1_restore_30 ?_
  refine G_aload_n (pc := 33) rfl dX1_restore_33 ?_
  refine G_aload_n (pc := 34) rfl dX1_restore_34 ?_
  refine G_getR (pc := 35) (r := 34) (ci := 1) (j := 18) rfl lk_RX1_53 rfl rfl rfl dX1_restore_35 ?_
  refine G_iload_n (pc := 38) rfl dX1_restore_38 ?_
  refine G_bipush (pc := 39) (v := 6) (by decide) dX1_restore_39 ?_
  refine G_iadd (pc := 41) (z := 22) (by decide) dX1_restore_41 ?_
  refine G_iconst (pc := 42) (v := 1) (by decide) dX1_restore_42 ?_
  refine G_iadd (pc := 43) (z := 23) (by decide) dX1_restore_43 ?_
  refine G_iald (pc := 44) (jj := 23) (v := 2) (by decide) rfl rfl (by unfold vp_in; decide) dX1_restore_44 ?_
  refine G_putI (pc := 45) (ci := 1) (j := 1) rfl lk_RX1_60 rfl rfl rfl trivial dX1_restore_45 ?_
  exact G_vret (pc := 48) (Nat.le_of_ble_eq_true rfl) (Nat.le_of_ble_eq_true rfl) rfl dX1_restore_48 ⟨rfl, rfl⟩
set_option maxRecDepth 100000 in
set_option maxHeartbeats 4000000 in
theorem s125_X4_weigh  (d : Nat)   : G (d) mX4_weigh 0 0 0 0 0 (gent 5 [.ref 51, .int 2, .int 0, .int 1, .int 0]) [] SH0 RF0 (gup (gup (gcp (gup (gup (gup (gup (gup (gcp (gup (gup (gup (gup (gup (gup (gcp (gup (gup (gup (gup (gup (gup (gup (gcp (gup (gup (gup (gup (gup (gup (gup (gcp (gup (gup (gup (gup (gup (gup (gup (gcp (gup (gup (gup (gup I0 52 0 0) 53 0 1) 54 0 0) 52 0 (-1)) 24 34 (0 : Int32).toNatClampNeg (0 : Int32).toNatClampNeg (6 : Int32).toNatClampNeg) 34 6 0) 34 7 0) 19 1 1) 52 1 0) 53 1 1) 54 1 0) 52 1 (-1)) 24 34 (0 : Int32).toNatClampNeg (8 : Int32).toNatClampNeg (6 : Int32).toNatClampNeg) 34 14 0) 34 15 1) 19 1 2) 52 2 0) 53 2 1) 54 2 0) 52 2 (-1)) 24 34 (0 : Int32).toNatClampNeg (16 : Int32).toNatClampNeg (6 : Int32).toNatClampNeg) 34 22 0) 34 23 2) 19 1 3) 52 3 0) 53 3 1) 54 3 0) 52 3 (-1)) 24 34 (0 : Int32).toNatClampNeg (24 : Int32).toNatClampNeg (6 : Int32).toNatClampNeg) 34 30 0) 34 31 3) 19 1 4) 52 4 0) 53 4 1) 54 4 0) 34 24 (24 : Int32).toNatClampNeg (0 : Int32).toNatClampNeg (6 : Int32).toNatClampNeg) 19 9 0) 19 1 3) 52 3 0) 53 3 1) 54 3 0) 34 24 (16 : Int32).toNatClampNeg (0 : Int32).toNatClampNeg (6 : Int32).toNatClampNeg) 19 9 0) 19 1 2) (fun r h => r = none ∧ h = (SH0, RF0, (gup (gup (gup (gup (gup (gcp (gup (gup (gup (gup (gup (gcp (gup (gup (gup (gup (gup (gup (gcp (gup (gup (gup (gup (gup (gup (gup (gcp (gup (gup (gup (gup (gup (gup (gup (gcp (gup (gup (gup (gup (gup (gup (gup (gcp (gup (gup (gup (gup I0 52 0 0) 53 0 1) 54 0 0) 52 0 (-1)) 24 34 (0 : Int32).toNatClampNeg (0 : Int32).toNatClampNeg (6 : Int32).toNatClampNeg) 34 6 0) 34 7 0) 19 1 1) 52 1 0) 53 1 1) 54 1 0) 52 1 (-1)) 24 34 (0 : Int32).toNatClampNeg (8 : Int32).toNatClampNeg (6 : Int32).toNatClampNeg) 34 14 0) 34 15 1) 19 1 2) 52 2 0) 53 2 1) 54 2 0) 52 2 (-1)) 24 34 (0 : Int32).toNatClampNeg (16 : Int32).toNatClampNeg (6 : Int32).toNatClampNeg) 34 22 0) 34 23 2) 19 1 3) 52 3 0) 53 3 1) 54 3 0) 52 3 (-1)) 24 34 (0 : Int32).toNatClampNeg (24 : Int32).toNatClampNeg (6 : Int32).toNatClampNeg) 34 30 0) 34 31 3) 19 1 4) 52 4 0) 53 4 1) 54 4 0) 34 24 (24 : Int32).toNatClampNeg (0 : Int32).toNatClampNeg (6 : Int32).toNatClampNeg) 19 9 0) 19 1 3) 52 3 0) 53 3 1) 54 3 0) 34 24 (16 : Int32).toNatClampNeg (0 : Int32).toNatClampNeg (6 : Int32).toNatClampNeg) 19 9 0) 19 1 2) 52 2 0) 53 2 1) 54 2 0))) := by
  refine G_iload_n (pc := 0) rfl dX4_weigh_0 ?_
  refine G_aload_n (pc := 1) rfl dX4_weigh_1 ?_
  refine G_getR (pc := 2) (r := 52) (ci := 4) (j := 1) rfl lk_RX4_9 rfl rfl rfl dX4_weigh_2 ?_
  refine G_iload_n (pc := 5) rfl dX4_weigh_5 ?_
  refine G_iald (pc := 6) (jj := 2) (v := (-1)) (by decide) rfl rfl (by unfold vp_in; decide) dX4_weigh_6 ?_
  refine G_icmp_le (pc := 7) (tgt := 35) (by decide) dX4_weigh_7 (fun z => absurd z (by decide)) (fun _ => ?_)
  refine G_aload_n (pc := 10) rfl dX4_weigh_10 ?_
  refine G_getR (pc := 11) (r := 52) (ci := 4) (j := 1) rfl lk_RX4_9 rfl rfl rfl dX4_weigh_11 ?_
  refine G_iload_n (pc := 14) rfl dX4_weigh_14 ?_
  refine G_iload_n (pc := 15) rfl dX4_weigh_15 ?_
  refine G_iast (pc := 16) (jj := 2) (by decide) rfl (by unfold vp_in; decide) dX4_weigh_16 ?_
  refine G_aload_n (pc := 17) rfl dX4_weigh_17 ?_
  refine G_getR (pc := 18) (r := 53) (ci := 4) (j := 2) rfl lk_RX4_15 rfl rfl rfl dX4_weigh_18 ?_
  refine G_iload_n (pc := 21) rfl dX4_weigh_21 ?_
  refine G_iload_n (pc := 22) rfl dX4_weigh_22 ?_
  refine G_iast (pc := 23) (jj := 2) (by decide) rfl (by unfold vp_in; decide) dX4_weigh_23 ?_
  refine G_aload_n (pc := 24) rfl dX4_weigh_24 ?_
  refine G_getR (pc := 25) (r := 54) (ci := 4) (j := 3) rfl lk_RX4_18 rfl rfl rfl dX4_weigh_25 ?_
  refine G_iload_n (pc := 28) rfl dX4_weigh_28 ?_
  refine G_iload (pc := 29) rfl dX4_weigh_29 ?_
  refine G_iast (pc := 31) (jj := 2) (by decide) rfl (by unfold vp_in; decide) dX4_weigh_31 ?_
  refine G_goto (pc := 32) (tgt := 55) (by decide) dX4_weigh_32 ?_
  exact G_vret (pc := 55) (Nat.le_of_ble_eq_true rfl) (Nat.le_of_ble_eq_true rfl) rfl dX4_weigh_55 ⟨rfl, rfl⟩
set_option maxRecDepth 100000 in
set_option maxHeartbeats 4000000 in
theorem s111_X4_seek  (d : Nat)   : G (d + 3) mX4_seek 0 0 0 0 0 (gent 8 [.ref 51, .int 2, .int 2]) [] SH0 RF0 (gup (gup (gup (gcp (gup (gup (gup (gup (gup (gup (gup (gcp (gup (gup (gup (gup I0 52 0 0) 53 0 1) 54 0 0) 52 0 (-1)) 24 34 (0 : Int32).toNatClampNeg (0 : Int32).toNatClampNeg (6 : Int32).toNatClampNeg) 34 6 0) 34 7 0) 19 1 1) 52 1 0) 53 1 1) 54 1 0) 52 1 (-1)) 24 34 (0 : Int32).toNatClampNeg (8 : Int32).toNatClampNeg (6 : Int32).toNatClampNeg) 34 14 0) 34 15 1) 19 1 2) (fun r h => r = none ∧ h = (SH0, RF0, (gup (gup (gup (gup (gup (gcp (gup (gup (gup (gup (gup (gcp (gup (gup (gup (gup (gup (gup (gcp (gup (gup (gup (gup (gup (gup (gup (gcp (gup (gup (gup (gup (gup (gup (gup (gcp (gup (gup (gup (gup (gup (gup (gup (gcp (gup (gup (gup (gup I0 52 0 0) 53 0 1) 54 0 0) 52 0 (-1)) 24 34 (0 : Int32).toNatClampNeg (0 : Int32).toNatClampNeg (6 : Int32).toNatClampNeg) 34 6 0) 34 7 0) 19 1 1) 52 1 0) 53 1 1) 54 1 0) 52 1 (-1)) 24 34 (0 : Int32).toNatClampNeg (8 : Int32).toNatClampNeg (6 : Int32).toNatClampNeg) 34 14 0) 34 15 1) 19 1 2) 52 2 0) 53 2 1) 54 2 0) 52 2 (-1)) 24 34 (0 : Int32).toNatClampNeg (16 : Int32).toNatClampNeg (6 : Int32).toNatClampNeg) 34 22 0) 34 23 2) 19 1 3) 52 3 0) 53 3 1) 54 3 0) 52 3 (-1)) 24 34 (0 : Int32).toNatClampNeg (24 : Int32).toNatClampNeg (6 : Int32).toNatClampNeg) 34 30 0) 34 31 3) 19 1 4) 52 4 0) 53 4 1) 54 4 0) 34 24 (24 : Int32).toNatClampNeg (0 : Int32).toNatClampNeg (6 : Int32).toNatClampNeg) 19 9 0) 19 1 3) 52 3 0) 53 3 1) 54 3 0) 34 24 (16 : Int32).toNatClampNeg (0 : Int32).toNatClampNeg (6 : Int32).toNatClampNeg) 19 9 0) 19 1 2) 52 2 0) 53 2 1) 54 2 0))) := by
  refine G_aload_n (pc := 0) rfl dX4_seek_0 ?_
  refine G_getR (pc := 1) (r := 52) (ci := 4) (j := 1) rfl lk_RX4_9 rfl rfl rfl dX4_seek_1 ?_
  refine G_iload_n (pc := 4) rfl dX4_seek_4 ?_
  refine G_iconst (pc := 5) (v := 0) (by decide) dX4_seek_5 ?_
  refine G_iast (pc := 6) (jj := 2) (by decide) rfl (by unfold vp_in; decide) dX4_seek_6 ?_
  refine G_aload_n (pc := 7) rfl dX4_seek_7 ?_
  refine G_getR (pc := 8) (r := 53) (ci := 4) (j := 2) rfl lk_RX4_15 rfl rfl rfl dX4_seek_8 ?_
  refine G_iload_n (pc := 11) rfl dX4_seek_11 ?_
  refine G_iconst (pc := 12) (v := 1) (by decide) dX4_seek_12 ?_
  refine G_iast (pc := 13) (jj := 2) (by decide) rfl (by unfold vp_in; decide) dX4_seek_13 ?_
  refine G_aload_n (pc := 14) rfl dX4_seek_14 ?_
  refine G_getR (pc := 15) (r := 54) (ci := 4) (j := 3) rfl lk_RX4_18 rfl rfl rfl dX4_seek_15 ?_
  refine G_iload_n (pc := 18) rfl dX4_seek_18 ?_
  refine G_iconst (pc := 19) (v := 0) (by decide) dX4_seek_19 ?_
  refine G_iast (pc := 20) (jj := 2) (by decide) rfl (by unfold vp_in; decide) dX4_seek_20 ?_
  refine G_aload_n (pc := 21) rfl dX4_seek_21 ?_
  refine G_iload_n (pc := 22) rfl dX4_seek_22 ?_
  refine G_iload_n (pc := 23) rfl dX4_seek_23 ?_
  refine G_callV (pc := 24) (mc1 := 0) (ms1 := 0) (ci := 4) (mj := mX4_isLast) (vs := [_, _]) dX4_seek_24 rfl rfl cm_X4_isLast wf_126 wf_129 wf_130 rfl (Nat.le_of_ble_eq_true rfl) (Nat.le_of_ble_eq_true rfl) (Nat.le_of_ble_eq_true rfl) (Nat.le_of_ble_eq_true rfl) (s112_X4_isLast  (d + 1)  ) ?_
  rintro _ _ ⟨rfl, rfl⟩
  dsimp only [Option.toList, List.cons_append, List.nil_append]
  refine G_if_eq (pc := 27) (tgt := 31) (by decide) dX4_seek_27 (fun _ => ?_) (fun z => absurd (by decide) z)
  refine G_aload_n (pc := 31) rfl dX4_seek_31 ?_
  refine G_getR (pc := 32) (r := 52) (ci := 4) (j := 1) rfl lk_RX4_9 rfl rfl rfl dX4_seek_32 ?_
  refine G_iload_n (pc := 35) rfl dX4_seek_35 ?_
  refine G_iconst (pc := 36) (v := (-1)) (by decide) dX4_seek_36 ?_
  refine G_iast (pc := 37) (jj := 2) (by decide) rfl (by unfold vp_in; decide) dX4_seek_37 ?_
  refine G_iconst (pc := 38) (v := 0) (by decide) dX4_seek_38 ?_
  refine G_istore_n (pc := 39) (L1 := [some (.ref 51), some (.int 2), some (.int 2), some (.int 0), none, none, none, none]) rfl rfl (by decide) dX4_seek_39 ?_
  refine G_iconst (pc := 40) (v := 0) (by decide) dX4_seek_40 ?_
  refine G_istore (pc := 41) (L1 := [some (.ref 51), some (.int 2), some (.int 2), some (.int 0), some (.int 0), none, none, none]) rfl rfl (by decide) dX4_seek_41 ?_
  refine G_aload_n (pc := 43) rfl dX4_seek_43 ?_
  refine G_getR (pc := 44) (r := 19) (ci := 4) (j := 0) rfl lk_RX4_21 rfl rfl rfl dX4_seek_44 ?_
  refine G_iload_n (pc := 47) rfl dX4_seek_47 ?_
  refine G_callV (pc := 48) (mc1 := 0) (ms1 := 0) (ci := 1) (mj := mX1_save) (vs := [_]) dX4_seek_48 rfl rfl cm_X1_save wf_134 wf_105 wf_106 rfl (Nat.le_of_ble_eq_true rfl) (Nat.le_of_ble_eq_true rfl) (Nat.le_of_ble_eq_true rfl) (Nat.le_of_ble_eq_true rfl) (s95_X1_save  (d + 1)  ) ?_
  rintro _ _ ⟨rfl, rfl⟩
  dsimp only [Option.toList, List.cons_append, List.nil_append]
  refine G_iconst (pc := 51) (v := 0) (by decide) dX4_seek_51 ?_
  refine G_istore (pc := 52) (L1 := [some (.ref 51), some (.int 2), some (.int 2), some (.int 0), some (.int 0), some (.int 0), none, none]) rfl rfl (by decide) dX4_seek_52 ?_
  refine G_iload (pc := 54) rfl dX4_seek_54 ?_
  refine G_aload_n (pc := 56) rfl dX4_seek_56 ?_
  refine G_getR (pc := 57) (r := 19) (ci := 4) (j := 0) rfl lk_RX4_21 rfl rfl rfl dX4_seek_57 ?_
  refine G_getI (pc := 60) (v := 0) (ci := 1) (j := 8) rfl rfl lk_RX4_39 rfl rfl dX4_seek_60 ?_
  refine G_icmp_gt (pc := 63) (tgt := 208) (by decide) dX4_seek_63 (fun z => absurd z (by decide)) (fun _ => ?_)
  refine G_aload_n (pc := 66) rfl dX4_seek_66 ?_
  refine G_getR (pc := 67) (r := 19) (ci := 4) (j := 0) rfl lk_RX4_21 rfl rfl rfl dX4_seek_67 ?_
  refine G_iload (pc := 70) rfl dX4_seek_70 ?_
  refine G_callV (pc := 72) (mc1 := 0) (ms1 := 0) (ci := 1) (mj := mX1_tell) (vs := [_]) dX4_seek_72 rfl rfl cm_X1_tell wf_135 wf_71 wf_72 rfl (Nat.le_of_ble_eq_true rfl) (Nat.le_of_ble_eq_true rfl) (Nat.le_of_ble_eq_true rfl) (Nat.le_of_ble_eq_true rfl) (s96_X1_tell  (d + 1)  ) ?_
  rintro _ _ ⟨rfl, rfl⟩
  dsimp only [Option.toList, List.cons_append, List.nil_append]
  refine G_istore (pc := 75) (L1 := [some (.ref 51), some (.int 2), some (.int 2), some (.int 0), some (.int 0), some (.int 0), some (.int 0), none]) rfl rfl (by decide) dX4_seek_75 ?_
  refine G_iload (pc := 77) rfl dX4_seek_77 ?_
  refine G_if_eq (pc := 79) (tgt := 87) (by decide) dX4_seek_79 (fun _ => ?_) (fun z => absurd (by decide) z)
  refine G_iload (pc := 87) rfl dX4_seek_87 ?_
  refine G_aload_n (pc := 89) rfl dX4_seek_89 ?_
  refine G_getR (pc := 90) (r := 19) (ci := 4) (j := 0) rfl lk_RX4_21 rfl rfl rfl dX4_seek_90 ?_
  refine G_callV (pc := 93) (mc1 := 0) (ms1 := 0) (ci := 1) (mj := mX1_melt) (vs := []) dX4_seek_93 rfl rfl cm_X1_melt wf_136 wf_75 wf_76 rfl (Nat.le_of_ble_eq_true rfl) (Nat.le_of_ble_eq_true rfl) (Nat.le_of_ble_eq_true rfl) (Nat.le_of_ble_eq_true rfl) (s98_X1_melt  (d + 2)  ) ?_
  rintro _ _ ⟨rfl, rfl⟩
  dsimp only [Option.toList, List.cons_append, List.nil_append]
  refine G_iadd (pc := 96) (z := 0) (by decide) dX4_seek_96 ?_
  refine G_istore (pc := 97) (L1 := [some (.ref 51), some (.int 2), some (.int 2), some (.int 0), some (.int 0), some (.int 0), some (.int 0), some (.int 0)]) rfl rfl (by decide) dX4_seek_97 ?_
  refine G_aload_n (pc := 99) rfl dX4_seek_99 ?_
  refine G_iload_n (pc := 100) rfl dX4_seek_100 ?_
  refine G_iconst (pc := 101) (v := 1) (by decide) dX4_seek_101 ?_
  refine G_iadd (pc := 102) (z := 3) (by decide) dX4_seek_102 ?_
  refine G_iload_n (pc := 103) rfl dX4_seek_103 ?_
  refine G_iconst (pc := 104) (v := 1) (by decide) dX4_seek_104 ?_
  refine G_isub (pc := 105) (z := 1) (by decide) dX4_seek_105 ?_
  refine G_callV (pc := 106) (mc1 := 0) (ms1 := 0) (ci := 4) (mj := mX4_seek) (vs := [_, _]) dX4_seek_106 rfl rfl cm_X4_seek wf_137 wf_132 wf_133 rfl (Nat.le_of_ble_eq_true rfl) (Nat.le_of_ble_eq_true rfl) (Nat.le_of_ble_eq_true rfl) (Nat.le_of_ble_eq_true rfl) (s113_X4_seek  d  ) ?_
  rintro _ _ ⟨rfl, rfl⟩
  dsimp only [Option.toList, List.cons_append, List.nil_append]
  refine G_aload_n (pc := 109) rfl dX4_seek_109 ?_
  refine G_getR (pc := 110) (r := 19) (ci := 4) (j := 0) rfl lk_RX4_21 rfl rfl rfl dX4_seek_110 ?_
  refine G_iload_n (pc := 113) rfl dX4_seek_113 ?_
  refine G_callV (pc := 114) (mc1 := 0) (ms1 := 0) (ci := 1) (mj := mX1_restore) (vs := [_]) dX4_seek_114 rfl rfl cm_X1_restore wf_138 wf_109 wf_110 rfl (Nat.le_of_ble_eq_true rfl) (Nat.le_of_ble_eq_true rfl) (Nat.le_of_ble_eq_true rfl) (Nat.le_of_ble_eq_true rfl) (s124_X1_restore  (d + 1)  ) ?_
  rintro _ _ ⟨rfl, rfl⟩
  dsimp only [Option.toList, List.cons_append, List.nil_append]
  refine G_iload (pc := 117) rfl dX4_seek_117 ?_
  refine G_aload_n (pc := 119) rfl dX4_seek_119 ?_
  refine G_getR (pc := 120) (r := 52) (ci := 4) (j := 1) rfl lk_RX4_9 rfl rfl rfl dX4_seek_120 ?_
  refine G_iload_n (pc := 123) rfl dX4_seek_123 ?_
  refine G_iconst (pc := 124) (v := 1) (by decide) dX4_seek_124 ?_
  refine G_iadd (pc := 125) (z := 3) (by decide) dX4_seek_125 ?_
  refine G_iald (pc := 126) (jj := 3) (v := 0) (by decide) rfl rfl (by unfold vp_in; decide) dX4_seek_126 ?_
  refine G_iadd (pc := 127) (z := 0) (by decide) dX4_seek_127 ?_
  refine G_istore (pc := 128) (L1 := [some (.ref 51), some (.int 2), some (.int 2), some (.int 0), some (.int 0), some (.int 0), some (.int 0), some (.int 0)]) rfl rfl (by decide) dX4_seek_128 ?_
  refine G_aload_n (pc := 130) rfl dX4_seek_130 ?_
  refine G_iload_n (pc := 131) rfl dX4_seek_131 ?_
  refine G_iload (pc := 132) rfl dX4_seek_132 ?_
  refine G_aload_n (pc := 134) rfl dX4_seek_134 ?_
  refine G_getR (pc := 135) (r := 53) (ci := 4) (j := 2) rfl lk_RX4_15 rfl rfl rfl dX4_seek_135 ?_
  refine G_iload_n (pc := 138) rfl dX4_seek_138 ?_
  refine G_iconst (pc := 139) (v := 1) (by decide) dX4_seek_139 ?_
  refine G_iadd (pc := 140) (z := 3) (by decide) dX4_seek_140 ?_
  refine G_iald (pc := 141) (jj := 3) (v := 1) (by decide) rfl rfl (by unfold vp_in; decide) dX4_seek_141 ?_
  refine G_iload (pc := 142) rfl dX4_seek_142 ?_
  refine G_aload_n (pc := 144) rfl dX4_seek_144 ?_
  refine G_getR (pc := 145) (r := 54) (ci := 4) (j := 3) rfl lk_RX4_18 rfl rfl rfl dX4_seek_145 ?_
  refine G_iload_n (pc := 148) rfl dX4_seek_148 ?_
  refine G_iconst (pc := 149) (v := 1) (by decide) dX4_seek_149 ?_
  refine G_iadd (pc := 150) (z := 3) (by decide) dX4_seek_150 ?_
  refine G_iald (pc := 151) (jj := 3) (v := 0) (by decide) rfl rfl (by unfold vp_in; decide) dX4_seek_151 ?_
  refine G_iconst (pc := 152) (v := 3) (by decide) dX4_seek_152 ?_
  refine G_ishl (pc := 153) (z := 0) (by decide) dX4_seek_153 ?_
  refine G_ior (pc := 154) (z := 0) (by decide) dX4_seek_154 ?_
  refine G_callV (pc := 155) (mc1 := 0) (ms1 := 0) (ci := 4) (mj := mX4_weigh) (vs := [_, _, _, _]) dX4_seek_155 rfl rfl cm_X4_weigh wf_139 wf_141 wf_142 rfl (Nat.le_of_ble_eq_true rfl) (Nat.le_of_ble_eq_true rfl) (Nat.le_of_ble_eq_true rfl) (Nat.le_of_ble_eq_true rfl) (s125_X4_weigh  (d + 2)  ) ?_
  rintro _ _ ⟨rfl, rfl⟩
  dsimp only [Option.toList, List.cons_append, List.nil_append]
  refine G_iload (pc := 158) rfl dX4_seek_158 ?_
  refine G_if_ne (pc := 160) (tgt := 168) (by decide) dX4_seek_160 (fun z => absurd (by decide) z) (fun _ => ?_)
  refine G_iload (pc := 163) rfl dX4_seek_163 ?_
  refine G_goto (pc := 165) (tgt := 169) (by decide) dX4_seek_165 ?_
  refine G_istore_n (pc := 169) (L1 := [some (.ref 51), some (.int 2), some (.int 2), some (.int 0), some (.int 0), some (.int 0), some (.int 0), some (.int 0)]) rfl rfl (by decide) dX4_seek_169 ?_
  refine G_iload (pc := 170) rfl dX4_seek_170 ?_
  refine G_if_ne (pc := 172) (tgt := 186) (by decide) dX4_seek_172 (fun z => absurd (by decide) z) (fun _ => ?_)
  refine G_aload_n (pc := 175) rfl dX4_seek_175 ?_
  refine G_getR (pc := 176) (r := 53) (ci := 4) (j := 2) rfl lk_RX4_15 rfl rfl rfl dX4_seek_176 ?_
  refine G_iload_n (pc := 179) rfl dX4_seek_179 ?_
  refine G_iconst (pc := 180) (v := 1) (by decide) dX4_seek_180 ?_
  refine G_iadd (pc := 181) (z := 3) (by decide) dX4_seek_181 ?_
  refine G_iald (pc := 182) (jj := 3) (v := 1) (by decide) rfl rfl (by unfold vp_in; decide) dX4_seek_182 ?_
  refine G_goto (pc := 183) (tgt := 188) (by decide) dX4_seek_183 ?_
  refine G_istore (pc := 188) (L1 := [some (.ref 51), some (.int 2), some (.int 2), some (.int 0), some (.int 1), some (.int 0), some (.int 0), some (.int 0)]) rfl rfl (by decide) dX4_seek_188 ?_
  refine G_goto (pc := 190) (tgt := 202) (by decide) dX4_seek_190 ?_
  refine G_iinc (pc := 202) (v := 1) (w := 1) (L1 := [some (.ref 51), some (.int 2), some (.int 2), some (.int 0), some (.int 1), some (.int 1), some (.int 0), some (.int 0)]) (by decide) rfl rfl (by decide) rfl (by decide) dX4_seek_202 ?_
  refine G_goto (pc := 205) (tgt := 54) (by decide) dX4_seek_205 ?_
  refine G_iload (pc := 54) rfl dX4_seek_54 ?_
  refine G_aload_n (pc := 56) rfl dX4_seek_56 ?_
  refine G_getR (pc := 57) (r := 19) (ci := 4) (j := 0) rfl lk_RX4_21 rfl rfl rfl dX4_seek_57 ?_
  refine G_getI (pc := 60) (v := 0) (ci := 1) (j := 8) rfl rfl lk_RX4_39 rfl rfl dX4_seek_60 ?_
  refine G_icmp_gt (pc := 63) (tgt := 208) (by decide) dX4_seek_63 (fun _ => ?_) (fun z => absurd (by decide) z)
  exact G_vret (pc := 208) (Nat.le_of_ble_eq_true rfl) (Nat.le_of_ble_eq_true rfl) rfl dX4_seek_208 ⟨rfl, rfl⟩
set_option maxRecDepth 100000 in
set_option maxHeartbeats 4000000 in
theorem s126_X1_restore  (d : Nat)   : G (d + 1) mX1_restore 0 0 0 0 0 (gent 3 [.ref 19, .int 1]) [] SH0 RF0 (gup (gup (gup (gup (gup (gcp (gup (gup (gup (gup (gup (gcp (gup (gup (gup (gup (gup (gup (gcp (gup (gup (gup (gup (gup (gup (gup (gcp (gup (gup (gup (gup (gup (gup (gup (gcp (gup (gup (gup (gup (gup (gup (gup (gcp (gup (gup (gup (gup I0 52 0 0) 53 0 1) 54 0 0) 52 0 (-1)) 24 34 (0 : Int32).toNatClampNeg (0 : Int32).toNatClampNeg (6 : Int32).toNatClampNeg) 34 6 0) 34 7 0) 19 1 1) 52 1 0) 53 1 1) 54 1 0) 52 1 (-1)) 24 34 (0 : Int32).toNatClampNeg (8 : Int32).toNatClampNeg (6 : Int32).toNatClampNeg) 34 14 0) 34 15 1) 19 1 2) 52 2 0) 53 2 1) 54 2 0) 52 2 (-1)) 24 34 (0 : Int32).toNatClampNeg (16 : Int32).toNatClampNeg (6 : Int32).toNatClampNeg) 34 22 0) 34 23 2) 19 1 3) 52 3 0) 53 3 1) 54 3 0) 52 3 (-1)) 24 34 (0 : Int32).toNatClampNeg (24 : Int32).toNatClampNeg (6 : Int32).toNatClampNeg) 34 30 0) 34 31 3) 19 1 4) 52 4 0) 53 4 1) 54 4 0) 34 24 (24 : Int32).toNatClampNeg (0 : Int32).toNatClampNeg (6 : Int32).toNatClampNeg) 19 9 0) 19 1 3) 52 3 0) 53 3 1) 54 3 0) 34 24 (16 : Int32).toNatClampNeg (0 : Int32).toNatClampNeg (6 : Int32).toNatClampNeg) 19 9 0) 19 1 2) 52 2 0) 53 2 1) 54 2 0) (fun r h => r = none ∧ h = (SH0, RF0, (gup (gup (gcp (gup (gup (gup (gup (gup (gcp (gup (gup (gup (gup (gup (gcp (gup (gup (gup (gup (gup (gup (gcp (gup (gup (gup (gup (gup (gup (gup (gcp (gup (gup (gup (gup (gup (gup (gup (gcp (gup (gup (gup (gup (gup (gup (gup (gcp (gup (gup (gup (gup I0 52 0 0) 53 0 1) 54 0 0) 52 0 (-1)) 24 34 (0 : Int32).toNatClampNeg (0 : Int32).toNatClampNeg (6 : Int32).toNatClampNeg) 34 6 0) 34 7 0) 19 1 1) 52 1 0) 53 1 1) 54 1 0) 52 1 (-1)) 24 34 (0 : Int32).toNatClampNeg (8 : Int32).toNatClampNeg (6 : Int32).toNatClampNeg) 34 14 0) 34 15 1) 19 1 2) 52 2 0) 53 2 1) 54 2 0) 52 2 (-1)) 24 34 (0 : Int32).toNatClampNeg (16 : Int32).toNatClampNeg (6 : Int32).toNatClampNeg) 34 22 0) 34 23 2) 19 1 3) 52 3 0) 53 3 1) 54 3 0) 52 3 (-1)) 24 34 (0 : Int32).toNatClampNeg (24 : Int32).toNatClampNeg (6 : Int32).toNatClampNeg) 34 30 0) 34 31 3) 19 1 4) 52 4 0) 53 4 1) 54 4 0) 34 24 (24 : Int32).toNatClampNeg (0 : Int32).toNatClampNeg (6 : Int32).toNatClampNeg) 19 9 0) 19 1 3) 52 3 0) 53 3 1) 54 3 0) 34 24 (16 : Int32).toNatClampNeg (0 : Int32).toNatClampNeg (6 : Int32).toNatClampNeg) 19 9 0) 19 1 2) 52 2 0) 53 2 1) 54 2 0) 34 24 (8 : Int32).toNatClampNeg (0 : Int32).toNatClampNeg (6 : Int32).toNatClampNeg) 19 9 0) 19 1 1))) := by
  refine G_iload_n (pc := 0) rfl dX1_restore_0 ?_
  refine G_bipush (pc := 1) (v := 8) (by decide) dX1_restore_1 ?_
  refine G_imul (pc := 3) (z := 8) (by decide) dX1_restore_3 ?_
  refine G_istore_n (pc := 4) (L1 := [some (.ref 19), some (.int 1), some (.int 8)]) rfl rfl (by decide) dX1_restore_4 ?_
  refine G_aload_n (pc := 5) rfl dX1_restore_5 ?_
  refine G_getR (pc := 6) (r := 34) (ci := 1) (j := 18) rfl lk_RX1_53 rfl rfl rfl dX1_restore_6 ?_
  refine G_iload_n (pc := 9) rfl dX1_restore_9 ?_
  refine G_aload_n (pc := 10) rfl dX1_restore_10 ?_
  refine G_getR (pc := 11) (r := 24) (ci := 1) (j := 11) rfl lk_RX1_31 rfl rfl rfl dX1_restore_11 ?_
  refine G_iconst (pc := 14) (v := 0) (by decide) dX1_restore_14 ?_
  refine G_bipush (pc := 15) (v := 6) (by decide) dX1_restore_15 ?_
  refine G_copy (pc := 17) (x := 34) (y := 24) rfl rfl (by decide) (by decide) (by decide) (by decide) (by decide) wf_50 wf_51 wf_52 wf_53 (Nat.le_of_ble_eq_true rfl) dX1_restore_17 ?_
  refine G_aload_n (pc := 20) rfl dX1_restore_20 ?_
  refine G_aload_n (pc := 21) rfl dX1_restore_21 ?_
  refine G_getR (pc := 22) (r := 34) (ci := 1) (j := 18) rfl lk_RX1_53 rfl rfl rfl dX1_restore_22 ?_
  refine G_iload_n (pc := 25) rfl dX1_restore_25 ?_
  refine G_bipush (pc := 26) (v := 6) (by decide) dX1_restore_26 ?_
  refine G_iadd (pc := 28) (z := 14) (by decide) dX1_restore_28 ?_
  refine G_iald (pc := 29) (jj := 14) (v := 0) (by decide) rfl rfl (by unfold vp_in; decide) dX1_restore_29 ?_
  refine G_putI (pc := 30) (ci := 1) (j := 9) rfl lk_RX1_75 rfl rfl rfl trivial dX1_restore_30 ?_
  refine G_aload_n (pc := 33) rfl dX1_restore_33 ?_
  refine G_aload_n (pc := 34) rfl dX1_restore_34 ?_
  refine G_getR (pc := 35) (r := 34) (ci := 1) (j := 18) rfl lk_RX1_53 rfl rfl rfl dX1_restore_35 ?_
  refine G_iload_n (pc := 38) rfl dX1_restore_38 ?_
  refine G_bipush (pc := 39) (v := 6) (by decide) dX1_restore_39 ?_
  refine G_iadd (pc := 41) (z := 14) (by decide) dX1_restore_41 ?_
  refine G_iconst (pc := 42) (v := 1) (by decide) dX1_restore_42 ?_
  refine G_iadd (pc := 43) (z := 15) (by decide) dX1_restore_43 ?_
  refine G_iald (pc := 44) (jj := 15) (v := 1) (by decide) rfl rfl (by unfold vp_in; decide) dX1_restore_44 ?_
  refine G_putI (pc := 45) (ci := 1) (j := 1) rfl lk_RX1_60 rfl rfl rfl trivial dX1_restore_45 ?_
  exact G_vret (pc := 48) (Nat.le_of_ble_eq_true rfl) (Nat.le_of_ble_eq_true rfl) rfl dX1_restore_48 ⟨rfl, rfl⟩
set_option maxRecDepth 100000 in
set_option maxHeartbeats 4000000 in
theorem s127_X4_weigh  (d : Nat)   : G (d) mX4_weigh 0 0 0 0 0 (gent 5 [.ref 51, .int 1, .int 0, .int 1, .int 0]) [] SH0 RF0 (gup (gup (gcp (gup (gup (gup (gup (gup (gcp (gup (gup (gup (gup (gup (gcp (gup (gup (gup (gup (gup (gup (gcp (gup (gup (gup (gup (gup (gup (gup (gcp (gup (gup (gup (gup (gup (gup (gup (gcp (gup (gup (gup (gup (gup (gup (gup (gcp (gup (gup (gup (gup I0 52 0 0) 53 0 1) 54 0 0) 52 0 (-1)) 24 34 (0 : Int32).toNatClampNeg (0 : Int32).toNatClampNeg (6 : Int32).toNatClampNeg) 34 6 0) 34 7 0) 19 1 1) 52 1 0) 53 1 1) 54 1 0) 52 1 (-1)) 24 34 (0 : Int32).toNatClampNeg (8 : Int32).toNatClampNeg (6 : Int32).toNatClampNeg) 34 14 0) 34 15 1) 19 1 2) 52 2 0) 53 2 1) 54 2 0) 52 2 (-1)) 24 34 (0 : Int32).toNatClampNeg (16 : Int32).toNatClampNeg (6 : Int32).toNatClampNeg) 34 22 0) 34 23 2) 19 1 3) 52 3 0) 53 3 1) 54 3 0) 52 3 (-1)) 24 34 (0 : Int32).toNatClampNeg (24 : Int32).toNatClampNeg (6 : Int32).toNatClampNeg) 34 30 0) 34 31 3) 19 1 4) 52 4 0) 53 4 1) 54 4 0) 34 24 (24 : Int32).toNatClampNeg (0 : Int32).toNatClampNeg (6 : Int32).toNatClampNeg) 19 9 0) 19 1 3) 52 3 0) 53 3 1) 54 3 0) 34 24 (16 : Int32).toNatClampNeg (0 : Int32).toNatClampNeg (6 : Int32).toNatClampNeg) 19 9 0) 19 1 2) 52 2 0) 53 2 1) 54 2 0) 34 24 (8 : Int32).toNatClampNeg (0 : Int32).toNatClampNeg (6 : Int32).toNatClampNeg) 19 9 0) 19 1 1) (fun r h => r = none ∧ h = (SH0, RF0, (gup (gup (gup (gup (gup (gcp (gup (gup (gup (gup (gup (gcp (gup (gup (gup (gup (gup (gcp (gup (gup (gup (gup (gup (gup (gcp (gup (gup (gup (gup (gup (gup (gup (gcp (gup (gup (gup (gup (gup (gup (gup (gcp (gup (gup (gup (gup (gup (gup (gup (gcp (gup (gup (gup (gup I0 52 0 0) 53 0 1) 54 0 0) 52 0 (-1)) 24 34 (0 : Int32).toNatClampNeg (0 : Int32).toNatClampNeg (6 : Int32).toNatClampNeg) 34 6 0) 34 7 0) 19 1 1) 52 1 0) 53 1 1) 54 1 0) 52 1 (-1)) 24 34 (0 : Int32).toNatClampNeg (8 : Int32).toNatClampNeg (6 : Int32).toNatClampNeg) 34 14 0) 34 15 1) 19 1 2) 52 2 0) 53 2 1) 54 2 0) 52 2 (-1)) 24 34 (0 : Int32).toNatClampNeg (16 : Int32).toNatClampNeg (6 : Int32).toNatClampNeg) 34 22 0) 34 23 2) 19 1 3) 52 3 0) 53 3 1) 54 3 0) 52 3 (-1)) 24 34 (0 : Int32).toNatClampNeg (24 : Int32).toNatClampNeg (6 : Int32).toNatClampNeg) 34 30 0) 34 31 3) 19 1 4) 52 4 0) 53 4 1) 54 4 0) 34 24 (24 : Int32).toNatClampNeg (0 : Int32).toNatClampNeg (6 : Int32).toNatClampNeg) 19 9 0) 19 1 3) 52 3 0) 53 3 1) 54 3 0) 34 24 (16 : Int32).toNatClampNeg (0 : Int32).toNatClampNeg (6 : Int32).toNatClampNeg) 19 9 0) 19 1 2) 52 2 0) 53 2 1) 54 2 0) 34 24 (8 : Int32).toNatClampNeg (0 : Int32).toNatClampNeg (6 : Int32).toNatClampNeg) 19 9 0) 19 1 1) 52 1 0) 53 1 1) 54 1 0))) := by
  refine G_iload_n (pc := 0) rfl dX4_weigh_0 ?_
  refine G_aload_n (pc := 1) rfl dX4_weigh_1 ?_
  refine G_getR (pc := 2) (r := 52) (ci := 4) (j := 1) rfl lk_RX4_9 rfl rfl rfl dX4_weigh_2 ?_
  refine G_iload_n (pc := 5) rfl dX4_weigh_5 ?_
  refine G_iald (pc := 6) (jj := 1) (v := (-1)) (by decide) rfl rfl (by unfold vp_in; decide) dX4_weigh_6 ?_
  refine G_icmp_le (pc := 7) (tgt := 35) (by decide) dX4_weigh_7 (fun z => absurd z (by decide)) (fun _ => ?_)
  refine G_aload_n (pc := 10) rfl dX4_weigh_10 ?_
  refine G_getR (pc := 11) (r := 52) (ci := 4) (j := 1) rfl lk_RX4_9 rfl rfl rfl dX4_weigh_11 ?_
  refine G_iload_n (pc := 14) rfl dX4_weigh_14 ?_
  refine G_iload_n (pc := 15) rfl dX4_weigh_15 ?_
  refine G_iast (pc := 16) (jj := 1) (by decide) rfl (by unfold vp_in; decide) dX4_weigh_16 ?_
  refine G_aload_n (pc := 17) rfl dX4_weigh_17 ?_
  refine G_getR (pc := 18) (r := 53) (ci := 4) (j := 2) rfl lk_RX4_15 rfl rfl rfl dX4_weigh_18 ?_
  refine G_iload_n (pc := 21) rfl dX4_weigh_21 ?_
  refine G_iload_n (pc := 22) rfl dX4_weigh_22 ?_
  refine G_iast (pc := 23) (jj := 1) (by decide) rfl (by unfold vp_in; decide) dX4_weigh_23 ?_
  refine G_aload_n (pc := 24) rfl dX4_weigh_24 ?_
  refine G_getR (pc := 25) (r := 54) (ci := 4) (j := 3) rfl lk_RX4_18 rfl rfl rfl dX4_weigh_25 ?_
  refine G_iload_n (pc := 28) rfl dX4_weigh_28 ?_
  refine G_iload (pc := 29) rfl dX4_weigh_29 ?_
  refine G_iast (pc := 31) (jj := 1) (by decide) rfl (by unfold vp_in; decide) dX4_weigh_31 ?_
  refine G_goto (pc := 32) (tgt := 55) (by decide) dX4_weigh_32 ?_
  exact G_vret (pc := 55) (Nat.le_of_ble_eq_true rfl) (Nat.le_of_ble_eq_true rfl) rfl dX4_weigh_55 ⟨rfl, rfl⟩
set_option maxRecDepth 100000 in
set_option maxHeartbeats 4000000 in
theorem s109_X4_seek  (d : Nat)   : G (d + 4) mX4_seek 0 0 0 0 0 (gent 8 [.ref 51, .int 1, .int 3]) [] SH0 RF0 (gup (gup (gup (gcp (gup (gup (gup (gup I0 52 0 0) 53 0 1) 54 0 0) 52 0 (-1)) 24 34 (0 : Int32).toNatClampNeg (0 : Int32).toNatClampNeg (6 : Int32).toNatClampNeg) 34 6 0) 34 7 0) 19 1 1) (fun r h => r = none ∧ h = (SH0, RF0, (gup (gup (gup (gup (gup (gcp (gup (gup (gup (gup (gup (gcp (gup (gup (gup (gup (gup (gcp (gup (gup (gup (gup (gup (gup (gcp (gup (gup (gup (gup (gup (gup (gup (gcp (gup (gup (gup (gup (gup (gup (gup (gcp (gup (gup (gup (gup (gup (gup (gup (gcp (gup (gup (gup (gup I0 52 0 0) 53 0 1) 54 0 0) 52 0 (-1)) 24 34 (0 : Int32).toNatClampNeg (0 : Int32).toNatClampNeg (6 : Int32).toNatClampNeg) 34 6 0) 34 7 0) 19 1 1) 52 1 0) 53 1 1) 54 1 0) 52 1 (-1)) 24 34 (0 : Int32).toNatClampNeg (8 : Int32).toNatClampNeg (6 : Int32).toNatClampNeg) 34 14 0) 34 15 1) 19 1 2) 52 2 0) 53 2 1) 54 2 0) 52 2 (-1)) 24 34 (0 : Int32).toNatClampNeg (16 : Int32).toNatClampNeg (6 : Int32).toNatClampNeg) 34 22 0) 34 23 2) 19 1 3) 52 3 0) 53 3 1) 54 3 0) 52 3 (-1)) 24 34 (0 : Int32).toNatClampNeg (24 : Int32).toNatClampNeg (6 : Int32).toNatClampNeg) 34 30 0) 34 31 3) 19 1 4) 52 4 0) 53 4 1) 54 4 0) 34 24 (24 : Int32).toNatClampNeg (0 : Int32).toNatClampNeg (6 : Int32).toNatClampNeg) 19 9 0) 19 1 3) 52 3 0) 53 3 1) 54 3 0) 34 24 (16 : Int32).toNatClampNeg (0 : Int32).toNatClampNeg (6 : Int32).toNatClampNeg) 19 9 0) 19 1 2) 52 2 0) 53 2 1) 54 2 0) 34 24 (8 : Int32).toNatClampNeg (0 : Int32).toNatClampNeg (6 : Int32).toNatClampNeg) 19 9 0) 19 1 1) 52 1 0) 53 1 1) 54 1 0))) := by
  refine G_aload_n (pc := 0) rfl dX4_seek_0 ?_
  refine G_getR (pc := 1) (r := 52) (ci := 4) (j := 1) rfl lk_RX4_9 rfl rfl rfl dX4_seek_1 ?_
  refine G_iload_n (pc := 4) rfl dX4_seek_4 ?_
  refine G_iconst (pc := 5) (v := 0) (by decide) dX4_seek_5 ?_
  refine G_iast (pc := 6) (jj := 1) (by decide) rfl (by unfold vp_in; decide) dX4_seek_6 ?_
  refine G_aload_n (pc := 7) rfl dX4_seek_7 ?_
  refine G_getR (pc := 8) (r := 53) (ci := 4) (j := 2) rfl lk_RX4_15 rfl rfl rfl dX4_seek_8 ?_
  refine G_iload_n (pc := 11) rfl dX4_seek_11 ?_
  refine G_iconst (pc := 12) (v := 1) (by decide) dX4_seek_12 ?_
  refine G_iast (pc := 13) (jj := 1) (by decide) rfl (by unfold vp_in; decide) dX4_seek_13 ?_
  refine G_aload_n (pc := 14) rfl dX4_seek_14 ?_
  refine G_getR (pc := 15) (r := 54) (ci := 4) (j := 3) rfl lk_RX4_18 rfl rfl rfl dX4_seek_15 ?_
  refine G_iload_n (pc := 18) rfl dX4_seek_18 ?_
  refine G_iconst (pc := 19) (v := 0) (by decide) dX4_seek_19 ?_
  refine G_iast (pc := 20) (jj := 1) (by decide) rfl (by unfold vp_in; decide) dX4_seek_20 ?_
  refine G_aload_n (pc := 21) rfl dX4_seek_21 ?_
  refine G_iload_n (pc := 22) rfl dX4_seek_22 ?_
  refine G_iload_n (pc := 23) rfl dX4_seek_23 ?_
  refine G_callV (pc := 24) (mc1 := 0) (ms1 := 0) (ci := 4) (mj := mX4_isLast) (vs := [_, _]) dX4_seek_24 rfl rfl cm_X4_isLast wf_126 wf_129 wf_130 rfl (Nat.le_of_ble_eq_true rfl) (Nat.le_of_ble_eq_true rfl) (Nat.le_of_ble_eq_true rfl) (Nat.le_of_ble_eq_true rfl) (s110_X4_isLast  (d + 2)  ) ?_
  rintro _ _ ⟨rfl, rfl⟩
  dsimp only [Option.toList, List.cons_append, List.nil_append]
  refine G_if_eq (pc := 27) (tgt := 31) (by decide) dX4_seek_27 (fun _ => ?_) (fun z => absurd (by decide) z)
  refine G_aload_n (pc := 31) rfl dX4_seek_31 ?_
  refine G_getR (pc := 32) (r := 52) (ci := 4) (j := 1) rfl lk_RX4_9 rfl rfl rfl dX4_seek_32 ?_
  refine G_iload_n (pc := 35) rfl dX4_seek_35 ?_
  refine G_iconst (pc := 36) (v := (-1)) (by decide) dX4_seek_36 ?_
  refine G_iast (pc := 37) (jj := 1) (by decide) rfl (by unfold vp_in; decide) dX4_seek_37 ?_
  refine G_iconst (pc := 38) (v := 0) (by decide) dX4_seek_38 ?_
  refine G_istore_n (pc := 39) (L1 := [some (.ref 51), some (.int 1), some (.int 3), some (.int 0), none, none, none, none]) rfl rfl (by decide) dX4_seek_39 ?_
  refine G_iconst (pc := 40) (v := 0) (by decide) dX4_seek_40 ?_
  refine G_istore (pc := 41) (L1 := [some (.ref 51), some (.int 1), some (.int 3), some (.int 0), some (.int 0), none, none, none]) rfl rfl (by decide) dX4_seek_41 ?_
  refine G_aload_n (pc := 43) rfl dX4_seek_43 ?_
  refine G_getR (pc := 44) (r := 19) (ci := 4) (j := 0) rfl lk_RX4_21 rfl rfl rfl dX4_seek_44 ?_
  refine G_iload_n (pc := 47) rfl dX4_seek_47 ?_
  refine G_callV (pc := 48) (mc1 := 0) (ms1 := 0) (ci := 1) (mj := mX1_save) (vs := [_]) dX4_seek_48 rfl rfl cm_X1_save wf_134 wf_105 wf_106 rfl (Nat.le_of_ble_eq_true rfl) (Nat.le_of_ble_eq_true rfl) (Nat.le_of_ble_eq_true rfl) (Nat.le_of_ble_eq_true rfl) (s78_X1_save  (d + 2)  ) ?_
  rintro _ _ ⟨rfl, rfl⟩
  dsimp only [Option.toList, List.cons_append, List.nil_append]
  refine G_iconst (pc := 51) (v := 0) (by decide) dX4_seek_51 ?_
  refine G_istore (pc := 52) (L1 := [some (.ref 51), some (.int 1), some (.int 3), some (.int 0), some (.int 0), some (.int 0), none, none]) rfl rfl (by decide) dX4_seek_52 ?_
  refine G_iload (pc := 54) rfl dX4_seek_54 ?_
  refine G_aload_n (pc := 56) rfl dX4_seek_56 ?_
  refine G_getR (pc := 57) (r := 19) (ci := 4) (j := 0) rfl lk_RX4_21 rfl rfl rfl dX4_seek_57 ?_
  refine G_getI (pc := 60) (v := 0) (ci := 1) (j := 8) rfl rfl lk_RX4_39 rfl rfl dX4_seek_60 ?_
  refine G_icmp_gt (pc := 63) (tgt := 208) (by decide) dX4_seek_63 (fun z => absurd z (by decide)) (fun _ => ?_)
  refine G_aload_n (pc := 66) rfl dX4_seek_66 ?_
  refine G_getR (pc := 67) (r := 19) (ci := 4) (j := 0) rfl lk_RX4_21 rfl rfl rfl dX4_seek_67 ?_
  refine G_iload (pc := 70) rfl dX4_seek_70 ?_
  refine G_callV (pc := 72) (mc1 := 0) (ms1 := 0) (ci := 1) (mj := mX1_tell) (vs := [_]) dX4_seek_72 rfl rfl cm_X1_tell wf_135 wf_71 wf_72 rfl (Nat.le_of_ble_eq_true rfl) (Nat.le_of_ble_eq_true rfl) (Nat.le_of_ble_eq_true rfl) (Nat.le_of_ble_eq_true rfl) (s79_X1_tell  (d + 2)  ) ?_
  rintro _ _ ⟨rfl, rfl⟩
  dsimp only [Option.toList, List.cons_append, List.nil_append]
  refine G_istore (pc := 75) (L1 := [some (.ref 51), some (.int 1), some (.int 3), some (.int 0), some (.int 0), some (.int 0), some (.int 0), none]) rfl rfl (by decide) dX4_seek_75 ?_
  refine G_iload (pc := 77) rfl dX4_seek_77 ?_
  refine G_if_eq (pc := 79) (tgt := 87) (by decide) dX4_seek_79 (fun _ => ?_) (fun z => absurd (by decide) z)
  refine G_iload (pc := 87) rfl dX4_seek_87 ?_
  refine G_aload_n (pc := 89) rfl dX4_seek_89 ?_
  refine G_getR (pc := 90) (r := 19) (ci := 4) (j := 0) rfl lk_RX4_21 rfl rfl rfl dX4_seek_90 ?_
  refine G_callV (pc := 93) (mc1 := 0) (ms1 := 0) (ci := 1) (mj := mX1_melt) (vs := []) dX4_seek_93 rfl rfl cm_X1_melt wf_136 wf_75 wf_76 rfl (Nat.le_of_ble_eq_true rfl) (Nat.le_of_ble_eq_true rfl) (Nat.le_of_ble_eq_true rfl) (Nat.le_of_ble_eq_true rfl) (s81_X1_melt  (d + 3)  ) ?_
  rintro _ _ ⟨rfl, rfl⟩
  dsimp only [Option.toList, List.cons_append, List.nil_append]
  refine G_iadd (pc := 96) (z := 0) (by decide) dX4_seek_96 ?_
  refine G_istore (pc := 97) (L1 := [some (.ref 51), some (.int 1), some (.int 3), some (.int 0), some (.int 0), some (.int 0), some (.int 0), some (.int 0)]) rfl rfl (by decide) dX4_seek_97 ?_
  refine G_aload_n (pc := 99) rfl dX4_seek_99 ?_
  refine G_iload_n (pc := 100) rfl dX4_seek_100 ?_
  refine G_iconst (pc := 101) (v := 1) (by decide) dX4_seek_101 ?_
  refine G_iadd (pc := 102) (z := 2) (by decide) dX4_seek_102 ?_
  refine G_iload_n (pc := 103) rfl dX4_seek_103 ?_
  refine G_iconst (pc := 104) (v := 1) (by decide) dX4_seek_104 ?_
  refine G_isub (pc := 105) (z := 2) (by decide) dX4_seek_105 ?_
  refine G_callV (pc := 106) (mc1 := 0) (ms1 := 0) (ci := 4) (mj := mX4_seek) (vs := [_, _]) dX4_seek_106 rfl rfl cm_X4_seek wf_137 wf_132 wf_133 rfl (Nat.le_of_ble_eq_true rfl) (Nat.le_of_ble_eq_true rfl) (Nat.le_of_ble_eq_true rfl) (Nat.le_of_ble_eq_true rfl) (s111_X4_seek  d  ) ?_
  rintro _ _ ⟨rfl, rfl⟩
  dsimp only [Option.toList, List.cons_append, List.nil_append]
  refine G_aload_n (pc := 109) rfl dX4_seek_109 ?_
  refine G_getR (pc := 110) (r := 19) (ci := 4) (j := 0) rfl lk_RX4_21 rfl rfl rfl dX4_seek_110 ?_
  refine G_iload_n (pc := 113) rfl dX4_seek_113 ?_
  refine G_callV (pc := 114) (mc1 := 0) (ms1 := 0) (ci := 1) (mj := mX1_restore) (vs := [_]) dX4_seek_114 rfl rfl cm_X1_restore wf_138 wf_109 wf_110 rfl (Nat.le_of_ble_eq_true rfl) (Nat.le_of_ble_eq_true rfl) (Nat.le_of_ble_eq_true rfl) (Nat.le_of_ble_eq_true rfl) (s126_X1_restore  (d + 2)  ) ?_
  rintro _ _ ⟨rfl, rfl⟩
  dsimp only [Option.toList, List.cons_append, List.nil_append]
  refine G_iload (pc := 117) rfl dX4_seek_117 ?_
  refine G_aload_n (pc := 119) rfl dX4_seek_119 ?_
  refine G_getR (pc := 120) (r := 52) (ci := 4) (j := 1) rfl lk_RX4_9 rfl rfl rfl dX4_seek_120 ?_
  refine G_iload_n (pc := 123) rfl dX4_seek_123 ?_
  refine G_iconst (pc := 124) (v := 1) (by decide) dX4_seek_124 ?_
  refine G_iadd (pc := 125) (z := 2) (by decide) dX4_seek_125 ?_
  refine G_iald (pc := 126) (jj := 2) (v := 0) (by decide) rfl rfl (by unfold vp_in; decide) dX4_seek_126 ?_
  refine G_iadd (pc := 127) (z := 0) (by decide) dX4_seek_127 ?_
  refine G_istore (pc := 128) (L1 := [some (.ref 51), some (.int 1), some (.int 3), some (.int 0), some (.int 0), some (.int 0), some (.int 0), some (.int 0)]) rfl rfl (by decide) dX4_seek_128 ?_
  refine G_aload_n (pc := 130) rfl dX4_seek_130 ?_
  refine G_iload_n (pc := 131) rfl dX4_seek_131 ?_
  refine G_iload (pc := 132) rfl dX4_seek_132 ?_
  refine G_aload_n (pc := 134) rfl dX4_seek_134 ?_
  refine G_getR (pc := 135) (r := 53) (ci := 4) (j := 2) rfl lk_RX4_15 rfl rfl rfl dX4_seek_135 ?_
  refine G_iload_n (pc := 138) rfl dX4_seek_138 ?_
  refine G_iconst (pc := 139) (v := 1) (by decide) dX4_seek_139 ?_
  refine G_iadd (pc := 140) (z := 2) (by decide) dX4_seek_140 ?_
  refine G_iald (pc := 141) (jj := 2) (v := 1) (by decide) rfl rfl (by unfold vp_in; decide) dX4_seek_141 ?_
  refine G_iload (pc := 142) rfl dX4_seek_142 ?_
  refine G_aload_n (pc := 144) rfl dX4_seek_144 ?_
  refine G_getR (pc := 145) (r := 54) (ci := 4) (j := 3) rfl lk_RX4_18 rfl rfl rfl dX4_seek_145 ?_
  refine G_iload_n (pc := 148) rfl dX4_seek_148 ?_
  refine G_iconst (pc := 149) (v := 1) (by decide) dX4_seek_149 ?_
  refine G_iadd (pc := 150) (z := 2) (by decide) dX4_seek_150 ?_
  refine G_iald (pc := 151) (jj := 2) (v := 0) (by decide) rfl rfl (by unfold vp_in; decide) dX4_seek_151 ?_
  refine G_iconst (pc := 152) (v := 3) (by decide) dX4_seek_152 ?_
  refine G_ishl (pc := 153) (z := 0) (by decide) dX4_seek_153 ?_
  refine G_ior (pc := 154) (z := 0) (by decide) dX4_seek_154 ?_
  refine G_callV (pc := 155) (mc1 := 0) (ms1 := 0) (ci := 4) (mj := mX4_weigh) (vs := [_, _, _, _]) dX4_seek_155 rfl rfl cm_X4_weigh wf_139 wf_141 wf_142 rfl (Nat.le_of_ble_eq_true rfl) (Nat.le_of_ble_eq_true rfl) (Nat.le_of_ble_eq_true rfl) (Nat.le_of_ble_eq_true rfl) (s127_X4_weigh  (d + 3)  ) ?_
  rintro _ _ ⟨rfl, rfl⟩
  dsimp only [Option.toList, List.cons_append, List.nil_append]
  refine G_iload (pc := 158) rfl dX4_seek_158 ?_
  refine G_if_ne (pc := 160) (tgt := 168) (by decide) dX4_seek_160 (fun z => absurd (by decide) z) (fun _ => ?_)
  refine G_iload (pc := 163) rfl dX4_seek_163 ?_
  refine G_goto (pc := 165) (tgt := 169) (by decide) dX4_seek_165 ?_
  refine G_istore_n (pc := 169) (L1 := [some (.ref 51), some (.int 1), some (.int 3), some (.int 0), some (.int 0), some (.int 0), some (.int 0), some (.int 0)]) rfl rfl (by decide) dX4_seek_169 ?_
  refine G_iload (pc := 170) rfl dX4_seek_170 ?_
  refine G_if_ne (pc := 172) (tgt := 186) (by decide) dX4_seek_172 (fun z => absurd (by decide) z) (fun _ => ?_)
  refine G_aload_n (pc := 175) rfl dX4_seek_175 ?_
  refine G_getR (pc := 176) (r := 53) (ci := 4) (j := 2) rfl lk_RX4_15 rfl rfl rfl dX4_seek_176 ?_
  refine G_iload_n (pc := 179) rfl dX4_seek_179 ?_
  refine G_iconst (pc := 180) (v := 1) (by decide) dX4_seek_180 ?_
  refine G_iadd (pc := 181) (z := 2) (by decide) dX4_seek_181 ?_
  refine G_iald (pc := 182) (jj := 2) (v := 1) (by decide) rfl rfl (by unfold vp_in; decide) dX4_seek_182 ?_
  refine G_goto (pc := 183) (tgt := 188) (by decide) dX4_seek_183 ?_
  refine G_istore (pc := 188) (L1 := [some (.ref 51), some (.int 1), some (.int 3), some (.int 0), some (.int 1), some (.int 0), some (.int 0), some (.int 0)]) rfl rfl (by decide) dX4_seek_188 ?_
  refine G_goto (pc := 190) (tgt := 202) (by decide) dX4_seek_190 ?_
  refine G_iinc (pc := 202) (v := 1) (w := 1) (L1 := [some (.ref 51), some (.int 1), some (.int 3), some (.int 0), some (.int 1), some (.int 1), some (.int 0), some (.int 0)]) (by decide) rfl rfl (by decide) rfl (by decide) dX4_seek_202 ?_
  refine G_goto (pc := 205) (tgt := 54) (by decide) dX4_seek_205 ?_
  refine G_iload (pc := 54) rfl dX4_seek_54 ?_
  refine G_aload_n (pc := 56) rfl dX4_seek_56 ?_
  refine G_getR (pc := 57) (r := 19) (ci := 4) (j := 0) rfl lk_RX4_21 rfl rfl rfl dX4_seek_57 ?_
  refine G_getI (pc := 60) (v := 0) (ci := 1) (j := 8) rfl rfl lk_RX4_39 rfl rfl dX4_seek_60 ?_
  refine G_icmp_gt (pc := 63) (tgt := 208) (by decide) dX4_seek_63 (fun _ => ?_) (fun z => absurd (by decide) z)
  exact G_vret (pc := 208) (Nat.le_of_ble_eq_true rfl) (Nat.le_of_ble_eq_true rfl) rfl dX4_seek_208 ⟨rfl, rfl⟩
set_option maxRecDepth 100000 in
set_option maxHeartbeats 4000000 in
theorem s128_X1_restore  (d : Nat)   : G (d + 1) mX1_restore 0 0 0 0 0 (gent 3 [.ref 19, .int 0]) [] SH0 RF0 (gup (gup (gup (gup (gup (gcp (gup (gup (gup (gup (gup (gcp (gup (gup (gup (gup (gup (gcp (gup (gup (gup (gup (gup (gup (gcp (gup (gup (gup (gup (gup (gup (gup (gcp (gup (gup (gup (gup (gup (gup (gup (gcp (gup (gup (gup (gup (gup (gup (gup (gcp (gup (gup (gup (gup I0 52 0 0) 53 0 1) 54 0 0) 52 0 (-1)) 24 34 (0 : Int32).toNatClampNeg (0 : Int32).toNatClampNeg (6 : Int32).toNatClampNeg) 34 6 0) 34 7 0) 19 1 1) 52 1 0) 53 1 1) 54 1 0) 52 1 (-1)) 24 34 (0 : Int32).toNatClampNeg (8 : Int32).toNatClampNeg (6 : Int32).toNatClampNeg) 34 14 0) 34 15 1) 19 1 2) 52 2 0) 53 2 1) 54 2 0) 52 2 (-1)) 24 34 (0 : Int32).toNatClampNeg (16 : Int32).toNatClampNeg (6 : Int32).toNatClampNeg) 34 22 0) 34 23 2) 19 1 3) 52 3 0) 53 3 1) 54 3 0) 52 3 (-1)) 24 34 (0 : Int32).toNatClampNeg (24 : Int32).toNatClampNeg (6 : Int32).toNatClampNeg) 34 30 0) 34 31 3) 19 1 4) 52 4 0) 53 4 1) 54 4 0) 34 24 (24 : Int32).toNatClampNeg (0 : Int32).toNatClampNeg (6 : Int32).toNatClampNeg) 19 9 0) 19 1 3) 52 3 0) 53 3 1) 54 3 0) 34 24 (16 : Int32).toNatClampNeg (0 : Int32).toNatClampNeg (6 : Int32).toNatClampNeg) 19 9 0) 19 1 2) 52 2 0) 53 2 1) 54 2 0) 34 24 (8 : Int32).toNatClampNeg (0 : Int32).toNatClampNeg (6 : Int32).toNatClampNeg) 19 9 0) 19 1 1) 52 1 0) 53 1 1) 54 1 0) (fun r h => r = none ∧ h = (SH0, RF0, (gup (gup (gcp (gup (gup (gup (gup (gup (gcp (gup (gup (gup (gup (gup (gcp (gup (gup (gup (gup (gup (gcp (gup (gup (gup (gup (gup (gup (gcp (gup (gup (gup (gup (gup (gup (gup (gcp (gup (gup (gup (gup (gup (gup (gup (gcp (gup (gup (gup (gup (gup (gup (gup (gcp (gup (gup (gup (gup I0 52 0 0) 53 0 1) 54 0 0) 52 0 (-1)) 24 34 (0 : Int32).toNatClampNeg (0 : Int32).toNatClampNeg (6 : Int32).toNatClampNeg) 34 6 0) 34 7 0) 19 1 1) 52 1 0) 53 1 1) 54 1 0) 52 1 (-1)) 24 34 (0 : Int32).toNatClampNeg (8 : Int32).toNatClampNeg (6 : Int32).toNatClampNeg) 34 14 0) 34 15 1) 19 1 2) 52 2 0) 53 2 1) 54 2 0) 52 2 (-1)) 24 34 (0 : Int32).toNatClampNeg (16 : Int32).toNatClampNeg (6 : Int32).toNatClampNeg) 34 22 0) 34 23 2) 19 1 3) 52 3 0) 53 3 1) 54 3 0) 52 3 (-1)) 24 34 (0 : Int32).toNatClampNeg (24 : Int32).toNatClampNeg (6 : Int32).toNatClampNeg) 34 30 0) 34 31 3) 19 1 4) 52 4 0) 53 4 1) 54 4 0) 34 24 (24 : Int32).toNatClampNeg (0 : Int32).toNatClampNeg (6 : Int32).toNatClampNeg) 19 9 0) 19 1 3) 52 3 0) 53 3 1) 54 3 0) 34 24 (16 : Int32).toNatClampNeg (0 : Int32).toNatClampNeg (6 : Int32).toNatClampNeg) 19 9 0) 19 1 2) 52 2 0) 53 2 1) 54 2 0) 34 24 (8 : Int32).toNatClampNeg (0 : Int32).toNatClampNeg (6 : Int32).toNatClampNeg) 19 9 0) 19 1 1) 52 1 0) 53 1 1) 54 1 0) 34 24 (0 : Int32).toNatClampNeg (0 : Int32).toNatClampNeg (6 : Int32).toNatClampNeg) 19 9 0) 19 1 0))) := by
  refine G_iload_n (pc := 0) rfl dX1_restore_0 ?_
  refine G_bipush (pc := 1) (v := 8) (by decide) dX1_restore_1 ?_
  refine G_imul (pc := 3) (z := 0) (by decide) dX1_restore_3 ?_
  refine G_istore_n (pc := 4) (L1 := [some (.ref 19), some (.int 0), some (.int 0)]) rfl rfl (by decide) dX1_restore_4 ?_
  refine G_aload_n (pc := 5) rfl dX1_restore_5 ?_
  refine G_getR (pc := 6) (r := 34) (ci := 1) (j := 18) rfl lk_RX1_53 rfl rfl rfl dX1_restore_6 ?_
  refine G_iload_n (pc := 9) rfl dX1_restore_9 ?_
  refine G_aload_n (pc := 10) rfl dX1_restore_10 ?_
  refine G_getR (pc := 11) (r := 24) (ci := 1) (j := 11) rfl lk_RX1_31 rfl rfl rfl dX1_restore_11 ?_
  refine G_iconst (pc := 14) (v := 0) (by decide) dX1_restore_14 ?_
  refine G_bipush (pc := 15) (v := 6) (by decide) dX1_restore_15 ?_
  refine G_copy (pc := 17) (x := 34) (y := 24) rfl rfl (by decide) (by decide) (by decide) (by decide) (by decide) wf_50 wf_51 wf_52 wf_53 (Nat.le_of_ble_eq_true rfl) dX1_restore_17 ?_
  refine G_aload_n (pc := 20) rfl dX1_restore_20 ?_
  refine G_aload_n (pc := 21) rfl dX1_restore_21 ?_
  refine G_getR (pc := 22) (r := 34) (ci := 1) (j := 18) rfl lk_RX1_53 rfl rfl rfl dX1_restore_22 ?_
  refine G_iload_n (pc := 25) rfl dX1_restore_25 ?_
  refine G_bipush (pc := 26) (v := 6) (by decide) dX1_restore_26 ?_
  refine G_iadd (pc := 28) (z := 6) (by decide) dX1_restore_28 ?_
  refine G_iald (pc := 29) (jj := 6) (v := 0) (by decide) rfl rfl (by unfold vp_in; decide) dX1_restore_29 ?_
  refine G_putI (pc := 30) (ci := 1) (j := 9) rfl lk_RX1_75 rfl rfl rfl trivial dX1_restore_30 ?_
  refine G_aload_n (pc := 33) rfl dX1_restore_33 ?_
  refine G_aload_n (pc := 34) rfl dX1_restore_34 ?_
  refine G_getR (pc := 35) (r := 34) (ci := 1) (j := 18) rfl lk_RX1_53 rfl rfl rfl dX1_restore_35 ?_
  refine G_iload_n (pc := 38) rfl dX1_restore_38 ?_
  refine G_bipush (pc := 39) (v := 6) (by decide) dX1_restore_39 ?_
  refine G_iadd (pc := 41) (z := 6) (by decide) dX1_restore_41 ?_
  refine G_iconst (pc := 42) (v := 1) (by decide) dX1_restore_42 ?_
  refine G_iadd (pc := 43) (z := 7) (by decide) dX1_restore_43 ?_
  refine G_iald (pc := 44) (jj := 7) (v := 0) (by decide) rfl rfl (by unfold vp_in; decide) dX1_restore_44 ?_
  refine G_putI (pc := 45) (ci := 1) (j := 1) rfl lk_RX1_60 rfl rfl rfl trivial dX1_restore_45 ?_
  exact G_vret (pc := 48) (Nat.le_of_ble_eq_true rfl) (Nat.le_of_ble_eq_true rfl) rfl dX1_restore_48 ⟨rfl, rfl⟩
set_option maxRecDepth 100000 in
set_option maxHeartbeats 4000000 in
theorem s129_X4_weigh  (d : Nat)   : G (d) mX4_weigh 0 0 0 0 0 (gent 5 [.ref 51, .int 0, .int 0, .int 1, .int 0]) [] SH0 RF0 (gup (gup (gcp (gup (gup (gup (gup (gup (gcp (gup (gup (gup (gup (gup (gcp (gup (gup (gup (gup (gup (gcp (gup (gup (gup (gup (gup (gup (gcp (gup (gup (gup (gup (gup (gup (gup (gcp (gup (gup (gup (gup (gup (gup (gup (gcp (gup (gup (gup (gup (gup (gup (gup (gcp (gup (gup (gup (gup I0 52 0 0) 53 0 1) 54 0 0) 52 0 (-1)) 24 34 (0 : Int32).toNatClampNeg (0 : Int32).toNatClampNeg (6 : Int32).toNatClampNeg) 34 6 0) 34 7 0) 19 1 1) 52 1 0) 53 1 1) 54 1 0) 52 1 (-1)) 24 34 (0 : Int32).toNatClampNeg (8 : Int32).toNatClampNeg (6 : Int32).toNatClampNeg) 34 14 0) 34 15 1) 19 1 2) 52 2 0) 53 2 1) 54 2 0) 52 2 (-1)) 24 34 (0 : Int32).toNatClampNeg (16 : Int32).toNatClampNeg (6 : Int32).toNatClampNeg) 34 22 0) 34 23 2) 19 1 3) 52 3 0) 53 3 1) 54 3 0) 52 3 (-1)) 24 34 (0 : Int32).toNatClampNeg (24 : Int32).toNatClampNeg (6 : Int32).toNatClampNeg) 34 30 0) 34 31 3) 19 1 4) 52 4 0) 53 4 1) 54 4 0) 34 24 (24 : Int32).toNatClampNeg (0 : Int32).toNatClampNeg (6 : Int32).toNatClampNeg) 19 9 0) 19 1 3) 52 3 0) 53 3 1) 54 3 0) 34 24 (16 : Int32).toNatClampNeg (0 : Int32).toNatClampNeg (6 : Int32).toNatClampNeg) 19 9 0) 19 1 2) 52 2 0) 53 2 1) 54 2 0) 34 24 (8 : Int32).toNatClampNeg (0 : Int32).toNatClampNeg (6 : Int32).toNatClampNeg) 19 9 0) 19 1 1) 52 1 0) 53 1 1) 54 1 0) 34 24 (0 : Int32).toNatClampNeg (0 : Int32).toNatClampNeg (6 : Int32).toNatClampNeg) 19 9 0) 19 1 0) (fun r h => r = none ∧ h = (SH0, RF0, (gup (gup (gup (gup (gup (gcp (gup (gup (gup (gup (gup (gcp (gup (gup (gup (gup (gup (gcp (gup (gup (gup (gup (gup (gcp (gup (gup (gup (gup (gup (gup (gcp (gup (gup (gup (gup (gup (gup (gup (gcp (gup (gup (gup (gup (gup (gup (gup (gcp (gup (gup (gup (gup (gup (gup (gup (gcp (gup (gup (gup (gup I0 52 0 0) 53 0 1) 54 0 0) 52 0 (-1)) 24 34 (0 : Int32).toNatClampNeg (0 : Int32).toNatClampNeg (6 : Int32).toNatClampNeg) 34 6 0) 34 7 0) 19 1 1) 52 1 0) 53 1 1) 54 1 0) 52 1 (-1)) 24 34 (0 : Int32).toNatClampNeg (8 : Int32).toNatClampNeg (6 : Int32).toNatClampNeg) 34 14 0) 34 15 1) 19 1 2) 52 2 0) 53 2 1) 54 2 0) 52 2 (-1)) 24 34 (0 : Int32).toNatClampNeg (16 : Int32).toNatClampNeg (6 : Int32).toNatClampNeg) 34 22 0) 34 23 2) 19 1 3) 52 3 0) 53 3 1) 54 3 0) 52 3 (-1)) 24 34 (0 : Int32).toNatClampNeg (24 : Int32).toNatClampNeg (6 : Int32).toNatClampNeg) 34 30 0) 34 31 3) 19 1 4) 52 4 0) 53 4 1) 54 4 0) 34 24 (24 : Int32).toNatClampNeg (0 : Int32).toNatClampNeg (6 : Int32).toNatClampNeg) 19 9 0) 19 1 3) 52 3 0) 53 3 1) 54 3 0) 34 24 (16 : Int32).toNatClampNeg (0 : Int32).toNatClampNeg (6 : Int32).toNatClampNeg) 19 9 0) 19 1 2) 52 2 0) 53 2 1) 54 2 0) 34 24 (8 : Int32).toNatClampNeg (0 : Int32).toNatClampNeg (6 : Int32).toNatClampNeg) 19 9 0) 19 1 1) 52 1 0) 53 1 1) 54 1 0) 34 24 (0 : Int32).toNatClampNeg (0 : Int32).toNatClampNeg (6 : Int32).toNatClampNeg) 19 9 0) 19 1 0) 52 0 0) 53 0 1) 54 0 0))) := by
  refine G_iload_n (pc := 0) rfl dX4_weigh_0 ?_
  refine G_aload_n (pc := 1) rfl dX4_weigh_1 ?_
  refine G_getR (pc := 2) (r := 52) (ci := 4) (j := 1) rfl lk_RX4_9 rfl rfl rfl dX4_weigh_2 ?_
  refine G_iload_n (pc := 5) rfl dX4_weigh_5 ?_
  refine G_iald (pc := 6) (jj := 0) (v := (-1)) (by decide) rfl rfl (by unfold vp_in; decide) dX4_weigh_6 ?_
  refine G_icmp_le (pc := 7) (tgt := 35) (by decide) dX4_weigh_7 (fun z => absurd z (by decide)) (fun _ => ?_)
  refine G_aload_n (pc := 10) rfl dX4_weigh_10 ?_
  refine G_getR (pc := 11) (r := 52) (ci := 4) (j := 1) rfl lk_RX4_9 rfl rfl rfl dX4_weigh_11 ?_
  refine G_iload_n (pc := 14) rfl dX4_weigh_14 ?_
  refine G_iload_n (pc := 15) rfl dX4_weigh_15 ?_
  refine G_iast (pc := 16) (jj := 0) (by decide) rfl (by unfold vp_in; decide) dX4_weigh_16 ?_
  refine G_aload_n (pc := 17) rfl dX4_weigh_17 ?_
  refine G_getR (pc := 18) (r := 53) (ci := 4) (j := 2) rfl lk_RX4_15 rfl rfl rfl dX4_weigh_18 ?_
  refine G_iload_n (pc := 21) rfl dX4_weigh_21 ?_
  refine G_iload_n (pc := 22) rfl dX4_weigh_22 ?_
  refine G_iast (pc := 23) (jj := 0) (by decide) rfl (by unfold vp_in; decide) dX4_weigh_23 ?_
  refine G_aload_n (pc := 24) rfl dX4_weigh_24 ?_
  refine G_getR (pc := 25) (r := 54) (ci := 4) (j := 3) rfl lk_RX4_18 rfl rfl rfl dX4_weigh_25 ?_
  refine G_iload_n (pc := 28) rfl dX4_weigh_28 ?_
  refine G_iload (pc := 29) rfl dX4_weigh_29 ?_
  refine G_iast (pc := 31) (jj := 0) (by decide) rfl (by unfold vp_in; decide) dX4_weigh_31 ?_
  refine G_goto (pc := 32) (tgt := 55) (by decide) dX4_weigh_32 ?_
  exact G_vret (pc := 55) (Nat.le_of_ble_eq_true rfl) (Nat.le_of_ble_eq_true rfl) rfl dX4_weigh_55 ⟨rfl, rfl⟩
set_option maxRecDepth 100000 in
set_option maxHeartbeats 4000000 in
theorem s107_X4_seek  (d : Nat)   : G (d + 5) mX4_seek 0 0 0 0 0 (gent 8 [.ref 51, .int 0, .int 4]) [] SH0 RF0 I0 (fun r h => r = none ∧ h = (SH0, RF0, (gup (gup (gup (gup (gup (gcp (gup (gup (gup (gup (gup (gcp (gup (gup (gup (gup (gup (gcp (gup (gup (gup (gup (gup (gcp (gup (gup (gup (gup (gup (gup (gcp (gup (gup (gup (gup (gup (gup (gup (gcp (gup (gup (gup (gup (gup (gup (gup (gcp (gup (gup (gup (gup (gup (gup (gup (gcp (gup (gup (gup (gup I0 52 0 0) 53 0 1) 54 0 0) 52 0 (-1)) 24 34 (0 : Int32).toNatClampNeg (0 : Int32).toNatClampNeg (6 : Int32).toNatClampNeg) 34 6 0) 34 7 0) 19 1 1) 52 1 0) 53 1 1) 54 1 0) 52 1 (-1)) 24 34 (0 : Int32).toNatClampNeg (8 : Int32).toNatClampNeg (6 : Int32).toNatClampNeg) 34 14 0) 34 15 1) 19 1 2) 52 2 0) 53 2 1) 54 2 0) 52 2 (-1)) 24 34 (0 : Int32).toNatClampNeg (16 : Int32).toNatClampNeg (6 : Int32).toNatClampNeg) 34 22 0) 34 23 2) 19 1 3) 52 3 0) 53 3 1) 54 3 0) 52 3 (-1)) 24 34 (0 : Int32).toNatClampNeg (24 : Int32).toNatClampNeg (6 : Int32).toNatClampNeg) 34 30 0) 34 31 3) 19 1 4) 52 4 0) 53 4 1) 54 4 0) 34 24 (24 : Int32).toNatClampNeg (0 : Int32).toNatClampNeg (6 : Int32).toNatClampNeg) 19 9 0) 19 1 3) 52 3 0) 53 3 1) 54 3 0) 34 24 (16 : Int32).toNatClampNeg (0 : Int32).toNatClampNeg (6 : Int32).toNatClampNeg) 19 9 0) 19 1 2) 52 2 0) 53 2 1) 54 2 0) 34 24 (8 : Int32).toNatClampNeg (0 : Int32).toNatClampNeg (6 : Int32).toNatClampNeg) 19 9 0) 19 1 1) 52 1 0) 53 1 1) 54 1 0) 34 24 (0 : Int32).toNatClampNeg (0 : Int32).toNatClampNeg (6 : Int32).toNatClampNeg) 19 9 0) 19 1 0) 52 0 0) 53 0 1) 54 0 0))) := by
  refine G_aload_n (pc := 0) rfl dX4_seek_0 ?_
  refine G_getR (pc := 1) (r := 52) (ci := 4) (j := 1) rfl lk_RX4_9 rfl rfl rfl dX4_seek_1 ?_
  refine G_iload_n (pc := 4) rfl dX4_seek_4 ?_
  refine G_iconst (pc := 5) (v := 0) (by decide) dX4_seek_5 ?_
  refine G_iast (pc := 6) (jj := 0) (by decide) rfl (by unfold vp_in; decide) dX4_seek_6 ?_
  refine G_aload_n (pc := 7) rfl dX4_seek_7 ?_
  refine G_getR (pc := 8) (r := 53) (ci := 4) (j := 2) rfl lk_RX4_15 rfl rfl rfl dX4_seek_8 ?_
  refine G_iload_n (pc := 11) rfl dX4_seek_11 ?_
  refine G_iconst (pc := 12) (v := 1) (by decide) dX4_seek_12 ?_
  refine G_iast (pc := 13) (jj := 0) (by decide) rfl (by unfold vp_in; decide) dX4_seek_13 ?_
  refine G_aload_n (pc := 14) rfl dX4_seek_14 ?_
  refine G_getR (pc := 15) (r := 54) (ci := 4) (j := 3) rfl lk_RX4_18 rfl rfl rfl dX4_seek_15 ?_
  refine G_iload_n (pc := 18) rfl dX4_seek_18 ?_
  refine G_iconst (pc := 19) (v := 0) (by decide) dX4_seek_19 ?_
  refine G_iast (pc := 20) (jj := 0) (by decide) rfl (by unfold vp_in; decide) dX4_seek_20 ?_
  refine G_aload_n (pc := 21) rfl dX4_seek_21 ?_
  refine G_iload_n (pc := 22) rfl dX4_seek_22 ?_
  refine G_iload_n (pc := 23) rfl dX4_seek_23 ?_
  refine G_callV (pc := 24) (mc1 := 0) (ms1 := 0) (ci := 4) (mj := mX4_isLast) (vs := [_, _]) dX4_seek_24 rfl rfl cm_X4_isLast wf_126 wf_129 wf_130 rfl (Nat.le_of_ble_eq_true rfl) (Nat.le_of_ble_eq_true rfl) (Nat.le_of_ble_eq_true rfl) (Nat.le_of_ble_eq_true rfl) (s108_X4_isLast  (d + 3)  ) ?_
  rintro _ _ ⟨rfl, rfl⟩
  dsimp only [Option.toList, List.cons_append, List.nil_append]
  refine G_if_eq (pc := 27) (tgt := 31) (by decide) dX4_seek_27 (fun _ => ?_) (fun z => absurd (by decide) z)
  refine G_aload_n (pc := 31) rfl dX4_seek_31 ?_
  refine G_getR (pc := 32) (r := 52) (ci := 4) (j := 1) rfl lk_RX4_9 rfl rfl rfl dX4_seek_32 ?_
  refine G_iload_n (pc := 35) rfl dX4_seek_35 ?_
  refine G_iconst (pc := 36) (v := (-1)) (by decide) dX4_seek_36 ?_
  refine G_iast (pc := 37) (jj := 0) (by decide) rfl (by unfold vp_in; decide) dX4_seek_37 ?_
  refine G_iconst (pc := 38) (v := 0) (by decide) dX4_seek_38 ?_
  refine G_istore_n (pc := 39) (L1 := [some (.ref 51), some (.int 0), some (.int 4), some (.int 0), none, none, none, none]) rfl rfl (by decide) dX4_seek_39 ?_
  refine G_iconst (pc := 40) (v := 0) (by decide) dX4_seek_40 ?_
  refine G_istore (pc := 41) (L1 := [some (.ref 51), some (.int 0), some (.int 4), some (.int 0), some (.int 0), none, none, none]) rfl rfl (by decide) dX4_seek_41 ?_
  refine G_aload_n (pc := 43) rfl dX4_seek_43 ?_
  refine G_getR (pc := 44) (r := 19) (ci := 4) (j := 0) rfl lk_RX4_21 rfl rfl rfl dX4_seek_44 ?_
  refine G_iload_n (pc := 47) rfl dX4_seek_47 ?_
  refine G_callV (pc := 48) (mc1 := 0) (ms1 := 0) (ci := 1) (mj := mX1_save) (vs := [_]) dX4_seek_48 rfl rfl cm_X1_save wf_134 wf_105 wf_106 rfl (Nat.le_of_ble_eq_true rfl) (Nat.le_of_ble_eq_true rfl) (Nat.le_of_ble_eq_true rfl) (Nat.le_of_ble_eq_true rfl) (s65_X1_save  (d + 3)  ) ?_
  rintro _ _ ⟨rfl, rfl⟩
  dsimp only [Option.toList, List.cons_append, List.nil_append]
  refine G_iconst (pc := 51) (v := 0) (by decide) dX4_seek_51 ?_
  refine G_istore (pc := 52) (L1 := [some (.ref 51), some (.int 0), some (.int 4), some (.int 0), some (.int 0), some (.int 0), none, none]) rfl rfl (by decide) dX4_seek_52 ?_
  refine G_iload (pc := 54) rfl dX4_seek_54 ?_
  refine G_aload_n (pc := 56) rfl dX4_seek_56 ?_
  refine G_getR (pc := 57) (r := 19) (ci := 4) (j := 0) rfl lk_RX4_21 rfl rfl rfl dX4_seek_57 ?_
  refine G_getI (pc := 60) (v := 0) (ci := 1) (j := 8) rfl rfl lk_RX4_39 rfl rfl dX4_seek_60 ?_
  refine G_icmp_gt (pc := 63) (tgt := 208) (by decide) dX4_seek_63 (fun z => absurd z (by decide)) (fun _ => ?_)
  refine G_aload_n (pc := 66) rfl dX4_seek_66 ?_
  refine G_getR (pc := 67) (r := 19) (ci := 4) (j := 0) rfl lk_RX4_21 rfl rfl rfl dX4_seek_67 ?_
  refine G_iload (pc := 70) rfl dX4_seek_70 ?_
  refine G_callV (pc := 72) (mc1 := 0) (ms1 := 0) (ci := 1) (mj := mX1_tell) (vs := [_]) dX4_seek_72 rfl rfl cm_X1_tell wf_135 wf_71 wf_72 rfl (Nat.le_of_ble_eq_true rfl) (Nat.le_of_ble_eq_true rfl) (Nat.le_of_ble_eq_true rfl) (Nat.le_of_ble_eq_true rfl) (s66_X1_tell  (d + 3)  ) ?_
  rintro _ _ ⟨rfl, rfl⟩
  dsimp only [Option.toList, List.cons_append, List.nil_append]
  refine G_istore (pc := 75) (L1 := [some (.ref 51), some (.int 0), some (.int 4), some (.int 0), some (.int 0), some (.int 0), some (.int 0), none]) rfl rfl (by decide) dX4_seek_75 ?_
  refine G_iload (pc := 77) rfl dX4_seek_77 ?_
  refine G_if_eq (pc := 79) (tgt := 87) (by decide) dX4_seek_79 (fun _ => ?_) (fun z => absurd (by decide) z)
  refine G_iload (pc := 87) rfl dX4_seek_87 ?_
  refine G_aload_n (pc := 89) rfl dX4_seek_89 ?_
  refine G_getR (pc := 90) (r := 19) (ci := 4) (j := 0) rfl lk_RX4_21 rfl rfl rfl dX4_seek_90 ?_
  refine G_callV (pc := 93) (mc1 := 0) (ms1 := 0) (ci := 1) (mj := mX1_melt) (vs := []) dX4_seek_93 rfl rfl cm_X1_melt wf_136 wf_75 wf_76 rfl (Nat.le_of_ble_eq_true rfl) (Nat.le_of_ble_eq_true rfl) (Nat.le_of_ble_eq_true rfl) (Nat.le_of_ble_eq_true rfl) (s68_X1_melt  (d + 4)  ) ?_
  rintro _ _ ⟨rfl, rfl⟩
  dsimp only [Option.toList, List.cons_append, List.nil_append]
  refine G_iadd (pc := 96) (z := 0) (by decide) dX4_seek_96 ?_
  refine G_istore (pc := 97) (L1 := [some (.ref 51), some (.int 0), some (.int 4), some (.int 0), some (.int 0), some (.int 0), some (.int 0), some (.int 0)]) rfl rfl (by decide) dX4_seek_97 ?_
  refine G_aload_n (pc := 99) rfl dX4_seek_99 ?_
  refine G_iload_n (pc := 100) rfl dX4_seek_100 ?_
  refine G_iconst (pc := 101) (v := 1) (by decide) dX4_seek_101 ?_
  refine G_iadd (pc := 102) (z := 1) (by decide) dX4_seek_102 ?_
  refine G_iload_n (pc := 103) rfl dX4_seek_103 ?_
  refine G_iconst (pc := 104) (v := 1) (by decide) dX4_seek_104 ?_
  refine G_isub (pc := 105) (z := 3) (by decide) dX4_seek_105 ?_
  refine G_callV (pc := 106) (mc1 := 0) (ms1 := 0) (ci := 4) (mj := mX4_seek) (vs := [_, _]) dX4_seek_106 rfl rfl cm_X4_seek wf_137 wf_132 wf_133 rfl (Nat.le_of_ble_eq_true rfl) (Nat.le_of_ble_eq_true rfl) (Nat.le_of_ble_eq_true rfl) (Nat.le_of_ble_eq_true rfl) (s109_X4_seek  d  ) ?_
  rintro _ _ ⟨rfl, rfl⟩
  dsimp only [Option.toList, List.cons_append, List.nil_append]
  refine G_aload_n (pc := 109) rfl dX4_seek_109 ?_
  refine G_getR (pc := 110) (r := 19) (ci := 4) (j := 0) rfl lk_RX4_21 rfl rfl rfl dX4_seek_110 ?_
  refine G_iload_n (pc := 113) rfl dX4_seek_113 ?_
  refine G_callV (pc := 114) (mc1 := 0) (ms1 := 0) (ci := 1) (mj := mX1_restore) (vs := [_]) dX4_seek_114 rfl rfl cm_X1_restore wf_138 wf_109 wf_110 rfl (Nat.le_of_ble_eq_true rfl) (Nat.le_of_ble_eq_true rfl) (Nat.le_of_ble_eq_true rfl) (Nat.le_of_ble_eq_true rfl) (s128_X1_restore  (d + 3)  ) ?_
  rintro _ _ ⟨rfl, rfl⟩
  dsimp only [Option.toList, List.cons_append, List.nil_append]
  refine G_iload (pc := 117) rfl dX4_seek_117 ?_
  refine G_aload_n (pc := 119) rfl dX4_seek_119 ?_
  refine G_getR (pc := 120) (r := 52) (ci := 4) (j := 1) rfl lk_RX4_9 rfl rfl rfl dX4_seek_120 ?_
  refine G_iload_n (pc := 123) rfl dX4_seek_123 ?_
  refine G_iconst (pc := 124) (v := 1) (by decide) dX4_seek_124 ?_
  refine G_iadd (pc := 125) (z := 1) (by decide) dX4_seek_125 ?_
  refine G_iald (pc := 126) (jj := 1) (v := 0) (by decide) rfl rfl (by unfold vp_in; decide) dX4_seek_126 ?_
  refine G_iadd (pc := 127) (z := 0) (by decide) dX4_seek_127 ?_
  refine G_istore (pc := 128) (L1 := [some (.ref 51), some (.int 0), some (.int 4), some (.int 0), some (.int 0), some (.int 0), some (.int 0), some (.int 0)]) rfl rfl (by decide) dX4_seek_128 ?_
  refine G_aload_n (pc := 130) rfl dX4_seek_130 ?_
  refine G_iload_n (pc := 131) rfl dX4_seek_131 ?_
  refine G_iload (pc := 132) rfl dX4_seek_132 ?_
  refine G_aload_n (pc := 134) rfl dX4_seek_134 ?_
  refine G_getR (pc := 135) (r := 53) (ci := 4) (j := 2) rfl lk_RX4_15 rfl rfl rfl dX4_seek_135 ?_
  refine G_iload_n (pc := 138) rfl dX4_seek_138 ?_
  refine G_iconst (pc := 139) (v := 1) (by decide) dX4_seek_139 ?_
  refine G_iadd (pc := 140) (z := 1) (by decide) dX4_seek_140 ?_
  refine G_iald (pc := 141) (jj := 1) (v := 1) (by decide) rfl rfl (by unfold vp_in; decide) dX4_seek_141 ?_
  refine G_iload (pc := 142) rfl dX4_seek_142 ?_
  refine G_aload_n (pc := 144) rfl dX4_seek_144 ?_
  refine G_getR (pc := 145) (r := 54) (ci := 4) (j := 3) rfl lk_RX4_18 rfl rfl rfl dX4_seek_145 ?_
  refine G_iload_n (pc := 148) rfl dX4_seek_148 ?_
  refine G_iconst (pc := 149) (v := 1) (by decide) dX4_seek_149 ?_
  refine G_iadd (pc := 150) (z := 1) (by decide) dX4_seek_150 ?_
  refine G_iald (pc := 151) (jj := 1) (v := 0) (by decide) rfl rfl (by unfold vp_in; decide) dX4_seek_151 ?_
  refine G_iconst (pc := 152) (v := 3) (by decide) dX4_seek_152 ?_
  refine G_ishl (pc := 153) (z := 0) (by decide) dX4_seek_153 ?_
  refine G_ior (pc := 154) (z := 0) (by decide) dX4_seek_154 ?_
  refine G_callV (pc := 155) (mc1 := 0) (ms1 := 0) (ci := 4) (mj := mX4_weigh) (vs := [_, _, _, _]) dX4_seek_155 rfl rfl cm_X4_weigh wf_139 wf_141 wf_142 rfl (Nat.le_of_ble_eq_true rfl) (Nat.le_of_ble_eq_true rfl) (Nat.le_of_ble_eq_true rfl) (Nat.le_of_ble_eq_true rfl) (s129_X4_weigh  (d + 4)  ) ?_
  rintro _ _ ⟨rfl, rfl⟩
  dsimp only [Option.toList, List.cons_append, List.nil_append]
  refine G_iload (pc := 158) rfl dX4_seek_158 ?_
  refine G_if_ne (pc := 160) (tgt := 168) (by decide) dX4_seek_160 (fun z => absurd (by decide) z) (fun _ => ?_)
  refine G_iload (pc := 163) rfl dX4_seek_163 ?_
  refine G_goto (pc := 165) (tgt := 169) (by decide) dX4_seek_165 ?_
  refine G_istore_n (pc := 169) (L1 := [some (.ref 51), some (.int 0), some (.int 4), some (.int 0), some (.int 0), some (.int 0), some (.int 0), some (.int 0)]) rfl rfl (by decide) dX4_seek_169 ?_
  refine G_iload (pc := 170) rfl dX4_seek_170 ?_
  refine G_if_ne (pc := 172) (tgt := 186) (by decide) dX4_seek_172 (fun z => absurd (by decide) z) (fun _ => ?_)
  refine G_aload_n (pc := 175) rfl dX4_seek_175 ?_
  refine G_getR (pc := 176) (r := 53) (ci := 4) (j := 2) rfl lk_RX4_15 rfl rfl rfl dX4_seek_176 ?_
  refine G_iload_n (pc := 179) rfl dX4_seek_179 ?_
  refine G_iconst (pc := 180) (v := 1) (by decide) dX4_seek_180 ?_
  refine G_iadd (pc := 181) (z := 1) (by decide) dX4_seek_181 ?_
  refine G_iald (pc := 182) (jj := 1) (v := 1) (by decide) rfl rfl (by unfold vp_in; decide) dX4_seek_182 ?_
  refine G_goto (pc := 183) (tgt := 188) (by decide) dX4_seek_183 ?_
  refine G_istore (pc := 188) (L1 := [some (.ref 51), some (.int 0), some (.int 4), some (.int 0), some (.int 1), some (.int 0), some (.int 0), some (.int 0)]) rfl rfl (by decide) dX4_seek_188 ?_
  refine G_goto (pc := 190) (tgt := 202) (by decide) dX4_seek_190 ?_
  refine G_iinc (pc := 202) (v := 1) (w := 1) (L1 := [some (.ref 51), some (.int 0), some (.int 4), some (.int 0), some (.int 1), some (.int 1), some (.int 0), some (.int 0)]) (by decide) rfl rfl (by decide) rfl (by decide) dX4_seek_202 ?_
  refine G_goto (pc := 205) (tgt := 54) (by decide) dX4_seek_205 ?_
  refine G_iload (pc := 54) rfl dX4_seek_54 ?_
  refine G_aload_n (pc := 56) rfl dX4_seek_56 ?_
  refine G_getR (pc := 57) (r := 19) (ci := 4) (j := 0) rfl lk_RX4_21 rfl rfl rfl dX4_seek_57 ?_
  refine G_getI (pc := 60) (v := 0) (ci := 1) (j := 8) rfl rfl lk_RX4_39 rfl rfl dX4_seek_60 ?_
  refine G_icmp_gt (pc := 63) (tgt := 208) (by decide) dX4_seek_63 (fun _ => ?_) (fun z => absurd (by decide) z)
  exact G_vret (pc := 208) (Nat.le_of_ble_eq_true rfl) (Nat.le_of_ble_eq_true rfl) rfl dX4_seek_208 ⟨rfl, rfl⟩
def F_best (n : Int32) : Int32 := if 0 ≤ n ∧ n ≤ 4 then 0 else -1
set_option maxRecDepth 100000 in
set_option maxHeartbeats 4000000 in
theorem x_best (d : Nat) (n : Int32) : G (d + 6) mX11_best 0 0 0 0 0 (gent 2 [.ref 0, .int n]) [] SH0 RF0 I0 (fun r h => ∃ I1, r = some (.int (F_best n)) ∧ h = (SH0, RF0, I1) ∧ ∀ a, 67 ≤ a → I1 a = I0 a) := by
  refine G_iload_n (pc := 0) rfl dX11_best_0 ?_
  refine G_callS (pc := 1) (mc1 := 0) (ms1 := 0) (mj := mX11_isPlan) (vs := [_]) dX11_best_1 cm_X11_isPlan wf_122 wf_124 rfl (Nat.le_of_ble_eq_true rfl) (Nat.le_of_ble_eq_true rfl) (Nat.le_of_ble_eq_true rfl) (Nat.le_of_ble_eq_true rfl) (isPlan_s (d + 4) n) ?_
  rintro _ _ ⟨rfl, rfl⟩
  dsimp only [Option.toList, List.cons_append, List.nil_append]
  refine G_if_ne (pc := 4) (tgt := 9) (by decide) dX11_best_4 (fun c410 => ?_) (fun c410 => ?_)
  · have c410 := gB_o c410
    refine G_aload_n (pc := 9) rfl dX11_best_9 ?_
    refine G_getR (pc := 10) (r := 51) (ci := 11) (j := 3) rfl lk_RX11_68 rfl rfl rfl dX11_best_10 ?_
    refine G_iconst (pc := 13) (v := 0) (by decide) dX11_best_13 ?_
    refine G_iload_n (pc := 14) rfl dX11_best_14 ?_
    by_cases c412 : n = 0
    · subst c412
      refine G_callVN (host := "IceKeys") (pc := 15) (mc1 := 0) (ms1 := 0) (ci := 4) (mj := mX4_seek) (vs := [_, _]) dX11_best_15 rfl rfl cm_X4_seek (by decide) wf_132 wf_133 rfl (Nat.le_of_ble_eq_true rfl) (Nat.le_of_ble_eq_true rfl) (Nat.le_of_ble_eq_true rfl) (Nat.le_of_ble_eq_true rfl) (s61_X4_seek  (d + 4)  ) ?_
      rintro _ _ ⟨rfl, rfl⟩
      dsimp only [Option.toList, List.cons_append, List.nil_append]
      refine G_aload_n (pc := 18) rfl dX11_best_18 ?_
      refine G_getR (pc := 19) (r := 51) (ci := 11) (j := 3) rfl lk_RX11_68 rfl rfl rfl dX11_best_19 ?_
      refine G_getR (pc := 22) (r := 52) (ci := 4) (j := 1) rfl lk_RX11_245 rfl rfl rfl dX11_best_22 ?_
      refine G_iconst (pc := 25) (v := 0) (by decide) dX11_best_25 ?_
      refine G_iald (pc := 26) (jj := 0) (v := 0) (by decide) rfl rfl (by unfold vp_in; decide) dX11_best_26 ?_
      exact G_iret (pc := 27) (Nat.le_of_ble_eq_true rfl) (Nat.le_of_ble_eq_true rfl) rfl dX11_best_27 ⟨_, by first | rfl | (simp [F_best, *]; done) | (simp only [F_best, Int32.le_iff_toInt_le, Int32.lt_iff_toInt_lt, ← Int32.toInt_inj]; simp; omega) | (simp only [F_best, Int32.le_iff_toInt_le, Int32.lt_iff_toInt_lt, ← Int32.toInt_inj]; split <;> first | rfl | (exfalso; simp at *; omega)) | (unfold F_best; (repeat' split) <;> first | rfl | (exfalso; (try simp only [Int32.le_iff_toInt_le, Int32.lt_iff_toInt_lt, ← Int32.toInt_inj] at *); first | omega | (simp at *; done) | (simp at *; omega))), rfl, fun a ha => by funext j; simp (disch := omega) only [gup_off, gcp_off]⟩
    by_cases c413 : n = 1
    · subst c413
      refine G_callVN (host := "IceKeys") (pc := 15) (mc1 := 0) (ms1 := 0) (ci := 4) (mj := mX4_seek) (vs := [_, _]) dX11_best_15 rfl rfl cm_X4_seek (by decide) wf_132 wf_133 rfl (Nat.le_of_ble_eq_true rfl) (Nat.le_of_ble_eq_true rfl) (Nat.le_of_ble_eq_true rfl) (Nat.le_of_ble_eq_true rfl) (s63_X4_seek  (d + 3)  ) ?_
      rintro _ _ ⟨rfl, rfl⟩
      dsimp only [Option.toList, List.cons_append, List.nil_append]
      refine G_aload_n (pc := 18) rfl dX11_best_18 ?_
      refine G_getR (pc := 19) (r := 51) (ci := 11) (j := 3) rfl lk_RX11_68 rfl rfl rfl dX11_best_19 ?_
      refine G_getR (pc := 22) (r := 52) (ci := 4) (j := 1) rfl lk_RX11_245 rfl rfl rfl dX11_best_22 ?_
      refine G_iconst (pc := 25) (v := 0) (by decide) dX11_best_25 ?_
      refine G_iald (pc := 26) (jj := 0) (v := 0) (by decide) rfl rfl (by unfold vp_in; decide) dX11_best_26 ?_
      exact G_iret (pc := 27) (Nat.le_of_ble_eq_true rfl) (Nat.le_of_ble_eq_true rfl) rfl dX11_best_27 ⟨_, by first | rfl | (simp [F_best, *]; done) | (simp only [F_best, Int32.le_iff_toInt_le, Int32.lt_iff_toInt_lt, ← Int32.toInt_inj]; simp; omega) | (simp only [F_best, Int32.le_iff_toInt_le, Int32.lt_iff_toInt_lt, ← Int32.toInt_inj]; split <;> first | rfl | (exfalso; simp at *; omega)) | (unfold F_best; (repeat' split) <;> first | rfl | (exfalso; (try simp only [Int32.le_iff_toInt_le, Int32.lt_iff_toInt_lt, ← Int32.toInt_inj] at *); first | omega | (simp at *; done) | (simp at *; omega))), rfl, fun a ha => by funext j; simp (disch := omega) only [gup_off, gcp_off]⟩
    by_cases c414 : n = 2
    · subst c414
      refine G_callVN (host := "IceKeys") (pc := 15) (mc1 := 0) (ms1 := 0) (ci := 4) (mj := mX4_seek) (vs := [_, _]) dX11_best_15 rfl rfl cm_X4_seek (by decide) wf_132 wf_133 rfl (Nat.le_of_ble_eq_true rfl) (Nat.le_of_ble_eq_true rfl) (Nat.le_of_ble_eq_true rfl) (Nat.le_of_ble_eq_true rfl) (s73_X4_seek  (d + 2)  ) ?_
      rintro _ _ ⟨rfl, rfl⟩
      dsimp only [Option.toList, List.cons_append, List.nil_append]
      refine G_aload_n (pc := 18) rfl dX11_best_18 ?_
      refine G_getR (pc := 19) (r := 51) (ci := 11) (j := 3) rfl lk_RX11_68 rfl rfl rfl dX11_best_19 ?_
      refine G_getR (pc := 22) (r := 52) (ci := 4) (j := 1) rfl lk_RX11_245 rfl rfl rfl dX11_best_22 ?_
      refine G_iconst (pc := 25) (v := 0) (by decide) dX11_best_25 ?_
      refine G_iald (pc := 26) (jj := 0) (v := 0) (by decide) rfl rfl (by unfold vp_in; decide) dX11_best_26 ?_
      exact G_iret (pc := 27) (Nat.le_of_ble_eq_true rfl) (Nat.le_of_ble_eq_true rfl) rfl dX11_best_27 ⟨_, by first | rfl | (simp [F_best, *]; done) | (simp only [F_best, Int32.le_iff_toInt_le, Int32.lt_iff_toInt_lt, ← Int32.toInt_inj]; simp; omega) | (simp only [F_best, Int32.le_iff_toInt_le, Int32.lt_iff_toInt_lt, ← Int32.toInt_inj]; split <;> first | rfl | (exfalso; simp at *; omega)) | (unfold F_best; (repeat' split) <;> first | rfl | (exfalso; (try simp only [Int32.le_iff_toInt_le, Int32.lt_iff_toInt_lt, ← Int32.toInt_inj] at *); first | omega | (simp at *; done) | (simp at *; omega))), rfl, fun a ha => by funext j; simp (disch := omega) only [gup_off, gcp_off]⟩
    by_cases c415 : n = 3
    · subst c415
      refine G_callVN (host := "IceKeys") (pc := 15) (mc1 := 0) (ms1 := 0) (ci := 4) (mj := mX4_seek) (vs := [_, _]) dX11_best_15 rfl rfl cm_X4_seek (by decide) wf_132 wf_133 rfl (Nat.le_of_ble_eq_true rfl) (Nat.le_of_ble_eq_true rfl) (Nat.le_of_ble_eq_true rfl) (Nat.le_of_ble_eq_true rfl) (s88_X4_seek  (d + 1)  ) ?_
      rintro _ _ ⟨rfl, rfl⟩
      dsimp only [Option.toList, List.cons_append, List.nil_append]
      refine G_aload_n (pc := 18) rfl dX11_best_18 ?_
      refine G_getR (pc := 19) (r := 51) (ci := 11) (j := 3) rfl lk_RX11_68 rfl rfl rfl dX11_best_19 ?_
      refine G_getR (pc := 22) (r := 52) (ci := 4) (j := 1) rfl lk_RX11_245 rfl rfl rfl dX11_best_22 ?_
      refine G_iconst (pc := 25) (v := 0) (by decide) dX11_best_25 ?_
      refine G_iald (pc := 26) (jj := 0) (v := 0) (by decide) rfl rfl (by unfold vp_in; decide) dX11_best_26 ?_
      exact G_iret (pc := 27) (Nat.le_of_ble_eq_true rfl) (Nat.le_of_ble_eq_true rfl) rfl dX11_best_27 ⟨_, by first | rfl | (simp [F_best, *]; done) | (simp only [F_best, Int32.le_iff_toInt_le, Int32.lt_iff_toInt_lt, ← Int32.toInt_inj]; simp; omega) | (simp only [F_best, Int32.le_iff_toInt_le, Int32.lt_iff_toInt_lt, ← Int32.toInt_inj]; split <;> first | rfl | (exfalso; simp at *; omega)) | (unfold F_best; (repeat' split) <;> first | rfl | (exfalso; (try simp only [Int32.le_iff_toInt_le, Int32.lt_iff_toInt_lt, ← Int32.toInt_inj] at *); first | omega | (simp at *; done) | (simp at *; omega))), rfl, fun a ha => by funext j; simp (disch := omega) only [gup_off, gcp_off]⟩
    by_cases c416 : n = 4
    · subst c416
      refine G_callVN (host := "IceKeys") (pc := 15) (mc1 := 0) (ms1 := 0) (ci := 4) (mj := mX4_seek) (vs := [_, _]) dX11_best_15 rfl rfl cm_X4_seek (by decide) wf_132 wf_133 rfl (Nat.le_of_ble_eq_true rfl) (Nat.le_of_ble_eq_true rfl) (Nat.le_of_ble_eq_true rfl) (Nat.le_of_ble_eq_true rfl) (s107_X4_seek  d  ) ?_
      rintro _ _ ⟨rfl, rfl⟩
      dsimp only [Option.toList, List.cons_append, List.nil_append]
      refine G_aload_n (pc := 18) rfl dX11_best_18 ?_
      refine G_getR (pc := 19) (r := 51) (ci := 11) (j := 3) rfl lk_RX11_68 rfl rfl rfl dX11_best_19 ?_
      refine G_getR (pc := 22) (r := 52) (ci := 4) (j := 1) rfl lk_RX11_245 rfl rfl rfl dX11_best_22 ?_
      refine G_iconst (pc := 25) (v := 0) (by decide) dX11_best_25 ?_
      refine G_iald (pc := 26) (jj := 0) (v := 0) (by decide) rfl rfl (by unfold vp_in; decide) dX11_best_26 ?_
      exact G_iret (pc := 27) (Nat.le_of_ble_eq_true rfl) (Nat.le_of_ble_eq_true rfl) rfl dX11_best_27 ⟨_, by first | rfl | (simp [F_best, *]; done) | (simp only [F_best, Int32.le_iff_toInt_le, Int32.lt_iff_toInt_lt, ← Int32.toInt_inj]; simp; omega) | (simp only [F_best, Int32.le_iff_toInt_le, Int32.lt_iff_toInt_lt, ← Int32.toInt_inj]; split <;> first | rfl | (exfalso; simp at *; omega)) | (unfold F_best; (repeat' split) <;> first | rfl | (exfalso; (try simp only [Int32.le_iff_toInt_le, Int32.lt_iff_toInt_lt, ← Int32.toInt_inj] at *); first | omega | (simp at *; done) | (simp at *; omega))), rfl, fun a ha => by funext j; simp (disch := omega) only [gup_off, gcp_off]⟩
    exfalso
    have : 0 ≤ (n).toInt := Int32.le_iff_toInt_le.mp (c410.1)
    have : (n).toInt ≤ 4 := Int32.le_iff_toInt_le.mp (c410.2)
    have : (n).toInt ≠ 0 := g_ne (c412)
    have : (n).toInt ≠ 1 := g_ne (c413)
    have : (n).toInt ≠ 2 := g_ne (c414)
    have : (n).toInt ≠ 3 := g_ne (c415)
    have : (n).toInt ≠ 4 := g_ne (c416)
    omega
  · have c410 := gB_z c410
    refine G_iconst (pc := 7) (v := (-1)) (by decide) dX11_best_7 ?_
    exact G_iret (pc := 8) (Nat.le_of_ble_eq_true rfl) (Nat.le_of_ble_eq_true rfl) rfl dX11_best_8 ⟨_, by first | rfl | (simp [F_best, *]; done) | (have : ¬ (0 ≤ (n).toInt ∧ (n).toInt ≤ 4) := fun z => c410 ⟨Int32.le_iff_toInt_le.mpr z.1, Int32.le_iff_toInt_le.mpr z.2⟩; simp only [F_best, Int32.le_iff_toInt_le, Int32.lt_iff_toInt_lt, ← Int32.toInt_inj]; simp; omega) | (have : ¬ (0 ≤ (n).toInt ∧ (n).toInt ≤ 4) := fun z => c410 ⟨Int32.le_iff_toInt_le.mpr z.1, Int32.le_iff_toInt_le.mpr z.2⟩; simp only [F_best, Int32.le_iff_toInt_le, Int32.lt_iff_toInt_lt, ← Int32.toInt_inj]; split <;> first | rfl | (exfalso; simp at *; omega)) | (have : ¬ (0 ≤ (n).toInt ∧ (n).toInt ≤ 4) := fun z => c410 ⟨Int32.le_iff_toInt_le.mpr z.1, Int32.le_iff_toInt_le.mpr z.2⟩; unfold F_best; (repeat' split) <;> first | rfl | (exfalso; (try simp only [Int32.le_iff_toInt_le, Int32.lt_iff_toInt_lt, ← Int32.toInt_inj] at *); first | omega | (simp at *; done) | (simp at *; omega))), rfl, fun _ _ => rfl⟩
def F_ways (n : Int32) : Int32 := if 0 ≤ n ∧ n ≤ 4 then 1 else -1
set_option maxRecDepth 100000 in
set_option maxHeartbeats 4000000 in
theorem x_ways (d : Nat) (n : Int32) : G (d + 6) mX11_ways 0 0 0 0 0 (gent 2 [.ref 0, .int n]) [] SH0 RF0 I0 (fun r h => ∃ I1, r = some (.int (F_ways n)) ∧ h = (SH0, RF0, I1) ∧ ∀ a, 67 ≤ a → I1 a = I0 a) := by
  refine G_iload_n (pc := 0) rfl dX11_ways_0 ?_
  refine G_callS (pc := 1) (mc1 := 0) (ms1 := 0) (mj := mX11_isPlan) (vs := [_]) dX11_ways_1 cm_X11_isPlan wf_122 wf_124 rfl (Nat.le_of_ble_eq_true rfl) (Nat.le_of_ble_eq_true rfl) (Nat.le_of_ble_eq_true rfl) (Nat.le_of_ble_eq_true rfl) (isPlan_s (d + 4) n) ?_
  rintro _ _ ⟨rfl, rfl⟩
  dsimp only [Option.toList, List.cons_append, List.nil_append]
  refine G_if_ne (pc := 4) (tgt := 9) (by decide) dX11_ways_4 (fun c417 => ?_) (fun c417 => ?_)
  · have c417 := gB_o c417
    refine G_aload_n (pc := 9) rfl dX11_ways_9 ?_
    refine G_getR (pc := 10) (r := 51) (ci := 11) (j := 3) rfl lk_RX11_68 rfl rfl rfl dX11_ways_10 ?_
    refine G_iconst (pc := 13) (v := 0) (by decide) dX11_ways_13 ?_
    refine G_iload_n (pc := 14) rfl dX11_ways_14 ?_
    by_cases c419 : n = 0
    · subst c419
      refine G_callVN (host := "IceKeys") (pc := 15) (mc1 := 0) (ms1 := 0) (ci := 4) (mj := mX4_seek) (vs := [_, _]) dX11_ways_15 rfl rfl cm_X4_seek (by decide) wf_132 wf_133 rfl (Nat.le_of_ble_eq_true rfl) (Nat.le_of_ble_eq_true rfl) (Nat.le_of_ble_eq_true rfl) (Nat.le_of_ble_eq_true rfl) (s61_X4_seek  (d + 4)  ) ?_
      rintro _ _ ⟨rfl, rfl⟩
      dsimp only [Option.toList, List.cons_append, List.nil_append]
      refine G_aload_n (pc := 18) rfl dX11_ways_18 ?_
      refine G_getR (pc := 19) (r := 51) (ci := 11) (j := 3) rfl lk_RX11_68 rfl rfl rfl dX11_ways_19 ?_
      refine G_getR (pc := 22) (r := 53) (ci := 4) (j := 2) rfl lk_RX11_254 rfl rfl rfl dX11_ways_22 ?_
      refine G_iconst (pc := 25) (v := 0) (by decide) dX11_ways_25 ?_
      refine G_iald (pc := 26) (jj := 0) (v := 1) (by decide) rfl rfl (by unfold vp_in; decide) dX11_ways_26 ?_
      exact G_iret (pc := 27) (Nat.le_of_ble_eq_true rfl) (Nat.le_of_ble_eq_true rfl) rfl dX11_ways_27 ⟨_, by first | rfl | (simp [F_ways, *]; done) | (simp only [F_ways, Int32.le_iff_toInt_le, Int32.lt_iff_toInt_lt, ← Int32.toInt_inj]; simp; omega) | (simp only [F_ways, Int32.le_iff_toInt_le, Int32.lt_iff_toInt_lt, ← Int32.toInt_inj]; split <;> first | rfl | (exfalso; simp at *; omega)) | (unfold F_ways; (repeat' split) <;> first | rfl | (exfalso; (try simp only [Int32.le_iff_toInt_le, Int32.lt_iff_toInt_lt, ← Int32.toInt_inj] at *); first | omega | (simp at *; done) | (simp at *; omega))), rfl, fun a ha => by funext j; simp (disch := omega) only [gup_off, gcp_off]⟩
    by_cases c420 : n = 1
    · subst c420
      refine G_callVN (host := "IceKeys") (pc := 15) (mc1 := 0) (ms1 := 0) (ci := 4) (mj := mX4_seek) (vs := [_, _]) dX11_ways_15 rfl rfl cm_X4_seek (by decide) wf_132 wf_133 rfl (Nat.le_of_ble_eq_true rfl) (Nat.le_of_ble_eq_true rfl) (Nat.le_of_ble_eq_true rfl) (Nat.le_of_ble_eq_true rfl) (s63_X4_seek  (d + 3)  ) ?_
      rintro _ _ ⟨rfl, rfl⟩
      dsimp only [Option.toList, List.cons_append, List.nil_append]
      refine G_aload_n (pc := 18) rfl dX11_ways_18 ?_
      refine G_getR (pc := 19) (r := 51) (ci := 11) (j := 3) rfl lk_RX11_68 rfl rfl rfl dX11_ways_19 ?_
      refine G_getR (pc := 22) (r := 53) (ci := 4) (j := 2) rfl lk_RX11_254 rfl rfl rfl dX11_ways_22 ?_
      refine G_iconst (pc := 25) (v := 0) (by decide) dX11_ways_25 ?_
      refine G_iald (pc := 26) (jj := 0) (v := 1) (by decide) rfl rfl (by unfold vp_in; decide) dX11_ways_26 ?_
      exact G_iret (pc := 27) (Nat.le_of_ble_eq_true rfl) (Nat.le_of_ble_eq_true rfl) rfl dX11_ways_27 ⟨_, by first | rfl | (simp [F_ways, *]; done) | (simp only [F_ways, Int32.le_iff_toInt_le, Int32.lt_iff_toInt_lt, ← Int32.toInt_inj]; simp; omega) | (simp only [F_ways, Int32.le_iff_toInt_le, Int32.lt_iff_toInt_lt, ← Int32.toInt_inj]; split <;> first | rfl | (exfalso; simp at *; omega)) | (unfold F_ways; (repeat' split) <;> first | rfl | (exfalso; (try simp only [Int32.le_iff_toInt_le, Int32.lt_iff_toInt_lt, ← Int32.toInt_inj] at *); first | omega | (simp at *; done) | (simp at *; omega))), rfl, fun a ha => by funext j; simp (disch := omega) only [gup_off, gcp_off]⟩
    by_cases c421 : n = 2
    · subst c421
      refine G_callVN (host := "IceKeys") (pc := 15) (mc1 := 0) (ms1 := 0) (ci := 4) (mj := mX4_seek) (vs := [_, _]) dX11_ways_15 rfl rfl cm_X4_seek (by decide) wf_132 wf_133 rfl (Nat.le_of_ble_eq_true rfl) (Nat.le_of_ble_eq_true rfl) (Nat.le_of_ble_eq_true rfl) (Nat.le_of_ble_eq_true rfl) (s73_X4_seek  (d + 2)  ) ?_
      rintro _ _ ⟨rfl, rfl⟩
      dsimp only [Option.toList, List.cons_append, List.nil_append]
      refine G_aload_n (pc := 18) rfl dX11_ways_18 ?_
      refine G_getR (pc := 19) (r := 51) (ci := 11) (j := 3) rfl lk_RX11_68 rfl rfl rfl dX11_ways_19 ?_
      refine G_getR (pc := 22) (r := 53) (ci := 4) (j := 2) rfl lk_RX11_254 rfl rfl rfl dX11_ways_22 ?_
      refine G_iconst (pc := 25) (v := 0) (by decide) dX11_ways_25 ?_
      refine G_iald (pc := 26) (jj := 0) (v := 1) (by decide) rfl rfl (by unfold vp_in; decide) dX11_ways_26 ?_
      exact G_iret (pc := 27) (Nat.le_of_ble_eq_true rfl) (Nat.le_of_ble_eq_true rfl) rfl dX11_ways_27 ⟨_, by first | rfl | (simp [F_ways, *]; done) | (simp only [F_ways, Int32.le_iff_toInt_le, Int32.lt_iff_toInt_lt, ← Int32.toInt_inj]; simp; omega) | (simp only [F_ways, Int32.le_iff_toInt_le, Int32.lt_iff_toInt_lt, ← Int32.toInt_inj]; split <;> first | rfl | (exfalso; simp at *; omega)) | (unfold F_ways; (repeat' split) <;> first | rfl | (exfalso; (try simp only [Int32.le_iff_toInt_le, Int32.lt_iff_toInt_lt, ← Int32.toInt_inj] at *); first | omega | (simp at *; done) | (simp at *; omega))), rfl, fun a ha => by funext j; simp (disch := omega) only [gup_off, gcp_off]⟩
    by_cases c422 : n = 3
    · subst c422
      refine G_callVN (host := "IceKeys") (pc := 15) (mc1 := 0) (ms1 := 0) (ci := 4) (mj := mX4_seek) (vs := [_, _]) dX11_ways_15 rfl rfl cm_X4_seek (by decide) wf_132 wf_133 rfl (Nat.le_of_ble_eq_true rfl) (Nat.le_of_ble_eq_true rfl) (Nat.le_of_ble_eq_true rfl) (Nat.le_of_ble_eq_true rfl) (s88_X4_seek  (d + 1)  ) ?_
      rintro _ _ ⟨rfl, rfl⟩
      dsimp only [Option.toList, List.cons_append, List.nil_append]
      refine G_aload_n (pc := 18) rfl dX11_ways_18 ?_
      refine G_getR (pc := 19) (r := 51) (ci := 11) (j := 3) rfl lk_RX11_68 rfl rfl rfl dX11_ways_19 ?_
      refine G_getR (pc := 22) (r := 53) (ci := 4) (j := 2) rfl lk_RX11_254 rfl rfl rfl dX11_ways_22 ?_
      refine G_iconst (pc := 25) (v := 0) (by decide) dX11_ways_25 ?_
      refine G_iald (pc := 26) (jj := 0) (v := 1) (by decide) rfl rfl (by unfold vp_in; decide) dX11_ways_26 ?_
      exact G_iret (pc := 27) (Nat.le_of_ble_eq_true rfl) (Nat.le_of_ble_eq_true rfl) rfl dX11_ways_27 ⟨_, by first | rfl | (simp [F_ways, *]; done) | (simp only [F_ways, Int32.le_iff_toInt_le, Int32.lt_iff_toInt_lt, ← Int32.toInt_inj]; simp; omega) | (simp only [F_ways, Int32.le_iff_toInt_le, Int32.lt_iff_toInt_lt, ← Int32.toInt_inj]; split <;> first | rfl | (exfalso; simp at *; omega)) | (unfold F_ways; (repeat' split) <;> first | rfl | (exfalso; (try simp only [Int32.le_iff_toInt_le, Int32.lt_iff_toInt_lt, ← Int32.toInt_inj] at *); first | omega | (simp at *; done) | (simp at *; omega))), rfl, fun a ha => by funext j; simp (disch := omega) only [gup_off, gcp_off]⟩
    by_cases c423 : n = 4
    · subst c423
      refine G_callVN (host := "IceKeys") (pc := 15) (mc1 := 0) (ms1 := 0) (ci := 4) (mj := mX4_seek) (vs := [_, _]) dX11_ways_15 rfl rfl cm_X4_seek (by decide) wf_132 wf_133 rfl (Nat.le_of_ble_eq_true rfl) (Nat.le_of_ble_eq_true rfl) (Nat.le_of_ble_eq_true rfl) (Nat.le_of_ble_eq_true rfl) (s107_X4_seek  d  ) ?_
      rintro _ _ ⟨rfl, rfl⟩
      dsimp only [Option.toList, List.cons_append, List.nil_append]
      refine G_aload_n (pc := 18) rfl dX11_ways_18 ?_
      refine G_getR (pc := 19) (r := 51) (ci := 11) (j := 3) rfl lk_RX11_68 rfl rfl rfl dX11_ways_19 ?_
      refine G_getR (pc := 22) (r := 53) (ci := 4) (j := 2) rfl lk_RX11_254 rfl rfl rfl dX11_ways_22 ?_
      refine G_iconst (pc := 25) (v := 0) (by decide) dX11_ways_25 ?_
      refine G_iald (pc := 26) (jj := 0) (v := 1) (by decide) rfl rfl (by unfold vp_in; decide) dX11_ways_26 ?_
      exact G_iret (pc := 27) (Nat.le_of_ble_eq_true rfl) (Nat.le_of_ble_eq_true rfl) rfl dX11_ways_27 ⟨_, by first | rfl | (simp [F_ways, *]; done) | (simp only [F_ways, Int32.le_iff_toInt_le, Int32.lt_iff_toInt_lt, ← Int32.toInt_inj]; simp; omega) | (simp only [F_ways, Int32.le_iff_toInt_le, Int32.lt_iff_toInt_lt, ← Int32.toInt_inj]; split <;> first | rfl | (exfalso; simp at *; omega)) | (unfold F_ways; (repeat' split) <;> first | rfl | (exfalso; (try simp only [Int32.le_iff_toInt_le, Int32.lt_iff_toInt_lt, ← Int32.toInt_inj] at *); first | omega | (simp at *; done) | (simp at *; omega))), rfl, fun a ha => by funext j; simp (disch := omega) only [gup_off, gcp_off]⟩
    exfalso
    have : 0 ≤ (n).toInt := Int32.le_iff_toInt_le.mp (c417.1)
    have : (n).toInt ≤ 4 := Int32.le_iff_toInt_le.mp (c417.2)
    have : (n).toInt ≠ 0 := g_ne (c419)
    have : (n).toInt ≠ 1 := g_ne (c420)
    have : (n).toInt ≠ 2 := g_ne (c421)
    have : (n).toInt ≠ 3 := g_ne (c422)
    have : (n).toInt ≠ 4 := g_ne (c423)
    omega
  · have c417 := gB_z c417
    refine G_iconst (pc := 7) (v := (-1)) (by decide) dX11_ways_7 ?_
    exact G_iret (pc := 8) (Nat.le_of_ble_eq_true rfl) (Nat.le_of_ble_eq_true rfl) rfl dX11_ways_8 ⟨_, by first | rfl | (simp [F_ways, *]; done) | (have : ¬ (0 ≤ (n).toInt ∧ (n).toInt ≤ 4) := fun z => c417 ⟨Int32.le_iff_toInt_le.mpr z.1, Int32.le_iff_toInt_le.mpr z.2⟩; simp only [F_ways, Int32.le_iff_toInt_le, Int32.lt_iff_toInt_lt, ← Int32.toInt_inj]; simp; omega) | (have : ¬ (0 ≤ (n).toInt ∧ (n).toInt ≤ 4) := fun z => c417 ⟨Int32.le_iff_toInt_le.mpr z.1, Int32.le_iff_toInt_le.mpr z.2⟩; simp only [F_ways, Int32.le_iff_toInt_le, Int32.lt_iff_toInt_lt, ← Int32.toInt_inj]; split <;> first | rfl | (exfalso; simp at *; omega)) | (have : ¬ (0 ≤ (n).toInt ∧ (n).toInt ≤ 4) := fun z => c417 ⟨Int32.le_iff_toInt_le.mpr z.1, Int32.le_iff_toInt_le.mpr z.2⟩; unfold F_ways; (repeat' split) <;> first | rfl | (exfalso; (try simp only [Int32.le_iff_toInt_le, Int32.lt_iff_toInt_lt, ← Int32.toInt_inj] at *); first | omega | (simp at *; done) | (simp at *; omega))), rfl, fun _ _ => rfl⟩
set_option maxRecDepth 100000 in
set_option maxHeartbeats 4000000 in
theorem s132_X1_haltsOf  (d : Nat)   : G (d + 1) mX1_haltsOf 0 0 0 0 0 (gent 2 [.ref 19, .int 0]) [] SH0 RF0 I0 (fun r h => r = some (.int 0) ∧ h = (SH0, RF0, I0)) := by
  refine G_iconst (pc := 0) (v := 0) (by decide) dX1_haltsOf_0 ?_
  refine G_iload_n (pc := 1) rfl dX1_haltsOf_1 ?_
  refine G_aload_n (pc := 2) rfl dX1_haltsOf_2 ?_
  refine G_getI (pc := 3) (v := 12) (ci := 1) (j := 2) rfl rfl lk_RX1_9 rfl rfl dX1_haltsOf_3 ?_
  refine G_aload_n (pc := 6) rfl dX1_haltsOf_6 ?_
  refine G_getI (pc := 7) (v := 0) (ci := 1) (j := 1) rfl rfl lk_RX1_60 rfl rfl dX1_haltsOf_7 ?_
  refine G_isub (pc := 10) (z := 12) (by decide) dX1_haltsOf_10 ?_
  refine G_min (pc := 11) dX1_haltsOf_11 wf_143 wf_144 wf_145 wf_146 (Nat.le_of_ble_eq_true rfl) (Nat.le_of_ble_eq_true rfl) (Nat.le_of_ble_eq_true rfl) ?_
  rw [show (if (12 : Int32) < 0 then (12 : Int32) else 0) = 0 by decide]
  refine G_max (pc := 14) dX1_haltsOf_14 wf_147 wf_148 wf_145 wf_149 (Nat.le_of_ble_eq_true rfl) (Nat.le_of_ble_eq_true rfl) (Nat.le_of_ble_eq_true rfl) ?_
  rw [show (if (0 : Int32) < 0 then (0 : Int32) else 0) = 0 by decide]
  exact G_iret (pc := 17) (Nat.le_of_ble_eq_true rfl) (Nat.le_of_ble_eq_true rfl) rfl dX1_haltsOf_17 ⟨rfl, rfl⟩
set_option maxRecDepth 100000 in
set_option maxHeartbeats 4000000 in
theorem s133_X1_haltsOf  (d : Nat)   : G (d + 1) mX1_haltsOf 0 0 0 0 0 (gent 2 [.ref 19, .int 1]) [] SH0 RF0 I0 (fun r h => r = some (.int 1) ∧ h = (SH0, RF0, I0)) := by
  refine G_iconst (pc := 0) (v := 0) (by decide) dX1_haltsOf_0 ?_
  refine G_iload_n (pc := 1) rfl dX1_haltsOf_1 ?_
  refine G_aload_n (pc := 2) rfl dX1_haltsOf_2 ?_
  refine G_getI (pc := 3) (v := 12) (ci := 1) (j := 2) rfl rfl lk_RX1_9 rfl rfl dX1_haltsOf_3 ?_
  refine G_aload_n (pc := 6) rfl dX1_haltsOf_6 ?_
  refine G_getI (pc := 7) (v := 0) (ci := 1) (j := 1) rfl rfl lk_RX1_60 rfl rfl dX1_haltsOf_7 ?_
  refine G_isub (pc := 10) (z := 12) (by decide) dX1_haltsOf_10 ?_
  refine G_min (pc := 11) dX1_haltsOf_11 wf_143 wf_144 wf_145 wf_146 (Nat.le_of_ble_eq_true rfl) (Nat.le_of_ble_eq_true rfl) (Nat.le_of_ble_eq_true rfl) ?_
  rw [show (if (12 : Int32) < 1 then (12 : Int32) else 1) = 1 by decide]
  refine G_max (pc := 14) dX1_haltsOf_14 wf_147 wf_148 wf_145 wf_149 (Nat.le_of_ble_eq_true rfl) (Nat.le_of_ble_eq_true rfl) (Nat.le_of_ble_eq_true rfl) ?_
  rw [show (if (0 : Int32) < 1 then (1 : Int32) else 0) = 1 by decide]
  exact G_iret (pc := 17) (Nat.le_of_ble_eq_true rfl) (Nat.le_of_ble_eq_true rfl) rfl dX1_haltsOf_17 ⟨rfl, rfl⟩
set_option maxRecDepth 100000 in
set_option maxHeartbeats 4000000 in
theorem s134_X1_haltsOf  (d : Nat)   : G (d + 1) mX1_haltsOf 0 0 0 0 0 (gent 2 [.ref 19, .int 2]) [] SH0 RF0 I0 (fun r h => r = some (.int 2) ∧ h = (SH0, RF0, I0)) := by
  refine G_iconst (pc := 0) (v := 0) (by decide) dX1_haltsOf_0 ?_
  refine G_iload_n (pc := 1) rfl dX1_haltsOf_1 ?_
  refine G_aload_n (pc := 2) rfl dX1_haltsOf_2 ?_
  refine G_getI (pc := 3) (v := 12) (ci := 1) (j := 2) rfl rfl lk_RX1_9 rfl rfl dX1_haltsOf_3 ?_
  refine G_aload_n (pc := 6) rfl dX1_haltsOf_6 ?_
  refine G_getI (pc := 7) (v := 0) (ci := 1) (j := 1) rfl rfl lk_RX1_60 rfl rfl dX1_haltsOf_7 ?_
  refine G_isub (pc := 10) (z := 12) (by decide) dX1_haltsOf_10 ?_
  refine G_min (pc := 11) dX1_haltsOf_11 wf_143 wf_144 wf_145 wf_146 (Nat.le_of_ble_eq_true rfl) (Nat.le_of_ble_eq_true rfl) (Nat.le_of_ble_eq_true rfl) ?_
  rw [show (if (12 : Int32) < 2 then (12 : Int32) else 2) = 2 by decide]
  refine G_max (pc := 14) dX1_haltsOf_14 wf_147 wf_148 wf_145 wf_149 (Nat.le_of_ble_eq_true rfl) (Nat.le_of_ble_eq_true rfl) (Nat.le_of_ble_eq_true rfl) ?_
  rw [show (if (0 : Int32) < 2 then (2 : Int32) else 0) = 2 by decide]
  exact G_iret (pc := 17) (Nat.le_of_ble_eq_true rfl) (Nat.le_of_ble_eq_true rfl) rfl dX1_haltsOf_17 ⟨rfl, rfl⟩
set_option maxRecDepth 100000 in
set_option maxHeartbeats 4000000 in
theorem s135_X1_haltsOf  (d : Nat)   : G (d + 1) mX1_haltsOf 0 0 0 0 0 (gent 2 [.ref 19, .int 3]) [] SH0 RF0 I0 (fun r h => r = some (.int 3) ∧ h = (SH0, RF0, I0)) := by
  refine G_iconst (pc := 0) (v := 0) (by decide) dX1_haltsOf_0 ?_
  refine G_iload_n (pc := 1) rfl dX1_haltsOf_1 ?_
  refine G_aload_n (pc := 2) rfl dX1_haltsOf_2 ?_
  refine G_getI (pc := 3) (v := 12) (ci := 1) (j := 2) rfl rfl lk_RX1_9 rfl rfl dX1_haltsOf_3 ?_
  refine G_aload_n (pc := 6) rfl dX1_haltsOf_6 ?_
  refine G_getI (pc := 7) (v := 0) (ci := 1) (j := 1) rfl rfl lk_RX1_60 rfl rfl dX1_haltsOf_7 ?_
  refine G_isub (pc := 10) (z := 12) (by decide) dX1_haltsOf_10 ?_
  refine G_min (pc := 11) dX1_haltsOf_11 wf_143 wf_144 wf_145 wf_146 (Nat.le_of_ble_eq_true rfl) (Nat.le_of_ble_eq_true rfl) (Nat.le_of_ble_eq_true rfl) ?_
  rw [show (if (12 : Int32) < 3 then (12 : Int32) else 3) = 3 by decide]
  refine G_max (pc := 14) dX1_haltsOf_14 wf_147 wf_148 wf_145 wf_149 (Nat.le_of_ble_eq_true rfl) (Nat.le_of_ble_eq_true rfl) (Nat.le_of_ble_eq_true rfl) ?_
  rw [show (if (0 : Int32) < 3 then (3 : Int32) else 0) = 3 by decide]
  exact G_iret (pc := 17) (Nat.le_of_ble_eq_true rfl) (Nat.le_of_ble_eq_true rfl) rfl dX1_haltsOf_17 ⟨rfl, rfl⟩
set_option maxRecDepth 100000 in
set_option maxHeartbeats 4000000 in
theorem s136_X1_haltsOf  (d : Nat)   : G (d + 1) mX1_haltsOf 0 0 0 0 0 (gent 2 [.ref 19, .int 4]) [] SH0 RF0 I0 (fun r h => r = some (.int 4) ∧ h = (SH0, RF0, I0)) := by
  refine G_iconst (pc := 0) (v := 0) (by decide) dX1_haltsOf_0 ?_
  refine G_iload_n (pc := 1) rfl dX1_haltsOf_1 ?_
  refine G_aload_n (pc := 2) rfl dX1_haltsOf_2 ?_
  refine G_getI (pc := 3) (v := 12) (ci := 1) (j := 2) rfl rfl lk_RX1_9 rfl rfl dX1_haltsOf_3 ?_
  refine G_aload_n (pc := 6) rfl dX1_haltsOf_6 ?_
  refine G_getI (pc := 7) (v := 0) (ci := 1) (j := 1) rfl rfl lk_RX1_60 rfl rfl dX1_haltsOf_7 ?_
  refine G_isub (pc := 10) (z := 12) (by decide) dX1_haltsOf_10 ?_
  refine G_min (pc := 11) dX1_haltsOf_11 wf_143 wf_144 wf_145 wf_146 (Nat.le_of_ble_eq_true rfl) (Nat.le_of_ble_eq_true rfl) (Nat.le_of_ble_eq_true rfl) ?_
  rw [show (if (12 : Int32) < 4 then (12 : Int32) else 4) = 4 by decide]
  refine G_max (pc := 14) dX1_haltsOf_14 wf_147 wf_148 wf_145 wf_149 (Nat.le_of_ble_eq_true rfl) (Nat.le_of_ble_eq_true rfl) (Nat.le_of_ble_eq_true rfl) ?_
  rw [show (if (0 : Int32) < 4 then (4 : Int32) else 0) = 4 by decide]
  exact G_iret (pc := 17) (Nat.le_of_ble_eq_true rfl) (Nat.le_of_ble_eq_true rfl) rfl dX1_haltsOf_17 ⟨rfl, rfl⟩
def F_ith (n : Int32) (i : Int32) : Int32 := if (0 ≤ n ∧ n ≤ 4) ∧ (0 ≤ i ∧ i ≤ 3) then (if i < n then 0 else -3) else -1
set_option maxRecDepth 100000 in
set_option maxHeartbeats 4000000 in
theorem x_ith (d : Nat) (n : Int32) (i : Int32) : G (d + 6) mX11_ith 0 0 0 0 0 (gent 3 [.ref 0, .int n, .int i]) [] SH0 RF0 I0 (fun r h => ∃ I1, r = some (.int (F_ith n i)) ∧ h = (SH0, RF0, I1) ∧ ∀ a, 67 ≤ a → I1 a = I0 a) := by
  refine G_iload_n (pc := 0) rfl dX11_ith_0 ?_
  refine G_callS (pc := 1) (mc1 := 0) (ms1 := 0) (mj := mX11_isPlan) (vs := [_]) dX11_ith_1 cm_X11_isPlan wf_122 wf_124 rfl (Nat.le_of_ble_eq_true rfl) (Nat.le_of_ble_eq_true rfl) (Nat.le_of_ble_eq_true rfl) (Nat.le_of_ble_eq_true rfl) (isPlan_s (d + 4) n) ?_
  rintro _ _ ⟨rfl, rfl⟩
  dsimp only [Option.toList, List.cons_append, List.nil_append]
  refine G_if_eq (pc := 4) (tgt := 16) (by decide) dX11_ith_4 (fun c424 => ?_) (fun c424 => ?_)
  · have c424 := gB_z c424
    refine G_iconst (pc := 16) (v := (-1)) (by decide) dX11_ith_16 ?_
    exact G_iret (pc := 17) (Nat.le_of_ble_eq_true rfl) (Nat.le_of_ble_eq_true rfl) rfl dX11_ith_17 ⟨_, by first | rfl | (simp [F_ith, *]; done) | (have : ¬ (0 ≤ (n).toInt ∧ (n).toInt ≤ 4) := fun z => c424 ⟨Int32.le_iff_toInt_le.mpr z.1, Int32.le_iff_toInt_le.mpr z.2⟩; simp only [F_ith, Int32.le_iff_toInt_le, Int32.lt_iff_toInt_lt, ← Int32.toInt_inj]; simp; omega) | (have : ¬ (0 ≤ (n).toInt ∧ (n).toInt ≤ 4) := fun z => c424 ⟨Int32.le_iff_toInt_le.mpr z.1, Int32.le_iff_toInt_le.mpr z.2⟩; simp only [F_ith, Int32.le_iff_toInt_le, Int32.lt_iff_toInt_lt, ← Int32.toInt_inj]; split <;> first | rfl | (exfalso; simp at *; omega)) | (have : ¬ (0 ≤ (n).toInt ∧ (n).toInt ≤ 4) := fun z => c424 ⟨Int32.le_iff_toInt_le.mpr z.1, Int32.le_iff_toInt_le.mpr z.2⟩; unfold F_ith; (repeat' split) <;> first | rfl | (exfalso; (try simp only [Int32.le_iff_toInt_le, Int32.lt_iff_toInt_lt, ← Int32.toInt_inj] at *); first | omega | (simp at *; done) | (simp at *; omega))), rfl, fun _ _ => rfl⟩
  · have c424 := gB_o c424
    refine G_iload_n (pc := 7) rfl dX11_ith_7 ?_
    refine G_iconst (pc := 8) (v := 0) (by decide) dX11_ith_8 ?_
    refine G_iconst (pc := 9) (v := 3) (by decide) dX11_ith_9 ?_
    refine G_callS (pc := 10) (mc1 := 0) (ms1 := 0) (mj := mX11_isIn) (vs := [_, _, _]) dX11_ith_10 cm_X11_isIn wf_4 wf_6 rfl (Nat.le_of_ble_eq_true rfl) (Nat.le_of_ble_eq_true rfl) (Nat.le_of_ble_eq_true rfl) (Nat.le_of_ble_eq_true rfl) (isIn_s (d + 5) i 0 3) ?_
    rintro _ _ ⟨rfl, rfl⟩
    dsimp only [Option.toList, List.cons_append, List.nil_append]
    refine G_if_ne (pc := 13) (tgt := 18) (by decide) dX11_ith_13 (fun c425 => ?_) (fun c425 => ?_)
    · have c425 := gB_o c425
      by_cases c426 : n = 0
      · subst c426
        by_cases c427 : i = 0
        · subst c427
          refine G_iload_n (pc := 18) rfl dX11_ith_18 ?_
          refine G_aload_n (pc := 19) rfl dX11_ith_19 ?_
          refine G_getR (pc := 20) (r := 19) (ci := 11) (j := 0) rfl lk_RX11_56 rfl rfl rfl dX11_ith_20 ?_
          refine G_iload_n (pc := 23) rfl dX11_ith_23 ?_
          refine G_callV (pc := 24) (mc1 := 0) (ms1 := 0) (ci := 1) (mj := mX1_haltsOf) (vs := [_]) dX11_ith_24 rfl rfl cm_X1_haltsOf wf_150 wf_152 wf_153 rfl (Nat.le_of_ble_eq_true rfl) (Nat.le_of_ble_eq_true rfl) (Nat.le_of_ble_eq_true rfl) (Nat.le_of_ble_eq_true rfl) (s132_X1_haltsOf  (d + 4)  ) ?_
          rintro _ _ ⟨rfl, rfl⟩
          dsimp only [Option.toList, List.cons_append, List.nil_append]
          refine G_icmp_lt (pc := 27) (tgt := 33) (by decide) dX11_ith_27 (fun z => absurd z (by decide)) (fun _ => ?_)
          refine G_bipush (pc := 30) (v := (-3)) (by decide) dX11_ith_30 ?_
          exact G_iret (pc := 32) (Nat.le_of_ble_eq_true rfl) (Nat.le_of_ble_eq_true rfl) rfl dX11_ith_32 ⟨_, by first | rfl | (simp [F_ith, *]; done) | (simp only [F_ith, Int32.le_iff_toInt_le, Int32.lt_iff_toInt_lt, ← Int32.toInt_inj]; simp; omega) | (simp only [F_ith, Int32.le_iff_toInt_le, Int32.lt_iff_toInt_lt, ← Int32.toInt_inj]; split <;> first | rfl | (exfalso; simp at *; omega)) | (unfold F_ith; (repeat' split) <;> first | rfl | (exfalso; (try simp only [Int32.le_iff_toInt_le, Int32.lt_iff_toInt_lt, ← Int32.toInt_inj] at *); first | omega | (simp at *; done) | (simp at *; omega))), rfl, fun _ _ => rfl⟩
        by_cases c428 : i = 1
        · subst c428
          refine G_iload_n (pc := 18) rfl dX11_ith_18 ?_
          refine G_aload_n (pc := 19) rfl dX11_ith_19 ?_
          refine G_getR (pc := 20) (r := 19) (ci := 11) (j := 0) rfl lk_RX11_56 rfl rfl rfl dX11_ith_20 ?_
          refine G_iload_n (pc := 23) rfl dX11_ith_23 ?_
          refine G_callV (pc := 24) (mc1 := 0) (ms1 := 0) (ci := 1) (mj := mX1_haltsOf) (vs := [_]) dX11_ith_24 rfl rfl cm_X1_haltsOf wf_150 wf_152 wf_153 rfl (Nat.le_of_ble_eq_true rfl) (Nat.le_of_ble_eq_true rfl) (Nat.le_of_ble_eq_true rfl) (Nat.le_of_ble_eq_true rfl) (s132_X1_haltsOf  (d + 4)  ) ?_
          rintro _ _ ⟨rfl, rfl⟩
          dsimp only [Option.toList, List.cons_append, List.nil_append]
          refine G_icmp_lt (pc := 27) (tgt := 33) (by decide) dX11_ith_27 (fun z => absurd z (by decide)) (fun _ => ?_)
          refine G_bipush (pc := 30) (v := (-3)) (by decide) dX11_ith_30 ?_
          exact G_iret (pc := 32) (Nat.le_of_ble_eq_true rfl) (Nat.le_of_ble_eq_true rfl) rfl dX11_ith_32 ⟨_, by first | rfl | (simp [F_ith, *]; done) | (simp only [F_ith, Int32.le_iff_toInt_le, Int32.lt_iff_toInt_lt, ← Int32.toInt_inj]; simp; omega) | (simp only [F_ith, Int32.le_iff_toInt_le, Int32.lt_iff_toInt_lt, ← Int32.toInt_inj]; split <;> first | rfl | (exfalso; simp at *; omega)) | (unfold F_ith; (repeat' split) <;> first | rfl | (exfalso; (try simp only [Int32.le_iff_toInt_le, Int32.lt_iff_toInt_lt, ← Int32.toInt_inj] at *); first | omega | (simp at *; done) | (simp at *; omega))), rfl, fun _ _ => rfl⟩
        by_cases c429 : i = 2
        · subst c429
          refine G_iload_n (pc := 18) rfl dX11_ith_18 ?_
          refine G_aload_n (pc := 19) rfl dX11_ith_19 ?_
          refine G_getR (pc := 20) (r := 19) (ci := 11) (j := 0) rfl lk_RX11_56 rfl rfl rfl dX11_ith_20 ?_
          refine G_iload_n (pc := 23) rfl dX11_ith_23 ?_
          refine G_callV (pc := 24) (mc1 := 0) (ms1 := 0) (ci := 1) (mj := mX1_haltsOf) (vs := [_]) dX11_ith_24 rfl rfl cm_X1_haltsOf wf_150 wf_152 wf_153 rfl (Nat.le_of_ble_eq_true rfl) (Nat.le_of_ble_eq_true rfl) (Nat.le_of_ble_eq_true rfl) (Nat.le_of_ble_eq_true rfl) (s132_X1_haltsOf  (d + 4)  ) ?_
          rintro _ _ ⟨rfl, rfl⟩
          dsimp only [Option.toList, List.cons_append, List.nil_append]
          refine G_icmp_lt (pc := 27) (tgt := 33) (by decide) dX11_ith_27 (fun z => absurd z (by decide)) (fun _ => ?_)
          refine G_bipush (pc := 30) (v := (-3)) (by decide) dX11_ith_30 ?_
          exact G_iret (pc := 32) (Nat.le_of_ble_eq_true rfl) (Nat.le_of_ble_eq_true rfl) rfl dX11_ith_32 ⟨_, by first | rfl | (simp [F_ith, *]; done) | (simp only [F_ith, Int32.le_iff_toInt_le, Int32.lt_iff_toInt_lt, ← Int32.toInt_inj]; simp; omega) | (simp only [F_ith, Int32.le_iff_toInt_le, Int32.lt_iff_toInt_lt, ← Int32.toInt_inj]; split <;> first | rfl | (exfalso; simp at *; omega)) | (unfold F_ith; (repeat' split) <;> first | rfl | (exfalso; (try simp only [Int32.le_iff_toInt_le, Int32.lt_iff_toInt_lt, ← Int32.toInt_inj] at *); first | omega | (simp at *; done) | (simp at *; omega))), rfl, fun _ _ => rfl⟩
        by_cases c430 : i = 3
        · subst c430
          refine G_iload_n (pc := 18) rfl dX11_ith_18 ?_
          refine G_aload_n (pc := 19) rfl dX11_ith_19 ?_
          refine G_getR (pc := 20) (r := 19) (ci := 11) (j := 0) rfl lk_RX11_56 rfl rfl rfl dX11_ith_20 ?_
          refine G_iload_n (pc := 23) rfl dX11_ith_23 ?_
          refine G_callV (pc := 24) (mc1 := 0) (ms1 := 0) (ci := 1) (mj := mX1_haltsOf) (vs := [_]) dX11_ith_24 rfl rfl cm_X1_haltsOf wf_150 wf_152 wf_153 rfl (Nat.le_of_ble_eq_true rfl) (Nat.le_of_ble_eq_true rfl) (Nat.le_of_ble_eq_true rfl) (Nat.le_of_ble_eq_true rfl) (s132_X1_haltsOf  (d + 4)  ) ?_
          rintro _ _ ⟨rfl, rfl⟩
          dsimp only [Option.toList, List.cons_append, List.nil_append]
          refine G_icmp_lt (pc := 27) (tgt := 33) (by decide) dX11_ith_27 (fun z => absurd z (by decide)) (fun _ => ?_)
          refine G_bipush (pc := 30) (v := (-3)) (by decide) dX11_ith_30 ?_
          exact G_iret (pc := 32) (Nat.le_of_ble_eq_true rfl) (Nat.le_of_ble_eq_true rfl) rfl dX11_ith_32 ⟨_, by first | rfl | (simp [F_ith, *]; done) | (simp only [F_ith, Int32.le_iff_toInt_le, Int32.lt_iff_toInt_lt, ← Int32.toInt_inj]; simp; omega) | (simp only [F_ith, Int32.le_iff_toInt_le, Int32.lt_iff_toInt_lt, ← Int32.toInt_inj]; split <;> first | rfl | (exfalso; simp at *; omega)) | (unfold F_ith; (repeat' split) <;> first | rfl | (exfalso; (try simp only [Int32.le_iff_toInt_le, Int32.lt_iff_toInt_lt, ← Int32.toInt_inj] at *); first | omega | (simp at *; done) | (simp at *; omega))), rfl, fun _ _ => rfl⟩
        exfalso
        have : 0 ≤ (i).toInt := Int32.le_iff_toInt_le.mp (c425.1)
        have : (i).toInt ≤ 3 := Int32.le_iff_toInt_le.mp (c425.2)
        have : (i).toInt ≠ 0 := g_ne (c427)
        have : (i).toInt ≠ 1 := g_ne (c428)
        have : (i).toInt ≠ 2 := g_ne (c429)
        have : (i).toInt ≠ 3 := g_ne (c430)
        omega
      by_cases c431 : n = 1
      · subst c431
        by_cases c432 : i = 0
        · subst c432
          refine G_iload_n (pc := 18) rfl dX11_ith_18 ?_
          refine G_aload_n (pc := 19) rfl dX11_ith_19 ?_
          refine G_getR (pc := 20) (r := 19) (ci := 11) (j := 0) rfl lk_RX11_56 rfl rfl rfl dX11_ith_20 ?_
          refine G_iload_n (pc := 23) rfl dX11_ith_23 ?_
          refine G_callV (pc := 24) (mc1 := 0) (ms1 := 0) (ci := 1) (mj := mX1_haltsOf) (vs := [_]) dX11_ith_24 rfl rfl cm_X1_haltsOf wf_150 wf_152 wf_153 rfl (Nat.le_of_ble_eq_true rfl) (Nat.le_of_ble_eq_true rfl) (Nat.le_of_ble_eq_true rfl) (Nat.le_of_ble_eq_true rfl) (s133_X1_haltsOf  (d + 4)  ) ?_
          rintro _ _ ⟨rfl, rfl⟩
          dsimp only [Option.toList, List.cons_append, List.nil_append]
          refine G_icmp_lt (pc := 27) (tgt := 33) (by decide) dX11_ith_27 (fun _ => ?_) (fun z => absurd (by decide) z)
          refine G_aload_n (pc := 33) rfl dX11_ith_33 ?_
          refine G_getR (pc := 34) (r := 51) (ci := 11) (j := 3) rfl lk_RX11_68 rfl rfl rfl dX11_ith_34 ?_
          refine G_iconst (pc := 37) (v := 0) (by decide) dX11_ith_37 ?_
          refine G_iload_n (pc := 38) rfl dX11_ith_38 ?_
          refine G_callVN (host := "IceKeys") (pc := 39) (mc1 := 0) (ms1 := 0) (ci := 4) (mj := mX4_seek) (vs := [_, _]) dX11_ith_39 rfl rfl cm_X4_seek (by decide) wf_132 wf_133 rfl (Nat.le_of_ble_eq_true rfl) (Nat.le_of_ble_eq_true rfl) (Nat.le_of_ble_eq_true rfl) (Nat.le_of_ble_eq_true rfl) (s63_X4_seek  (d + 3)  ) ?_
          rintro _ _ ⟨rfl, rfl⟩
          dsimp only [Option.toList, List.cons_append, List.nil_append]
          refine G_aload_n (pc := 42) rfl dX11_ith_42 ?_
          refine G_getR (pc := 43) (r := 51) (ci := 11) (j := 3) rfl lk_RX11_68 rfl rfl rfl dX11_ith_43 ?_
          refine G_getR (pc := 46) (r := 54) (ci := 4) (j := 3) rfl lk_RX11_251 rfl rfl rfl dX11_ith_46 ?_
          refine G_iconst (pc := 49) (v := 0) (by decide) dX11_ith_49 ?_
          refine G_iald (pc := 50) (jj := 0) (v := 0) (by decide) rfl rfl (by unfold vp_in; decide) dX11_ith_50 ?_
          refine G_iconst (pc := 51) (v := 3) (by decide) dX11_ith_51 ?_
          refine G_iload_n (pc := 52) rfl dX11_ith_52 ?_
          refine G_imul (pc := 53) (z := 0) (by decide) dX11_ith_53 ?_
          refine G_ishr (pc := 54) (z := 0) (by decide) dX11_ith_54 ?_
          refine G_bipush (pc := 55) (v := 7) (by decide) dX11_ith_55 ?_
          refine G_iand (pc := 57) (z := 0) (by decide) dX11_ith_57 ?_
          exact G_iret (pc := 58) (Nat.le_of_ble_eq_true rfl) (Nat.le_of_ble_eq_true rfl) rfl dX11_ith_58 ⟨_, by first | rfl | (simp [F_ith, *]; done) | (simp only [F_ith, Int32.le_iff_toInt_le, Int32.lt_iff_toInt_lt, ← Int32.toInt_inj]; simp; omega) | (simp only [F_ith, Int32.le_iff_toInt_le, Int32.lt_iff_toInt_lt, ← Int32.toInt_inj]; split <;> first | rfl | (exfalso; simp at *; omega)) | (unfold F_ith; (repeat' split) <;> first | rfl | (exfalso; (try simp only [Int32.le_iff_toInt_le, Int32.lt_iff_toInt_lt, ← Int32.toInt_inj] at *); first | omega | (simp at *; done) | (simp at *; omega))), rfl, fun a ha => by funext j; simp (disch := omega) only [gup_off, gcp_off]⟩
        by_cases c433 : i = 1
        · subst c433
          refine G_iload_n (pc := 18) rfl dX11_ith_18 ?_
          refine G_aload_n (pc := 19) rfl dX11_ith_19 ?_
          refine G_getR (pc := 20) (r := 19) (ci := 11) (j := 0) rfl lk_RX11_56 rfl rfl rfl dX11_ith_20 ?_
          refine G_iload_n (pc := 23) rfl dX11_ith_23 ?_
          refine G_callV (pc := 24) (mc1 := 0) (ms1 := 0) (ci := 1) (mj := mX1_haltsOf) (vs := [_]) dX11_ith_24 rfl rfl cm_X1_haltsOf wf_150 wf_152 wf_153 rfl (Nat.le_of_ble_eq_true rfl) (Nat.le_of_ble_eq_true rfl) (Nat.le_of_ble_eq_true rfl) (Nat.le_of_ble_eq_true rfl) (s133_X1_haltsOf  (d + 4)  ) ?_
          rintro _ _ ⟨rfl, rfl⟩
          dsimp only [Option.toList, List.cons_append, List.nil_append]
          refine G_icmp_lt (pc := 27) (tgt := 33) (by decide) dX11_ith_27 (fun z => absurd z (by decide)) (fun _ => ?_)
          refine G_bipush (pc := 30) (v := (-3)) (by decide) dX11_ith_30 ?_
          exact G_iret (pc := 32) (Nat.le_of_ble_eq_true rfl) (Nat.le_of_ble_eq_true rfl) rfl dX11_ith_32 ⟨_, by first | rfl | (simp [F_ith, *]; done) | (simp only [F_ith, Int32.le_iff_toInt_le, Int32.lt_iff_toInt_lt, ← Int32.toInt_inj]; simp; omega) | (simp only [F_ith, Int32.le_iff_toInt_le, Int32.lt_iff_toInt_lt, ← Int32.toInt_inj]; split <;> first | rfl | (exfalso; simp at *; omega)) | (unfold F_ith; (repeat' split) <;> first | rfl | (exfalso; (try simp only [Int32.le_iff_toInt_le, Int32.lt_iff_toInt_lt, ← Int32.toInt_inj] at *); first | omega | (simp at *; done) | (simp at *; omega))), rfl, fun _ _ => rfl⟩
        by_cases c434 : i = 2
        · subst c434
          refine G_iload_n (pc := 18) rfl dX11_ith_18 ?_
          refine G_aload_n (pc := 19) rfl dX11_ith_19 ?_
          refine G_getR (pc := 20) (r := 19) (ci := 11) (j := 0) rfl lk_RX11_56 rfl rfl rfl dX11_ith_20 ?_
          refine G_iload_n (pc := 23) rfl dX11_ith_23 ?_
          refine G_callV (pc := 24) (mc1 := 0) (ms1 := 0) (ci := 1) (mj := mX1_haltsOf) (vs := [_]) dX11_ith_24 rfl rfl cm_X1_haltsOf wf_150 wf_152 wf_153 rfl (Nat.le_of_ble_eq_true rfl) (Nat.le_of_ble_eq_true rfl) (Nat.le_of_ble_eq_true rfl) (Nat.le_of_ble_eq_true rfl) (s133_X1_haltsOf  (d + 4)  ) ?_
          rintro _ _ ⟨rfl, rfl⟩
          dsimp only [Option.toList, List.cons_append, List.nil_append]
          refine G_icmp_lt (pc := 27) (tgt := 33) (by decide) dX11_ith_27 (fun z => absurd z (by decide)) (fun _ => ?_)
          refine G_bipush (pc := 30) (v := (-3)) (by decide) dX11_ith_30 ?_
          exact G_iret (pc := 32) (Nat.le_of_ble_eq_true rfl) (Nat.le_of_ble_eq_true rfl) rfl dX11_ith_32 ⟨_, by first | rfl | (simp [F_ith, *]; done) | (simp only [F_ith, Int32.le_iff_toInt_le, Int32.lt_iff_toInt_lt, ← Int32.toInt_inj]; simp; omega) | (simp only [F_ith, Int32.le_iff_toInt_le, Int32.lt_iff_toInt_lt, ← Int32.toInt_inj]; split <;> first | rfl | (exfalso; simp at *; omega)) | (unfold F_ith; (repeat' split) <;> first | rfl | (exfalso; (try simp only [Int32.le_iff_toInt_le, Int32.lt_iff_toInt_lt, ← Int32.toInt_inj] at *); first | omega | (simp at *; done) | (simp at *; omega))), rfl, fun _ _ => rfl⟩
        by_cases c435 : i = 3
        · subst c435
          refine G_iload_n (pc := 18) rfl dX11_ith_18 ?_
          refine G_aload_n (pc := 19) rfl dX11_ith_19 ?_
          refine G_getR (pc := 20) (r := 19) (ci := 11) (j := 0) rfl lk_RX11_56 rfl rfl rfl dX11_ith_20 ?_
          refine G_iload_n (pc := 23) rfl dX11_ith_23 ?_
          refine G_callV (pc := 24) (mc1 := 0) (ms1 := 0) (ci := 1) (mj := mX1_haltsOf) (vs := [_]) dX11_ith_24 rfl rfl cm_X1_haltsOf wf_150 wf_152 wf_153 rfl (Nat.le_of_ble_eq_true rfl) (Nat.le_of_ble_eq_true rfl) (Nat.le_of_ble_eq_true rfl) (Nat.le_of_ble_eq_true rfl) (s133_X1_haltsOf  (d + 4)  ) ?_
          rintro _ _ ⟨rfl, rfl⟩
          dsimp only [Option.toList, List.cons_append, List.nil_append]
          refine G_icmp_lt (pc := 27) (tgt := 33) (by decide) dX11_ith_27 (fun z => absurd z (by decide)) (fun _ => ?_)
          refine G_bipush (pc := 30) (v := (-3)) (by decide) dX11_ith_30 ?_
          exact G_iret (pc := 32) (Nat.le_of_ble_eq_true rfl) (Nat.le_of_ble_eq_true rfl) rfl dX11_ith_32 ⟨_, by first | rfl | (simp [F_ith, *]; done) | (simp only [F_ith, Int32.le_iff_toInt_le, Int32.lt_iff_toInt_lt, ← Int32.toInt_inj]; simp; omega) | (simp only [F_ith, Int32.le_iff_toInt_le, Int32.lt_iff_toInt_lt, ← Int32.toInt_inj]; split <;> first | rfl | (exfalso; simp at *; omega)) | (unfold F_ith; (repeat' split) <;> first | rfl | (exfalso; (try simp only [Int32.le_iff_toInt_le, Int32.lt_iff_toInt_lt, ← Int32.toInt_inj] at *); first | omega | (simp at *; done) | (simp at *; omega))), rfl, fun _ _ => rfl⟩
        exfalso
        have : 0 ≤ (i).toInt := Int32.le_iff_toInt_le.mp (c425.1)
        have : (i).toInt ≤ 3 := Int32.le_iff_toInt_le.mp (c425.2)
        have : (i).toInt ≠ 0 := g_ne (c432)
        have : (i).toInt ≠ 1 := g_ne (c433)
        have : (i).toInt ≠ 2 := g_ne (c434)
        have : (i).toInt ≠ 3 := g_ne (c435)
        omega
      by_cases c436 : n = 2
      · subst c436
        by_cases c437 : i = 0
        · subst c437
          refine G_iload_n (pc := 18) rfl dX11_ith_18 ?_
          refine G_aload_n (pc := 19) rfl dX11_ith_19 ?_
          refine G_getR (pc := 20) (r := 19) (ci := 11) (j := 0) rfl lk_RX11_56 rfl rfl rfl dX11_ith_20 ?_
          refine G_iload_n (pc := 23) rfl dX11_ith_23 ?_
          refine G_callV (pc := 24) (mc1 := 0) (ms1 := 0) (ci := 1) (mj := mX1_haltsOf) (vs := [_]) dX11_ith_24 rfl rfl cm_X1_haltsOf wf_150 wf_152 wf_153 rfl (Nat.le_of_ble_eq_true rfl) (Nat.le_of_ble_eq_true rfl) (Nat.le_of_ble_eq_true rfl) (Nat.le_of_ble_eq_true rfl) (s134_X1_haltsOf  (d + 4)  ) ?_
          rintro _ _ ⟨rfl, rfl⟩
          dsimp only [Option.toList, List.cons_append, List.nil_append]
          refine G_icmp_lt (pc := 27) (tgt := 33) (by decide) dX11_ith_27 (fun _ => ?_) (fun z => absurd (by decide) z)
          refine G_aload_n (pc := 33) rfl dX11_ith_33 ?_
          refine G_getR (pc := 34) (r := 51) (ci := 11) (j := 3) rfl lk_RX11_68 rfl rfl rfl dX11_ith_34 ?_
          refine G_iconst (pc := 37) (v := 0) (by decide) dX11_ith_37 ?_
          refine G_iload_n (pc := 38) rfl dX11_ith_38 ?_
          refine G_callVN (host := "IceKeys") (pc := 39) (mc1 := 0) (ms1 := 0) (ci := 4) (mj := mX4_seek) (vs := [_, _]) dX11_ith_39 rfl rfl cm_X4_seek (by decide) wf_132 wf_133 rfl (Nat.le_of_ble_eq_true rfl) (Nat.le_of_ble_eq_true rfl) (Nat.le_of_ble_eq_true rfl) (Nat.le_of_ble_eq_true rfl) (s73_X4_seek  (d + 2)  ) ?_
          rintro _ _ ⟨rfl, rfl⟩
          dsimp only [Option.toList, List.cons_append, List.nil_append]
          refine G_aload_n (pc := 42) rfl dX11_ith_42 ?_
          refine G_getR (pc := 43) (r := 51) (ci := 11) (j := 3) rfl lk_RX11_68 rfl rfl rfl dX11_ith_43 ?_
          refine G_getR (pc := 46) (r := 54) (ci := 4) (j := 3) rfl lk_RX11_251 rfl rfl rfl dX11_ith_46 ?_
          refine G_iconst (pc := 49) (v := 0) (by decide) dX11_ith_49 ?_
          refine G_iald (pc := 50) (jj := 0) (v := 0) (by decide) rfl rfl (by unfold vp_in; decide) dX11_ith_50 ?_
          refine G_iconst (pc := 51) (v := 3) (by decide) dX11_ith_51 ?_
          refine G_iload_n (pc := 52) rfl dX11_ith_52 ?_
          refine G_imul (pc := 53) (z := 0) (by decide) dX11_ith_53 ?_
          refine G_ishr (pc := 54) (z := 0) (by decide) dX11_ith_54 ?_
          refine G_bipush (pc := 55) (v := 7) (by decide) dX11_ith_55 ?_
          refine G_iand (pc := 57) (z := 0) (by decide) dX11_ith_57 ?_
          exact G_iret (pc := 58) (Nat.le_of_ble_eq_true rfl) (Nat.le_of_ble_eq_true rfl) rfl dX11_ith_58 ⟨_, by first | rfl | (simp [F_ith, *]; done) | (simp only [F_ith, Int32.le_iff_toInt_le, Int32.lt_iff_toInt_lt, ← Int32.toInt_inj]; simp; omega) | (simp only [F_ith, Int32.le_iff_toInt_le, Int32.lt_iff_toInt_lt, ← Int32.toInt_inj]; split <;> first | rfl | (exfalso; simp at *; omega)) | (unfold F_ith; (repeat' split) <;> first | rfl | (exfalso; (try simp only [Int32.le_iff_toInt_le, Int32.lt_iff_toInt_lt, ← Int32.toInt_inj] at *); first | omega | (simp at *; done) | (simp at *; omega))), rfl, fun a ha => by funext j; simp (disch := omega) only [gup_off, gcp_off]⟩
        by_cases c438 : i = 1
        · subst c438
          refine G_iload_n (pc := 18) rfl dX11_ith_18 ?_
          refine G_aload_n (pc := 19) rfl dX11_ith_19 ?_
          refine G_getR (pc := 20) (r := 19) (ci := 11) (j := 0) rfl lk_RX11_56 rfl rfl rfl dX11_ith_20 ?_
          refine G_iload_n (pc := 23) rfl dX11_ith_23 ?_
          refine G_callV (pc := 24) (mc1 := 0) (ms1 := 0) (ci := 1) (mj := mX1_haltsOf) (vs := [_]) dX11_ith_24 rfl rfl cm_X1_haltsOf wf_150 wf_152 wf_153 rfl (Nat.le_of_ble_eq_true rfl) (Nat.le_of_ble_eq_true rfl) (Nat.le_of_ble_eq_true rfl) (Nat.le_of_ble_eq_true rfl) (s134_X1_haltsOf  (d + 4)  ) ?_
          rintro _ _ ⟨rfl, rfl⟩
          dsimp only [Option.toList, List.cons_append, List.nil_append]
          refine G_icmp_lt (pc := 27) (tgt := 33) (by decide) dX11_ith_27 (fun _ => ?_) (fun z => absurd (by decide) z)
          refine G_aload_n (pc := 33) rfl dX11_ith_33 ?_
          refine G_getR (pc := 34) (r := 51) (ci := 11) (j := 3) rfl lk_RX11_68 rfl rfl rfl dX11_ith_34 ?_
          refine G_iconst (pc := 37) (v := 0) (by decide) dX11_ith_37 ?_
          refine G_iload_n (pc := 38) rfl dX11_ith_38 ?_
          refine G_callVN (host := "IceKeys") (pc := 39) (mc1 := 0) (ms1 := 0) (ci := 4) (mj := mX4_seek) (vs := [_, _]) dX11_ith_39 rfl rfl cm_X4_seek (by decide) wf_132 wf_133 rfl (Nat.le_of_ble_eq_true rfl) (Nat.le_of_ble_eq_true rfl) (Nat.le_of_ble_eq_true rfl) (Nat.le_of_ble_eq_true rfl) (s73_X4_seek  (d + 2)  ) ?_
          rintro _ _ ⟨rfl, rfl⟩
          dsimp only [Option.toList, List.cons_append, List.nil_append]
          refine G_aload_n (pc := 42) rfl dX11_ith_42 ?_
          refine G_getR (pc := 43) (r := 51) (ci := 11) (j := 3) rfl lk_RX11_68 rfl rfl rfl dX11_ith_43 ?_
          refine G_getR (pc := 46) (r := 54) (ci := 4) (j := 3) rfl lk_RX11_251 rfl rfl rfl dX11_ith_46 ?_
          refine G_iconst (pc := 49) (v := 0) (by decide) dX11_ith_49 ?_
          refine G_iald (pc := 50) (jj := 0) (v := 0) (by decide) rfl rfl (by unfold vp_in; decide) dX11_ith_50 ?_
          refine G_iconst (pc := 51) (v := 3) (by decide) dX11_ith_51 ?_
          refine G_iload_n (pc := 52) rfl dX11_ith_52 ?_
          refine G_imul (pc := 53) (z := 3) (by decide) dX11_ith_53 ?_
          refine G_ishr (pc := 54) (z := 0) (by decide) dX11_ith_54 ?_
          refine G_bipush (pc := 55) (v := 7) (by decide) dX11_ith_55 ?_
          refine G_iand (pc := 57) (z := 0) (by decide) dX11_ith_57 ?_
          exact G_iret (pc := 58) (Nat.le_of_ble_eq_true rfl) (Nat.le_of_ble_eq_true rfl) rfl dX11_ith_58 ⟨_, by first | rfl | (simp [F_ith, *]; done) | (simp only [F_ith, Int32.le_iff_toInt_le, Int32.lt_iff_toInt_lt, ← Int32.toInt_inj]; simp; omega) | (simp only [F_ith, Int32.le_iff_toInt_le, Int32.lt_iff_toInt_lt, ← Int32.toInt_inj]; split <;> first | rfl | (exfalso; simp at *; omega)) | (unfold F_ith; (repeat' split) <;> first | rfl | (exfalso; (try simp only [Int32.le_iff_toInt_le, Int32.lt_iff_toInt_lt, ← Int32.toInt_inj] at *); first | omega | (simp at *; done) | (simp at *; omega))), rfl, fun a ha => by funext j; simp (disch := omega) only [gup_off, gcp_off]⟩
        by_cases c439 : i = 2
        · subst c439
          refine G_iload_n (pc := 18) rfl dX11_ith_18 ?_
          refine G_aload_n (pc := 19) rfl dX11_ith_19 ?_
          refine G_getR (pc := 20) (r := 19) (ci := 11) (j := 0) rfl lk_RX11_56 rfl rfl rfl dX11_ith_20 ?_
          refine G_iload_n (pc := 23) rfl dX11_ith_23 ?_
          refine G_callV (pc := 24) (mc1 := 0) (ms1 := 0) (ci := 1) (mj := mX1_haltsOf) (vs := [_]) dX11_ith_24 rfl rfl cm_X1_haltsOf wf_150 wf_152 wf_153 rfl (Nat.le_of_ble_eq_true rfl) (Nat.le_of_ble_eq_true rfl) (Nat.le_of_ble_eq_true rfl) (Nat.le_of_ble_eq_true rfl) (s134_X1_haltsOf  (d + 4)  ) ?_
          rintro _ _ ⟨rfl, rfl⟩
          dsimp only [Option.toList, List.cons_append, List.nil_append]
          refine G_icmp_lt (pc := 27) (tgt := 33) (by decide) dX11_ith_27 (fun z => absurd z (by decide)) (fun _ => ?_)
          refine G_bipush (pc := 30) (v := (-3)) (by decide) dX11_ith_30 ?_
          exact G_iret (pc := 32) (Nat.le_of_ble_eq_true rfl) (Nat.le_of_ble_eq_true rfl) rfl dX11_ith_32 ⟨_, by first | rfl | (simp [F_ith, *]; done) | (simp only [F_ith, Int32.le_iff_toInt_le, Int32.lt_iff_toInt_lt, ← Int32.toInt_inj]; simp; omega) | (simp only [F_ith, Int32.le_iff_toInt_le, Int32.lt_iff_toInt_lt, ← Int32.toInt_inj]; split <;> first | rfl | (exfalso; simp at *; omega)) | (unfold F_ith; (repeat' split) <;> first | rfl | (exfalso; (try simp only [Int32.le_iff_toInt_le, Int32.lt_iff_toInt_lt, ← Int32.toInt_inj] at *); first | omega | (simp at *; done) | (simp at *; omega))), rfl, fun _ _ => rfl⟩
        by_cases c440 : i = 3
        · subst c440
          refine G_iload_n (pc := 18) rfl dX11_ith_18 ?_
          refine G_aload_n (pc := 19) rfl dX11_ith_19 ?_
          refine G_getR (pc := 20) (r := 19) (ci := 11) (j := 0) rfl lk_RX11_56 rfl rfl rfl dX11_ith_20 ?_
          refine G_iload_n (pc := 23) rfl dX11_ith_23 ?_
          refine G_callV (pc := 24) (mc1 := 0) (ms1 := 0) (ci := 1) (mj := mX1_haltsOf) (vs := [_]) dX11_ith_24 rfl rfl cm_X1_haltsOf wf_150 wf_152 wf_153 rfl (Nat.le_of_ble_eq_true rfl) (Nat.le_of_ble_eq_true rfl) (Nat.le_of_ble_eq_true rfl) (Nat.le_of_ble_eq_true rfl) (s134_X1_haltsOf  (d + 4)  ) ?_
          rintro _ _ ⟨rfl, rfl⟩
          dsimp only [Option.toList, List.cons_append, List.nil_append]
          refine G_icmp_lt (pc := 27) (tgt := 33) (by decide) dX11_ith_27 (fun z => absurd z (by decide)) (fun _ => ?_)
          refine G_bipush (pc := 30) (v := (-3)) (by decide) dX11_ith_30 ?_
          exact G_iret (pc := 32) (Nat.le_of_ble_eq_true rfl) (Nat.le_of_ble_eq_true rfl) rfl dX11_ith_32 ⟨_, by first | rfl | (simp [F_ith, *]; done) | (simp only [F_ith, Int32.le_iff_toInt_le, Int32.lt_iff_toInt_lt, ← Int32.toInt_inj]; simp; omega) | (simp only [F_ith, Int32.le_iff_toInt_le, Int32.lt_iff_toInt_lt, ← Int32.toInt_inj]; split <;> first | rfl | (exfalso; simp at *; omega)) | (unfold F_ith; (repeat' split) <;> first | rfl | (exfalso; (try simp only [Int32.le_iff_toInt_le, Int32.lt_iff_toInt_lt, ← Int32.toInt_inj] at *); first | omega | (simp at *; done) | (simp at *; omega))), rfl, fun _ _ => rfl⟩
        exfalso
        have : 0 ≤ (i).toInt := Int32.le_iff_toInt_le.mp (c425.1)
        have : (i).toInt ≤ 3 := Int32.le_iff_toInt_le.mp (c425.2)
        have : (i).toInt ≠ 0 := g_ne (c437)
        have : (i).toInt ≠ 1 := g_ne (c438)
        have : (i).toInt ≠ 2 := g_ne (c439)
        have : (i).toInt ≠ 3 := g_ne (c440)
        omega
      by_cases c441 : n = 3
      · subst c441
        by_cases c442 : i = 0
        · subst c442
          refine G_iload_n (pc := 18) rfl dX11_ith_18 ?_
          refine G_aload_n (pc := 19) rfl dX11_ith_19 ?_
          refine G_getR (pc := 20) (r := 19) (ci := 11) (j := 0) rfl lk_RX11_56 rfl rfl rfl dX11_ith_20 ?_
          refine G_iload_n (pc := 23) rfl dX11_ith_23 ?_
          refine G_callV (pc := 24) (mc1 := 0) (ms1 := 0) (ci := 1) (mj := mX1_haltsOf) (vs := [_]) dX11_ith_24 rfl rfl cm_X1_haltsOf wf_150 wf_152 wf_153 rfl (Nat.le_of_ble_eq_true rfl) (Nat.le_of_ble_eq_true rfl) (Nat.le_of_ble_eq_true rfl) (Nat.le_of_ble_eq_true rfl) (s135_X1_haltsOf  (d + 4)  ) ?_
          rintro _ _ ⟨rfl, rfl⟩
          dsimp only [Option.toList, List.cons_append, List.nil_append]
          refine G_icmp_lt (pc := 27) (tgt := 33) (by decide) dX11_ith_27 (fun _ => ?_) (fun z => absurd (by decide) z)
          refine G_aload_n (pc := 33) rfl dX11_ith_33 ?_
          refine G_getR (pc := 34) (r := 51) (ci := 11) (j := 3) rfl lk_RX11_68 rfl rfl rfl dX11_ith_34 ?_
          refine G_iconst (pc := 37) (v := 0) (by decide) dX11_ith_37 ?_
          refine G_iload_n (pc := 38) rfl dX11_ith_38 ?_
          refine G_callVN (host := "IceKeys") (pc := 39) (mc1 := 0) (ms1 := 0) (ci := 4) (mj := mX4_seek) (vs := [_, _]) dX11_ith_39 rfl rfl cm_X4_seek (by decide) wf_132 wf_133 rfl (Nat.le_of_ble_eq_true rfl) (Nat.le_of_ble_eq_true rfl) (Nat.le_of_ble_eq_true rfl) (Nat.le_of_ble_eq_true rfl) (s88_X4_seek  (d + 1)  ) ?_
          rintro _ _ ⟨rfl, rfl⟩
          dsimp only [Option.toList, List.cons_append, List.nil_append]
          refine G_aload_n (pc := 42) rfl dX11_ith_42 ?_
          refine G_getR (pc := 43) (r := 51) (ci := 11) (j := 3) rfl lk_RX11_68 rfl rfl rfl dX11_ith_43 ?_
          refine G_getR (pc := 46) (r := 54) (ci := 4) (j := 3) rfl lk_RX11_251 rfl rfl rfl dX11_ith_46 ?_
          refine G_iconst (pc := 49) (v := 0) (by decide) dX11_ith_49 ?_
          refine G_iald (pc := 50) (jj := 0) (v := 0) (by decide) rfl rfl (by unfold vp_in; decide) dX11_ith_50 ?_
          refine G_iconst (pc := 51) (v := 3) (by decide) dX11_ith_51 ?_
          refine G_iload_n (pc := 52) rfl dX11_ith_52 ?_
          refine G_imul (pc := 53) (z := 0) (by decide) dX11_ith_53 ?_
          refine G_ishr (pc := 54) (z := 0) (by decide) dX11_ith_54 ?_
          refine G_bipush (pc := 55) (v := 7) (by decide) dX11_ith_55 ?_
          refine G_iand (pc := 57) (z := 0) (by decide) dX11_ith_57 ?_
          exact G_iret (pc := 58) (Nat.le_of_ble_eq_true rfl) (Nat.le_of_ble_eq_true rfl) rfl dX11_ith_58 ⟨_, by first | rfl | (simp [F_ith, *]; done) | (simp only [F_ith, Int32.le_iff_toInt_le, Int32.lt_iff_toInt_lt, ← Int32.toInt_inj]; simp; omega) | (simp only [F_ith, Int32.le_iff_toInt_le, Int32.lt_iff_toInt_lt, ← Int32.toInt_inj]; split <;> first | rfl | (exfalso; simp at *; omega)) | (unfold F_ith; (repeat' split) <;> first | rfl | (exfalso; (try simp only [Int32.le_iff_toInt_le, Int32.lt_iff_toInt_lt, ← Int32.toInt_inj] at *); first | omega | (simp at *; done) | (simp at *; omega))), rfl, fun a ha => by funext j; simp (disch := omega) only [gup_off, gcp_off]⟩
        by_cases c443 : i = 1
        · subst c443
          refine G_iload_n (pc := 18) rfl dX11_ith_18 ?_
          refine G_aload_n (pc := 19) rfl dX11_ith_19 ?_
          refine G_getR (pc := 20) (r := 19) (ci := 11) (j := 0) rfl lk_RX11_56 rfl rfl rfl dX11_ith_20 ?_
          refine G_iload_n (pc := 23) rfl dX11_ith_23 ?_
          refine G_callV (pc := 24) (mc1 := 0) (ms1 := 0) (ci := 1) (mj := mX1_haltsOf) (vs := [_]) dX11_ith_24 rfl rfl cm_X1_haltsOf wf_150 wf_152 wf_153 rfl (Nat.le_of_ble_eq_true rfl) (Nat.le_of_ble_eq_true rfl) (Nat.le_of_ble_eq_true rfl) (Nat.le_of_ble_eq_true rfl) (s135_X1_haltsOf  (d + 4)  ) ?_
          rintro _ _ ⟨rfl, rfl⟩
          dsimp only [Option.toList, List.cons_append, List.nil_append]
          refine G_icmp_lt (pc := 27) (tgt := 33) (by decide) dX11_ith_27 (fun _ => ?_) (fun z => absurd (by decide) z)
          refine G_aload_n (pc := 33) rfl dX11_ith_33 ?_
          refine G_getR (pc := 34) (r := 51) (ci := 11) (j := 3) rfl lk_RX11_68 rfl rfl rfl dX11_ith_34 ?_
          refine G_iconst (pc := 37) (v := 0) (by decide) dX11_ith_37 ?_
          refine G_iload_n (pc := 38) rfl dX11_ith_38 ?_
          refine G_callVN (host := "IceKeys") (pc := 39) (mc1 := 0) (ms1 := 0) (ci := 4) (mj := mX4_seek) (vs := [_, _]) dX11_ith_39 rfl rfl cm_X4_seek (by decide) wf_132 wf_133 rfl (Nat.le_of_ble_eq_true rfl) (Nat.le_of_ble_eq_true rfl) (Nat.le_of_ble_eq_true rfl) (Nat.le_of_ble_eq_true rfl) (s88_X4_seek  (d + 1)  ) ?_
          rintro _ _ ⟨rfl, rfl⟩
          dsimp only [Option.toList, List.cons_append, List.nil_append]
          refine G_aload_n (pc := 42) rfl dX11_ith_42 ?_
          refine G_getR (pc := 43) (r := 51) (ci := 11) (j := 3) rfl lk_RX11_68 rfl rfl rfl dX11_ith_43 ?_
          refine G_getR (pc := 46) (r := 54) (ci := 4) (j := 3) rfl lk_RX11_251 rfl rfl rfl dX11_ith_46 ?_
          refine G_iconst (pc := 49) (v := 0) (by decide) dX11_ith_49 ?_
          refine G_iald (pc := 50) (jj := 0) (v := 0) (by decide) rfl rfl (by unfold vp_in; decide) dX11_ith_50 ?_
          refine G_iconst (pc := 51) (v := 3) (by decide) dX11_ith_51 ?_
          refine G_iload_n (pc := 52) rfl dX11_ith_52 ?_
          refine G_imul (pc := 53) (z := 3) (by decide) dX11_ith_53 ?_
          refine G_ishr (pc := 54) (z := 0) (by decide) dX11_ith_54 ?_
          refine G_bipush (pc := 55) (v := 7) (by decide) dX11_ith_55 ?_
          refine G_iand (pc := 57) (z := 0) (by decide) dX11_ith_57 ?_
          exact G_iret (pc := 58) (Nat.le_of_ble_eq_true rfl) (Nat.le_of_ble_eq_true rfl) rfl dX11_ith_58 ⟨_, by first | rfl | (simp [F_ith, *]; done) | (simp only [F_ith, Int32.le_iff_toInt_le, Int32.lt_iff_toInt_lt, ← Int32.toInt_inj]; simp; omega) | (simp only [F_ith, Int32.le_iff_toInt_le, Int32.lt_iff_toInt_lt, ← Int32.toInt_inj]; split <;> first | rfl | (exfalso; simp at *; omega)) | (unfold F_ith; (repeat' split) <;> first | rfl | (exfalso; (try simp only [Int32.le_iff_toInt_le, Int32.lt_iff_toInt_lt, ← Int32.toInt_inj] at *); first | omega | (simp at *; done) | (simp at *; omega))), rfl, fun a ha => by funext j; simp (disch := omega) only [gup_off, gcp_off]⟩
        by_cases c444 : i = 2
        · subst c444
          refine G_iload_n (pc := 18) rfl dX11_ith_18 ?_
          refine G_aload_n (pc := 19) rfl dX11_ith_19 ?_
          refine G_getR (pc := 20) (r := 19) (ci := 11) (j := 0) rfl lk_RX11_56 rfl rfl rfl dX11_ith_20 ?_
          refine G_iload_n (pc := 23) rfl dX11_ith_23 ?_
          refine G_callV (pc := 24) (mc1 := 0) (ms1 := 0) (ci := 1) (mj := mX1_haltsOf) (vs := [_]) dX11_ith_24 rfl rfl cm_X1_haltsOf wf_150 wf_152 wf_153 rfl (Nat.le_of_ble_eq_true rfl) (Nat.le_of_ble_eq_true rfl) (Nat.le_of_ble_eq_true rfl) (Nat.le_of_ble_eq_true rfl) (s135_X1_haltsOf  (d + 4)  ) ?_
          rintro _ _ ⟨rfl, rfl⟩
          dsimp only [Option.toList, List.cons_append, List.nil_append]
          refine G_icmp_lt (pc := 27) (tgt := 33) (by decide) dX11_ith_27 (fun _ => ?_) (fun z => absurd (by decide) z)
          refine G_aload_n (pc := 33) rfl dX11_ith_33 ?_
          refine G_getR (pc := 34) (r := 51) (ci := 11) (j := 3) rfl lk_RX11_68 rfl rfl rfl dX11_ith_34 ?_
          refine G_iconst (pc := 37) (v := 0) (by decide) dX11_ith_37 ?_
          refine G_iload_n (pc := 38) rfl dX11_ith_38 ?_
          refine G_callVN (host := "IceKeys") (pc := 39) (mc1 := 0) (ms1 := 0) (ci := 4) (mj := mX4_seek) (vs := [_, _]) dX11_ith_39 rfl rfl cm_X4_seek (by decide) wf_132 wf_133 rfl (Nat.le_of_ble_eq_true rfl) (Nat.le_of_ble_eq_true rfl) (Nat.le_of_ble_eq_true rfl) (Nat.le_of_ble_eq_true rfl) (s88_X4_seek  (d + 1)  ) ?_
          rintro _ _ ⟨rfl, rfl⟩
          dsimp only [Option.toList, List.cons_append, List.nil_append]
          refine G_aload_n (pc := 42) rfl dX11_ith_42 ?_
          refine G_getR (pc := 43) (r := 51) (ci := 11) (j := 3) rfl lk_RX11_68 rfl rfl rfl dX11_ith_43 ?_
          refine G_getR (pc := 46) (r := 54) (ci := 4) (j := 3) rfl lk_RX11_251 rfl rfl rfl dX11_ith_46 ?_
          refine G_iconst (pc := 49) (v := 0) (by decide) dX11_ith_49 ?_
          refine G_iald (pc := 50) (jj := 0) (v := 0) (by decide) rfl rfl (by unfold vp_in; decide) dX11_ith_50 ?_
          refine G_iconst (pc := 51) (v := 3) (by decide) dX11_ith_51 ?_
          refine G_iload_n (pc := 52) rfl dX11_ith_52 ?_
          refine G_imul (pc := 53) (z := 6) (by decide) dX11_ith_53 ?_
          refine G_ishr (pc := 54) (z := 0) (by decide) dX11_ith_54 ?_
          refine G_bipush (pc := 55) (v := 7) (by decide) dX11_ith_55 ?_
          refine G_iand (pc := 57) (z := 0) (by decide) dX11_ith_57 ?_
          exact G_iret (pc := 58) (Nat.le_of_ble_eq_true rfl) (Nat.le_of_ble_eq_true rfl) rfl dX11_ith_58 ⟨_, by first | rfl | (simp [F_ith, *]; done) | (simp only [F_ith, Int32.le_iff_toInt_le, Int32.lt_iff_toInt_lt, ← Int32.toInt_inj]; simp; omega) | (simp only [F_ith, Int32.le_iff_toInt_le, Int32.lt_iff_toInt_lt, ← Int32.toInt_inj]; split <;> first | rfl | (exfalso; simp at *; omega)) | (unfold F_ith; (repeat' split) <;> first | rfl | (exfalso; (try simp only [Int32.le_iff_toInt_le, Int32.lt_iff_toInt_lt, ← Int32.toInt_inj] at *); first | omega | (simp at *; done) | (simp at *; omega))), rfl, fun a ha => by funext j; simp (disch := omega) only [gup_off, gcp_off]⟩
        by_cases c445 : i = 3
        · subst c445
          refine G_iload_n (pc := 18) rfl dX11_ith_18 ?_
          refine G_aload_n (pc := 19) rfl dX11_ith_19 ?_
          refine G_getR (pc := 20) (r := 19) (ci := 11) (j := 0) rfl lk_RX11_56 rfl rfl rfl dX11_ith_20 ?_
          refine G_iload_n (pc := 23) rfl dX11_ith_23 ?_
          refine G_callV (pc := 24) (mc1 := 0) (ms1 := 0) (ci := 1) (mj := mX1_haltsOf) (vs := [_]) dX11_ith_24 rfl rfl cm_X1_haltsOf wf_150 wf_152 wf_153 rfl (Nat.le_of_ble_eq_true rfl) (Nat.le_of_ble_eq_true rfl) (Nat.le_of_ble_eq_true rfl) (Nat.le_of_ble_eq_true rfl) (s135_X1_haltsOf  (d + 4)  ) ?_
          rintro _ _ ⟨rfl, rfl⟩
          dsimp only [Option.toList, List.cons_append, List.nil_append]
          refine G_icmp_lt (pc := 27) (tgt := 33) (by decide) dX11_ith_27 (fun z => absurd z (by decide)) (fun _ => ?_)
          refine G_bipush (pc := 30) (v := (-3)) (by decide) dX11_ith_30 ?_
          exact G_iret (pc := 32) (Nat.le_of_ble_eq_true rfl) (Nat.le_of_ble_eq_true rfl) rfl dX11_ith_32 ⟨_, by first | rfl | (simp [F_ith, *]; done) | (simp only [F_ith, Int32.le_iff_toInt_le, Int32.lt_iff_toInt_lt, ← Int32.toInt_inj]; simp; omega) | (simp only [F_ith, Int32.le_iff_toInt_le, Int32.lt_iff_toInt_lt, ← Int32.toInt_inj]; split <;> first | rfl | (exfalso; simp at *; omega)) | (unfold F_ith; (repeat' split) <;> first | rfl | (exfalso; (try simp only [Int32.le_iff_toInt_le, Int32.lt_iff_toInt_lt, ← Int32.toInt_inj] at *); first | omega | (simp at *; done) | (simp at *; omega))), rfl, fun _ _ => rfl⟩
        exfalso
        have : 0 ≤ (i).toInt := Int32.le_iff_toInt_le.mp (c425.1)
        have : (i).toInt ≤ 3 := Int32.le_iff_toInt_le.mp (c425.2)
        have : (i).toInt ≠ 0 := g_ne (c442)
        have : (i).toInt ≠ 1 := g_ne (c443)
        have : (i).toInt ≠ 2 := g_ne (c444)
        have : (i).toInt ≠ 3 := g_ne (c445)
        omega
      by_cases c446 : n = 4
      · subst c446
        by_cases c447 : i = 0
        · subst c447
          refine G_iload_n (pc := 18) rfl dX11_ith_18 ?_
          refine G_aload_n (pc := 19) rfl dX11_ith_19 ?_
          refine G_getR (pc := 20) (r := 19) (ci := 11) (j := 0) rfl lk_RX11_56 rfl rfl rfl dX11_ith_20 ?_
          refine G_iload_n (pc := 23) rfl dX11_ith_23 ?_
          refine G_callV (pc := 24) (mc1 := 0) (ms1 := 0) (ci := 1) (mj := mX1_haltsOf) (vs := [_]) dX11_ith_24 rfl rfl cm_X1_haltsOf wf_150 wf_152 wf_153 rfl (Nat.le_of_ble_eq_true rfl) (Nat.le_of_ble_eq_true rfl) (Nat.le_of_ble_eq_true rfl) (Nat.le_of_ble_eq_true rfl) (s136_X1_haltsOf  (d + 4)  ) ?_
          rintro _ _ ⟨rfl, rfl⟩
          dsimp only [Option.toList, List.cons_append, List.nil_append]
          refine G_icmp_lt (pc := 27) (tgt := 33) (by decide) dX11_ith_27 (fun _ => ?_) (fun z => absurd (by decide) z)
          refine G_aload_n (pc := 33) rfl dX11_ith_33 ?_
          refine G_getR (pc := 34) (r := 51) (ci := 11) (j := 3) rfl lk_RX11_68 rfl rfl rfl dX11_ith_34 ?_
          refine G_iconst (pc := 37) (v := 0) (by decide) dX11_ith_37 ?_
          refine G_iload_n (pc := 38) rfl dX11_ith_38 ?_
          refine G_callVN (host := "IceKeys") (pc := 39) (mc1 := 0) (ms1 := 0) (ci := 4) (mj := mX4_seek) (vs := [_, _]) dX11_ith_39 rfl rfl cm_X4_seek (by decide) wf_132 wf_133 rfl (Nat.le_of_ble_eq_true rfl) (Nat.le_of_ble_eq_true rfl) (Nat.le_of_ble_eq_true rfl) (Nat.le_of_ble_eq_true rfl) (s107_X4_seek  d  ) ?_
          rintro _ _ ⟨rfl, rfl⟩
          dsimp only [Option.toList, List.cons_append, List.nil_append]
          refine G_aload_n (pc := 42) rfl dX11_ith_42 ?_
          refine G_getR (pc := 43) (r := 51) (ci := 11) (j := 3) rfl lk_RX11_68 rfl rfl rfl dX11_ith_43 ?_
          refine G_getR (pc := 46) (r := 54) (ci := 4) (j := 3) rfl lk_RX11_251 rfl rfl rfl dX11_ith_46 ?_
          refine G_iconst (pc := 49) (v := 0) (by decide) dX11_ith_49 ?_
          refine G_iald (pc := 50) (jj := 0) (v := 0) (by decide) rfl rfl (by unfold vp_in; decide) dX11_ith_50 ?_
          refine G_iconst (pc := 51) (v := 3) (by decide) dX11_ith_51 ?_
          refine G_iload_n (pc := 52) rfl dX11_ith_52 ?_
          refine G_imul (pc := 53) (z := 0) (by decide) dX11_ith_53 ?_
          refine G_ishr (pc := 54) (z := 0) (by decide) dX11_ith_54 ?_
          refine G_bipush (pc := 55) (v := 7) (by decide) dX11_ith_55 ?_
          refine G_iand (pc := 57) (z := 0) (by decide) dX11_ith_57 ?_
          exact G_iret (pc := 58) (Nat.le_of_ble_eq_true rfl) (Nat.le_of_ble_eq_true rfl) rfl dX11_ith_58 ⟨_, by first | rfl | (simp [F_ith, *]; done) | (simp only [F_ith, Int32.le_iff_toInt_le, Int32.lt_iff_toInt_lt, ← Int32.toInt_inj]; simp; omega) | (simp only [F_ith, Int32.le_iff_toInt_le, Int32.lt_iff_toInt_lt, ← Int32.toInt_inj]; split <;> first | rfl | (exfalso; simp at *; omega)) | (unfold F_ith; (repeat' split) <;> first | rfl | (exfalso; (try simp only [Int32.le_iff_toInt_le, Int32.lt_iff_toInt_lt, ← Int32.toInt_inj] at *); first | omega | (simp at *; done) | (simp at *; omega))), rfl, fun a ha => by funext j; simp (disch := omega) only [gup_off, gcp_off]⟩
        by_cases c448 : i = 1
        · subst c448
          refine G_iload_n (pc := 18) rfl dX11_ith_18 ?_
          refine G_aload_n (pc := 19) rfl dX11_ith_19 ?_
          refine G_getR (pc := 20) (r := 19) (ci := 11) (j := 0) rfl lk_RX11_56 rfl rfl rfl dX11_ith_20 ?_
          refine G_iload_n (pc := 23) rfl dX11_ith_23 ?_
          refine G_callV (pc := 24) (mc1 := 0) (ms1 := 0) (ci := 1) (mj := mX1_haltsOf) (vs := [_]) dX11_ith_24 rfl rfl cm_X1_haltsOf wf_150 wf_152 wf_153 rfl (Nat.le_of_ble_eq_true rfl) (Nat.le_of_ble_eq_true rfl) (Nat.le_of_ble_eq_true rfl) (Nat.le_of_ble_eq_true rfl) (s136_X1_haltsOf  (d + 4)  ) ?_
          rintro _ _ ⟨rfl, rfl⟩
          dsimp only [Option.toList, List.cons_append, List.nil_append]
          refine G_icmp_lt (pc := 27) (tgt := 33) (by decide) dX11_ith_27 (fun _ => ?_) (fun z => absurd (by decide) z)
          refine G_aload_n (pc := 33) rfl dX11_ith_33 ?_
          refine G_getR (pc := 34) (r := 51) (ci := 11) (j := 3) rfl lk_RX11_68 rfl rfl rfl dX11_ith_34 ?_
          refine G_iconst (pc := 37) (v := 0) (by decide) dX11_ith_37 ?_
          refine G_iload_n (pc := 38) rfl dX11_ith_38 ?_
          refine G_callVN (host := "IceKeys") (pc := 39) (mc1 := 0) (ms1 := 0) (ci := 4) (mj := mX4_seek) (vs := [_, _]) dX11_ith_39 rfl rfl cm_X4_seek (by decide) wf_132 wf_133 rfl (Nat.le_of_ble_eq_true rfl) (Nat.le_of_ble_eq_true rfl) (Nat.le_of_ble_eq_true rfl) (Nat.le_of_ble_eq_true rfl) (s107_X4_seek  d  ) ?_
          rintro _ _ ⟨rfl, rfl⟩
          dsimp only [Option.toList, List.cons_append, List.nil_append]
          refine G_aload_n (pc := 42) rfl dX11_ith_42 ?_
          refine G_getR (pc := 43) (r := 51) (ci := 11) (j := 3) rfl lk_RX11_68 rfl rfl rfl dX11_ith_43 ?_
          refine G_getR (pc := 46) (r := 54) (ci := 4) (j := 3) rfl lk_RX11_251 rfl rfl rfl dX11_ith_46 ?_
          refine G_iconst (pc := 49) (v := 0) (by decide) dX11_ith_49 ?_
          refine G_iald (pc := 50) (jj := 0) (v := 0) (by decide) rfl rfl (by unfold vp_in; decide) dX11_ith_50 ?_
          refine G_iconst (pc := 51) (v := 3) (by decide) dX11_ith_51 ?_
          refine G_iload_n (pc := 52) rfl dX11_ith_52 ?_
          refine G_imul (pc := 53) (z := 3) (by decide) dX11_ith_53 ?_
          refine G_ishr (pc := 54) (z := 0) (by decide) dX11_ith_54 ?_
          refine G_bipush (pc := 55) (v := 7) (by decide) dX11_ith_55 ?_
          refine G_iand (pc := 57) (z := 0) (by decide) dX11_ith_57 ?_
          exact G_iret (pc := 58) (Nat.le_of_ble_eq_true rfl) (Nat.le_of_ble_eq_true rfl) rfl dX11_ith_58 ⟨_, by first | rfl | (simp [F_ith, *]; done) | (simp only [F_ith, Int32.le_iff_toInt_le, Int32.lt_iff_toInt_lt, ← Int32.toInt_inj]; simp; omega) | (simp only [F_ith, Int32.le_iff_toInt_le, Int32.lt_iff_toInt_lt, ← Int32.toInt_inj]; split <;> first | rfl | (exfalso; simp at *; omega)) | (unfold F_ith; (repeat' split) <;> first | rfl | (exfalso; (try simp only [Int32.le_iff_toInt_le, Int32.lt_iff_toInt_lt, ← Int32.toInt_inj] at *); first | omega | (simp at *; done) | (simp at *; omega))), rfl, fun a ha => by funext j; simp (disch := omega) only [gup_off, gcp_off]⟩
        by_cases c449 : i = 2
        · subst c449
          refine G_iload_n (pc := 18) rfl dX11_ith_18 ?_
          refine G_aload_n (pc := 19) rfl dX11_ith_19 ?_
          refine G_getR (pc := 20) (r := 19) (ci := 11) (j := 0) rfl lk_RX11_56 rfl rfl rfl dX11_ith_20 ?_
          refine G_iload_n (pc := 23) rfl dX11_ith_23 ?_
          refine G_callV (pc := 24) (mc1 := 0) (ms1 := 0) (ci := 1) (mj := mX1_haltsOf) (vs := [_]) dX11_ith_24 rfl rfl cm_X1_haltsOf wf_150 wf_152 wf_153 rfl (Nat.le_of_ble_eq_true rfl) (Nat.le_of_ble_eq_true rfl) (Nat.le_of_ble_eq_true rfl) (Nat.le_of_ble_eq_true rfl) (s136_X1_haltsOf  (d + 4)  ) ?_
          rintro _ _ ⟨rfl, rfl⟩
          dsimp only [Option.toList, List.cons_append, List.nil_append]
          refine G_icmp_lt (pc := 27) (tgt := 33) (by decide) dX11_ith_27 (fun _ => ?_) (fun z => absurd (by decide) z)
          refine G_aload_n (pc := 33) rfl dX11_ith_33 ?_
          refine G_getR (pc := 34) (r := 51) (ci := 11) (j := 3) rfl lk_RX11_68 rfl rfl rfl dX11_ith_34 ?_
          refine G_iconst (pc := 37) (v := 0) (by decide) dX11_ith_37 ?_
          refine G_iload_n (pc := 38) rfl dX11_ith_38 ?_
          refine G_callVN (host := "IceKeys") (pc := 39) (mc1 := 0) (ms1 := 0) (ci := 4) (mj := mX4_seek) (vs := [_, _]) dX11_ith_39 rfl rfl cm_X4_seek (by decide) wf_132 wf_133 rfl (Nat.le_of_ble_eq_true rfl) (Nat.le_of_ble_eq_true rfl) (Nat.le_of_ble_eq_true rfl) (Nat.le_of_ble_eq_true rfl) (s107_X4_seek  d  ) ?_
          rintro _ _ ⟨rfl, rfl⟩
          dsimp only [Option.toList, List.cons_append, List.nil_append]
          refine G_aload_n (pc := 42) rfl dX11_ith_42 ?_
          refine G_getR (pc := 43) (r := 51) (ci := 11) (j := 3) rfl lk_RX11_68 rfl rfl rfl dX11_ith_43 ?_
          refine G_getR (pc := 46) (r := 54) (ci := 4) (j := 3) rfl lk_RX11_251 rfl rfl rfl dX11_ith_46 ?_
          refine G_iconst (pc := 49) (v := 0) (by decide) dX11_ith_49 ?_
          refine G_iald (pc := 50) (jj := 0) (v := 0) (by decide) rfl rfl (by unfold vp_in; decide) dX11_ith_50 ?_
          refine G_iconst (pc := 51) (v := 3) (by decide) dX11_ith_51 ?_
          refine G_iload_n (pc := 52) rfl dX11_ith_52 ?_
          refine G_imul (pc := 53) (z := 6) (by decide) dX11_ith_53 ?_
          refine G_ishr (pc := 54) (z := 0) (by decide) dX11_ith_54 ?_
          refine G_bipush (pc := 55) (v := 7) (by decide) dX11_ith_55 ?_
          refine G_iand (pc := 57) (z := 0) (by decide) dX11_ith_57 ?_
          exact G_iret (pc := 58) (Nat.le_of_ble_eq_true rfl) (Nat.le_of_ble_eq_true rfl) rfl dX11_ith_58 ⟨_, by first | rfl | (simp [F_ith, *]; done) | (simp only [F_ith, Int32.le_iff_toInt_le, Int32.lt_iff_toInt_lt, ← Int32.toInt_inj]; simp; omega) | (simp only [F_ith, Int32.le_iff_toInt_le, Int32.lt_iff_toInt_lt, ← Int32.toInt_inj]; split <;> first | rfl | (exfalso; simp at *; omega)) | (unfold F_ith; (repeat' split) <;> first | rfl | (exfalso; (try simp only [Int32.le_iff_toInt_le, Int32.lt_iff_toInt_lt, ← Int32.toInt_inj] at *); first | omega | (simp at *; done) | (simp at *; omega))), rfl, fun a ha => by funext j; simp (disch := omega) only [gup_off, gcp_off]⟩
        by_cases c450 : i = 3
        · subst c450
          refine G_iload_n (pc := 18) rfl dX11_ith_18 ?_
          refine G_aload_n (pc := 19) rfl dX11_ith_19 ?_
          refine G_getR (pc := 20) (r := 19) (ci := 11) (j := 0) rfl lk_RX11_56 rfl rfl rfl dX11_ith_20 ?_
          refine G_iload_n (pc := 23) rfl dX11_ith_23 ?_
          refine G_callV (pc := 24) (mc1 := 0) (ms1 := 0) (ci := 1) (mj := mX1_haltsOf) (vs := [_]) dX11_ith_24 rfl rfl cm_X1_haltsOf wf_150 wf_152 wf_153 rfl (Nat.le_of_ble_eq_true rfl) (Nat.le_of_ble_eq_true rfl) (Nat.le_of_ble_eq_true rfl) (Nat.le_of_ble_eq_true rfl) (s136_X1_haltsOf  (d + 4)  ) ?_
          rintro _ _ ⟨rfl, rfl⟩
          dsimp only [Option.toList, List.cons_append, List.nil_append]
          refine G_icmp_lt (pc := 27) (tgt := 33) (by decide) dX11_ith_27 (fun _ => ?_) (fun z => absurd (by decide) z)
          refine G_aload_n (pc := 33) rfl dX11_ith_33 ?_
          refine G_getR (pc := 34) (r := 51) (ci := 11) (j := 3) rfl lk_RX11_68 rfl rfl rfl dX11_ith_34 ?_
          refine G_iconst (pc := 37) (v := 0) (by decide) dX11_ith_37 ?_
          refine G_iload_n (pc := 38) rfl dX11_ith_38 ?_
          refine G_callVN (host := "IceKeys") (pc := 39) (mc1 := 0) (ms1 := 0) (ci := 4) (mj := mX4_seek) (vs := [_, _]) dX11_ith_39 rfl rfl cm_X4_seek (by decide) wf_132 wf_133 rfl (Nat.le_of_ble_eq_true rfl) (Nat.le_of_ble_eq_true rfl) (Nat.le_of_ble_eq_true rfl) (Nat.le_of_ble_eq_true rfl) (s107_X4_seek  d  ) ?_
          rintro _ _ ⟨rfl, rfl⟩
          dsimp only [Option.toList, List.cons_append, List.nil_append]
          refine G_aload_n (pc := 42) rfl dX11_ith_42 ?_
          refine G_getR (pc := 43) (r := 51) (ci := 11) (j := 3) rfl lk_RX11_68 rfl rfl rfl dX11_ith_43 ?_
          refine G_getR (pc := 46) (r := 54) (ci := 4) (j := 3) rfl lk_RX11_251 rfl rfl rfl dX11_ith_46 ?_
          refine G_iconst (pc := 49) (v := 0) (by decide) dX11_ith_49 ?_
          refine G_iald (pc := 50) (jj := 0) (v := 0) (by decide) rfl rfl (by unfold vp_in; decide) dX11_ith_50 ?_
          refine G_iconst (pc := 51) (v := 3) (by decide) dX11_ith_51 ?_
          refine G_iload_n (pc := 52) rfl dX11_ith_52 ?_
          refine G_imul (pc := 53) (z := 9) (by decide) dX11_ith_53 ?_
          refine G_ishr (pc := 54) (z := 0) (by decide) dX11_ith_54 ?_
          refine G_bipush (pc := 55) (v := 7) (by decide) dX11_ith_55 ?_
          refine G_iand (pc := 57) (z := 0) (by decide) dX11_ith_57 ?_
          exact G_iret (pc := 58) (Nat.le_of_ble_eq_true rfl) (Nat.le_of_ble_eq_true rfl) rfl dX11_ith_58 ⟨_, by first | rfl | (simp [F_ith, *]; done) | (simp only [F_ith, Int32.le_iff_toInt_le, Int32.lt_iff_toInt_lt, ← Int32.toInt_inj]; simp; omega) | (simp only [F_ith, Int32.le_iff_toInt_le, Int32.lt_iff_toInt_lt, ← Int32.toInt_inj]; split <;> first | rfl | (exfalso; simp at *; omega)) | (unfold F_ith; (repeat' split) <;> first | rfl | (exfalso; (try simp only [Int32.le_iff_toInt_le, Int32.lt_iff_toInt_lt, ← Int32.toInt_inj] at *); first | omega | (simp at *; done) | (simp at *; omega))), rfl, fun a ha => by funext j; simp (disch := omega) only [gup_off, gcp_off]⟩
        exfalso
        have : 0 ≤ (i).toInt := Int32.le_iff_toInt_le.mp (c425.1)
        have : (i).toInt ≤ 3 := Int32.le_iff_toInt_le.mp (c425.2)
        have : (i).toInt ≠ 0 := g_ne (c447)
        have : (i).toInt ≠ 1 := g_ne (c448)
        have : (i).toInt ≠ 2 := g_ne (c449)
        have : (i).toInt ≠ 3 := g_ne (c450)
        omega
      exfalso
      have : 0 ≤ (n).toInt := Int32.le_iff_toInt_le.mp (c424.1)
      have : (n).toInt ≤ 4 := Int32.le_iff_toInt_le.mp (c424.2)
      have : (n).toInt ≠ 0 := g_ne (c426)
      have : (n).toInt ≠ 1 := g_ne (c431)
      have : (n).toInt ≠ 2 := g_ne (c436)
      have : (n).toInt ≠ 3 := g_ne (c441)
      have : (n).toInt ≠ 4 := g_ne (c446)
      omega
    · have c425 := gB_z c425
      refine G_iconst (pc := 16) (v := (-1)) (by decide) dX11_ith_16 ?_
      exact G_iret (pc := 17) (Nat.le_of_ble_eq_true rfl) (Nat.le_of_ble_eq_true rfl) rfl dX11_ith_17 ⟨_, by first | rfl | (simp [F_ith, *]; done) | (have : 0 ≤ (n).toInt := Int32.le_iff_toInt_le.mp (c424.1); have : (n).toInt ≤ 4 := Int32.le_iff_toInt_le.mp (c424.2); have : ¬ (0 ≤ (i).toInt ∧ (i).toInt ≤ 3) := fun z => c425 ⟨Int32.le_iff_toInt_le.mpr z.1, Int32.le_iff_toInt_le.mpr z.2⟩; simp only [F_ith, Int32.le_iff_toInt_le, Int32.lt_iff_toInt_lt, ← Int32.toInt_inj]; simp; omega) | (have : 0 ≤ (n).toInt := Int32.le_iff_toInt_le.mp (c424.1); have : (n).toInt ≤ 4 := Int32.le_iff_toInt_le.mp (c424.2); have : ¬ (0 ≤ (i).toInt ∧ (i).toInt ≤ 3) := fun z => c425 ⟨Int32.le_iff_toInt_le.mpr z.1, Int32.le_iff_toInt_le.mpr z.2⟩; simp only [F_ith, Int32.le_iff_toInt_le, Int32.lt_iff_toInt_lt, ← Int32.toInt_inj]; split <;> first | rfl | (exfalso; simp at *; omega)) | (have : 0 ≤ (n).toInt := Int32.le_iff_toInt_le.mp (c424.1); have : (n).toInt ≤ 4 := Int32.le_iff_toInt_le.mp (c424.2); have : ¬ (0 ≤ (i).toInt ∧ (i).toInt ≤ 3) := fun z => c425 ⟨Int32.le_iff_toInt_le.mpr z.1, Int32.le_iff_toInt_le.mpr z.2⟩; unfold F_ith; (repeat' split) <;> first | rfl | (exfalso; (try simp only [Int32.le_iff_toInt_le, Int32.lt_iff_toInt_lt, ← Int32.toInt_inj] at *); first | omega | (simp at *; done) | (simp at *; omega))), rfl, fun _ _ => rfl⟩
set_option maxRecDepth 100000 in
set_option maxHeartbeats 4000000 in
theorem s137_X11_isKeySet  (d : Nat)  (a0 : Int32) : G (d + 1) mX11_isKeySet 0 0 0 0 0 (gent 2 [.ref 0, .int a0]) [] SH0 RF0 I0 (fun r h => r = some (.int (gB (0 ≤ a0 ∧ a0 ≤ 0))) ∧ h = (SH0, RF0, I0)) := by
  refine G_iload_n (pc := 0) rfl dX11_isKeySet_0 ?_
  refine G_iconst (pc := 1) (v := 0) (by decide) dX11_isKeySet_1 ?_
  refine G_iconst (pc := 2) (v := 1) (by decide) dX11_isKeySet_2 ?_
  refine G_aload_n (pc := 3) rfl dX11_isKeySet_3 ?_
  refine G_getR (pc := 4) (r := 19) (ci := 11) (j := 0) rfl lk_RX11_56 rfl rfl rfl dX11_isKeySet_4 ?_
  refine G_getI (pc := 7) (v := 0) (ci := 1) (j := 8) rfl rfl lk_RX11_97 rfl rfl dX11_isKeySet_7 ?_
  refine G_ishl (pc := 10) (z := 1) (by decide) dX11_isKeySet_10 ?_
  refine G_iconst (pc := 11) (v := 1) (by decide) dX11_isKeySet_11 ?_
  refine G_isub (pc := 12) (z := 0) (by decide) dX11_isKeySet_12 ?_
  refine G_callS (pc := 13) (mc1 := 0) (ms1 := 0) (mj := mX11_isIn) (vs := [_, _, _]) dX11_isKeySet_13 cm_X11_isIn wf_4 wf_6 rfl (Nat.le_of_ble_eq_true rfl) (Nat.le_of_ble_eq_true rfl) (Nat.le_of_ble_eq_true rfl) (Nat.le_of_ble_eq_true rfl) (isIn_s d a0 0 0) ?_
  rintro _ _ ⟨rfl, rfl⟩
  dsimp only [Option.toList, List.cons_append, List.nil_append]
  exact G_zret (pc := 16) (Nat.le_of_ble_eq_true rfl) (Nat.le_of_ble_eq_true rfl) rfl gB_01 dX11_isKeySet_16 ⟨rfl, rfl⟩
set_option maxRecDepth 100000 in
set_option maxHeartbeats 4000000 in
theorem s141_X4_isLast  (d : Nat)   : G (d) mX4_isLast 0 0 0 0 0 (gent 3 [.ref 51, .int 0, .int 0]) [] SH0 RF0 I0 (fun r h => r = some (.int 1) ∧ h = (SH0, RF0, I0)) := by
  refine G_iload_n (pc := 0) rfl dX4_isLast_0 ?_
  refine G_if_le (pc := 1) (tgt := 19) (by decide) dX4_isLast_1 (fun _ => ?_) (fun z => absurd (by decide) z)
  refine G_iconst (pc := 19) (v := 1) (by decide) dX4_isLast_19 ?_
  refine G_goto (pc := 20) (tgt := 24) (by decide) dX4_isLast_20 ?_
  exact G_zret (pc := 24) (Nat.le_of_ble_eq_true rfl) (Nat.le_of_ble_eq_true rfl) rfl (by decide) dX4_isLast_24 ⟨rfl, rfl⟩
set_option maxRecDepth 100000 in
set_option maxHeartbeats 4000000 in
theorem s142_X4_fewest  (d : Nat)   : G (d) mX4_fewest 0 0 0 0 0 (gent 8 [.ref 51, .int 0, .int 0, .int 0]) [] SH0 RF0 I0 (fun r h => r = some (.int 0) ∧ h = (SH0, RF0, I0)) := by
  refine G_iload_n (pc := 0) rfl dX4_fewest_0 ?_
  refine G_aload_n (pc := 1) rfl dX4_fewest_1 ?_
  refine G_getR (pc := 2) (r := 19) (ci := 4) (j := 0) rfl lk_RX4_21 rfl rfl rfl dX4_fewest_2 ?_
  refine G_getI (pc := 5) (v := 0) (ci := 1) (j := 9) rfl rfl lk_RX4_62 rfl rfl dX4_fewest_5 ?_
  refine G_iconst (pc := 8) (v := (-1)) (by decide) dX4_fewest_8 ?_
  refine G_ixor (pc := 9) (z := (-1)) (by decide) dX4_fewest_9 ?_
  refine G_iand (pc := 10) (z := 0) (by decide) dX4_fewest_10 ?_
  refine G_if_ne (pc := 11) (tgt := 16) (by decide) dX4_fewest_11 (fun z => absurd (by decide) z) (fun _ => ?_)
  refine G_iconst (pc := 14) (v := 0) (by decide) dX4_fewest_14 ?_
  exact G_iret (pc := 15) (Nat.le_of_ble_eq_true rfl) (Nat.le_of_ble_eq_true rfl) rfl dX4_fewest_15 ⟨rfl, rfl⟩
set_option maxRecDepth 100000 in
set_option maxHeartbeats 4000000 in
theorem s144_X4_isLast  (d : Nat)   : G (d + 1) mX4_isLast 0 0 0 0 0 (gent 3 [.ref 51, .int 0, .int 1]) [] SH0 RF0 I0 (fun r h => r = some (.int 0) ∧ h = (SH0, RF0, I0)) := by
  refine G_iload_n (pc := 0) rfl dX4_isLast_0 ?_
  refine G_if_le (pc := 1) (tgt := 19) (by decide) dX4_isLast_1 (fun z => absurd z (by decide)) (fun _ => ?_)
  refine G_iload_n (pc := 4) rfl dX4_isLast_4 ?_
  refine G_iconst (pc := 5) (v := 4) (by decide) dX4_isLast_5 ?_
  refine G_icmp_ge (pc := 6) (tgt := 19) (by decide) dX4_isLast_6 (fun z => absurd z (by decide)) (fun _ => ?_)
  refine G_aload_n (pc := 9) rfl dX4_isLast_9 ?_
  refine G_getR (pc := 10) (r := 19) (ci := 4) (j := 0) rfl lk_RX4_21 rfl rfl rfl dX4_isLast_10 ?_
  refine G_callV (pc := 13) (mc1 := 0) (ms1 := 0) (ci := 1) (mj := mX1_isOver) (vs := []) dX4_isLast_13 rfl rfl cm_X1_isOver wf_125 wf_17 wf_18 rfl (Nat.le_of_ble_eq_true rfl) (Nat.le_of_ble_eq_true rfl) (Nat.le_of_ble_eq_true rfl) (Nat.le_of_ble_eq_true rfl) (s2_X1_isOver  d  ) ?_
  rintro _ _ ⟨rfl, rfl⟩
  dsimp only [Option.toList, List.cons_append, List.nil_append]
  refine G_if_eq (pc := 16) (tgt := 23) (by decide) dX4_isLast_16 (fun _ => ?_) (fun z => absurd (by decide) z)
  refine G_iconst (pc := 23) (v := 0) (by decide) dX4_isLast_23 ?_
  exact G_zret (pc := 24) (Nat.le_of_ble_eq_true rfl) (Nat.le_of_ble_eq_true rfl) rfl (by decide) dX4_isLast_24 ⟨rfl, rfl⟩
set_option maxRecDepth 100000 in
set_option maxHeartbeats 4000000 in
theorem s146_X1_isKey  (d : Nat)   : G (d) mX1_isKey 0 0 0 0 0 (gent 2 [.ref 19, .int (-1)]) [] SH0 RF0 (gup (gup (gcp I0 24 34 (0 : Int32).toNatClampNeg (0 : Int32).toNatClampNeg (6 : Int32).toNatClampNeg) 34 6 0) 34 7 0) (fun r h => r = some (.int 0) ∧ h = (SH0, RF0, (gup (gup (gcp I0 24 34 (0 : Int32).toNatClampNeg (0 : Int32).toNatClampNeg (6 : Int32).toNatClampNeg) 34 6 0) 34 7 0))) := by
  refine G_iload_n (pc := 0) rfl dX1_isKey_0 ?_
  refine G_if_lt (pc := 1) (tgt := 16) (by decide) dX1_isKey_1 (fun _ => ?_) (fun z => absurd (by decide) z)
  refine G_iconst (pc := 16) (v := 0) (by decide) dX1_isKey_16 ?_
  exact G_zret (pc := 17) (Nat.le_of_ble_eq_true rfl) (Nat.le_of_ble_eq_true rfl) rfl (by decide) dX1_isKey_17 ⟨rfl, rfl⟩
set_option maxRecDepth 100000 in
set_option maxHeartbeats 4000000 in
theorem s145_X1_tell  (d : Nat)   : G (d + 1) mX1_tell 0 0 0 0 0 (gent 5 [.ref 19, .int 0]) [] SH0 RF0 (gup (gup (gcp I0 24 34 (0 : Int32).toNatClampNeg (0 : Int32).toNatClampNeg (6 : Int32).toNatClampNeg) 34 6 0) 34 7 0) (fun r h => r = some (.int 0) ∧ h = (SH0, RF0, (gup (gup (gcp I0 24 34 (0 : Int32).toNatClampNeg (0 : Int32).toNatClampNeg (6 : Int32).toNatClampNeg) 34 6 0) 34 7 0))) := by
  refine G_iload_n (pc := 0) rfl dX1_tell_0 ?_
  refine G_iconst (pc := 1) (v := 1) (by decide) dX1_tell_1 ?_
  refine G_isub (pc := 2) (z := (-1)) (by decide) dX1_tell_2 ?_
  refine G_istore_n (pc := 3) (L1 := [some (.ref 19), some (.int 0), some (.int (-1)), none, none]) rfl rfl (by decide) dX1_tell_3 ?_
  refine G_aload_n (pc := 4) rfl dX1_tell_4 ?_
  refine G_iload_n (pc := 5) rfl dX1_tell_5 ?_
  refine G_callV (pc := 6) (mc1 := 0) (ms1 := 0) (ci := 1) (mj := mX1_isKey) (vs := [_]) dX1_tell_6 rfl rfl cm_X1_isKey wf_68 wf_13 wf_14 rfl (Nat.le_of_ble_eq_true rfl) (Nat.le_of_ble_eq_true rfl) (Nat.le_of_ble_eq_true rfl) (Nat.le_of_ble_eq_true rfl) (s146_X1_isKey  d  ) ?_
  rintro _ _ ⟨rfl, rfl⟩
  dsimp only [Option.toList, List.cons_append, List.nil_append]
  refine G_if_eq (pc := 9) (tgt := 20) (by decide) dX1_tell_9 (fun _ => ?_) (fun z => absurd (by decide) z)
  refine G_iconst (pc := 20) (v := 0) (by decide) dX1_tell_20 ?_
  exact G_iret (pc := 21) (Nat.le_of_ble_eq_true rfl) (Nat.le_of_ble_eq_true rfl) rfl dX1_tell_21 ⟨rfl, rfl⟩
set_option maxRecDepth 100000 in
set_option maxHeartbeats 4000000 in
theorem s147_X1_melt  (d : Nat)   : G (d) mX1_melt 0 0 0 0 0 (gent 3 [.ref 19]) [] SH0 RF0 (gup (gup (gcp I0 24 34 (0 : Int32).toNatClampNeg (0 : Int32).toNatClampNeg (6 : Int32).toNatClampNeg) 34 6 0) 34 7 0) (fun r h => r = some (.int 0) ∧ h = (SH0, RF0, (gup (gup (gup (gcp I0 24 34 (0 : Int32).toNatClampNeg (0 : Int32).toNatClampNeg (6 : Int32).toNatClampNeg) 34 6 0) 34 7 0) 19 1 1))) := by
  refine G_iconst (pc := 0) (v := 0) (by decide) dX1_melt_0 ?_
  refine G_istore_n (pc := 1) (L1 := [some (.ref 19), some (.int 0), none]) rfl rfl (by decide) dX1_melt_1 ?_
  refine G_iconst (pc := 2) (v := 0) (by decide) dX1_melt_2 ?_
  refine G_istore_n (pc := 3) (L1 := [some (.ref 19), some (.int 0), some (.int 0)]) rfl rfl (by decide) dX1_melt_3 ?_
  refine G_iload_n (pc := 4) rfl dX1_melt_4 ?_
  refine G_aload_n (pc := 5) rfl dX1_melt_5 ?_
  refine G_getI (pc := 6) (v := 0) (ci := 1) (j := 8) rfl rfl lk_RX1_72 rfl rfl dX1_melt_6 ?_
  refine G_icmp_ge (pc := 9) (tgt := 60) (by decide) dX1_melt_9 (fun _ => ?_) (fun z => absurd (by decide) z)
  refine G_aload_n (pc := 60) rfl dX1_melt_60 ?_
  refine G_dup (pc := 61) rfl dX1_melt_61 ?_
  refine G_getI (pc := 62) (v := 0) (ci := 1) (j := 1) rfl rfl lk_RX1_60 rfl rfl dX1_melt_62 ?_
  refine G_iconst (pc := 65) (v := 1) (by decide) dX1_melt_65 ?_
  refine G_iadd (pc := 66) (z := 1) (by decide) dX1_melt_66 ?_
  refine G_putI (pc := 67) (ci := 1) (j := 1) rfl lk_RX1_60 rfl rfl rfl trivial dX1_melt_67 ?_
  refine G_iload_n (pc := 70) rfl dX1_melt_70 ?_
  exact G_iret (pc := 71) (Nat.le_of_ble_eq_true rfl) (Nat.le_of_ble_eq_true rfl) rfl dX1_melt_71 ⟨rfl, rfl⟩
set_option maxRecDepth 100000 in
set_option maxHeartbeats 4000000 in
theorem s149_X4_isLast  (d : Nat)   : G (d) mX4_isLast 0 0 0 0 0 (gent 3 [.ref 51, .int 1, .int 0]) [] SH0 RF0 (gup (gup (gup (gcp I0 24 34 (0 : Int32).toNatClampNeg (0 : Int32).toNatClampNeg (6 : Int32).toNatClampNeg) 34 6 0) 34 7 0) 19 1 1) (fun r h => r = some (.int 1) ∧ h = (SH0, RF0, (gup (gup (gup (gcp I0 24 34 (0 : Int32).toNatClampNeg (0 : Int32).toNatClampNeg (6 : Int32).toNatClampNeg) 34 6 0) 34 7 0) 19 1 1))) := by
  refine G_iload_n (pc := 0) rfl dX4_isLast_0 ?_
  refine G_if_le (pc := 1) (tgt := 19) (by decide) dX4_isLast_1 (fun _ => ?_) (fun z => absurd (by decide) z)
  refine G_iconst (pc := 19) (v := 1) (by decide) dX4_isLast_19 ?_
  refine G_goto (pc := 20) (tgt := 24) (by decide) dX4_isLast_20 ?_
  exact G_zret (pc := 24) (Nat.le_of_ble_eq_true rfl) (Nat.le_of_ble_eq_true rfl) rfl (by decide) dX4_isLast_24 ⟨rfl, rfl⟩
set_option maxRecDepth 100000 in
set_option maxHeartbeats 4000000 in
theorem s150_X4_fewest  (d : Nat)   : G (d) mX4_fewest 0 0 0 0 0 (gent 8 [.ref 51, .int 0, .int 1, .int 0]) [] SH0 RF0 I0 (fun r h => r = some (.int 0) ∧ h = (SH0, RF0, I0)) := by
  refine G_iload_n (pc := 0) rfl dX4_fewest_0 ?_
  refine G_aload_n (pc := 1) rfl dX4_fewest_1 ?_
  refine G_getR (pc := 2) (r := 19) (ci := 4) (j := 0) rfl lk_RX4_21 rfl rfl rfl dX4_fewest_2 ?_
  refine G_getI (pc := 5) (v := 0) (ci := 1) (j := 9) rfl rfl lk_RX4_62 rfl rfl dX4_fewest_5 ?_
  refine G_iconst (pc := 8) (v := (-1)) (by decide) dX4_fewest_8 ?_
  refine G_ixor (pc := 9) (z := (-1)) (by decide) dX4_fewest_9 ?_
  refine G_iand (pc := 10) (z := 0) (by decide) dX4_fewest_10 ?_
  refine G_if_ne (pc := 11) (tgt := 16) (by decide) dX4_fewest_11 (fun z => absurd (by decide) z) (fun _ => ?_)
  refine G_iconst (pc := 14) (v := 0) (by decide) dX4_fewest_14 ?_
  exact G_iret (pc := 15) (Nat.le_of_ble_eq_true rfl) (Nat.le_of_ble_eq_true rfl) rfl dX4_fewest_15 ⟨rfl, rfl⟩
set_option maxRecDepth 100000 in
set_option maxHeartbeats 4000000 in
theorem s152_X4_isLast  (d : Nat)   : G (d + 1) mX4_isLast 0 0 0 0 0 (gent 3 [.ref 51, .int 0, .int 2]) [] SH0 RF0 I0 (fun r h => r = some (.int 0) ∧ h = (SH0, RF0, I0)) := by
  refine G_iload_n (pc := 0) rfl dX4_isLast_0 ?_
  refine G_if_le (pc := 1) (tgt := 19) (by decide) dX4_isLast_1 (fun z => absurd z (by decide)) (fun _ => ?_)
  refine G_iload_n (pc := 4) rfl dX4_isLast_4 ?_
  refine G_iconst (pc := 5) (v := 4) (by decide) dX4_isLast_5 ?_
  refine G_icmp_ge (pc := 6) (tgt := 19) (by decide) dX4_isLast_6 (fun z => absurd z (by decide)) (fun _ => ?_)
  refine G_aload_n (pc := 9) rfl dX4_isLast_9 ?_
  refine G_getR (pc := 10) (r := 19) (ci := 4) (j := 0) rfl lk_RX4_21 rfl rfl rfl dX4_isLast_10 ?_
  refine G_callV (pc := 13) (mc1 := 0) (ms1 := 0) (ci := 1) (mj := mX1_isOver) (vs := []) dX4_isLast_13 rfl rfl cm_X1_isOver wf_125 wf_17 wf_18 rfl (Nat.le_of_ble_eq_true rfl) (Nat.le_of_ble_eq_true rfl) (Nat.le_of_ble_eq_true rfl) (Nat.le_of_ble_eq_true rfl) (s2_X1_isOver  d  ) ?_
  rintro _ _ ⟨rfl, rfl⟩
  dsimp only [Option.toList, List.cons_append, List.nil_append]
  refine G_if_eq (pc := 16) (tgt := 23) (by decide) dX4_isLast_16 (fun _ => ?_) (fun z => absurd (by decide) z)
  refine G_iconst (pc := 23) (v := 0) (by decide) dX4_isLast_23 ?_
  exact G_zret (pc := 24) (Nat.le_of_ble_eq_true rfl) (Nat.le_of_ble_eq_true rfl) rfl (by decide) dX4_isLast_24 ⟨rfl, rfl⟩
set_option maxRecDepth 100000 in
set_option maxHeartbeats 4000000 in
theorem s155_X1_isOver  (d : Nat)   : G (d) mX1_isOver 0 0 0 0 0 (gent 1 [.ref 19]) [] SH0 RF0 (gup (gup (gup (gcp I0 24 34 (0 : Int32).toNatClampNeg (0 : Int32).toNatClampNeg (6 : Int32).toNatClampNeg) 34 6 0) 34 7 0) 19 1 1) (fun r h => r = some (.int 0) ∧ h = (SH0, RF0, (gup (gup (gup (gcp I0 24 34 (0 : Int32).toNatClampNeg (0 : Int32).toNatClampNeg (6 : Int32).toNatClampNeg) 34 6 0) 34 7 0) 19 1 1))) := by
  refine G_aload_n (pc := 0) rfl dX1_isOver_0 ?_
  refine G_getI (pc := 1) (v := 1) (ci := 1) (j := 1) rfl rfl lk_RX1_60 rfl rfl dX1_isOver_1 ?_
  refine G_aload_n (pc := 4) rfl dX1_isOver_4 ?_
  refine G_getI (pc := 5) (v := 12) (ci := 1) (j := 2) rfl rfl lk_RX1_9 rfl rfl dX1_isOver_5 ?_
  refine G_icmp_lt (pc := 8) (tgt := 15) (by decide) dX1_isOver_8 (fun _ => ?_) (fun z => absurd (by decide) z)
  refine G_iconst (pc := 15) (v := 0) (by decide) dX1_isOver_15 ?_
  exact G_zret (pc := 16) (Nat.le_of_ble_eq_true rfl) (Nat.le_of_ble_eq_true rfl) rfl (by decide) dX1_isOver_16 ⟨rfl, rfl⟩
set_option maxRecDepth 100000 in
set_option maxHeartbeats 4000000 in
theorem s154_X4_isLast  (d : Nat)   : G (d + 1) mX4_isLast 0 0 0 0 0 (gent 3 [.ref 51, .int 1, .int 1]) [] SH0 RF0 (gup (gup (gup (gcp I0 24 34 (0 : Int32).toNatClampNeg (0 : Int32).toNatClampNeg (6 : Int32).toNatClampNeg) 34 6 0) 34 7 0) 19 1 1) (fun r h => r = some (.int 0) ∧ h = (SH0, RF0, (gup (gup (gup (gcp I0 24 34 (0 : Int32).toNatClampNeg (0 : Int32).toNatClampNeg (6 : Int32).toNatClampNeg) 34 6 0) 34 7 0) 19 1 1))) := by
  refine G_iload_n (pc := 0) rfl dX4_isLast_0 ?_
  refine G_if_le (pc := 1) (tgt := 19) (by decide) dX4_isLast_1 (fun z => absurd z (by decide)) (fun _ => ?_)
  refine G_iload_n (pc := 4) rfl dX4_isLast_4 ?_
  refine G_iconst (pc := 5) (v := 4) (by decide) dX4_isLast_5 ?_
  refine G_icmp_ge (pc := 6) (tgt := 19) (by decide) dX4_isLast_6 (fun z => absurd z (by decide)) (fun _ => ?_)
  refine G_aload_n (pc := 9) rfl dX4_isLast_9 ?_
  refine G_getR (pc := 10) (r := 19) (ci := 4) (j := 0) rfl lk_RX4_21 rfl rfl rfl dX4_isLast_10 ?_
  refine G_callV (pc := 13) (mc1 := 0) (ms1 := 0) (ci := 1) (mj := mX1_isOver) (vs := []) dX4_isLast_13 rfl rfl cm_X1_isOver wf_125 wf_17 wf_18 rfl (Nat.le_of_ble_eq_true rfl) (Nat.le_of_ble_eq_true rfl) (Nat.le_of_ble_eq_true rfl) (Nat.le_of_ble_eq_true rfl) (s155_X1_isOver  d  ) ?_
  rintro _ _ ⟨rfl, rfl⟩
  dsimp only [Option.toList, List.cons_append, List.nil_append]
  refine G_if_eq (pc := 16) (tgt := 23) (by decide) dX4_isLast_16 (fun _ => ?_) (fun z => absurd (by decide) z)
  refine G_iconst (pc := 23) (v := 0) (by decide) dX4_isLast_23 ?_
  exact G_zret (pc := 24) (Nat.le_of_ble_eq_true rfl) (Nat.le_of_ble_eq_true rfl) rfl (by decide) dX4_isLast_24 ⟨rfl, rfl⟩
set_option maxRecDepth 100000 in
set_option maxHeartbeats 4000000 in
theorem s156_X1_save  (d : Nat)   : G (d + 1) mX1_save 0 0 0 0 0 (gent 3 [.ref 19, .int 1]) [] SH0 RF0 (gup (gup (gup (gcp I0 24 34 (0 : Int32).toNatClampNeg (0 : Int32).toNatClampNeg (6 : Int32).toNatClampNeg) 34 6 0) 34 7 0) 19 1 1) (fun r h => r = none ∧ h = (SH0, RF0, (gup (gup (gcp (gup (gup (gup (gcp I0 24 34 (0 : Int32).toNatClampNeg (0 : Int32).toNatClampNeg (6 : Int32).toNatClampNeg) 34 6 0) 34 7 0) 19 1 1) 24 34 (0 : Int32).toNatClampNeg (8 : Int32).toNatClampNeg (6 : Int32).toNatClampNeg) 34 14 0) 34 15 1))) := by
  refine G_iload_n (pc := 0) rfl dX1_save_0 ?_
  refine G_bipush (pc := 1) (v := 8) (by decide) dX1_save_1 ?_
  refine G_imul (pc := 3) (z := 8) (by decide) dX1_save_3 ?_
  refine G_istore_n (pc := 4) (L1 := [some (.ref 19), some (.int 1), some (.int 8)]) rfl rfl (by decide) dX1_save_4 ?_
  refine G_aload_n (pc := 5) rfl dX1_save_5 ?_
  refine G_getR (pc := 6) (r := 24) (ci := 1) (j := 11) rfl lk_RX1_31 rfl rfl rfl dX1_save_6 ?_
  refine G_iconst (pc := 9) (v := 0) (by decide) dX1_save_9 ?_
  refine G_aload_n (pc := 10) rfl dX1_save_10 ?_
  refine G_getR (pc := 11) (r := 34) (ci := 1) (j := 18) rfl lk_RX1_53 rfl rfl rfl dX1_save_11 ?_
  refine G_iload_n (pc := 14) rfl dX1_save_14 ?_
  refine G_bipush (pc := 15) (v := 6) (by decide) dX1_save_15 ?_
  refine G_copy (pc := 17) (x := 24) (y := 34) rfl rfl (by decide) (by decide) (by decide) (by decide) (by decide) wf_50 wf_51 wf_52 wf_53 (Nat.le_of_ble_eq_true rfl) dX1_save_17 ?_
  refine G_aload_n (pc := 20) rfl dX1_save_20 ?_
  refine G_getR (pc := 21) (r := 34) (ci := 1) (j := 18) rfl lk_RX1_53 rfl rfl rfl dX1_save_21 ?_
  refine G_iload_n (pc := 24) rfl dX1_save_24 ?_
  refine G_bipush (pc := 25) (v := 6) (by decide) dX1_save_25 ?_
  refine G_iadd (pc := 27) (z := 14) (by decide) dX1_save_27 ?_
  refine G_aload_n (pc := 28) rfl dX1_save_28 ?_
  refine G_getI (pc := 29) (v := 0) (ci := 1) (j := 9) rfl rfl lk_RX1_75 rfl rfl dX1_save_29 ?_
  refine G_iast (pc := 32) (jj := 14) (by decide) rfl (by unfold vp_in; decide) dX1_save_32 ?_
  refine G_aload_n (pc := 33) rfl dX1_save_33 ?_
  refine G_getR (pc := 34) (r := 34) (ci := 1) (j := 18) rfl lk_RX1_53 rfl rfl rfl dX1_save_34 ?_
  refine G_iload_n (pc := 37) rfl dX1_save_37 ?_
  refine G_bipush (pc := 38) (v := 6) (by decide) dX1_save_38 ?_
  refine G_iadd (pc := 40) (z := 14) (by decide) dX1_save_40 ?_
  refine G_iconst (pc := 41) (v := 1) (by decide) dX1_save_41 ?_
  refine G_iadd (pc := 42) (z := 15) (by decide) dX1_save_42 ?_
  refine G_aload_n (pc := 43) rfl dX1_save_43 ?_
  refine G_getI (pc := 44) (v := 1) (ci := 1) (j := 1) rfl rfl lk_RX1_60 rfl rfl dX1_save_44 ?_
  refine G_iast (pc := 47) (jj := 15) (by decide) rfl (by unfold vp_in; decide) dX1_save_47 ?_
  exact G_vret (pc := 48) (Nat.le_of_ble_eq_true rfl) (Nat.le_of_ble_eq_true rfl) rfl dX1_save_48 ⟨rfl, rfl⟩
set_option maxRecDepth 100000 in
set_option maxHeartbeats 4000000 in
theorem s158_X1_isKey  (d : Nat)   : G (d) mX1_isKey 0 0 0 0 0 (gent 2 [.ref 19, .int (-1)]) [] SH0 RF0 (gup (gup (gcp (gup (gup (gup (gcp I0 24 34 (0 : Int32).toNatClampNeg (0 : Int32).toNatClampNeg (6 : Int32).toNatClampNeg) 34 6 0) 34 7 0) 19 1 1) 24 34 (0 : Int32).toNatClampNeg (8 : Int32).toNatClampNeg (6 : Int32).toNatClampNeg) 34 14 0) 34 15 1) (fun r h => r = some (.int 0) ∧ h = (SH0, RF0, (gup (gup (gcp (gup (gup (gup (gcp I0 24 34 (0 : Int32).toNatClampNeg (0 : Int32).toNatClampNeg (6 : Int32).toNatClampNeg) 34 6 0) 34 7 0) 19 1 1) 24 34 (0 : Int32).toNatClampNeg (8 : Int32).toNatClampNeg (6 : Int32).toNatClampNeg) 34 14 0) 34 15 1))) := by
  refine G_iload_n (pc := 0) rfl dX1_isKey_0 ?_
  refine G_if_lt (pc := 1) (tgt := 16) (by decide) dX1_isKey_1 (fun _ => ?_) (fun z => absurd (by decide) z)
  refine G_iconst (pc := 16) (v := 0) (by decide) dX1_isKey_16 ?_
  exact G_zret (pc := 17) (Nat.le_of_ble_eq_true rfl) (Nat.le_of_ble_eq_true rfl) rfl (by decide) dX1_isKey_17 ⟨rfl, rfl⟩
set_option maxRecDepth 100000 in
set_option maxHeartbeats 4000000 in
theorem s157_X1_tell  (d : Nat)   : G (d + 1) mX1_tell 0 0 0 0 0 (gent 5 [.ref 19, .int 0]) [] SH0 RF0 (gup (gup (gcp (gup (gup (gup (gcp I0 24 34 (0 : Int32).toNatClampNeg (0 : Int32).toNatClampNeg (6 : Int32).toNatClampNeg) 34 6 0) 34 7 0) 19 1 1) 24 34 (0 : Int32).toNatClampNeg (8 : Int32).toNatClampNeg (6 : Int32).toNatClampNeg) 34 14 0) 34 15 1) (fun r h => r = some (.int 0) ∧ h = (SH0, RF0, (gup (gup (gcp (gup (gup (gup (gcp I0 24 34 (0 : Int32).toNatClampNeg (0 : Int32).toNatClampNeg (6 : Int32).toNatClampNeg) 34 6 0) 34 7 0) 19 1 1) 24 34 (0 : Int32).toNatClampNeg (8 : Int32).toNatClampNeg (6 : Int32).toNatClampNeg) 34 14 0) 34 15 1))) := by
  refine G_iload_n (pc := 0) rfl dX1_tell_0 ?_
  refine G_iconst (pc := 1) (v := 1) (by decide) dX1_tell_1 ?_
  refine G_isub (pc := 2) (z := (-1)) (by decide) dX1_tell_2 ?_
  refine G_istore_n (pc := 3) (L1 := [some (.ref 19), some (.int 0), some (.int (-1)), none, none]) rfl rfl (by decide) dX1_tell_3 ?_
  refine G_aload_n (pc := 4) rfl dX1_tell_4 ?_
  refine G_iload_n (pc := 5) rfl dX1_tell_5 ?_
  refine G_callV (pc := 6) (mc1 := 0) (ms1 := 0) (ci := 1) (mj := mX1_isKey) (vs := [_]) dX1_tell_6 rfl rfl cm_X1_isKey wf_68 wf_13 wf_14 rfl (Nat.le_of_ble_eq_true rfl) (Nat.le_of_ble_eq_true rfl) (Nat.le_of_ble_eq_true rfl) (Nat.le_of_ble_eq_true rfl) (s158_X1_isKey  d  ) ?_
  rintro _ _ ⟨rfl, rfl⟩
  dsimp only [Option.toList, List.cons_append, List.nil_append]
  refine G_if_eq (pc := 9) (tgt := 20) (by decide) dX1_tell_9 (fun _ => ?_) (fun z => absurd (by decide) z)
  refine G_iconst (pc := 20) (v := 0) (by decide) dX1_tell_20 ?_
  exact G_iret (pc := 21) (Nat.le_of_ble_eq_true rfl) (Nat.le_of_ble_eq_true rfl) rfl dX1_tell_21 ⟨rfl, rfl⟩
set_option maxRecDepth 100000 in
set_option maxHeartbeats 4000000 in
theorem s159_X1_melt  (d : Nat)   : G (d) mX1_melt 0 0 0 0 0 (gent 3 [.ref 19]) [] SH0 RF0 (gup (gup (gcp (gup (gup (gup (gcp I0 24 34 (0 : Int32).toNatClampNeg (0 : Int32).toNatClampNeg (6 : Int32).toNatClampNeg) 34 6 0) 34 7 0) 19 1 1) 24 34 (0 : Int32).toNatClampNeg (8 : Int32).toNatClampNeg (6 : Int32).toNatClampNeg) 34 14 0) 34 15 1) (fun r h => r = some (.int 0) ∧ h = (SH0, RF0, (gup (gup (gup (gcp (gup (gup (gup (gcp I0 24 34 (0 : Int32).toNatClampNeg (0 : Int32).toNatClampNeg (6 : Int32).toNatClampNeg) 34 6 0) 34 7 0) 19 1 1) 24 34 (0 : Int32).toNatClampNeg (8 : Int32).toNatClampNeg (6 : Int32).toNatClampNeg) 34 14 0) 34 15 1) 19 1 2))) := by
  refine G_iconst (pc := 0) (v := 0) (by decide) dX1_melt_0 ?_
  refine G_istore_n (pc := 1) (L1 := [some (.ref 19), some (.int 0), none]) rfl rfl (by decide) dX1_melt_1 ?_
  refine G_iconst (pc := 2) (v := 0) (by decide) dX1_melt_2 ?_
  refine G_istore_n (pc := 3) (L1 := [some (.ref 19), some (.int 0), some (.int 0)]) rfl rfl (by decide) dX1_melt_3 ?_
  refine G_iload_n (pc := 4) rfl dX1_melt_4 ?_
  refine G_aload_n (pc := 5) rfl dX1_melt_5 ?_
  refine G_getI (pc := 6) (v := 0) (ci := 1) (j := 8) rfl rfl lk_RX1_72 rfl rfl dX1_melt_6 ?_
  refine G_icmp_ge (pc := 9) (tgt := 60) (by decide) dX1_melt_9 (fun _ => ?_) (fun z => absurd (by decide) z)
  refine G_aload_n (pc := 60) rfl dX1_melt_60 ?_
  refine G_dup (pc := 61) rfl dX1_melt_61 ?_
  refine G_getI (pc := 62) (v := 1) (ci := 1) (j := 1) rfl rfl lk_RX1_60 rfl rfl dX1_melt_62 ?_
  refine G_iconst (pc := 65) (v := 1) (by decide) dX1_melt_65 ?_
  refine G_iadd (pc := 66) (z := 2) (by decide) dX1_melt_66 ?_
  refine G_putI (pc := 67) (ci := 1) (j := 1) rfl lk_RX1_60 rfl rfl rfl trivial dX1_melt_67 ?_
  refine G_iload_n (pc := 70) rfl dX1_melt_70 ?_
  exact G_iret (pc := 71) (Nat.le_of_ble_eq_true rfl) (Nat.le_of_ble_eq_true rfl) rfl dX1_melt_71 ⟨rfl, rfl⟩
set_option maxRecDepth 100000 in
set_option maxHeartbeats 4000000 in
theorem s161_X4_isLast  (d : Nat)   : G (d) mX4_isLast 0 0 0 0 0 (gent 3 [.ref 51, .int 2, .int 0]) [] SH0 RF0 (gup (gup (gup (gcp (gup (gup (gup (gcp I0 24 34 (0 : Int32).toNatClampNeg (0 : Int32).toNatClampNeg (6 : Int32).toNatClampNeg) 34 6 0) 34 7 0) 19 1 1) 24 34 (0 : Int32).toNatClampNeg (8 : Int32).toNatClampNeg (6 : Int32).toNatClampNeg) 34 14 0) 34 15 1) 19 1 2) (fun r h => r = some (.int 1) ∧ h = (SH0, RF0, (gup (gup (gup (gcp (gup (gup (gup (gcp I0 24 34 (0 : Int32).toNatClampNeg (0 : Int32).toNatClampNeg (6 : Int32).toNatClampNeg) 34 6 0) 34 7 0) 19 1 1) 24 34 (0 : Int32).toNatClampNeg (8 : Int32).toNatClampNeg (6 : Int32).toNatClampNeg) 34 14 0) 34 15 1) 19 1 2))) := by
  refine G_iload_n (pc := 0) rfl dX4_isLast_0 ?_
  refine G_if_le (pc := 1) (tgt := 19) (by decide) dX4_isLast_1 (fun _ => ?_) (fun z => absurd (by decide) z)
  refine G_iconst (pc := 19) (v := 1) (by decide) dX4_isLast_19 ?_
  refine G_goto (pc := 20) (tgt := 24) (by decide) dX4_isLast_20 ?_
  exact G_zret (pc := 24) (Nat.le_of_ble_eq_true rfl) (Nat.le_of_ble_eq_true rfl) rfl (by decide) dX4_isLast_24 ⟨rfl, rfl⟩
set_option maxRecDepth 100000 in
set_option maxHeartbeats 4000000 in
theorem s162_X4_fewest  (d : Nat)   : G (d) mX4_fewest 0 0 0 0 0 (gent 8 [.ref 51, .int 0, .int 2, .int 0]) [] SH0 RF0 I0 (fun r h => r = some (.int 0) ∧ h = (SH0, RF0, I0)) := by
  refine G_iload_n (pc := 0) rfl dX4_fewest_0 ?_
  refine G_aload_n (pc := 1) rfl dX4_fewest_1 ?_
  refine G_getR (pc := 2) (r := 19) (ci := 4) (j := 0) rfl lk_RX4_21 rfl rfl rfl dX4_fewest_2 ?_
  refine G_getI (pc := 5) (v := 0) (ci := 1) (j := 9) rfl rfl lk_RX4_62 rfl rfl dX4_fewest_5 ?_
  refine G_iconst (pc := 8) (v := (-1)) (by decide) dX4_fewest_8 ?_
  refine G_ixor (pc := 9) (z := (-1)) (by decide) dX4_fewest_9 ?_
  refine G_iand (pc := 10) (z := 0) (by decide) dX4_fewest_10 ?_
  refine G_if_ne (pc := 11) (tgt := 16) (by decide) dX4_fewest_11 (fun z => absurd (by decide) z) (fun _ => ?_)
  refine G_iconst (pc := 14) (v := 0) (by decide) dX4_fewest_14 ?_
  exact G_iret (pc := 15) (Nat.le_of_ble_eq_true rfl) (Nat.le_of_ble_eq_true rfl) rfl dX4_fewest_15 ⟨rfl, rfl⟩
set_option maxRecDepth 100000 in
set_option maxHeartbeats 4000000 in
theorem s164_X4_isLast  (d : Nat)   : G (d + 1) mX4_isLast 0 0 0 0 0 (gent 3 [.ref 51, .int 0, .int 3]) [] SH0 RF0 I0 (fun r h => r = some (.int 0) ∧ h = (SH0, RF0, I0)) := by
  refine G_iload_n (pc := 0) rfl dX4_isLast_0 ?_
  refine G_if_le (pc := 1) (tgt := 19) (by decide) dX4_isLast_1 (fun z => absurd z (by decide)) (fun _ => ?_)
  refine G_iload_n (pc := 4) rfl dX4_isLast_4 ?_
  refine G_iconst (pc := 5) (v := 4) (by decide) dX4_isLast_5 ?_
  refine G_icmp_ge (pc := 6) (tgt := 19) (by decide) dX4_isLast_6 (fun z => absurd z (by decide)) (fun _ => ?_)
  refine G_aload_n (pc := 9) rfl dX4_isLast_9 ?_
  refine G_getR (pc := 10) (r := 19) (ci := 4) (j := 0) rfl lk_RX4_21 rfl rfl rfl dX4_isLast_10 ?_
  refine G_callV (pc := 13) (mc1 := 0) (ms1 := 0) (ci := 1) (mj := mX1_isOver) (vs := []) dX4_isLast_13 rfl rfl cm_X1_isOver wf_125 wf_17 wf_18 rfl (Nat.le_of_ble_eq_true rfl) (Nat.le_of_ble_eq_true rfl) (Nat.le_of_ble_eq_true rfl) (Nat.le_of_ble_eq_true rfl) (s2_X1_isOver  d  ) ?_
  rintro _ _ ⟨rfl, rfl⟩
  dsimp only [Option.toList, List.cons_append, List.nil_append]
  refine G_if_eq (pc := 16) (tgt := 23) (by decide) dX4_isLast_16 (fun _ => ?_) (fun z => absurd (by decide) z)
  refine G_iconst (pc := 23) (v := 0) (by decide) dX4_isLast_23 ?_
  exact G_zret (pc := 24) (Nat.le_of_ble_eq_true rfl) (Nat.le_of_ble_eq_true rfl) rfl (by decide) dX4_isLast_24 ⟨rfl, rfl⟩
set_option maxRecDepth 100000 in
set_option maxHeartbeats 4000000 in
theorem s166_X4_isLast  (d : Nat)   : G (d + 1) mX4_isLast 0 0 0 0 0 (gent 3 [.ref 51, .int 1, .int 2]) [] SH0 RF0 (gup (gup (gup (gcp I0 24 34 (0 : Int32).toNatClampNeg (0 : Int32).toNatClampNeg (6 : Int32).toNatClampNeg) 34 6 0) 34 7 0) 19 1 1) (fun r h => r = some (.int 0) ∧ h = (SH0, RF0, (gup (gup (gup (gcp I0 24 34 (0 : Int32).toNatClampNeg (0 : Int32).toNatClampNeg (6 : Int32).toNatClampNeg) 34 6 0) 34 7 0) 19 1 1))) := by
  refine G_iload_n (pc := 0) rfl dX4_isLast_0 ?_
  refine G_if_le (pc := 1) (tgt := 19) (by decide) dX4_isLast_1 (fun z => absurd z (by decide)) (fun _ => ?_)
  refine G_iload_n (pc := 4) rfl dX4_isLast_4 ?_
  refine G_iconst (pc := 5) (v := 4) (by decide) dX4_isLast_5 ?_
  refine G_icmp_ge (pc := 6) (tgt := 19) (by decide) dX4_isLast_6 (fun z => absurd z (by decide)) (fun _ => ?_)
  refine G_aload_n (pc := 9) rfl dX4_isLast_9 ?_
  refine G_getR (pc := 10) (r := 19) (ci := 4) (j := 0) rfl lk_RX4_21 rfl rfl rfl dX4_isLast_10 ?_
  refine G_callV (pc := 13) (mc1 := 0) (ms1 := 0) (ci := 1) (mj := mX1_isOver) (vs := []) dX4_isLast_13 rfl rfl cm_X1_isOver wf_125 wf_17 wf_18 rfl (Nat.le_of_ble_eq_true rfl) (Nat.le_of_ble_eq_true rfl) (Nat.le_of_ble_eq_true rfl) (Nat.le_of_ble_eq_true rfl) (s155_X1_isOver  d  ) ?_
  rintro _ _ ⟨rfl, rfl⟩
  dsimp only [Option.toList, List.cons_append, List.nil_append]
  refine G_if_eq (pc := 16) (tgt := 23) (by decide) dX4_isLast_16 (fun _ => ?_) (fun z => absurd (by decide) z)
  refine G_iconst (pc := 23) (v := 0) (by decide) dX4_isLast_23 ?_
  exact G_zret (pc := 24) (Nat.le_of_ble_eq_true rfl) (Nat.le_of_ble_eq_true rfl) rfl (by decide) dX4_isLast_24 ⟨rfl, rfl⟩
set_option maxRecDepth 100000 in
set_option maxHeartbeats 4000000 in
theorem s169_X1_isOver  (d : Nat)   : G (d) mX1_isOver 0 0 0 0 0 (gent 1 [.ref 19]) [] SH0 RF0 (gup (gup (gup (gcp (gup (gup (gup (gcp I0 24 34 (0 : Int32).toNatClampNeg (0 : Int32).toNatClampNeg (6 : Int32).toNatClampNeg) 34 6 0) 34 7 0) 19 1 1) 24 34 (0 : Int32).toNatClampNeg (8 : Int32).toNatClampNeg (6 : Int32).toNatClampNeg) 34 14 0) 34 15 1) 19 1 2) (fun r h => r = some (.int 0) ∧ h = (SH0, RF0, (gup (gup (gup (gcp (gup (gup (gup (gcp I0 24 34 (0 : Int32).toNatClampNeg (0 : Int32).toNatClampNeg (6 : Int32).toNatClampNeg) 34 6 0) 34 7 0) 19 1 1) 24 34 (0 : Int32).toNatClampNeg (8 : Int32).toNatClampNeg (6 : Int32).toNatClampNeg) 34 14 0) 34 15 1) 19 1 2))) := by
  refine G_aload_n (pc := 0) rfl dX1_isOver_0 ?_
  refine G_getI (pc := 1) (v := 2) (ci := 1) (j := 1) rfl rfl lk_RX1_60 rfl rfl dX1_isOver_1 ?_
  refine G_aload_n (pc := 4) rfl dX1_isOver_4 ?_
  refine G_getI (pc := 5) (v := 12) (ci := 1) (j := 2) rfl rfl lk_RX1_9 rfl rfl dX1_isOver_5 ?_
  refine G_icmp_lt (pc := 8) (tgt := 15) (by decide) dX1_isOver_8 (fun _ => ?_) (fun z => absurd (by decide) z)
  refine G_iconst (pc := 15) (v := 0) (by decide) dX1_isOver_15 ?_
  exact G_zret (pc := 16) (Nat.le_of_ble_eq_true rfl) (Nat.le_of_ble_eq_true rfl) rfl (by decide) dX1_isOver_16 ⟨rfl, rfl⟩
set_option maxRecDepth 100000 in
set_option maxHeartbeats 4000000 in
theorem s168_X4_isLast  (d : Nat)   : G (d + 1) mX4_isLast 0 0 0 0 0 (gent 3 [.ref 51, .int 2, .int 1]) [] SH0 RF0 (gup (gup (gup (gcp (gup (gup (gup (gcp I0 24 34 (0 : Int32).toNatClampNeg (0 : Int32).toNatClampNeg (6 : Int32).toNatClampNeg) 34 6 0) 34 7 0) 19 1 1) 24 34 (0 : Int32).toNatClampNeg (8 : Int32).toNatClampNeg (6 : Int32).toNatClampNeg) 34 14 0) 34 15 1) 19 1 2) (fun r h => r = some (.int 0) ∧ h = (SH0, RF0, (gup (gup (gup (gcp (gup (gup (gup (gcp I0 24 34 (0 : Int32).toNatClampNeg (0 : Int32).toNatClampNeg (6 : Int32).toNatClampNeg) 34 6 0) 34 7 0) 19 1 1) 24 34 (0 : Int32).toNatClampNeg (8 : Int32).toNatClampNeg (6 : Int32).toNatClampNeg) 34 14 0) 34 15 1) 19 1 2))) := by
  refine G_iload_n (pc := 0) rfl dX4_isLast_0 ?_
  refine G_if_le (pc := 1) (tgt := 19) (by decide) dX4_isLast_1 (fun z => absurd z (by decide)) (fun _ => ?_)
  refine G_iload_n (pc := 4) rfl dX4_isLast_4 ?_
  refine G_iconst (pc := 5) (v := 4) (by decide) dX4_isLast_5 ?_
  refine G_icmp_ge (pc := 6) (tgt := 19) (by decide) dX4_isLast_6 (fun z => absurd z (by decide)) (fun _ => ?_)
  refine G_aload_n (pc := 9) rfl dX4_isLast_9 ?_
  refine G_getR (pc := 10) (r := 19) (ci := 4) (j := 0) rfl lk_RX4_21 rfl rfl rfl dX4_isLast_10 ?_
  refine G_callV (pc := 13) (mc1 := 0) (ms1 := 0) (ci := 1) (mj := mX1_isOver) (vs := []) dX4_isLast_13 rfl rfl cm_X1_isOver wf_125 wf_17 wf_18 rfl (Nat.le_of_ble_eq_true rfl) (Nat.le_of_ble_eq_true rfl) (Nat.le_of_ble_eq_true rfl) (Nat.le_of_ble_eq_true rfl) (s169_X1_isOver  d  ) ?_
  rintro _ _ ⟨rfl, rfl⟩
  dsimp only [Option.toList, List.cons_append, List.nil_append]
  refine G_if_eq (pc := 16) (tgt := 23) (by decide) dX4_isLast_16 (fun _ => ?_) (fun z => absurd (by decide) z)
  refine G_iconst (pc := 23) (v := 0) (by decide) dX4_isLast_23 ?_
  exact G_zret (pc := 24) (Nat.le_of_ble_eq_true rfl) (Nat.le_of_ble_eq_true rfl) rfl (by decide) dX4_isLast_24 ⟨rfl, rfl⟩
set_option maxRecDepth 100000 in
set_option maxHeartbeats 4000000 in
theorem s170_X1_save  (d : Nat)   : G (d + 1) mX1_save 0 0 0 0 0 (gent 3 [.ref 19, .int 2]) [] SH0 RF0 (gup (gup (gup (gcp (gup (gup (gup (gcp I0 24 34 (0 : Int32).toNatClampNeg (0 : Int32).toNatClampNeg (6 : Int32).toNatClampNeg) 34 6 0) 34 7 0) 19 1 1) 24 34 (0 : Int32).toNatClampNeg (8 : Int32).toNatClampNeg (6 : Int32).toNatClampNeg) 34 14 0) 34 15 1) 19 1 2) (fun r h => r = none ∧ h = (SH0, RF0, (gup (gup (gcp (gup (gup (gup (gcp (gup (gup (gup (gcp I0 24 34 (0 : Int32).toNatClampNeg (0 : Int32).toNatClampNeg (6 : Int32).toNatClampNeg) 34 6 0) 34 7 0) 19 1 1) 24 34 (0 : Int32).toNatClampNeg (8 : Int32).toNatClampNeg (6 : Int32).toNatClampNeg) 34 14 0) 34 15 1) 19 1 2) 24 34 (0 : Int32).toNatClampNeg (16 : Int32).toNatClampNeg (6 : Int32).toNatClampNeg) 34 22 0) 34 23 2))) := by
  refine G_iload_n (pc := 0) rfl dX1_save_0 ?_
  refine G_bipush (pc := 1) (v := 8) (by decide) dX1_save_1 ?_
  refine G_imul (pc := 3) (z := 16) (by decide) dX1_save_3 ?_
  refine G_istore_n (pc := 4) (L1 := [some (.ref 19), some (.int 2), some (.int 16)]) rfl rfl (by decide) dX1_save_4 ?_
  refine G_aload_n (pc := 5) rfl dX1_save_5 ?_
  refine G_getR (pc := 6) (r := 24) (ci := 1) (j := 11) rfl lk_RX1_31 rfl rfl rfl dX1_save_6 ?_
  refine G_iconst (pc := 9) (v := 0) (by decide) dX1_save_9 ?_
  refine G_aload_n (pc := 10) rfl dX1_save_10 ?_
  refine G_getR (pc := 11) (r := 34) (ci := 1) (j := 18) rfl lk_RX1_53 rfl rfl rfl dX1_save_11 ?_
  refine G_iload_n (pc := 14) rfl dX1_save_14 ?_
  refine G_bipush (pc := 15) (v := 6) (by decide) dX1_save_15 ?_
  refine G_copy (pc := 17) (x := 24) (y := 34) rfl rfl (by decide) (by decide) (by decide) (by decide) (by decide) wf_50 wf_51 wf_52 wf_53 (Nat.le_of_ble_eq_true rfl) dX1_save_17 ?_
  refine G_aload_n (pc := 20) rfl dX1_save_20 ?_
  refine G_getR (pc := 21) (r := 34) (ci := 1) (j := 18) rfl lk_RX1_53 rfl rfl rfl dX1_save_21 ?_
  refine G_iload_n (pc := 24) rfl dX1_save_24 ?_
  refine G_bipush (pc := 25) (v := 6) (by decide) dX1_save_25 ?_
  refine G_iadd (pc := 27) (z := 22) (by decide) dX1_save_27 ?_
  refine G_aload_n (pc := 28) rfl dX1_save_28 ?_
  refine G_getI (pc := 29) (v := 0) (ci := 1) (j := 9) rfl rfl lk_RX1_75 rfl rfl dX1_save_29 ?_
  refine G_iast (pc := 32) (jj := 22) (by decide) rfl (by unfold vp_in; decide) dX1_save_32 ?_
  refine G_aload_n (pc := 33) rfl dX1_save_33 ?_
  refine G_getR (pc := 34) (r := 34) (ci := 1) (j := 18) rfl lk_RX1_53 rfl rfl rfl dX1_save_34 ?_
  refine G_iload_n (pc := 37) rfl dX1_save_37 ?_
  refine G_bipush (pc := 38) (v := 6) (by decide) dX1_save_38 ?_
  refine G_iadd (pc := 40) (z := 22) (by decide) dX1_save_40 ?_
  refine G_iconst (pc := 41) (v := 1) (by decide) dX1_save_41 ?_
  refine G_iadd (pc := 42) (z := 23) (by decide) dX1_save_42 ?_
  refine G_aload_n (pc := 43) rfl dX1_save_43 ?_
  refine G_getI (pc := 44) (v := 2) (ci := 1) (j := 1) rfl rfl lk_RX1_60 rfl rfl dX1_save_44 ?_
  refine G_iast (pc := 47) (jj := 23) (by decide) rfl (by unfold vp_in; decide) dX1_save_47 ?_
  exact G_vret (pc := 48) (Nat.le_of_ble_eq_true rfl) (Nat.le_of_ble_eq_true rfl) rfl dX1_save_48 ⟨rfl, rfl⟩
set_option maxRecDepth 100000 in
set_option maxHeartbeats 4000000 in
theorem s172_X1_isKey  (d : Nat)   : G (d) mX1_isKey 0 0 0 0 0 (gent 2 [.ref 19, .int (-1)]) [] SH0 RF0 (gup (gup (gcp (gup (gup (gup (gcp (gup (gup (gup (gcp I0 24 34 (0 : Int32).toNatClampNeg (0 : Int32).toNatClampNeg (6 : Int32).toNatClampNeg) 34 6 0) 34 7 0) 19 1 1) 24 34 (0 : Int32).toNatClampNeg (8 : Int32).toNatClampNeg (6 : Int32).toNatClampNeg) 34 14 0) 34 15 1) 19 1 2) 24 34 (0 : Int32).toNatClampNeg (16 : Int32).toNatClampNeg (6 : Int32).toNatClampNeg) 34 22 0) 34 23 2) (fun r h => r = some (.int 0) ∧ h = (SH0, RF0, (gup (gup (gcp (gup (gup (gup (gcp (gup (gup (gup (gcp I0 24 34 (0 : Int32).toNatClampNeg (0 : Int32).toNatClampNeg (6 : Int32).toNatClampNeg) 34 6 0) 34 7 0) 19 1 1) 24 34 (0 : Int32).toNatClampNeg (8 : Int32).toNatClampNeg (6 : Int32).toNatClampNeg) 34 14 0) 34 15 1) 19 1 2) 24 34 (0 : Int32).toNatClampNeg (16 : Int32).toNatClampNeg (6 : Int32).toNatClampNeg) 34 22 0) 34 23 2))) := by
  refine G_iload_n (pc := 0) rfl dX1_isKey_0 ?_
  refine G_if_lt (pc := 1) (tgt := 16) (by decide) dX1_isKey_1 (fun _ => ?_) (fun z => absurd (by decide) z)
  refine G_iconst (pc := 16) (v := 0) (by decide) dX1_isKey_16 ?_
  exact G_zret (pc := 17) (Nat.le_of_ble_eq_true rfl) (Nat.le_of_ble_eq_true rfl) rfl (by decide) dX1_isKey_17 ⟨rfl, rfl⟩
set_option maxRecDepth 100000 in
set_option maxHeartbeats 4000000 in
theorem s171_X1_tell  (d : Nat)   : G (d + 1) mX1_tell 0 0 0 0 0 (gent 5 [.ref 19, .int 0]) [] SH0 RF0 (gup (gup (gcp (gup (gup (gup (gcp (gup (gup (gup (gcp I0 24 34 (0 : Int32).toNatClampNeg (0 : Int32).toNatClampNeg (6 : Int32).toNatClampNeg) 34 6 0) 34 7 0) 19 1 1) 24 34 (0 : Int32).toNatClampNeg (8 : Int32).toNatClampNeg (6 : Int32).toNatClampNeg) 34 14 0) 34 15 1) 19 1 2) 24 34 (0 : Int32).toNatClampNeg (16 : Int32).toNatClampNeg (6 : Int32).toNatClampNeg) 34 22 0) 34 23 2) (fun r h => r = some (.int 0) ∧ h = (SH0, RF0, (gup (gup (gcp (gup (gup (gup (gcp (gup (gup (gup (gcp I0 24 34 (0 : Int32).toNatClampNeg (0 : Int32).toNatClampNeg (6 : Int32).toNatClampNeg) 34 6 0) 34 7 0) 19 1 1) 24 34 (0 : Int32).toNatClampNeg (8 : Int32).toNatClampNeg (6 : Int32).toNatClampNeg) 34 14 0) 34 15 1) 19 1 2) 24 34 (0 : Int32).toNatClampNeg (16 : Int32).toNatClampNeg (6 : Int32).toNatClampNeg) 34 22 0) 34 23 2))) := by
  refine G_iload_n (pc := 0) rfl dX1_tell_0 ?_
  refine G_iconst (pc := 1) (v := 1) (by decide) dX1_tell_1 ?_
  refine G_isub (pc := 2) (z := (-1)) (by decide) dX1_tell_2 ?_
  refine G_istore_n (pc := 3) (L1 := [some (.ref 19), some (.int 0), some (.int (-1)), none, none]) rfl rfl (by decide) dX1_tell_3 ?_
  refine G_aload_n (pc := 4) rfl dX1_tell_4 ?_
  refine G_iload_n (pc := 5) rfl dX1_tell_5 ?_
  refine G_callV (pc := 6) (mc1 := 0) (ms1 := 0) (ci := 1) (mj := mX1_isKey) (vs := [_]) dX1_tell_6 rfl rfl cm_X1_isKey wf_68 wf_13 wf_14 rfl (Nat.le_of_ble_eq_true rfl) (Nat.le_of_ble_eq_true rfl) (Nat.le_of_ble_eq_true rfl) (Nat.le_of_ble_eq_true rfl) (s172_X1_isKey  d  ) ?_
  rintro _ _ ⟨rfl, rfl⟩
  dsimp only [Option.toList, List.cons_append, List.nil_append]
  refine G_if_eq (pc := 9) (tgt := 20) (by decide) dX1_tell_9 (fun _ => ?_) (fun z => absurd (by decide) z)
  refine G_iconst (pc := 20) (v := 0) (by decide) dX1_tell_20 ?_
  exact G_iret (pc := 21) (Nat.le_of_ble_eq_true rfl) (Nat.le_of_ble_eq_true rfl) rfl dX1_tell_21 ⟨rfl, rfl⟩
set_option maxRecDepth 100000 in
set_option maxHeartbeats 4000000 in
theorem s173_X1_melt  (d : Nat)   : G (d) mX1_melt 0 0 0 0 0 (gent 3 [.ref 19]) [] SH0 RF0 (gup (gup (gcp (gup (gup (gup (gcp (gup (gup (gup (gcp I0 24 34 (0 : Int32).toNatClampNeg (0 : Int32).toNatClampNeg (6 : Int32).toNatClampNeg) 34 6 0) 34 7 0) 19 1 1) 24 34 (0 : Int32).toNatClampNeg (8 : Int32).toNatClampNeg (6 : Int32).toNatClampNeg) 34 14 0) 34 15 1) 19 1 2) 24 34 (0 : Int32).toNatClampNeg (16 : Int32).toNatClampNeg (6 : Int32).toNatClampNeg) 34 22 0) 34 23 2) (fun r h => r = some (.int 0) ∧ h = (SH0, RF0, (gup (gup (gup (gcp (gup (gup (gup (gcp (gup (gup (gup (gcp I0 24 34 (0 : Int32).toNatClampNeg (0 : Int32).toNatClampNeg (6 : Int32).toNatClampNeg) 34 6 0) 34 7 0) 19 1 1) 24 34 (0 : Int32).toNatClampNeg (8 : Int32).toNatClampNeg (6 : Int32).toNatClampNeg) 34 14 0) 34 15 1) 19 1 2) 24 34 (0 : Int32).toNatClampNeg (16 : Int32).toNatClampNeg (6 : Int32).toNatClampNeg) 34 22 0) 34 23 2) 19 1 3))) := by
  refine G_iconst (pc := 0) (v := 0) (by decide) dX1_melt_0 ?_
  refine G_istore_n (pc := 1) (L1 := [some (.ref 19), some (.int 0), none]) rfl rfl (by decide) dX1_melt_1 ?_
  refine G_iconst (pc := 2) (v := 0) (by decide) dX1_melt_2 ?_
  refine G_istore_n (pc := 3) (L1 := [some (.ref 19), some (.int 0), some (.int 0)]) rfl rfl (by decide) dX1_melt_3 ?_
  refine G_iload_n (pc := 4) rfl dX1_melt_4 ?_
  refine G_aload_n (pc := 5) rfl dX1_melt_5 ?_
  refine G_getI (pc := 6) (v := 0) (ci := 1) (j := 8) rfl rfl lk_RX1_72 rfl rfl dX1_melt_6 ?_
  refine G_icmp_ge (pc := 9) (tgt := 60) (by decide) dX1_melt_9 (fun _ => ?_) (fun z => absurd (by decide) z)
  refine G_aload_n (pc := 60) rfl dX1_melt_60 ?_
  refine G_dup (pc := 61) rfl dX1_melt_61 ?_
  refine G_getI (pc := 62) (v := 2) (ci := 1) (j := 1) rfl rfl lk_RX1_60 rfl rfl dX1_melt_62 ?_
  refine G_iconst (pc := 65) (v := 1) (by decide) dX1_melt_65 ?_
  refine G_iadd (pc := 66) (z := 3) (by decide) dX1_melt_66 ?_
  refine G_putI (pc := 67) (ci := 1) (j := 1) rfl lk_RX1_60 rfl rfl rfl trivial dX1_melt_67 ?_
  refine G_iload_n (pc := 70) rfl dX1_melt_70 ?_
  exact G_iret (pc := 71) (Nat.le_of_ble_eq_true rfl) (Nat.le_of_ble_eq_true rfl) rfl dX1_melt_71 ⟨rfl, rfl⟩
set_option maxRecDepth 100000 in
set_option maxHeartbeats 4000000 in
theorem s175_X4_isLast  (d : Nat)   : G (d) mX4_isLast 0 0 0 0 0 (gent 3 [.ref 51, .int 3, .int 0]) [] SH0 RF0 (gup (gup (gup (gcp (gup (gup (gup (gcp (gup (gup (gup (gcp I0 24 34 (0 : Int32).toNatClampNeg (0 : Int32).toNatClampNeg (6 : Int32).toNatClampNeg) 34 6 0) 34 7 0) 19 1 1) 24 34 (0 : Int32).toNatClampNeg (8 : Int32).toNatClampNeg (6 : Int32).toNatClampNeg) 34 14 0) 34 15 1) 19 1 2) 24 34 (0 : Int32).toNatClampNeg (16 : Int32).toNatClampNeg (6 : Int32).toNatClampNeg) 34 22 0) 34 23 2) 19 1 3) (fun r h => r = some (.int 1) ∧ h = (SH0, RF0, (gup (gup (gup (gcp (gup (gup (gup (gcp (gup (gup (gup (gcp I0 24 34 (0 : Int32).toNatClampNeg (0 : Int32).toNatClampNeg (6 : Int32).toNatClampNeg) 34 6 0) 34 7 0) 19 1 1) 24 34 (0 : Int32).toNatClampNeg (8 : Int32).toNatClampNeg (6 : Int32).toNatClampNeg) 34 14 0) 34 15 1) 19 1 2) 24 34 (0 : Int32).toNatClampNeg (16 : Int32).toNatClampNeg (6 : Int32).toNatClampNeg) 34 22 0) 34 23 2) 19 1 3))) := by
  refine G_iload_n (pc := 0) rfl dX4_isLast_0 ?_
  refine G_if_le (pc := 1) (tgt := 19) (by decide) dX4_isLast_1 (fun _ => ?_) (fun z => absurd (by decide) z)
  refine G_iconst (pc := 19) (v := 1) (by decide) dX4_isLast_19 ?_
  refine G_goto (pc := 20) (tgt := 24) (by decide) dX4_isLast_20 ?_
  exact G_zret (pc := 24) (Nat.le_of_ble_eq_true rfl) (Nat.le_of_ble_eq_true rfl) rfl (by decide) dX4_isLast_24 ⟨rfl, rfl⟩
set_option maxRecDepth 100000 in
set_option maxHeartbeats 4000000 in
theorem s176_X4_fewest  (d : Nat)   : G (d) mX4_fewest 0 0 0 0 0 (gent 8 [.ref 51, .int 0, .int 3, .int 0]) [] SH0 RF0 I0 (fun r h => r = some (.int 0) ∧ h = (SH0, RF0, I0)) := by
  refine G_iload_n (pc := 0) rfl dX4_fewest_0 ?_
  refine G_aload_n (pc := 1) rfl dX4_fewest_1 ?_
  refine G_getR (pc := 2) (r := 19) (ci := 4) (j := 0) rfl lk_RX4_21 rfl rfl rfl dX4_fewest_2 ?_
  refine G_getI (pc := 5) (v := 0) (ci := 1) (j := 9) rfl rfl lk_RX4_62 rfl rfl dX4_fewest_5 ?_
  refine G_iconst (pc := 8) (v := (-1)) (by decide) dX4_fewest_8 ?_
  refine G_ixor (pc := 9) (z := (-1)) (by decide) dX4_fewest_9 ?_
  refine G_iand (pc := 10) (z := 0) (by decide) dX4_fewest_10 ?_
  refine G_if_ne (pc := 11) (tgt := 16) (by decide) dX4_fewest_11 (fun z => absurd (by decide) z) (fun _ => ?_)
  refine G_iconst (pc := 14) (v := 0) (by decide) dX4_fewest_14 ?_
  exact G_iret (pc := 15) (Nat.le_of_ble_eq_true rfl) (Nat.le_of_ble_eq_true rfl) rfl dX4_fewest_15 ⟨rfl, rfl⟩
set_option maxRecDepth 100000 in
set_option maxHeartbeats 4000000 in
theorem s178_X4_isLast  (d : Nat)   : G (d + 1) mX4_isLast 0 0 0 0 0 (gent 3 [.ref 51, .int 0, .int 4]) [] SH0 RF0 I0 (fun r h => r = some (.int 0) ∧ h = (SH0, RF0, I0)) := by
  refine G_iload_n (pc := 0) rfl dX4_isLast_0 ?_
  refine G_if_le (pc := 1) (tgt := 19) (by decide) dX4_isLast_1 (fun z => absurd z (by decide)) (fun _ => ?_)
  refine G_iload_n (pc := 4) rfl dX4_isLast_4 ?_
  refine G_iconst (pc := 5) (v := 4) (by decide) dX4_isLast_5 ?_
  refine G_icmp_ge (pc := 6) (tgt := 19) (by decide) dX4_isLast_6 (fun z => absurd z (by decide)) (fun _ => ?_)
  refine G_aload_n (pc := 9) rfl dX4_isLast_9 ?_
  refine G_getR (pc := 10) (r := 19) (ci := 4) (j := 0) rfl lk_RX4_21 rfl rfl rfl dX4_isLast_10 ?_
  refine G_callV (pc := 13) (mc1 := 0) (ms1 := 0) (ci := 1) (mj := mX1_isOver) (vs := []) dX4_isLast_13 rfl rfl cm_X1_isOver wf_125 wf_17 wf_18 rfl (Nat.le_of_ble_eq_true rfl) (Nat.le_of_ble_eq_true rfl) (Nat.le_of_ble_eq_true rfl) (Nat.le_of_ble_eq_true rfl) (s2_X1_isOver  d  ) ?_
  rintro _ _ ⟨rfl, rfl⟩
  dsimp only [Option.toList, List.cons_append, List.nil_append]
  refine G_if_eq (pc := 16) (tgt := 23) (by decide) dX4_isLast_16 (fun _ => ?_) (fun z => absurd (by decide) z)
  refine G_iconst (pc := 23) (v := 0) (by decide) dX4_isLast_23 ?_
  exact G_zret (pc := 24) (Nat.le_of_ble_eq_true rfl) (Nat.le_of_ble_eq_true rfl) rfl (by decide) dX4_isLast_24 ⟨rfl, rfl⟩
set_option maxRecDepth 100000 in
set_option maxHeartbeats 4000000 in
theorem s180_X4_isLast  (d : Nat)   : G (d + 1) mX4_isLast 0 0 0 0 0 (gent 3 [.ref 51, .int 1, .int 3]) [] SH0 RF0 (gup (gup (gup (gcp I0 24 34 (0 : Int32).toNatClampNeg (0 : Int32).toNatClampNeg (6 : Int32).toNatClampNeg) 34 6 0) 34 7 0) 19 1 1) (fun r h => r = some (.int 0) ∧ h = (SH0, RF0, (gup (gup (gup (gcp I0 24 34 (0 : Int32).toNatClampNeg (0 : Int32).toNatClampNeg (6 : Int32).toNatClampNeg) 34 6 0) 34 7 0) 19 1 1))) := by
  refine G_iload_n (pc := 0) rfl dX4_isLast_0 ?_
  refine G_if_le (pc := 1) (tgt := 19) (by decide) dX4_isLast_1 (fun z => absurd z (by decide)) (fun _ => ?_)
  refine G_iload_n (pc := 4) rfl dX4_isLast_4 ?_
  refine G_iconst (pc := 5) (v := 4) (by decide) dX4_isLast_5 ?_
  refine G_icmp_ge (pc := 6) (tgt := 19) (by decide) dX4_isLast_6 (fun z => absurd z (by decide)) (fun _ => ?_)
  refine G_aload_n (pc := 9) rfl dX4_isLast_9 ?_
  refine G_getR (pc := 10) (r := 19) (ci := 4) (j := 0) rfl lk_RX4_21 rfl rfl rfl dX4_isLast_10 ?_
  refine G_callV (pc := 13) (mc1 := 0) (ms1 := 0) (ci := 1) (mj := mX1_isOver) (vs := []) dX4_isLast_13 rfl rfl cm_X1_isOver wf_125 wf_17 wf_18 rfl (Nat.le_of_ble_eq_true rfl) (Nat.le_of_ble_eq_true rfl) (Nat.le_of_ble_eq_true rfl) (Nat.le_of_ble_eq_true rfl) (s155_X1_isOver  d  ) ?_
  rintro _ _ ⟨rfl, rfl⟩
  dsimp only [Option.toList, List.cons_append, List.nil_append]
  refine G_if_eq (pc := 16) (tgt := 23) (by decide) dX4_isLast_16 (fun _ => ?_) (fun z => absurd (by decide) z)
  refine G_iconst (pc := 23) (v := 0) (by decide) dX4_isLast_23 ?_
  exact G_zret (pc := 24) (Nat.le_of_ble_eq_true rfl) (Nat.le_of_ble_eq_true rfl) rfl (by decide) dX4_isLast_24 ⟨rfl, rfl⟩
set_option maxRecDepth 100000 in
set_option maxHeartbeats 4000000 in
theorem s182_X4_isLast  (d : Nat)   : G (d + 1) mX4_isLast 0 0 0 0 0 (gent 3 [.ref 51, .int 2, .int 2]) [] SH0 RF0 (gup (gup (gup (gcp (gup (gup (gup (gcp I0 24 34 (0 : Int32).toNatClampNeg (0 : Int32).toNatClampNeg (6 : Int32).toNatClampNeg) 34 6 0) 34 7 0) 19 1 1) 24 34 (0 : Int32).toNatClampNeg (8 : Int32).toNatClampNeg (6 : Int32).toNatClampNeg) 34 14 0) 34 15 1) 19 1 2) (fun r h => r = some (.int 0) ∧ h = (SH0, RF0, (gup (gup (gup (gcp (gup (gup (gup (gcp I0 24 34 (0 : Int32).toNatClampNeg (0 : Int32).toNatClampNeg (6 : Int32).toNatClampNeg) 34 6 0) 34 7 0) 19 1 1) 24 34 (0 : Int32).toNatClampNeg (8 : Int32).toNatClampNeg (6 : Int32).toNatClampNeg) 34 14 0) 34 15 1) 19 1 2))) := by
  refine G_iload_n (pc := 0) rfl dX4_isLast_0 ?_
  refine G_if_le (pc := 1) (tgt := 19) (by decide) dX4_isLast_1 (fun z => absurd z (by decide)) (fun _ => ?_)
  refine G_iload_n (pc := 4) rfl dX4_isLast_4 ?_
  refine G_iconst (pc := 5) (v := 4) (by decide) dX4_isLast_5 ?_
  refine G_icmp_ge (pc := 6) (tgt := 19) (by decide) dX4_isLast_6 (fun z => absurd z (by decide)) (fun _ => ?_)
  refine G_aload_n (pc := 9) rfl dX4_isLast_9 ?_
  refine G_getR (pc := 10) (r := 19) (ci := 4) (j := 0) rfl lk_RX4_21 rfl rfl rfl dX4_isLast_10 ?_
  refine G_callV (pc := 13) (mc1 := 0) (ms1 := 0) (ci := 1) (mj := mX1_isOver) (vs := []) dX4_isLast_13 rfl rfl cm_X1_isOver wf_125 wf_17 wf_18 rfl (Nat.le_of_ble_eq_true rfl) (Nat.le_of_ble_eq_true rfl) (Nat.le_of_ble_eq_true rfl) (Nat.le_of_ble_eq_true rfl) (s169_X1_isOver  d  ) ?_
  rintro _ _ ⟨rfl, rfl⟩
  dsimp only [Option.toList, List.cons_append, List.nil_append]
  refine G_if_eq (pc := 16) (tgt := 23) (by decide) dX4_isLast_16 (fun _ => ?_) (fun z => absurd (by decide) z)
  refine G_iconst (pc := 23) (v := 0) (by decide) dX4_isLast_23 ?_
  exact G_zret (pc := 24) (Nat.le_of_ble_eq_true rfl) (Nat.le_of_ble_eq_true rfl) rfl (by decide) dX4_isLast_24 ⟨rfl, rfl⟩
set_option maxRecDepth 100000 in
set_option maxHeartbeats 4000000 in
theorem s185_X1_isOver  (d : Nat)   : G (d) mX1_isOver 0 0 0 0 0 (gent 1 [.ref 19]) [] SH0 RF0 (gup (gup (gup (gcp (gup (gup (gup (gcp (gup (gup (gup (gcp I0 24 34 (0 : Int32).toNatClampNeg (0 : Int32).toNatClampNeg (6 : Int32).toNatClampNeg) 34 6 0) 34 7 0) 19 1 1) 24 34 (0 : Int32).toNatClampNeg (8 : Int32).toNatClampNeg (6 : Int32).toNatClampNeg) 34 14 0) 34 15 1) 19 1 2) 24 34 (0 : Int32).toNatClampNeg (16 : Int32).toNatClampNeg (6 : Int32).toNatClampNeg) 34 22 0) 34 23 2) 19 1 3) (fun r h => r = some (.int 0) ∧ h = (SH0, RF0, (gup (gup (gup (gcp (gup (gup (gup (gcp (gup (gup (gup (gcp I0 24 34 (0 : Int32).toNatClampNeg (0 : Int32).toNatClampNeg (6 : Int32).toNatClampNeg) 34 6 0) 34 7 0) 19 1 1) 24 34 (0 : Int32).toNatClampNeg (8 : Int32).toNatClampNeg (6 : Int32).toNatClampNeg) 34 14 0) 34 15 1) 19 1 2) 24 34 (0 : Int32).toNatClampNeg (16 : Int32).toNatClampNeg (6 : Int32).toNatClampNeg) 34 22 0) 34 23 2) 19 1 3))) := by
  refine G_aload_n (pc := 0) rfl dX1_isOver_0 ?_
  refine G_getI (pc := 1) (v := 3) (ci := 1) (j := 1) rfl rfl lk_RX1_60 rfl rfl dX1_isOver_1 ?_
  refine G_aload_n (pc := 4) rfl dX1_isOver_4 ?_
  refine G_getI (pc := 5) (v := 12) (ci := 1) (j := 2) rfl rfl lk_RX1_9 rfl rfl dX1_isOver_5 ?_
  refine G_icmp_lt (pc := 8) (tgt := 15) (by decide) dX1_isOver_8 (fun _ => ?_) (fun z => absurd (by decide) z)
  refine G_iconst (pc := 15) (v := 0) (by decide) dX1_isOver_15 ?_
  exact G_zret (pc := 16) (Nat.le_of_ble_eq_true rfl) (Nat.le_of_ble_eq_true rfl) rfl (by decide) dX1_isOver_16 ⟨rfl, rfl⟩
set_option maxRecDepth 100000 in
set_option maxHeartbeats 4000000 in
theorem s184_X4_isLast  (d : Nat)   : G (d + 1) mX4_isLast 0 0 0 0 0 (gent 3 [.ref 51, .int 3, .int 1]) [] SH0 RF0 (gup (gup (gup (gcp (gup (gup (gup (gcp (gup (gup (gup (gcp I0 24 34 (0 : Int32).toNatClampNeg (0 : Int32).toNatClampNeg (6 : Int32).toNatClampNeg) 34 6 0) 34 7 0) 19 1 1) 24 34 (0 : Int32).toNatClampNeg (8 : Int32).toNatClampNeg (6 : Int32).toNatClampNeg) 34 14 0) 34 15 1) 19 1 2) 24 34 (0 : Int32).toNatClampNeg (16 : Int32).toNatClampNeg (6 : Int32).toNatClampNeg) 34 22 0) 34 23 2) 19 1 3) (fun r h => r = some (.int 0) ∧ h = (SH0, RF0, (gup (gup (gup (gcp (gup (gup (gup (gcp (gup (gup (gup (gcp I0 24 34 (0 : Int32).toNatClampNeg (0 : Int32).toNatClampNeg (6 : Int32).toNatClampNeg) 34 6 0) 34 7 0) 19 1 1) 24 34 (0 : Int32).toNatClampNeg (8 : Int32).toNatClampNeg (6 : Int32).toNatClampNeg) 34 14 0) 34 15 1) 19 1 2) 24 34 (0 : Int32).toNatClampNeg (16 : Int32).toNatClampNeg (6 : Int32).toNatClampNeg) 34 22 0) 34 23 2) 19 1 3))) := by
  refine G_iload_n (pc := 0) rfl dX4_isLast_0 ?_
  refine G_if_le (pc := 1) (tgt := 19) (by decide) dX4_isLast_1 (fun z => absurd z (by decide)) (fun _ => ?_)
  refine G_iload_n (pc := 4) rfl dX4_isLast_4 ?_
  refine G_iconst (pc := 5) (v := 4) (by decide) dX4_isLast_5 ?_
  refine G_icmp_ge (pc := 6) (tgt := 19) (by decide) dX4_isLast_6 (fun z => absurd z (by decide)) (fun _ => ?_)
  refine G_aload_n (pc := 9) rfl dX4_isLast_9 ?_
  refine G_getR (pc := 10) (r := 19) (ci := 4) (j := 0) rfl lk_RX4_21 rfl rfl rfl dX4_isLast_10 ?_
  refine G_callV (pc := 13) (mc1 := 0) (ms1 := 0) (ci := 1) (mj := mX1_isOver) (vs := []) dX4_isLast_13 rfl rfl cm_X1_isOver wf_125 wf_17 wf_18 rfl (Nat.le_of_ble_eq_true rfl) (Nat.le_of_ble_eq_true rfl) (Nat.le_of_ble_eq_true rfl) (Nat.le_of_ble_eq_true rfl) (s185_X1_isOver  d  ) ?_
  rintro _ _ ⟨rfl, rfl⟩
  dsimp only [Option.toList, List.cons_append, List.nil_append]
  refine G_if_eq (pc := 16) (tgt := 23) (by decide) dX4_isLast_16 (fun _ => ?_) (fun z => absurd (by decide) z)
  refine G_iconst (pc := 23) (v := 0) (by decide) dX4_isLast_23 ?_
  exact G_zret (pc := 24) (Nat.le_of_ble_eq_true rfl) (Nat.le_of_ble_eq_true rfl) rfl (by decide) dX4_isLast_24 ⟨rfl, rfl⟩
set_option maxRecDepth 100000 in
set_option maxHeartbeats 4000000 in
theorem s186_X1_save  (d : Nat)   : G (d + 1) mX1_save 0 0 0 0 0 (gent 3 [.ref 19, .int 3]) [] SH0 RF0 (gup (gup (gup (gcp (gup (gup (gup (gcp (gup (gup (gup (gcp I0 24 34 (0 : Int32).toNatClampNeg (0 : Int32).toNatClampNeg (6 : Int32).toNatClampNeg) 34 6 0) 34 7 0) 19 1 1) 24 34 (0 : Int32).toNatClampNeg (8 : Int32).toNatClampNeg (6 : Int32).toNatClampNeg) 34 14 0) 34 15 1) 19 1 2) 24 34 (0 : Int32).toNatClampNeg (16 : Int32).toNatClampNeg (6 : Int32).toNatClampNeg) 34 22 0) 34 23 2) 19 1 3) (fun r h => r = none ∧ h = (SH0, RF0, (gup (gup (gcp (gup (gup (gup (gcp (gup (gup (gup (gcp (gup (gup (gup (gcp I0 24 34 (0 : Int32).toNatClampNeg (0 : Int32).toNatClampNeg (6 : Int32).toNatClampNeg) 34 6 0) 34 7 0) 19 1 1) 24 34 (0 : Int32).toNatClampNeg (8 : Int32).toNatClampNeg (6 : Int32).toNatClampNeg) 34 14 0) 34 15 1) 19 1 2) 24 34 (0 : Int32).toNatClampNeg (16 : Int32).toNatClampNeg (6 : Int32).toNatClampNeg) 34 22 0) 34 23 2) 19 1 3) 24 34 (0 : Int32).toNatClampNeg (24 : Int32).toNatClampNeg (6 : Int32).toNatClampNeg) 34 30 0) 34 31 3))) := by
  refine G_iload_n (pc := 0) rfl dX1_save_0 ?_
  refine G_bipush (pc := 1) (v := 8) (by decide) dX1_save_1 ?_
  refine G_imul (pc := 3) (z := 24) (by decide) dX1_save_3 ?_
  refine G_istore_n (pc := 4) (L1 := [some (.ref 19), some (.int 3), some (.int 24)]) rfl rfl (by decide) dX1_save_4 ?_
  refine G_aload_n (pc := 5) rfl dX1_save_5 ?_
  refine G_getR (pc := 6) (r := 24) (ci := 1) (j := 11) rfl lk_RX1_31 rfl rfl rfl dX1_save_6 ?_
  refine G_iconst (pc := 9) (v := 0) (by decide) dX1_save_9 ?_
  refine G_aload_n (pc := 10) rfl dX1_save_10 ?_
  refine G_getR (pc := 11) (r := 34) (ci := 1) (j := 18) rfl lk_RX1_53 rfl rfl rfl dX1_save_11 ?_
  refine G_iload_n (pc := 14) rfl dX1_save_14 ?_
  refine G_bipush (pc := 15) (v := 6) (by decide) dX1_save_15 ?_
  refine G_copy (pc := 17) (x := 24) (y := 34) rfl rfl (by decide) (by decide) (by decide) (by decide) (by decide) wf_50 wf_51 wf_52 wf_53 (Nat.le_of_ble_eq_true rfl) dX1_save_17 ?_
  refine G_aload_n (pc := 20) rfl dX1_save_20 ?_
  refine G_getR (pc := 21) (r := 34) (ci := 1) (j := 18) rfl lk_RX1_53 rfl rfl rfl dX1_save_21 ?_
  refine G_iload_n (pc := 24) rfl dX1_save_24 ?_
  refine G_bipush (pc := 25) (v := 6) (by decide) dX1_save_25 ?_
  refine G_iadd (pc := 27) (z := 30) (by decide) dX1_save_27 ?_
  refine G_aload_n (pc := 28) rfl dX1_save_28 ?_
  refine G_getI (pc := 29) (v := 0) (ci := 1) (j := 9) rfl rfl lk_RX1_75 rfl rfl dX1_save_29 ?_
  refine G_iast (pc := 32) (jj := 30) (by decide) rfl (by unfold vp_in; decide) dX1_save_32 ?_
  refine G_aload_n (pc := 33) rfl dX1_save_33 ?_
  refine G_getR (pc := 34) (r := 34) (ci := 1) (j := 18) rfl lk_RX1_53 rfl rfl rfl dX1_save_34 ?_
  refine G_iload_n (pc := 37) rfl dX1_save_37 ?_
  refine G_bipush (pc := 38) (v := 6) (by decide) dX1_save_38 ?_
  refine G_iadd (pc := 40) (z := 30) (by decide) dX1_save_40 ?_
  refine G_iconst (pc := 41) (v := 1) (by decide) dX1_save_41 ?_
  refine G_iadd (pc := 42) (z := 31) (by decide) dX1_save_42 ?_
  refine G_aload_n (pc := 43) rfl dX1_save_43 ?_
  refine G_getI (pc := 44) (v := 3) (ci := 1) (j := 1) rfl rfl lk_RX1_60 rfl rfl dX1_save_44 ?_
  refine G_iast (pc := 47) (jj := 31) (by decide) rfl (by unfold vp_in; decide) dX1_save_47 ?_
  exact G_vret (pc := 48) (Nat.le_of_ble_eq_true rfl) (Nat.le_of_ble_eq_true rfl) rfl dX1_save_48 ⟨rfl, rfl⟩
set_option maxRecDepth 100000 in
set_option maxHeartbeats 4000000 in
theorem s188_X1_isKey  (d : Nat)   : G (d) mX1_isKey 0 0 0 0 0 (gent 2 [.ref 19, .int (-1)]) [] SH0 RF0 (gup (gup (gcp (gup (gup (gup (gcp (gup (gup (gup (gcp (gup (gup (gup (gcp I0 24 34 (0 : Int32).toNatClampNeg (0 : Int32).toNatClampNeg (6 : Int32).toNatClampNeg) 34 6 0) 34 7 0) 19 1 1) 24 34 (0 : Int32).toNatClampNeg (8 : Int32).toNatClampNeg (6 : Int32).toNatClampNeg) 34 14 0) 34 15 1) 19 1 2) 24 34 (0 : Int32).toNatClampNeg (16 : Int32).toNatClampNeg (6 : Int32).toNatClampNeg) 34 22 0) 34 23 2) 19 1 3) 24 34 (0 : Int32).toNatClampNeg (24 : Int32).toNatClampNeg (6 : Int32).toNatClampNeg) 34 30 0) 34 31 3) (fun r h => r = some (.int 0) ∧ h = (SH0, RF0, (gup (gup (gcp (gup (gup (gup (gcp (gup (gup (gup (gcp (gup (gup (gup (gcp I0 24 34 (0 : Int32).toNatClampNeg (0 : Int32).toNatClampNeg (6 : Int32).toNatClampNeg) 34 6 0) 34 7 0) 19 1 1) 24 34 (0 : Int32).toNatClampNeg (8 : Int32).toNatClampNeg (6 : Int32).toNatClampNeg) 34 14 0) 34 15 1) 19 1 2) 24 34 (0 : Int32).toNatClampNeg (16 : Int32).toNatClampNeg (6 : Int32).toNatClampNeg) 34 22 0) 34 23 2) 19 1 3) 24 34 (0 : Int32).toNatClampNeg (24 : Int32).toNatClampNeg (6 : Int32).toNatClampNeg) 34 30 0) 34 31 3))) := by
  refine G_iload_n (pc := 0) rfl dX1_isKey_0 ?_
  refine G_if_lt (pc := 1) (tgt := 16) (by decide) dX1_isKey_1 (fun _ => ?_) (fun z => absurd (by decide) z)
  refine G_iconst (pc := 16) (v := 0) (by decide) dX1_isKey_16 ?_
  exact G_zret (pc := 17) (Nat.le_of_ble_eq_true rfl) (Nat.le_of_ble_eq_true rfl) rfl (by decide) dX1_isKey_17 ⟨rfl, rfl⟩
set_option maxRecDepth 100000 in
set_option maxHeartbeats 4000000 in
theorem s187_X1_tell  (d : Nat)   : G (d + 1) mX1_tell 0 0 0 0 0 (gent 5 [.ref 19, .int 0]) [] SH0 RF0 (gup (gup (gcp (gup (gup (gup (gcp (gup (gup (gup (gcp (gup (gup (gup (gcp I0 24 34 (0 : Int32).toNatClampNeg (0 : Int32).toNatClampNeg (6 : Int32).toNatClampNeg) 34 6 0) 34 7 0) 19 1 1) 24 34 (0 : Int32).toNatClampNeg (8 : Int32).toNatClampNeg (6 : Int32).toNatClampNeg) 34 14 0) 34 15 1) 19 1 2) 24 34 (0 : Int32).toNatClampNeg (16 : Int32).toNatClampNeg (6 : Int32).toNatClampNeg) 34 22 0) 34 23 2) 19 1 3) 24 34 (0 : Int32).toNatClampNeg (24 : Int32).toNatClampNeg (6 : Int32).toNatClampNeg) 34 30 0) 34 31 3) (fun r h => r = some (.int 0) ∧ h = (SH0, RF0, (gup (gup (gcp (gup (gup (gup (gcp (gup (gup (gup (gcp (gup (gup (gup (gcp I0 24 34 (0 : Int32).toNatClampNeg (0 : Int32).toNatClampNeg (6 : Int32).toNatClampNeg) 34 6 0) 34 7 0) 19 1 1) 24 34 (0 : Int32).toNatClampNeg (8 : Int32).toNatClampNeg (6 : Int32).toNatClampNeg) 34 14 0) 34 15 1) 19 1 2) 24 34 (0 : Int32).toNatClampNeg (16 : Int32).toNatClampNeg (6 : Int32).toNatClampNeg) 34 22 0) 34 23 2) 19 1 3) 24 34 (0 : Int32).toNatClampNeg (24 : Int32).toNatClampNeg (6 : Int32).toNatClampNeg) 34 30 0) 34 31 3))) := by
  refine G_iload_n (pc := 0) rfl dX1_tell_0 ?_
  refine G_iconst (pc := 1) (v := 1) (by decide) dX1_tell_1 ?_
  refine G_isub (pc := 2) (z := (-1)) (by decide) dX1_tell_2 ?_
  refine G_istore_n (pc := 3) (L1 := [some (.ref 19), some (.int 0), some (.int (-1)), none, none]) rfl rfl (by decide) dX1_tell_3 ?_
  refine G_aload_n (pc := 4) rfl dX1_tell_4 ?_
  refine G_iload_n (pc := 5) rfl dX1_tell_5 ?_
  refine G_callV (pc := 6) (mc1 := 0) (ms1 := 0) (ci := 1) (mj := mX1_isKey) (vs := [_]) dX1_tell_6 rfl rfl cm_X1_isKey wf_68 wf_13 wf_14 rfl (Nat.le_of_ble_eq_true rfl) (Nat.le_of_ble_eq_true rfl) (Nat.le_of_ble_eq_true rfl) (Nat.le_of_ble_eq_true rfl) (s188_X1_isKey  d  ) ?_
  rintro _ _ ⟨rfl, rfl⟩
  dsimp only [Option.toList, List.cons_append, List.nil_append]
  refine G_if_eq (pc := 9) (tgt := 20) (by decide) dX1_tell_9 (fun _ => ?_) (fun z => absurd (by decide) z)
  refine G_iconst (pc := 20) (v := 0) (by decide) dX1_tell_20 ?_
  exact G_iret (pc := 21) (Nat.le_of_ble_eq_true rfl) (Nat.le_of_ble_eq_true rfl) rfl dX1_tell_21 ⟨rfl, rfl⟩
set_option maxRecDepth 100000 in
set_option maxHeartbeats 4000000 in
theorem s189_X1_melt  (d : Nat)   : G (d) mX1_melt 0 0 0 0 0 (gent 3 [.ref 19]) [] SH0 RF0 (gup (gup (gcp (gup (gup (gup (gcp (gup (gup (gup (gcp (gup (gup (gup (gcp I0 24 34 (0 : Int32).toNatClampNeg (0 : Int32).toNatClampNeg (6 : Int32).toNatClampNeg) 34 6 0) 34 7 0) 19 1 1) 24 34 (0 : Int32).toNatClampNeg (8 : Int32).toNatClampNeg (6 : Int32).toNatClampNeg) 34 14 0) 34 15 1) 19 1 2) 24 34 (0 : Int32).toNatClampNeg (16 : Int32).toNatClampNeg (6 : Int32).toNatClampNeg) 34 22 0) 34 23 2) 19 1 3) 24 34 (0 : Int32).toNatClampNeg (24 : Int32).toNatClampNeg (6 : Int32).toNatClampNeg) 34 30 0) 34 31 3) (fun r h => r = some (.int 0) ∧ h = (SH0, RF0, (gup (gup (gup (gcp (gup (gup (gup (gcp (gup (gup (gup (gcp (gup (gup (gup (gcp I0 24 34 (0 : Int32).toNatClampNeg (0 : Int32).toNatClampNeg (6 : Int32).toNatClampNeg) 34 6 0) 34 7 0) 19 1 1) 24 34 (0 : Int32).toNatClampNeg (8 : Int32).toNatClampNeg (6 : Int32).toNatClampNeg) 34 14 0) 34 15 1) 19 1 2) 24 34 (0 : Int32).toNatClampNeg (16 : Int32).toNatClampNeg (6 : Int32).toNatClampNeg) 34 22 0) 34 23 2) 19 1 3) 24 34 (0 : Int32).toNatClampNeg (24 : Int32).toNatClampNeg (6 : Int32).toNatClampNeg) 34 30 0) 34 31 3) 19 1 4))) := by
  refine G_iconst (pc := 0) (v := 0) (by decide) dX1_melt_0 ?_
  refine G_istore_n (pc := 1) (L1 := [some (.ref 19), some (.int 0), none]) rfl rfl (by decide) dX1_melt_1 ?_
  refine G_iconst (pc := 2) (v := 0) (by decide) dX1_melt_2 ?_
  refine G_istore_n (pc := 3) (L1 := [some (.ref 19), some (.int 0), some (.int 0)]) rfl rfl (by decide) dX1_melt_3 ?_
  refine G_iload_n (pc := 4) rfl dX1_melt_4 ?_
  refine G_aload_n (pc := 5) rfl dX1_melt_5 ?_
  refine G_getI (pc := 6) (v := 0) (ci := 1) (j := 8) rfl rfl lk_RX1_72 rfl rfl dX1_melt_6 ?_
  refine G_icmp_ge (pc := 9) (tgt := 60) (by decide) dX1_melt_9 (fun _ => ?_) (fun z => absurd (by decide) z)
  refine G_aload_n (pc := 60) rfl dX1_melt_60 ?_
  refine G_dup (pc := 61) rfl dX1_melt_61 ?_
  refine G_getI (pc := 62) (v := 3) (ci := 1) (j := 1) rfl rfl lk_RX1_60 rfl rfl dX1_melt_62 ?_
  refine G_iconst (pc := 65) (v := 1) (by decide) dX1_melt_65 ?_
  refine G_iadd (pc := 66) (z := 4) (by decide) dX1_melt_66 ?_
  refine G_putI (pc := 67) (ci := 1) (j := 1) rfl lk_RX1_60 rfl rfl rfl trivial dX1_melt_67 ?_
  refine G_iload_n (pc := 70) rfl dX1_melt_70 ?_
  exact G_iret (pc := 71) (Nat.le_of_ble_eq_true rfl) (Nat.le_of_ble_eq_true rfl) rfl dX1_melt_71 ⟨rfl, rfl⟩
set_option maxRecDepth 100000 in
set_option maxHeartbeats 4000000 in
theorem s191_X4_isLast  (d : Nat)   : G (d) mX4_isLast 0 0 0 0 0 (gent 3 [.ref 51, .int 4, .int 0]) [] SH0 RF0 (gup (gup (gup (gcp (gup (gup (gup (gcp (gup (gup (gup (gcp (gup (gup (gup (gcp I0 24 34 (0 : Int32).toNatClampNeg (0 : Int32).toNatClampNeg (6 : Int32).toNatClampNeg) 34 6 0) 34 7 0) 19 1 1) 24 34 (0 : Int32).toNatClampNeg (8 : Int32).toNatClampNeg (6 : Int32).toNatClampNeg) 34 14 0) 34 15 1) 19 1 2) 24 34 (0 : Int32).toNatClampNeg (16 : Int32).toNatClampNeg (6 : Int32).toNatClampNeg) 34 22 0) 34 23 2) 19 1 3) 24 34 (0 : Int32).toNatClampNeg (24 : Int32).toNatClampNeg (6 : Int32).toNatClampNeg) 34 30 0) 34 31 3) 19 1 4) (fun r h => r = some (.int 1) ∧ h = (SH0, RF0, (gup (gup (gup (gcp (gup (gup (gup (gcp (gup (gup (gup (gcp (gup (gup (gup (gcp I0 24 34 (0 : Int32).toNatClampNeg (0 : Int32).toNatClampNeg (6 : Int32).toNatClampNeg) 34 6 0) 34 7 0) 19 1 1) 24 34 (0 : Int32).toNatClampNeg (8 : Int32).toNatClampNeg (6 : Int32).toNatClampNeg) 34 14 0) 34 15 1) 19 1 2) 24 34 (0 : Int32).toNatClampNeg (16 : Int32).toNatClampNeg (6 : Int32).toNatClampNeg) 34 22 0) 34 23 2) 19 1 3) 24 34 (0 : Int32).toNatClampNeg (24 : Int32).toNatClampNeg (6 : Int32).toNatClampNeg) 34 30 0) 34 31 3) 19 1 4))) := by
  refine G_iload_n (pc := 0) rfl dX4_isLast_0 ?_
  refine G_if_le (pc := 1) (tgt := 19) (by decide) dX4_isLast_1 (fun _ => ?_) (fun z => absurd (by decide) z)
  refine G_iconst (pc := 19) (v := 1) (by decide) dX4_isLast_19 ?_
  refine G_goto (pc := 20) (tgt := 24) (by decide) dX4_isLast_20 ?_
  exact G_zret (pc := 24) (Nat.le_of_ble_eq_true rfl) (Nat.le_of_ble_eq_true rfl) rfl (by decide) dX4_isLast_24 ⟨rfl, rfl⟩
set_option maxRecDepth 100000 in
set_option maxHeartbeats 4000000 in
theorem s192_X4_fewest  (d : Nat)   : G (d) mX4_fewest 0 0 0 0 0 (gent 8 [.ref 51, .int 0, .int 4, .int 0]) [] SH0 RF0 I0 (fun r h => r = some (.int 0) ∧ h = (SH0, RF0, I0)) := by
  refine G_iload_n (pc := 0) rfl dX4_fewest_0 ?_
  refine G_aload_n (pc := 1) rfl dX4_fewest_1 ?_
  refine G_getR (pc := 2) (r := 19) (ci := 4) (j := 0) rfl lk_RX4_21 rfl rfl rfl dX4_fewest_2 ?_
  refine G_getI (pc := 5) (v := 0) (ci := 1) (j := 9) rfl rfl lk_RX4_62 rfl rfl dX4_fewest_5 ?_
  refine G_iconst (pc := 8) (v := (-1)) (by decide) dX4_fewest_8 ?_
  refine G_ixor (pc := 9) (z := (-1)) (by decide) dX4_fewest_9 ?_
  refine G_iand (pc := 10) (z := 0) (by decide) dX4_fewest_10 ?_
  refine G_if_ne (pc := 11) (tgt := 16) (by decide) dX4_fewest_11 (fun z => absurd (by decide) z) (fun _ => ?_)
  refine G_iconst (pc := 14) (v := 0) (by decide) dX4_fewest_14 ?_
  exact G_iret (pc := 15) (Nat.le_of_ble_eq_true rfl) (Nat.le_of_ble_eq_true rfl) rfl dX4_fewest_15 ⟨rfl, rfl⟩
def F_order (n : Int32) (keys : Int32) : Int32 := if (0 ≤ n ∧ n ≤ 4) ∧ keys = 0 then 0 else -1
set_option maxRecDepth 100000 in
set_option maxHeartbeats 4000000 in
theorem x_order (d : Nat) (n : Int32) (keys : Int32) : G (d + 2) mX11_order 0 0 0 0 0 (gent 4 [.ref 0, .int n, .int keys]) [] SH0 RF0 I0 (fun r h => ∃ I1, r = some (.int (F_order n keys)) ∧ h = (SH0, RF0, I1) ∧ ∀ a, 67 ≤ a → I1 a = I0 a) := by
  refine G_iload_n (pc := 0) rfl dX11_order_0 ?_
  refine G_callS (pc := 1) (mc1 := 0) (ms1 := 0) (mj := mX11_isPlan) (vs := [_]) dX11_order_1 cm_X11_isPlan wf_122 wf_124 rfl (Nat.le_of_ble_eq_true rfl) (Nat.le_of_ble_eq_true rfl) (Nat.le_of_ble_eq_true rfl) (Nat.le_of_ble_eq_true rfl) (isPlan_s d n) ?_
  rintro _ _ ⟨rfl, rfl⟩
  dsimp only [Option.toList, List.cons_append, List.nil_append]
  refine G_if_eq (pc := 4) (tgt := 15) (by decide) dX11_order_4 (fun c451 => ?_) (fun c451 => ?_)
  · have c451 := gB_z c451
    refine G_iconst (pc := 15) (v := (-1)) (by decide) dX11_order_15 ?_
    exact G_iret (pc := 16) (Nat.le_of_ble_eq_true rfl) (Nat.le_of_ble_eq_true rfl) rfl dX11_order_16 ⟨_, by first | rfl | (simp [F_order, *]; done) | (have : ¬ (0 ≤ (n).toInt ∧ (n).toInt ≤ 4) := fun z => c451 ⟨Int32.le_iff_toInt_le.mpr z.1, Int32.le_iff_toInt_le.mpr z.2⟩; simp only [F_order, Int32.le_iff_toInt_le, Int32.lt_iff_toInt_lt, ← Int32.toInt_inj]; simp; omega) | (have : ¬ (0 ≤ (n).toInt ∧ (n).toInt ≤ 4) := fun z => c451 ⟨Int32.le_iff_toInt_le.mpr z.1, Int32.le_iff_toInt_le.mpr z.2⟩; simp only [F_order, Int32.le_iff_toInt_le, Int32.lt_iff_toInt_lt, ← Int32.toInt_inj]; split <;> first | rfl | (exfalso; simp at *; omega)) | (have : ¬ (0 ≤ (n).toInt ∧ (n).toInt ≤ 4) := fun z => c451 ⟨Int32.le_iff_toInt_le.mpr z.1, Int32.le_iff_toInt_le.mpr z.2⟩; unfold F_order; (repeat' split) <;> first | rfl | (exfalso; (try simp only [Int32.le_iff_toInt_le, Int32.lt_iff_toInt_lt, ← Int32.toInt_inj] at *); first | omega | (simp at *; done) | (simp at *; omega))), rfl, fun _ _ => rfl⟩
  · have c451 := gB_o c451
    refine G_aload_n (pc := 7) rfl dX11_order_7 ?_
    refine G_iload_n (pc := 8) rfl dX11_order_8 ?_
    refine G_callV (pc := 9) (mc1 := 0) (ms1 := 0) (ci := 11) (mj := mX11_isKeySet) (vs := [_]) dX11_order_9 rfl rfl cm_X11_isKeySet wf_154 wf_156 wf_157 rfl (Nat.le_of_ble_eq_true rfl) (Nat.le_of_ble_eq_true rfl) (Nat.le_of_ble_eq_true rfl) (Nat.le_of_ble_eq_true rfl) (s137_X11_isKeySet  d  _) ?_
    rintro _ _ ⟨rfl, rfl⟩
    dsimp only [Option.toList, List.cons_append, List.nil_append]
    refine G_if_ne (pc := 12) (tgt := 17) (by decide) dX11_order_12 (fun c452 => ?_) (fun c452 => ?_)
    · have c452 := gB_o c452
      refine G_aload_n (pc := 17) rfl dX11_order_17 ?_
      refine G_getR (pc := 18) (r := 51) (ci := 11) (j := 3) rfl lk_RX11_68 rfl rfl rfl dX11_order_18 ?_
      refine G_iconst (pc := 21) (v := 0) (by decide) dX11_order_21 ?_
      refine G_iload_n (pc := 22) rfl dX11_order_22 ?_
      refine G_iload_n (pc := 23) rfl dX11_order_23 ?_
      by_cases c455 : n = 0
      · subst c455
        by_cases c457 : keys = 0
        · subst c457
          refine G_callVN (host := "IceKeys") (pc := 24) (mc1 := 0) (ms1 := 0) (ci := 4) (mj := mX4_fewest) (vs := [_, _, _]) dX11_order_24 rfl rfl cm_X4_fewest (by decide) wf_159 wf_160 rfl (Nat.le_of_ble_eq_true rfl) (Nat.le_of_ble_eq_true rfl) (Nat.le_of_ble_eq_true rfl) (Nat.le_of_ble_eq_true rfl) (s142_X4_fewest  (d + 1)  ) ?_
          rintro _ _ ⟨rfl, rfl⟩
          dsimp only [Option.toList, List.cons_append, List.nil_append]
          refine G_istore_n (pc := 27) (L1 := [some (.ref 0), some (.int 0), some (.int 0), some (.int 0)]) rfl rfl (by decide) dX11_order_27 ?_
          refine G_iload_n (pc := 28) rfl dX11_order_28 ?_
          refine G_iload_n (pc := 29) rfl dX11_order_29 ?_
          refine G_icmp_le (pc := 30) (tgt := 38) (by decide) dX11_order_30 (fun _ => ?_) (fun z => absurd (by decide) z)
          refine G_iload_n (pc := 38) rfl dX11_order_38 ?_
          exact G_iret (pc := 39) (Nat.le_of_ble_eq_true rfl) (Nat.le_of_ble_eq_true rfl) rfl dX11_order_39 ⟨_, by first | rfl | (simp [F_order, *]; done) | (simp only [F_order, Int32.le_iff_toInt_le, Int32.lt_iff_toInt_lt, ← Int32.toInt_inj]; simp; omega) | (simp only [F_order, Int32.le_iff_toInt_le, Int32.lt_iff_toInt_lt, ← Int32.toInt_inj]; split <;> first | rfl | (exfalso; simp at *; omega)) | (unfold F_order; (repeat' split) <;> first | rfl | (exfalso; (try simp only [Int32.le_iff_toInt_le, Int32.lt_iff_toInt_lt, ← Int32.toInt_inj] at *); first | omega | (simp at *; done) | (simp at *; omega))), rfl, fun _ _ => rfl⟩
        exfalso
        have : 0 ≤ (keys).toInt := Int32.le_iff_toInt_le.mp (c452.1)
        have : (keys).toInt ≤ 0 := Int32.le_iff_toInt_le.mp (c452.2)
        have : (keys).toInt ≠ 0 := g_ne (c457)
        omega
      by_cases c458 : n = 1
      · subst c458
        by_cases c461 : keys = 0
        · subst c461
          refine G_callVN (host := "IceKeys") (pc := 24) (mc1 := 0) (ms1 := 0) (ci := 4) (mj := mX4_fewest) (vs := [_, _, _]) dX11_order_24 rfl rfl cm_X4_fewest (by decide) wf_159 wf_160 rfl (Nat.le_of_ble_eq_true rfl) (Nat.le_of_ble_eq_true rfl) (Nat.le_of_ble_eq_true rfl) (Nat.le_of_ble_eq_true rfl) (s150_X4_fewest  (d + 1)  ) ?_
          rintro _ _ ⟨rfl, rfl⟩
          dsimp only [Option.toList, List.cons_append, List.nil_append]
          refine G_istore_n (pc := 27) (L1 := [some (.ref 0), some (.int 1), some (.int 0), some (.int 0)]) rfl rfl (by decide) dX11_order_27 ?_
          refine G_iload_n (pc := 28) rfl dX11_order_28 ?_
          refine G_iload_n (pc := 29) rfl dX11_order_29 ?_
          refine G_icmp_le (pc := 30) (tgt := 38) (by decide) dX11_order_30 (fun _ => ?_) (fun z => absurd (by decide) z)
          refine G_iload_n (pc := 38) rfl dX11_order_38 ?_
          exact G_iret (pc := 39) (Nat.le_of_ble_eq_true rfl) (Nat.le_of_ble_eq_true rfl) rfl dX11_order_39 ⟨_, by first | rfl | (simp [F_order, *]; done) | (simp only [F_order, Int32.le_iff_toInt_le, Int32.lt_iff_toInt_lt, ← Int32.toInt_inj]; simp; omega) | (simp only [F_order, Int32.le_iff_toInt_le, Int32.lt_iff_toInt_lt, ← Int32.toInt_inj]; split <;> first | rfl | (exfalso; simp at *; omega)) | (unfold F_order; (repeat' split) <;> first | rfl | (exfalso; (try simp only [Int32.le_iff_toInt_le, Int32.lt_iff_toInt_lt, ← Int32.toInt_inj] at *); first | omega | (simp at *; done) | (simp at *; omega))), rfl, fun _ _ => rfl⟩
        exfalso
        have : 0 ≤ (keys).toInt := Int32.le_iff_toInt_le.mp (c452.1)
        have : (keys).toInt ≤ 0 := Int32.le_iff_toInt_le.mp (c452.2)
        have : (keys).toInt ≠ 0 := g_ne (c461)
        omega
      by_cases c462 : n = 2
      · subst c462
        by_cases c466 : keys = 0
        · subst c466
          refine G_callVN (host := "IceKeys") (pc := 24) (mc1 := 0) (ms1 := 0) (ci := 4) (mj := mX4_fewest) (vs := [_, _, _]) dX11_order_24 rfl rfl cm_X4_fewest (by decide) wf_159 wf_160 rfl (Nat.le_of_ble_eq_true rfl) (Nat.le_of_ble_eq_true rfl) (Nat.le_of_ble_eq_true rfl) (Nat.le_of_ble_eq_true rfl) (s162_X4_fewest  (d + 1)  ) ?_
          rintro _ _ ⟨rfl, rfl⟩
          dsimp only [Option.toList, List.cons_append, List.nil_append]
          refine G_istore_n (pc := 27) (L1 := [some (.ref 0), some (.int 2), some (.int 0), some (.int 0)]) rfl rfl (by decide) dX11_order_27 ?_
          refine G_iload_n (pc := 28) rfl dX11_order_28 ?_
          refine G_iload_n (pc := 29) rfl dX11_order_29 ?_
          refine G_icmp_le (pc := 30) (tgt := 38) (by decide) dX11_order_30 (fun _ => ?_) (fun z => absurd (by decide) z)
          refine G_iload_n (pc := 38) rfl dX11_order_38 ?_
          exact G_iret (pc := 39) (Nat.le_of_ble_eq_true rfl) (Nat.le_of_ble_eq_true rfl) rfl dX11_order_39 ⟨_, by first | rfl | (simp [F_order, *]; done) | (simp only [F_order, Int32.le_iff_toInt_le, Int32.lt_iff_toInt_lt, ← Int32.toInt_inj]; simp; omega) | (simp only [F_order, Int32.le_iff_toInt_le, Int32.lt_iff_toInt_lt, ← Int32.toInt_inj]; split <;> first | rfl | (exfalso; simp at *; omega)) | (unfold F_order; (repeat' split) <;> first | rfl | (exfalso; (try simp only [Int32.le_iff_toInt_le, Int32.lt_iff_toInt_lt, ← Int32.toInt_inj] at *); first | omega | (simp at *; done) | (simp at *; omega))), rfl, fun _ _ => rfl⟩
        exfalso
        have : 0 ≤ (keys).toInt := Int32.le_iff_toInt_le.mp (c452.1)
        have : (keys).toInt ≤ 0 := Int32.le_iff_toInt_le.mp (c452.2)
        have : (keys).toInt ≠ 0 := g_ne (c466)
        omega
      by_cases c467 : n = 3
      · subst c467
        by_cases c472 : keys = 0
        · subst c472
          refine G_callVN (host := "IceKeys") (pc := 24) (mc1 := 0) (ms1 := 0) (ci := 4) (mj := mX4_fewest) (vs := [_, _, _]) dX11_order_24 rfl rfl cm_X4_fewest (by decide) wf_159 wf_160 rfl (Nat.le_of_ble_eq_true rfl) (Nat.le_of_ble_eq_true rfl) (Nat.le_of_ble_eq_true rfl) (Nat.le_of_ble_eq_true rfl) (s176_X4_fewest  (d + 1)  ) ?_
          rintro _ _ ⟨rfl, rfl⟩
          dsimp only [Option.toList, List.cons_append, List.nil_append]
          refine G_istore_n (pc := 27) (L1 := [some (.ref 0), some (.int 3), some (.int 0), some (.int 0)]) rfl rfl (by decide) dX11_order_27 ?_
          refine G_iload_n (pc := 28) rfl dX11_order_28 ?_
          refine G_iload_n (pc := 29) rfl dX11_order_29 ?_
          refine G_icmp_le (pc := 30) (tgt := 38) (by decide) dX11_order_30 (fun _ => ?_) (fun z => absurd (by decide) z)
          refine G_iload_n (pc := 38) rfl dX11_order_38 ?_
          exact G_iret (pc := 39) (Nat.le_of_ble_eq_true rfl) (Nat.le_of_ble_eq_true rfl) rfl dX11_order_39 ⟨_, by first | rfl | (simp [F_order, *]; done) | (simp only [F_order, Int32.le_iff_toInt_le, Int32.lt_iff_toInt_lt, ← Int32.toInt_inj]; simp; omega) | (simp only [F_order, Int32.le_iff_toInt_le, Int32.lt_iff_toInt_lt, ← Int32.toInt_inj]; split <;> first | rfl | (exfalso; simp at *; omega)) | (unfold F_order; (repeat' split) <;> first | rfl | (exfalso; (try simp only [Int32.le_iff_toInt_le, Int32.lt_iff_toInt_lt, ← Int32.toInt_inj] at *); first | omega | (simp at *; done) | (simp at *; omega))), rfl, fun _ _ => rfl⟩
        exfalso
        have : 0 ≤ (keys).toInt := Int32.le_iff_toInt_le.mp (c452.1)
        have : (keys).toInt ≤ 0 := Int32.le_iff_toInt_le.mp (c452.2)
        have : (keys).toInt ≠ 0 := g_ne (c472)
        omega
      by_cases c473 : n = 4
      · subst c473
        by_cases c479 : keys = 0
        · subst c479
          refine G_callVN (host := "IceKeys") (pc := 24) (mc1 := 0) (ms1 := 0) (ci := 4) (mj := mX4_fewest) (vs := [_, _, _]) dX11_order_24 rfl rfl cm_X4_fewest (by decide) wf_159 wf_160 rfl (Nat.le_of_ble_eq_true rfl) (Nat.le_of_ble_eq_true rfl) (Nat.le_of_ble_eq_true rfl) (Nat.le_of_ble_eq_true rfl) (s192_X4_fewest  (d + 1)  ) ?_
          rintro _ _ ⟨rfl, rfl⟩
          dsimp only [Option.toList, List.cons_append, List.nil_append]
          refine G_istore_n (pc := 27) (L1 := [some (.ref 0), some (.int 4), some (.int 0), some (.int 0)]) rfl rfl (by decide) dX11_order_27 ?_
          refine G_iload_n (pc := 28) rfl dX11_order_28 ?_
          refine G_iload_n (pc := 29) rfl dX11_order_29 ?_
          refine G_icmp_le (pc := 30) (tgt := 38) (by decide) dX11_order_30 (fun _ => ?_) (fun z => absurd (by decide) z)
          refine G_iload_n (pc := 38) rfl dX11_order_38 ?_
          exact G_iret (pc := 39) (Nat.le_of_ble_eq_true rfl) (Nat.le_of_ble_eq_true rfl) rfl dX11_order_39 ⟨_, by first | rfl | (simp [F_order, *]; done) | (simp only [F_order, Int32.le_iff_toInt_le, Int32.lt_iff_toInt_lt, ← Int32.toInt_inj]; simp; omega) | (simp only [F_order, Int32.le_iff_toInt_le, Int32.lt_iff_toInt_lt, ← Int32.toInt_inj]; split <;> first | rfl | (exfalso; simp at *; omega)) | (unfold F_order; (repeat' split) <;> first | rfl | (exfalso; (try simp only [Int32.le_iff_toInt_le, Int32.lt_iff_toInt_lt, ← Int32.toInt_inj] at *); first | omega | (simp at *; done) | (simp at *; omega))), rfl, fun _ _ => rfl⟩
        exfalso
        have : 0 ≤ (keys).toInt := Int32.le_iff_toInt_le.mp (c452.1)
        have : (keys).toInt ≤ 0 := Int32.le_iff_toInt_le.mp (c452.2)
        have : (keys).toInt ≠ 0 := g_ne (c479)
        omega
      exfalso
      have : 0 ≤ (n).toInt := Int32.le_iff_toInt_le.mp (c451.1)
      have : (n).toInt ≤ 4 := Int32.le_iff_toInt_le.mp (c451.2)
      have : (n).toInt ≠ 0 := g_ne (c455)
      have : (n).toInt ≠ 1 := g_ne (c458)
      have : (n).toInt ≠ 2 := g_ne (c462)
      have : (n).toInt ≠ 3 := g_ne (c467)
      have : (n).toInt ≠ 4 := g_ne (c473)
      omega
    · have c452 := gB_z c452
      refine G_iconst (pc := 15) (v := (-1)) (by decide) dX11_order_15 ?_
      exact G_iret (pc := 16) (Nat.le_of_ble_eq_true rfl) (Nat.le_of_ble_eq_true rfl) rfl dX11_order_16 ⟨_, by first | rfl | (simp [F_order, *]; done) | (have : 0 ≤ (n).toInt := Int32.le_iff_toInt_le.mp (c451.1); have : (n).toInt ≤ 4 := Int32.le_iff_toInt_le.mp (c451.2); have : ¬ (0 ≤ (keys).toInt ∧ (keys).toInt ≤ 0) := fun z => c452 ⟨Int32.le_iff_toInt_le.mpr z.1, Int32.le_iff_toInt_le.mpr z.2⟩; simp only [F_order, Int32.le_iff_toInt_le, Int32.lt_iff_toInt_lt, ← Int32.toInt_inj]; simp; omega) | (have : 0 ≤ (n).toInt := Int32.le_iff_toInt_le.mp (c451.1); have : (n).toInt ≤ 4 := Int32.le_iff_toInt_le.mp (c451.2); have : ¬ (0 ≤ (keys).toInt ∧ (keys).toInt ≤ 0) := fun z => c452 ⟨Int32.le_iff_toInt_le.mpr z.1, Int32.le_iff_toInt_le.mpr z.2⟩; simp only [F_order, Int32.le_iff_toInt_le, Int32.lt_iff_toInt_lt, ← Int32.toInt_inj]; split <;> first | rfl | (exfalso; simp at *; omega)) | (have : 0 ≤ (n).toInt := Int32.le_iff_toInt_le.mp (c451.1); have : (n).toInt ≤ 4 := Int32.le_iff_toInt_le.mp (c451.2); have : ¬ (0 ≤ (keys).toInt ∧ (keys).toInt ≤ 0) := fun z => c452 ⟨Int32.le_iff_toInt_le.mpr z.1, Int32.le_iff_toInt_le.mpr z.2⟩; unfold F_order; (repeat' split) <;> first | rfl | (exfalso; (try simp only [Int32.le_iff_toInt_le, Int32.lt_iff_toInt_lt, ← Int32.toInt_inj] at *); first | omega | (simp at *; done) | (simp at *; omega))), rfl, fun _ _ => rfl⟩
