set_option maxRecDepth 100000 in
set_option maxHeartbeats 4000000 in
theorem s348_X1_isOver  (d : Nat)   : G (d) mX1_isOver 0 0 0 0 0 (gent 1 [.ref 19]) [] SH0 RF0 (gup (gup (gcp I0 24 34 (0 : Int32).toNatClampNeg (0 : Int32).toNatClampNeg (6 : Int32).toNatClampNeg) 34 6 0) 34 7 0) (fun r h => r = some (.int 0) ∧ h = (SH0, RF0, (gup (gup (gcp I0 24 34 (0 : Int32).toNatClampNeg (0 : Int32).toNatClampNeg (6 : Int32).toNatClampNeg) 34 6 0) 34 7 0))) := by
  refine G_aload_n (pc := 0) rfl dX1_isOver_0 ?_
  refine G_getI (pc := 1) (v := 0) (ci := 1) (j := 1) rfl rfl lk_RX1_60 rfl rfl dX1_isOver_1 ?_
  refine G_aload_n (pc := 4) rfl dX1_isOver_4 ?_
  refine G_getI (pc := 5) (v := 12) (ci := 1) (j := 2) rfl rfl lk_RX1_9 rfl rfl dX1_isOver_5 ?_
  refine G_icmp_lt (pc := 8) (tgt := 15) (by decide) dX1_isOver_8 (fun _ => ?_) (fun z => absurd (by decide) z)
  refine G_iconst (pc := 15) (v := 0) (by decide) dX1_isOver_15 ?_
  exact G_zret (pc := 16) (Nat.le_of_ble_eq_true rfl) (Nat.le_of_ble_eq_true rfl) rfl (by decide) dX1_isOver_16 ⟨rfl, rfl⟩
set_option maxRecDepth 100000 in
set_option maxHeartbeats 4000000 in
theorem s349_X1_restAct  (d : Nat)   : G (d) mX1_restAct 0 0 0 0 0 (gent 2 [.ref 19]) [] SH0 RF0 (gup (gup (gcp I0 24 34 (0 : Int32).toNatClampNeg (0 : Int32).toNatClampNeg (6 : Int32).toNatClampNeg) 34 6 0) 34 7 0) (fun r h => r = some (.int 0) ∧ h = (SH0, RF0, (gup (gup (gcp I0 24 34 (0 : Int32).toNatClampNeg (0 : Int32).toNatClampNeg (6 : Int32).toNatClampNeg) 34 6 0) 34 7 0))) := by
  refine G_iconst (pc := 0) (v := 0) (by decide) dX1_restAct_0 ?_
  refine G_istore_n (pc := 1) (L1 := [some (.ref 19), some (.int 0)]) rfl rfl (by decide) dX1_restAct_1 ?_
  refine G_iload_n (pc := 2) rfl dX1_restAct_2 ?_
  refine G_aload_n (pc := 3) rfl dX1_restAct_3 ?_
  refine G_getI (pc := 4) (v := 0) (ci := 1) (j := 8) rfl rfl lk_RX1_72 rfl rfl dX1_restAct_4 ?_
  refine G_icmp_ge (pc := 7) (tgt := 36) (by decide) dX1_restAct_7 (fun _ => ?_) (fun z => absurd (by decide) z)
  refine G_iconst (pc := 36) (v := 0) (by decide) dX1_restAct_36 ?_
  exact G_iret (pc := 37) (Nat.le_of_ble_eq_true rfl) (Nat.le_of_ble_eq_true rfl) rfl dX1_restAct_37 ⟨rfl, rfl⟩
set_option maxRecDepth 100000 in
set_option maxHeartbeats 4000000 in
theorem s350_X1_restAct  (d : Nat)   : G (d) mX1_restAct 0 0 0 0 0 (gent 2 [.ref 19]) [] SH0 RF0 (gup (gup (gup (gcp I0 24 34 (0 : Int32).toNatClampNeg (0 : Int32).toNatClampNeg (6 : Int32).toNatClampNeg) 34 6 0) 34 7 0) 19 1 1) (fun r h => r = some (.int 0) ∧ h = (SH0, RF0, (gup (gup (gup (gcp I0 24 34 (0 : Int32).toNatClampNeg (0 : Int32).toNatClampNeg (6 : Int32).toNatClampNeg) 34 6 0) 34 7 0) 19 1 1))) := by
  refine G_iconst (pc := 0) (v := 0) (by decide) dX1_restAct_0 ?_
  refine G_istore_n (pc := 1) (L1 := [some (.ref 19), some (.int 0)]) rfl rfl (by decide) dX1_restAct_1 ?_
  refine G_iload_n (pc := 2) rfl dX1_restAct_2 ?_
  refine G_aload_n (pc := 3) rfl dX1_restAct_3 ?_
  refine G_getI (pc := 4) (v := 0) (ci := 1) (j := 8) rfl rfl lk_RX1_72 rfl rfl dX1_restAct_4 ?_
  refine G_icmp_ge (pc := 7) (tgt := 36) (by decide) dX1_restAct_7 (fun _ => ?_) (fun z => absurd (by decide) z)
  refine G_iconst (pc := 36) (v := 0) (by decide) dX1_restAct_36 ?_
  exact G_iret (pc := 37) (Nat.le_of_ble_eq_true rfl) (Nat.le_of_ble_eq_true rfl) rfl dX1_restAct_37 ⟨rfl, rfl⟩
set_option maxRecDepth 100000 in
set_option maxHeartbeats 4000000 in
theorem s352_X1_isKey  (d : Nat)   : G (d) mX1_isKey 0 0 0 0 0 (gent 2 [.ref 19, .int (-1)]) [] SH0 RF0 (gup (gup (gup (gcp I0 24 34 (0 : Int32).toNatClampNeg (0 : Int32).toNatClampNeg (6 : Int32).toNatClampNeg) 34 6 0) 34 7 0) 19 1 1) (fun r h => r = some (.int 0) ∧ h = (SH0, RF0, (gup (gup (gup (gcp I0 24 34 (0 : Int32).toNatClampNeg (0 : Int32).toNatClampNeg (6 : Int32).toNatClampNeg) 34 6 0) 34 7 0) 19 1 1))) := by
  refine G_iload_n (pc := 0) rfl dX1_isKey_0 ?_
  refine G_if_lt (pc := 1) (tgt := 16) (by decide) dX1_isKey_1 (fun _ => ?_) (fun z => absurd (by decide) z)
  refine G_iconst (pc := 16) (v := 0) (by decide) dX1_isKey_16 ?_
  exact G_zret (pc := 17) (Nat.le_of_ble_eq_true rfl) (Nat.le_of_ble_eq_true rfl) rfl (by decide) dX1_isKey_17 ⟨rfl, rfl⟩
set_option maxRecDepth 100000 in
set_option maxHeartbeats 4000000 in
theorem s351_X1_tell  (d : Nat)   : G (d + 1) mX1_tell 0 0 0 0 0 (gent 5 [.ref 19, .int 0]) [] SH0 RF0 (gup (gup (gup (gcp I0 24 34 (0 : Int32).toNatClampNeg (0 : Int32).toNatClampNeg (6 : Int32).toNatClampNeg) 34 6 0) 34 7 0) 19 1 1) (fun r h => r = some (.int 0) ∧ h = (SH0, RF0, (gup (gup (gup (gcp I0 24 34 (0 : Int32).toNatClampNeg (0 : Int32).toNatClampNeg (6 : Int32).toNatClampNeg) 34 6 0) 34 7 0) 19 1 1))) := by
  refine G_iload_n (pc := 0) rfl dX1_tell_0 ?_
  refine G_iconst (pc := 1) (v := 1) (by decide) dX1_tell_1 ?_
  refine G_isub (pc := 2) (z := (-1)) (by decide) dX1_tell_2 ?_
  refine G_istore_n (pc := 3) (L1 := [some (.ref 19), some (.int 0), some (.int (-1)), none, none]) rfl rfl (by decide) dX1_tell_3 ?_
  refine G_aload_n (pc := 4) rfl dX1_tell_4 ?_
  refine G_iload_n (pc := 5) rfl dX1_tell_5 ?_
  refine G_callV (pc := 6) (mc1 := 0) (ms1 := 0) (ci := 1) (mj := mX1_isKey) (vs := [_]) dX1_tell_6 rfl rfl cm_X1_isKey wf_68 wf_13 wf_14 rfl (Nat.le_of_ble_eq_true rfl) (Nat.le_of_ble_eq_true rfl) (Nat.le_of_ble_eq_true rfl) (Nat.le_of_ble_eq_true rfl) (s352_X1_isKey  d  ) ?_
  rintro _ _ ⟨rfl, rfl⟩
  dsimp only [Option.toList, List.cons_append, List.nil_append]
  refine G_if_eq (pc := 9) (tgt := 20) (by decide) dX1_tell_9 (fun _ => ?_) (fun z => absurd (by decide) z)
  refine G_iconst (pc := 20) (v := 0) (by decide) dX1_tell_20 ?_
  exact G_iret (pc := 21) (Nat.le_of_ble_eq_true rfl) (Nat.le_of_ble_eq_true rfl) rfl dX1_tell_21 ⟨rfl, rfl⟩
set_option maxRecDepth 100000 in
set_option maxHeartbeats 4000000 in
theorem s353_X1_melt  (d : Nat)   : G (d) mX1_melt 0 0 0 0 0 (gent 3 [.ref 19]) [] SH0 RF0 (gup (gup (gup (gcp I0 24 34 (0 : Int32).toNatClampNeg (0 : Int32).toNatClampNeg (6 : Int32).toNatClampNeg) 34 6 0) 34 7 0) 19 1 1) (fun r h => r = some (.int 0) ∧ h = (SH0, RF0, (gup (gup (gup (gup (gcp I0 24 34 (0 : Int32).toNatClampNeg (0 : Int32).toNatClampNeg (6 : Int32).toNatClampNeg) 34 6 0) 34 7 0) 19 1 1) 19 1 2))) := by
  refine G_iconst (pc := 0) (v := 0) (by decide) dX1_melt_0 ?_
  refine G_istore_n (pc := 1) (L1 := [some (.ref 19), some (.int 0), none]) rfl rfl (by decide) dX1_melt_1 ?_
  refine G_iconst (pc := 2) (v := 0) (by decide) dX1_melt_2 ?_
  refine G_istore_n (pc := 3) (L1 := [some (.ref 19), some (.int 0), some (.int 0)]) rfl rfl (by decide) dX1_melt_3 ?_
  refine G_iload_n (pc := 4) rfl dX1_melt_4 ?_
  refine G_aload_n (pc := 5) rfl dX1_melt_5 ?_
  refine G_getI (pc := 6) (v := 0) (ci := 1) (j := 8) rfl rfl lk_RX1_72 rfl rfl dX1_melt_6 ?_
  refine G_icmp_ge (pc := 9) (tgt := 60) (by decide) dX1_melt_9 (fun _ => ?_) (fun z => absurd (by decide) z)
  refine G_aload_n (pc := 60) rfl dX1_melt_60 ?_
  refine G_dup (pc := 61) rfl dX1_melt_61 ?_
  refine G_getI (pc := 62) (v := 1) (ci := 1) (j := 1) rfl rfl lk_RX1_60 rfl rfl dX1_melt_62 ?_
  refine G_iconst (pc := 65) (v := 1) (by decide) dX1_melt_65 ?_
  refine G_iadd (pc := 66) (z := 2) (by decide) dX1_melt_66 ?_
  refine G_putI (pc := 67) (ci := 1) (j := 1) rfl lk_RX1_60 rfl rfl rfl trivial dX1_melt_67 ?_
  refine G_iload_n (pc := 70) rfl dX1_melt_70 ?_
  exact G_iret (pc := 71) (Nat.le_of_ble_eq_true rfl) (Nat.le_of_ble_eq_true rfl) rfl dX1_melt_71 ⟨rfl, rfl⟩
set_option maxRecDepth 100000 in
set_option maxHeartbeats 4000000 in
theorem s354_X1_isOver  (d : Nat)   : G (d) mX1_isOver 0 0 0 0 0 (gent 1 [.ref 19]) [] SH0 RF0 (gup (gup (gup (gup (gcp I0 24 34 (0 : Int32).toNatClampNeg (0 : Int32).toNatClampNeg (6 : Int32).toNatClampNeg) 34 6 0) 34 7 0) 19 1 1) 19 1 2) (fun r h => r = some (.int 0) ∧ h = (SH0, RF0, (gup (gup (gup (gup (gcp I0 24 34 (0 : Int32).toNatClampNeg (0 : Int32).toNatClampNeg (6 : Int32).toNatClampNeg) 34 6 0) 34 7 0) 19 1 1) 19 1 2))) := by
  refine G_aload_n (pc := 0) rfl dX1_isOver_0 ?_
  refine G_getI (pc := 1) (v := 2) (ci := 1) (j := 1) rfl rfl lk_RX1_60 rfl rfl dX1_isOver_1 ?_
  refine G_aload_n (pc := 4) rfl dX1_isOver_4 ?_
  refine G_getI (pc := 5) (v := 12) (ci := 1) (j := 2) rfl rfl lk_RX1_9 rfl rfl dX1_isOver_5 ?_
  refine G_icmp_lt (pc := 8) (tgt := 15) (by decide) dX1_isOver_8 (fun _ => ?_) (fun z => absurd (by decide) z)
  refine G_iconst (pc := 15) (v := 0) (by decide) dX1_isOver_15 ?_
  exact G_zret (pc := 16) (Nat.le_of_ble_eq_true rfl) (Nat.le_of_ble_eq_true rfl) rfl (by decide) dX1_isOver_16 ⟨rfl, rfl⟩
set_option maxRecDepth 100000 in
set_option maxHeartbeats 4000000 in
theorem s355_X1_restAct  (d : Nat)   : G (d) mX1_restAct 0 0 0 0 0 (gent 2 [.ref 19]) [] SH0 RF0 (gup (gup (gup (gup (gcp I0 24 34 (0 : Int32).toNatClampNeg (0 : Int32).toNatClampNeg (6 : Int32).toNatClampNeg) 34 6 0) 34 7 0) 19 1 1) 19 1 2) (fun r h => r = some (.int 0) ∧ h = (SH0, RF0, (gup (gup (gup (gup (gcp I0 24 34 (0 : Int32).toNatClampNeg (0 : Int32).toNatClampNeg (6 : Int32).toNatClampNeg) 34 6 0) 34 7 0) 19 1 1) 19 1 2))) := by
  refine G_iconst (pc := 0) (v := 0) (by decide) dX1_restAct_0 ?_
  refine G_istore_n (pc := 1) (L1 := [some (.ref 19), some (.int 0)]) rfl rfl (by decide) dX1_restAct_1 ?_
  refine G_iload_n (pc := 2) rfl dX1_restAct_2 ?_
  refine G_aload_n (pc := 3) rfl dX1_restAct_3 ?_
  refine G_getI (pc := 4) (v := 0) (ci := 1) (j := 8) rfl rfl lk_RX1_72 rfl rfl dX1_restAct_4 ?_
  refine G_icmp_ge (pc := 7) (tgt := 36) (by decide) dX1_restAct_7 (fun _ => ?_) (fun z => absurd (by decide) z)
  refine G_iconst (pc := 36) (v := 0) (by decide) dX1_restAct_36 ?_
  exact G_iret (pc := 37) (Nat.le_of_ble_eq_true rfl) (Nat.le_of_ble_eq_true rfl) rfl dX1_restAct_37 ⟨rfl, rfl⟩
set_option maxRecDepth 100000 in
set_option maxHeartbeats 4000000 in
theorem s357_X1_isKey  (d : Nat)   : G (d) mX1_isKey 0 0 0 0 0 (gent 2 [.ref 19, .int (-1)]) [] SH0 RF0 (gup (gup (gup (gup (gcp I0 24 34 (0 : Int32).toNatClampNeg (0 : Int32).toNatClampNeg (6 : Int32).toNatClampNeg) 34 6 0) 34 7 0) 19 1 1) 19 1 2) (fun r h => r = some (.int 0) ∧ h = (SH0, RF0, (gup (gup (gup (gup (gcp I0 24 34 (0 : Int32).toNatClampNeg (0 : Int32).toNatClampNeg (6 : Int32).toNatClampNeg) 34 6 0) 34 7 0) 19 1 1) 19 1 2))) := by
  refine G_iload_n (pc := 0) rfl dX1_isKey_0 ?_
  refine G_if_lt (pc := 1) (tgt := 16) (by decide) dX1_isKey_1 (fun _ => ?_) (fun z => absurd (by decide) z)
  refine G_iconst (pc := 16) (v := 0) (by decide) dX1_isKey_16 ?_
  exact G_zret (pc := 17) (Nat.le_of_ble_eq_true rfl) (Nat.le_of_ble_eq_true rfl) rfl (by decide) dX1_isKey_17 ⟨rfl, rfl⟩
set_option maxRecDepth 100000 in
set_option maxHeartbeats 4000000 in
theorem s356_X1_tell  (d : Nat)   : G (d + 1) mX1_tell 0 0 0 0 0 (gent 5 [.ref 19, .int 0]) [] SH0 RF0 (gup (gup (gup (gup (gcp I0 24 34 (0 : Int32).toNatClampNeg (0 : Int32).toNatClampNeg (6 : Int32).toNatClampNeg) 34 6 0) 34 7 0) 19 1 1) 19 1 2) (fun r h => r = some (.int 0) ∧ h = (SH0, RF0, (gup (gup (gup (gup (gcp I0 24 34 (0 : Int32).toNatClampNeg (0 : Int32).toNatClampNeg (6 : Int32).toNatClampNeg) 34 6 0) 34 7 0) 19 1 1) 19 1 2))) := by
  refine G_iload_n (pc := 0) rfl dX1_tell_0 ?_
  refine G_iconst (pc := 1) (v := 1) (by decide) dX1_tell_1 ?_
  refine G_isub (pc := 2) (z := (-1)) (by decide) dX1_tell_2 ?_
  refine G_istore_n (pc := 3) (L1 := [some (.ref 19), some (.int 0), some (.int (-1)), none, none]) rfl rfl (by decide) dX1_tell_3 ?_
  refine G_aload_n (pc := 4) rfl dX1_tell_4 ?_
  refine G_iload_n (pc := 5) rfl dX1_tell_5 ?_
  refine G_callV (pc := 6) (mc1 := 0) (ms1 := 0) (ci := 1) (mj := mX1_isKey) (vs := [_]) dX1_tell_6 rfl rfl cm_X1_isKey wf_68 wf_13 wf_14 rfl (Nat.le_of_ble_eq_true rfl) (Nat.le_of_ble_eq_true rfl) (Nat.le_of_ble_eq_true rfl) (Nat.le_of_ble_eq_true rfl) (s357_X1_isKey  d  ) ?_
  rintro _ _ ⟨rfl, rfl⟩
  dsimp only [Option.toList, List.cons_append, List.nil_append]
  refine G_if_eq (pc := 9) (tgt := 20) (by decide) dX1_tell_9 (fun _ => ?_) (fun z => absurd (by decide) z)
  refine G_iconst (pc := 20) (v := 0) (by decide) dX1_tell_20 ?_
  exact G_iret (pc := 21) (Nat.le_of_ble_eq_true rfl) (Nat.le_of_ble_eq_true rfl) rfl dX1_tell_21 ⟨rfl, rfl⟩
set_option maxRecDepth 100000 in
set_option maxHeartbeats 4000000 in
theorem s358_X1_melt  (d : Nat)   : G (d) mX1_melt 0 0 0 0 0 (gent 3 [.ref 19]) [] SH0 RF0 (gup (gup (gup (gup (gcp I0 24 34 (0 : Int32).toNatClampNeg (0 : Int32).toNatClampNeg (6 : Int32).toNatClampNeg) 34 6 0) 34 7 0) 19 1 1) 19 1 2) (fun r h => r = some (.int 0) ∧ h = (SH0, RF0, (gup (gup (gup (gup (gup (gcp I0 24 34 (0 : Int32).toNatClampNeg (0 : Int32).toNatClampNeg (6 : Int32).toNatClampNeg) 34 6 0) 34 7 0) 19 1 1) 19 1 2) 19 1 3))) := by
  refine G_iconst (pc := 0) (v := 0) (by decide) dX1_melt_0 ?_
  refine G_istore_n (pc := 1) (L1 := [some (.ref 19), some (.int 0), none]) rfl rfl (by decide) dX1_melt_1 ?_
  refine G_iconst (pc := 2) (v := 0) (by decide) dX1_melt_2 ?_
  refine G_istore_n (pc := 3) (L1 := [some (.ref 19), some (.int 0), some (.int 0)]) rfl rfl (by decide) dX1_melt_3 ?_
  refine G_iload_n (pc := 4) rfl dX1_melt_4 ?_
  refine G_aload_n (pc := 5) rfl dX1_melt_5 ?_
  refine G_getI (pc := 6) (v := 0) (ci := 1) (j := 8) rfl rfl lk_RX1_72 rfl rfl dX1_melt_6 ?_
  refine G_icmp_ge (pc := 9) (tgt := 60) (by decide) dX1_melt_9 (fun _ => ?_) (fun z => absurd (by decide) z)
  refine G_aload_n (pc := 60) rfl dX1_melt_60 ?_
  refine G_dup (pc := 61) rfl dX1_melt_61 ?_
  refine G_getI (pc := 62) (v := 2) (ci := 1) (j := 1) rfl rfl lk_RX1_60 rfl rfl dX1_melt_62 ?_
  refine G_iconst (pc := 65) (v := 1) (by decide) dX1_melt_65 ?_
  refine G_iadd (pc := 66) (z := 3) (by decide) dX1_melt_66 ?_
  refine G_putI (pc := 67) (ci := 1) (j := 1) rfl lk_RX1_60 rfl rfl rfl trivial dX1_melt_67 ?_
  refine G_iload_n (pc := 70) rfl dX1_melt_70 ?_
  exact G_iret (pc := 71) (Nat.le_of_ble_eq_true rfl) (Nat.le_of_ble_eq_true rfl) rfl dX1_melt_71 ⟨rfl, rfl⟩
set_option maxRecDepth 100000 in
set_option maxHeartbeats 4000000 in
theorem s359_X1_isOver  (d : Nat)   : G (d) mX1_isOver 0 0 0 0 0 (gent 1 [.ref 19]) [] SH0 RF0 (gup (gup (gup (gup (gup (gcp I0 24 34 (0 : Int32).toNatClampNeg (0 : Int32).toNatClampNeg (6 : Int32).toNatClampNeg) 34 6 0) 34 7 0) 19 1 1) 19 1 2) 19 1 3) (fun r h => r = some (.int 0) ∧ h = (SH0, RF0, (gup (gup (gup (gup (gup (gcp I0 24 34 (0 : Int32).toNatClampNeg (0 : Int32).toNatClampNeg (6 : Int32).toNatClampNeg) 34 6 0) 34 7 0) 19 1 1) 19 1 2) 19 1 3))) := by
  refine G_aload_n (pc := 0) rfl dX1_isOver_0 ?_
  refine G_getI (pc := 1) (v := 3) (ci := 1) (j := 1) rfl rfl lk_RX1_60 rfl rfl dX1_isOver_1 ?_
  refine G_aload_n (pc := 4) rfl dX1_isOver_4 ?_
  refine G_getI (pc := 5) (v := 12) (ci := 1) (j := 2) rfl rfl lk_RX1_9 rfl rfl dX1_isOver_5 ?_
  refine G_icmp_lt (pc := 8) (tgt := 15) (by decide) dX1_isOver_8 (fun _ => ?_) (fun z => absurd (by decide) z)
  refine G_iconst (pc := 15) (v := 0) (by decide) dX1_isOver_15 ?_
  exact G_zret (pc := 16) (Nat.le_of_ble_eq_true rfl) (Nat.le_of_ble_eq_true rfl) rfl (by decide) dX1_isOver_16 ⟨rfl, rfl⟩
set_option maxRecDepth 100000 in
set_option maxHeartbeats 4000000 in
theorem s360_X1_restAct  (d : Nat)   : G (d) mX1_restAct 0 0 0 0 0 (gent 2 [.ref 19]) [] SH0 RF0 (gup (gup (gup (gup (gup (gcp I0 24 34 (0 : Int32).toNatClampNeg (0 : Int32).toNatClampNeg (6 : Int32).toNatClampNeg) 34 6 0) 34 7 0) 19 1 1) 19 1 2) 19 1 3) (fun r h => r = some (.int 0) ∧ h = (SH0, RF0, (gup (gup (gup (gup (gup (gcp I0 24 34 (0 : Int32).toNatClampNeg (0 : Int32).toNatClampNeg (6 : Int32).toNatClampNeg) 34 6 0) 34 7 0) 19 1 1) 19 1 2) 19 1 3))) := by
  refine G_iconst (pc := 0) (v := 0) (by decide) dX1_restAct_0 ?_
  refine G_istore_n (pc := 1) (L1 := [some (.ref 19), some (.int 0)]) rfl rfl (by decide) dX1_restAct_1 ?_
  refine G_iload_n (pc := 2) rfl dX1_restAct_2 ?_
  refine G_aload_n (pc := 3) rfl dX1_restAct_3 ?_
  refine G_getI (pc := 4) (v := 0) (ci := 1) (j := 8) rfl rfl lk_RX1_72 rfl rfl dX1_restAct_4 ?_
  refine G_icmp_ge (pc := 7) (tgt := 36) (by decide) dX1_restAct_7 (fun _ => ?_) (fun z => absurd (by decide) z)
  refine G_iconst (pc := 36) (v := 0) (by decide) dX1_restAct_36 ?_
  exact G_iret (pc := 37) (Nat.le_of_ble_eq_true rfl) (Nat.le_of_ble_eq_true rfl) rfl dX1_restAct_37 ⟨rfl, rfl⟩
set_option maxRecDepth 100000 in
set_option maxHeartbeats 4000000 in
theorem s362_X1_isKey  (d : Nat)   : G (d) mX1_isKey 0 0 0 0 0 (gent 2 [.ref 19, .int (-1)]) [] SH0 RF0 (gup (gup (gup (gup (gup (gcp I0 24 34 (0 : Int32).toNatClampNeg (0 : Int32).toNatClampNeg (6 : Int32).toNatClampNeg) 34 6 0) 34 7 0) 19 1 1) 19 1 2) 19 1 3) (fun r h => r = some (.int 0) ∧ h = (SH0, RF0, (gup (gup (gup (gup (gup (gcp I0 24 34 (0 : Int32).toNatClampNeg (0 : Int32).toNatClampNeg (6 : Int32).toNatClampNeg) 34 6 0) 34 7 0) 19 1 1) 19 1 2) 19 1 3))) := by
  refine G_iload_n (pc := 0) rfl dX1_isKey_0 ?_
  refine G_if_lt (pc := 1) (tgt := 16) (by decide) dX1_isKey_1 (fun _ => ?_) (fun z => absurd (by decide) z)
  refine G_iconst (pc := 16) (v := 0) (by decide) dX1_isKey_16 ?_
  exact G_zret (pc := 17) (Nat.le_of_ble_eq_true rfl) (Nat.le_of_ble_eq_true rfl) rfl (by decide) dX1_isKey_17 ⟨rfl, rfl⟩
set_option maxRecDepth 100000 in
set_option maxHeartbeats 4000000 in
theorem s361_X1_tell  (d : Nat)   : G (d + 1) mX1_tell 0 0 0 0 0 (gent 5 [.ref 19, .int 0]) [] SH0 RF0 (gup (gup (gup (gup (gup (gcp I0 24 34 (0 : Int32).toNatClampNeg (0 : Int32).toNatClampNeg (6 : Int32).toNatClampNeg) 34 6 0) 34 7 0) 19 1 1) 19 1 2) 19 1 3) (fun r h => r = some (.int 0) ∧ h = (SH0, RF0, (gup (gup (gup (gup (gup (gcp I0 24 34 (0 : Int32).toNatClampNeg (0 : Int32).toNatClampNeg (6 : Int32).toNatClampNeg) 34 6 0) 34 7 0) 19 1 1) 19 1 2) 19 1 3))) := by
  refine G_iload_n (pc := 0) rfl dX1_tell_0 ?_
  refine G_iconst (pc := 1) (v := 1) (by decide) dX1_tell_1 ?_
  refine G_isub (pc := 2) (z := (-1)) (by decide) dX1_tell_2 ?_
  refine G_istore_n (pc := 3) (L1 := [some (.ref 19), some (.int 0), some (.int (-1)), none, none]) rfl rfl (by decide) dX1_tell_3 ?_
  refine G_aload_n (pc := 4) rfl dX1_tell_4 ?_
  refine G_iload_n (pc := 5) rfl dX1_tell_5 ?_
  refine G_callV (pc := 6) (mc1 := 0) (ms1 := 0) (ci := 1) (mj := mX1_isKey) (vs := [_]) dX1_tell_6 rfl rfl cm_X1_isKey wf_68 wf_13 wf_14 rfl (Nat.le_of_ble_eq_true rfl) (Nat.le_of_ble_eq_true rfl) (Nat.le_of_ble_eq_true rfl) (Nat.le_of_ble_eq_true rfl) (s362_X1_isKey  d  ) ?_
  rintro _ _ ⟨rfl, rfl⟩
  dsimp only [Option.toList, List.cons_append, List.nil_append]
  refine G_if_eq (pc := 9) (tgt := 20) (by decide) dX1_tell_9 (fun _ => ?_) (fun z => absurd (by decide) z)
  refine G_iconst (pc := 20) (v := 0) (by decide) dX1_tell_20 ?_
  exact G_iret (pc := 21) (Nat.le_of_ble_eq_true rfl) (Nat.le_of_ble_eq_true rfl) rfl dX1_tell_21 ⟨rfl, rfl⟩
set_option maxRecDepth 100000 in
set_option maxHeartbeats 4000000 in
theorem s363_X1_melt  (d : Nat)   : G (d) mX1_melt 0 0 0 0 0 (gent 3 [.ref 19]) [] SH0 RF0 (gup (gup (gup (gup (gup (gcp I0 24 34 (0 : Int32).toNatClampNeg (0 : Int32).toNatClampNeg (6 : Int32).toNatClampNeg) 34 6 0) 34 7 0) 19 1 1) 19 1 2) 19 1 3) (fun r h => r = some (.int 0) ∧ h = (SH0, RF0, (gup (gup (gup (gup (gup (gup (gcp I0 24 34 (0 : Int32).toNatClampNeg (0 : Int32).toNatClampNeg (6 : Int32).toNatClampNeg) 34 6 0) 34 7 0) 19 1 1) 19 1 2) 19 1 3) 19 1 4))) := by
  refine G_iconst (pc := 0) (v := 0) (by decide) dX1_melt_0 ?_
  refine G_istore_n (pc := 1) (L1 := [some (.ref 19), some (.int 0), none]) rfl rfl (by decide) dX1_melt_1 ?_
  refine G_iconst (pc := 2) (v := 0) (by decide) dX1_melt_2 ?_
  refine G_istore_n (pc := 3) (L1 := [some (.ref 19), some (.int 0), some (.int 0)]) rfl rfl (by decide) dX1_melt_3 ?_
  refine G_iload_n (pc := 4) rfl dX1_melt_4 ?_
  refine G_aload_n (pc := 5) rfl dX1_melt_5 ?_
  refine G_getI (pc := 6) (v := 0) (ci := 1) (j := 8) rfl rfl lk_RX1_72 rfl rfl dX1_melt_6 ?_
  refine G_icmp_ge (pc := 9) (tgt := 60) (by decide) dX1_melt_9 (fun _ => ?_) (fun z => absurd (by decide) z)
  refine G_aload_n (pc := 60) rfl dX1_melt_60 ?_
  refine G_dup (pc := 61) rfl dX1_melt_61 ?_
  refine G_getI (pc := 62) (v := 3) (ci := 1) (j := 1) rfl rfl lk_RX1_60 rfl rfl dX1_melt_62 ?_
  refine G_iconst (pc := 65) (v := 1) (by decide) dX1_melt_65 ?_
  refine G_iadd (pc := 66) (z := 4) (by decide) dX1_melt_66 ?_
  refine G_putI (pc := 67) (ci := 1) (j := 1) rfl lk_RX1_60 rfl rfl rfl trivial dX1_melt_67 ?_
  refine G_iload_n (pc := 70) rfl dX1_melt_70 ?_
  exact G_iret (pc := 71) (Nat.le_of_ble_eq_true rfl) (Nat.le_of_ble_eq_true rfl) rfl dX1_melt_71 ⟨rfl, rfl⟩
set_option maxRecDepth 100000 in
set_option maxHeartbeats 4000000 in
theorem s364_X1_isOver  (d : Nat)   : G (d) mX1_isOver 0 0 0 0 0 (gent 1 [.ref 19]) [] SH0 RF0 (gup (gup (gup (gup (gup (gup (gcp I0 24 34 (0 : Int32).toNatClampNeg (0 : Int32).toNatClampNeg (6 : Int32).toNatClampNeg) 34 6 0) 34 7 0) 19 1 1) 19 1 2) 19 1 3) 19 1 4) (fun r h => r = some (.int 0) ∧ h = (SH0, RF0, (gup (gup (gup (gup (gup (gup (gcp I0 24 34 (0 : Int32).toNatClampNeg (0 : Int32).toNatClampNeg (6 : Int32).toNatClampNeg) 34 6 0) 34 7 0) 19 1 1) 19 1 2) 19 1 3) 19 1 4))) := by
  refine G_aload_n (pc := 0) rfl dX1_isOver_0 ?_
  refine G_getI (pc := 1) (v := 4) (ci := 1) (j := 1) rfl rfl lk_RX1_60 rfl rfl dX1_isOver_1 ?_
  refine G_aload_n (pc := 4) rfl dX1_isOver_4 ?_
  refine G_getI (pc := 5) (v := 12) (ci := 1) (j := 2) rfl rfl lk_RX1_9 rfl rfl dX1_isOver_5 ?_
  refine G_icmp_lt (pc := 8) (tgt := 15) (by decide) dX1_isOver_8 (fun _ => ?_) (fun z => absurd (by decide) z)
  refine G_iconst (pc := 15) (v := 0) (by decide) dX1_isOver_15 ?_
  exact G_zret (pc := 16) (Nat.le_of_ble_eq_true rfl) (Nat.le_of_ble_eq_true rfl) rfl (by decide) dX1_isOver_16 ⟨rfl, rfl⟩
set_option maxRecDepth 100000 in
set_option maxHeartbeats 4000000 in
theorem s365_X1_restAct  (d : Nat)   : G (d) mX1_restAct 0 0 0 0 0 (gent 2 [.ref 19]) [] SH0 RF0 (gup (gup (gup (gup (gup (gup (gcp I0 24 34 (0 : Int32).toNatClampNeg (0 : Int32).toNatClampNeg (6 : Int32).toNatClampNeg) 34 6 0) 34 7 0) 19 1 1) 19 1 2) 19 1 3) 19 1 4) (fun r h => r = some (.int 0) ∧ h = (SH0, RF0, (gup (gup (gup (gup (gup (gup (gcp I0 24 34 (0 : Int32).toNatClampNeg (0 : Int32).toNatClampNeg (6 : Int32).toNatClampNeg) 34 6 0) 34 7 0) 19 1 1) 19 1 2) 19 1 3) 19 1 4))) := by
  refine G_iconst (pc := 0) (v := 0) (by decide) dX1_restAct_0 ?_
  refine G_istore_n (pc := 1) (L1 := [some (.ref 19), some (.int 0)]) rfl rfl (by decide) dX1_restAct_1 ?_
  refine G_iload_n (pc := 2) rfl dX1_restAct_2 ?_
  refine G_aload_n (pc := 3) rfl dX1_restAct_3 ?_
  refine G_getI (pc := 4) (v := 0) (ci := 1) (j := 8) rfl rfl lk_RX1_72 rfl rfl dX1_restAct_4 ?_
  refine G_icmp_ge (pc := 7) (tgt := 36) (by decide) dX1_restAct_7 (fun _ => ?_) (fun z => absurd (by decide) z)
  refine G_iconst (pc := 36) (v := 0) (by decide) dX1_restAct_36 ?_
  exact G_iret (pc := 37) (Nat.le_of_ble_eq_true rfl) (Nat.le_of_ble_eq_true rfl) rfl dX1_restAct_37 ⟨rfl, rfl⟩
set_option maxRecDepth 100000 in
set_option maxHeartbeats 4000000 in
theorem s367_X1_isKey  (d : Nat)   : G (d) mX1_isKey 0 0 0 0 0 (gent 2 [.ref 19, .int (-1)]) [] SH0 RF0 (gup (gup (gup (gup (gup (gup (gcp I0 24 34 (0 : Int32).toNatClampNeg (0 : Int32).toNatClampNeg (6 : Int32).toNatClampNeg) 34 6 0) 34 7 0) 19 1 1) 19 1 2) 19 1 3) 19 1 4) (fun r h => r = some (.int 0) ∧ h = (SH0, RF0, (gup (gup (gup (gup (gup (gup (gcp I0 24 34 (0 : Int32).toNatClampNeg (0 : Int32).toNatClampNeg (6 : Int32).toNatClampNeg) 34 6 0) 34 7 0) 19 1 1) 19 1 2) 19 1 3) 19 1 4))) := by
  refine G_iload_n (pc := 0) rfl dX1_isKey_0 ?_
  refine G_if_lt (pc := 1) (tgt := 16) (by decide) dX1_isKey_1 (fun _ => ?_) (fun z => absurd (by decide) z)
  refine G_iconst (pc := 16) (v := 0) (by decide) dX1_isKey_16 ?_
  exact G_zret (pc := 17) (Nat.le_of_ble_eq_true rfl) (Nat.le_of_ble_eq_true rfl) rfl (by decide) dX1_isKey_17 ⟨rfl, rfl⟩
set_option maxRecDepth 100000 in
set_option maxHeartbeats 4000000 in
theorem s366_X1_tell  (d : Nat)   : G (d + 1) mX1_tell 0 0 0 0 0 (gent 5 [.ref 19, .int 0]) [] SH0 RF0 (gup (gup (gup (gup (gup (gup (gcp I0 24 34 (0 : Int32).toNatClampNeg (0 : Int32).toNatClampNeg (6 : Int32).toNatClampNeg) 34 6 0) 34 7 0) 19 1 1) 19 1 2) 19 1 3) 19 1 4) (fun r h => r = some (.int 0) ∧ h = (SH0, RF0, (gup (gup (gup (gup (gup (gup (gcp I0 24 34 (0 : Int32).toNatClampNeg (0 : Int32).toNatClampNeg (6 : Int32).toNatClampNeg) 34 6 0) 34 7 0) 19 1 1) 19 1 2) 19 1 3) 19 1 4))) := by
  refine G_iload_n (pc := 0) rfl dX1_tell_0 ?_
  refine G_iconst (pc := 1) (v := 1) (by decide) dX1_tell_1 ?_
  refine G_isub (pc := 2) (z := (-1)) (by decide) dX1_tell_2 ?_
  refine G_istore_n (pc := 3) (L1 := [some (.ref 19), some (.int 0), some (.int (-1)), none, none]) rfl rfl (by decide) dX1_tell_3 ?_
  refine G_aload_n (pc := 4) rfl dX1_tell_4 ?_
  refine G_iload_n (pc := 5) rfl dX1_tell_5 ?_
  refine G_callV (pc := 6) (mc1 := 0) (ms1 := 0) (ci := 1) (mj := mX1_isKey) (vs := [_]) dX1_tell_6 rfl rfl cm_X1_isKey wf_68 wf_13 wf_14 rfl (Nat.le_of_ble_eq_true rfl) (Nat.le_of_ble_eq_true rfl) (Nat.le_of_ble_eq_true rfl) (Nat.le_of_ble_eq_true rfl) (s367_X1_isKey  d  ) ?_
  rintro _ _ ⟨rfl, rfl⟩
  dsimp only [Option.toList, List.cons_append, List.nil_append]
  refine G_if_eq (pc := 9) (tgt := 20) (by decide) dX1_tell_9 (fun _ => ?_) (fun z => absurd (by decide) z)
  refine G_iconst (pc := 20) (v := 0) (by decide) dX1_tell_20 ?_
  exact G_iret (pc := 21) (Nat.le_of_ble_eq_true rfl) (Nat.le_of_ble_eq_true rfl) rfl dX1_tell_21 ⟨rfl, rfl⟩
set_option maxRecDepth 100000 in
set_option maxHeartbeats 4000000 in
theorem s368_X1_melt  (d : Nat)   : G (d) mX1_melt 0 0 0 0 0 (gent 3 [.ref 19]) [] SH0 RF0 (gup (gup (gup (gup (gup (gup (gcp I0 24 34 (0 : Int32).toNatClampNeg (0 : Int32).toNatClampNeg (6 : Int32).toNatClampNeg) 34 6 0) 34 7 0) 19 1 1) 19 1 2) 19 1 3) 19 1 4) (fun r h => r = some (.int 0) ∧ h = (SH0, RF0, (gup (gup (gup (gup (gup (gup (gup (gcp I0 24 34 (0 : Int32).toNatClampNeg (0 : Int32).toNatClampNeg (6 : Int32).toNatClampNeg) 34 6 0) 34 7 0) 19 1 1) 19 1 2) 19 1 3) 19 1 4) 19 1 5))) := by
  refine G_iconst (pc := 0) (v := 0) (by decide) dX1_melt_0 ?_
  refine G_istore_n (pc := 1) (L1 := [some (.ref 19), some (.int 0), none]) rfl rfl (by decide) dX1_melt_1 ?_
  refine G_iconst (pc := 2) (v := 0) (by decide) dX1_melt_2 ?_
  refine G_istore_n (pc := 3) (L1 := [some (.ref 19), some (.int 0), some (.int 0)]) rfl rfl (by decide) dX1_melt_3 ?_
  refine G_iload_n (pc := 4) rfl dX1_melt_4 ?_
  refine G_aload_n (pc := 5) rfl dX1_melt_5 ?_
  refine G_getI (pc := 6) (v := 0) (ci := 1) (j := 8) rfl rfl lk_RX1_72 rfl rfl dX1_melt_6 ?_
  refine G_icmp_ge (pc := 9) (tgt := 60) (by decide) dX1_melt_9 (fun _ => ?_) (fun z => absurd (by decide) z)
  refine G_aload_n (pc := 60) rfl dX1_melt_60 ?_
  refine G_dup (pc := 61) rfl dX1_melt_61 ?_
  refine G_getI (pc := 62) (v := 4) (ci := 1) (j := 1) rfl rfl lk_RX1_60 rfl rfl dX1_melt_62 ?_
  refine G_iconst (pc := 65) (v := 1) (by decide) dX1_melt_65 ?_
  refine G_iadd (pc := 66) (z := 5) (by decide) dX1_melt_66 ?_
  refine G_putI (pc := 67) (ci := 1) (j := 1) rfl lk_RX1_60 rfl rfl rfl trivial dX1_melt_67 ?_
  refine G_iload_n (pc := 70) rfl dX1_melt_70 ?_
  exact G_iret (pc := 71) (Nat.le_of_ble_eq_true rfl) (Nat.le_of_ble_eq_true rfl) rfl dX1_melt_71 ⟨rfl, rfl⟩
set_option maxRecDepth 100000 in
set_option maxHeartbeats 4000000 in
theorem s369_X1_isOver  (d : Nat)   : G (d) mX1_isOver 0 0 0 0 0 (gent 1 [.ref 19]) [] SH0 RF0 (gup (gup (gup (gup (gup (gup (gup (gcp I0 24 34 (0 : Int32).toNatClampNeg (0 : Int32).toNatClampNeg (6 : Int32).toNatClampNeg) 34 6 0) 34 7 0) 19 1 1) 19 1 2) 19 1 3) 19 1 4) 19 1 5) (fun r h => r = some (.int 0) ∧ h = (SH0, RF0, (gup (gup (gup (gup (gup (gup (gup (gcp I0 24 34 (0 : Int32).toNatClampNeg (0 : Int32).toNatClampNeg (6 : Int32).toNatClampNeg) 34 6 0) 34 7 0) 19 1 1) 19 1 2) 19 1 3) 19 1 4) 19 1 5))) := by
  refine G_aload_n (pc := 0) rfl dX1_isOver_0 ?_
  refine G_getI (pc := 1) (v := 5) (ci := 1) (j := 1) rfl rfl lk_RX1_60 rfl rfl dX1_isOver_1 ?_
  refine G_aload_n (pc := 4) rfl dX1_isOver_4 ?_
  refine G_getI (pc := 5) (v := 12) (ci := 1) (j := 2) rfl rfl lk_RX1_9 rfl rfl dX1_isOver_5 ?_
  refine G_icmp_lt (pc := 8) (tgt := 15) (by decide) dX1_isOver_8 (fun _ => ?_) (fun z => absurd (by decide) z)
  refine G_iconst (pc := 15) (v := 0) (by decide) dX1_isOver_15 ?_
  exact G_zret (pc := 16) (Nat.le_of_ble_eq_true rfl) (Nat.le_of_ble_eq_true rfl) rfl (by decide) dX1_isOver_16 ⟨rfl, rfl⟩
set_option maxRecDepth 100000 in
set_option maxHeartbeats 4000000 in
theorem s370_X1_restAct  (d : Nat)   : G (d) mX1_restAct 0 0 0 0 0 (gent 2 [.ref 19]) [] SH0 RF0 (gup (gup (gup (gup (gup (gup (gup (gcp I0 24 34 (0 : Int32).toNatClampNeg (0 : Int32).toNatClampNeg (6 : Int32).toNatClampNeg) 34 6 0) 34 7 0) 19 1 1) 19 1 2) 19 1 3) 19 1 4) 19 1 5) (fun r h => r = some (.int 0) ∧ h = (SH0, RF0, (gup (gup (gup (gup (gup (gup (gup (gcp I0 24 34 (0 : Int32).toNatClampNeg (0 : Int32).toNatClampNeg (6 : Int32).toNatClampNeg) 34 6 0) 34 7 0) 19 1 1) 19 1 2) 19 1 3) 19 1 4) 19 1 5))) := by
  refine G_iconst (pc := 0) (v := 0) (by decide) dX1_restAct_0 ?_
  refine G_istore_n (pc := 1) (L1 := [some (.ref 19), some (.int 0)]) rfl rfl (by decide) dX1_restAct_1 ?_
  refine G_iload_n (pc := 2) rfl dX1_restAct_2 ?_
  refine G_aload_n (pc := 3) rfl dX1_restAct_3 ?_
  refine G_getI (pc := 4) (v := 0) (ci := 1) (j := 8) rfl rfl lk_RX1_72 rfl rfl dX1_restAct_4 ?_
  refine G_icmp_ge (pc := 7) (tgt := 36) (by decide) dX1_restAct_7 (fun _ => ?_) (fun z => absurd (by decide) z)
  refine G_iconst (pc := 36) (v := 0) (by decide) dX1_restAct_36 ?_
  exact G_iret (pc := 37) (Nat.le_of_ble_eq_true rfl) (Nat.le_of_ble_eq_true rfl) rfl dX1_restAct_37 ⟨rfl, rfl⟩
set_option maxRecDepth 100000 in
set_option maxHeartbeats 4000000 in
theorem s372_X1_isKey  (d : Nat)   : G (d) mX1_isKey 0 0 0 0 0 (gent 2 [.ref 19, .int (-1)]) [] SH0 RF0 (gup (gup (gup (gup (gup (gup (gup (gcp I0 24 34 (0 : Int32).toNatClampNeg (0 : Int32).toNatClampNeg (6 : Int32).toNatClampNeg) 34 6 0) 34 7 0) 19 1 1) 19 1 2) 19 1 3) 19 1 4) 19 1 5) (fun r h => r = some (.int 0) ∧ h = (SH0, RF0, (gup (gup (gup (gup (gup (gup (gup (gcp I0 24 34 (0 : Int32).toNatClampNeg (0 : Int32).toNatClampNeg (6 : Int32).toNatClampNeg) 34 6 0) 34 7 0) 19 1 1) 19 1 2) 19 1 3) 19 1 4) 19 1 5))) := by
  refine G_iload_n (pc := 0) rfl dX1_isKey_0 ?_
  refine G_if_lt (pc := 1) (tgt := 16) (by decide) dX1_isKey_1 (fun _ => ?_) (fun z => absurd (by decide) z)
  refine G_iconst (pc := 16) (v := 0) (by decide) dX1_isKey_16 ?_
  exact G_zret (pc := 17) (Nat.le_of_ble_eq_true rfl) (Nat.le_of_ble_eq_true rfl) rfl (by decide) dX1_isKey_17 ⟨rfl, rfl⟩
set_option maxRecDepth 100000 in
set_option maxHeartbeats 4000000 in
theorem s371_X1_tell  (d : Nat)   : G (d + 1) mX1_tell 0 0 0 0 0 (gent 5 [.ref 19, .int 0]) [] SH0 RF0 (gup (gup (gup (gup (gup (gup (gup (gcp I0 24 34 (0 : Int32).toNatClampNeg (0 : Int32).toNatClampNeg (6 : Int32).toNatClampNeg) 34 6 0) 34 7 0) 19 1 1) 19 1 2) 19 1 3) 19 1 4) 19 1 5) (fun r h => r = some (.int 0) ∧ h = (SH0, RF0, (gup (gup (gup (gup (gup (gup (gup (gcp I0 24 34 (0 : Int32).toNatClampNeg (0 : Int32).toNatClampNeg (6 : Int32).toNatClampNeg) 34 6 0) 34 7 0) 19 1 1) 19 1 2) 19 1 3) 19 1 4) 19 1 5))) := by
  refine G_iload_n (pc := 0) rfl dX1_tell_0 ?_
  refine G_iconst (pc := 1) (v := 1) (by decide) dX1_tell_1 ?_
  refine G_isub (pc := 2) (z := (-1)) (by decide) dX1_tell_2 ?_
  refine G_istore_n (pc := 3) (L1 := [some (.ref 19), some (.int 0), some (.int (-1)), none, none]) rfl rfl (by decide) dX1_tell_3 ?_
  refine G_aload_n (pc := 4) rfl dX1_tell_4 ?_
  refine G_iload_n (pc := 5) rfl dX1_tell_5 ?_
  refine G_callV (pc := 6) (mc1 := 0) (ms1 := 0) (ci := 1) (mj := mX1_isKey) (vs := [_]) dX1_tell_6 rfl rfl cm_X1_isKey wf_68 wf_13 wf_14 rfl (Nat.le_of_ble_eq_true rfl) (Nat.le_of_ble_eq_true rfl) (Nat.le_of_ble_eq_true rfl) (Nat.le_of_ble_eq_true rfl) (s372_X1_isKey  d  ) ?_
  rintro _ _ ⟨rfl, rfl⟩
  dsimp only [Option.toList, List.cons_append, List.nil_append]
  refine G_if_eq (pc := 9) (tgt := 20) (by decide) dX1_tell_9 (fun _ => ?_) (fun z => absurd (by decide) z)
  refine G_iconst (pc := 20) (v := 0) (by decide) dX1_tell_20 ?_
  exact G_iret (pc := 21) (Nat.le_of_ble_eq_true rfl) (Nat.le_of_ble_eq_true rfl) rfl dX1_tell_21 ⟨rfl, rfl⟩
set_option maxRecDepth 100000 in
set_option maxHeartbeats 4000000 in
theorem s373_X1_melt  (d : Nat)   : G (d) mX1_melt 0 0 0 0 0 (gent 3 [.ref 19]) [] SH0 RF0 (gup (gup (gup (gup (gup (gup (gup (gcp I0 24 34 (0 : Int32).toNatClampNeg (0 : Int32).toNatClampNeg (6 : Int32).toNatClampNeg) 34 6 0) 34 7 0) 19 1 1) 19 1 2) 19 1 3) 19 1 4) 19 1 5) (fun r h => r = some (.int 0) ∧ h = (SH0, RF0, (gup (gup (gup (gup (gup (gup (gup (gup (gcp I0 24 34 (0 : Int32).toNatClampNeg (0 : Int32).toNatClampNeg (6 : Int32).toNatClampNeg) 34 6 0) 34 7 0) 19 1 1) 19 1 2) 19 1 3) 19 1 4) 19 1 5) 19 1 6))) := by
  refine G_iconst (pc := 0) (v := 0) (by decide) dX1_melt_0 ?_
  refine G_istore_n (pc := 1) (L1 := [some (.ref 19), some (.int 0), none]) rfl rfl (by decide) dX1_melt_1 ?_
  refine G_iconst (pc := 2) (v := 0) (by decide) dX1_melt_2 ?_
  refine G_istore_n (pc := 3) (L1 := [some (.ref 19), some (.int 0), some (.int 0)]) rfl rfl (by decide) dX1_melt_3 ?_
  refine G_iload_n (pc := 4) rfl dX1_melt_4 ?_
  refine G_aload_n (pc := 5) rfl dX1_melt_5 ?_
  refine G_getI (pc := 6) (v := 0) (ci := 1) (j := 8) rfl rfl lk_RX1_72 rfl rfl dX1_melt_6 ?_
  refine G_icmp_ge (pc := 9) (tgt := 60) (by decide) dX1_melt_9 (fun _ => ?_) (fun z => absurd (by decide) z)
  refine G_aload_n (pc := 60) rfl dX1_melt_60 ?_
  refine G_dup (pc := 61) rfl dX1_melt_61 ?_
  refine G_getI (pc := 62) (v := 5) (ci := 1) (j := 1) rfl rfl lk_RX1_60 rfl rfl dX1_melt_62 ?_
  refine G_iconst (pc := 65) (v := 1) (by decide) dX1_melt_65 ?_
  refine G_iadd (pc := 66) (z := 6) (by decide) dX1_melt_66 ?_
  refine G_putI (pc := 67) (ci := 1) (j := 1) rfl lk_RX1_60 rfl rfl rfl trivial dX1_melt_67 ?_
  refine G_iload_n (pc := 70) rfl dX1_melt_70 ?_
  exact G_iret (pc := 71) (Nat.le_of_ble_eq_true rfl) (Nat.le_of_ble_eq_true rfl) rfl dX1_melt_71 ⟨rfl, rfl⟩
set_option maxRecDepth 100000 in
set_option maxHeartbeats 4000000 in
theorem s374_X1_isOver  (d : Nat)   : G (d) mX1_isOver 0 0 0 0 0 (gent 1 [.ref 19]) [] SH0 RF0 (gup (gup (gup (gup (gup (gup (gup (gup (gcp I0 24 34 (0 : Int32).toNatClampNeg (0 : Int32).toNatClampNeg (6 : Int32).toNatClampNeg) 34 6 0) 34 7 0) 19 1 1) 19 1 2) 19 1 3) 19 1 4) 19 1 5) 19 1 6) (fun r h => r = some (.int 0) ∧ h = (SH0, RF0, (gup (gup (gup (gup (gup (gup (gup (gup (gcp I0 24 34 (0 : Int32).toNatClampNeg (0 : Int32).toNatClampNeg (6 : Int32).toNatClampNeg) 34 6 0) 34 7 0) 19 1 1) 19 1 2) 19 1 3) 19 1 4) 19 1 5) 19 1 6))) := by
  refine G_aload_n (pc := 0) rfl dX1_isOver_0 ?_
  refine G_getI (pc := 1) (v := 6) (ci := 1) (j := 1) rfl rfl lk_RX1_60 rfl rfl dX1_isOver_1 ?_
  refine G_aload_n (pc := 4) rfl dX1_isOver_4 ?_
  refine G_getI (pc := 5) (v := 12) (ci := 1) (j := 2) rfl rfl lk_RX1_9 rfl rfl dX1_isOver_5 ?_
  refine G_icmp_lt (pc := 8) (tgt := 15) (by decide) dX1_isOver_8 (fun _ => ?_) (fun z => absurd (by decide) z)
  refine G_iconst (pc := 15) (v := 0) (by decide) dX1_isOver_15 ?_
  exact G_zret (pc := 16) (Nat.le_of_ble_eq_true rfl) (Nat.le_of_ble_eq_true rfl) rfl (by decide) dX1_isOver_16 ⟨rfl, rfl⟩
set_option maxRecDepth 100000 in
set_option maxHeartbeats 4000000 in
theorem s375_X1_restAct  (d : Nat)   : G (d) mX1_restAct 0 0 0 0 0 (gent 2 [.ref 19]) [] SH0 RF0 (gup (gup (gup (gup (gup (gup (gup (gup (gcp I0 24 34 (0 : Int32).toNatClampNeg (0 : Int32).toNatClampNeg (6 : Int32).toNatClampNeg) 34 6 0) 34 7 0) 19 1 1) 19 1 2) 19 1 3) 19 1 4) 19 1 5) 19 1 6) (fun r h => r = some (.int 0) ∧ h = (SH0, RF0, (gup (gup (gup (gup (gup (gup (gup (gup (gcp I0 24 34 (0 : Int32).toNatClampNeg (0 : Int32).toNatClampNeg (6 : Int32).toNatClampNeg) 34 6 0) 34 7 0) 19 1 1) 19 1 2) 19 1 3) 19 1 4) 19 1 5) 19 1 6))) := by
  refine G_iconst (pc := 0) (v := 0) (by decide) dX1_restAct_0 ?_
  refine G_istore_n (pc := 1) (L1 := [some (.ref 19), some (.int 0)]) rfl rfl (by decide) dX1_restAct_1 ?_
  refine G_iload_n (pc := 2) rfl dX1_restAct_2 ?_
  refine G_aload_n (pc := 3) rfl dX1_restAct_3 ?_
  refine G_getI (pc := 4) (v := 0) (ci := 1) (j := 8) rfl rfl lk_RX1_72 rfl rfl dX1_restAct_4 ?_
  refine G_icmp_ge (pc := 7) (tgt := 36) (by decide) dX1_restAct_7 (fun _ => ?_) (fun z => absurd (by decide) z)
  refine G_iconst (pc := 36) (v := 0) (by decide) dX1_restAct_36 ?_
  exact G_iret (pc := 37) (Nat.le_of_ble_eq_true rfl) (Nat.le_of_ble_eq_true rfl) rfl dX1_restAct_37 ⟨rfl, rfl⟩
set_option maxRecDepth 100000 in
set_option maxHeartbeats 4000000 in
theorem s377_X1_isKey  (d : Nat)   : G (d) mX1_isKey 0 0 0 0 0 (gent 2 [.ref 19, .int (-1)]) [] SH0 RF0 (gup (gup (gup (gup (gup (gup (gup (gup (gcp I0 24 34 (0 : Int32).toNatClampNeg (0 : Int32).toNatClampNeg (6 : Int32).toNatClampNeg) 34 6 0) 34 7 0) 19 1 1) 19 1 2) 19 1 3) 19 1 4) 19 1 5) 19 1 6) (fun r h => r = some (.int 0) ∧ h = (SH0, RF0, (gup (gup (gup (gup (gup (gup (gup (gup (gcp I0 24 34 (0 : Int32).toNatClampNeg (0 : Int32).toNatClampNeg (6 : Int32).toNatClampNeg) 34 6 0) 34 7 0) 19 1 1) 19 1 2) 19 1 3) 19 1 4) 19 1 5) 19 1 6))) := by
  refine G_iload_n (pc := 0) rfl dX1_isKey_0 ?_
  refine G_if_lt (pc := 1) (tgt := 16) (by decide) dX1_isKey_1 (fun _ => ?_) (fun z => absurd (by decide) z)
  refine G_iconst (pc := 16) (v := 0) (by decide) dX1_isKey_16 ?_
  exact G_zret (pc := 17) (Nat.le_of_ble_eq_true rfl) (Nat.le_of_ble_eq_true rfl) rfl (by decide) dX1_isKey_17 ⟨rfl, rfl⟩
set_option maxRecDepth 100000 in
set_option maxHeartbeats 4000000 in
theorem s376_X1_tell  (d : Nat)   : G (d + 1) mX1_tell 0 0 0 0 0 (gent 5 [.ref 19, .int 0]) [] SH0 RF0 (gup (gup (gup (gup (gup (gup (gup (gup (gcp I0 24 34 (0 : Int32).toNatClampNeg (0 : Int32).toNatClampNeg (6 : Int32).toNatClampNeg) 34 6 0) 34 7 0) 19 1 1) 19 1 2) 19 1 3) 19 1 4) 19 1 5) 19 1 6) (fun r h => r = some (.int 0) ∧ h = (SH0, RF0, (gup (gup (gup (gup (gup (gup (gup (gup (gcp I0 24 34 (0 : Int32).toNatClampNeg (0 : Int32).toNatClampNeg (6 : Int32).toNatClampNeg) 34 6 0) 34 7 0) 19 1 1) 19 1 2) 19 1 3) 19 1 4) 19 1 5) 19 1 6))) := by
  refine G_iload_n (pc := 0) rfl dX1_tell_0 ?_
  refine G_iconst (pc := 1) (v := 1) (by decide) dX1_tell_1 ?_
  refine G_isub (pc := 2) (z := (-1)) (by decide) dX1_tell_2 ?_
  refine G_istore_n (pc := 3) (L1 := [some (.ref 19), some (.int 0), some (.int (-1)), none, none]) rfl rfl (by decide) dX1_tell_3 ?_
  refine G_aload_n (pc := 4) rfl dX1_tell_4 ?_
  refine G_iload_n (pc := 5) rfl dX1_tell_5 ?_
  refine G_callV (pc := 6) (mc1 := 0) (ms1 := 0) (ci := 1) (mj := mX1_isKey) (vs := [_]) dX1_tell_6 rfl rfl cm_X1_isKey wf_68 wf_13 wf_14 rfl (Nat.le_of_ble_eq_true rfl) (Nat.le_of_ble_eq_true rfl) (Nat.le_of_ble_eq_true rfl) (Nat.le_of_ble_eq_true rfl) (s377_X1_isKey  d  ) ?_
  rintro _ _ ⟨rfl, rfl⟩
  dsimp only [Option.toList, List.cons_append, List.nil_append]
  refine G_if_eq (pc := 9) (tgt := 20) (by decide) dX1_tell_9 (fun _ => ?_) (fun z => absurd (by decide) z)
  refine G_iconst (pc := 20) (v := 0) (by decide) dX1_tell_20 ?_
  exact G_iret (pc := 21) (Nat.le_of_ble_eq_true rfl) (Nat.le_of_ble_eq_true rfl) rfl dX1_tell_21 ⟨rfl, rfl⟩
set_option maxRecDepth 100000 in
set_option maxHeartbeats 4000000 in
theorem s378_X1_melt  (d : Nat)   : G (d) mX1_melt 0 0 0 0 0 (gent 3 [.ref 19]) [] SH0 RF0 (gup (gup (gup (gup (gup (gup (gup (gup (gcp I0 24 34 (0 : Int32).toNatClampNeg (0 : Int32).toNatClampNeg (6 : Int32).toNatClampNeg) 34 6 0) 34 7 0) 19 1 1) 19 1 2) 19 1 3) 19 1 4) 19 1 5) 19 1 6) (fun r h => r = some (.int 0) ∧ h = (SH0, RF0, (gup (gup (gup (gup (gup (gup (gup (gup (gup (gcp I0 24 34 (0 : Int32).toNatClampNeg (0 : Int32).toNatClampNeg (6 : Int32).toNatClampNeg) 34 6 0) 34 7 0) 19 1 1) 19 1 2) 19 1 3) 19 1 4) 19 1 5) 19 1 6) 19 1 7))) := by
  refine G_iconst (pc := 0) (v := 0) (by decide) dX1_melt_0 ?_
  refine G_istore_n (pc := 1) (L1 := [some (.ref 19), some (.int 0), none]) rfl rfl (by decide) dX1_melt_1 ?_
  refine G_iconst (pc := 2) (v := 0) (by decide) dX1_melt_2 ?_
  refine G_istore_n (pc := 3) (L1 := [some (.ref 19), some (.int 0), some (.int 0)]) rfl rfl (by decide) dX1_melt_3 ?_
  refine G_iload_n (pc := 4) rfl dX1_melt_4 ?_
  refine G_aload_n (pc := 5) rfl dX1_melt_5 ?_
  refine G_getI (pc := 6) (v := 0) (ci := 1) (j := 8) rfl rfl lk_RX1_72 rfl rfl dX1_melt_6 ?_
  refine G_icmp_ge (pc := 9) (tgt := 60) (by decide) dX1_melt_9 (fun _ => ?_) (fun z => absurd (by decide) z)
  refine G_aload_n (pc := 60) rfl dX1_melt_60 ?_
  refine G_dup (pc := 61) rfl dX1_melt_61 ?_
  refine G_getI (pc := 62) (v := 6) (ci := 1) (j := 1) rfl rfl lk_RX1_60 rfl rfl dX1_melt_62 ?_
  refine G_iconst (pc := 65) (v := 1) (by decide) dX1_melt_65 ?_
  refine G_iadd (pc := 66) (z := 7) (by decide) dX1_melt_66 ?_
  refine G_putI (pc := 67) (ci := 1) (j := 1) rfl lk_RX1_60 rfl rfl rfl trivial dX1_melt_67 ?_
  refine G_iload_n (pc := 70) rfl dX1_melt_70 ?_
  exact G_iret (pc := 71) (Nat.le_of_ble_eq_true rfl) (Nat.le_of_ble_eq_true rfl) rfl dX1_melt_71 ⟨rfl, rfl⟩
set_option maxRecDepth 100000 in
set_option maxHeartbeats 4000000 in
theorem s379_X1_isOver  (d : Nat)   : G (d) mX1_isOver 0 0 0 0 0 (gent 1 [.ref 19]) [] SH0 RF0 (gup (gup (gup (gup (gup (gup (gup (gup (gup (gcp I0 24 34 (0 : Int32).toNatClampNeg (0 : Int32).toNatClampNeg (6 : Int32).toNatClampNeg) 34 6 0) 34 7 0) 19 1 1) 19 1 2) 19 1 3) 19 1 4) 19 1 5) 19 1 6) 19 1 7) (fun r h => r = some (.int 0) ∧ h = (SH0, RF0, (gup (gup (gup (gup (gup (gup (gup (gup (gup (gcp I0 24 34 (0 : Int32).toNatClampNeg (0 : Int32).toNatClampNeg (6 : Int32).toNatClampNeg) 34 6 0) 34 7 0) 19 1 1) 19 1 2) 19 1 3) 19 1 4) 19 1 5) 19 1 6) 19 1 7))) := by
  refine G_aload_n (pc := 0) rfl dX1_isOver_0 ?_
  refine G_getI (pc := 1) (v := 7) (ci := 1) (j := 1) rfl rfl lk_RX1_60 rfl rfl dX1_isOver_1 ?_
  refine G_aload_n (pc := 4) rfl dX1_isOver_4 ?_
  refine G_getI (pc := 5) (v := 12) (ci := 1) (j := 2) rfl rfl lk_RX1_9 rfl rfl dX1_isOver_5 ?_
  refine G_icmp_lt (pc := 8) (tgt := 15) (by decide) dX1_isOver_8 (fun _ => ?_) (fun z => absurd (by decide) z)
  refine G_iconst (pc := 15) (v := 0) (by decide) dX1_isOver_15 ?_
  exact G_zret (pc := 16) (Nat.le_of_ble_eq_true rfl) (Nat.le_of_ble_eq_true rfl) rfl (by decide) dX1_isOver_16 ⟨rfl, rfl⟩
set_option maxRecDepth 100000 in
set_option maxHeartbeats 4000000 in
theorem s380_X1_restAct  (d : Nat)   : G (d) mX1_restAct 0 0 0 0 0 (gent 2 [.ref 19]) [] SH0 RF0 (gup (gup (gup (gup (gup (gup (gup (gup (gup (gcp I0 24 34 (0 : Int32).toNatClampNeg (0 : Int32).toNatClampNeg (6 : Int32).toNatClampNeg) 34 6 0) 34 7 0) 19 1 1) 19 1 2) 19 1 3) 19 1 4) 19 1 5) 19 1 6) 19 1 7) (fun r h => r = some (.int 0) ∧ h = (SH0, RF0, (gup (gup (gup (gup (gup (gup (gup (gup (gup (gcp I0 24 34 (0 : Int32).toNatClampNeg (0 : Int32).toNatClampNeg (6 : Int32).toNatClampNeg) 34 6 0) 34 7 0) 19 1 1) 19 1 2) 19 1 3) 19 1 4) 19 1 5) 19 1 6) 19 1 7))) := by
  refine G_iconst (pc := 0) (v := 0) (by decide) dX1_restAct_0 ?_
  refine G_istore_n (pc := 1) (L1 := [some (.ref 19), some (.int 0)]) rfl rfl (by decide) dX1_restAct_1 ?_
  refine G_iload_n (pc := 2) rfl dX1_restAct_2 ?_
  refine G_aload_n (pc := 3) rfl dX1_restAct_3 ?_
  refine G_getI (pc := 4) (v := 0) (ci := 1) (j := 8) rfl rfl lk_RX1_72 rfl rfl dX1_restAct_4 ?_
  refine G_icmp_ge (pc := 7) (tgt := 36) (by decide) dX1_restAct_7 (fun _ => ?_) (fun z => absurd (by decide) z)
  refine G_iconst (pc := 36) (v := 0) (by decide) dX1_restAct_36 ?_
  exact G_iret (pc := 37) (Nat.le_of_ble_eq_true rfl) (Nat.le_of_ble_eq_true rfl) rfl dX1_restAct_37 ⟨rfl, rfl⟩
set_option maxRecDepth 100000 in
set_option maxHeartbeats 4000000 in
theorem s382_X1_isKey  (d : Nat)   : G (d) mX1_isKey 0 0 0 0 0 (gent 2 [.ref 19, .int (-1)]) [] SH0 RF0 (gup (gup (gup (gup (gup (gup (gup (gup (gup (gcp I0 24 34 (0 : Int32).toNatClampNeg (0 : Int32).toNatClampNeg (6 : Int32).toNatClampNeg) 34 6 0) 34 7 0) 19 1 1) 19 1 2) 19 1 3) 19 1 4) 19 1 5) 19 1 6) 19 1 7) (fun r h => r = some (.int 0) ∧ h = (SH0, RF0, (gup (gup (gup (gup (gup (gup (gup (gup (gup (gcp I0 24 34 (0 : Int32).toNatClampNeg (0 : Int32).toNatClampNeg (6 : Int32).toNatClampNeg) 34 6 0) 34 7 0) 19 1 1) 19 1 2) 19 1 3) 19 1 4) 19 1 5) 19 1 6) 19 1 7))) := by
  refine G_iload_n (pc := 0) rfl dX1_isKey_0 ?_
  refine G_if_lt (pc := 1) (tgt := 16) (by decide) dX1_isKey_1 (fun _ => ?_) (fun z => absurd (by decide) z)
  refine G_iconst (pc := 16) (v := 0) (by decide) dX1_isKey_16 ?_
  exact G_zret (pc := 17) (Nat.le_of_ble_eq_true rfl) (Nat.le_of_ble_eq_true rfl) rfl (by decide) dX1_isKey_17 ⟨rfl, rfl⟩
set_option maxRecDepth 100000 in
set_option maxHeartbeats 4000000 in
theorem s381_X1_tell  (d : Nat)   : G (d + 1) mX1_tell 0 0 0 0 0 (gent 5 [.ref 19, .int 0]) [] SH0 RF0 (gup (gup (gup (gup (gup (gup (gup (gup (gup (gcp I0 24 34 (0 : Int32).toNatClampNeg (0 : Int32).toNatClampNeg (6 : Int32).toNatClampNeg) 34 6 0) 34 7 0) 19 1 1) 19 1 2) 19 1 3) 19 1 4) 19 1 5) 19 1 6) 19 1 7) (fun r h => r = some (.int 0) ∧ h = (SH0, RF0, (gup (gup (gup (gup (gup (gup (gup (gup (gup (gcp I0 24 34 (0 : Int32).toNatClampNeg (0 : Int32).toNatClampNeg (6 : Int32).toNatClampNeg) 34 6 0) 34 7 0) 19 1 1) 19 1 2) 19 1 3) 19 1 4) 19 1 5) 19 1 6) 19 1 7))) := by
  refine G_iload_n (pc := 0) rfl dX1_tell_0 ?_
  refine G_iconst (pc := 1) (v := 1) (by decide) dX1_tell_1 ?_
  refine G_isub (pc := 2) (z := (-1)) (by decide) dX1_tell_2 ?_
  refine G_istore_n (pc := 3) (L1 := [some (.ref 19), some (.int 0), some (.int (-1)), none, none]) rfl rfl (by decide) dX1_tell_3 ?_
  refine G_aload_n (pc := 4) rfl dX1_tell_4 ?_
  refine G_iload_n (pc := 5) rfl dX1_tell_5 ?_
  refine G_callV (pc := 6) (mc1 := 0) (ms1 := 0) (ci := 1) (mj := mX1_isKey) (vs := [_]) dX1_tell_6 rfl rfl cm_X1_isKey wf_68 wf_13 wf_14 rfl (Nat.le_of_ble_eq_true rfl) (Nat.le_of_ble_eq_true rfl) (Nat.le_of_ble_eq_true rfl) (Nat.le_of_ble_eq_true rfl) (s382_X1_isKey  d  ) ?_
  rintro _ _ ⟨rfl, rfl⟩
  dsimp only [Option.toList, List.cons_append, List.nil_append]
  refine G_if_eq (pc := 9) (tgt := 20) (by decide) dX1_tell_9 (fun _ => ?_) (fun z => absurd (by decide) z)
  refine G_iconst (pc := 20) (v := 0) (by decide) dX1_tell_20 ?_
  exact G_iret (pc := 21) (Nat.le_of_ble_eq_true rfl) (Nat.le_of_ble_eq_true rfl) rfl dX1_tell_21 ⟨rfl, rfl⟩
set_option maxRecDepth 100000 in
set_option maxHeartbeats 4000000 in
theorem s383_X1_melt  (d : Nat)   : G (d) mX1_melt 0 0 0 0 0 (gent 3 [.ref 19]) [] SH0 RF0 (gup (gup (gup (gup (gup (gup (gup (gup (gup (gcp I0 24 34 (0 : Int32).toNatClampNeg (0 : Int32).toNatClampNeg (6 : Int32).toNatClampNeg) 34 6 0) 34 7 0) 19 1 1) 19 1 2) 19 1 3) 19 1 4) 19 1 5) 19 1 6) 19 1 7) (fun r h => r = some (.int 0) ∧ h = (SH0, RF0, (gup (gup (gup (gup (gup (gup (gup (gup (gup (gup (gcp I0 24 34 (0 : Int32).toNatClampNeg (0 : Int32).toNatClampNeg (6 : Int32).toNatClampNeg) 34 6 0) 34 7 0) 19 1 1) 19 1 2) 19 1 3) 19 1 4) 19 1 5) 19 1 6) 19 1 7) 19 1 8))) := by
  refine G_iconst (pc := 0) (v := 0) (by decide) dX1_melt_0 ?_
  refine G_istore_n (pc := 1) (L1 := [some (.ref 19), some (.int 0), none]) rfl rfl (by decide) dX1_melt_1 ?_
  refine G_iconst (pc := 2) (v := 0) (by decide) dX1_melt_2 ?_
  refine G_istore_n (pc := 3) (L1 := [some (.ref 19), some (.int 0), some (.int 0)]) rfl rfl (by decide) dX1_melt_3 ?_
  refine G_iload_n (pc := 4) rfl dX1_melt_4 ?_
  refine G_aload_n (pc := 5) rfl dX1_melt_5 ?_
  refine G_getI (pc := 6) (v := 0) (ci := 1) (j := 8) rfl rfl lk_RX1_72 rfl rfl dX1_melt_6 ?_
  refine G_icmp_ge (pc := 9) (tgt := 60) (by decide) dX1_melt_9 (fun _ => ?_) (fun z => absurd (by decide) z)
  refine G_aload_n (pc := 60) rfl dX1_melt_60 ?_
  refine G_dup (pc := 61) rfl dX1_melt_61 ?_
  refine G_getI (pc := 62) (v := 7) (ci := 1) (j := 1) rfl rfl lk_RX1_60 rfl rfl dX1_melt_62 ?_
  refine G_iconst (pc := 65) (v := 1) (by decide) dX1_melt_65 ?_
  refine G_iadd (pc := 66) (z := 8) (by decide) dX1_melt_66 ?_
  refine G_putI (pc := 67) (ci := 1) (j := 1) rfl lk_RX1_60 rfl rfl rfl trivial dX1_melt_67 ?_
  refine G_iload_n (pc := 70) rfl dX1_melt_70 ?_
  exact G_iret (pc := 71) (Nat.le_of_ble_eq_true rfl) (Nat.le_of_ble_eq_true rfl) rfl dX1_melt_71 ⟨rfl, rfl⟩
set_option maxRecDepth 100000 in
set_option maxHeartbeats 4000000 in
theorem s384_X1_isOver  (d : Nat)   : G (d) mX1_isOver 0 0 0 0 0 (gent 1 [.ref 19]) [] SH0 RF0 (gup (gup (gup (gup (gup (gup (gup (gup (gup (gup (gcp I0 24 34 (0 : Int32).toNatClampNeg (0 : Int32).toNatClampNeg (6 : Int32).toNatClampNeg) 34 6 0) 34 7 0) 19 1 1) 19 1 2) 19 1 3) 19 1 4) 19 1 5) 19 1 6) 19 1 7) 19 1 8) (fun r h => r = some (.int 0) ∧ h = (SH0, RF0, (gup (gup (gup (gup (gup (gup (gup (gup (gup (gup (gcp I0 24 34 (0 : Int32).toNatClampNeg (0 : Int32).toNatClampNeg (6 : Int32).toNatClampNeg) 34 6 0) 34 7 0) 19 1 1) 19 1 2) 19 1 3) 19 1 4) 19 1 5) 19 1 6) 19 1 7) 19 1 8))) := by
  refine G_aload_n (pc := 0) rfl dX1_isOver_0 ?_
  refine G_getI (pc := 1) (v := 8) (ci := 1) (j := 1) rfl rfl lk_RX1_60 rfl rfl dX1_isOver_1 ?_
  refine G_aload_n (pc := 4) rfl dX1_isOver_4 ?_
  refine G_getI (pc := 5) (v := 12) (ci := 1) (j := 2) rfl rfl lk_RX1_9 rfl rfl dX1_isOver_5 ?_
  refine G_icmp_lt (pc := 8) (tgt := 15) (by decide) dX1_isOver_8 (fun _ => ?_) (fun z => absurd (by decide) z)
  refine G_iconst (pc := 15) (v := 0) (by decide) dX1_isOver_15 ?_
  exact G_zret (pc := 16) (Nat.le_of_ble_eq_true rfl) (Nat.le_of_ble_eq_true rfl) rfl (by decide) dX1_isOver_16 ⟨rfl, rfl⟩
set_option maxRecDepth 100000 in
set_option maxHeartbeats 4000000 in
theorem s385_X1_restAct  (d : Nat)   : G (d) mX1_restAct 0 0 0 0 0 (gent 2 [.ref 19]) [] SH0 RF0 (gup (gup (gup (gup (gup (gup (gup (gup (gup (gup (gcp I0 24 34 (0 : Int32).toNatClampNeg (0 : Int32).toNatClampNeg (6 : Int32).toNatClampNeg) 34 6 0) 34 7 0) 19 1 1) 19 1 2) 19 1 3) 19 1 4) 19 1 5) 19 1 6) 19 1 7) 19 1 8) (fun r h => r = some (.int 0) ∧ h = (SH0, RF0, (gup (gup (gup (gup (gup (gup (gup (gup (gup (gup (gcp I0 24 34 (0 : Int32).toNatClampNeg (0 : Int32).toNatClampNeg (6 : Int32).toNatClampNeg) 34 6 0) 34 7 0) 19 1 1) 19 1 2) 19 1 3) 19 1 4) 19 1 5) 19 1 6) 19 1 7) 19 1 8))) := by
  refine G_iconst (pc := 0) (v := 0) (by decide) dX1_restAct_0 ?_
  refine G_istore_n (pc := 1) (L1 := [some (.ref 19), some (.int 0)]) rfl rfl (by decide) dX1_restAct_1 ?_
  refine G_iload_n (pc := 2) rfl dX1_restAct_2 ?_
  refine G_aload_n (pc := 3) rfl dX1_restAct_3 ?_
  refine G_getI (pc := 4) (v := 0) (ci := 1) (j := 8) rfl rfl lk_RX1_72 rfl rfl dX1_restAct_4 ?_
  refine G_icmp_ge (pc := 7) (tgt := 36) (by decide) dX1_restAct_7 (fun _ => ?_) (fun z => absurd (by decide) z)
  refine G_iconst (pc := 36) (v := 0) (by decide) dX1_restAct_36 ?_
  exact G_iret (pc := 37) (Nat.le_of_ble_eq_true rfl) (Nat.le_of_ble_eq_true rfl) rfl dX1_restAct_37 ⟨rfl, rfl⟩
set_option maxRecDepth 100000 in
set_option maxHeartbeats 4000000 in
theorem s387_X1_isKey  (d : Nat)   : G (d) mX1_isKey 0 0 0 0 0 (gent 2 [.ref 19, .int (-1)]) [] SH0 RF0 (gup (gup (gup (gup (gup (gup (gup (gup (gup (gup (gcp I0 24 34 (0 : Int32).toNatClampNeg (0 : Int32).toNatClampNeg (6 : Int32).toNatClampNeg) 34 6 0) 34 7 0) 19 1 1) 19 1 2) 19 1 3) 19 1 4) 19 1 5) 19 1 6) 19 1 7) 19 1 8) (fun r h => r = some (.int 0) ∧ h = (SH0, RF0, (gup (gup (gup (gup (gup (gup (gup (gup (gup (gup (gcp I0 24 34 (0 : Int32).toNatClampNeg (0 : Int32).toNatClampNeg (6 : Int32).toNatClampNeg) 34 6 0) 34 7 0) 19 1 1) 19 1 2) 19 1 3) 19 1 4) 19 1 5) 19 1 6) 19 1 7) 19 1 8))) := by
  refine G_iload_n (pc := 0) rfl dX1_isKey_0 ?_
  refine G_if_lt (pc := 1) (tgt := 16) (by decide) dX1_isKey_1 (fun _ => ?_) (fun z => absurd (by decide) z)
  refine G_iconst (pc := 16) (v := 0) (by decide) dX1_isKey_16 ?_
  exact G_zret (pc := 17) (Nat.le_of_ble_eq_true rfl) (Nat.le_of_ble_eq_true rfl) rfl (by decide) dX1_isKey_17 ⟨rfl, rfl⟩
set_option maxRecDepth 100000 in
set_option maxHeartbeats 4000000 in
theorem s386_X1_tell  (d : Nat)   : G (d + 1) mX1_tell 0 0 0 0 0 (gent 5 [.ref 19, .int 0]) [] SH0 RF0 (gup (gup (gup (gup (gup (gup (gup (gup (gup (gup (gcp I0 24 34 (0 : Int32).toNatClampNeg (0 : Int32).toNatClampNeg (6 : Int32).toNatClampNeg) 34 6 0) 34 7 0) 19 1 1) 19 1 2) 19 1 3) 19 1 4) 19 1 5) 19 1 6) 19 1 7) 19 1 8) (fun r h => r = some (.int 0) ∧ h = (SH0, RF0, (gup (gup (gup (gup (gup (gup (gup (gup (gup (gup (gcp I0 24 34 (0 : Int32).toNatClampNeg (0 : Int32).toNatClampNeg (6 : Int32).toNatClampNeg) 34 6 0) 34 7 0) 19 1 1) 19 1 2) 19 1 3) 19 1 4) 19 1 5) 19 1 6) 19 1 7) 19 1 8))) := by
  refine G_iload_n (pc := 0) rfl dX1_tell_0 ?_
  refine G_iconst (pc := 1) (v := 1) (by decide) dX1_tell_1 ?_
  refine G_isub (pc := 2) (z := (-1)) (by decide) dX1_tell_2 ?_
  refine G_istore_n (pc := 3) (L1 := [some (.ref 19), some (.int 0), some (.int (-1)), none, none]) rfl rfl (by decide) dX1_tell_3 ?_
  refine G_aload_n (pc := 4) rfl dX1_tell_4 ?_
  refine G_iload_n (pc := 5) rfl dX1_tell_5 ?_
  refine G_callV (pc := 6) (mc1 := 0) (ms1 := 0) (ci := 1) (mj := mX1_isKey) (vs := [_]) dX1_tell_6 rfl rfl cm_X1_isKey wf_68 wf_13 wf_14 rfl (Nat.le_of_ble_eq_true rfl) (Nat.le_of_ble_eq_true rfl) (Nat.le_of_ble_eq_true rfl) (Nat.le_of_ble_eq_true rfl) (s387_X1_isKey  d  ) ?_
  rintro _ _ ⟨rfl, rfl⟩
  dsimp only [Option.toList, List.cons_append, List.nil_append]
  refine G_if_eq (pc := 9) (tgt := 20) (by decide) dX1_tell_9 (fun _ => ?_) (fun z => absurd (by decide) z)
  refine G_iconst (pc := 20) (v := 0) (by decide) dX1_tell_20 ?_
  exact G_iret (pc := 21) (Nat.le_of_ble_eq_true rfl) (Nat.le_of_ble_eq_true rfl) rfl dX1_tell_21 ⟨rfl, rfl⟩
set_option maxRecDepth 100000 in
set_option maxHeartbeats 4000000 in
theorem s388_X1_melt  (d : Nat)   : G (d) mX1_melt 0 0 0 0 0 (gent 3 [.ref 19]) [] SH0 RF0 (gup (gup (gup (gup (gup (gup (gup (gup (gup (gup (gcp I0 24 34 (0 : Int32).toNatClampNeg (0 : Int32).toNatClampNeg (6 : Int32).toNatClampNeg) 34 6 0) 34 7 0) 19 1 1) 19 1 2) 19 1 3) 19 1 4) 19 1 5) 19 1 6) 19 1 7) 19 1 8) (fun r h => r = some (.int 0) ∧ h = (SH0, RF0, (gup (gup (gup (gup (gup (gup (gup (gup (gup (gup (gup (gcp I0 24 34 (0 : Int32).toNatClampNeg (0 : Int32).toNatClampNeg (6 : Int32).toNatClampNeg) 34 6 0) 34 7 0) 19 1 1) 19 1 2) 19 1 3) 19 1 4) 19 1 5) 19 1 6) 19 1 7) 19 1 8) 19 1 9))) := by
  refine G_iconst (pc := 0) (v := 0) (by decide) dX1_melt_0 ?_
  refine G_istore_n (pc := 1) (L1 := [some (.ref 19), some (.int 0), none]) rfl rfl (by decide) dX1_melt_1 ?_
  refine G_iconst (pc := 2) (v := 0) (by decide) dX1_melt_2 ?_
  refine G_istore_n (pc := 3) (L1 := [some (.ref 19), some (.int 0), some (.int 0)]) rfl rfl (by decide) dX1_melt_3 ?_
  refine G_iload_n (pc := 4) rfl dX1_melt_4 ?_
  refine G_aload_n (pc := 5) rfl dX1_melt_5 ?_
  refine G_getI (pc := 6) (v := 0) (ci := 1) (j := 8) rfl rfl lk_RX1_72 rfl rfl dX1_melt_6 ?_
  refine G_icmp_ge (pc := 9) (tgt := 60) (by decide) dX1_melt_9 (fun _ => ?_) (fun z => absurd (by decide) z)
  refine G_aload_n (pc := 60) rfl dX1_melt_60 ?_
  refine G_dup (pc := 61) rfl dX1_melt_61 ?_
  refine G_getI (pc := 62) (v := 8) (ci := 1) (j := 1) rfl rfl lk_RX1_60 rfl rfl dX1_melt_62 ?_
  refine G_iconst (pc := 65) (v := 1) (by decide) dX1_melt_65 ?_
  refine G_iadd (pc := 66) (z := 9) (by decide) dX1_melt_66 ?_
  refine G_putI (pc := 67) (ci := 1) (j := 1) rfl lk_RX1_60 rfl rfl rfl trivial dX1_melt_67 ?_
  refine G_iload_n (pc := 70) rfl dX1_melt_70 ?_
  exact G_iret (pc := 71) (Nat.le_of_ble_eq_true rfl) (Nat.le_of_ble_eq_true rfl) rfl dX1_melt_71 ⟨rfl, rfl⟩
set_option maxRecDepth 100000 in
set_option maxHeartbeats 4000000 in
theorem s389_X1_isOver  (d : Nat)   : G (d) mX1_isOver 0 0 0 0 0 (gent 1 [.ref 19]) [] SH0 RF0 (gup (gup (gup (gup (gup (gup (gup (gup (gup (gup (gup (gcp I0 24 34 (0 : Int32).toNatClampNeg (0 : Int32).toNatClampNeg (6 : Int32).toNatClampNeg) 34 6 0) 34 7 0) 19 1 1) 19 1 2) 19 1 3) 19 1 4) 19 1 5) 19 1 6) 19 1 7) 19 1 8) 19 1 9) (fun r h => r = some (.int 0) ∧ h = (SH0, RF0, (gup (gup (gup (gup (gup (gup (gup (gup (gup (gup (gup (gcp I0 24 34 (0 : Int32).toNatClampNeg (0 : Int32).toNatClampNeg (6 : Int32).toNatClampNeg) 34 6 0) 34 7 0) 19 1 1) 19 1 2) 19 1 3) 19 1 4) 19 1 5) 19 1 6) 19 1 7) 19 1 8) 19 1 9))) := by
  refine G_aload_n (pc := 0) rfl dX1_isOver_0 ?_
  refine G_getI (pc := 1) (v := 9) (ci := 1) (j := 1) rfl rfl lk_RX1_60 rfl rfl dX1_isOver_1 ?_
  refine G_aload_n (pc := 4) rfl dX1_isOver_4 ?_
  refine G_getI (pc := 5) (v := 12) (ci := 1) (j := 2) rfl rfl lk_RX1_9 rfl rfl dX1_isOver_5 ?_
  refine G_icmp_lt (pc := 8) (tgt := 15) (by decide) dX1_isOver_8 (fun _ => ?_) (fun z => absurd (by decide) z)
  refine G_iconst (pc := 15) (v := 0) (by decide) dX1_isOver_15 ?_
  exact G_zret (pc := 16) (Nat.le_of_ble_eq_true rfl) (Nat.le_of_ble_eq_true rfl) rfl (by decide) dX1_isOver_16 ⟨rfl, rfl⟩
set_option maxRecDepth 100000 in
set_option maxHeartbeats 4000000 in
theorem s390_X1_restAct  (d : Nat)   : G (d) mX1_restAct 0 0 0 0 0 (gent 2 [.ref 19]) [] SH0 RF0 (gup (gup (gup (gup (gup (gup (gup (gup (gup (gup (gup (gcp I0 24 34 (0 : Int32).toNatClampNeg (0 : Int32).toNatClampNeg (6 : Int32).toNatClampNeg) 34 6 0) 34 7 0) 19 1 1) 19 1 2) 19 1 3) 19 1 4) 19 1 5) 19 1 6) 19 1 7) 19 1 8) 19 1 9) (fun r h => r = some (.int 0) ∧ h = (SH0, RF0, (gup (gup (gup (gup (gup (gup (gup (gup (gup (gup (gup (gcp I0 24 34 (0 : Int32).toNatClampNeg (0 : Int32).toNatClampNeg (6 : Int32).toNatClampNeg) 34 6 0) 34 7 0) 19 1 1) 19 1 2) 19 1 3) 19 1 4) 19 1 5) 19 1 6) 19 1 7) 19 1 8) 19 1 9))) := by
  refine G_iconst (pc := 0) (v := 0) (by decide) dX1_restAct_0 ?_
  refine G_istore_n (pc := 1) (L1 := [some (.ref 19), some (.int 0)]) rfl rfl (by decide) dX1_restAct_1 ?_
  refine G_iload_n (pc := 2) rfl dX1_restAct_2 ?_
  refine G_aload_n (pc := 3) rfl dX1_restAct_3 ?_
  refine G_getI (pc := 4) (v := 0) (ci := 1) (j := 8) rfl rfl lk_RX1_72 rfl rfl dX1_restAct_4 ?_
  refine G_icmp_ge (pc := 7) (tgt := 36) (by decide) dX1_restAct_7 (fun _ => ?_) (fun z => absurd (by decide) z)
  refine G_iconst (pc := 36) (v := 0) (by decide) dX1_restAct_36 ?_
  exact G_iret (pc := 37) (Nat.le_of_ble_eq_true rfl) (Nat.le_of_ble_eq_true rfl) rfl dX1_restAct_37 ⟨rfl, rfl⟩
set_option maxRecDepth 100000 in
set_option maxHeartbeats 4000000 in
theorem s392_X1_isKey  (d : Nat)   : G (d) mX1_isKey 0 0 0 0 0 (gent 2 [.ref 19, .int (-1)]) [] SH0 RF0 (gup (gup (gup (gup (gup (gup (gup (gup (gup (gup (gup (gcp I0 24 34 (0 : Int32).toNatClampNeg (0 : Int32).toNatClampNeg (6 : Int32).toNatClampNeg) 34 6 0) 34 7 0) 19 1 1) 19 1 2) 19 1 3) 19 1 4) 19 1 5) 19 1 6) 19 1 7) 19 1 8) 19 1 9) (fun r h => r = some (.int 0) ∧ h = (SH0, RF0, (gup (gup (gup (gup (gup (gup (gup (gup (gup (gup (gup (gcp I0 24 34 (0 : Int32).toNatClampNeg (0 : Int32).toNatClampNeg (6 : Int32).toNatClampNeg) 34 6 0) 34 7 0) 19 1 1) 19 1 2) 19 1 3) 19 1 4) 19 1 5) 19 1 6) 19 1 7) 19 1 8) 19 1 9))) := by
  refine G_iload_n (pc := 0) rfl dX1_isKey_0 ?_
  refine G_if_lt (pc := 1) (tgt := 16) (by decide) dX1_isKey_1 (fun _ => ?_) (fun z => absurd (by decide) z)
  refine G_iconst (pc := 16) (v := 0) (by decide) dX1_isKey_16 ?_
  exact G_zret (pc := 17) (Nat.le_of_ble_eq_true rfl) (Nat.le_of_ble_eq_true rfl) rfl (by decide) dX1_isKey_17 ⟨rfl, rfl⟩
set_option maxRecDepth 100000 in
set_option maxHeartbeats 4000000 in
theorem s391_X1_tell  (d : Nat)   : G (d + 1) mX1_tell 0 0 0 0 0 (gent 5 [.ref 19, .int 0]) [] SH0 RF0 (gup (gup (gup (gup (gup (gup (gup (gup (gup (gup (gup (gcp I0 24 34 (0 : Int32).toNatClampNeg (0 : Int32).toNatClampNeg (6 : Int32).toNatClampNeg) 34 6 0) 34 7 0) 19 1 1) 19 1 2) 19 1 3) 19 1 4) 19 1 5) 19 1 6) 19 1 7) 19 1 8) 19 1 9) (fun r h => r = some (.int 0) ∧ h = (SH0, RF0, (gup (gup (gup (gup (gup (gup (gup (gup (gup (gup (gup (gcp I0 24 34 (0 : Int32).toNatClampNeg (0 : Int32).toNatClampNeg (6 : Int32).toNatClampNeg) 34 6 0) 34 7 0) 19 1 1) 19 1 2) 19 1 3) 19 1 4) 19 1 5) 19 1 6) 19 1 7) 19 1 8) 19 1 9))) := by
  refine G_iload_n (pc := 0) rfl dX1_tell_0 ?_
  refine G_iconst (pc := 1) (v := 1) (by decide) dX1_tell_1 ?_
  refine G_isub (pc := 2) (z := (-1)) (by decide) dX1_tell_2 ?_
  refine G_istore_n (pc := 3) (L1 := [some (.ref 19), some (.int 0), some (.int (-1)), none, none]) rfl rfl (by decide) dX1_tell_3 ?_
  refine G_aload_n (pc := 4) rfl dX1_tell_4 ?_
  refine G_iload_n (pc := 5) rfl dX1_tell_5 ?_
  refine G_callV (pc := 6) (mc1 := 0) (ms1 := 0) (ci := 1) (mj := mX1_isKey) (vs := [_]) dX1_tell_6 rfl rfl cm_X1_isKey wf_68 wf_13 wf_14 rfl (Nat.le_of_ble_eq_true rfl) (Nat.le_of_ble_eq_true rfl) (Nat.le_of_ble_eq_true rfl) (Nat.le_of_ble_eq_true rfl) (s392_X1_isKey  d  ) ?_
  rintro _ _ ⟨rfl, rfl⟩
  dsimp only [Option.toList, List.cons_append, List.nil_append]
  refine G_if_eq (pc := 9) (tgt := 20) (by decide) dX1_tell_9 (fun _ => ?_) (fun z => absurd (by decide) z)
  refine G_iconst (pc := 20) (v := 0) (by decide) dX1_tell_20 ?_
  exact G_iret (pc := 21) (Nat.le_of_ble_eq_true rfl) (Nat.le_of_ble_eq_true rfl) rfl dX1_tell_21 ⟨rfl, rfl⟩
set_option maxRecDepth 100000 in
set_option maxHeartbeats 4000000 in
theorem s393_X1_melt  (d : Nat)   : G (d) mX1_melt 0 0 0 0 0 (gent 3 [.ref 19]) [] SH0 RF0 (gup (gup (gup (gup (gup (gup (gup (gup (gup (gup (gup (gcp I0 24 34 (0 : Int32).toNatClampNeg (0 : Int32).toNatClampNeg (6 : Int32).toNatClampNeg) 34 6 0) 34 7 0) 19 1 1) 19 1 2) 19 1 3) 19 1 4) 19 1 5) 19 1 6) 19 1 7) 19 1 8) 19 1 9) (fun r h => r = some (.int 0) ∧ h = (SH0, RF0, (gup (gup (gup (gup (gup (gup (gup (gup (gup (gup (gup (gup (gcp I0 24 34 (0 : Int32).toNatClampNeg (0 : Int32).toNatClampNeg (6 : Int32).toNatClampNeg) 34 6 0) 34 7 0) 19 1 1) 19 1 2) 19 1 3) 19 1 4) 19 1 5) 19 1 6) 19 1 7) 19 1 8) 19 1 9) 19 1 10))) := by
  refine G_iconst (pc := 0) (v := 0) (by decide) dX1_melt_0 ?_
  refine G_istore_n (pc := 1) (L1 := [some (.ref 19), some (.int 0), none]) rfl rfl (by decide) dX1_melt_1 ?_
  refine G_iconst (pc := 2) (v := 0) (by decide) dX1_melt_2 ?_
  refine G_istore_n (pc := 3) (L1 := [some (.ref 19), some (.int 0), some (.int 0)]) rfl rfl (by decide) dX1_melt_3 ?_
  refine G_iload_n (pc := 4) rfl dX1_melt_4 ?_
  refine G_aload_n (pc := 5) rfl dX1_melt_5 ?_
  refine G_getI (pc := 6) (v := 0) (ci := 1) (j := 8) rfl rfl lk_RX1_72 rfl rfl dX1_melt_6 ?_
  refine G_icmp_ge (pc := 9) (tgt := 60) (by decide) dX1_melt_9 (fun _ => ?_) (fun z => absurd (by decide) z)
  refine G_aload_n (pc := 60) rfl dX1_melt_60 ?_
  refine G_dup (pc := 61) rfl dX1_melt_61 ?_
  refine G_getI (pc := 62) (v := 9) (ci := 1) (j := 1) rfl rfl lk_RX1_60 rfl rfl dX1_melt_62 ?_
  refine G_iconst (pc := 65) (v := 1) (by decide) dX1_melt_65 ?_
  refine G_iadd (pc := 66) (z := 10) (by decide) dX1_melt_66 ?_
  refine G_putI (pc := 67) (ci := 1) (j := 1) rfl lk_RX1_60 rfl rfl rfl trivial dX1_melt_67 ?_
  refine G_iload_n (pc := 70) rfl dX1_melt_70 ?_
  exact G_iret (pc := 71) (Nat.le_of_ble_eq_true rfl) (Nat.le_of_ble_eq_true rfl) rfl dX1_melt_71 ⟨rfl, rfl⟩
set_option maxRecDepth 100000 in
set_option maxHeartbeats 4000000 in
theorem s394_X1_isOver  (d : Nat)   : G (d) mX1_isOver 0 0 0 0 0 (gent 1 [.ref 19]) [] SH0 RF0 (gup (gup (gup (gup (gup (gup (gup (gup (gup (gup (gup (gup (gcp I0 24 34 (0 : Int32).toNatClampNeg (0 : Int32).toNatClampNeg (6 : Int32).toNatClampNeg) 34 6 0) 34 7 0) 19 1 1) 19 1 2) 19 1 3) 19 1 4) 19 1 5) 19 1 6) 19 1 7) 19 1 8) 19 1 9) 19 1 10) (fun r h => r = some (.int 0) ∧ h = (SH0, RF0, (gup (gup (gup (gup (gup (gup (gup (gup (gup (gup (gup (gup (gcp I0 24 34 (0 : Int32).toNatClampNeg (0 : Int32).toNatClampNeg (6 : Int32).toNatClampNeg) 34 6 0) 34 7 0) 19 1 1) 19 1 2) 19 1 3) 19 1 4) 19 1 5) 19 1 6) 19 1 7) 19 1 8) 19 1 9) 19 1 10))) := by
  refine G_aload_n (pc := 0) rfl dX1_isOver_0 ?_
  refine G_getI (pc := 1) (v := 10) (ci := 1) (j := 1) rfl rfl lk_RX1_60 rfl rfl dX1_isOver_1 ?_
  refine G_aload_n (pc := 4) rfl dX1_isOver_4 ?_
  refine G_getI (pc := 5) (v := 12) (ci := 1) (j := 2) rfl rfl lk_RX1_9 rfl rfl dX1_isOver_5 ?_
  refine G_icmp_lt (pc := 8) (tgt := 15) (by decide) dX1_isOver_8 (fun _ => ?_) (fun z => absurd (by decide) z)
  refine G_iconst (pc := 15) (v := 0) (by decide) dX1_isOver_15 ?_
  exact G_zret (pc := 16) (Nat.le_of_ble_eq_true rfl) (Nat.le_of_ble_eq_true rfl) rfl (by decide) dX1_isOver_16 ⟨rfl, rfl⟩
set_option maxRecDepth 100000 in
set_option maxHeartbeats 4000000 in
theorem s395_X1_restAct  (d : Nat)   : G (d) mX1_restAct 0 0 0 0 0 (gent 2 [.ref 19]) [] SH0 RF0 (gup (gup (gup (gup (gup (gup (gup (gup (gup (gup (gup (gup (gcp I0 24 34 (0 : Int32).toNatClampNeg (0 : Int32).toNatClampNeg (6 : Int32).toNatClampNeg) 34 6 0) 34 7 0) 19 1 1) 19 1 2) 19 1 3) 19 1 4) 19 1 5) 19 1 6) 19 1 7) 19 1 8) 19 1 9) 19 1 10) (fun r h => r = some (.int 0) ∧ h = (SH0, RF0, (gup (gup (gup (gup (gup (gup (gup (gup (gup (gup (gup (gup (gcp I0 24 34 (0 : Int32).toNatClampNeg (0 : Int32).toNatClampNeg (6 : Int32).toNatClampNeg) 34 6 0) 34 7 0) 19 1 1) 19 1 2) 19 1 3) 19 1 4) 19 1 5) 19 1 6) 19 1 7) 19 1 8) 19 1 9) 19 1 10))) := by
  refine G_iconst (pc := 0) (v := 0) (by decide) dX1_restAct_0 ?_
  refine G_istore_n (pc := 1) (L1 := [some (.ref 19), some (.int 0)]) rfl rfl (by decide) dX1_restAct_1 ?_
  refine G_iload_n (pc := 2) rfl dX1_restAct_2 ?_
  refine G_aload_n (pc := 3) rfl dX1_restAct_3 ?_
  refine G_getI (pc := 4) (v := 0) (ci := 1) (j := 8) rfl rfl lk_RX1_72 rfl rfl dX1_restAct_4 ?_
  refine G_icmp_ge (pc := 7) (tgt := 36) (by decide) dX1_restAct_7 (fun _ => ?_) (fun z => absurd (by decide) z)
  refine G_iconst (pc := 36) (v := 0) (by decide) dX1_restAct_36 ?_
  exact G_iret (pc := 37) (Nat.le_of_ble_eq_true rfl) (Nat.le_of_ble_eq_true rfl) rfl dX1_restAct_37 ⟨rfl, rfl⟩
set_option maxRecDepth 100000 in
set_option maxHeartbeats 4000000 in
theorem s397_X1_isKey  (d : Nat)   : G (d) mX1_isKey 0 0 0 0 0 (gent 2 [.ref 19, .int (-1)]) [] SH0 RF0 (gup (gup (gup (gup (gup (gup (gup (gup (gup (gup (gup (gup (gcp I0 24 34 (0 : Int32).toNatClampNeg (0 : Int32).toNatClampNeg (6 : Int32).toNatClampNeg) 34 6 0) 34 7 0) 19 1 1) 19 1 2) 19 1 3) 19 1 4) 19 1 5) 19 1 6) 19 1 7) 19 1 8) 19 1 9) 19 1 10) (fun r h => r = some (.int 0) ∧ h = (SH0, RF0, (gup (gup (gup (gup (gup (gup (gup (gup (gup (gup (gup (gup (gcp I0 24 34 (0 : Int32).toNatClampNeg (0 : Int32).toNatClampNeg (6 : Int32).toNatClampNeg) 34 6 0) 34 7 0) 19 1 1) 19 1 2) 19 1 3) 19 1 4) 19 1 5) 19 1 6) 19 1 7) 19 1 8) 19 1 9) 19 1 10))) := by
  refine G_iload_n (pc := 0) rfl dX1_isKey_0 ?_
  refine G_if_lt (pc := 1) (tgt := 16) (by decide) dX1_isKey_1 (fun _ => ?_) (fun z => absurd (by decide) z)
  refine G_iconst (pc := 16) (v := 0) (by decide) dX1_isKey_16 ?_
  exact G_zret (pc := 17) (Nat.le_of_ble_eq_true rfl) (Nat.le_of_ble_eq_true rfl) rfl (by decide) dX1_isKey_17 ⟨rfl, rfl⟩
set_option maxRecDepth 100000 in
set_option maxHeartbeats 4000000 in
theorem s396_X1_tell  (d : Nat)   : G (d + 1) mX1_tell 0 0 0 0 0 (gent 5 [.ref 19, .int 0]) [] SH0 RF0 (gup (gup (gup (gup (gup (gup (gup (gup (gup (gup (gup (gup (gcp I0 24 34 (0 : Int32).toNatClampNeg (0 : Int32).toNatClampNeg (6 : Int32).toNatClampNeg) 34 6 0) 34 7 0) 19 1 1) 19 1 2) 19 1 3) 19 1 4) 19 1 5) 19 1 6) 19 1 7) 19 1 8) 19 1 9) 19 1 10) (fun r h => r = some (.int 0) ∧ h = (SH0, RF0, (gup (gup (gup (gup (gup (gup (gup (gup (gup (gup (gup (gup (gcp I0 24 34 (0 : Int32).toNatClampNeg (0 : Int32).toNatClampNeg (6 : Int32).toNatClampNeg) 34 6 0) 34 7 0) 19 1 1) 19 1 2) 19 1 3) 19 1 4) 19 1 5) 19 1 6) 19 1 7) 19 1 8) 19 1 9) 19 1 10))) := by
  refine G_iload_n (pc := 0) rfl dX1_tell_0 ?_
  refine G_iconst (pc := 1) (v := 1) (by decide) dX1_tell_1 ?_
  refine G_isub (pc := 2) (z := (-1)) (by decide) dX1_tell_2 ?_
  refine G_istore_n (pc := 3) (L1 := [some (.ref 19), some (.int 0), some (.int (-1)), none, none]) rfl rfl (by decide) dX1_tell_3 ?_
  refine G_aload_n (pc := 4) rfl dX1_tell_4 ?_
  refine G_iload_n (pc := 5) rfl dX1_tell_5 ?_
  refine G_callV (pc := 6) (mc1 := 0) (ms1 := 0) (ci := 1) (mj := mX1_isKey) (vs := [_]) dX1_tell_6 rfl rfl cm_X1_isKey wf_68 wf_13 wf_14 rfl (Nat.le_of_ble_eq_true rfl) (Nat.le_of_ble_eq_true rfl) (Nat.le_of_ble_eq_true rfl) (Nat.le_of_ble_eq_true rfl) (s397_X1_isKey  d  ) ?_
  rintro _ _ ⟨rfl, rfl⟩
  dsimp only [Option.toList, List.cons_append, List.nil_append]
  refine G_if_eq (pc := 9) (tgt := 20) (by decide) dX1_tell_9 (fun _ => ?_) (fun z => absurd (by decide) z)
  refine G_iconst (pc := 20) (v := 0) (by decide) dX1_tell_20 ?_
  exact G_iret (pc := 21) (Nat.le_of_ble_eq_true rfl) (Nat.le_of_ble_eq_true rfl) rfl dX1_tell_21 ⟨rfl, rfl⟩
set_option maxRecDepth 100000 in
set_option maxHeartbeats 4000000 in
theorem s398_X1_melt  (d : Nat)   : G (d) mX1_melt 0 0 0 0 0 (gent 3 [.ref 19]) [] SH0 RF0 (gup (gup (gup (gup (gup (gup (gup (gup (gup (gup (gup (gup (gcp I0 24 34 (0 : Int32).toNatClampNeg (0 : Int32).toNatClampNeg (6 : Int32).toNatClampNeg) 34 6 0) 34 7 0) 19 1 1) 19 1 2) 19 1 3) 19 1 4) 19 1 5) 19 1 6) 19 1 7) 19 1 8) 19 1 9) 19 1 10) (fun r h => r = some (.int 0) ∧ h = (SH0, RF0, (gup (gup (gup (gup (gup (gup (gup (gup (gup (gup (gup (gup (gup (gcp I0 24 34 (0 : Int32).toNatClampNeg (0 : Int32).toNatClampNeg (6 : Int32).toNatClampNeg) 34 6 0) 34 7 0) 19 1 1) 19 1 2) 19 1 3) 19 1 4) 19 1 5) 19 1 6) 19 1 7) 19 1 8) 19 1 9) 19 1 10) 19 1 11))) := by
  refine G_iconst (pc := 0) (v := 0) (by decide) dX1_melt_0 ?_
  refine G_istore_n (pc := 1) (L1 := [some (.ref 19), some (.int 0), none]) rfl rfl (by decide) dX1_melt_1 ?_
  refine G_iconst (pc := 2) (v := 0) (by decide) dX1_melt_2 ?_
  refine G_istore_n (pc := 3) (L1 := [some (.ref 19), some (.int 0), some (.int 0)]) rfl rfl (by decide) dX1_melt_3 ?_
  refine G_iload_n (pc := 4) rfl dX1_melt_4 ?_
  refine G_aload_n (pc := 5) rfl dX1_melt_5 ?_
  refine G_getI (pc := 6) (v := 0) (ci := 1) (j := 8) rfl rfl lk_RX1_72 rfl rfl dX1_melt_6 ?_
  refine G_icmp_ge (pc := 9) (tgt := 60) (by decide) dX1_melt_9 (fun _ => ?_) (fun z => absurd (by decide) z)
  refine G_aload_n (pc := 60) rfl dX1_melt_60 ?_
  refine G_dup (pc := 61) rfl dX1_melt_61 ?_
  refine G_getI (pc := 62) (v := 10) (ci := 1) (j := 1) rfl rfl lk_RX1_60 rfl rfl dX1_melt_62 ?_
  refine G_iconst (pc := 65) (v := 1) (by decide) dX1_melt_65 ?_
  refine G_iadd (pc := 66) (z := 11) (by decide) dX1_melt_66 ?_
  refine G_putI (pc := 67) (ci := 1) (j := 1) rfl lk_RX1_60 rfl rfl rfl trivial dX1_melt_67 ?_
  refine G_iload_n (pc := 70) rfl dX1_melt_70 ?_
  exact G_iret (pc := 71) (Nat.le_of_ble_eq_true rfl) (Nat.le_of_ble_eq_true rfl) rfl dX1_melt_71 ⟨rfl, rfl⟩
set_option maxRecDepth 100000 in
set_option maxHeartbeats 4000000 in
theorem s399_X1_isOver  (d : Nat)   : G (d) mX1_isOver 0 0 0 0 0 (gent 1 [.ref 19]) [] SH0 RF0 (gup (gup (gup (gup (gup (gup (gup (gup (gup (gup (gup (gup (gup (gcp I0 24 34 (0 : Int32).toNatClampNeg (0 : Int32).toNatClampNeg (6 : Int32).toNatClampNeg) 34 6 0) 34 7 0) 19 1 1) 19 1 2) 19 1 3) 19 1 4) 19 1 5) 19 1 6) 19 1 7) 19 1 8) 19 1 9) 19 1 10) 19 1 11) (fun r h => r = some (.int 0) ∧ h = (SH0, RF0, (gup (gup (gup (gup (gup (gup (gup (gup (gup (gup (gup (gup (gup (gcp I0 24 34 (0 : Int32).toNatClampNeg (0 : Int32).toNatClampNeg (6 : Int32).toNatClampNeg) 34 6 0) 34 7 0) 19 1 1) 19 1 2) 19 1 3) 19 1 4) 19 1 5) 19 1 6) 19 1 7) 19 1 8) 19 1 9) 19 1 10) 19 1 11))) := by
  refine G_aload_n (pc := 0) rfl dX1_isOver_0 ?_
  refine G_getI (pc := 1) (v := 11) (ci := 1) (j := 1) rfl rfl lk_RX1_60 rfl rfl dX1_isOver_1 ?_
  refine G_aload_n (pc := 4) rfl dX1_isOver_4 ?_
  refine G_getI (pc := 5) (v := 12) (ci := 1) (j := 2) rfl rfl lk_RX1_9 rfl rfl dX1_isOver_5 ?_
  refine G_icmp_lt (pc := 8) (tgt := 15) (by decide) dX1_isOver_8 (fun _ => ?_) (fun z => absurd (by decide) z)
  refine G_iconst (pc := 15) (v := 0) (by decide) dX1_isOver_15 ?_
  exact G_zret (pc := 16) (Nat.le_of_ble_eq_true rfl) (Nat.le_of_ble_eq_true rfl) rfl (by decide) dX1_isOver_16 ⟨rfl, rfl⟩
set_option maxRecDepth 100000 in
set_option maxHeartbeats 4000000 in
theorem s400_X1_restAct  (d : Nat)   : G (d) mX1_restAct 0 0 0 0 0 (gent 2 [.ref 19]) [] SH0 RF0 (gup (gup (gup (gup (gup (gup (gup (gup (gup (gup (gup (gup (gup (gcp I0 24 34 (0 : Int32).toNatClampNeg (0 : Int32).toNatClampNeg (6 : Int32).toNatClampNeg) 34 6 0) 34 7 0) 19 1 1) 19 1 2) 19 1 3) 19 1 4) 19 1 5) 19 1 6) 19 1 7) 19 1 8) 19 1 9) 19 1 10) 19 1 11) (fun r h => r = some (.int 0) ∧ h = (SH0, RF0, (gup (gup (gup (gup (gup (gup (gup (gup (gup (gup (gup (gup (gup (gcp I0 24 34 (0 : Int32).toNatClampNeg (0 : Int32).toNatClampNeg (6 : Int32).toNatClampNeg) 34 6 0) 34 7 0) 19 1 1) 19 1 2) 19 1 3) 19 1 4) 19 1 5) 19 1 6) 19 1 7) 19 1 8) 19 1 9) 19 1 10) 19 1 11))) := by
  refine G_iconst (pc := 0) (v := 0) (by decide) dX1_restAct_0 ?_
  refine G_istore_n (pc := 1) (L1 := [some (.ref 19), some (.int 0)]) rfl rfl (by decide) dX1_restAct_1 ?_
  refine G_iload_n (pc := 2) rfl dX1_restAct_2 ?_
  refine G_aload_n (pc := 3) rfl dX1_restAct_3 ?_
  refine G_getI (pc := 4) (v := 0) (ci := 1) (j := 8) rfl rfl lk_RX1_72 rfl rfl dX1_restAct_4 ?_
  refine G_icmp_ge (pc := 7) (tgt := 36) (by decide) dX1_restAct_7 (fun _ => ?_) (fun z => absurd (by decide) z)
  refine G_iconst (pc := 36) (v := 0) (by decide) dX1_restAct_36 ?_
  exact G_iret (pc := 37) (Nat.le_of_ble_eq_true rfl) (Nat.le_of_ble_eq_true rfl) rfl dX1_restAct_37 ⟨rfl, rfl⟩
set_option maxRecDepth 100000 in
set_option maxHeartbeats 4000000 in
theorem s402_X1_isKey  (d : Nat)   : G (d) mX1_isKey 0 0 0 0 0 (gent 2 [.ref 19, .int (-1)]) [] SH0 RF0 (gup (gup (gup (gup (gup (gup (gup (gup (gup (gup (gup (gup (gup (gcp I0 24 34 (0 : Int32).toNatClampNeg (0 : Int32).toNatClampNeg (6 : Int32).toNatClampNeg) 34 6 0) 34 7 0) 19 1 1) 19 1 2) 19 1 3) 19 1 4) 19 1 5) 19 1 6) 19 1 7) 19 1 8) 19 1 9) 19 1 10) 19 1 11) (fun r h => r = some (.int 0) ∧ h = (SH0, RF0, (gup (gup (gup (gup (gup (gup (gup (gup (gup (gup (gup (gup (gup (gcp I0 24 34 (0 : Int32).toNatClampNeg (0 : Int32).toNatClampNeg (6 : Int32).toNatClampNeg) 34 6 0) 34 7 0) 19 1 1) 19 1 2) 19 1 3) 19 1 4) 19 1 5) 19 1 6) 19 1 7) 19 1 8) 19 1 9) 19 1 10) 19 1 11))) := by
  refine G_iload_n (pc := 0) rfl dX1_isKey_0 ?_
  refine G_if_lt (pc := 1) (tgt := 16) (by decide) dX1_isKey_1 (fun _ => ?_) (fun z => absurd (by decide) z)
  refine G_iconst (pc := 16) (v := 0) (by decide) dX1_isKey_16 ?_
  exact G_zret (pc := 17) (Nat.le_of_ble_eq_true rfl) (Nat.le_of_ble_eq_true rfl) rfl (by decide) dX1_isKey_17 ⟨rfl, rfl⟩
set_option maxRecDepth 100000 in
set_option maxHeartbeats 4000000 in
theorem s401_X1_tell  (d : Nat)   : G (d + 1) mX1_tell 0 0 0 0 0 (gent 5 [.ref 19, .int 0]) [] SH0 RF0 (gup (gup (gup (gup (gup (gup (gup (gup (gup (gup (gup (gup (gup (gcp I0 24 34 (0 : Int32).toNatClampNeg (0 : Int32).toNatClampNeg (6 : Int32).toNatClampNeg) 34 6 0) 34 7 0) 19 1 1) 19 1 2) 19 1 3) 19 1 4) 19 1 5) 19 1 6) 19 1 7) 19 1 8) 19 1 9) 19 1 10) 19 1 11) (fun r h => r = some (.int 0) ∧ h = (SH0, RF0, (gup (gup (gup (gup (gup (gup (gup (gup (gup (gup (gup (gup (gup (gcp I0 24 34 (0 : Int32).toNatClampNeg (0 : Int32).toNatClampNeg (6 : Int32).toNatClampNeg) 34 6 0) 34 7 0) 19 1 1) 19 1 2) 19 1 3) 19 1 4) 19 1 5) 19 1 6) 19 1 7) 19 1 8) 19 1 9) 19 1 10) 19 1 11))) := by
  refine G_iload_n (pc := 0) rfl dX1_tell_0 ?_
  refine G_iconst (pc := 1) (v := 1) (by decide) dX1_tell_1 ?_
  refine G_isub (pc := 2) (z := (-1)) (by decide) dX1_tell_2 ?_
  refine G_istore_n (pc := 3) (L1 := [some (.ref 19), some (.int 0), some (.int (-1)), none, none]) rfl rfl (by decide) dX1_tell_3 ?_
  refine G_aload_n (pc := 4) rfl dX1_tell_4 ?_
  refine G_iload_n (pc := 5) rfl dX1_tell_5 ?_
  refine G_callV (pc := 6) (mc1 := 0) (ms1 := 0) (ci := 1) (mj := mX1_isKey) (vs := [_]) dX1_tell_6 rfl rfl cm_X1_isKey wf_68 wf_13 wf_14 rfl (Nat.le_of_ble_eq_true rfl) (Nat.le_of_ble_eq_true rfl) (Nat.le_of_ble_eq_true rfl) (Nat.le_of_ble_eq_true rfl) (s402_X1_isKey  d  ) ?_
  rintro _ _ ⟨rfl, rfl⟩
  dsimp only [Option.toList, List.cons_append, List.nil_append]
  refine G_if_eq (pc := 9) (tgt := 20) (by decide) dX1_tell_9 (fun _ => ?_) (fun z => absurd (by decide) z)
  refine G_iconst (pc := 20) (v := 0) (by decide) dX1_tell_20 ?_
  exact G_iret (pc := 21) (Nat.le_of_ble_eq_true rfl) (Nat.le_of_ble_eq_true rfl) rfl dX1_tell_21 ⟨rfl, rfl⟩
set_option maxRecDepth 100000 in
set_option maxHeartbeats 4000000 in
theorem s403_X1_melt  (d : Nat)   : G (d) mX1_melt 0 0 0 0 0 (gent 3 [.ref 19]) [] SH0 RF0 (gup (gup (gup (gup (gup (gup (gup (gup (gup (gup (gup (gup (gup (gcp I0 24 34 (0 : Int32).toNatClampNeg (0 : Int32).toNatClampNeg (6 : Int32).toNatClampNeg) 34 6 0) 34 7 0) 19 1 1) 19 1 2) 19 1 3) 19 1 4) 19 1 5) 19 1 6) 19 1 7) 19 1 8) 19 1 9) 19 1 10) 19 1 11) (fun r h => r = some (.int 0) ∧ h = (SH0, RF0, (gup (gup (gup (gup (gup (gup (gup (gup (gup (gup (gup (gup (gup (gup (gcp I0 24 34 (0 : Int32).toNatClampNeg (0 : Int32).toNatClampNeg (6 : Int32).toNatClampNeg) 34 6 0) 34 7 0) 19 1 1) 19 1 2) 19 1 3) 19 1 4) 19 1 5) 19 1 6) 19 1 7) 19 1 8) 19 1 9) 19 1 10) 19 1 11) 19 1 12))) := by
  refine G_iconst (pc := 0) (v := 0) (by decide) dX1_melt_0 ?_
  refine G_istore_n (pc := 1) (L1 := [some (.ref 19), some (.int 0), none]) rfl rfl (by decide) dX1_melt_1 ?_
  refine G_iconst (pc := 2) (v := 0) (by decide) dX1_melt_2 ?_
  refine G_istore_n (pc := 3) (L1 := [some (.ref 19), some (.int 0), some (.int 0)]) rfl rfl (by decide) dX1_melt_3 ?_
  refine G_iload_n (pc := 4) rfl dX1_melt_4 ?_
  refine G_aload_n (pc := 5) rfl dX1_melt_5 ?_
  refine G_getI (pc := 6) (v := 0) (ci := 1) (j := 8) rfl rfl lk_RX1_72 rfl rfl dX1_melt_6 ?_
  refine G_icmp_ge (pc := 9) (tgt := 60) (by decide) dX1_melt_9 (fun _ => ?_) (fun z => absurd (by decide) z)
  refine G_aload_n (pc := 60) rfl dX1_melt_60 ?_
  refine G_dup (pc := 61) rfl dX1_melt_61 ?_
  refine G_getI (pc := 62) (v := 11) (ci := 1) (j := 1) rfl rfl lk_RX1_60 rfl rfl dX1_melt_62 ?_
  refine G_iconst (pc := 65) (v := 1) (by decide) dX1_melt_65 ?_
  refine G_iadd (pc := 66) (z := 12) (by decide) dX1_melt_66 ?_
  refine G_putI (pc := 67) (ci := 1) (j := 1) rfl lk_RX1_60 rfl rfl rfl trivial dX1_melt_67 ?_
  refine G_iload_n (pc := 70) rfl dX1_melt_70 ?_
  exact G_iret (pc := 71) (Nat.le_of_ble_eq_true rfl) (Nat.le_of_ble_eq_true rfl) rfl dX1_melt_71 ⟨rfl, rfl⟩
set_option maxRecDepth 100000 in
set_option maxHeartbeats 4000000 in
theorem s404_X1_isOver  (d : Nat)   : G (d) mX1_isOver 0 0 0 0 0 (gent 1 [.ref 19]) [] SH0 RF0 (gup (gup (gup (gup (gup (gup (gup (gup (gup (gup (gup (gup (gup (gup (gcp I0 24 34 (0 : Int32).toNatClampNeg (0 : Int32).toNatClampNeg (6 : Int32).toNatClampNeg) 34 6 0) 34 7 0) 19 1 1) 19 1 2) 19 1 3) 19 1 4) 19 1 5) 19 1 6) 19 1 7) 19 1 8) 19 1 9) 19 1 10) 19 1 11) 19 1 12) (fun r h => r = some (.int 1) ∧ h = (SH0, RF0, (gup (gup (gup (gup (gup (gup (gup (gup (gup (gup (gup (gup (gup (gup (gcp I0 24 34 (0 : Int32).toNatClampNeg (0 : Int32).toNatClampNeg (6 : Int32).toNatClampNeg) 34 6 0) 34 7 0) 19 1 1) 19 1 2) 19 1 3) 19 1 4) 19 1 5) 19 1 6) 19 1 7) 19 1 8) 19 1 9) 19 1 10) 19 1 11) 19 1 12))) := by
  refine G_aload_n (pc := 0) rfl dX1_isOver_0 ?_
  refine G_getI (pc := 1) (v := 12) (ci := 1) (j := 1) rfl rfl lk_RX1_60 rfl rfl dX1_isOver_1 ?_
  refine G_aload_n (pc := 4) rfl dX1_isOver_4 ?_
  refine G_getI (pc := 5) (v := 12) (ci := 1) (j := 2) rfl rfl lk_RX1_9 rfl rfl dX1_isOver_5 ?_
  refine G_icmp_lt (pc := 8) (tgt := 15) (by decide) dX1_isOver_8 (fun z => absurd z (by decide)) (fun _ => ?_)
  refine G_iconst (pc := 11) (v := 1) (by decide) dX1_isOver_11 ?_
  refine G_goto (pc := 12) (tgt := 16) (by decide) dX1_isOver_12 ?_
  exact G_zret (pc := 16) (Nat.le_of_ble_eq_true rfl) (Nat.le_of_ble_eq_true rfl) rfl (by decide) dX1_isOver_16 ⟨rfl, rfl⟩
set_option maxRecDepth 100000 in
set_option maxHeartbeats 4000000 in
theorem s405_X1_goRest  (d : Nat)   : G (d) mX1_goRest 0 0 0 0 0 (gent 4 [.ref 19, .int 0]) [] SH0 RF0 (gup (gup (gcp I0 24 34 (0 : Int32).toNatClampNeg (0 : Int32).toNatClampNeg (6 : Int32).toNatClampNeg) 34 6 0) 34 7 0) (fun r h => r = some (.int 0) ∧ h = (SH0, RF0, (gup (gup (gcp I0 24 34 (0 : Int32).toNatClampNeg (0 : Int32).toNatClampNeg (6 : Int32).toNatClampNeg) 34 6 0) 34 7 0))) := by
  refine G_iconst (pc := 0) (v := 0) (by decide) dX1_goRest_0 ?_
  refine G_istore_n (pc := 1) (L1 := [some (.ref 19), some (.int 0), some (.int 0), none]) rfl rfl (by decide) dX1_goRest_1 ?_
  refine G_iconst (pc := 2) (v := 0) (by decide) dX1_goRest_2 ?_
  refine G_istore_n (pc := 3) (L1 := [some (.ref 19), some (.int 0), some (.int 0), some (.int 0)]) rfl rfl (by decide) dX1_goRest_3 ?_
  refine G_iload_n (pc := 4) rfl dX1_goRest_4 ?_
  refine G_iload_n (pc := 5) rfl dX1_goRest_5 ?_
  refine G_icmp_ge (pc := 6) (tgt := 38) (by decide) dX1_goRest_6 (fun _ => ?_) (fun z => absurd (by decide) z)
  refine G_iload_n (pc := 38) rfl dX1_goRest_38 ?_
  exact G_iret (pc := 39) (Nat.le_of_ble_eq_true rfl) (Nat.le_of_ble_eq_true rfl) rfl dX1_goRest_39 ⟨rfl, rfl⟩
set_option maxRecDepth 100000 in
set_option maxHeartbeats 4000000 in
theorem s406_X1_goRest  (d : Nat)   : G (d + 2) mX1_goRest 0 0 0 0 0 (gent 4 [.ref 19, .int 1]) [] SH0 RF0 (gup (gup (gcp I0 24 34 (0 : Int32).toNatClampNeg (0 : Int32).toNatClampNeg (6 : Int32).toNatClampNeg) 34 6 0) 34 7 0) (fun r h => r = some (.int 0) ∧ h = (SH0, RF0, (gup (gup (gup (gcp I0 24 34 (0 : Int32).toNatClampNeg (0 : Int32).toNatClampNeg (6 : Int32).toNatClampNeg) 34 6 0) 34 7 0) 19 1 1))) := by
  refine G_iconst (pc := 0) (v := 0) (by decide) dX1_goRest_0 ?_
  refine G_istore_n (pc := 1) (L1 := [some (.ref 19), some (.int 1), some (.int 0), none]) rfl rfl (by decide) dX1_goRest_1 ?_
  refine G_iconst (pc := 2) (v := 0) (by decide) dX1_goRest_2 ?_
  refine G_istore_n (pc := 3) (L1 := [some (.ref 19), some (.int 1), some (.int 0), some (.int 0)]) rfl rfl (by decide) dX1_goRest_3 ?_
  refine G_iload_n (pc := 4) rfl dX1_goRest_4 ?_
  refine G_iload_n (pc := 5) rfl dX1_goRest_5 ?_
  refine G_icmp_ge (pc := 6) (tgt := 38) (by decide) dX1_goRest_6 (fun z => absurd z (by decide)) (fun _ => ?_)
  refine G_aload_n (pc := 9) rfl dX1_goRest_9 ?_
  refine G_callV (pc := 10) (mc1 := 0) (ms1 := 0) (ci := 1) (mj := mX1_isOver) (vs := []) dX1_goRest_10 rfl rfl cm_X1_isOver wf_172 wf_17 wf_18 rfl (Nat.le_of_ble_eq_true rfl) (Nat.le_of_ble_eq_true rfl) (Nat.le_of_ble_eq_true rfl) (Nat.le_of_ble_eq_true rfl) (s348_X1_isOver  (d + 1)  ) ?_
  rintro _ _ ⟨rfl, rfl⟩
  dsimp only [Option.toList, List.cons_append, List.nil_append]
  refine G_if_ne (pc := 13) (tgt := 38) (by decide) dX1_goRest_13 (fun z => absurd (by decide) z) (fun _ => ?_)
  refine G_iload_n (pc := 16) rfl dX1_goRest_16 ?_
  refine G_aload_n (pc := 17) rfl dX1_goRest_17 ?_
  refine G_aload_n (pc := 18) rfl dX1_goRest_18 ?_
  refine G_callV (pc := 19) (mc1 := 0) (ms1 := 0) (ci := 1) (mj := mX1_restAct) (vs := []) dX1_goRest_19 rfl rfl cm_X1_restAct wf_173 wf_66 wf_67 rfl (Nat.le_of_ble_eq_true rfl) (Nat.le_of_ble_eq_true rfl) (Nat.le_of_ble_eq_true rfl) (Nat.le_of_ble_eq_true rfl) (s349_X1_restAct  (d + 1)  ) ?_
  rintro _ _ ⟨rfl, rfl⟩
  dsimp only [Option.toList, List.cons_append, List.nil_append]
  refine G_callV (pc := 22) (mc1 := 0) (ms1 := 0) (ci := 1) (mj := mX1_tell) (vs := [_]) dX1_goRest_22 rfl rfl cm_X1_tell wf_69 wf_71 wf_72 rfl (Nat.le_of_ble_eq_true rfl) (Nat.le_of_ble_eq_true rfl) (Nat.le_of_ble_eq_true rfl) (Nat.le_of_ble_eq_true rfl) (s143_X1_tell  d  ) ?_
  rintro _ _ ⟨rfl, rfl⟩
  dsimp only [Option.toList, List.cons_append, List.nil_append]
  refine G_aload_n (pc := 25) rfl dX1_goRest_25 ?_
  refine G_callV (pc := 26) (mc1 := 0) (ms1 := 0) (ci := 1) (mj := mX1_melt) (vs := []) dX1_goRest_26 rfl rfl cm_X1_melt wf_73 wf_75 wf_76 rfl (Nat.le_of_ble_eq_true rfl) (Nat.le_of_ble_eq_true rfl) (Nat.le_of_ble_eq_true rfl) (Nat.le_of_ble_eq_true rfl) (s145_X1_melt  (d + 1)  ) ?_
  rintro _ _ ⟨rfl, rfl⟩
  dsimp only [Option.toList, List.cons_append, List.nil_append]
  refine G_iadd (pc := 29) (z := 0) (by decide) dX1_goRest_29 ?_
  refine G_iadd (pc := 30) (z := 0) (by decide) dX1_goRest_30 ?_
  refine G_istore_n (pc := 31) (L1 := [some (.ref 19), some (.int 1), some (.int 0), some (.int 0)]) rfl rfl (by decide) dX1_goRest_31 ?_
  refine G_iinc (pc := 32) (v := 1) (w := 1) (L1 := [some (.ref 19), some (.int 1), some (.int 0), some (.int 1)]) (by decide) rfl rfl (by decide) rfl (by decide) dX1_goRest_32 ?_
  refine G_goto (pc := 35) (tgt := 4) (by decide) dX1_goRest_35 ?_
  refine G_iload_n (pc := 4) rfl dX1_goRest_4 ?_
  refine G_iload_n (pc := 5) rfl dX1_goRest_5 ?_
  refine G_icmp_ge (pc := 6) (tgt := 38) (by decide) dX1_goRest_6 (fun _ => ?_) (fun z => absurd (by decide) z)
  refine G_iload_n (pc := 38) rfl dX1_goRest_38 ?_
  exact G_iret (pc := 39) (Nat.le_of_ble_eq_true rfl) (Nat.le_of_ble_eq_true rfl) rfl dX1_goRest_39 ⟨rfl, rfl⟩
set_option maxRecDepth 100000 in
set_option maxHeartbeats 4000000 in
theorem s407_X1_goRest  (d : Nat)   : G (d + 2) mX1_goRest 0 0 0 0 0 (gent 4 [.ref 19, .int 2]) [] SH0 RF0 (gup (gup (gcp I0 24 34 (0 : Int32).toNatClampNeg (0 : Int32).toNatClampNeg (6 : Int32).toNatClampNeg) 34 6 0) 34 7 0) (fun r h => r = some (.int 0) ∧ h = (SH0, RF0, (gup (gup (gup (gup (gcp I0 24 34 (0 : Int32).toNatClampNeg (0 : Int32).toNatClampNeg (6 : Int32).toNatClampNeg) 34 6 0) 34 7 0) 19 1 1) 19 1 2))) := by
  refine G_iconst (pc := 0) (v := 0) (by decide) dX1_goRest_0 ?_
  refine G_istore_n (pc := 1) (L1 := [some (.ref 19), some (.int 2), some (.int 0), none]) rfl rfl (by decide) dX1_goRest_1 ?_
  refine G_iconst (pc := 2) (v := 0) (by decide) dX1_goRest_2 ?_
  refine G_istore_n (pc := 3) (L1 := [some (.ref 19), some (.int 2), some (.int 0), some (.int 0)]) rfl rfl (by decide) dX1_goRest_3 ?_
  refine G_iload_n (pc := 4) rfl dX1_goRest_4 ?_
  refine G_iload_n (pc := 5) rfl dX1_goRest_5 ?_
  refine G_icmp_ge (pc := 6) (tgt := 38) (by decide) dX1_goRest_6 (fun z => absurd z (by decide)) (fun _ => ?_)
  refine G_aload_n (pc := 9) rfl dX1_goRest_9 ?_
  refine G_callV (pc := 10) (mc1 := 0) (ms1 := 0) (ci := 1) (mj := mX1_isOver) (vs := []) dX1_goRest_10 rfl rfl cm_X1_isOver wf_172 wf_17 wf_18 rfl (Nat.le_of_ble_eq_true rfl) (Nat.le_of_ble_eq_true rfl) (Nat.le_of_ble_eq_true rfl) (Nat.le_of_ble_eq_true rfl) (s348_X1_isOver  (d + 1)  ) ?_
  rintro _ _ ⟨rfl, rfl⟩
  dsimp only [Option.toList, List.cons_append, List.nil_append]
  refine G_if_ne (pc := 13) (tgt := 38) (by decide) dX1_goRest_13 (fun z => absurd (by decide) z) (fun _ => ?_)
  refine G_iload_n (pc := 16) rfl dX1_goRest_16 ?_
  refine G_aload_n (pc := 17) rfl dX1_goRest_17 ?_
  refine G_aload_n (pc := 18) rfl dX1_goRest_18 ?_
  refine G_callV (pc := 19) (mc1 := 0) (ms1 := 0) (ci := 1) (mj := mX1_restAct) (vs := []) dX1_goRest_19 rfl rfl cm_X1_restAct wf_173 wf_66 wf_67 rfl (Nat.le_of_ble_eq_true rfl) (Nat.le_of_ble_eq_true rfl) (Nat.le_of_ble_eq_true rfl) (Nat.le_of_ble_eq_true rfl) (s349_X1_restAct  (d + 1)  ) ?_
  rintro _ _ ⟨rfl, rfl⟩
  dsimp only [Option.toList, List.cons_append, List.nil_append]
  refine G_callV (pc := 22) (mc1 := 0) (ms1 := 0) (ci := 1) (mj := mX1_tell) (vs := [_]) dX1_goRest_22 rfl rfl cm_X1_tell wf_69 wf_71 wf_72 rfl (Nat.le_of_ble_eq_true rfl) (Nat.le_of_ble_eq_true rfl) (Nat.le_of_ble_eq_true rfl) (Nat.le_of_ble_eq_true rfl) (s143_X1_tell  d  ) ?_
  rintro _ _ ⟨rfl, rfl⟩
  dsimp only [Option.toList, List.cons_append, List.nil_append]
  refine G_aload_n (pc := 25) rfl dX1_goRest_25 ?_
  refine G_callV (pc := 26) (mc1 := 0) (ms1 := 0) (ci := 1) (mj := mX1_melt) (vs := []) dX1_goRest_26 rfl rfl cm_X1_melt wf_73 wf_75 wf_76 rfl (Nat.le_of_ble_eq_true rfl) (Nat.le_of_ble_eq_true rfl) (Nat.le_of_ble_eq_true rfl) (Nat.le_of_ble_eq_true rfl) (s145_X1_melt  (d + 1)  ) ?_
  rintro _ _ ⟨rfl, rfl⟩
  dsimp only [Option.toList, List.cons_append, List.nil_append]
  refine G_iadd (pc := 29) (z := 0) (by decide) dX1_goRest_29 ?_
  refine G_iadd (pc := 30) (z := 0) (by decide) dX1_goRest_30 ?_
  refine G_istore_n (pc := 31) (L1 := [some (.ref 19), some (.int 2), some (.int 0), some (.int 0)]) rfl rfl (by decide) dX1_goRest_31 ?_
  refine G_iinc (pc := 32) (v := 1) (w := 1) (L1 := [some (.ref 19), some (.int 2), some (.int 0), some (.int 1)]) (by decide) rfl rfl (by decide) rfl (by decide) dX1_goRest_32 ?_
  refine G_goto (pc := 35) (tgt := 4) (by decide) dX1_goRest_35 ?_
  refine G_iload_n (pc := 4) rfl dX1_goRest_4 ?_
  refine G_iload_n (pc := 5) rfl dX1_goRest_5 ?_
  refine G_icmp_ge (pc := 6) (tgt := 38) (by decide) dX1_goRest_6 (fun z => absurd z (by decide)) (fun _ => ?_)
  refine G_aload_n (pc := 9) rfl dX1_goRest_9 ?_
  refine G_callV (pc := 10) (mc1 := 0) (ms1 := 0) (ci := 1) (mj := mX1_isOver) (vs := []) dX1_goRest_10 rfl rfl cm_X1_isOver wf_172 wf_17 wf_18 rfl (Nat.le_of_ble_eq_true rfl) (Nat.le_of_ble_eq_true rfl) (Nat.le_of_ble_eq_true rfl) (Nat.le_of_ble_eq_true rfl) (s153_X1_isOver  (d + 1)  ) ?_
  rintro _ _ ⟨rfl, rfl⟩
  dsimp only [Option.toList, List.cons_append, List.nil_append]
  refine G_if_ne (pc := 13) (tgt := 38) (by decide) dX1_goRest_13 (fun z => absurd (by decide) z) (fun _ => ?_)
  refine G_iload_n (pc := 16) rfl dX1_goRest_16 ?_
  refine G_aload_n (pc := 17) rfl dX1_goRest_17 ?_
  refine G_aload_n (pc := 18) rfl dX1_goRest_18 ?_
  refine G_callV (pc := 19) (mc1 := 0) (ms1 := 0) (ci := 1) (mj := mX1_restAct) (vs := []) dX1_goRest_19 rfl rfl cm_X1_restAct wf_173 wf_66 wf_67 rfl (Nat.le_of_ble_eq_true rfl) (Nat.le_of_ble_eq_true rfl) (Nat.le_of_ble_eq_true rfl) (Nat.le_of_ble_eq_true rfl) (s350_X1_restAct  (d + 1)  ) ?_
  rintro _ _ ⟨rfl, rfl⟩
  dsimp only [Option.toList, List.cons_append, List.nil_append]
  refine G_callV (pc := 22) (mc1 := 0) (ms1 := 0) (ci := 1) (mj := mX1_tell) (vs := [_]) dX1_goRest_22 rfl rfl cm_X1_tell wf_69 wf_71 wf_72 rfl (Nat.le_of_ble_eq_true rfl) (Nat.le_of_ble_eq_true rfl) (Nat.le_of_ble_eq_true rfl) (Nat.le_of_ble_eq_true rfl) (s351_X1_tell  d  ) ?_
  rintro _ _ ⟨rfl, rfl⟩
  dsimp only [Option.toList, List.cons_append, List.nil_append]
  refine G_aload_n (pc := 25) rfl dX1_goRest_25 ?_
  refine G_callV (pc := 26) (mc1 := 0) (ms1 := 0) (ci := 1) (mj := mX1_melt) (vs := []) dX1_goRest_26 rfl rfl cm_X1_melt wf_73 wf_75 wf_76 rfl (Nat.le_of_ble_eq_true rfl) (Nat.le_of_ble_eq_true rfl) (Nat.le_of_ble_eq_true rfl) (Nat.le_of_ble_eq_true rfl) (s353_X1_melt  (d + 1)  ) ?_
  rintro _ _ ⟨rfl, rfl⟩
  dsimp only [Option.toList, List.cons_append, List.nil_append]
  refine G_iadd (pc := 29) (z := 0) (by decide) dX1_goRest_29 ?_
  refine G_iadd (pc := 30) (z := 0) (by decide) dX1_goRest_30 ?_
  refine G_istore_n (pc := 31) (L1 := [some (.ref 19), some (.int 2), some (.int 0), some (.int 1)]) rfl rfl (by decide) dX1_goRest_31 ?_
  refine G_iinc (pc := 32) (v := 1) (w := 2) (L1 := [some (.ref 19), some (.int 2), some (.int 0), some (.int 2)]) (by decide) rfl rfl (by decide) rfl (by decide) dX1_goRest_32 ?_
  refine G_goto (pc := 35) (tgt := 4) (by decide) dX1_goRest_35 ?_
  refine G_iload_n (pc := 4) rfl dX1_goRest_4 ?_
  refine G_iload_n (pc := 5) rfl dX1_goRest_5 ?_
  refine G_icmp_ge (pc := 6) (tgt := 38) (by decide) dX1_goRest_6 (fun _ => ?_) (fun z => absurd (by decide) z)
  refine G_iload_n (pc := 38) rfl dX1_goRest_38 ?_
  exact G_iret (pc := 39) (Nat.le_of_ble_eq_true rfl) (Nat.le_of_ble_eq_true rfl) rfl dX1_goRest_39 ⟨rfl, rfl⟩
set_option maxRecDepth 100000 in
set_option maxHeartbeats 4000000 in
theorem s408_X1_restore  (d : Nat)   : G (d + 1) mX1_restore 0 0 0 0 0 (gent 3 [.ref 19, .int 0]) [] SH0 RF0 (gup (gup (gup (gup (gcp I0 24 34 (0 : Int32).toNatClampNeg (0 : Int32).toNatClampNeg (6 : Int32).toNatClampNeg) 34 6 0) 34 7 0) 19 1 1) 19 1 2) (fun r h => r = none ∧ h = (SH0, RF0, (gup (gup (gcp (gup (gup (gup (gup (gcp I0 24 34 (0 : Int32).toNatClampNeg (0 : Int32).toNatClampNeg (6 : Int32).toNatClampNeg) 34 6 0) 34 7 0) 19 1 1) 19 1 2) 34 24 (0 : Int32).toNatClampNeg (0 : Int32).toNatClampNeg (6 : Int32).toNatClampNeg) 19 9 0) 19 1 0))) := by
  refine G_iload_n (pc := 0) rfl dX1_restore_0 ?_
  refine G_bipush (pc := 1) (v := 8) (by decide) dX1_restore_1 ?_
  refine G_imul (pc := 3) (z := 0) (by decide) dX1_restore_3 ?_
  refine G_istore_n (pc := 4) (L1 := [some (.ref 19), some (.int 0), some (.int 0)]) rfl rfl (by decide) dX1_restore_4 ?_
  refine G_aload_n (pc := 5) rfl dX1_restore_5 ?_
  refine G_getR (pc := 6) (r := 34) (ci := 1) (j := 18) rfl lk_RX1_53 rfl rfl rfl dX1_restore_6 ?_
  refine G_iload_n (pc := 9) rfl dX1_restore_9 ?_
  refine G_aload_n (pc := 10) rfl dX1_restore_10 ?_
  refine G_getR (pc := 11) (r := 24) (ci := 1) (j := 11) rfl lk_RX1_31 rfl rfl rfl dX1_restore_11 ?_
  refine G_iconst (pc := 14) (v := 0) (by decide) dX1_restore_14 ?_
  refine G_bipush (pc := 15) (v := 6) (by decide) dX1_restore_15 ?_
  refine G_copy (pc := 17) (x := 34) (y := 24) rfl rfl (by decide) (by decide) (by decide) (by decide) (by decide) wf_50 wf_51 wf_52 wf_53 (Nat.le_of_ble_eq_true rfl) dX1_restore_17 ?_
  refine G_aload_n (pc := 20) rfl dX1_restore_20 ?_
  refine G_aload_n (pc := 21) rfl dX1_restore_21 ?_
  refine G_getR (pc := 22) (r := 34) (ci := 1) (j := 18) rfl lk_RX1_53 rfl rfl rfl dX1_restore_22 ?_
  refine G_iload_n (pc := 25) rfl dX1_restore_25 ?_
  refine G_bipush (pc := 26) (v := 6) (by decide) dX1_restore_26 ?_
  refine G_iadd (pc := 28) (z := 6) (by decide) dX1_restore_28 ?_
  refine G_iald (pc := 29) (jj := 6) (v := 0) (by decide) rfl rfl (by unfold vp_in; decide) dX1_restore_29 ?_
  refine G_putI (pc := 30) (ci := 1) (j := 9) rfl lk_RX1_75 rfl rfl rfl trivial dX1_restore_30 ?_
  refine G_aload_n (pc := 33) rfl dX1_restore_33 ?_
  refine G_aload_n (pc := 34) rfl dX1_restore_34 ?_
  refine G_getR (pc := 35) (r := 34) (ci := 1) (j := 18) rfl lk_RX1_53 rfl rfl rfl dX1_restore_35 ?_
  refine G_iload_n (pc := 38) rfl dX1_restore_38 ?_
  refine G_bipush (pc := 39) (v := 6) (by decide) dX1_restore_39 ?_
  refine G_iadd (pc := 41) (z := 6) (by decide) dX1_restore_41 ?_
  refine G_iconst (pc := 42) (v := 1) (by decide) dX1_restore_42 ?_
  refine G_iadd (pc := 43) (z := 7) (by decide) dX1_restore_43 ?_
  refine G_iald (pc := 44) (jj := 7) (v := 0) (by decide) rfl rfl (by unfold vp_in; decide) dX1_restore_44 ?_
  refine G_putI (pc := 45) (ci := 1) (j := 1) rfl lk_RX1_60 rfl rfl rfl trivial dX1_restore_45 ?_
  exact G_vret (pc := 48) (Nat.le_of_ble_eq_true rfl) (Nat.le_of_ble_eq_true rfl) rfl dX1_restore_48 ⟨rfl, rfl⟩
set_option maxRecDepth 100000 in
set_option maxHeartbeats 4000000 in
theorem s409_X1_goRest  (d : Nat)   : G (d + 2) mX1_goRest 0 0 0 0 0 (gent 4 [.ref 19, .int 3]) [] SH0 RF0 (gup (gup (gcp I0 24 34 (0 : Int32).toNatClampNeg (0 : Int32).toNatClampNeg (6 : Int32).toNatClampNeg) 34 6 0) 34 7 0) (fun r h => r = some (.int 0) ∧ h = (SH0, RF0, (gup (gup (gup (gup (gup (gcp I0 24 34 (0 : Int32).toNatClampNeg (0 : Int32).toNatClampNeg (6 : Int32).toNatClampNeg) 34 6 0) 34 7 0) 19 1 1) 19 1 2) 19 1 3))) := by
  refine G_iconst (pc := 0) (v := 0) (by decide) dX1_goRest_0 ?_
  refine G_istore_n (pc := 1) (L1 := [some (.ref 19), some (.int 3), some (.int 0), none]) rfl rfl (by decide) dX1_goRest_1 ?_
  refine G_iconst (pc := 2) (v := 0) (by decide) dX1_goRest_2 ?_
  refine G_istore_n (pc := 3) (L1 := [some (.ref 19), some (.int 3), some (.int 0), some (.int 0)]) rfl rfl (by decide) dX1_goRest_3 ?_
  refine G_iload_n (pc := 4) rfl dX1_goRest_4 ?_
  refine G_iload_n (pc := 5) rfl dX1_goRest_5 ?_
  refine G_icmp_ge (pc := 6) (tgt := 38) (by decide) dX1_goRest_6 (fun z => absurd z (by decide)) (fun _ => ?_)
  refine G_aload_n (pc := 9) rfl dX1_goRest_9 ?_
  refine G_callV (pc := 10) (mc1 := 0) (ms1 := 0) (ci := 1) (mj := mX1_isOver) (vs := []) dX1_goRest_10 rfl rfl cm_X1_isOver wf_172 wf_17 wf_18 rfl (Nat.le_of_ble_eq_true rfl) (Nat.le_of_ble_eq_true rfl) (Nat.le_of_ble_eq_true rfl) (Nat.le_of_ble_eq_true rfl) (s348_X1_isOver  (d + 1)  ) ?_
  rintro _ _ ⟨rfl, rfl⟩
  dsimp only [Option.toList, List.cons_append, List.nil_append]
  refine G_if_ne (pc := 13) (tgt := 38) (by decide) dX1_goRest_13 (fun z => absurd (by decide) z) (fun _ => ?_)
  refine G_iload_n (pc := 16) rfl dX1_goRest_16 ?_
  refine G_aload_n (pc := 17) rfl dX1_goRest_17 ?_
  refine G_aload_n (pc := 18) rfl dX1_goRest_18 ?_
  refine G_callV (pc := 19) (mc1 := 0) (ms1 := 0) (ci := 1) (mj := mX1_restAct) (vs := []) dX1_goRest_19 rfl rfl cm_X1_restAct wf_173 wf_66 wf_67 rfl (Nat.le_of_ble_eq_true rfl) (Nat.le_of_ble_eq_true rfl) (Nat.le_of_ble_eq_true rfl) (Nat.le_of_ble_eq_true rfl) (s349_X1_restAct  (d + 1)  ) ?_
  rintro _ _ ⟨rfl, rfl⟩
  dsimp only [Option.toList, List.cons_append, List.nil_append]
  refine G_callV (pc := 22) (mc1 := 0) (ms1 := 0) (ci := 1) (mj := mX1_tell) (vs := [_]) dX1_goRest_22 rfl rfl cm_X1_tell wf_69 wf_71 wf_72 rfl (Nat.le_of_ble_eq_true rfl) (Nat.le_of_ble_eq_true rfl) (Nat.le_of_ble_eq_true rfl) (Nat.le_of_ble_eq_true rfl) (s143_X1_tell  d  ) ?_
  rintro _ _ ⟨rfl, rfl⟩
  dsimp only [Option.toList, List.cons_append, List.nil_append]
  refine G_aload_n (pc := 25) rfl dX1_goRest_25 ?_
  refine G_callV (pc := 26) (mc1 := 0) (ms1 := 0) (ci := 1) (mj := mX1_melt) (vs := []) dX1_goRest_26 rfl rfl cm_X1_melt wf_73 wf_75 wf_76 rfl (Nat.le_of_ble_eq_true rfl) (Nat.le_of_ble_eq_true rfl) (Nat.le_of_ble_eq_true rfl) (Nat.le_of_ble_eq_true rfl) (s145_X1_melt  (d + 1)  ) ?_
  rintro _ _ ⟨rfl, rfl⟩
  dsimp only [Option.toList, List.cons_append, List.nil_append]
  refine G_iadd (pc := 29) (z := 0) (by decide) dX1_goRest_29 ?_
  refine G_iadd (pc := 30) (z := 0) (by decide) dX1_goRest_30 ?_
  refine G_istore_n (pc := 31) (L1 := [some (.ref 19), some (.int 3), some (.int 0), some (.int 0)]) rfl rfl (by decide) dX1_goRest_31 ?_
  refine G_iinc (pc := 32) (v := 1) (w := 1) (L1 := [some (.ref 19), some (.int 3), some (.int 0), some (.int 1)]) (by decide) rfl rfl (by decide) rfl (by decide) dX1_goRest_32 ?_
  refine G_goto (pc := 35) (tgt := 4) (by decide) dX1_goRest_35 ?_
  refine G_iload_n (pc := 4) rfl dX1_goRest_4 ?_
  refine G_iload_n (pc := 5) rfl dX1_goRest_5 ?_
  refine G_icmp_ge (pc := 6) (tgt := 38) (by decide) dX1_goRest_6 (fun z => absurd z (by decide)) (fun _ => ?_)
  refine G_aload_n (pc := 9) rfl dX1_goRest_9 ?_
  refine G_callV (pc := 10) (mc1 := 0) (ms1 := 0) (ci := 1) (mj := mX1_isOver) (vs := []) dX1_goRest_10 rfl rfl cm_X1_isOver wf_172 wf_17 wf_18 rfl (Nat.le_of_ble_eq_true rfl) (Nat.le_of_ble_eq_true rfl) (Nat.le_of_ble_eq_true rfl) (Nat.le_of_ble_eq_true rfl) (s153_X1_isOver  (d + 1)  ) ?_
  rintro _ _ ⟨rfl, rfl⟩
  dsimp only [Option.toList, List.cons_append, List.nil_append]
  refine G_if_ne (pc := 13) (tgt := 38) (by decide) dX1_goRest_13 (fun z => absurd (by decide) z) (fun _ => ?_)
  refine G_iload_n (pc := 16) rfl dX1_goRest_16 ?_
  refine G_aload_n (pc := 17) rfl dX1_goRest_17 ?_
  refine G_aload_n (pc := 18) rfl dX1_goRest_18 ?_
  refine G_callV (pc := 19) (mc1 := 0) (ms1 := 0) (ci := 1) (mj := mX1_restAct) (vs := []) dX1_goRest_19 rfl rfl cm_X1_restAct wf_173 wf_66 wf_67 rfl (Nat.le_of_ble_eq_true rfl) (Nat.le_of_ble_eq_true rfl) (Nat.le_of_ble_eq_true rfl) (Nat.le_of_ble_eq_true rfl) (s350_X1_restAct  (d + 1)  ) ?_
  rintro _ _ ⟨rfl, rfl⟩
  dsimp only [Option.toList, List.cons_append, List.nil_append]
  refine G_callV (pc := 22) (mc1 := 0) (ms1 := 0) (ci := 1) (mj := mX1_tell) (vs := [_]) dX1_goRest_22 rfl rfl cm_X1_tell wf_69 wf_71 wf_72 rfl (Nat.le_of_ble_eq_true rfl) (Nat.le_of_ble_eq_true rfl) (Nat.le_of_ble_eq_true rfl) (Nat.le_of_ble_eq_true rfl) (s351_X1_tell  d  ) ?_
  rintro _ _ ⟨rfl, rfl⟩
  dsimp only [Option.toList, List.cons_append, List.nil_append]
  refine G_aload_n (pc := 25) rfl dX1_goRest_25 ?_
  refine G_callV (pc := 26) (mc1 := 0) (ms1 := 0) (ci := 1) (mj := mX1_melt) (vs := []) dX1_goRest_26 rfl rfl cm_X1_melt wf_73 wf_75 wf_76 rfl (Nat.le_of_ble_eq_true rfl) (Nat.le_of_ble_eq_true rfl) (Nat.le_of_ble_eq_true rfl) (Nat.le_of_ble_eq_true rfl) (s353_X1_melt  (d + 1)  ) ?_
  rintro _ _ ⟨rfl, rfl⟩
  dsimp only [Option.toList, List.cons_append, List.nil_append]
  refine G_iadd (pc := 29) (z := 0) (by decide) dX1_goRest_29 ?_
  refine G_iadd (pc := 30) (z := 0) (by decide) dX1_goRest_30 ?_
  refine G_istore_n (pc := 31) (L1 := [some (.ref 19), some (.int 3), some (.int 0), some (.int 1)]) rfl rfl (by decide) dX1_goRest_31 ?_
  refine G_iinc (pc := 32) (v := 1) (w := 2) (L1 := [some (.ref 19), some (.int 3), some (.int 0), some (.int 2)]) (by decide) rfl rfl (by decide) rfl (by decide) dX1_goRest_32 ?_
  refine G_goto (pc := 35) (tgt := 4) (by decide) dX1_goRest_35 ?_
  refine G_iload_n (pc := 4) rfl dX1_goRest_4 ?_
  refine G_iload_n (pc := 5) rfl dX1_goRest_5 ?_
  refine G_icmp_ge (pc := 6) (tgt := 38) (by decide) dX1_goRest_6 (fun z => absurd z (by decide)) (fun _ => ?_)
  refine G_aload_n (pc := 9) rfl dX1_goRest_9 ?_
  refine G_callV (pc := 10) (mc1 := 0) (ms1 := 0) (ci := 1) (mj := mX1_isOver) (vs := []) dX1_goRest_10 rfl rfl cm_X1_isOver wf_172 wf_17 wf_18 rfl (Nat.le_of_ble_eq_true rfl) (Nat.le_of_ble_eq_true rfl) (Nat.le_of_ble_eq_true rfl) (Nat.le_of_ble_eq_true rfl) (s354_X1_isOver  (d + 1)  ) ?_
  rintro _ _ ⟨rfl, rfl⟩
  dsimp only [Option.toList, List.cons_append, List.nil_append]
  refine G_if_ne (pc := 13) (tgt := 38) (by decide) dX1_goRest_13 (fun z => absurd (by decide) z) (fun _ => ?_)
  refine G_iload_n (pc := 16) rfl dX1_goRest_16 ?_
  refine G_aload_n (pc := 17) rfl dX1_goRest_17 ?_
  refine G_aload_n (pc := 18) rfl dX1_goRest_18 ?_
  refine G_callV (pc := 19) (mc1 := 0) (ms1 := 0) (ci := 1) (mj := mX1_restAct) (vs := []) dX1_goRest_19 rfl rfl cm_X1_restAct wf_173 wf_66 wf_67 rfl (Nat.le_of_ble_eq_true rfl) (Nat.le_of_ble_eq_true rfl) (Nat.le_of_ble_eq_true rfl) (Nat.le_of_ble_eq_true rfl) (s355_X1_restAct  (d + 1)  ) ?_
  rintro _ _ ⟨rfl, rfl⟩
  dsimp only [Option.toList, List.cons_append, List.nil_append]
  refine G_callV (pc := 22) (mc1 := 0) (ms1 := 0) (ci := 1) (mj := mX1_tell) (vs := [_]) dX1_goRest_22 rfl rfl cm_X1_tell wf_69 wf_71 wf_72 rfl (Nat.le_of_ble_eq_true rfl) (Nat.le_of_ble_eq_true rfl) (Nat.le_of_ble_eq_true rfl) (Nat.le_of_ble_eq_true rfl) (s356_X1_tell  d  ) ?_
  rintro _ _ ⟨rfl, rfl⟩
  dsimp only [Option.toList, List.cons_append, List.nil_append]
  refine G_aload_n (pc := 25) rfl dX1_goRest_25 ?_
  refine G_callV (pc := 26) (mc1 := 0) (ms1 := 0) (ci := 1) (mj := mX1_melt) (vs := []) dX1_goRest_26 rfl rfl cm_X1_melt wf_73 wf_75 wf_76 rfl (Nat.le_of_ble_eq_true rfl) (Nat.le_of_ble_eq_true rfl) (Nat.le_of_ble_eq_true rfl) (Nat.le_of_ble_eq_true rfl) (s358_X1_melt  (d + 1)  ) ?_
  rintro _ _ ⟨rfl, rfl⟩
  dsimp only [Option.toList, List.cons_append, List.nil_append]
  refine G_iadd (pc := 29) (z := 0) (by decide) dX1_goRest_29 ?_
  refine G_iadd (pc := 30) (z := 0) (by decide) dX1_goRest_30 ?_
  refine G_istore_n (pc := 31) (L1 := [some (.ref 19), some (.int 3), some (.int 0), some (.int 2)]) rfl rfl (by decide) dX1_goRest_31 ?_
  refine G_iinc (pc := 32) (v := 1) (w := 3) (L1 := [some (.ref 19), some (.int 3), some (.int 0), some (.int 3)]) (by decide) rfl rfl (by decide) rfl (by decide) dX1_goRest_32 ?_
  refine G_goto (pc := 35) (tgt := 4) (by decide) dX1_goRest_35 ?_
  refine G_iload_n (pc := 4) rfl dX1_goRest_4 ?_
  refine G_iload_n (pc := 5) rfl dX1_goRest_5 ?_
  refine G_icmp_ge (pc := 6) (tgt := 38) (by decide) dX1_goRest_6 (fun _ => ?_) (fun z => absurd (by decide) z)
  refine G_iload_n (pc := 38) rfl dX1_goRest_38 ?_
  exact G_iret (pc := 39) (Nat.le_of_ble_eq_true rfl) (Nat.le_of_ble_eq_true rfl) rfl dX1_goRest_39 ⟨rfl, rfl⟩
set_option maxRecDepth 100000 in
set_option maxHeartbeats 4000000 in
theorem s410_X1_restore  (d : Nat)   : G (d + 1) mX1_restore 0 0 0 0 0 (gent 3 [.ref 19, .int 0]) [] SH0 RF0 (gup (gup (gup (gup (gup (gcp I0 24 34 (0 : Int32).toNatClampNeg (0 : Int32).toNatClampNeg (6 : Int32).toNatClampNeg) 34 6 0) 34 7 0) 19 1 1) 19 1 2) 19 1 3) (fun r h => r = none ∧ h = (SH0, RF0, (gup (gup (gcp (gup (gup (gup (gup (gup (gcp I0 24 34 (0 : Int32).toNatClampNeg (0 : Int32).toNatClampNeg (6 : Int32).toNatClampNeg) 34 6 0) 34 7 0) 19 1 1) 19 1 2) 19 1 3) 34 24 (0 : Int32).toNatClampNeg (0 : Int32).toNatClampNeg (6 : Int32).toNatClampNeg) 19 9 0) 19 1 0))) := by
  refine G_iload_n (pc := 0) rfl dX1_restore_0 ?_
  refine G_bipush (pc := 1) (v := 8) (by decide) dX1_restore_1 ?_
  refine G_imul (pc := 3) (z := 0) (by decide) dX1_restore_3 ?_
  refine G_istore_n (pc := 4) (L1 := [some (.ref 19), some (.int 0), some (.int 0)]) rfl rfl (by decide) dX1_restore_4 ?_
  refine G_aload_n (pc := 5) rfl dX1_restore_5 ?_
  refine G_getR (pc := 6) (r := 34) (ci := 1) (j := 18) rfl lk_RX1_53 rfl rfl rfl dX1_restore_6 ?_
  refine G_iload_n (pc := 9) rfl dX1_restore_9 ?_
  refine G_aload_n (pc := 10) rfl dX1_restore_10 ?_
  refine G_getR (pc := 11) (r := 24) (ci := 1) (j := 11) rfl lk_RX1_31 rfl rfl rfl dX1_restore_11 ?_
  refine G_iconst (pc := 14) (v := 0) (by decide) dX1_restore_14 ?_
  refine G_bipush (pc := 15) (v := 6) (by decide) dX1_restore_15 ?_
  refine G_copy (pc := 17) (x := 34) (y := 24) rfl rfl (by decide) (by decide) (by decide) (by decide) (by decide) wf_50 wf_51 wf_52 wf_53 (Nat.le_of_ble_eq_true rfl) dX1_restore_17 ?_
  refine G_aload_n (pc := 20) rfl dX1_restore_20 ?_
  refine G_aload_n (pc := 21) rfl dX1_restore_21 ?_
  refine G_getR (pc := 22) (r := 34) (ci := 1) (j := 18) rfl lk_RX1_53 rfl rfl rfl dX1_restore_22 ?_
  refine G_iload_n (pc := 25) rfl dX1_restore_25 ?_
  refine G_bipush (pc := 26) (v := 6) (by decide) dX1_restore_26 ?_
  refine G_iadd (pc := 28) (z := 6) (by decide) dX1_restore_28 ?_
  refine G_iald (pc := 29) (jj := 6) (v := 0) (by decide) rfl rfl (by unfold vp_in; decide) dX1_restore_29 ?_
  refine G_putI (pc := 30) (ci := 1) (j := 9) rfl lk_RX1_75 rfl rfl rfl trivial dX1_restore_30 ?_
  refine G_aload_n (pc := 33) rfl dX1_restore_33 ?_
  refine G_aload_n (pc := 34) rfl dX1_restore_34 ?_
  refine G_getR (pc := 35) (r := 34) (ci := 1) (j := 18) rfl lk_RX1_53 rfl rfl rfl dX1_restore_35 ?_
  refine G_iload_n (pc := 38) rfl dX1_restore_38 ?_
  refine G_bipush (pc := 39) (v := 6) (by decide) dX1_restore_39 ?_
  refine G_iadd (pc := 41) (z := 6) (by decide) dX1_restore_41 ?_
  refine G_iconst (pc := 42) (v := 1) (by decide) dX1_restore_42 ?_
  refine G_iadd (pc := 43) (z := 7) (by decide) dX1_restore_43 ?_
  refine G_iald (pc := 44) (jj := 7) (v := 0) (by decide) rfl rfl (by unfold vp_in; decide) dX1_restore_44 ?_
  refine G_putI (pc := 45) (ci := 1) (j := 1) rfl lk_RX1_60 rfl rfl rfl trivial dX1_restore_45 ?_
  exact G_vret (pc := 48) (Nat.le_of_ble_eq_true rfl) (Nat.le_of_ble_eq_true rfl) rfl dX1_restore_48 ⟨rfl, rfl⟩
set_option maxRecDepth 100000 in
set_option maxHeartbeats 4000000 in
theorem s411_X1_goRest  (d : Nat)   : G (d + 2) mX1_goRest 0 0 0 0 0 (gent 4 [.ref 19, .int 4]) [] SH0 RF0 (gup (gup (gcp I0 24 34 (0 : Int32).toNatClampNeg (0 : Int32).toNatClampNeg (6 : Int32).toNatClampNeg) 34 6 0) 34 7 0) (fun r h => r = some (.int 0) ∧ h = (SH0, RF0, (gup (gup (gup (gup (gup (gup (gcp I0 24 34 (0 : Int32).toNatClampNeg (0 : Int32).toNatClampNeg (6 : Int32).toNatClampNeg) 34 6 0) 34 7 0) 19 1 1) 19 1 2) 19 1 3) 19 1 4))) := by
  refine G_iconst (pc := 0) (v := 0) (by decide) dX1_goRest_0 ?_
  refine G_istore_n (pc := 1) (L1 := [some (.ref 19), some (.int 4), some (.int 0), none]) rfl rfl (by decide) dX1_goRest_1 ?_
  refine G_iconst (pc := 2) (v := 0) (by decide) dX1_goRest_2 ?_
  refine G_istore_n (pc := 3) (L1 := [some (.ref 19), some (.int 4), some (.int 0), some (.int 0)]) rfl rfl (by decide) dX1_goRest_3 ?_
  refine G_iload_n (pc := 4) rfl dX1_goRest_4 ?_
  refine G_iload_n (pc := 5) rfl dX1_goRest_5 ?_
  refine G_icmp_ge (pc := 6) (tgt := 38) (by decide) dX1_goRest_6 (fun z => absurd z (by decide)) (fun _ => ?_)
  refine G_aload_n (pc := 9) rfl dX1_goRest_9 ?_
  refine G_callV (pc := 10) (mc1 := 0) (ms1 := 0) (ci := 1) (mj := mX1_isOver) (vs := []) dX1_goRest_10 rfl rfl cm_X1_isOver wf_172 wf_17 wf_18 rfl (Nat.le_of_ble_eq_true rfl) (Nat.le_of_ble_eq_true rfl) (Nat.le_of_ble_eq_true rfl) (Nat.le_of_ble_eq_true rfl) (s348_X1_isOver  (d + 1)  ) ?_
  rintro _ _ ⟨rfl, rfl⟩
  dsimp only [Option.toList, List.cons_append, List.nil_append]
  refine G_if_ne (pc := 13) (tgt := 38) (by decide) dX1_goRest_13 (fun z => absurd (by decide) z) (fun _ => ?_)
  refine G_iload_n (pc := 16) rfl dX1_goRest_16 ?_
  refine G_aload_n (pc := 17) rfl dX1_goRest_17 ?_
  refine G_aload_n (pc := 18) rfl dX1_goRest_18 ?_
  refine G_callV (pc := 19) (mc1 := 0) (ms1 := 0) (ci := 1) (mj := mX1_restAct) (vs := []) dX1_goRest_19 rfl rfl cm_X1_restAct wf_173 wf_66 wf_67 rfl (Nat.le_of_ble_eq_true rfl) (Nat.le_of_ble_eq_true rfl) (Nat.le_of_ble_eq_true rfl) (Nat.le_of_ble_eq_true rfl) (s349_X1_restAct  (d + 1)  ) ?_
  rintro _ _ ⟨rfl, rfl⟩
  dsimp only [Option.toList, List.cons_append, List.nil_append]
  refine G_callV (pc := 22) (mc1 := 0) (ms1 := 0) (ci := 1) (mj := mX1_tell) (vs := [_]) dX1_goRest_22 rfl rfl cm_X1_tell wf_69 wf_71 wf_72 rfl (Nat.le_of_ble_eq_true rfl) (Nat.le_of_ble_eq_true rfl) (Nat.le_of_ble_eq_true rfl) (Nat.le_of_ble_eq_true rfl) (s143_X1_tell  d  ) ?_
  rintro _ _ ⟨rfl, rfl⟩
  dsimp only [Option.toList, List.cons_append, List.nil_append]
  refine G_aload_n (pc := 25) rfl dX1_goRest_25 ?_
  refine G_callV (pc := 26) (mc1 := 0) (ms1 := 0) (ci := 1) (mj := mX1_melt) (vs := []) dX1_goRest_26 rfl rfl cm_X1_melt wf_73 wf_75 wf_76 rfl (Nat.le_of_ble_eq_true rfl) (Nat.le_of_ble_eq_true rfl) (Nat.le_of_ble_eq_true rfl) (Nat.le_of_ble_eq_true rfl) (s145_X1_melt  (d + 1)  ) ?_
  rintro _ _ ⟨rfl, rfl⟩
  dsimp only [Option.toList, List.cons_append, List.nil_append]
  refine G_iadd (pc := 29) (z := 0) (by decide) dX1_goRest_29 ?_
  refine G_iadd (pc := 30) (z := 0) (by decide) dX1_goRest_30 ?_
  refine G_istore_n (pc := 31) (L1 := [some (.ref 19), some (.int 4), some (.int 0), some (.int 0)]) rfl rfl (by decide) dX1_goRest_31 ?_
  refine G_iinc (pc := 32) (v := 1) (w := 1) (L1 := [some (.ref 19), some (.int 4), some (.int 0), some (.int 1)]) (by decide) rfl rfl (by decide) rfl (by decide) dX1_goRest_32 ?_
  refine G_goto (pc := 35) (tgt := 4) (by decide) dX1_goRest_35 ?_
  refine G_iload_n (pc := 4) rfl dX1_goRest_4 ?_
  refine G_iload_n (pc := 5) rfl dX1_goRest_5 ?_
  refine G_icmp_ge (pc := 6) (tgt := 38) (by decide) dX1_goRest_6 (fun z => absurd z (by decide)) (fun _ => ?_)
  refine G_aload_n (pc := 9) rfl dX1_goRest_9 ?_
  refine G_callV (pc := 10) (mc1 := 0) (ms1 := 0) (ci := 1) (mj := mX1_isOver) (vs := []) dX1_goRest_10 rfl rfl cm_X1_isOver wf_172 wf_17 wf_18 rfl (Nat.le_of_ble_eq_true rfl) (Nat.le_of_ble_eq_true rfl) (Nat.le_of_ble_eq_true rfl) (Nat.le_of_ble_eq_true rfl) (s153_X1_isOver  (d + 1)  ) ?_
  rintro _ _ ⟨rfl, rfl⟩
  dsimp only [Option.toList, List.cons_append, List.nil_append]
  refine G_if_ne (pc := 13) (tgt := 38) (by decide) dX1_goRest_13 (fun z => absurd (by decide) z) (fun _ => ?_)
  refine G_iload_n (pc := 16) rfl dX1_goRest_16 ?_
  refine G_aload_n (pc := 17) rfl dX1_goRest_17 ?_
  refine G_aload_n (pc := 18) rfl dX1_goRest_18 ?_
  refine G_callV (pc := 19) (mc1 := 0) (ms1 := 0) (ci := 1) (mj := mX1_restAct) (vs := []) dX1_goRest_19 rfl rfl cm_X1_restAct wf_173 wf_66 wf_67 rfl (Nat.le_of_ble_eq_true rfl) (Nat.le_of_ble_eq_true rfl) (Nat.le_of_ble_eq_true rfl) (Nat.le_of_ble_eq_true rfl) (s350_X1_restAct  (d + 1)  ) ?_
  rintro _ _ ⟨rfl, rfl⟩
  dsimp only [Option.toList, List.cons_append, List.nil_append]
  refine G_callV (pc := 22) (mc1 := 0) (ms1 := 0) (ci := 1) (mj := mX1_tell) (vs := [_]) dX1_goRest_22 rfl rfl cm_X1_tell wf_69 wf_71 wf_72 rfl (Nat.le_of_ble_eq_true rfl) (Nat.le_of_ble_eq_true rfl) (Nat.le_of_ble_eq_true rfl) (Nat.le_of_ble_eq_true rfl) (s351_X1_tell  d  ) ?_
  rintro _ _ ⟨rfl, rfl⟩
  dsimp only [Option.toList, List.cons_append, List.nil_append]
  refine G_aload_n (pc := 25) rfl dX1_goRest_25 ?_
  refine G_callV (pc := 26) (mc1 := 0) (ms1 := 0) (ci := 1) (mj := mX1_melt) (vs := []) dX1_goRest_26 rfl rfl cm_X1_melt wf_73 wf_75 wf_76 rfl (Nat.le_of_ble_eq_true rfl) (Nat.le_of_ble_eq_true rfl) (Nat.le_of_ble_eq_true rfl) (Nat.le_of_ble_eq_true rfl) (s353_X1_melt  (d + 1)  ) ?_
  rintro _ _ ⟨rfl, rfl⟩
  dsimp only [Option.toList, List.cons_append, List.nil_append]
  refine G_iadd (pc := 29) (z := 0) (by decide) dX1_goRest_29 ?_
  refine G_iadd (pc := 30) (z := 0) (by decide) dX1_goRest_30 ?_
  refine G_istore_n (pc := 31) (L1 := [some (.ref 19), some (.int 4), some (.int 0), some (.int 1)]) rfl rfl (by decide) dX1_goRest_31 ?_
  refine G_iinc (pc := 32) (v := 1) (w := 2) (L1 := [some (.ref 19), some (.int 4), some (.int 0), some (.int 2)]) (by decide) rfl rfl (by decide) rfl (by decide) dX1_goRest_32 ?_
  refine G_goto (pc := 35) (tgt := 4) (by decide) dX1_goRest_35 ?_
  refine G_iload_n (pc := 4) rfl dX1_goRest_4 ?_
  refine G_iload_n (pc := 5) rfl dX1_goRest_5 ?_
  refine G_icmp_ge (pc := 6) (tgt := 38) (by decide) dX1_goRest_6 (fun z => absurd z (by decide)) (fun _ => ?_)
  refine G_aload_n (pc := 9) rfl dX1_goRest_9 ?_
  refine G_callV (pc := 10) (mc1 := 0) (ms1 := 0) (ci := 1) (mj := mX1_isOver) (vs := []) dX1_goRest_10 rfl rfl cm_X1_isOver wf_172 wf_17 wf_18 rfl (Nat.le_of_ble_eq_true rfl) (Nat.le_of_ble_eq_true rfl) (Nat.le_of_ble_eq_true rfl) (Nat.le_of_ble_eq_true rfl) (s354_X1_isOver  (d + 1)  ) ?_
  rintro _ _ ⟨rfl, rfl⟩
  dsimp only [Option.toList, List.cons_append, List.nil_append]
  refine G_if_ne (pc := 13) (tgt := 38) (by decide) dX1_goRest_13 (fun z => absurd (by decide) z) (fun _ => ?_)
  refine G_iload_n (pc := 16) rfl dX1_goRest_16 ?_
  refine G_aload_n (pc := 17) rfl dX1_goRest_17 ?_
  refine G_aload_n (pc := 18) rfl dX1_goRest_18 ?_
  refine G_callV (pc := 19) (mc1 := 0) (ms1 := 0) (ci := 1) (mj := mX1_restAct) (vs := []) dX1_goRest_19 rfl rfl cm_X1_restAct wf_173 wf_66 wf_67 rfl (Nat.le_of_ble_eq_true rfl) (Nat.le_of_ble_eq_true rfl) (Nat.le_of_ble_eq_true rfl) (Nat.le_of_ble_eq_true rfl) (s355_X1_restAct  (d + 1)  ) ?_
  rintro _ _ ⟨rfl, rfl⟩
  dsimp only [Option.toList, List.cons_append, List.nil_append]
  refine G_callV (pc := 22) (mc1 := 0) (ms1 := 0) (ci := 1) (mj := mX1_tell) (vs := [_]) dX1_goRest_22 rfl rfl cm_X1_tell wf_69 wf_71 wf_72 rfl (Nat.le_of_ble_eq_true rfl) (Nat.le_of_ble_eq_true rfl) (Nat.le_of_ble_eq_true rfl) (Nat.le_of_ble_eq_true rfl) (s356_X1_tell  d  ) ?_
  rintro _ _ ⟨rfl, rfl⟩
  dsimp only [Option.toList, List.cons_append, List.nil_append]
  refine G_aload_n (pc := 25) rfl dX1_goRest_25 ?_
  refine G_callV (pc := 26) (mc1 := 0) (ms1 := 0) (ci := 1) (mj := mX1_melt) (vs := []) dX1_goRest_26 rfl rfl cm_X1_melt wf_73 wf_75 wf_76 rfl (Nat.le_of_ble_eq_true rfl) (Nat.le_of_ble_eq_true rfl) (Nat.le_of_ble_eq_true rfl) (Nat.le_of_ble_eq_true rfl) (s358_X1_melt  (d + 1)  ) ?_
  rintro _ _ ⟨rfl, rfl⟩
  dsimp only [Option.toList, List.cons_append, List.nil_append]
  refine G_iadd (pc := 29) (z := 0) (by decide) dX1_goRest_29 ?_
  refine G_iadd (pc := 30) (z := 0) (by decide) dX1_goRest_30 ?_
  refine G_istore_n (pc := 31) (L1 := [some (.ref 19), some (.int 4), some (.int 0), some (.int 2)]) rfl rfl (by decide) dX1_goRest_31 ?_
  refine G_iinc (pc := 32) (v := 1) (w := 3) (L1 := [some (.ref 19), some (.int 4), some (.int 0), some (.int 3)]) (by decide) rfl rfl (by decide) rfl (by decide) dX1_goRest_32 ?_
  refine G_goto (pc := 35) (tgt := 4) (by decide) dX1_goRest_35 ?_
  refine G_iload_n (pc := 4) rfl dX1_goRest_4 ?_
  refine G_iload_n (pc := 5) rfl dX1_goRest_5 ?_
  refine G_icmp_ge (pc := 6) (tgt := 38) (by decide) dX1_goRest_6 (fun z => absurd z (by decide)) (fun _ => ?_)
  refine G_aload_n (pc := 9) rfl dX1_goRest_9 ?_
  refine G_callV (pc := 10) (mc1 := 0) (ms1 := 0) (ci := 1) (mj := mX1_isOver) (vs := []) dX1_goRest_10 rfl rfl cm_X1_isOver wf_172 wf_17 wf_18 rfl (Nat.le_of_ble_eq_true rfl) (Nat.le_of_ble_eq_true rfl) (Nat.le_of_ble_eq_true rfl) (Nat.le_of_ble_eq_true rfl) (s359_X1_isOver  (d + 1)  ) ?_
  rintro _ _ ⟨rfl, rfl⟩
  dsimp only [Option.toList, List.cons_append, List.nil_append]
  refine G_if_ne (pc := 13) (tgt := 38) (by decide) dX1_goRest_13 (fun z => absurd (by decide) z) (fun _ => ?_)
  refine G_iload_n (pc := 16) rfl dX1_goRest_16 ?_
  refine G_aload_n (pc := 17) rfl dX1_goRest_17 ?_
  refine G_aload_n (pc := 18) rfl dX1_goRest_18 ?_
  refine G_callV (pc := 19) (mc1 := 0) (ms1 := 0) (ci := 1) (mj := mX1_restAct) (vs := []) dX1_goRest_19 rfl rfl cm_X1_restAct wf_173 wf_66 wf_67 rfl (Nat.le_of_ble_eq_true rfl) (Nat.le_of_ble_eq_true rfl) (Nat.le_of_ble_eq_true rfl) (Nat.le_of_ble_eq_true rfl) (s360_X1_restAct  (d + 1)  ) ?_
  rintro _ _ ⟨rfl, rfl⟩
  dsimp only [Option.toList, List.cons_append, List.nil_append]
  refine G_callV (pc := 22) (mc1 := 0) (ms1 := 0) (ci := 1) (mj := mX1_tell) (vs := [_]) dX1_goRest_22 rfl rfl cm_X1_tell wf_69 wf_71 wf_72 rfl (Nat.le_of_ble_eq_true rfl) (Nat.le_of_ble_eq_true rfl) (Nat.le_of_ble_eq_true rfl) (Nat.le_of_ble_eq_true rfl) (s361_X1_tell  d  ) ?_
  rintro _ _ ⟨rfl, rfl⟩
  dsimp only [Option.toList, List.cons_append, List.nil_append]
  refine G_aload_n (pc := 25) rfl dX1_goRest_25 ?_
  refine G_callV (pc := 26) (mc1 := 0) (ms1 := 0) (ci := 1) (mj := mX1_melt) (vs := []) dX1_goRest_26 rfl rfl cm_X1_melt wf_73 wf_75 wf_76 rfl (Nat.le_of_ble_eq_true rfl) (Nat.le_of_ble_eq_true rfl) (Nat.le_of_ble_eq_true rfl) (Nat.le_of_ble_eq_true rfl) (s363_X1_melt  (d + 1)  ) ?_
  rintro _ _ ⟨rfl, rfl⟩
  dsimp only [Option.toList, List.cons_append, List.nil_append]
  refine G_iadd (pc := 29) (z := 0) (by decide) dX1_goRest_29 ?_
  refine G_iadd (pc := 30) (z := 0) (by decide) dX1_goRest_30 ?_
  refine G_istore_n (pc := 31) (L1 := [some (.ref 19), some (.int 4), some (.int 0), some (.int 3)]) rfl rfl (by decide) dX1_goRest_31 ?_
  refine G_iinc (pc := 32) (v := 1) (w := 4) (L1 := [some (.ref 19), some (.int 4), some (.int 0), some (.int 4)]) (by decide) rfl rfl (by decide) rfl (by decide) dX1_goRest_32 ?_
  refine G_goto (pc := 35) (tgt := 4) (by decide) dX1_goRest_35 ?_
  refine G_iload_n (pc := 4) rfl dX1_goRest_4 ?_
  refine G_iload_n (pc := 5) rfl dX1_goRest_5 ?_
  refine G_icmp_ge (pc := 6) (tgt := 38) (by decide) dX1_goRest_6 (fun _ => ?_) (fun z => absurd (by decide) z)
  refine G_iload_n (pc := 38) rfl dX1_goRest_38 ?_
  exact G_iret (pc := 39) (Nat.le_of_ble_eq_true rfl) (Nat.le_of_ble_eq_true rfl) rfl dX1_goRest_39 ⟨rfl, rfl⟩
set_option maxRecDepth 100000 in
set_option maxHeartbeats 4000000 in
theorem s412_X1_restore  (d : Nat)   : G (d + 1) mX1_restore 0 0 0 0 0 (gent 3 [.ref 19, .int 0]) [] SH0 RF0 (gup (gup (gup (gup (gup (gup (gcp I0 24 34 (0 : Int32).toNatClampNeg (0 : Int32).toNatClampNeg (6 : Int32).toNatClampNeg) 34 6 0) 34 7 0) 19 1 1) 19 1 2) 19 1 3) 19 1 4) (fun r h => r = none ∧ h = (SH0, RF0, (gup (gup (gcp (gup (gup (gup (gup (gup (gup (gcp I0 24 34 (0 : Int32).toNatClampNeg (0 : Int32).toNatClampNeg (6 : Int32).toNatClampNeg) 34 6 0) 34 7 0) 19 1 1) 19 1 2) 19 1 3) 19 1 4) 34 24 (0 : Int32).toNatClampNeg (0 : Int32).toNatClampNeg (6 : Int32).toNatClampNeg) 19 9 0) 19 1 0))) := by
  refine G_iload_n (pc := 0) rfl dX1_restore_0 ?_
  refine G_bipush (pc := 1) (v := 8) (by decide) dX1_restore_1 ?_
  refine G_imul (pc := 3) (z := 0) (by decide) dX1_restore_3 ?_
  refine G_istore_n (pc := 4) (L1 := [some (.ref 19), some (.int 0), some (.int 0)]) rfl rfl (by decide) dX1_restore_4 ?_
  refine G_aload_n (pc := 5) rfl dX1_restore_5 ?_
  refine G_getR (pc := 6) (r := 34) (ci := 1) (j := 18) rfl lk_RX1_53 rfl rfl rfl dX1_restore_6 ?_
  refine G_iload_n (pc := 9) rfl dX1_restore_9 ?_
  refine G_aload_n (pc := 10) rfl dX1_restore_10 ?_
  refine G_getR (pc := 11) (r := 24) (ci := 1) (j := 11) rfl lk_RX1_31 rfl rfl rfl dX1_restore_11 ?_
  refine G_iconst (pc := 14) (v := 0) (by decide) dX1_restore_14 ?_
  refine G_bipush (pc := 15) (v := 6) (by decide) dX1_restore_15 ?_
  refine G_copy (pc := 17) (x := 34) (y := 24) rfl rfl (by decide) (by decide) (by decide) (by decide) (by decide) wf_50 wf_51 wf_52 wf_53 (Nat.le_of_ble_eq_true rfl) dX1_restore_17 ?_
  refine G_aload_n (pc := 20) rfl dX1_restore_20 ?_
  refine G_aload_n (pc := 21) rfl dX1_restore_21 ?_
  refine G_getR (pc := 22) (r := 34) (ci := 1) (j := 18) rfl lk_RX1_53 rfl rfl rfl dX1_restore_22 ?_
  refine G_iload_n (pc := 25) rfl dX1_restore_25 ?_
  refine G_bipush (pc := 26) (v := 6) (by decide) dX1_restore_26 ?_
  refine G_iadd (pc := 28) (z := 6) (by decide) dX1_restore_28 ?_
  refine G_iald (pc := 29) (jj := 6) (v := 0) (by decide) rfl rfl (by unfold vp_in; decide) dX1_restore_29 ?_
  refine G_putI (pc := 30) (ci := 1) (j := 9) rfl lk_RX1_75 rfl rfl rfl trivial dX1_restore_30 ?_
  refine G_aload_n (pc := 33) rfl dX1_restore_33 ?_
  refine G_aload_n (pc := 34) rfl dX1_restore_34 ?_
  refine G_getR (pc := 35) (r := 34) (ci := 1) (j := 18) rfl lk_RX1_53 rfl rfl rfl dX1_restore_35 ?_
  refine G_iload_n (pc := 38) rfl dX1_restore_38 ?_
  refine G_bipush (pc := 39) (v := 6) (by decide) dX1_restore_39 ?_
  refine G_iadd (pc := 41) (z := 6) (by decide) dX1_restore_41 ?_
  refine G_iconst (pc := 42) (v := 1) (by decide) dX1_restore_42 ?_
  refine G_iadd (pc := 43) (z := 7) (by decide) dX1_restore_43 ?_
  refine G_iald (pc := 44) (jj := 7) (v := 0) (by decide) rfl rfl (by unfold vp_in; decide) dX1_restore_44 ?_
  refine G_putI (pc := 45) (ci := 1) (j := 1) rfl lk_RX1_60 rfl rfl rfl trivial dX1_restore_45 ?_
  exact G_vret (pc := 48) (Nat.le_of_ble_eq_true rfl) (Nat.le_of_ble_eq_true rfl) rfl dX1_restore_48 ⟨rfl, rfl⟩
set_option maxRecDepth 100000 in
set_option maxHeartbeats 4000000 in
theorem s413_X1_goRest  (d : Nat)   : G (d + 2) mX1_goRest 0 0 0 0 0 (gent 4 [.ref 19, .int 5]) [] SH0 RF0 (gup (gup (gcp I0 24 34 (0 : Int32).toNatClampNeg (0 : Int32).toNatClampNeg (6 : Int32).toNatClampNeg) 34 6 0) 34 7 0) (fun r h => r = some (.int 0) ∧ h = (SH0, RF0, (gup (gup (gup (gup (gup (gup (gup (gcp I0 24 34 (0 : Int32).toNatClampNeg (0 : Int32).toNatClampNeg (6 : Int32).toNatClampNeg) 34 6 0) 34 7 0) 19 1 1) 19 1 2) 19 1 3) 19 1 4) 19 1 5))) := by
  refine G_iconst (pc := 0) (v := 0) (by decide) dX1_goRest_0 ?_
  refine G_istore_n (pc := 1) (L1 := [some (.ref 19), some (.int 5), some (.int 0), none]) rfl rfl (by decide) dX1_goRest_1 ?_
  refine G_iconst (pc := 2) (v := 0) (by decide) dX1_goRest_2 ?_
  refine G_istore_n (pc := 3) (L1 := [some (.ref 19), some (.int 5), some (.int 0), some (.int 0)]) rfl rfl (by decide) dX1_goRest_3 ?_
  refine G_iload_n (pc := 4) rfl dX1_goRest_4 ?_
  refine G_iload_n (pc := 5) rfl dX1_goRest_5 ?_
  refine G_icmp_ge (pc := 6) (tgt := 38) (by decide) dX1_goRest_6 (fun z => absurd z (by decide)) (fun _ => ?_)
  refine G_aload_n (pc := 9) rfl dX1_goRest_9 ?_
  refine G_callV (pc := 10) (mc1 := 0) (ms1 := 0) (ci := 1) (mj := mX1_isOver) (vs := []) dX1_goRest_10 rfl rfl cm_X1_isOver wf_172 wf_17 wf_18 rfl (Nat.le_of_ble_eq_true rfl) (Nat.le_of_ble_eq_true rfl) (Nat.le_of_ble_eq_true rfl) (Nat.le_of_ble_eq_true rfl) (s348_X1_isOver  (d + 1)  ) ?_
  rintro _ _ ⟨rfl, rfl⟩
  dsimp only [Option.toList, List.cons_append, List.nil_append]
  refine G_if_ne (pc := 13) (tgt := 38) (by decide) dX1_goRest_13 (fun z => absurd (by decide) z) (fun _ => ?_)
  refine G_iload_n (pc := 16) rfl dX1_goRest_16 ?_
  refine G_aload_n (pc := 17) rfl dX1_goRest_17 ?_
  refine G_aload_n (pc := 18) rfl dX1_goRest_18 ?_
  refine G_callV (pc := 19) (mc1 := 0) (ms1 := 0) (ci := 1) (mj := mX1_restAct) (vs := []) dX1_goRest_19 rfl rfl cm_X1_restAct wf_173 wf_66 wf_67 rfl (Nat.le_of_ble_eq_true rfl) (Nat.le_of_ble_eq_true rfl) (Nat.le_of_ble_eq_true rfl) (Nat.le_of_ble_eq_true rfl) (s349_X1_restAct  (d + 1)  ) ?_
  rintro _ _ ⟨rfl, rfl⟩
  dsimp only [Option.toList, List.cons_append, List.nil_append]
  refine G_callV (pc := 22) (mc1 := 0) (ms1 := 0) (ci := 1) (mj := mX1_tell) (vs := [_]) dX1_goRest_22 rfl rfl cm_X1_tell wf_69 wf_71 wf_72 rfl (Nat.le_of_ble_eq_true rfl) (Nat.le_of_ble_eq_true rfl) (Nat.le_of_ble_eq_true rfl) (Nat.le_of_ble_eq_true rfl) (s143_X1_tell  d  ) ?_
  rintro _ _ ⟨rfl, rfl⟩
  dsimp only [Option.toList, List.cons_append, List.nil_append]
  refine G_aload_n (pc := 25) rfl dX1_goRest_25 ?_
  refine G_callV (pc := 26) (mc1 := 0) (ms1 := 0) (ci := 1) (mj := mX1_melt) (vs := []) dX1_goRest_26 rfl rfl cm_X1_melt wf_73 wf_75 wf_76 rfl (Nat.le_of_ble_eq_true rfl) (Nat.le_of_ble_eq_true rfl) (Nat.le_of_ble_eq_true rfl) (Nat.le_of_ble_eq_true rfl) (s145_X1_melt  (d + 1)  ) ?_
  rintro _ _ ⟨rfl, rfl⟩
  dsimp only [Option.toList, List.cons_append, List.nil_append]
  refine G_iadd (pc := 29) (z := 0) (by decide) dX1_goRest_29 ?_
  refine G_iadd (pc := 30) (z := 0) (by decide) dX1_goRest_30 ?_
  refine G_istore_n (pc := 31) (L1 := [some (.ref 19), some (.int 5), some (.int 0), some (.int 0)]) rfl rfl (by decide) dX1_goRest_31 ?_
  refine G_iinc (pc := 32) (v := 1) (w := 1) (L1 := [some (.ref 19), some (.int 5), some (.int 0), some (.int 1)]) (by decide) rfl rfl (by decide) rfl (by decide) dX1_goRest_32 ?_
  refine G_goto (pc := 35) (tgt := 4) (by decide) dX1_goRest_35 ?_
  refine G_iload_n (pc := 4) rfl dX1_goRest_4 ?_
  refine G_iload_n (pc := 5) rfl dX1_goRest_5 ?_
  refine G_icmp_ge (pc := 6) (tgt := 38) (by decide) dX1_goRest_6 (fun z => absurd z (by decide)) (fun _ => ?_)
  refine G_aload_n (pc := 9) rfl dX1_goRest_9 ?_
  refine G_callV (pc := 10) (mc1 := 0) (ms1 := 0) (ci := 1) (mj := mX1_isOver) (vs := []) dX1_goRest_10 rfl rfl cm_X1_isOver wf_172 wf_17 wf_18 rfl (Nat.le_of_ble_eq_true rfl) (Nat.le_of_ble_eq_true rfl) (Nat.le_of_ble_eq_true rfl) (Nat.le_of_ble_eq_true rfl) (s153_X1_isOver  (d + 1)  ) ?_
  rintro _ _ ⟨rfl, rfl⟩
  dsimp only [Option.toList, List.cons_append, List.nil_append]
  refine G_if_ne (pc := 13) (tgt := 38) (by decide) dX1_goRest_13 (fun z => absurd (by decide) z) (fun _ => ?_)
  refine G_iload_n (pc := 16) rfl dX1_goRest_16 ?_
  refine G_aload_n (pc := 17) rfl dX1_goRest_17 ?_
  refine G_aload_n (pc := 18) rfl dX1_goRest_18 ?_
  refine G_callV (pc := 19) (mc1 := 0) (ms1 := 0) (ci := 1) (mj := mX1_restAct) (vs := []) dX1_goRest_19 rfl rfl cm_X1_restAct wf_173 wf_66 wf_67 rfl (Nat.le_of_ble_eq_true rfl) (Nat.le_of_ble_eq_true rfl) (Nat.le_of_ble_eq_true rfl) (Nat.le_of_ble_eq_true rfl) (s350_X1_restAct  (d + 1)  ) ?_
  rintro _ _ ⟨rfl, rfl⟩
  dsimp only [Option.toList, List.cons_append, List.nil_append]
  refine G_callV (pc := 22) (mc1 := 0) (ms1 := 0) (ci := 1) (mj := mX1_tell) (vs := [_]) dX1_goRest_22 rfl rfl cm_X1_tell wf_69 wf_71 wf_72 rfl (Nat.le_of_ble_eq_true rfl) (Nat.le_of_ble_eq_true rfl) (Nat.le_of_ble_eq_true rfl) (Nat.le_of_ble_eq_true rfl) (s351_X1_tell  d  ) ?_
  rintro _ _ ⟨rfl, rfl⟩
  dsimp only [Option.toList, List.cons_append, List.nil_append]
  refine G_aload_n (pc := 25) rfl dX1_goRest_25 ?_
  refine G_callV (pc := 26) (mc1 := 0) (ms1 := 0) (ci := 1) (mj := mX1_melt) (vs := []) dX1_goRest_26 rfl rfl cm_X1_melt wf_73 wf_75 wf_76 rfl (Nat.le_of_ble_eq_true rfl) (Nat.le_of_ble_eq_true rfl) (Nat.le_of_ble_eq_true rfl) (Nat.le_of_ble_eq_true rfl) (s353_X1_melt  (d + 1)  ) ?_
  rintro _ _ ⟨rfl, rfl⟩
  dsimp only [Option.toList, List.cons_append, List.nil_append]
  refine G_iadd (pc := 29) (z := 0) (by decide) dX1_goRest_29 ?_
  refine G_iadd (pc := 30) (z := 0) (by decide) dX1_goRest_30 ?_
  refine G_istore_n (pc := 31) (L1 := [some (.ref 19), some (.int 5), some (.int 0), some (.int 1)]) rfl rfl (by decide) dX1_goRest_31 ?_
  refine G_iinc (pc := 32) (v := 1) (w := 2) (L1 := [some (.ref 19), some (.int 5), some (.int 0), some (.int 2)]) (by decide) rfl rfl (by decide) rfl (by decide) dX1_goRest_32 ?_
  refine G_goto (pc := 35) (tgt := 4) (by decide) dX1_goRest_35 ?_
  refine G_iload_n (pc := 4) rfl dX1_goRest_4 ?_
  refine G_iload_n (pc := 5) rfl dX1_goRest_5 ?_
  refine G_icmp_ge (pc := 6) (tgt := 38) (by decide) dX1_goRest_6 (fun z => absurd z (by decide)) (fun _ => ?_)
  refine G_aload_n (pc := 9) rfl dX1_goRest_9 ?_
  refine G_callV (pc := 10) (mc1 := 0) (ms1 := 0) (ci := 1) (mj := mX1_isOver) (vs := []) dX1_goRest_10 rfl rfl cm_X1_isOver wf_172 wf_17 wf_18 rfl (Nat.le_of_ble_eq_true rfl) (Nat.le_of_ble_eq_true rfl) (Nat.le_of_ble_eq_true rfl) (Nat.le_of_ble_eq_true rfl) (s354_X1_isOver  (d + 1)  ) ?_
  rintro _ _ ⟨rfl, rfl⟩
  dsimp only [Option.toList, List.cons_append, List.nil_append]
  refine G_if_ne (pc := 13) (tgt := 38) (by decide) dX1_goRest_13 (fun z => absurd (by decide) z) (fun _ => ?_)
  refine G_iload_n (pc := 16) rfl dX1_goRest_16 ?_
  refine G_aload_n (pc := 17) rfl dX1_goRest_17 ?_
  refine G_aload_n (pc := 18) rfl dX1_goRest_18 ?_
  refine G_callV (pc := 19) (mc1 := 0) (ms1 := 0) (ci := 1) (mj := mX1_restAct) (vs := []) dX1_goRest_19 rfl rfl cm_X1_restAct wf_173 wf_66 wf_67 rfl (Nat.le_of_ble_eq_true rfl) (Nat.le_of_ble_eq_true rfl) (Nat.le_of_ble_eq_true rfl) (Nat.le_of_ble_eq_true rfl) (s355_X1_restAct  (d + 1)  ) ?_
  rintro _ _ ⟨rfl, rfl⟩
  dsimp only [Option.toList, List.cons_append, List.nil_append]
  refine G_callV (pc := 22) (mc1 := 0) (ms1 := 0) (ci := 1) (mj := mX1_tell) (vs := [_]) dX1_goRest_22 rfl rfl cm_X1_tell wf_69 wf_71 wf_72 rfl (Nat.le_of_ble_eq_true rfl) (Nat.le_of_ble_eq_true rfl) (Nat.le_of_ble_eq_true rfl) (Nat.le_of_ble_eq_true rfl) (s356_X1_tell  d  ) ?_
  rintro _ _ ⟨rfl, rfl⟩
  dsimp only [Option.toList, List.cons_append, List.nil_append]
  refine G_aload_n (pc := 25) rfl dX1_goRest_25 ?_
  refine G_callV (pc := 26) (mc1 := 0) (ms1 := 0) (ci := 1) (mj := mX1_melt) (vs := []) dX1_goRest_26 rfl rfl cm_X1_melt wf_73 wf_75 wf_76 rfl (Nat.le_of_ble_eq_true rfl) (Nat.le_of_ble_eq_true rfl) (Nat.le_of_ble_eq_true rfl) (Nat.le_of_ble_eq_true rfl) (s358_X1_melt  (d + 1)  ) ?_
  rintro _ _ ⟨rfl, rfl⟩
  dsimp only [Option.toList, List.cons_append, List.nil_append]
  refine G_iadd (pc := 29) (z := 0) (by decide) dX1_goRest_29 ?_
  refine G_iadd (pc := 30) (z := 0) (by decide) dX1_goRest_30 ?_
  refine G_istore_n (pc := 31) (L1 := [some (.ref 19), some (.int 5), some (.int 0), some (.int 2)]) rfl rfl (by decide) dX1_goRest_31 ?_
  refine G_iinc (pc := 32) (v := 1) (w := 3) (L1 := [some (.ref 19), some (.int 5), some (.int 0), some (.int 3)]) (by decide) rfl rfl (by decide) rfl (by decide) dX1_goRest_32 ?_
  refine G_goto (pc := 35) (tgt := 4) (by decide) dX1_goRest_35 ?_
  refine G_iload_n (pc := 4) rfl dX1_goRest_4 ?_
  refine G_iload_n (pc := 5) rfl dX1_goRest_5 ?_
  refine G_icmp_ge (pc := 6) (tgt := 38) (by decide) dX1_goRest_6 (fun z => absurd z (by decide)) (fun _ => ?_)
  refine G_aload_n (pc := 9) rfl dX1_goRest_9 ?_
  refine G_callV (pc := 10) (mc1 := 0) (ms1 := 0) (ci := 1) (mj := mX1_isOver) (vs := []) dX1_goRest_10 rfl rfl cm_X1_isOver wf_172 wf_17 wf_18 rfl (Nat.le_of_ble_eq_true rfl) (Nat.le_of_ble_eq_true rfl) (Nat.le_of_ble_eq_true rfl) (Nat.le_of_ble_eq_true rfl) (s359_X1_isOver  (d + 1)  ) ?_
  rintro _ _ ⟨rfl, rfl⟩
  dsimp only [Option.toList, List.cons_append, List.nil_append]
  refine G_if_ne (pc := 13) (tgt := 38) (by decide) dX1_goRest_13 (fun z => absurd (by decide) z) (fun _ => ?_)
  refine G_iload_n (pc := 16) rfl dX1_goRest_16 ?_
  refine G_aload_n (pc := 17) rfl dX1_goRest_17 ?_
  refine G_aload_n (pc := 18) rfl dX1_goRest_18 ?_
  refine G_callV (pc := 19) (mc1 := 0) (ms1 := 0) (ci := 1) (mj := mX1_restAct) (vs := []) dX1_goRest_19 rfl rfl cm_X1_restAct wf_173 wf_66 wf_67 rfl (Nat.le_of_ble_eq_true rfl) (Nat.le_of_ble_eq_true rfl) (Nat.le_of_ble_eq_true rfl) (Nat.le_of_ble_eq_true rfl) (s360_X1_restAct  (d + 1)  ) ?_
  rintro _ _ ⟨rfl, rfl⟩
  dsimp only [Option.toList, List.cons_append, List.nil_append]
  refine G_callV (pc := 22) (mc1 := 0) (ms1 := 0) (ci := 1) (mj := mX1_tell) (vs := [_]) dX1_goRest_22 rfl rfl cm_X1_tell wf_69 wf_71 wf_72 rfl (Nat.le_of_ble_eq_true rfl) (Nat.le_of_ble_eq_true rfl) (Nat.le_of_ble_eq_true rfl) (Nat.le_of_ble_eq_true rfl) (s361_X1_tell  d  ) ?_
  rintro _ _ ⟨rfl, rfl⟩
  dsimp only [Option.toList, List.cons_append, List.nil_append]
  refine G_aload_n (pc := 25) rfl dX1_goRest_25 ?_
  refine G_callV (pc := 26) (mc1 := 0) (ms1 := 0) (ci := 1) (mj := mX1_melt) (vs := []) dX1_goRest_26 rfl rfl cm_X1_melt wf_73 wf_75 wf_76 rfl (Nat.le_of_ble_eq_true rfl) (Nat.le_of_ble_eq_true rfl) (Nat.le_of_ble_eq_true rfl) (Nat.le_of_ble_eq_true rfl) (s363_X1_melt  (d + 1)  ) ?_
  rintro _ _ ⟨rfl, rfl⟩
  dsimp only [Option.toList, List.cons_append, List.nil_append]
  refine G_iadd (pc := 29) (z := 0) (by decide) dX1_goRest_29 ?_
  refine G_iadd (pc := 30) (z := 0) (by decide) dX1_goRest_30 ?_
  refine G_istore_n (pc := 31) (L1 := [some (.ref 19), some (.int 5), some (.int 0), some (.int 3)]) rfl rfl (by decide) dX1_goRest_31 ?_
  refine G_iinc (pc := 32) (v := 1) (w := 4) (L1 := [some (.ref 19), some (.int 5), some (.int 0), some (.int 4)]) (by decide) rfl rfl (by decide) rfl (by decide) dX1_goRest_32 ?_
  refine G_goto (pc := 35) (tgt := 4) (by decide) dX1_goRest_35 ?_
  refine G_iload_n (pc := 4) rfl dX1_goRest_4 ?_
  refine G_iload_n (pc := 5) rfl dX1_goRest_5 ?_
  refine G_icmp_ge (pc := 6) (tgt := 38) (by decide) dX1_goRest_6 (fun z => absurd z (by decide)) (fun _ => ?_)
  refine G_aload_n (pc := 9) rfl dX1_goRest_9 ?_
  refine G_callV (pc := 10) (mc1 := 0) (ms1 := 0) (ci := 1) (mj := mX1_isOver) (vs := []) dX1_goRest_10 rfl rfl cm_X1_isOver wf_172 wf_17 wf_18 rfl (Nat.le_of_ble_eq_true rfl) (Nat.le_of_ble_eq_true rfl) (Nat.le_of_ble_eq_true rfl) (Nat.le_of_ble_eq_true rfl) (s364_X1_isOver  (d + 1)  ) ?_
  rintro _ _ ⟨rfl, rfl⟩
  dsimp only [Option.toList, List.cons_append, List.nil_append]
  refine G_if_ne (pc := 13) (tgt := 38) (by decide) dX1_goRest_13 (fun z => absurd (by decide) z) (fun _ => ?_)
  refine G_iload_n (pc := 16) rfl dX1_goRest_16 ?_
  refine G_aload_n (pc := 17) rfl dX1_goRest_17 ?_
  refine G_aload_n (pc := 18) rfl dX1_goRest_18 ?_
  refine G_callV (pc := 19) (mc1 := 0) (ms1 := 0) (ci := 1) (mj := mX1_restAct) (vs := []) dX1_goRest_19 rfl rfl cm_X1_restAct wf_173 wf_66 wf_67 rfl (Nat.le_of_ble_eq_true rfl) (Nat.le_of_ble_eq_true rfl) (Nat.le_of_ble_eq_true rfl) (Nat.le_of_ble_eq_true rfl) (s365_X1_restAct  (d + 1)  ) ?_
  rintro _ _ ⟨rfl, rfl⟩
  dsimp only [Option.toList, List.cons_append, List.nil_append]
  refine G_callV (pc := 22) (mc1 := 0) (ms1 := 0) (ci := 1) (mj := mX1_tell) (vs := [_]) dX1_goRest_22 rfl rfl cm_X1_tell wf_69 wf_71 wf_72 rfl (Nat.le_of_ble_eq_true rfl) (Nat.le_of_ble_eq_true rfl) (Nat.le_of_ble_eq_true rfl) (Nat.le_of_ble_eq_true rfl) (s366_X1_tell  d  ) ?_
  rintro _ _ ⟨rfl, rfl⟩
  dsimp only [Option.toList, List.cons_append, List.nil_append]
  refine G_aload_n (pc := 25) rfl dX1_goRest_25 ?_
  refine G_callV (pc := 26) (mc1 := 0) (ms1 := 0) (ci := 1) (mj := mX1_melt) (vs := []) dX1_goRest_26 rfl rfl cm_X1_melt wf_73 wf_75 wf_76 rfl (Nat.le_of_ble_eq_true rfl) (Nat.le_of_ble_eq_true rfl) (Nat.le_of_ble_eq_true rfl) (Nat.le_of_ble_eq_true rfl) (s368_X1_melt  (d + 1)  ) ?_
  rintro _ _ ⟨rfl, rfl⟩
  dsimp only [Option.toList, List.cons_append, List.nil_append]
  refine G_iadd (pc := 29) (z := 0) (by decide) dX1_goRest_29 ?_
  refine G_iadd (pc := 30) (z := 0) (by decide) dX1_goRest_30 ?_
  refine G_istore_n (pc := 31) (L1 := [some (.ref 19), some (.int 5), some (.int 0), some (.int 4)]) rfl rfl (by decide) dX1_goRest_31 ?_
  refine G_iinc (pc := 32) (v := 1) (w := 5) (L1 := [some (.ref 19), some (.int 5), some (.int 0), some (.int 5)]) (by decide) rfl rfl (by decide) rfl (by decide) dX1_goRest_32 ?_
  refine G_goto (pc := 35) (tgt := 4) (by decide) dX1_goRest_35 ?_
  refine G_iload_n (pc := 4) rfl dX1_goRest_4 ?_
  refine G_iload_n (pc := 5) rfl dX1_goRest_5 ?_
  refine G_icmp_ge (pc := 6) (tgt := 38) (by decide) dX1_goRest_6 (fun _ => ?_) (fun z => absurd (by decide) z)
  refine G_iload_n (pc := 38) rfl dX1_goRest_38 ?_
  exact G_iret (pc := 39) (Nat.le_of_ble_eq_true rfl) (Nat.le_of_ble_eq_true rfl) rfl dX1_goRest_39 ⟨rfl, rfl⟩
set_option maxRecDepth 100000 in
set_option maxHeartbeats 4000000 in
theorem s414_X1_restore  (d : Nat)   : G (d + 1) mX1_restore 0 0 0 0 0 (gent 3 [.ref 19, .int 0]) [] SH0 RF0 (gup (gup (gup (gup (gup (gup (gup (gcp I0 24 34 (0 : Int32).toNatClampNeg (0 : Int32).toNatClampNeg (6 : Int32).toNatClampNeg) 34 6 0) 34 7 0) 19 1 1) 19 1 2) 19 1 3) 19 1 4) 19 1 5) (fun r h => r = none ∧ h = (SH0, RF0, (gup (gup (gcp (gup (gup (gup (gup (gup (gup (gup (gcp I0 24 34 (0 : Int32).toNatClampNeg (0 : Int32).toNatClampNeg (6 : Int32).toNatClampNeg) 34 6 0) 34 7 0) 19 1 1) 19 1 2) 19 1 3) 19 1 4) 19 1 5) 34 24 (0 : Int32).toNatClampNeg (0 : Int32).toNatClampNeg (6 : Int32).toNatClampNeg) 19 9 0) 19 1 0))) := by
  refine G_iload_n (pc := 0) rfl dX1_restore_0 ?_
  refine G_bipush (pc := 1) (v := 8) (by decide) dX1_restore_1 ?_
  refine G_imul (pc := 3) (z := 0) (by decide) dX1_restore_3 ?_
  refine G_istore_n (pc := 4) (L1 := [some (.ref 19), some (.int 0), some (.int 0)]) rfl rfl (by decide) dX1_restore_4 ?_
  refine G_aload_n (pc := 5) rfl dX1_restore_5 ?_
  refine G_getR (pc := 6) (r := 34) (ci := 1) (j := 18) rfl lk_RX1_53 rfl rfl rfl dX1_restore_6 ?_
  refine G_iload_n (pc := 9) rfl dX1_restore_9 ?_
  refine G_aload_n (pc := 10) rfl dX1_restore_10 ?_
  refine G_getR (pc := 11) (r := 24) (ci := 1) (j := 11) rfl lk_RX1_31 rfl rfl rfl dX1_restore_11 ?_
  refine G_iconst (pc := 14) (v := 0) (by decide) dX1_restore_14 ?_
  refine G_bipush (pc := 15) (v := 6) (by decide) dX1_restore_15 ?_
  refine G_copy (pc := 17) (x := 34) (y := 24) rfl rfl (by decide) (by decide) (by decide) (by decide) (by decide) wf_50 wf_51 wf_52 wf_53 (Nat.le_of_ble_eq_true rfl) dX1_restore_17 ?_
  refine G_aload_n (pc := 20) rfl dX1_restore_20 ?_
  refine G_aload_n (pc := 21) rfl dX1_restore_21 ?_
  refine G_getR (pc := 22) (r := 34) (ci := 1) (j := 18) rfl lk_RX1_53 rfl rfl rfl dX1_restore_22 ?_
  refine G_iload_n (pc := 25) rfl dX1_restore_25 ?_
  refine G_bipush (pc := 26) (v := 6) (by decide) dX1_restore_26 ?_
  refine G_iadd (pc := 28) (z := 6) (by decide) dX1_restore_28 ?_
  refine G_iald (pc := 29) (jj := 6) (v := 0) (by decide) rfl rfl (by unfold vp_in; decide) dX1_restore_29 ?_
  refine G_putI (pc := 30) (ci := 1) (j := 9) rfl lk_RX1_75 rfl rfl rfl trivial dX1_restore_30 ?_
  refine G_aload_n (pc := 33) rfl dX1_restore_33 ?_
  refine G_aload_n (pc := 34) rfl dX1_restore_34 ?_
  refine G_getR (pc := 35) (r := 34) (ci := 1) (j := 18) rfl lk_RX1_53 rfl rfl rfl dX1_restore_35 ?_
  refine G_iload_n (pc := 38) rfl dX1_restore_38 ?_
  refine G_bipush (pc := 39) (v := 6) (by decide) dX1_restore_39 ?_
  refine G_iadd (pc := 41) (z := 6) (by decide) dX1_restore_41 ?_
  refine G_iconst (pc := 42) (v := 1) (by decide) dX1_restore_42 ?_
  refine G_iadd (pc := 43) (z := 7) (by decide) dX1_restore_43 ?_
  refine G_iald (pc := 44) (jj := 7) (v := 0) (by decide) rfl rfl (by unfold vp_in; decide) dX1_restore_44 ?_
  refine G_putI (pc := 45) (ci := 1) (j := 1) rfl lk_RX1_60 rfl rfl rfl trivial dX1_restore_45 ?_
  exact G_vret (pc := 48) (Nat.le_of_ble_eq_true rfl) (Nat.le_of_ble_eq_true rfl) rfl dX1_restore_48 ⟨rfl, rfl⟩
set_option maxRecDepth 100000 in
set_option maxHeartbeats 4000000 in
theorem s415_X1_goRest  (d : Nat)   : G (d + 2) mX1_goRest 0 0 0 0 0 (gent 4 [.ref 19, .int 6]) [] SH0 RF0 (gup (gup (gcp I0 24 34 (0 : Int32).toNatClampNeg (0 : Int32).toNatClampNeg (6 : Int32).toNatClampNeg) 34 6 0) 34 7 0) (fun r h => r = some (.int 0) ∧ h = (SH0, RF0, (gup (gup (gup (gup (gup (gup (gup (gup (gcp I0 24 34 (0 : Int32).toNatClampNeg (0 : Int32).toNatClampNeg (6 : Int32).toNatClampNeg) 34 6 0) 34 7 0) 19 1 1) 19 1 2) 19 1 3) 19 1 4) 19 1 5) 19 1 6))) := by
  refine G_iconst (pc := 0) (v := 0) (by decide) dX1_goRest_0 ?_
  refine G_istore_n (pc := 1) (L1 := [some (.ref 19), some (.int 6), some (.int 0), none]) rfl rfl (by decide) dX1_goRest_1 ?_
  refine G_iconst (pc := 2) (v := 0) (by decide) dX1_goRest_2 ?_
  refine G_istore_n (pc := 3) (L1 := [some (.ref 19), some (.int 6), some (.int 0), some (.int 0)]) rfl rfl (by decide) dX1_goRest_3 ?_
  refine G_iload_n (pc := 4) rfl dX1_goRest_4 ?_
  refine G_iload_n (pc := 5) rfl dX1_goRest_5 ?_
  refine G_icmp_ge (pc := 6) (tgt := 38) (by decide) dX1_goRest_6 (fun z => absurd z (by decide)) (fun _ => ?_)
  refine G_aload_n (pc := 9) rfl dX1_goRest_9 ?_
  refine G_callV (pc := 10) (mc1 := 0) (ms1 := 0) (ci := 1) (mj := mX1_isOver) (vs := []) dX1_goRest_10 rfl rfl cm_X1_isOver wf_172 wf_17 wf_18 rfl (Nat.le_of_ble_eq_true rfl) (Nat.le_of_ble_eq_true rfl) (Nat.le_of_ble_eq_true rfl) (Nat.le_of_ble_eq_true rfl) (s348_X1_isOver  (d + 1)  ) ?_
  rintro _ _ ⟨rfl, rfl⟩
  dsimp only [Option.toList, List.cons_append, List.nil_append]
  refine G_if_ne (pc := 13) (tgt := 38) (by decide) dX1_goRest_13 (fun z => absurd (by decide) z) (fun _ => ?_)
  refine G_iload_n (pc := 16) rfl dX1_goRest_16 ?_
  refine G_aload_n (pc := 17) rfl dX1_goRest_17 ?_
  refine G_aload_n (pc := 18) rfl dX1_goRest_18 ?_
  refine G_callV (pc := 19) (mc1 := 0) (ms1 := 0) (ci := 1) (mj := mX1_restAct) (vs := []) dX1_goRest_19 rfl rfl cm_X1_restAct wf_173 wf_66 wf_67 rfl (Nat.le_of_ble_eq_true rfl) (Nat.le_of_ble_eq_true rfl) (Nat.le_of_ble_eq_true rfl) (Nat.le_of_ble_eq_true rfl) (s349_X1_restAct  (d + 1)  ) ?_
  rintro _ _ ⟨rfl, rfl⟩
  dsimp only [Option.toList, List.cons_append, List.nil_append]
  refine G_callV (pc := 22) (mc1 := 0) (ms1 := 0) (ci := 1) (mj := mX1_tell) (vs := [_]) dX1_goRest_22 rfl rfl cm_X1_tell wf_69 wf_71 wf_72 rfl (Nat.le_of_ble_eq_true rfl) (Nat.le_of_ble_eq_true rfl) (Nat.le_of_ble_eq_true rfl) (Nat.le_of_ble_eq_true rfl) (s143_X1_tell  d  ) ?_
  rintro _ _ ⟨rfl, rfl⟩
  dsimp only [Option.toList, List.cons_append, List.nil_append]
  refine G_aload_n (pc := 25) rfl dX1_goRest_25 ?_
  refine G_callV (pc := 26) (mc1 := 0) (ms1 := 0) (ci := 1) (mj := mX1_melt) (vs := []) dX1_goRest_26 rfl rfl cm_X1_melt wf_73 wf_75 wf_76 rfl (Nat.le_of_ble_eq_true rfl) (Nat.le_of_ble_eq_true rfl) (Nat.le_of_ble_eq_true rfl) (Nat.le_of_ble_eq_true rfl) (s145_X1_melt  (d + 1)  ) ?_
  rintro _ _ ⟨rfl, rfl⟩
  dsimp only [Option.toList, List.cons_append, List.nil_append]
  refine G_iadd (pc := 29) (z := 0) (by decide) dX1_goRest_29 ?_
  refine G_iadd (pc := 30) (z := 0) (by decide) dX1_goRest_30 ?_
  refine G_istore_n (pc := 31) (L1 := [some (.ref 19), some (.int 6), some (.int 0), some (.int 0)]) rfl rfl (by decide) dX1_goRest_31 ?_
  refine G_iinc (pc := 32) (v := 1) (w := 1) (L1 := [some (.ref 19), some (.int 6), some (.int 0), some (.int 1)]) (by decide) rfl rfl (by decide) rfl (by decide) dX1_goRest_32 ?_
  refine G_goto (pc := 35) (tgt := 4) (by decide) dX1_goRest_35 ?_
  refine G_iload_n (pc := 4) rfl dX1_goRest_4 ?_
  refine G_iload_n (pc := 5) rfl dX1_goRest_5 ?_
  refine G_icmp_ge (pc := 6) (tgt := 38) (by decide) dX1_goRest_6 (fun z => absurd z (by decide)) (fun _ => ?_)
  refine G_aload_n (pc := 9) rfl dX1_goRest_9 ?_
  refine G_callV (pc := 10) (mc1 := 0) (ms1 := 0) (ci := 1) (mj := mX1_isOver) (vs := []) dX1_goRest_10 rfl rfl cm_X1_isOver wf_172 wf_17 wf_18 rfl (Nat.le_of_ble_eq_true rfl) (Nat.le_of_ble_eq_true rfl) (Nat.le_of_ble_eq_true rfl) (Nat.le_of_ble_eq_true rfl) (s153_X1_isOver  (d + 1)  ) ?_
  rintro _ _ ⟨rfl, rfl⟩
  dsimp only [Option.toList, List.cons_append, List.nil_append]
  refine G_if_ne (pc := 13) (tgt := 38) (by decide) dX1_goRest_13 (fun z => absurd (by decide) z) (fun _ => ?_)
  refine G_iload_n (pc := 16) rfl dX1_goRest_16 ?_
  refine G_aload_n (pc := 17) rfl dX1_goRest_17 ?_
  refine G_aload_n (pc := 18) rfl dX1_goRest_18 ?_
  refine G_callV (pc := 19) (mc1 := 0) (ms1 := 0) (ci := 1) (mj := mX1_restAct) (vs := []) dX1_goRest_19 rfl rfl cm_X1_restAct wf_173 wf_66 wf_67 rfl (Nat.le_of_ble_eq_true rfl) (Nat.le_of_ble_eq_true rfl) (Nat.le_of_ble_eq_true rfl) (Nat.le_of_ble_eq_true rfl) (s350_X1_restAct  (d + 1)  ) ?_
  rintro _ _ ⟨rfl, rfl⟩
  dsimp only [Option.toList, List.cons_append, List.nil_append]
  refine G_callV (pc := 22) (mc1 := 0) (ms1 := 0) (ci := 1) (mj := mX1_tell) (vs := [_]) dX1_goRest_22 rfl rfl cm_X1_tell wf_69 wf_71 wf_72 rfl (Nat.le_of_ble_eq_true rfl) (Nat.le_of_ble_eq_true rfl) (Nat.le_of_ble_eq_true rfl) (Nat.le_of_ble_eq_true rfl) (s351_X1_tell  d  ) ?_
  rintro _ _ ⟨rfl, rfl⟩
  dsimp only [Option.toList, List.cons_append, List.nil_append]
  refine G_aload_n (pc := 25) rfl dX1_goRest_25 ?_
  refine G_callV (pc := 26) (mc1 := 0) (ms1 := 0) (ci := 1) (mj := mX1_melt) (vs := []) dX1_goRest_26 rfl rfl cm_X1_melt wf_73 wf_75 wf_76 rfl (Nat.le_of_ble_eq_true rfl) (Nat.le_of_ble_eq_true rfl) (Nat.le_of_ble_eq_true rfl) (Nat.le_of_ble_eq_true rfl) (s353_X1_melt  (d + 1)  ) ?_
  rintro _ _ ⟨rfl, rfl⟩
  dsimp only [Option.toList, List.cons_append, List.nil_append]
  refine G_iadd (pc := 29) (z := 0) (by decide) dX1_goRest_29 ?_
  refine G_iadd (pc := 30) (z := 0) (by decide) dX1_goRest_30 ?_
  refine G_istore_n (pc := 31) (L1 := [some (.ref 19), some (.int 6), some (.int 0), some (.int 1)]) rfl rfl (by decide) dX1_goRest_31 ?_
  refine G_iinc (pc := 32) (v := 1) (w := 2) (L1 := [some (.ref 19), some (.int 6), some (.int 0), some (.int 2)]) (by decide) rfl rfl (by decide) rfl (by decide) dX1_goRest_32 ?_
  refine G_goto (pc := 35) (tgt := 4) (by decide) dX1_goRest_35 ?_
  refine G_iload_n (pc := 4) rfl dX1_goRest_4 ?_
  refine G_iload_n (pc := 5) rfl dX1_goRest_5 ?_
  refine G_icmp_ge (pc := 6) (tgt := 38) (by decide) dX1_goRest_6 (fun z => absurd z (by decide)) (fun _ => ?_)
  refine G_aload_n (pc := 9) rfl dX1_goRest_9 ?_
  refine G_callV (pc := 10) (mc1 := 0) (ms1 := 0) (ci := 1) (mj := mX1_isOver) (vs := []) dX1_goRest_10 rfl rfl cm_X1_isOver wf_172 wf_17 wf_18 rfl (Nat.le_of_ble_eq_true rfl) (Nat.le_of_ble_eq_true rfl) (Nat.le_of_ble_eq_true rfl) (Nat.le_of_ble_eq_true rfl) (s354_X1_isOver  (d + 1)  ) ?_
  rintro _ _ ⟨rfl, rfl⟩
  dsimp only [Option.toList, List.cons_append, List.nil_append]
  refine G_if_ne (pc := 13) (tgt := 38) (by decide) dX1_goRest_13 (fun z => absurd (by decide) z) (fun _ => ?_)
  refine G_iload_n (pc := 16) rfl dX1_goRest_16 ?_
  refine G_aload_n (pc := 17) rfl dX1_goRest_17 ?_
  refine G_aload_n (pc := 18) rfl dX1_goRest_18 ?_
  refine G_callV (pc := 19) (mc1 := 0) (ms1 := 0) (ci := 1) (mj := mX1_restAct) (vs := []) dX1_goRest_19 rfl rfl cm_X1_restAct wf_173 wf_66 wf_67 rfl (Nat.le_of_ble_eq_true rfl) (Nat.le_of_ble_eq_true rfl) (Nat.le_of_ble_eq_true rfl) (Nat.le_of_ble_eq_true rfl) (s355_X1_restAct  (d + 1)  ) ?_
  rintro _ _ ⟨rfl, rfl⟩
  dsimp only [Option.toList, List.cons_append, List.nil_append]
  refine G_callV (pc := 22) (mc1 := 0) (ms1 := 0) (ci := 1) (mj := mX1_tell) (vs := [_]) dX1_goRest_22 rfl rfl cm_X1_tell wf_69 wf_71 wf_72 rfl (Nat.le_of_ble_eq_true rfl) (Nat.le_of_ble_eq_true rfl) (Nat.le_of_ble_eq_true rfl) (Nat.le_of_ble_eq_true rfl) (s356_X1_tell  d  ) ?_
  rintro _ _ ⟨rfl, rfl⟩
  dsimp only [Option.toList, List.cons_append, List.nil_append]
  refine G_aload_n (pc := 25) rfl dX1_goRest_25 ?_
  refine G_callV (pc := 26) (mc1 := 0) (ms1 := 0) (ci := 1) (mj := mX1_melt) (vs := []) dX1_goRest_26 rfl rfl cm_X1_melt wf_73 wf_75 wf_76 rfl (Nat.le_of_ble_eq_true rfl) (Nat.le_of_ble_eq_true rfl) (Nat.le_of_ble_eq_true rfl) (Nat.le_of_ble_eq_true rfl) (s358_X1_melt  (d + 1)  ) ?_
  rintro _ _ ⟨rfl, rfl⟩
  dsimp only [Option.toList, List.cons_append, List.nil_append]
  refine G_iadd (pc := 29) (z := 0) (by decide) dX1_goRest_29 ?_
  refine G_iadd (pc := 30) (z := 0) (by decide) dX1_goRest_30 ?_
  refine G_istore_n (pc := 31) (L1 := [some (.ref 19), some (.int 6), some (.int 0), some (.int 2)]) rfl rfl (by decide) dX1_goRest_31 ?_
  refine G_iinc (pc := 32) (v := 1) (w := 3) (L1 := [some (.ref 19), some (.int 6), some (.int 0), some (.int 3)]) (by decide) rfl rfl (by decide) rfl (by decide) dX1_goRest_32 ?_
  refine G_goto (pc := 35) (tgt := 4) (by decide) dX1_goRest_35 ?_
  refine G_iload_n (pc := 4) rfl dX1_goRest_4 ?_
  refine G_iload_n (pc := 5) rfl dX1_goRest_5 ?_
  refine G_icmp_ge (pc := 6) (tgt := 38) (by decide) dX1_goRest_6 (fun z => absurd z (by decide)) (fun _ => ?_)
  refine G_aload_n (pc := 9) rfl dX1_goRest_9 ?_
  refine G_callV (pc := 10) (mc1 := 0) (ms1 := 0) (ci := 1) (mj := mX1_isOver) (vs := []) dX1_goRest_10 rfl rfl cm_X1_isOver wf_172 wf_17 wf_18 rfl (Nat.le_of_ble_eq_true rfl) (Nat.le_of_ble_eq_true rfl) (Nat.le_of_ble_eq_true rfl) (Nat.le_of_ble_eq_true rfl) (s359_X1_isOver  (d + 1)  ) ?_
  rintro _ _ ⟨rfl, rfl⟩
  dsimp only [Option.toList, List.cons_append, List.nil_append]
  refine G_if_ne (pc := 13) (tgt := 38) (by decide) dX1_goRest_13 (fun z => absurd (by decide) z) (fun _ => ?_)
  refine G_iload_n (pc := 16) rfl dX1_goRest_16 ?_
  refine G_aload_n (pc := 17) rfl dX1_goRest_17 ?_
  refine G_aload_n (pc := 18) rfl dX1_goRest_18 ?_
  refine G_callV (pc := 19) (mc1 := 0) (ms1 := 0) (ci := 1) (mj := mX1_restAct) (vs := []) dX1_goRest_19 rfl rfl cm_X1_restAct wf_173 wf_66 wf_67 rfl (Nat.le_of_ble_eq_true rfl) (Nat.le_of_ble_eq_true rfl) (Nat.le_of_ble_eq_true rfl) (Nat.le_of_ble_eq_true rfl) (s360_X1_restAct  (d + 1)  ) ?_
  rintro _ _ ⟨rfl, rfl⟩
  dsimp only [Option.toList, List.cons_append, List.nil_append]
  refine G_callV (pc := 22) (mc1 := 0) (ms1 := 0) (ci := 1) (mj := mX1_tell) (vs := [_]) dX1_goRest_22 rfl rfl cm_X1_tell wf_69 wf_71 wf_72 rfl (Nat.le_of_ble_eq_true rfl) (Nat.le_of_ble_eq_true rfl) (Nat.le_of_ble_eq_true rfl) (Nat.le_of_ble_eq_true rfl) (s361_X1_tell  d  ) ?_
  rintro _ _ ⟨rfl, rfl⟩
  dsimp only [Option.toList, List.cons_append, List.nil_append]
  refine G_aload_n (pc := 25) rfl dX1_goRest_25 ?_
  refine G_callV (pc := 26) (mc1 := 0) (ms1 := 0) (ci := 1) (mj := mX1_melt) (vs := []) dX1_goRest_26 rfl rfl cm_X1_melt wf_73 wf_75 wf_76 rfl (Nat.le_of_ble_eq_true rfl) (Nat.le_of_ble_eq_true rfl) (Nat.le_of_ble_eq_true rfl) (Nat.le_of_ble_eq_true rfl) (s363_X1_melt  (d + 1)  ) ?_
  rintro _ _ ⟨rfl, rfl⟩
  dsimp only [Option.toList, List.cons_append, List.nil_append]
  refine G_iadd (pc := 29) (z := 0) (by decide) dX1_goRest_29 ?_
  refine G_iadd (pc := 30) (z := 0) (by decide) dX1_goRest_30 ?_
  refine G_istore_n (pc := 31) (L1 := [some (.ref 19), some (.int 6), some (.int 0), some (.int 3)]) rfl rfl (by decide) dX1_goRest_31 ?_
  refine G_iinc (pc := 32) (v := 1) (w := 4) (L1 := [some (.ref 19), some (.int 6), some (.int 0), some (.int 4)]) (by decide) rfl rfl (by decide) rfl (by decide) dX1_goRest_32 ?_
  refine G_goto (pc := 35) (tgt := 4) (by decide) dX1_goRest_35 ?_
  refine G_iload_n (pc := 4) rfl dX1_goRest_4 ?_
  refine G_iload_n (pc := 5) rfl dX1_goRest_5 ?_
  refine G_icmp_ge (pc := 6) (tgt := 38) (by decide) dX1_goRest_6 (fun z => absurd z (by decide)) (fun _ => ?_)
  refine G_aload_n (pc := 9) rfl dX1_goRest_9 ?_
  refine G_callV (pc := 10) (mc1 := 0) (ms1 := 0) (ci := 1) (mj := mX1_isOver) (vs := []) dX1_goRest_10 rfl rfl cm_X1_isOver wf_172 wf_17 wf_18 rfl (Nat.le_of_ble_eq_true rfl) (Nat.le_of_ble_eq_true rfl) (Nat.le_of_ble_eq_true rfl) (Nat.le_of_ble_eq_true rfl) (s364_X1_isOver  (d + 1)  ) ?_
  rintro _ _ ⟨rfl, rfl⟩
  dsimp only [Option.toList, List.cons_append, List.nil_append]
  refine G_if_ne (pc := 13) (tgt := 38) (by decide) dX1_goRest_13 (fun z => absurd (by decide) z) (fun _ => ?_)
  refine G_iload_n (pc := 16) rfl dX1_goRest_16 ?_
  refine G_aload_n (pc := 17) rfl dX1_goRest_17 ?_
  refine G_aload_n (pc := 18) rfl dX1_goRest_18 ?_
  refine G_callV (pc := 19) (mc1 := 0) (ms1 := 0) (ci := 1) (mj := mX1_restAct) (vs := []) dX1_goRest_19 rfl rfl cm_X1_restAct wf_173 wf_66 wf_67 rfl (Nat.le_of_ble_eq_true rfl) (Nat.le_of_ble_eq_true rfl) (Nat.le_of_ble_eq_true rfl) (Nat.le_of_ble_eq_true rfl) (s365_X1_restAct  (d + 1)  ) ?_
  rintro _ _ ⟨rfl, rfl⟩
  dsimp only [Option.toList, List.cons_append, List.nil_append]
  refine G_callV (pc := 22) (mc1 := 0) (ms1 := 0) (ci := 1) (mj := mX1_tell) (vs := [_]) dX1_goRest_22 rfl rfl cm_X1_tell wf_69 wf_71 wf_72 rfl (Nat.le_of_ble_eq_true rfl) (Nat.le_of_ble_eq_true rfl) (Nat.le_of_ble_eq_true rfl) (Nat.le_of_ble_eq_true rfl) (s366_X1_tell  d  ) ?_
  rintro _ _ ⟨rfl, rfl⟩
  dsimp only [Option.toList, List.cons_append, List.nil_append]
  refine G_aload_n (pc := 25) rfl dX1_goRest_25 ?_
  refine G_callV (pc := 26) (mc1 := 0) (ms1 := 0) (ci := 1) (mj := mX1_melt) (vs := []) dX1_goRest_26 rfl rfl cm_X1_melt wf_73 wf_75 wf_76 rfl (Nat.le_of_ble_eq_true rfl) (Nat.le_of_ble_eq_true rfl) (Nat.le_of_ble_eq_true rfl) (Nat.le_of_ble_eq_true rfl) (s368_X1_melt  (d + 1)  ) ?_
  rintro _ _ ⟨rfl, rfl⟩
  dsimp only [Option.toList, List.cons_append, List.nil_append]
  refine G_iadd (pc := 29) (z := 0) (by decide) dX1_goRest_29 ?_
  refine G_iadd (pc := 30) (z := 0) (by decide) dX1_goRest_30 ?_
  refine G_istore_n (pc := 31) (L1 := [some (.ref 19), some (.int 6), some (.int 0), some (.int 4)]) rfl rfl (by decide) dX1_goRest_31 ?_
  refine G_iinc (pc := 32) (v := 1) (w := 5) (L1 := [some (.ref 19), some (.int 6), some (.int 0), some (.int 5)]) (by decide) rfl rfl (by decide) rfl (by decide) dX1_goRest_32 ?_
  refine G_goto (pc := 35) (tgt := 4) (by decide) dX1_goRest_35 ?_
  refine G_iload_n (pc := 4) rfl dX1_goRest_4 ?_
  refine G_iload_n (pc := 5) rfl dX1_goRest_5 ?_
  refine G_icmp_ge (pc := 6) (tgt := 38) (by decide) dX1_goRest_6 (fun z => absurd z (by decide)) (fun _ => ?_)
  refine G_aload_n (pc := 9) rfl dX1_goRest_9 ?_
  refine G_callV (pc := 10) (mc1 := 0) (ms1 := 0) (ci := 1) (mj := mX1_isOver) (vs := []) dX1_goRest_10 rfl rfl cm_X1_isOver wf_172 wf_17 wf_18 rfl (Nat.le_of_ble_eq_true rfl) (Nat.le_of_ble_eq_true rfl) (Nat.le_of_ble_eq_true rfl) (Nat.le_of_ble_eq_true rfl) (s369_X1_isOver  (d + 1)  ) ?_
  rintro _ _ ⟨rfl, rfl⟩
  dsimp only [Option.toList, List.cons_append, List.nil_append]
  refine G_if_ne (pc := 13) (tgt := 38) (by decide) dX1_goRest_13 (fun z => absurd (by decide) z) (fun _ => ?_)
  refine G_iload_n (pc := 16) rfl dX1_goRest_16 ?_
  refine G_aload_n (pc := 17) rfl dX1_goRest_17 ?_
  refine G_aload_n (pc := 18) rfl dX1_goRest_18 ?_
  refine G_callV (pc := 19) (mc1 := 0) (ms1 := 0) (ci := 1) (mj := mX1_restAct) (vs := []) dX1_goRest_19 rfl rfl cm_X1_restAct wf_173 wf_66 wf_67 rfl (Nat.le_of_ble_eq_true rfl) (Nat.le_of_ble_eq_true rfl) (Nat.le_of_ble_eq_true rfl) (Nat.le_of_ble_eq_true rfl) (s370_X1_restAct  (d + 1)  ) ?_
  rintro _ _ ⟨rfl, rfl⟩
  dsimp only [Option.toList, List.cons_append, List.nil_append]
  refine G_callV (pc := 22) (mc1 := 0) (ms1 := 0) (ci := 1) (mj := mX1_tell) (vs := [_]) dX1_goRest_22 rfl rfl cm_X1_tell wf_69 wf_71 wf_72 rfl (Nat.le_of_ble_eq_true rfl) (Nat.le_of_ble_eq_true rfl) (Nat.le_of_ble_eq_true rfl) (Nat.le_of_ble_eq_true rfl) (s371_X1_tell  d  ) ?_
  rintro _ _ ⟨rfl, rfl⟩
  dsimp only [Option.toList, List.cons_append, List.nil_append]
  refine G_aload_n (pc := 25) rfl dX1_goRest_25 ?_
  refine G_callV (pc := 26) (mc1 := 0) (ms1 := 0) (ci := 1) (mj := mX1_melt) (vs := []) dX1_goRest_26 rfl rfl cm_X1_melt wf_73 wf_75 wf_76 rfl (Nat.le_of_ble_eq_true rfl) (Nat.le_of_ble_eq_true rfl) (Nat.le_of_ble_eq_true rfl) (Nat.le_of_ble_eq_true rfl) (s373_X1_melt  (d + 1)  ) ?_
  rintro _ _ ⟨rfl, rfl⟩
  dsimp only [Option.toList, List.cons_append, List.nil_append]
  refine G_iadd (pc := 29) (z := 0) (by decide) dX1_goRest_29 ?_
  refine G_iadd (pc := 30) (z := 0) (by decide) dX1_goRest_30 ?_
  refine G_istore_n (pc := 31) (L1 := [some (.ref 19), some (.int 6), some (.int 0), some (.int 5)]) rfl rfl (by decide) dX1_goRest_31 ?_
  refine G_iinc (pc := 32) (v := 1) (w := 6) (L1 := [some (.ref 19), some (.int 6), some (.int 0), some (.int 6)]) (by decide) rfl rfl (by decide) rfl (by decide) dX1_goRest_32 ?_
  refine G_goto (pc := 35) (tgt := 4) (by decide) dX1_goRest_35 ?_
  refine G_iload_n (pc := 4) rfl dX1_goRest_4 ?_
  refine G_iload_n (pc := 5) rfl dX1_goRest_5 ?_
  refine G_icmp_ge (pc := 6) (tgt := 38) (by decide) dX1_goRest_6 (fun _ => ?_) (fun z => absurd (by decide) z)
  refine G_iload_n (pc := 38) rfl dX1_goRest_38 ?_
  exact G_iret (pc := 39) (Nat.le_of_ble_eq_true rfl) (Nat.le_of_ble_eq_true rfl) rfl dX1_goRest_39 ⟨rfl, rfl⟩
set_option maxRecDepth 100000 in
set_option maxHeartbeats 4000000 in
theorem s416_X1_restore  (d : Nat)   : G (d + 1) mX1_restore 0 0 0 0 0 (gent 3 [.ref 19, .int 0]) [] SH0 RF0 (gup (gup (gup (gup (gup (gup (gup (gup (gcp I0 24 34 (0 : Int32).toNatClampNeg (0 : Int32).toNatClampNeg (6 : Int32).toNatClampNeg) 34 6 0) 34 7 0) 19 1 1) 19 1 2) 19 1 3) 19 1 4) 19 1 5) 19 1 6) (fun r h => r = none ∧ h = (SH0, RF0, (gup (gup (gcp (gup (gup (gup (gup (gup (gup (gup (gup (gcp I0 24 34 (0 : Int32).toNatClampNeg (0 : Int32).toNatClampNeg (6 : Int32).toNatClampNeg) 34 6 0) 34 7 0) 19 1 1) 19 1 2) 19 1 3) 19 1 4) 19 1 5) 19 1 6) 34 24 (0 : Int32).toNatClampNeg (0 : Int32).toNatClampNeg (6 : Int32).toNatClampNeg) 19 9 0) 19 1 0))) := by
  refine G_iload_n (pc := 0) rfl dX1_restore_0 ?_
  refine G_bipush (pc := 1) (v := 8) (by decide) dX1_restore_1 ?_
  refine G_imul (pc := 3) (z := 0) (by decide) dX1_restore_3 ?_
  refine G_istore_n (pc := 4) (L1 := [some (.ref 19), some (.int 0), some (.int 0)]) rfl rfl (by decide) dX1_restore_4 ?_
  refine G_aload_n (pc := 5) rfl dX1_restore_5 ?_
  refine G_getR (pc := 6) (r := 34) (ci := 1) (j := 18) rfl lk_RX1_53 rfl rfl rfl dX1_restore_6 ?_
  refine G_iload_n (pc := 9) rfl dX1_restore_9 ?_
  refine G_aload_n (pc := 10) rfl dX1_restore_10 ?_
  refine G_getR (pc := 11) (r := 24) (ci := 1) (j := 11) rfl lk_RX1_31 rfl rfl rfl dX1_restore_11 ?_
  refine G_iconst (pc := 14) (v := 0) (by decide) dX1_restore_14 ?_
  refine G_bipush (pc := 15) (v := 6) (by decide) dX1_restore_15 ?_
  refine G_copy (pc := 17) (x := 34) (y := 24) rfl rfl (by decide) (by decide) (by decide) (by decide) (by decide) wf_50 wf_51 wf_52 wf_53 (Nat.le_of_ble_eq_true rfl) dX1_restore_17 ?_
  refine G_aload_n (pc := 20) rfl dX1_restore_20 ?_
  refine G_aload_n (pc := 21) rfl dX1_restore_21 ?_
  refine G_getR (pc := 22) (r := 34) (ci := 1) (j := 18) rfl lk_RX1_53 rfl rfl rfl dX1_restore_22 ?_
  refine G_iload_n (pc := 25) rfl dX1_restore_25 ?_
  refine G_bipush (pc := 26) (v := 6) (by decide) dX1_restore_26 ?_
  refine G_iadd (pc := 28) (z := 6) (by decide) dX1_restore_28 ?_
  refine G_iald (pc := 29) (jj := 6) (v := 0) (by decide) rfl rfl (by unfold vp_in; decide) dX1_restore_29 ?_
  refine G_putI (pc := 30) (ci := 1) (j := 9) rfl lk_RX1_75 rfl rfl rfl trivial dX1_restore_30 ?_
  refine G_aload_n (pc := 33) rfl dX1_restore_33 ?_
  refine G_aload_n (pc := 34) rfl dX1_restore_34 ?_
  refine G_getR (pc := 35) (r := 34) (ci := 1) (j := 18) rfl lk_RX1_53 rfl rfl rfl dX1_restore_35 ?_
  refine G_iload_n (pc := 38) rfl dX1_restore_38 ?_
  refine G_bipush (pc := 39) (v := 6) (by decide) dX1_restore_39 ?_
  refine G_iadd (pc := 41) (z := 6) (by decide) dX1_restore_41 ?_
  refine G_iconst (pc := 42) (v := 1) (by decide) dX1_restore_42 ?_
  refine G_iadd (pc := 43) (z := 7) (by decide) dX1_restore_43 ?_
  refine G_iald (pc := 44) (jj := 7) (v := 0) (by decide) rfl rfl (by unfold vp_in; decide) dX1_restore_44 ?_
  refine G_putI (pc := 45) (ci := 1) (j := 1) rfl lk_RX1_60 rfl rfl rfl trivial dX1_restore_45 ?_
  exact G_vret (pc := 48) (Nat.le_of_ble_eq_true rfl) (Nat.le_of_ble_eq_true rfl) rfl dX1_restore_48 ⟨rfl, rfl⟩
set_option maxRecDepth 100000 in
set_option maxHeartbeats 4000000 in
theorem s417_X1_goRest  (d : Nat)   : G (d + 2) mX1_goRest 0 0 0 0 0 (gent 4 [.ref 19, .int 7]) [] SH0 RF0 (gup (gup (gcp I0 24 34 (0 : Int32).toNatClampNeg (0 : Int32).toNatClampNeg (6 : Int32).toNatClampNeg) 34 6 0) 34 7 0) (fun r h => r = some (.int 0) ∧ h = (SH0, RF0, (gup (gup (gup (gup (gup (gup (gup (gup (gup (gcp I0 24 34 (0 : Int32).toNatClampNeg (0 : Int32).toNatClampNeg (6 : Int32).toNatClampNeg) 34 6 0) 34 7 0) 19 1 1) 19 1 2) 19 1 3) 19 1 4) 19 1 5) 19 1 6) 19 1 7))) := by
  refine G_iconst (pc := 0) (v := 0) (by decide) dX1_goRest_0 ?_
  refine G_istore_n (pc := 1) (L1 := [some (.ref 19), some (.int 7), some (.int 0), none]) rfl rfl (by decide) dX1_goRest_1 ?_
  refine G_iconst (pc := 2) (v := 0) (by decide) dX1_goRest_2 ?_
  refine G_istore_n (pc := 3) (L1 := [some (.ref 19), some (.int 7), some (.int 0), some (.int 0)]) rfl rfl (by decide) dX1_goRest_3 ?_
  refine G_iload_n (pc := 4) rfl dX1_goRest_4 ?_
  refine G_iload_n (pc := 5) rfl dX1_goRest_5 ?_
  refine G_icmp_ge (pc := 6) (tgt := 38) (by decide) dX1_goRest_6 (fun z => absurd z (by decide)) (fun _ => ?_)
  refine G_aload_n (pc := 9) rfl dX1_goRest_9 ?_
  refine G_callV (pc := 10) (mc1 := 0) (ms1 := 0) (ci := 1) (mj := mX1_isOver) (vs := []) dX1_goRest_10 rfl rfl cm_X1_isOver wf_172 wf_17 wf_18 rfl (Nat.le_of_ble_eq_true rfl) (Nat.le_of_ble_eq_true rfl) (Nat.le_of_ble_eq_true rfl) (Nat.le_of_ble_eq_true rfl) (s348_X1_isOver  (d + 1)  ) ?_
  rintro _ _ ⟨rfl, rfl⟩
  dsimp only [Option.toList, List.cons_append, List.nil_append]
  refine G_if_ne (pc := 13) (tgt := 38) (by decide) dX1_goRest_13 (fun z => absurd (by decide) z) (fun _ => ?_)
  refine G_iload_n (pc := 16) rfl dX1_goRest_16 ?_
  refine G_aload_n (pc := 17) rfl dX1_goRest_17 ?_
  refine G_aload_n (pc := 18) rfl dX1_goRest_18 ?_
  refine G_callV (pc := 19) (mc1 := 0) (ms1 := 0) (ci := 1) (mj := mX1_restAct) (vs := []) dX1_goRest_19 rfl rfl cm_X1_restAct wf_173 wf_66 wf_67 rfl (Nat.le_of_ble_eq_true rfl) (Nat.le_of_ble_eq_true rfl) (Nat.le_of_ble_eq_true rfl) (Nat.le_of_ble_eq_true rfl) (s349_X1_restAct  (d + 1)  ) ?_
  rintro _ _ ⟨rfl, rfl⟩
  dsimp only [Option.toList, List.cons_append, List.nil_append]
  refine G_callV (pc := 22) (mc1 := 0) (ms1 := 0) (ci := 1) (mj := mX1_tell) (vs := [_]) dX1_goRest_22 rfl rfl cm_X1_tell wf_69 wf_71 wf_72 rfl (Nat.le_of_ble_eq_true rfl) (Nat.le_of_ble_eq_true rfl) (Nat.le_of_ble_eq_true rfl) (Nat.le_of_ble_eq_true rfl) (s143_X1_tell  d  ) ?_
  rintro _ _ ⟨rfl, rfl⟩
  dsimp only [Option.toList, List.cons_append, List.nil_append]
  refine G_aload_n (pc := 25) rfl dX1_goRest_25 ?_
  refine G_callV (pc := 26) (mc1 := 0) (ms1 := 0) (ci := 1) (mj := mX1_melt) (vs := []) dX1_goRest_26 rfl rfl cm_X1_melt wf_73 wf_75 wf_76 rfl (Nat.le_of_ble_eq_true rfl) (Nat.le_of_ble_eq_true rfl) (Nat.le_of_ble_eq_true rfl) (Nat.le_of_ble_eq_true rfl) (s145_X1_melt  (d + 1)  ) ?_
  rintro _ _ ⟨rfl, rfl⟩
  dsimp only [Option.toList, List.cons_append, List.nil_append]
  refine G_iadd (pc := 29) (z := 0) (by decide) dX1_goRest_29 ?_
  refine G_iadd (pc := 30) (z := 0) (by decide) dX1_goRest_30 ?_
  refine G_istore_n (pc := 31) (L1 := [some (.ref 19), some (.int 7), some (.int 0), some (.int 0)]) rfl rfl (by decide) dX1_goRest_31 ?_
  refine G_iinc (pc := 32) (v := 1) (w := 1) (L1 := [some (.ref 19), some (.int 7), some (.int 0), some (.int 1)]) (by decide) rfl rfl (by decide) rfl (by decide) dX1_goRest_32 ?_
  refine G_goto (pc := 35) (tgt := 4) (by decide) dX1_goRest_35 ?_
  refine G_iload_n (pc := 4) rfl dX1_goRest_4 ?_
  refine G_iload_n (pc := 5) rfl dX1_goRest_5 ?_
  refine G_icmp_ge (pc := 6) (tgt := 38) (by decide) dX1_goRest_6 (fun z => absurd z (by decide)) (fun _ => ?_)
  refine G_aload_n (pc := 9) rfl dX1_goRest_9 ?_
  refine G_callV (pc := 10) (mc1 := 0) (ms1 := 0) (ci := 1) (mj := mX1_isOver) (vs := []) dX1_goRest_10 rfl rfl cm_X1_isOver wf_172 wf_17 wf_18 rfl (Nat.le_of_ble_eq_true rfl) (Nat.le_of_ble_eq_true rfl) (Nat.le_of_ble_eq_true rfl) (Nat.le_of_ble_eq_true rfl) (s153_X1_isOver  (d + 1)  ) ?_
  rintro _ _ ⟨rfl, rfl⟩
  dsimp only [Option.toList, List.cons_append, List.nil_append]
  refine G_if_ne (pc := 13) (tgt := 38) (by decide) dX1_goRest_13 (fun z => absurd (by decide) z) (fun _ => ?_)
  refine G_iload_n (pc := 16) rfl dX1_goRest_16 ?_
  refine G_aload_n (pc := 17) rfl dX1_goRest_17 ?_
  refine G_aload_n (pc := 18) rfl dX1_goRest_18 ?_
  refine G_callV (pc := 19) (mc1 := 0) (ms1 := 0) (ci := 1) (mj := mX1_restAct) (vs := []) dX1_goRest_19 rfl rfl cm_X1_restAct wf_173 wf_66 wf_67 rfl (Nat.le_of_ble_eq_true rfl) (Nat.le_of_ble_eq_true rfl) (Nat.le_of_ble_eq_true rfl) (Nat.le_of_ble_eq_true rfl) (s350_X1_restAct  (d + 1)  ) ?_
  rintro _ _ ⟨rfl, rfl⟩
  dsimp only [Option.toList, List.cons_append, List.nil_append]
  refine G_callV (pc := 22) (mc1 := 0) (ms1 := 0) (ci := 1) (mj := mX1_tell) (vs := [_]) dX1_goRest_22 rfl rfl cm_X1_tell wf_69 wf_71 wf_72 rfl (Nat.le_of_ble_eq_true rfl) (Nat.le_of_ble_eq_true rfl) (Nat.le_of_ble_eq_true rfl) (Nat.le_of_ble_eq_true rfl) (s351_X1_tell  d  ) ?_
  rintro _ _ ⟨rfl, rfl⟩
  dsimp only [Option.toList, List.cons_append, List.nil_append]
  refine G_aload_n (pc := 25) rfl dX1_goRest_25 ?_
  refine G_callV (pc := 26) (mc1 := 0) (ms1 := 0) (ci := 1) (mj := mX1_melt) (vs := []) dX1_goRest_26 rfl rfl cm_X1_melt wf_73 wf_75 wf_76 rfl (Nat.le_of_ble_eq_true rfl) (Nat.le_of_ble_eq_true rfl) (Nat.le_of_ble_eq_true rfl) (Nat.le_of_ble_eq_true rfl) (s353_X1_melt  (d + 1)  ) ?_
  rintro _ _ ⟨rfl, rfl⟩
  dsimp only [Option.toList, List.cons_append, List.nil_append]
  refine G_iadd (pc := 29) (z := 0) (by decide) dX1_goRest_29 ?_
  refine G_iadd (pc := 30) (z := 0) (by decide) dX1_goRest_30 ?_
  refine G_istore_n (pc := 31) (L1 := [some (.ref 19), some (.int 7), some (.int 0), some (.int 1)]) rfl rfl (by decide) dX1_goRest_31 ?_
  refine G_iinc (pc := 32) (v := 1) (w := 2) (L1 := [some (.ref 19), some (.int 7), some (.int 0), some (.int 2)]) (by decide) rfl rfl (by decide) rfl (by decide) dX1_goRest_32 ?_
  refine G_goto (pc := 35) (tgt := 4) (by decide) dX1_goRest_35 ?_
  refine G_iload_n (pc := 4) rfl dX1_goRest_4 ?_
  refine G_iload_n (pc := 5) rfl dX1_goRest_5 ?_
  refine G_icmp_ge (pc := 6) (tgt := 38) (by decide) dX1_goRest_6 (fun z => absurd z (by decide)) (fun _ => ?_)
  refine G_aload_n (pc := 9) rfl dX1_goRest_9 ?_
  refine G_callV (pc := 10) (mc1 := 0) (ms1 := 0) (ci := 1) (mj := mX1_isOver) (vs := []) dX1_goRest_10 rfl rfl cm_X1_isOver wf_172 wf_17 wf_18 rfl (Nat.le_of_ble_eq_true rfl) (Nat.le_of_ble_eq_true rfl) (Nat.le_of_ble_eq_true rfl) (Nat.le_of_ble_eq_true rfl) (s354_X1_isOver  (d + 1)  ) ?_
  rintro _ _ ⟨rfl, rfl⟩
  dsimp only [Option.toList, List.cons_append, List.nil_append]
  refine G_if_ne (pc := 13) (tgt := 38) (by decide) dX1_goRest_13 (fun z => absurd (by decide) z) (fun _ => ?_)
  refine G_iload_n (pc := 16) rfl dX1_goRest_16 ?_
  refine G_aload_n (pc := 17) rfl dX1_goRest_17 ?_
  refine G_aload_n (pc := 18) rfl dX1_goRest_18 ?_
  refine G_callV (pc := 19) (mc1 := 0) (ms1 := 0) (ci := 1) (mj := mX1_restAct) (vs := []) dX1_goRest_19 rfl rfl cm_X1_restAct wf_173 wf_66 wf_67 rfl (Nat.le_of_ble_eq_true rfl) (Nat.le_of_ble_eq_true rfl) (Nat.le_of_ble_eq_true rfl) (Nat.le_of_ble_eq_true rfl) (s355_X1_restAct  (d + 1)  ) ?_
  rintro _ _ ⟨rfl, rfl⟩
  dsimp only [Option.toList, List.cons_append, List.nil_append]
  refine G_callV (pc := 22) (mc1 := 0) (ms1 := 0) (ci := 1) (mj := mX1_tell) (vs := [_]) dX1_goRest_22 rfl rfl cm_X1_tell wf_69 wf_71 wf_72 rfl (Nat.le_of_ble_eq_true rfl) (Nat.le_of_ble_eq_true rfl) (Nat.le_of_ble_eq_true rfl) (Nat.le_of_ble_eq_true rfl) (s356_X1_tell  d  ) ?_
  rintro _ _ ⟨rfl, rfl⟩
  dsimp only [Option.toList, List.cons_append, List.nil_append]
  refine G_aload_n (pc := 25) rfl dX1_goRest_25 ?_
  refine G_callV (pc := 26) (mc1 := 0) (ms1 := 0) (ci := 1) (mj := mX1_melt) (vs := []) dX1_goRest_26 rfl rfl cm_X1_melt wf_73 wf_75 wf_76 rfl (Nat.le_of_ble_eq_true rfl) (Nat.le_of_ble_eq_true rfl) (Nat.le_of_ble_eq_true rfl) (Nat.le_of_ble_eq_true rfl) (s358_X1_melt  (d + 1)  ) ?_
  rintro _ _ ⟨rfl, rfl⟩
  dsimp only [Option.toList, List.cons_append, List.nil_append]
  refine G_iadd (pc := 29) (z := 0) (by decide) dX1_goRest_29 ?_
  refine G_iadd (pc := 30) (z := 0) (by decide) dX1_goRest_30 ?_
  refine G_istore_n (pc := 31) (L1 := [some (.ref 19), some (.int 7), some (.int 0), some (.int 2)]) rfl rfl (by decide) dX1_goRest_31 ?_
  refine G_iinc (pc := 32) (v := 1) (w := 3) (L1 := [some (.ref 19), some (.int 7), some (.int 0), some (.int 3)]) (by decide) rfl rfl (by decide) rfl (by decide) dX1_goRest_32 ?_
  refine G_goto (pc := 35) (tgt := 4) (by decide) dX1_goRest_35 ?_
  refine G_iload_n (pc := 4) rfl dX1_goRest_4 ?_
  refine G_iload_n (pc := 5) rfl dX1_goRest_5 ?_
  refine G_icmp_ge (pc := 6) (tgt := 38) (by decide) dX1_goRest_6 (fun z => absurd z (by decide)) (fun _ => ?_)
  refine G_aload_n (pc := 9) rfl dX1_goRest_9 ?_
  refine G_callV (pc := 10) (mc1 := 0) (ms1 := 0) (ci := 1) (mj := mX1_isOver) (vs := []) dX1_goRest_10 rfl rfl cm_X1_isOver wf_172 wf_17 wf_18 rfl (Nat.le_of_ble_eq_true rfl) (Nat.le_of_ble_eq_true rfl) (Nat.le_of_ble_eq_true rfl) (Nat.le_of_ble_eq_true rfl) (s359_X1_isOver  (d + 1)  ) ?_
  rintro _ _ ⟨rfl, rfl⟩
  dsimp only [Option.toList, List.cons_append, List.nil_append]
  refine G_if_ne (pc := 13) (tgt := 38) (by decide) dX1_goRest_13 (fun z => absurd (by decide) z) (fun _ => ?_)
  refine G_iload_n (pc := 16) rfl dX1_goRest_16 ?_
  refine G_aload_n (pc := 17) rfl dX1_goRest_17 ?_
  refine G_aload_n (pc := 18) rfl dX1_goRest_18 ?_
  refine G_callV (pc := 19) (mc1 := 0) (ms1 := 0) (ci := 1) (mj := mX1_restAct) (vs := []) dX1_goRest_19 rfl rfl cm_X1_restAct wf_173 wf_66 wf_67 rfl (Nat.le_of_ble_eq_true rfl) (Nat.le_of_ble_eq_true rfl) (Nat.le_of_ble_eq_true rfl) (Nat.le_of_ble_eq_true rfl) (s360_X1_restAct  (d + 1)  ) ?_
  rintro _ _ ⟨rfl, rfl⟩
  dsimp only [Option.toList, List.cons_append, List.nil_append]
  refine G_callV (pc := 22) (mc1 := 0) (ms1 := 0) (ci := 1) (mj := mX1_tell) (vs := [_]) dX1_goRest_22 rfl rfl cm_X1_tell wf_69 wf_71 wf_72 rfl (Nat.le_of_ble_eq_true rfl) (Nat.le_of_ble_eq_true rfl) (Nat.le_of_ble_eq_true rfl) (Nat.le_of_ble_eq_true rfl) (s361_X1_tell  d  ) ?_
  rintro _ _ ⟨rfl, rfl⟩
  dsimp only [Option.toList, List.cons_append, List.nil_append]
  refine G_aload_n (pc := 25) rfl dX1_goRest_25 ?_
  refine G_callV (pc := 26) (mc1 := 0) (ms1 := 0) (ci := 1) (mj := mX1_melt) (vs := []) dX1_goRest_26 rfl rfl cm_X1_melt wf_73 wf_75 wf_76 rfl (Nat.le_of_ble_eq_true rfl) (Nat.le_of_ble_eq_true rfl) (Nat.le_of_ble_eq_true rfl) (Nat.le_of_ble_eq_true rfl) (s363_X1_melt  (d + 1)  ) ?_
  rintro _ _ ⟨rfl, rfl⟩
  dsimp only [Option.toList, List.cons_append, List.nil_append]
  refine G_iadd (pc := 29) (z := 0) (by decide) dX1_goRest_29 ?_
  refine G_iadd (pc := 30) (z := 0) (by decide) dX1_goRest_30 ?_
  refine G_istore_n (pc := 31) (L1 := [some (.ref 19), some (.int 7), some (.int 0), some (.int 3)]) rfl rfl (by decide) dX1_goRest_31 ?_
  refine G_iinc (pc := 32) (v := 1) (w := 4) (L1 := [some (.ref 19), some (.int 7), some (.int 0), some (.int 4)]) (by decide) rfl rfl (by decide) rfl (by decide) dX1_goRest_32 ?_
  refine G_goto (pc := 35) (tgt := 4) (by decide) dX1_goRest_35 ?_
  refine G_iload_n (pc := 4) rfl dX1_goRest_4 ?_
  refine G_iload_n (pc := 5) rfl dX1_goRest_5 ?_
  refine G_icmp_ge (pc := 6) (tgt := 38) (by decide) dX1_goRest_6 (fun z => absurd z (by decide)) (fun _ => ?_)
  refine G_aload_n (pc := 9) rfl dX1_goRest_9 ?_
  refine G_callV (pc := 10) (mc1 := 0) (ms1 := 0) (ci := 1) (mj := mX1_isOver) (vs := []) dX1_goRest_10 rfl rfl cm_X1_isOver wf_172 wf_17 wf_18 rfl (Nat.le_of_ble_eq_true rfl) (Nat.le_of_ble_eq_true rfl) (Nat.le_of_ble_eq_true rfl) (Nat.le_of_ble_eq_true rfl) (s364_X1_isOver  (d + 1)  ) ?_
  rintro _ _ ⟨rfl, rfl⟩
  dsimp only [Option.toList, List.cons_append, List.nil_append]
  refine G_if_ne (pc := 13) (tgt := 38) (by decide) dX1_goRest_13 (fun z => absurd (by decide) z) (fun _ => ?_)
  refine G_iload_n (pc := 16) rfl dX1_goRest_16 ?_
  refine G_aload_n (pc := 17) rfl dX1_goRest_17 ?_
  refine G_aload_n (pc := 18) rfl dX1_goRest_18 ?_
  refine G_callV (pc := 19) (mc1 := 0) (ms1 := 0) (ci := 1) (mj := mX1_restAct) (vs := []) dX1_goRest_19 rfl rfl cm_X1_restAct wf_173 wf_66 wf_67 rfl (Nat.le_of_ble_eq_true rfl) (Nat.le_of_ble_eq_true rfl) (Nat.le_of_ble_eq_true rfl) (Nat.le_of_ble_eq_true rfl) (s365_X1_restAct  (d + 1)  ) ?_
  rintro _ _ ⟨rfl, rfl⟩
  dsimp only [Option.toList, List.cons_append, List.nil_append]
  refine G_callV (pc := 22) (mc1 := 0) (ms1 := 0) (ci := 1) (mj := mX1_tell) (vs := [_]) dX1_goRest_22 rfl rfl cm_X1_tell wf_69 wf_71 wf_72 rfl (Nat.le_of_ble_eq_true rfl) (Nat.le_of_ble_eq_true rfl) (Nat.le_of_ble_eq_true rfl) (Nat.le_of_ble_eq_true rfl) (s366_X1_tell  d  ) ?_
  rintro _ _ ⟨rfl, rfl⟩
  dsimp only [Option.toList, List.cons_append, List.nil_append]
  refine G_aload_n (pc := 25) rfl dX1_goRest_25 ?_
  refine G_callV (pc := 26) (mc1 := 0) (ms1 := 0) (ci := 1) (mj := mX1_melt) (vs := []) dX1_goRest_26 rfl rfl cm_X1_melt wf_73 wf_75 wf_76 rfl (Nat.le_of_ble_eq_true rfl) (Nat.le_of_ble_eq_true rfl) (Nat.le_of_ble_eq_true rfl) (Nat.le_of_ble_eq_true rfl) (s368_X1_melt  (d + 1)  ) ?_
  rintro _ _ ⟨rfl, rfl⟩
  dsimp only [Option.toList, List.cons_append, List.nil_append]
  refine G_iadd (pc := 29) (z := 0) (by decide) dX1_goRest_29 ?_
  refine G_iadd (pc := 30) (z := 0) (by decide) dX1_goRest_30 ?_
  refine G_istore_n (pc := 31) (L1 := [some (.ref 19), some (.int 7), some (.int 0), some (.int 4)]) rfl rfl (by decide) dX1_goRest_31 ?_
  refine G_iinc (pc := 32) (v := 1) (w := 5) (L1 := [some (.ref 19), some (.int 7), some (.int 0), some (.int 5)]) (by decide) rfl rfl (by decide) rfl (by decide) dX1_goRest_32 ?_
  refine G_goto (pc := 35) (tgt := 4) (by decide) dX1_goRest_35 ?_
  refine G_iload_n (pc := 4) rfl dX1_goRest_4 ?_
  refine G_iload_n (pc := 5) rfl dX1_goRest_5 ?_
  refine G_icmp_ge (pc := 6) (tgt := 38) (by decide) dX1_goRest_6 (fun z => absurd z (by decide)) (fun _ => ?_)
  refine G_aload_n (pc := 9) rfl dX1_goRest_9 ?_
  refine G_callV (pc := 10) (mc1 := 0) (ms1 := 0) (ci := 1) (mj := mX1_isOver) (vs := []) dX1_goRest_10 rfl rfl cm_X1_isOver wf_172 wf_17 wf_18 rfl (Nat.le_of_ble_eq_true rfl) (Nat.le_of_ble_eq_true rfl) (Nat.le_of_ble_eq_true rfl) (Nat.le_of_ble_eq_true rfl) (s369_X1_isOver  (d + 1)  ) ?_
  rintro _ _ ⟨rfl, rfl⟩
  dsimp only [Option.toList, List.cons_append, List.nil_append]
  refine G_if_ne (pc := 13) (tgt := 38) (by decide) dX1_goRest_13 (fun z => absurd (by decide) z) (fun _ => ?_)
  refine G_iload_n (pc := 16) rfl dX1_goRest_16 ?_
  refine G_aload_n (pc := 17) rfl dX1_goRest_17 ?_
  refine G_aload_n (pc := 18) rfl dX1_goRest_18 ?_
  refine G_callV (pc := 19) (mc1 := 0) (ms1 := 0) (ci := 1) (mj := mX1_restAct) (vs := []) dX1_goRest_19 rfl rfl cm_X1_restAct wf_173 wf_66 wf_67 rfl (Nat.le_of_ble_eq_true rfl) (Nat.le_of_ble_eq_true rfl) (Nat.le_of_ble_eq_true rfl) (Nat.le_of_ble_eq_true rfl) (s370_X1_restAct  (d + 1)  ) ?_
  rintro _ _ ⟨rfl, rfl⟩
  dsimp only [Option.toList, List.cons_append, List.nil_append]
  refine G_callV (pc := 22) (mc1 := 0) (ms1 := 0) (ci := 1) (mj := mX1_tell) (vs := [_]) dX1_goRest_22 rfl rfl cm_X1_tell wf_69 wf_71 wf_72 rfl (Nat.le_of_ble_eq_true rfl) (Nat.le_of_ble_eq_true rfl) (Nat.le_of_ble_eq_true rfl) (Nat.le_of_ble_eq_true rfl) (s371_X1_tell  d  ) ?_
  rintro _ _ ⟨rfl, rfl⟩
  dsimp only [Option.toList, List.cons_append, List.nil_append]
  refine G_aload_n (pc := 25) rfl dX1_goRest_25 ?_
  refine G_callV (pc := 26) (mc1 := 0) (ms1 := 0) (ci := 1) (mj := mX1_melt) (vs := []) dX1_goRest_26 rfl rfl cm_X1_melt wf_73 wf_75 wf_76 rfl (Nat.le_of_ble_eq_true rfl) (Nat.le_of_ble_eq_true rfl) (Nat.le_of_ble_eq_true rfl) (Nat.le_of_ble_eq_true rfl) (s373_X1_melt  (d + 1)  ) ?_
  rintro _ _ ⟨rfl, rfl⟩
  dsimp only [Option.toList, List.cons_append, List.nil_append]
  refine G_iadd (pc := 29) (z := 0) (by decide) dX1_goRest_29 ?_
  refine G_iadd (pc := 30) (z := 0) (by decide) dX1_goRest_30 ?_
  refine G_istore_n (pc := 31) (L1 := [some (.ref 19), some (.int 7), some (.int 0), some (.int 5)]) rfl rfl (by decide) dX1_goRest_31 ?_
  refine G_iinc (pc := 32) (v := 1) (w := 6) (L1 := [some (.ref 19), some (.int 7), some (.int 0), some (.int 6)]) (by decide) rfl rfl (by decide) rfl (by decide) dX1_goRest_32 ?_
  refine G_goto (pc := 35) (tgt := 4) (by decide) dX1_goRest_35 ?_
  refine G_iload_n (pc := 4) rfl dX1_goRest_4 ?_
  refine G_iload_n (pc := 5) rfl dX1_goRest_5 ?_
  refine G_icmp_ge (pc := 6) (tgt := 38) (by decide) dX1_goRest_6 (fun z => absurd z (by decide)) (fun _ => ?_)
  refine G_aload_n (pc := 9) rfl dX1_goRest_9 ?_
  refine G_callV (pc := 10) (mc1 := 0) (ms1 := 0) (ci := 1) (mj := mX1_isOver) (vs := []) dX1_goRest_10 rfl rfl cm_X1_isOver wf_172 wf_17 wf_18 rfl (Nat.le_of_ble_eq_true rfl) (Nat.le_of_ble_eq_true rfl) (Nat.le_of_ble_eq_true rfl) (Nat.le_of_ble_eq_true rfl) (s374_X1_isOver  (d + 1)  ) ?_
  rintro _ _ ⟨rfl, rfl⟩
  dsimp only [Option.toList, List.cons_append, List.nil_append]
  refine G_if_ne (pc := 13) (tgt := 38) (by decide) dX1_goRest_13 (fun z => absurd (by decide) z) (fun _ => ?_)
  refine G_iload_n (pc := 16) rfl dX1_goRest_16 ?_
  refine G_aload_n (pc := 17) rfl dX1_goRest_17 ?_
  refine G_aload_n (pc := 18) rfl dX1_goRest_18 ?_
  refine G_callV (pc := 19) (mc1 := 0) (ms1 := 0) (ci := 1) (mj := mX1_restAct) (vs := []) dX1_goRest_19 rfl rfl cm_X1_restAct wf_173 wf_66 wf_67 rfl (Nat.le_of_ble_eq_true rfl) (Nat.le_of_ble_eq_true rfl) (Nat.le_of_ble_eq_true rfl) (Nat.le_of_ble_eq_true rfl) (s375_X1_restAct  (d + 1)  ) ?_
  rintro _ _ ⟨rfl, rfl⟩
  dsimp only [Option.toList, List.cons_append, List.nil_append]
  refine G_callV (pc := 22) (mc1 := 0) (ms1 := 0) (ci := 1) (mj := mX1_tell) (vs := [_]) dX1_goRest_22 rfl rfl cm_X1_tell wf_69 wf_71 wf_72 rfl (Nat.le_of_ble_eq_true rfl) (Nat.le_of_ble_eq_true rfl) (Nat.le_of_ble_eq_true rfl) (Nat.le_of_ble_eq_true rfl) (s376_X1_tell  d  ) ?_
  rintro _ _ ⟨rfl, rfl⟩
  dsimp only [Option.toList, List.cons_append, List.nil_append]
  refine G_aload_n (pc := 25) rfl dX1_goRest_25 ?_
  refine G_callV (pc := 26) (mc1 := 0) (ms1 := 0) (ci := 1) (mj := mX1_melt) (vs := []) dX1_goRest_26 rfl rfl cm_X1_melt wf_73 wf_75 wf_76 rfl (Nat.le_of_ble_eq_true rfl) (Nat.le_of_ble_eq_true rfl) (Nat.le_of_ble_eq_true rfl) (Nat.le_of_ble_eq_true rfl) (s378_X1_melt  (d + 1)  ) ?_
  rintro _ _ ⟨rfl, rfl⟩
  dsimp only [Option.toList, List.cons_append, List.nil_append]
  refine G_iadd (pc := 29) (z := 0) (by decide) dX1_goRest_29 ?_
  refine G_iadd (pc := 30) (z := 0) (by decide) dX1_goRest_30 ?_
  refine G_istore_n (pc := 31) (L1 := [some (.ref 19), some (.int 7), some (.int 0), some (.int 6)]) rfl rfl (by decide) dX1_goRest_31 ?_
  refine G_iinc (pc := 32) (v := 1) (w := 7) (L1 := [some (.ref 19), some (.int 7), some (.int 0), some (.int 7)]) (by decide) rfl rfl (by decide) rfl (by decide) dX1_goRest_32 ?_
  refine G_goto (pc := 35) (tgt := 4) (by decide) dX1_goRest_35 ?_
  refine G_iload_n (pc := 4) rfl dX1_goRest_4 ?_
  refine G_iload_n (pc := 5) rfl dX1_goRest_5 ?_
  refine G_icmp_ge (pc := 6) (tgt := 38) (by decide) dX1_goRest_6 (fun _ => ?_) (fun z => absurd (by decide) z)
  refine G_iload_n (pc := 38) rfl dX1_goRest_38 ?_
  exact G_iret (pc := 39) (Nat.le_of_ble_eq_true rfl) (Nat.le_of_ble_eq_true rfl) rfl dX1_goRest_39 ⟨rfl, rfl⟩
set_option maxRecDepth 100000 in
set_option maxHeartbeats 4000000 in
theorem s418_X1_restore  (d : Nat)   : G (d + 1) mX1_restore 0 0 0 0 0 (gent 3 [.ref 19, .int 0]) [] SH0 RF0 (gup (gup (gup (gup (gup (gup (gup (gup (gup (gcp I0 24 34 (0 : Int32).toNatClampNeg (0 : Int32).toNatClampNeg (6 : Int32).toNatClampNeg) 34 6 0) 34 7 0) 19 1 1) 19 1 2) 19 1 3) 19 1 4) 19 1 5) 19 1 6) 19 1 7) (fun r h => r = none ∧ h = (SH0, RF0, (gup (gup (gcp (gup (gup (gup (gup (gup (gup (gup (gup (gup (gcp I0 24 34 (0 : Int32).toNatClampNeg (0 : Int32).toNatClampNeg (6 : Int32).toNatClampNeg) 34 6 0) 34 7 0) 19 1 1) 19 1 2) 19 1 3) 19 1 4) 19 1 5) 19 1 6) 19 1 7) 34 24 (0 : Int32).toNatClampNeg (0 : Int32).toNatClampNeg (6 : Int32).toNatClampNeg) 19 9 0) 19 1 0))) := by
  refine G_iload_n (pc := 0) rfl dX1_restore_0 ?_
  refine G_bipush (pc := 1) (v := 8) (by decide) dX1_restore_1 ?_
  refine G_imul (pc := 3) (z := 0) (by decide) dX1_restore_3 ?_
  refine G_istore_n (pc := 4) (L1 := [some (.ref 19), some (.int 0), some (.int 0)]) rfl rfl (by decide) dX1_restore_4 ?_
  refine G_aload_n (pc := 5) rfl dX1_restore_5 ?_
  refine G_getR (pc := 6) (r := 34) (ci := 1) (j := 18) rfl lk_RX1_53 rfl rfl rfl dX1_restore_6 ?_
  refine G_iload_n (pc := 9) rfl dX1_restore_9 ?_
  refine G_aload_n (pc := 10) rfl dX1_restore_10 ?_
  refine G_getR (pc := 11) (r := 24) (ci := 1) (j := 11) rfl lk_RX1_31 rfl rfl rfl dX1_restore_11 ?_
  refine G_iconst (pc := 14) (v := 0) (by decide) dX1_restore_14 ?_
  refine G_bipush (pc := 15) (v := 6) (by decide) dX1_restore_15 ?_
  refine G_copy (pc := 17) (x := 34) (y := 24) rfl rfl (by decide) (by decide) (by decide) (by decide) (by decide) wf_50 wf_51 wf_52 wf_53 (Nat.le_of_ble_eq_true rfl) dX1_restore_17 ?_
  refine G_aload_n (pc := 20) rfl dX1_restore_20 ?_
  refine G_aload_n (pc := 21) rfl dX1_restore_21 ?_
  refine G_getR (pc := 22) (r := 34) (ci := 1) (j := 18) rfl lk_RX1_53 rfl rfl rfl dX1_restore_22 ?_
  refine G_iload_n (pc := 25) rfl dX1_restore_25 ?_
  refine G_bipush (pc := 26) (v := 6) (by decide) dX1_restore_26 ?_
  refine G_iadd (pc := 28) (z := 6) (by decide) dX1_restore_28 ?_
  refine G_iald (pc := 29) (jj := 6) (v := 0) (by decide) rfl rfl (by unfold vp_in; decide) dX1_restore_29 ?_
  refine G_putI (pc := 30) (ci := 1) (j := 9) rfl lk_RX1_75 rfl rfl rfl trivial dX1_restore_30 ?_
  refine G_aload_n (pc := 33) rfl dX1_restore_33 ?_
  refine G_aload_n (pc := 34) rfl dX1_restore_34 ?_
  refine G_getR (pc := 35) (r := 34) (ci := 1) (j := 18) rfl lk_RX1_53 rfl rfl rfl dX1_restore_35 ?_
  refine G_iload_n (pc := 38) rfl dX1_restore_38 ?_
  refine G_bipush (pc := 39) (v := 6) (by decide) dX1_restore_39 ?_
  refine G_iadd (pc := 41) (z := 6) (by decide) dX1_restore_41 ?_
  refine G_iconst (pc := 42) (v := 1) (by decide) dX1_restore_42 ?_
  refine G_iadd (pc := 43) (z := 7) (by decide) dX1_restore_43 ?_
  refine G_iald (pc := 44) (jj := 7) (v := 0) (by decide) rfl rfl (by unfold vp_in; decide) dX1_restore_44 ?_
  refine G_putI (pc := 45) (ci := 1) (j := 1) rfl lk_RX1_60 rfl rfl rfl trivial dX1_restore_45 ?_
  exact G_vret (pc := 48) (Nat.le_of_ble_eq_true rfl) (Nat.le_of_ble_eq_true rfl) rfl dX1_restore_48 ⟨rfl, rfl⟩
set_option maxRecDepth 100000 in
set_option maxHeartbeats 4000000 in
theorem s419_X1_goRest  (d : Nat)   : G (d + 2) mX1_goRest 0 0 0 0 0 (gent 4 [.ref 19, .int 8]) [] SH0 RF0 (gup (gup (gcp I0 24 34 (0 : Int32).toNatClampNeg (0 : Int32).toNatClampNeg (6 : Int32).toNatClampNeg) 34 6 0) 34 7 0) (fun r h => r = some (.int 0) ∧ h = (SH0, RF0, (gup (gup (gup (gup (gup (gup (gup (gup (gup (gup (gcp I0 24 34 (0 : Int32).toNatClampNeg (0 : Int32).toNatClampNeg (6 : Int32).toNatClampNeg) 34 6 0) 34 7 0) 19 1 1) 19 1 2) 19 1 3) 19 1 4) 19 1 5) 19 1 6) 19 1 7) 19 1 8))) := by
  refine G_iconst (pc := 0) (v := 0) (by decide) dX1_goRest_0 ?_
  refine G_istore_n (pc := 1) (L1 := [some (.ref 19), some (.int 8), some (.int 0), none]) rfl rfl (by decide) dX1_goRest_1 ?_
  refine G_iconst (pc := 2) (v := 0) (by decide) dX1_goRest_2 ?_
  refine G_istore_n (pc := 3) (L1 := [some (.ref 19), some (.int 8), some (.int 0), some (.int 0)]) rfl rfl (by decide) dX1_goRest_3 ?_
  refine G_iload_n (pc := 4) rfl dX1_goRest_4 ?_
  refine G_iload_n (pc := 5) rfl dX1_goRest_5 ?_
  refine G_icmp_ge (pc := 6) (tgt := 38) (by decide) dX1_goRest_6 (fun z => absurd z (by decide)) (fun _ => ?_)
  refine G_aload_n (pc := 9) rfl dX1_goRest_9 ?_
  refine G_callV (pc := 10) (mc1 := 0) (ms1 := 0) (ci := 1) (mj := mX1_isOver) (vs := []) dX1_goRest_10 rfl rfl cm_X1_isOver wf_172 wf_17 wf_18 rfl (Nat.le_of_ble_eq_true rfl) (Nat.le_of_ble_eq_true rfl) (Nat.le_of_ble_eq_true rfl) (Nat.le_of_ble_eq_true rfl) (s348_X1_isOver  (d + 1)  ) ?_
  rintro _ _ ⟨rfl, rfl⟩
  dsimp only [Option.toList, List.cons_append, List.nil_append]
  refine G_if_ne (pc := 13) (tgt := 38) (by decide) dX1_goRest_13 (fun z => absurd (by decide) z) (fun _ => ?_)
  refine G_iload_n (pc := 16) rfl dX1_goRest_16 ?_
  refine G_aload_n (pc := 17) rfl dX1_goRest_17 ?_
  refine G_aload_n (pc := 18) rfl dX1_goRest_18 ?_
  refine G_callV (pc := 19) (mc1 := 0) (ms1 := 0) (ci := 1) (mj := mX1_restAct) (vs := []) dX1_goRest_19 rfl rfl cm_X1_restAct wf_173 wf_66 wf_67 rfl (Nat.le_of_ble_eq_true rfl) (Nat.le_of_ble_eq_true rfl) (Nat.le_of_ble_eq_true rfl) (Nat.le_of_ble_eq_true rfl) (s349_X1_restAct  (d + 1)  ) ?_
  rintro _ _ ⟨rfl, rfl⟩
  dsimp only [Option.toList, List.cons_append, List.nil_append]
  refine G_callV (pc := 22) (mc1 := 0) (ms1 := 0) (ci := 1) (mj := mX1_tell) (vs := [_]) dX1_goRest_22 rfl rfl cm_X1_tell wf_69 wf_71 wf_72 rfl (Nat.le_of_ble_eq_true rfl) (Nat.le_of_ble_eq_true rfl) (Nat.le_of_ble_eq_true rfl) (Nat.le_of_ble_eq_true rfl) (s143_X1_tell  d  ) ?_
  rintro _ _ ⟨rfl, rfl⟩
  dsimp only [Option.toList, List.cons_append, List.nil_append]
  refine G_aload_n (pc := 25) rfl dX1_goRest_25 ?_
  refine G_callV (pc := 26) (mc1 := 0) (ms1 := 0) (ci := 1) (mj := mX1_melt) (vs := []) dX1_goRest_26 rfl rfl cm_X1_melt wf_73 wf_75 wf_76 rfl (Nat.le_of_ble_eq_true rfl) (Nat.le_of_ble_eq_true rfl) (Nat.le_of_ble_eq_true rfl) (Nat.le_of_ble_eq_true rfl) (s145_X1_melt  (d + 1)  ) ?_
  rintro _ _ ⟨rfl, rfl⟩
  dsimp only [Option.toList, List.cons_append, List.nil_append]
  refine G_iadd (pc := 29) (z := 0) (by decide) dX1_goRest_29 ?_
  refine G_iadd (pc := 30) (z := 0) (by decide) dX1_goRest_30 ?_
  refine G_istore_n (pc := 31) (L1 := [some (.ref 19), some (.int 8), some (.int 0), some (.int 0)]) rfl rfl (by decide) dX1_goRest_31 ?_
  refine G_iinc (pc := 32) (v := 1) (w := 1) (L1 := [some (.ref 19), some (.int 8), some (.int 0), some (.int 1)]) (by decide) rfl rfl (by decide) rfl (by decide) dX1_goRest_32 ?_
  refine G_goto (pc := 35) (tgt := 4) (by decide) dX1_goRest_35 ?_
  refine G_iload_n (pc := 4) rfl dX1_goRest_4 ?_
  refine G_iload_n (pc := 5) rfl dX1_goRest_5 ?_
  refine G_icmp_ge (pc := 6) (tgt := 38) (by decide) dX1_goRest_6 (fun z => absurd z (by decide)) (fun _ => ?_)
  refine G_aload_n (pc := 9) rfl dX1_goRest_9 ?_
  refine G_callV (pc := 10) (mc1 := 0) (ms1 := 0) (ci := 1) (mj := mX1_isOver) (vs := []) dX1_goRest_10 rfl rfl cm_X1_isOver wf_172 wf_17 wf_18 rfl (Nat.le_of_ble_eq_true rfl) (Nat.le_of_ble_eq_true rfl) (Nat.le_of_ble_eq_true rfl) (Nat.le_of_ble_eq_true rfl) (s153_X1_isOver  (d + 1)  ) ?_
  rintro _ _ ⟨rfl, rfl⟩
  dsimp only [Option.toList, List.cons_append, List.nil_append]
  refine G_if_ne (pc := 13) (tgt := 38) (by decide) dX1_goRest_13 (fun z => absurd (by decide) z) (fun _ => ?_)
  refine G_iload_n (pc := 16) rfl dX1_goRest_16 ?_
  refine G_aload_n (pc := 17) rfl dX1_goRest_17 ?_
  refine G_aload_n (pc := 18) rfl dX1_goRest_18 ?_
  refine G_callV (pc := 19) (mc1 := 0) (ms1 := 0) (ci := 1) (mj := mX1_restAct) (vs := []) dX1_goRest_19 rfl rfl cm_X1_restAct wf_173 wf_66 wf_67 rfl (Nat.le_of_ble_eq_true rfl) (Nat.le_of_ble_eq_true rfl) (Nat.le_of_ble_eq_true rfl) (Nat.le_of_ble_eq_true rfl) (s350_X1_restAct  (d + 1)  ) ?_
  rintro _ _ ⟨rfl, rfl⟩
  dsimp only [Option.toList, List.cons_append, List.nil_append]
  refine G_callV (pc := 22) (mc1 := 0) (ms1 := 0) (ci := 1) (mj := mX1_tell) (vs := [_]) dX1_goRest_22 rfl rfl cm_X1_tell wf_69 wf_71 wf_72 rfl (Nat.le_of_ble_eq_true rfl) (Nat.le_of_ble_eq_true rfl) (Nat.le_of_ble_eq_true rfl) (Nat.le_of_ble_eq_true rfl) (s351_X1_tell  d  ) ?_
  rintro _ _ ⟨rfl, rfl⟩
  dsimp only [Option.toList, List.cons_append, List.nil_append]
  refine G_aload_n (pc := 25) rfl dX1_goRest_25 ?_
  refine G_callV (pc := 26) (mc1 := 0) (ms1 := 0) (ci := 1) (mj := mX1_melt) (vs := []) dX1_goRest_26 rfl rfl cm_X1_melt wf_73 wf_75 wf_76 rfl (Nat.le_of_ble_eq_true rfl) (Nat.le_of_ble_eq_true rfl) (Nat.le_of_ble_eq_true rfl) (Nat.le_of_ble_eq_true rfl) (s353_X1_melt  (d + 1)  ) ?_
  rintro _ _ ⟨rfl, rfl⟩
  dsimp only [Option.toList, List.cons_append, List.nil_append]
  refine G_iadd (pc := 29) (z := 0) (by decide) dX1_goRest_29 ?_
  refine G_iadd (pc := 30) (z := 0) (by decide) dX1_goRest_30 ?_
  refine G_istore_n (pc := 31) (L1 := [some (.ref 19), some (.int 8), some (.int 0), some (.int 1)]) rfl rfl (by decide) dX1_goRest_31 ?_
  refine G_iinc (pc := 32) (v := 1) (w := 2) (L1 := [some (.ref 19), some (.int 8), some (.int 0), some (.int 2)]) (by decide) rfl rfl (by decide) rfl (by decide) dX1_goRest_32 ?_
  refine G_goto (pc := 35) (tgt := 4) (by decide) dX1_goRest_35 ?_
  refine G_iload_n (pc := 4) rfl dX1_goRest_4 ?_
  refine G_iload_n (pc := 5) rfl dX1_goRest_5 ?_
  refine G_icmp_ge (pc := 6) (tgt := 38) (by decide) dX1_goRest_6 (fun z => absurd z (by decide)) (fun _ => ?_)
  refine G_aload_n (pc := 9) rfl dX1_goRest_9 ?_
  refine G_callV (pc := 10) (mc1 := 0) (ms1 := 0) (ci := 1) (mj := mX1_isOver) (vs := []) dX1_goRest_10 rfl rfl cm_X1_isOver wf_172 wf_17 wf_18 rfl (Nat.le_of_ble_eq_true rfl) (Nat.le_of_ble_eq_true rfl) (Nat.le_of_ble_eq_true rfl) (Nat.le_of_ble_eq_true rfl) (s354_X1_isOver  (d + 1)  ) ?_
  rintro _ _ ⟨rfl, rfl⟩
  dsimp only [Option.toList, List.cons_append, List.nil_append]
  refine G_if_ne (pc := 13) (tgt := 38) (by decide) dX1_goRest_13 (fun z => absurd (by decide) z) (fun _ => ?_)
  refine G_iload_n (pc := 16) rfl dX1_goRest_16 ?_
  refine G_aload_n (pc := 17) rfl dX1_goRest_17 ?_
  refine G_aload_n (pc := 18) rfl dX1_goRest_18 ?_
  refine G_callV (pc := 19) (mc1 := 0) (ms1 := 0) (ci := 1) (mj := mX1_restAct) (vs := []) dX1_goRest_19 rfl rfl cm_X1_restAct wf_173 wf_66 wf_67 rfl (Nat.le_of_ble_eq_true rfl) (Nat.le_of_ble_eq_true rfl) (Nat.le_of_ble_eq_true rfl) (Nat.le_of_ble_eq_true rfl) (s355_X1_restAct  (d + 1)  ) ?_
  rintro _ _ ⟨rfl, rfl⟩
  dsimp only [Option.toList, List.cons_append, List.nil_append]
  refine G_callV (pc := 22) (mc1 := 0) (ms1 := 0) (ci := 1) (mj := mX1_tell) (vs := [_]) dX1_goRest_22 rfl rfl cm_X1_tell wf_69 wf_71 wf_72 rfl (Nat.le_of_ble_eq_true rfl) (Nat.le_of_ble_eq_true rfl) (Nat.le_of_ble_eq_true rfl) (Nat.le_of_ble_eq_true rfl) (s356_X1_tell  d  ) ?_
  rintro _ _ ⟨rfl, rfl⟩
  dsimp only [Option.toList, List.cons_append, List.nil_append]
  refine G_aload_n (pc := 25) rfl dX1_goRest_25 ?_
  refine G_callV (pc := 26) (mc1 := 0) (ms1 := 0) (ci := 1) (mj := mX1_melt) (vs := []) dX1_goRest_26 rfl rfl cm_X1_melt wf_73 wf_75 wf_76 rfl (Nat.le_of_ble_eq_true rfl) (Nat.le_of_ble_eq_true rfl) (Nat.le_of_ble_eq_true rfl) (Nat.le_of_ble_eq_true rfl) (s358_X1_melt  (d + 1)  ) ?_
  rintro _ _ ⟨rfl, rfl⟩
  dsimp only [Option.toList, List.cons_append, List.nil_append]
  refine G_iadd (pc := 29) (z := 0) (by decide) dX1_goRest_29 ?_
  refine G_iadd (pc := 30) (z := 0) (by decide) dX1_goRest_30 ?_
  refine G_istore_n (pc := 31) (L1 := [some (.ref 19), some (.int 8), some (.int 0), some (.int 2)]) rfl rfl (by decide) dX1_goRest_31 ?_
  refine G_iinc (pc := 32) (v := 1) (w := 3) (L1 := [some (.ref 19), some (.int 8), some (.int 0), some (.int 3)]) (by decide) rfl rfl (by decide) rfl (by decide) dX1_goRest_32 ?_
  refine G_goto (pc := 35) (tgt := 4) (by decide) dX1_goRest_35 ?_
  refine G_iload_n (pc := 4) rfl dX1_goRest_4 ?_
  refine G_iload_n (pc := 5) rfl dX1_goRest_5 ?_
  refine G_icmp_ge (pc := 6) (tgt := 38) (by decide) dX1_goRest_6 (fun z => absurd z (by decide)) (fun _ => ?_)
  refine G_aload_n (pc := 9) rfl dX1_goRest_9 ?_
  refine G_callV (pc := 10) (mc1 := 0) (ms1 := 0) (ci := 1) (mj := mX1_isOver) (vs := []) dX1_goRest_10 rfl rfl cm_X1_isOver wf_172 wf_17 wf_18 rfl (Nat.le_of_ble_eq_true rfl) (Nat.le_of_ble_eq_true rfl) (Nat.le_of_ble_eq_true rfl) (Nat.le_of_ble_eq_true rfl) (s359_X1_isOver  (d + 1)  ) ?_
  rintro _ _ ⟨rfl, rfl⟩
  dsimp only [Option.toList, List.cons_append, List.nil_append]
  refine G_if_ne (pc := 13) (tgt := 38) (by decide) dX1_goRest_13 (fun z => absurd (by decide) z) (fun _ => ?_)
  refine G_iload_n (pc := 16) rfl dX1_goRest_16 ?_
  refine G_aload_n (pc := 17) rfl dX1_goRest_17 ?_
  refine G_aload_n (pc := 18) rfl dX1_goRest_18 ?_
  refine G_callV (pc := 19) (mc1 := 0) (ms1 := 0) (ci := 1) (mj := mX1_restAct) (vs := []) dX1_goRest_19 rfl rfl cm_X1_restAct wf_173 wf_66 wf_67 rfl (Nat.le_of_ble_eq_true rfl) (Nat.le_of_ble_eq_true rfl) (Nat.le_of_ble_eq_true rfl) (Nat.le_of_ble_eq_true rfl) (s360_X1_restAct  (d + 1)  ) ?_
  rintro _ _ ⟨rfl, rfl⟩
  dsimp only [Option.toList, List.cons_append, List.nil_append]
  refine G_callV (pc := 22) (mc1 := 0) (ms1 := 0) (ci := 1) (mj := mX1_tell) (vs := [_]) dX1_goRest_22 rfl rfl cm_X1_tell wf_69 wf_71 wf_72 rfl (Nat.le_of_ble_eq_true rfl) (Nat.le_of_ble_eq_true rfl) (Nat.le_of_ble_eq_true rfl) (Nat.le_of_ble_eq_true rfl) (s361_X1_tell  d  ) ?_
  rintro _ _ ⟨rfl, rfl⟩
  dsimp only [Option.toList, List.cons_append, List.nil_append]
  refine G_aload_n (pc := 25) rfl dX1_goRest_25 ?_
  refine G_callV (pc := 26) (mc1 := 0) (ms1 := 0) (ci := 1) (mj := mX1_melt) (vs := []) dX1_goRest_26 rfl rfl cm_X1_melt wf_73 wf_75 wf_76 rfl (Nat.le_of_ble_eq_true rfl) (Nat.le_of_ble_eq_true rfl) (Nat.le_of_ble_eq_true rfl) (Nat.le_of_ble_eq_true rfl) (s363_X1_melt  (d + 1)  ) ?_
  rintro _ _ ⟨rfl, rfl⟩
  dsimp only [Option.toList, List.cons_append, List.nil_append]
  refine G_iadd (pc := 29) (z := 0) (by decide) dX1_goRest_29 ?_
  refine G_iadd (pc := 30) (z := 0) (by decide) dX1_goRest_30 ?_
  refine G_istore_n (pc := 31) (L1 := [some (.ref 19), some (.int 8), some (.int 0), some (.int 3)]) rfl rfl (by decide) dX1_goRest_31 ?_
  refine G_iinc (pc := 32) (v := 1) (w := 4) (L1 := [some (.ref 19), some (.int 8), some (.int 0), some (.int 4)]) (by decide) rfl rfl (by decide) rfl (by decide) dX1_goRest_32 ?_
  refine G_goto (pc := 35) (tgt := 4) (by decide) dX1_goRest_35 ?_
  refine G_iload_n (pc := 4) rfl dX1_goRest_4 ?_
  refine G_iload_n (pc := 5) rfl dX1_goRest_5 ?_
  refine G_icmp_ge (pc := 6) (tgt := 38) (by decide) dX1_goRest_6 (fun z => absurd z (by decide)) (fun _ => ?_)
  refine G_aload_n (pc := 9) rfl dX1_goRest_9 ?_
  refine G_callV (pc := 10) (mc1 := 0) (ms1 := 0) (ci := 1) (mj := mX1_isOver) (vs := []) dX1_goRest_10 rfl rfl cm_X1_isOver wf_172 wf_17 wf_18 rfl (Nat.le_of_ble_eq_true rfl) (Nat.le_of_ble_eq_true rfl) (Nat.le_of_ble_eq_true rfl) (Nat.le_of_ble_eq_true rfl) (s364_X1_isOver  (d + 1)  ) ?_
  rintro _ _ ⟨rfl, rfl⟩
  dsimp only [Option.toList, List.cons_append, List.nil_append]
  refine G_if_ne (pc := 13) (tgt := 38) (by decide) dX1_goRest_13 (fun z => absurd (by decide) z) (fun _ => ?_)
  refine G_iload_n (pc := 16) rfl dX1_goRest_16 ?_
  refine G_aload_n (pc := 17) rfl dX1_goRest_17 ?_
  refine G_aload_n (pc := 18) rfl dX1_goRest_18 ?_
  refine G_callV (pc := 19) (mc1 := 0) (ms1 := 0) (ci := 1) (mj := mX1_restAct) (vs := []) dX1_goRest_19 rfl rfl cm_X1_restAct wf_173 wf_66 wf_67 rfl (Nat.le_of_ble_eq_true rfl) (Nat.le_of_ble_eq_true rfl) (Nat.le_of_ble_eq_true rfl) (Nat.le_of_ble_eq_true rfl) (s365_X1_restAct  (d + 1)  ) ?_
  rintro _ _ ⟨rfl, rfl⟩
  dsimp only [Option.toList, List.cons_append, List.nil_append]
  refine G_callV (pc := 22) (mc1 := 0) (ms1 := 0) (ci := 1) (mj := mX1_tell) (vs := [_]) dX1_goRest_22 rfl rfl cm_X1_tell wf_69 wf_71 wf_72 rfl (Nat.le_of_ble_eq_true rfl) (Nat.le_of_ble_eq_true rfl) (Nat.le_of_ble_eq_true rfl) (Nat.le_of_ble_eq_true rfl) (s366_X1_tell  d  ) ?_
  rintro _ _ ⟨rfl, rfl⟩
  dsimp only [Option.toList, List.cons_append, List.nil_append]
  refine G_aload_n (pc := 25) rfl dX1_goRest_25 ?_
  refine G_callV (pc := 26) (mc1 := 0) (ms1 := 0) (ci := 1) (mj := mX1_melt) (vs := []) dX1_goRest_26 rfl rfl cm_X1_melt wf_73 wf_75 wf_76 rfl (Nat.le_of_ble_eq_true rfl) (Nat.le_of_ble_eq_true rfl) (Nat.le_of_ble_eq_true rfl) (Nat.le_of_ble_eq_true rfl) (s368_X1_melt  (d + 1)  ) ?_
  rintro _ _ ⟨rfl, rfl⟩
  dsimp only [Option.toList, List.cons_append, List.nil_append]
  refine G_iadd (pc := 29) (z := 0) (by decide) dX1_goRest_29 ?_
  refine G_iadd (pc := 30) (z := 0) (by decide) dX1_goRest_30 ?_
  refine G_istore_n (pc := 31) (L1 := [some (.ref 19), some (.int 8), some (.int 0), some (.int 4)]) rfl rfl (by decide) dX1_goRest_31 ?_
  refine G_iinc (pc := 32) (v := 1) (w := 5) (L1 := [some (.ref 19), some (.int 8), some (.int 0), some (.int 5)]) (by decide) rfl rfl (by decide) rfl (by decide) dX1_goRest_32 ?_
  refine G_goto (pc := 35) (tgt := 4) (by decide) dX1_goRest_35 ?_
  refine G_iload_n (pc := 4) rfl dX1_goRest_4 ?_
  refine G_iload_n (pc := 5) rfl dX1_goRest_5 ?_
  refine G_icmp_ge (pc := 6) (tgt := 38) (by decide) dX1_goRest_6 (fun z => absurd z (by decide)) (fun _ => ?_)
  refine G_aload_n (pc := 9) rfl dX1_goRest_9 ?_
  refine G_callV (pc := 10) (mc1 := 0) (ms1 := 0) (ci := 1) (mj := mX1_isOver) (vs := []) dX1_goRest_10 rfl rfl cm_X1_isOver wf_172 wf_17 wf_18 rfl (Nat.le_of_ble_eq_true rfl) (Nat.le_of_ble_eq_true rfl) (Nat.le_of_ble_eq_true rfl) (Nat.le_of_ble_eq_true rfl) (s369_X1_isOver  (d + 1)  ) ?_
  rintro _ _ ⟨rfl, rfl⟩
  dsimp only [Option.toList, List.cons_append, List.nil_append]
  refine G_if_ne (pc := 13) (tgt := 38) (by decide) dX1_goRest_13 (fun z => absurd (by decide) z) (fun _ => ?_)
  refine G_iload_n (pc := 16) rfl dX1_goRest_16 ?_
  refine G_aload_n (pc := 17) rfl dX1_goRest_17 ?_
  refine G_aload_n (pc := 18) rfl dX1_goRest_18 ?_
  refine G_callV (pc := 19) (mc1 := 0) (ms1 := 0) (ci := 1) (mj := mX1_restAct) (vs := []) dX1_goRest_19 rfl rfl cm_X1_restAct wf_173 wf_66 wf_67 rfl (Nat.le_of_ble_eq_true rfl) (Nat.le_of_ble_eq_true rfl) (Nat.le_of_ble_eq_true rfl) (Nat.le_of_ble_eq_true rfl) (s370_X1_restAct  (d + 1)  ) ?_
  rintro _ _ ⟨rfl, rfl⟩
  dsimp only [Option.toList, List.cons_append, List.nil_append]
  refine G_callV (pc := 22) (mc1 := 0) (ms1 := 0) (ci := 1) (mj := mX1_tell) (vs := [_]) dX1_goRest_22 rfl rfl cm_X1_tell wf_69 wf_71 wf_72 rfl (Nat.le_of_ble_eq_true rfl) (Nat.le_of_ble_eq_true rfl) (Nat.le_of_ble_eq_true rfl) (Nat.le_of_ble_eq_true rfl) (s371_X1_tell  d  ) ?_
  rintro _ _ ⟨rfl, rfl⟩
  dsimp only [Option.toList, List.cons_append, List.nil_append]
  refine G_aload_n (pc := 25) rfl dX1_goRest_25 ?_
  refine G_callV (pc := 26) (mc1 := 0) (ms1 := 0) (ci := 1) (mj := mX1_melt) (vs := []) dX1_goRest_26 rfl rfl cm_X1_melt wf_73 wf_75 wf_76 rfl (Nat.le_of_ble_eq_true rfl) (Nat.le_of_ble_eq_true rfl) (Nat.le_of_ble_eq_true rfl) (Nat.le_of_ble_eq_true rfl) (s373_X1_melt  (d + 1)  ) ?_
  rintro _ _ ⟨rfl, rfl⟩
  dsimp only [Option.toList, List.cons_append, List.nil_append]
  refine G_iadd (pc := 29) (z := 0) (by decide) dX1_goRest_29 ?_
  refine G_iadd (pc := 30) (z := 0) (by decide) dX1_goRest_30 ?_
  refine G_istore_n (pc := 31) (L1 := [some (.ref 19), some (.int 8), some (.int 0), some (.int 5)]) rfl rfl (by decide) dX1_goRest_31 ?_
  refine G_iinc (pc := 32) (v := 1) (w := 6) (L1 := [some (.ref 19), some (.int 8), some (.int 0), some (.int 6)]) (by decide) rfl rfl (by decide) rfl (by decide) dX1_goRest_32 ?_
  refine G_goto (pc := 35) (tgt := 4) (by decide) dX1_goRest_35 ?_
  refine G_iload_n (pc := 4) rfl dX1_goRest_4 ?_
  refine G_iload_n (pc := 5) rfl dX1_goRest_5 ?_
  refine G_icmp_ge (pc := 6) (tgt := 38) (by decide) dX1_goRest_6 (fun z => absurd z (by decide)) (fun _ => ?_)
  refine G_aload_n (pc := 9) rfl dX1_goRest_9 ?_
  refine G_callV (pc := 10) (mc1 := 0) (ms1 := 0) (ci := 1) (mj := mX1_isOver) (vs := []) dX1_goRest_10 rfl rfl cm_X1_isOver wf_172 wf_17 wf_18 rfl (Nat.le_of_ble_eq_true rfl) (Nat.le_of_ble_eq_true rfl) (Nat.le_of_ble_eq_true rfl) (Nat.le_of_ble_eq_true rfl) (s374_X1_isOver  (d + 1)  ) ?_
  rintro _ _ ⟨rfl, rfl⟩
  dsimp only [Option.toList, List.cons_append, List.nil_append]
  refine G_if_ne (pc := 13) (tgt := 38) (by decide) dX1_goRest_13 (fun z => absurd (by decide) z) (fun _ => ?_)
  refine G_iload_n (pc := 16) rfl dX1_goRest_16 ?_
  refine G_aload_n (pc := 17) rfl dX1_goRest_17 ?_
  refine G_aload_n (pc := 18) rfl dX1_goRest_18 ?_
  refine G_callV (pc := 19) (mc1 := 0) (ms1 := 0) (ci := 1) (mj := mX1_restAct) (vs := []) dX1_goRest_19 rfl rfl cm_X1_restAct wf_173 wf_66 wf_67 rfl (Nat.le_of_ble_eq_true rfl) (Nat.le_of_ble_eq_true rfl) (Nat.le_of_ble_eq_true rfl) (Nat.le_of_ble_eq_true rfl) (s375_X1_restAct  (d + 1)  ) ?_
  rintro _ _ ⟨rfl, rfl⟩
  dsimp only [Option.toList, List.cons_append, List.nil_append]
  refine G_callV (pc := 22) (mc1 := 0) (ms1 := 0) (ci := 1) (mj := mX1_tell) (vs := [_]) dX1_goRest_22 rfl rfl cm_X1_tell wf_69 wf_71 wf_72 rfl (Nat.le_of_ble_eq_true rfl) (Nat.le_of_ble_eq_true rfl) (Nat.le_of_ble_eq_true rfl) (Nat.le_of_ble_eq_true rfl) (s376_X1_tell  d  ) ?_
  rintro _ _ ⟨rfl, rfl⟩
  dsimp only [Option.toList, List.cons_append, List.nil_append]
  refine G_aload_n (pc := 25) rfl dX1_goRest_25 ?_
  refine G_callV (pc := 26) (mc1 := 0) (ms1 := 0) (ci := 1) (mj := mX1_melt) (vs := []) dX1_goRest_26 rfl rfl cm_X1_melt wf_73 wf_75 wf_76 rfl (Nat.le_of_ble_eq_true rfl) (Nat.le_of_ble_eq_true rfl) (Nat.le_of_ble_eq_true rfl) (Nat.le_of_ble_eq_true rfl) (s378_X1_melt  (d + 1)  ) ?_
  rintro _ _ ⟨rfl, rfl⟩
  dsimp only [Option.toList, List.cons_append, List.nil_append]
  refine G_iadd (pc := 29) (z := 0) (by decide) dX1_goRest_29 ?_
  refine G_iadd (pc := 30) (z := 0) (by decide) dX1_goRest_30 ?_
  refine G_istore_n (pc := 31) (L1 := [some (.ref 19), some (.int 8), some (.int 0), some (.int 6)]) rfl rfl (by decide) dX1_goRest_31 ?_
  refine G_iinc (pc := 32) (v := 1) (w := 7) (L1 := [some (.ref 19), some (.int 8), some (.int 0), some (.int 7)]) (by decide) rfl rfl (by decide) rfl (by decide) dX1_goRest_32 ?_
  refine G_goto (pc := 35) (tgt := 4) (by decide) dX1_goRest_35 ?_
  refine G_iload_n (pc := 4) rfl dX1_goRest_4 ?_
  refine G_iload_n (pc := 5) rfl dX1_goRest_5 ?_
  refine G_icmp_ge (pc := 6) (tgt := 38) (by decide) dX1_goRest_6 (fun z => absurd z (by decide)) (fun _ => ?_)
  refine G_aload_n (pc := 9) rfl dX1_goRest_9 ?_
  refine G_callV (pc := 10) (mc1 := 0) (ms1 := 0) (ci := 1) (mj := mX1_isOver) (vs := []) dX1_goRest_10 rfl rfl cm_X1_isOver wf_172 wf_17 wf_18 rfl (Nat.le_of_ble_eq_true rfl) (Nat.le_of_ble_eq_true rfl) (Nat.le_of_ble_eq_true rfl) (Nat.le_of_ble_eq_true rfl) (s379_X1_isOver  (d + 1)  ) ?_
  rintro _ _ ⟨rfl, rfl⟩
  dsimp only [Option.toList, List.cons_append, List.nil_append]
  refine G_if_ne (pc := 13) (tgt := 38) (by decide) dX1_goRest_13 (fun z => absurd (by decide) z) (fun _ => ?_)
  refine G_iload_n (pc := 16) rfl dX1_goRest_16 ?_
  refine G_aload_n (pc := 17) rfl dX1_goRest_17 ?_
  refine G_aload_n (pc := 18) rfl dX1_goRest_18 ?_
  refine G_callV (pc := 19) (mc1 := 0) (ms1 := 0) (ci := 1) (mj := mX1_restAct) (vs := []) dX1_goRest_19 rfl rfl cm_X1_restAct wf_173 wf_66 wf_67 rfl (Nat.le_of_ble_eq_true rfl) (Nat.le_of_ble_eq_true rfl) (Nat.le_of_ble_eq_true rfl) (Nat.le_of_ble_eq_true rfl) (s380_X1_restAct  (d + 1)  ) ?_
  rintro _ _ ⟨rfl, rfl⟩
  dsimp only [Option.toList, List.cons_append, List.nil_append]
  refine G_callV (pc := 22) (mc1 := 0) (ms1 := 0) (ci := 1) (mj := mX1_tell) (vs := [_]) dX1_goRest_22 rfl rfl cm_X1_tell wf_69 wf_71 wf_72 rfl (Nat.le_of_ble_eq_true rfl) (Nat.le_of_ble_eq_true rfl) (Nat.le_of_ble_eq_true rfl) (Nat.le_of_ble_eq_true rfl) (s381_X1_tell  d  ) ?_
  rintro _ _ ⟨rfl, rfl⟩
  dsimp only [Option.toList, List.cons_append, List.nil_append]
  refine G_aload_n (pc := 25) rfl dX1_goRest_25 ?_
  refine G_callV (pc := 26) (mc1 := 0) (ms1 := 0) (ci := 1) (mj := mX1_melt) (vs := []) dX1_goRest_26 rfl rfl cm_X1_melt wf_73 wf_75 wf_76 rfl (Nat.le_of_ble_eq_true rfl) (Nat.le_of_ble_eq_true rfl) (Nat.le_of_ble_eq_true rfl) (Nat.le_of_ble_eq_true rfl) (s383_X1_melt  (d + 1)  ) ?_
  rintro _ _ ⟨rfl, rfl⟩
  dsimp only [Option.toList, List.cons_append, List.nil_append]
  refine G_iadd (pc := 29) (z := 0) (by decide) dX1_goRest_29 ?_
  refine G_iadd (pc := 30) (z := 0) (by decide) dX1_goRest_30 ?_
  refine G_istore_n (pc := 31) (L1 := [some (.ref 19), some (.int 8), some (.int 0), some (.int 7)]) rfl rfl (by decide) dX1_goRest_31 ?_
  refine G_iinc (pc := 32) (v := 1) (w := 8) (L1 := [some (.ref 19), some (.int 8), some (.int 0), some (.int 8)]) (by decide) rfl rfl (by decide) rfl (by decide) dX1_goRest_32 ?_
  refine G_goto (pc := 35) (tgt := 4) (by decide) dX1_goRest_35 ?_
  refine G_iload_n (pc := 4) rfl dX1_goRest_4 ?_
  refine G_iload_n (pc := 5) rfl dX1_goRest_5 ?_
  refine G_icmp_ge (pc := 6) (tgt := 38) (by decide) dX1_goRest_6 (fun _ => ?_) (fun z => absurd (by decide) z)
  refine G_iload_n (pc := 38) rfl dX1_goRest_38 ?_
  exact G_iret (pc := 39) (Nat.le_of_ble_eq_true rfl) (Nat.le_of_ble_eq_true rfl) rfl dX1_goRest_39 ⟨rfl, rfl⟩
set_option maxRecDepth 100000 in
set_option maxHeartbeats 4000000 in
theorem s420_X1_restore  (d : Nat)   : G (d + 1) mX1_restore 0 0 0 0 0 (gent 3 [.ref 19, .int 0]) [] SH0 RF0 (gup (gup (gup (gup (gup (gup (gup (gup (gup (gup (gcp I0 24 34 (0 : Int32).toNatClampNeg (0 : Int32).toNatClampNeg (6 : Int32).toNatClampNeg) 34 6 0) 34 7 0) 19 1 1) 19 1 2) 19 1 3) 19 1 4) 19 1 5) 19 1 6) 19 1 7) 19 1 8) (fun r h => r = none ∧ h = (SH0, RF0, (gup (gup (gcp (gup (gup (gup (gup (gup (gup (gup (gup (gup (gup (gcp I0 24 34 (0 : Int32).toNatClampNeg (0 : Int32).toNatClampNeg (6 : Int32).toNatClampNeg) 34 6 0) 34 7 0) 19 1 1) 19 1 2) 19 1 3) 19 1 4) 19 1 5) 19 1 6) 19 1 7) 19 1 8) 34 24 (0 : Int32).toNatClampNeg (0 : Int32).toNatClampNeg (6 : Int32).toNatClampNeg) 19 9 0) 19 1 0))) := by
  refine G_iload_n (pc := 0) rfl dX1_restore_0 ?_
  refine G_bipush (pc := 1) (v := 8) (by decide) dX1_restore_1 ?_
  refine G_imul (pc := 3) (z := 0) (by decide) dX1_restore_3 ?_
  refine G_istore_n (pc := 4) (L1 := [some (.ref 19), some (.int 0), some (.int 0)]) rfl rfl (by decide) dX1_restore_4 ?_
  refine G_aload_n (pc := 5) rfl dX1_restore_5 ?_
  refine G_getR (pc := 6) (r := 34) (ci := 1) (j := 18) rfl lk_RX1_53 rfl rfl rfl dX1_restore_6 ?_
  refine G_iload_n (pc := 9) rfl dX1_restore_9 ?_
  refine G_aload_n (pc := 10) rfl dX1_restore_10 ?_
  refine G_getR (pc := 11) (r := 24) (ci := 1) (j := 11) rfl lk_RX1_31 rfl rfl rfl dX1_restore_11 ?_
  refine G_iconst (pc := 14) (v := 0) (by decide) dX1_restore_14 ?_
  refine G_bipush (pc := 15) (v := 6) (by decide) dX1_restore_15 ?_
  refine G_copy (pc := 17) (x := 34) (y := 24) rfl rfl (by decide) (by decide) (by decide) (by decide) (by decide) wf_50 wf_51 wf_52 wf_53 (Nat.le_of_ble_eq_true rfl) dX1_restore_17 ?_
  refine G_aload_n (pc := 20) rfl dX1_restore_20 ?_
  refine G_aload_n (pc := 21) rfl dX1_restore_21 ?_
  refine G_getR (pc := 22) (r := 34) (ci := 1) (j := 18) rfl lk_RX1_53 rfl rfl rfl dX1_restore_22 ?_
  refine G_iload_n (pc := 25) rfl dX1_restore_25 ?_
  refine G_bipush (pc := 26) (v := 6) (by decide) dX1_restore_26 ?_
  refine G_iadd (pc := 28) (z := 6) (by decide) dX1_restore_28 ?_
  refine G_iald (pc := 29) (jj := 6) (v := 0) (by decide) rfl rfl (by unfold vp_in; decide) dX1_restore_29 ?_
  refine G_putI (pc := 30) (ci := 1) (j := 9) rfl lk_RX1_75 rfl rfl rfl trivial dX1_restore_30 ?_
  refine G_aload_n (pc := 33) rfl dX1_restore_33 ?_
  refine G_aload_n (pc := 34) rfl dX1_restore_34 ?_
  refine G_getR (pc := 35) (r := 34) (ci := 1) (j := 18) rfl lk_RX1_53 rfl rfl rfl dX1_restore_35 ?_
  refine G_iload_n (pc := 38) rfl dX1_restore_38 ?_
  refine G_bipush (pc := 39) (v := 6) (by decide) dX1_restore_39 ?_
  refine G_iadd (pc := 41) (z := 6) (by decide) dX1_restore_41 ?_
  refine G_iconst (pc := 42) (v := 1) (by decide) dX1_restore_42 ?_
  refine G_iadd (pc := 43) (z := 7) (by decide) dX1_restore_43 ?_
  refine G_iald (pc := 44) (jj := 7) (v := 0) (by decide) rfl rfl (by unfold vp_in; decide) dX1_restore_44 ?_
  refine G_putI (pc := 45) (ci := 1) (j := 1) rfl lk_RX1_60 rfl rfl rfl trivial dX1_restore_45 ?_
  exact G_vret (pc := 48) (Nat.le_of_ble_eq_true rfl) (Nat.le_of_ble_eq_true rfl) rfl dX1_restore_48 ⟨rfl, rfl⟩
set_option maxRecDepth 100000 in
set_option maxHeartbeats 4000000 in
theorem s421_X1_goRest  (d : Nat)   : G (d + 2) mX1_goRest 0 0 0 0 0 (gent 4 [.ref 19, .int 9]) [] SH0 RF0 (gup (gup (gcp I0 24 34 (0 : Int32).toNatClampNeg (0 : Int32).toNatClampNeg (6 : Int32).toNatClampNeg) 34 6 0) 34 7 0) (fun r h => r = some (.int 0) ∧ h = (SH0, RF0, (gup (gup (gup (gup (gup (gup (gup (gup (gup (gup (gup (gcp I0 24 34 (0 : Int32).toNatClampNeg (0 : Int32).toNatClampNeg (6 : Int32).toNatClampNeg) 34 6 0) 34 7 0) 19 1 1) 19 1 2) 19 1 3) 19 1 4) 19 1 5) 19 1 6) 19 1 7) 19 1 8) 19 1 9))) := by
  refine G_iconst (pc := 0) (v := 0) (by decide) dX1_goRest_0 ?_
  refine G_istore_n (pc := 1) (L1 := [some (.ref 19), some (.int 9), some (.int 0), none]) rfl rfl (by decide) dX1_goRest_1 ?_
  refine G_iconst (pc := 2) (v := 0) (by decide) dX1_goRest_2 ?_
  refine G_istore_n (pc := 3) (L1 := [some (.ref 19), some (.int 9), some (.int 0), some (.int 0)]) rfl rfl (by decide) dX1_goRest_3 ?_
  refine G_iload_n (pc := 4) rfl dX1_goRest_4 ?_
  refine G_iload_n (pc := 5) rfl dX1_goRest_5 ?_
  refine G_icmp_ge (pc := 6) (tgt := 38) (by decide) dX1_goRest_6 (fun z => absurd z (by decide)) (fun _ => ?_)
  refine G_aload_n (pc := 9) rfl dX1_goRest_9 ?_
  refine G_callV (pc := 10) (mc1 := 0) (ms1 := 0) (ci := 1) (mj := mX1_isOver) (vs := []) dX1_goRest_10 rfl rfl cm_X1_isOver wf_172 wf_17 wf_18 rfl (Nat.le_of_ble_eq_true rfl) (Nat.le_of_ble_eq_true rfl) (Nat.le_of_ble_eq_true rfl) (Nat.le_of_ble_eq_true rfl) (s348_X1_isOver  (d + 1)  ) ?_
  rintro _ _ ⟨rfl, rfl⟩
  dsimp only [Option.toList, List.cons_append, List.nil_append]
  refine G_if_ne (pc := 13) (tgt := 38) (by decide) dX1_goRest_13 (fun z => absurd (by decide) z) (fun _ => ?_)
  refine G_iload_n (pc := 16) rfl dX1_goRest_16 ?_
  refine G_aload_n (pc := 17) rfl dX1_goRest_17 ?_
  refine G_aload_n (pc := 18) rfl dX1_goRest_18 ?_
  refine G_callV (pc := 19) (mc1 := 0) (ms1 := 0) (ci := 1) (mj := mX1_restAct) (vs := []) dX1_goRest_19 rfl rfl cm_X1_restAct wf_173 wf_66 wf_67 rfl (Nat.le_of_ble_eq_true rfl) (Nat.le_of_ble_eq_true rfl) (Nat.le_of_ble_eq_true rfl) (Nat.le_of_ble_eq_true rfl) (s349_X1_restAct  (d + 1)  ) ?_
  rintro _ _ ⟨rfl, rfl⟩
  dsimp only [Option.toList, List.cons_append, List.nil_append]
  refine G_callV (pc := 22) (mc1 := 0) (ms1 := 0) (ci := 1) (mj := mX1_tell) (vs := [_]) dX1_goRest_22 rfl rfl cm_X1_tell wf_69 wf_71 wf_72 rfl (Nat.le_of_ble_eq_true rfl) (Nat.le_of_ble_eq_true rfl) (Nat.le_of_ble_eq_true rfl) (Nat.le_of_ble_eq_true rfl) (s143_X1_tell  d  ) ?_
  rintro _ _ ⟨rfl, rfl⟩
  dsimp only [Option.toList, List.cons_append, List.nil_append]
  refine G_aload_n (pc := 25) rfl dX1_goRest_25 ?_
  refine G_callV (pc := 26) (mc1 := 0) (ms1 := 0) (ci := 1) (mj := mX1_melt) (vs := []) dX1_goRest_26 rfl rfl cm_X1_melt wf_73 wf_75 wf_76 rfl (Nat.le_of_ble_eq_true rfl) (Nat.le_of_ble_eq_true rfl) (Nat.le_of_ble_eq_true rfl) (Nat.le_of_ble_eq_true rfl) (s145_X1_melt  (d + 1)  ) ?_
  rintro _ _ ⟨rfl, rfl⟩
  dsimp only [Option.toList, List.cons_append, List.nil_append]
  refine G_iadd (pc := 29) (z := 0) (by decide) dX1_goRest_29 ?_
  refine G_iadd (pc := 30) (z := 0) (by decide) dX1_goRest_30 ?_
  refine G_istore_n (pc := 31) (L1 := [some (.ref 19), some (.int 9), some (.int 0), some (.int 0)]) rfl rfl (by decide) dX1_goRest_31 ?_
  refine G_iinc (pc := 32) (v := 1) (w := 1) (L1 := [some (.ref 19), some (.int 9), some (.int 0), some (.int 1)]) (by decide) rfl rfl (by decide) rfl (by decide) dX1_goRest_32 ?_
  refine G_goto (pc := 35) (tgt := 4) (by decide) dX1_goRest_35 ?_
  refine G_iload_n (pc := 4) rfl dX1_goRest_4 ?_
  refine G_iload_n (pc := 5) rfl dX1_goRest_5 ?_
  refine G_icmp_ge (pc := 6) (tgt := 38) (by decide) dX1_goRest_6 (fun z => absurd z (by decide)) (fun _ => ?_)
  refine G_aload_n (pc := 9) rfl dX1_goRest_9 ?_
  refine G_callV (pc := 10) (mc1 := 0) (ms1 := 0) (ci := 1) (mj := mX1_isOver) (vs := []) dX1_goRest_10 rfl rfl cm_X1_isOver wf_172 wf_17 wf_18 rfl (Nat.le_of_ble_eq_true rfl) (Nat.le_of_ble_eq_true rfl) (Nat.le_of_ble_eq_true rfl) (Nat.le_of_ble_eq_true rfl) (s153_X1_isOver  (d + 1)  ) ?_
  rintro _ _ ⟨rfl, rfl⟩
  dsimp only [Option.toList, List.cons_append, List.nil_append]
  refine G_if_ne (pc := 13) (tgt := 38) (by decide) dX1_goRest_13 (fun z => absurd (by decide) z) (fun _ => ?_)
  refine G_iload_n (pc := 16) rfl dX1_goRest_16 ?_
  refine G_aload_n (pc := 17) rfl dX1_goRest_17 ?_
  refine G_aload_n (pc := 18) rfl dX1_goRest_18 ?_
  refine G_callV (pc := 19) (mc1 := 0) (ms1 := 0) (ci := 1) (mj := mX1_restAct) (vs := []) dX1_goRest_19 rfl rfl cm_X1_restAct wf_173 wf_66 wf_67 rfl (Nat.le_of_ble_eq_true rfl) (Nat.le_of_ble_eq_true rfl) (Nat.le_of_ble_eq_true rfl) (Nat.le_of_ble_eq_true rfl) (s350_X1_restAct  (d + 1)  ) ?_
  rintro _ _ ⟨rfl, rfl⟩
  dsimp only [Option.toList, List.cons_append, List.nil_append]
  refine G_callV (pc := 22) (mc1 := 0) (ms1 := 0) (ci := 1) (mj := mX1_tell) (vs := [_]) dX1_goRest_22 rfl rfl cm_X1_tell wf_69 wf_71 wf_72 rfl (Nat.le_of_ble_eq_true rfl) (Nat.le_of_ble_eq_true rfl) (Nat.le_of_ble_eq_true rfl) (Nat.le_of_ble_eq_true rfl) (s351_X1_tell  d  ) ?_
  rintro _ _ ⟨rfl, rfl⟩
  dsimp only [Option.toList, List.cons_append, List.nil_append]
  refine G_aload_n (pc := 25) rfl dX1_goRest_25 ?_
  refine G_callV (pc := 26) (mc1 := 0) (ms1 := 0) (ci := 1) (mj := mX1_melt) (vs := []) dX1_goRest_26 rfl rfl cm_X1_melt wf_73 wf_75 wf_76 rfl (Nat.le_of_ble_eq_true rfl) (Nat.le_of_ble_eq_true rfl) (Nat.le_of_ble_eq_true rfl) (Nat.le_of_ble_eq_true rfl) (s353_X1_melt  (d + 1)  ) ?_
  rintro _ _ ⟨rfl, rfl⟩
  dsimp only [Option.toList, List.cons_append, List.nil_append]
  refine G_iadd (pc := 29) (z := 0) (by decide) dX1_goRest_29 ?_
  refine G_iadd (pc := 30) (z := 0) (by decide) dX1_goRest_30 ?_
  refine G_istore_n (pc := 31) (L1 := [some (.ref 19), some (.int 9), some (.int 0), some (.int 1)]) rfl rfl (by decide) dX1_goRest_31 ?_
  refine G_iinc (pc := 32) (v := 1) (w := 2) (L1 := [some (.ref 19), some (.int 9), some (.int 0), some (.int 2)]) (by decide) rfl rfl (by decide) rfl (by decide) dX1_goRest_32 ?_
  refine G_goto (pc := 35) (tgt := 4) (by decide) dX1_goRest_35 ?_
  refine G_iload_n (pc := 4) rfl dX1_goRest_4 ?_
  refine G_iload_n (pc := 5) rfl dX1_goRest_5 ?_
  refine G_icmp_ge (pc := 6) (tgt := 38) (by decide) dX1_goRest_6 (fun z => absurd z (by decide)) (fun _ => ?_)
  refine G_aload_n (pc := 9) rfl dX1_goRest_9 ?_
  refine G_callV (pc := 10) (mc1 := 0) (ms1 := 0) (ci := 1) (mj := mX1_isOver) (vs := []) dX1_goRest_10 rfl rfl cm_X1_isOver wf_172 wf_17 wf_18 rfl (Nat.le_of_ble_eq_true rfl) (Nat.le_of_ble_eq_true rfl) (Nat.le_of_ble_eq_true rfl) (Nat.le_of_ble_eq_true rfl) (s354_X1_isOver  (d + 1)  ) ?_
  rintro _ _ ⟨rfl, rfl⟩
  dsimp only [Option.toList, List.cons_append, List.nil_append]
  refine G_if_ne (pc := 13) (tgt := 38) (by decide) dX1_goRest_13 (fun z => absurd (by decide) z) (fun _ => ?_)
  refine G_iload_n (pc := 16) rfl dX1_goRest_16 ?_
  refine G_aload_n (pc := 17) rfl dX1_goRest_17 ?_
  refine G_aload_n (pc := 18) rfl dX1_goRest_18 ?_
  refine G_callV (pc := 19) (mc1 := 0) (ms1 := 0) (ci := 1) (mj := mX1_restAct) (vs := []) dX1_goRest_19 rfl rfl cm_X1_restAct wf_173 wf_66 wf_67 rfl (Nat.le_of_ble_eq_true rfl) (Nat.le_of_ble_eq_true rfl) (Nat.le_of_ble_eq_true rfl) (Nat.le_of_ble_eq_true rfl) (s355_X1_restAct  (d + 1)  ) ?_
  rintro _ _ ⟨rfl, rfl⟩
  dsimp only [Option.toList, List.cons_append, List.nil_append]
  refine G_callV (pc := 22) (mc1 := 0) (ms1 := 0) (ci := 1) (mj := mX1_tell) (vs := [_]) dX1_goRest_22 rfl rfl cm_X1_tell wf_69 wf_71 wf_72 rfl (Nat.le_of_ble_eq_true rfl) (Nat.le_of_ble_eq_true rfl) (Nat.le_of_ble_eq_true rfl) (Nat.le_of_ble_eq_true rfl) (s356_X1_tell  d  ) ?_
  rintro _ _ ⟨rfl, rfl⟩
  dsimp only [Option.toList, List.cons_append, List.nil_append]
  refine G_aload_n (pc := 25) rfl dX1_goRest_25 ?_
  refine G_callV (pc := 26) (mc1 := 0) (ms1 := 0) (ci := 1) (mj := mX1_melt) (vs := []) dX1_goRest_26 rfl rfl cm_X1_melt wf_73 wf_75 wf_76 rfl (Nat.le_of_ble_eq_true rfl) (Nat.le_of_ble_eq_true rfl) (Nat.le_of_ble_eq_true rfl) (Nat.le_of_ble_eq_true rfl) (s358_X1_melt  (d + 1)  ) ?_
  rintro _ _ ⟨rfl, rfl⟩
  dsimp only [Option.toList, List.cons_append, List.nil_append]
  refine G_iadd (pc := 29) (z := 0) (by decide) dX1_goRest_29 ?_
  refine G_iadd (pc := 30) (z := 0) (by decide) dX1_goRest_30 ?_
  refine G_istore_n (pc := 31) (L1 := [some (.ref 19), some (.int 9), some (.int 0), some (.int 2)]) rfl rfl (by decide) dX1_goRest_31 ?_
  refine G_iinc (pc := 32) (v := 1) (w := 3) (L1 := [some (.ref 19), some (.int 9), some (.int 0), some (.int 3)]) (by decide) rfl rfl (by decide) rfl (by decide) dX1_goRest_32 ?_
  refine G_goto (pc := 35) (tgt := 4) (by decide) dX1_goRest_35 ?_
  refine G_iload_n (pc := 4) rfl dX1_goRest_4 ?_
  refine G_iload_n (pc := 5) rfl dX1_goRest_5 ?_
  refine G_icmp_ge (pc := 6) (tgt := 38) (by decide) dX1_goRest_6 (fun z => absurd z (by decide)) (fun _ => ?_)
  refine G_aload_n (pc := 9) rfl dX1_goRest_9 ?_
  refine G_callV (pc := 10) (mc1 := 0) (ms1 := 0) (ci := 1) (mj := mX1_isOver) (vs := []) dX1_goRest_10 rfl rfl cm_X1_isOver wf_172 wf_17 wf_18 rfl (Nat.le_of_ble_eq_true rfl) (Nat.le_of_ble_eq_true rfl) (Nat.le_of_ble_eq_true rfl) (Nat.le_of_ble_eq_true rfl) (s359_X1_isOver  (d + 1)  ) ?_
  rintro _ _ ⟨rfl, rfl⟩
  dsimp only [Option.toList, List.cons_append, List.nil_append]
  refine G_if_ne (pc := 13) (tgt := 38) (by decide) dX1_goRest_13 (fun z => absurd (by decide) z) (fun _ => ?_)
  refine G_iload_n (pc := 16) rfl dX1_goRest_16 ?_
  refine G_aload_n (pc := 17) rfl dX1_goRest_17 ?_
  refine G_aload_n (pc := 18) rfl dX1_goRest_18 ?_
  refine G_callV (pc := 19) (mc1 := 0) (ms1 := 0) (ci := 1) (mj := mX1_restAct) (vs := []) dX1_goRest_19 rfl rfl cm_X1_restAct wf_173 wf_66 wf_67 rfl (Nat.le_of_ble_eq_true rfl) (Nat.le_of_ble_eq_true rfl) (Nat.le_of_ble_eq_true rfl) (Nat.le_of_ble_eq_true rfl) (s360_X1_restAct  (d + 1)  ) ?_
  rintro _ _ ⟨rfl, rfl⟩
  dsimp only [Option.toList, List.cons_append, List.nil_append]
  refine G_callV (pc := 22) (mc1 := 0) (ms1 := 0) (ci := 1) (mj := mX1_tell) (vs := [_]) dX1_goRest_22 rfl rfl cm_X1_tell wf_69 wf_71 wf_72 rfl (Nat.le_of_ble_eq_true rfl) (Nat.le_of_ble_eq_true rfl) (Nat.le_of_ble_eq_true rfl) (Nat.le_of_ble_eq_true rfl) (s361_X1_tell  d  ) ?_
  rintro _ _ ⟨rfl, rfl⟩
  dsimp only [Option.toList, List.cons_append, List.nil_append]
  refine G_aload_n (pc := 25) rfl dX1_goRest_25 ?_
  refine G_callV (pc := 26) (mc1 := 0) (ms1 := 0) (ci := 1) (mj := mX1_melt) (vs := []) dX1_goRest_26 rfl rfl cm_X1_melt wf_73 wf_75 wf_76 rfl (Nat.le_of_ble_eq_true rfl) (Nat.le_of_ble_eq_true rfl) (Nat.le_of_ble_eq_true rfl) (Nat.le_of_ble_eq_true rfl) (s363_X1_melt  (d + 1)  ) ?_
  rintro _ _ ⟨rfl, rfl⟩
  dsimp only [Option.toList, List.cons_append, List.nil_append]
  refine G_iadd (pc := 29) (z := 0) (by decide) dX1_goRest_29 ?_
  refine G_iadd (pc := 30) (z := 0) (by decide) dX1_goRest_30 ?_
  refine G_istore_n (pc := 31) (L1 := [some (.ref 19), some (.int 9), some (.int 0), some (.int 3)]) rfl rfl (by decide) dX1_goRest_31 ?_
  refine G_iinc (pc := 32) (v := 1) (w := 4) (L1 := [some (.ref 19), some (.int 9), some (.int 0), some (.int 4)]) (by decide) rfl rfl (by decide) rfl (by decide) dX1_goRest_32 ?_
  refine G_goto (pc := 35) (tgt := 4) (by decide) dX1_goRest_35 ?_
  refine G_iload_n (pc := 4) rfl dX1_goRest_4 ?_
  refine G_iload_n (pc := 5) rfl dX1_goRest_5 ?_
  refine G_icmp_ge (pc := 6) (tgt := 38) (by decide) dX1_goRest_6 (fun z => absurd z (by decide)) (fun _ => ?_)
  refine G_aload_n (pc := 9) rfl dX1_goRest_9 ?_
  refine G_callV (pc := 10) (mc1 := 0) (ms1 := 0) (ci := 1) (mj := mX1_isOver) (vs := []) dX1_goRest_10 rfl rfl cm_X1_isOver wf_172 wf_17 wf_18 rfl (Nat.le_of_ble_eq_true rfl) (Nat.le_of_ble_eq_true rfl) (Nat.le_of_ble_eq_true rfl) (Nat.le_of_ble_eq_true rfl) (s364_X1_isOver  (d + 1)  ) ?_
  rintro _ _ ⟨rfl, rfl⟩
  dsimp only [Option.toList, List.cons_append, List.nil_append]
  refine G_if_ne (pc := 13) (tgt := 38) (by decide) dX1_goRest_13 (fun z => absurd (by decide) z) (fun _ => ?_)
  refine G_iload_n (pc := 16) rfl dX1_goRest_16 ?_
  refine G_aload_n (pc := 17) rfl dX1_goRest_17 ?_
  refine G_aload_n (pc := 18) rfl dX1_goRest_18 ?_
  refine G_callV (pc := 19) (mc1 := 0) (ms1 := 0) (ci := 1) (mj := mX1_restAct) (vs := []) dX1_goRest_19 rfl rfl cm_X1_restAct wf_173 wf_66 wf_67 rfl (Nat.le_of_ble_eq_true rfl) (Nat.le_of_ble_eq_true rfl) (Nat.le_of_ble_eq_true rfl) (Nat.le_of_ble_eq_true rfl) (s365_X1_restAct  (d + 1)  ) ?_
  rintro _ _ ⟨rfl, rfl⟩
  dsimp only [Option.toList, List.cons_append, List.nil_append]
  refine G_callV (pc := 22) (mc1 := 0) (ms1 := 0) (ci := 1) (mj := mX1_tell) (vs := [_]) dX1_goRest_22 rfl rfl cm_X1_tell wf_69 wf_71 wf_72 rfl (Nat.le_of_ble_eq_true rfl) (Nat.le_of_ble_eq_true rfl) (Nat.le_of_ble_eq_true rfl) (Nat.le_of_ble_eq_true rfl) (s366_X1_tell  d  ) ?_
  rintro _ _ ⟨rfl, rfl⟩
  dsimp only [Option.toList, List.cons_append, List.nil_append]
  refine G_aload_n (pc := 25) rfl dX1_goRest_25 ?_
  refine G_callV (pc := 26) (mc1 := 0) (ms1 := 0) (ci := 1) (mj := mX1_melt) (vs := []) dX1_goRest_26 rfl rfl cm_X1_melt wf_73 wf_75 wf_76 rfl (Nat.le_of_ble_eq_true rfl) (Nat.le_of_ble_eq_true rfl) (Nat.le_of_ble_eq_true rfl) (Nat.le_of_ble_eq_true rfl) (s368_X1_melt  (d + 1)  ) ?_
  rintro _ _ ⟨rfl, rfl⟩
  dsimp only [Option.toList, List.cons_append, List.nil_append]
  refine G_iadd (pc := 29) (z := 0) (by decide) dX1_goRest_29 ?_
  refine G_iadd (pc := 30) (z := 0) (by decide) dX1_goRest_30 ?_
  refine G_istore_n (pc := 31) (L1 := [some (.ref 19), some (.int 9), some (.int 0), some (.int 4)]) rfl rfl (by decide) dX1_goRest_31 ?_
  refine G_iinc (pc := 32) (v := 1) (w := 5) (L1 := [some (.ref 19), some (.int 9), some (.int 0), some (.int 5)]) (by decide) rfl rfl (by decide) rfl (by decide) dX1_goRest_32 ?_
  refine G_goto (pc := 35) (tgt := 4) (by decide) dX1_goRest_35 ?_
  refine G_iload_n (pc := 4) rfl dX1_goRest_4 ?_
  refine G_iload_n (pc := 5) rfl dX1_goRest_5 ?_
  refine G_icmp_ge (pc := 6) (tgt := 38) (by decide) dX1_goRest_6 (fun z => absurd z (by decide)) (fun _ => ?_)
  refine G_aload_n (pc := 9) rfl dX1_goRest_9 ?_
  refine G_callV (pc := 10) (mc1 := 0) (ms1 := 0) (ci := 1) (mj := mX1_isOver) (vs := []) dX1_goRest_10 rfl rfl cm_X1_isOver wf_172 wf_17 wf_18 rfl (Nat.le_of_ble_eq_true rfl) (Nat.le_of_ble_eq_true rfl) (Nat.le_of_ble_eq_true rfl) (Nat.le_of_ble_eq_true rfl) (s369_X1_isOver  (d + 1)  ) ?_
  rintro _ _ ⟨rfl, rfl⟩
  dsimp only [Option.toList, List.cons_append, List.nil_append]
  refine G_if_ne (pc := 13) (tgt := 38) (by decide) dX1_goRest_13 (fun z => absurd (by decide) z) (fun _ => ?_)
  refine G_iload_n (pc := 16) rfl dX1_goRest_16 ?_
  refine G_aload_n (pc := 17) rfl dX1_goRest_17 ?_
  refine G_aload_n (pc := 18) rfl dX1_goRest_18 ?_
  refine G_callV (pc := 19) (mc1 := 0) (ms1 := 0) (ci := 1) (mj := mX1_restAct) (vs := []) dX1_goRest_19 rfl rfl cm_X1_restAct wf_173 wf_66 wf_67 rfl (Nat.le_of_ble_eq_true rfl) (Nat.le_of_ble_eq_true rfl) (Nat.le_of_ble_eq_true rfl) (Nat.le_of_ble_eq_true rfl) (s370_X1_restAct  (d + 1)  ) ?_
  rintro _ _ ⟨rfl, rfl⟩
  dsimp only [Option.toList, List.cons_append, List.nil_append]
  refine G_callV (pc := 22) (mc1 := 0) (ms1 := 0) (ci := 1) (mj := mX1_tell) (vs := [_]) dX1_goRest_22 rfl rfl cm_X1_tell wf_69 wf_71 wf_72 rfl (Nat.le_of_ble_eq_true rfl) (Nat.le_of_ble_eq_true rfl) (Nat.le_of_ble_eq_true rfl) (Nat.le_of_ble_eq_true rfl) (s371_X1_tell  d  ) ?_
  rintro _ _ ⟨rfl, rfl⟩
  dsimp only [Option.toList, List.cons_append, List.nil_append]
  refine G_aload_n (pc := 25) rfl dX1_goRest_25 ?_
  refine G_callV (pc := 26) (mc1 := 0) (ms1 := 0) (ci := 1) (mj := mX1_melt) (vs := []) dX1_goRest_26 rfl rfl cm_X1_melt wf_73 wf_75 wf_76 rfl (Nat.le_of_ble_eq_true rfl) (Nat.le_of_ble_eq_true rfl) (Nat.le_of_ble_eq_true rfl) (Nat.le_of_ble_eq_true rfl) (s373_X1_melt  (d + 1)  ) ?_
  rintro _ _ ⟨rfl, rfl⟩
  dsimp only [Option.toList, List.cons_append, List.nil_append]
  refine G_iadd (pc := 29) (z := 0) (by decide) dX1_goRest_29 ?_
  refine G_iadd (pc := 30) (z := 0) (by decide) dX1_goRest_30 ?_
  refine G_istore_n (pc := 31) (L1 := [some (.ref 19), some (.int 9), some (.int 0), some (.int 5)]) rfl rfl (by decide) dX1_goRest_31 ?_
  refine G_iinc (pc := 32) (v := 1) (w := 6) (L1 := [some (.ref 19), some (.int 9), some (.int 0), some (.int 6)]) (by decide) rfl rfl (by decide) rfl (by decide) dX1_goRest_32 ?_
  refine G_goto (pc := 35) (tgt := 4) (by decide) dX1_goRest_35 ?_
  refine G_iload_n (pc := 4) rfl dX1_goRest_4 ?_
  refine G_iload_n (pc := 5) rfl dX1_goRest_5 ?_
  refine G_icmp_ge (pc := 6) (tgt := 38) (by decide) dX1_goRest_6 (fun z => absurd z (by decide)) (fun _ => ?_)
  refine G_aload_n (pc := 9) rfl dX1_goRest_9 ?_
  refine G_callV (pc := 10) (mc1 := 0) (ms1 := 0) (ci := 1) (mj := mX1_isOver) (vs := []) dX1_goRest_10 rfl rfl cm_X1_isOver wf_172 wf_17 wf_18 rfl (Nat.le_of_ble_eq_true rfl) (Nat.le_of_ble_eq_true rfl) (Nat.le_of_ble_eq_true rfl) (Nat.le_of_ble_eq_true rfl) (s374_X1_isOver  (d + 1)  ) ?_
  rintro _ _ ⟨rfl, rfl⟩
  dsimp only [Option.toList, List.cons_append, List.nil_append]
  refine G_if_ne (pc := 13) (tgt := 38) (by decide) dX1_goRest_13 (fun z => absurd (by decide) z) (fun _ => ?_)
  refine G_iload_n (pc := 16) rfl dX1_goRest_16 ?_
  refine G_aload_n (pc := 17) rfl dX1_goRest_17 ?_
  refine G_aload_n (pc := 18) rfl dX1_goRest_18 ?_
  refine G_callV (pc := 19) (mc1 := 0) (ms1 := 0) (ci := 1) (mj := mX1_restAct) (vs := []) dX1_goRest_19 rfl rfl cm_X1_restAct wf_173 wf_66 wf_67 rfl (Nat.le_of_ble_eq_true rfl) (Nat.le_of_ble_eq_true rfl) (Nat.le_of_ble_eq_true rfl) (Nat.le_of_ble_eq_true rfl) (s375_X1_restAct  (d + 1)  ) ?_
  rintro _ _ ⟨rfl, rfl⟩
  dsimp only [Option.toList, List.cons_append, List.nil_append]
  refine G_callV (pc := 22) (mc1 := 0) (ms1 := 0) (ci := 1) (mj := mX1_tell) (vs := [_]) dX1_goRest_22 rfl rfl cm_X1_tell wf_69 wf_71 wf_72 rfl (Nat.le_of_ble_eq_true rfl) (Nat.le_of_ble_eq_true rfl) (Nat.le_of_ble_eq_true rfl) (Nat.le_of_ble_eq_true rfl) (s376_X1_tell  d  ) ?_
  rintro _ _ ⟨rfl, rfl⟩
  dsimp only [Option.toList, List.cons_append, List.nil_append]
  refine G_aload_n (pc := 25) rfl dX1_goRest_25 ?_
  refine G_callV (pc := 26) (mc1 := 0) (ms1 := 0) (ci := 1) (mj := mX1_melt) (vs := []) dX1_goRest_26 rfl rfl cm_X1_melt wf_73 wf_75 wf_76 rfl (Nat.le_of_ble_eq_true rfl) (Nat.le_of_ble_eq_true rfl) (Nat.le_of_ble_eq_true rfl) (Nat.le_of_ble_eq_true rfl) (s378_X1_melt  (d + 1)  ) ?_
  rintro _ _ ⟨rfl, rfl⟩
  dsimp only [Option.toList, List.cons_append, List.nil_append]
  refine G_iadd (pc := 29) (z := 0) (by decide) dX1_goRest_29 ?_
  refine G_iadd (pc := 30) (z := 0) (by decide) dX1_goRest_30 ?_
  refine G_istore_n (pc := 31) (L1 := [some (.ref 19), some (.int 9), some (.int 0), some (.int 6)]) rfl rfl (by decide) dX1_goRest_31 ?_
  refine G_iinc (pc := 32) (v := 1) (w := 7) (L1 := [some (.ref 19), some (.int 9), some (.int 0), some (.int 7)]) (by decide) rfl rfl (by decide) rfl (by decide) dX1_goRest_32 ?_
  refine G_goto (pc := 35) (tgt := 4) (by decide) dX1_goRest_35 ?_
  refine G_iload_n (pc := 4) rfl dX1_goRest_4 ?_
  refine G_iload_n (pc := 5) rfl dX1_goRest_5 ?_
  refine G_icmp_ge (pc := 6) (tgt := 38) (by decide) dX1_goRest_6 (fun z => absurd z (by decide)) (fun _ => ?_)
  refine G_aload_n (pc := 9) rfl dX1_goRest_9 ?_
  refine G_callV (pc := 10) (mc1 := 0) (ms1 := 0) (ci := 1) (mj := mX1_isOver) (vs := []) dX1_goRest_10 rfl rfl cm_X1_isOver wf_172 wf_17 wf_18 rfl (Nat.le_of_ble_eq_true rfl) (Nat.le_of_ble_eq_true rfl) (Nat.le_of_ble_eq_true rfl) (Nat.le_of_ble_eq_true rfl) (s379_X1_isOver  (d + 1)  ) ?_
  rintro _ _ ⟨rfl, rfl⟩
  dsimp only [Option.toList, List.cons_append, List.nil_append]
  refine G_if_ne (pc := 13) (tgt := 38) (by decide) dX1_goRest_13 (fun z => absurd (by decide) z) (fun _ => ?_)
  refine G_iload_n (pc := 16) rfl dX1_goRest_16 ?_
  refine G_aload_n (pc := 17) rfl dX1_goRest_17 ?_
  refine G_aload_n (pc := 18) rfl dX1_goRest_18 ?_
  refine G_callV (pc := 19) (mc1 := 0) (ms1 := 0) (ci := 1) (mj := mX1_restAct) (vs := []) dX1_goRest_19 rfl rfl cm_X1_restAct wf_173 wf_66 wf_67 rfl (Nat.le_of_ble_eq_true rfl) (Nat.le_of_ble_eq_true rfl) (Nat.le_of_ble_eq_true rfl) (Nat.le_of_ble_eq_true rfl) (s380_X1_restAct  (d + 1)  ) ?_
  rintro _ _ ⟨rfl, rfl⟩
  dsimp only [Option.toList, List.cons_append, List.nil_append]
  refine G_callV (pc := 22) (mc1 := 0) (ms1 := 0) (ci := 1) (mj := mX1_tell) (vs := [_]) dX1_goRest_22 rfl rfl cm_X1_tell wf_69 wf_71 wf_72 rfl (Nat.le_of_ble_eq_true rfl) (Nat.le_of_ble_eq_true rfl) (Nat.le_of_ble_eq_true rfl) (Nat.le_of_ble_eq_true rfl) (s381_X1_tell  d  ) ?_
  rintro _ _ ⟨rfl, rfl⟩
  dsimp only [Option.toList, List.cons_append, List.nil_append]
  refine G_aload_n (pc := 25) rfl dX1_goRest_25 ?_
  refine G_callV (pc := 26) (mc1 := 0) (ms1 := 0) (ci := 1) (mj := mX1_melt) (vs := []) dX1_goRest_26 rfl rfl cm_X1_melt wf_73 wf_75 wf_76 rfl (Nat.le_of_ble_eq_true rfl) (Nat.le_of_ble_eq_true rfl) (Nat.le_of_ble_eq_true rfl) (Nat.le_of_ble_eq_true rfl) (s383_X1_melt  (d + 1)  ) ?_
  rintro _ _ ⟨rfl, rfl⟩
  dsimp only [Option.toList, List.cons_append, List.nil_append]
  refine G_iadd (pc := 29) (z := 0) (by decide) dX1_goRest_29 ?_
  refine G_iadd (pc := 30) (z := 0) (by decide) dX1_goRest_30 ?_
  refine G_istore_n (pc := 31) (L1 := [some (.ref 19), some (.int 9), some (.int 0), some (.int 7)]) rfl rfl (by decide) dX1_goRest_31 ?_
  refine G_iinc (pc := 32) (v := 1) (w := 8) (L1 := [some (.ref 19), some (.int 9), some (.int 0), some (.int 8)]) (by decide) rfl rfl (by decide) rfl (by decide) dX1_goRest_32 ?_
  refine G_goto (pc := 35) (tgt := 4) (by decide) dX1_goRest_35 ?_
  refine G_iload_n (pc := 4) rfl dX1_goRest_4 ?_
  refine G_iload_n (pc := 5) rfl dX1_goRest_5 ?_
  refine G_icmp_ge (pc := 6) (tgt := 38) (by decide) dX1_goRest_6 (fun z => absurd z (by decide)) (fun _ => ?_)
  refine G_aload_n (pc := 9) rfl dX1_goRest_9 ?_
  refine G_callV (pc := 10) (mc1 := 0) (ms1 := 0) (ci := 1) (mj := mX1_isOver) (vs := []) dX1_goRest_10 rfl rfl cm_X1_isOver wf_172 wf_17 wf_18 rfl (Nat.le_of_ble_eq_true rfl) (Nat.le_of_ble_eq_true rfl) (Nat.le_of_ble_eq_true rfl) (Nat.le_of_ble_eq_true rfl) (s384_X1_isOver  (d + 1)  ) ?_
  rintro _ _ ⟨rfl, rfl⟩
  dsimp only [Option.toList, List.cons_append, List.nil_append]
  refine G_if_ne (pc := 13) (tgt := 38) (by decide) dX1_goRest_13 (fun z => absurd (by decide) z) (fun _ => ?_)
  refine G_iload_n (pc := 16) rfl dX1_goRest_16 ?_
  refine G_aload_n (pc := 17) rfl dX1_goRest_17 ?_
  refine G_aload_n (pc := 18) rfl dX1_goRest_18 ?_
  refine G_callV (pc := 19) (mc1 := 0) (ms1 := 0) (ci := 1) (mj := mX1_restAct) (vs := []) dX1_goRest_19 rfl rfl cm_X1_restAct wf_173 wf_66 wf_67 rfl (Nat.le_of_ble_eq_true rfl) (Nat.le_of_ble_eq_true rfl) (Nat.le_of_ble_eq_true rfl) (Nat.le_of_ble_eq_true rfl) (s385_X1_restAct  (d + 1)  ) ?_
  rintro _ _ ⟨rfl, rfl⟩
  dsimp only [Option.toList, List.cons_append, List.nil_append]
  refine G_callV (pc := 22) (mc1 := 0) (ms1 := 0) (ci := 1) (mj := mX1_tell) (vs := [_]) dX1_goRest_22 rfl rfl cm_X1_tell wf_69 wf_71 wf_72 rfl (Nat.le_of_ble_eq_true rfl) (Nat.le_of_ble_eq_true rfl) (Nat.le_of_ble_eq_true rfl) (Nat.le_of_ble_eq_true rfl) (s386_X1_tell  d  ) ?_
  rintro _ _ ⟨rfl, rfl⟩
  dsimp only [Option.toList, List.cons_append, List.nil_append]
  refine G_aload_n (pc := 25) rfl dX1_goRest_25 ?_
  refine G_callV (pc := 26) (mc1 := 0) (ms1 := 0) (ci := 1) (mj := mX1_melt) (vs := []) dX1_goRest_26 rfl rfl cm_X1_melt wf_73 wf_75 wf_76 rfl (Nat.le_of_ble_eq_true rfl) (Nat.le_of_ble_eq_true rfl) (Nat.le_of_ble_eq_true rfl) (Nat.le_of_ble_eq_true rfl) (s388_X1_melt  (d + 1)  ) ?_
  rintro _ _ ⟨rfl, rfl⟩
  dsimp only [Option.toList, List.cons_append, List.nil_append]
  refine G_iadd (pc := 29) (z := 0) (by decide) dX1_goRest_29 ?_
  refine G_iadd (pc := 30) (z := 0) (by decide) dX1_goRest_30 ?_
  refine G_istore_n (pc := 31) (L1 := [some (.ref 19), some (.int 9), some (.int 0), some (.int 8)]) rfl rfl (by decide) dX1_goRest_31 ?_
  refine G_iinc (pc := 32) (v := 1) (w := 9) (L1 := [some (.ref 19), some (.int 9), some (.int 0), some (.int 9)]) (by decide) rfl rfl (by decide) rfl (by decide) dX1_goRest_32 ?_
  refine G_goto (pc := 35) (tgt := 4) (by decide) dX1_goRest_35 ?_
  refine G_iload_n (pc := 4) rfl dX1_goRest_4 ?_
  refine G_iload_n (pc := 5) rfl dX1_goRest_5 ?_
  refine G_icmp_ge (pc := 6) (tgt := 38) (by decide) dX1_goRest_6 (fun _ => ?_) (fun z => absurd (by decide) z)
  refine G_iload_n (pc := 38) rfl dX1_goRest_38 ?_
  exact G_iret (pc := 39) (Nat.le_of_ble_eq_true rfl) (Nat.le_of_ble_eq_true rfl) rfl dX1_goRest_39 ⟨rfl, rfl⟩
set_option maxRecDepth 100000 in
set_option maxHeartbeats 4000000 in
theorem s422_X1_restore  (d : Nat)   : G (d + 1) mX1_restore 0 0 0 0 0 (gent 3 [.ref 19, .int 0]) [] SH0 RF0 (gup (gup (gup (gup (gup (gup (gup (gup (gup (gup (gup (gcp I0 24 34 (0 : Int32).toNatClampNeg (0 : Int32).toNatClampNeg (6 : Int32).toNatClampNeg) 34 6 0) 34 7 0) 19 1 1) 19 1 2) 19 1 3) 19 1 4) 19 1 5) 19 1 6) 19 1 7) 19 1 8) 19 1 9) (fun r h => r = none ∧ h = (SH0, RF0, (gup (gup (gcp (gup (gup (gup (gup (gup (gup (gup (gup (gup (gup (gup (gcp I0 24 34 (0 : Int32).toNatClampNeg (0 : Int32).toNatClampNeg (6 : Int32).toNatClampNeg) 34 6 0) 34 7 0) 19 1 1) 19 1 2) 19 1 3) 19 1 4) 19 1 5) 19 1 6) 19 1 7) 19 1 8) 19 1 9) 34 24 (0 : Int32).toNatClampNeg (0 : Int32).toNatClampNeg (6 : Int32).toNatClampNeg) 19 9 0) 19 1 0))) := by
  refine G_iload_n (pc := 0) rfl dX1_restore_0 ?_
  refine G_bipush (pc := 1) (v := 8) (by decide) dX1_restore_1 ?_
  refine G_imul (pc := 3) (z := 0) (by decide) dX1_restore_3 ?_
  refine G_istore_n (pc := 4) (L1 := [some (.ref 19), some (.int 0), some (.int 0)]) rfl rfl (by decide) dX1_restore_4 ?_
  refine G_aload_n (pc := 5) rfl dX1_restore_5 ?_
  refine G_getR (pc := 6) (r := 34) (ci := 1) (j := 18) rfl lk_RX1_53 rfl rfl rfl dX1_restore_6 ?_
  refine G_iload_n (pc := 9) rfl dX1_restore_9 ?_
  refine G_aload_n (pc := 10) rfl dX1_restore_10 ?_
  refine G_getR (pc := 11) (r := 24) (ci := 1) (j := 11) rfl lk_RX1_31 rfl rfl rfl dX1_restore_11 ?_
  refine G_iconst (pc := 14) (v := 0) (by decide) dX1_restore_14 ?_
  refine G_bipush (pc := 15) (v := 6) (by decide) dX1_restore_15 ?_
  refine G_copy (pc := 17) (x := 34) (y := 24) rfl rfl (by decide) (by decide) (by decide) (by decide) (by decide) wf_50 wf_51 wf_52 wf_53 (Nat.le_of_ble_eq_true rfl) dX1_restore_17 ?_
  refine G_aload_n (pc := 20) rfl dX1_restore_20 ?_
  refine G_aload_n (pc := 21) rfl dX1_restore_21 ?_
  refine G_getR (pc := 22) (r := 34) (ci := 1) (j := 18) rfl lk_RX1_53 rfl rfl rfl dX1_restore_22 ?_
  refine G_iload_n (pc := 25) rfl dX1_restore_25 ?_
  refine G_bipush (pc := 26) (v := 6) (by decide) dX1_restore_26 ?_
  refine G_iadd (pc := 28) (z := 6) (by decide) dX1_restore_28 ?_
  refine G_iald (pc := 29) (jj := 6) (v := 0) (by decide) rfl rfl (by unfold vp_in; decide) dX1_restore_29 ?_
  refine G_putI (pc := 30) (ci := 1) (j := 9) rfl lk_RX1_75 rfl rfl rfl trivial dX1_restore_30 ?_
  refine G_aload_n (pc := 33) rfl dX1_restore_33 ?_
  refine G_aload_n (pc := 34) rfl dX1_restore_34 ?_
  refine G_getR (pc := 35) (r := 34) (ci := 1) (j := 18) rfl lk_RX1_53 rfl rfl rfl dX1_restore_35 ?_
  refine G_iload_n (pc := 38) rfl dX1_restore_38 ?_
  refine G_bipush (pc := 39) (v := 6) (by decide) dX1_restore_39 ?_
  refine G_iadd (pc := 41) (z := 6) (by decide) dX1_restore_41 ?_
  refine G_iconst (pc := 42) (v := 1) (by decide) dX1_restore_42 ?_
  refine G_iadd (pc := 43) (z := 7) (by decide) dX1_restore_43 ?_
  refine G_iald (pc := 44) (jj := 7) (v := 0) (by decide) rfl rfl (by unfold vp_in; decide) dX1_restore_44 ?_
  refine G_putI (pc := 45) (ci := 1) (j := 1) rfl lk_RX1_60 rfl rfl rfl trivial dX1_restore_45 ?_
  exact G_vret (pc := 48) (Nat.le_of_ble_eq_true rfl) (Nat.le_of_ble_eq_true rfl) rfl dX1_restore_48 ⟨rfl, rfl⟩
set_option maxRecDepth 100000 in
set_option maxHeartbeats 4000000 in
theorem s423_X1_goRest  (d : Nat)   : G (d + 2) mX1_goRest 0 0 0 0 0 (gent 4 [.ref 19, .int 10]) [] SH0 RF0 (gup (gup (gcp I0 24 34 (0 : Int32).toNatClampNeg (0 : Int32).toNatClampNeg (6 : Int32).toNatClampNeg) 34 6 0) 34 7 0) (fun r h => r = some (.int 0) ∧ h = (SH0, RF0, (gup (gup (gup (gup (gup (gup (gup (gup (gup (gup (gup (gup (gcp I0 24 34 (0 : Int32).toNatClampNeg (0 : Int32).toNatClampNeg (6 : Int32).toNatClampNeg) 34 6 0) 34 7 0) 19 1 1) 19 1 2) 19 1 3) 19 1 4) 19 1 5) 19 1 6) 19 1 7) 19 1 8) 19 1 9) 19 1 10))) := by
  refine G_iconst (pc := 0) (v := 0) (by decide) dX1_goRest_0 ?_
  refine G_istore_n (pc := 1) (L1 := [some (.ref 19), some (.int 10), some (.int 0), none]) rfl rfl (by decide) dX1_goRest_1 ?_
  refine G_iconst (pc := 2) (v := 0) (by decide) dX1_goRest_2 ?_
  refine G_istore_n (pc := 3) (L1 := [some (.ref 19), some (.int 10), some (.int 0), some (.int 0)]) rfl rfl (by decide) dX1_goRest_3 ?_
  refine G_iload_n (pc := 4) rfl dX1_goRest_4 ?_
  refine G_iload_n (pc := 5) rfl dX1_goRest_5 ?_
  refine G_icmp_ge (pc := 6) (tgt := 38) (by decide) dX1_goRest_6 (fun z => absurd z (by decide)) (fun _ => ?_)
  refine G_aload_n (pc := 9) rfl dX1_goRest_9 ?_
  refine G_callV (pc := 10) (mc1 := 0) (ms1 := 0) (ci := 1) (mj := mX1_isOver) (vs := []) dX1_goRest_10 rfl rfl cm_X1_isOver wf_172 wf_17 wf_18 rfl (Nat.le_of_ble_eq_true rfl) (Nat.le_of_ble_eq_true rfl) (Nat.le_of_ble_eq_true rfl) (Nat.le_of_ble_eq_true rfl) (s348_X1_isOver  (d + 1)  ) ?_
  rintro _ _ ⟨rfl, rfl⟩
  dsimp only [Option.toList, List.cons_append, List.nil_append]
  refine G_if_ne (pc := 13) (tgt := 38) (by decide) dX1_goRest_13 (fun z => absurd (by decide) z) (fun _ => ?_)
  refine G_iload_n (pc := 16) rfl dX1_goRest_16 ?_
  refine G_aload_n (pc := 17) rfl dX1_goRest_17 ?_
  refine G_aload_n (pc := 18) rfl dX1_goRest_18 ?_
  refine G_callV (pc := 19) (mc1 := 0) (ms1 := 0) (ci := 1) (mj := mX1_restAct) (vs := []) dX1_goRest_19 rfl rfl cm_X1_restAct wf_173 wf_66 wf_67 rfl (Nat.le_of_ble_eq_true rfl) (Nat.le_of_ble_eq_true rfl) (Nat.le_of_ble_eq_true rfl) (Nat.le_of_ble_eq_true rfl) (s349_X1_restAct  (d + 1)  ) ?_
  rintro _ _ ⟨rfl, rfl⟩
  dsimp only [Option.toList, List.cons_append, List.nil_append]
  refine G_callV (pc := 22) (mc1 := 0) (ms1 := 0) (ci := 1) (mj := mX1_tell) (vs := [_]) dX1_goRest_22 rfl rfl cm_X1_tell wf_69 wf_71 wf_72 rfl (Nat.le_of_ble_eq_true rfl) (Nat.le_of_ble_eq_true rfl) (Nat.le_of_ble_eq_true rfl) (Nat.le_of_ble_eq_true rfl) (s143_X1_tell  d  ) ?_
  rintro _ _ ⟨rfl, rfl⟩
  dsimp only [Option.toList, List.cons_append, List.nil_append]
  refine G_aload_n (pc := 25) rfl dX1_goRest_25 ?_
  refine G_callV (pc := 26) (mc1 := 0) (ms1 := 0) (ci := 1) (mj := mX1_melt) (vs := []) dX1_goRest_26 rfl rfl cm_X1_melt wf_73 wf_75 wf_76 rfl (Nat.le_of_ble_eq_true rfl) (Nat.le_of_ble_eq_true rfl) (Nat.le_of_ble_eq_true rfl) (Nat.le_of_ble_eq_true rfl) (s145_X1_melt  (d + 1)  ) ?_
  rintro _ _ ⟨rfl, rfl⟩
  dsimp only [Option.toList, List.cons_append, List.nil_append]
  refine G_iadd (pc := 29) (z := 0) (by decide) dX1_goRest_29 ?_
  refine G_iadd (pc := 30) (z := 0) (by decide) dX1_goRest_30 ?_
  refine G_istore_n (pc := 31) (L1 := [some (.ref 19), some (.int 10), some (.int 0), some (.int 0)]) rfl rfl (by decide) dX1_goRest_31 ?_
  refine G_iinc (pc := 32) (v := 1) (w := 1) (L1 := [some (.ref 19), some (.int 10), some (.int 0), some (.int 1)]) (by decide) rfl rfl (by decide) rfl (by decide) dX1_goRest_32 ?_
  refine G_goto (pc := 35) (tgt := 4) (by decide) dX1_goRest_35 ?_
  refine G_iload_n (pc := 4) rfl dX1_goRest_4 ?_
  refine G_iload_n (pc := 5) rfl dX1_goRest_5 ?_
  refine G_icmp_ge (pc := 6) (tgt := 38) (by decide) dX1_goRest_6 (fun z => absurd z (by decide)) (fun _ => ?_)
  refine G_aload_n (pc := 9) rfl dX1_goRest_9 ?_
  refine G_callV (pc := 10) (mc1 := 0) (ms1 := 0) (ci := 1) (mj := mX1_isOver) (vs := []) dX1_goRest_10 rfl rfl cm_X1_isOver wf_172 wf_17 wf_18 rfl (Nat.le_of_ble_eq_true rfl) (Nat.le_of_ble_eq_true rfl) (Nat.le_of_ble_eq_true rfl) (Nat.le_of_ble_eq_true rfl) (s153_X1_isOver  (d + 1)  ) ?_
  rintro _ _ ⟨rfl, rfl⟩
  dsimp only [Option.toList, List.cons_append, List.nil_append]
  refine G_if_ne (pc := 13) (tgt := 38) (by decide) dX1_goRest_13 (fun z => absurd (by decide) z) (fun _ => ?_)
  refine G_iload_n (pc := 16) rfl dX1_goRest_16 ?_
  refine G_aload_n (pc := 17) rfl dX1_goRest_17 ?_
  refine G_aload_n (pc := 18) rfl dX1_goRest_18 ?_
  refine G_callV (pc := 19) (mc1 := 0) (ms1 := 0) (ci := 1) (mj := mX1_restAct) (vs := []) dX1_goRest_19 rfl rfl cm_X1_restAct wf_173 wf_66 wf_67 rfl (Nat.le_of_ble_eq_true rfl) (Nat.le_of_ble_eq_true rfl) (Nat.le_of_ble_eq_true rfl) (Nat.le_of_ble_eq_true rfl) (s350_X1_restAct  (d + 1)  ) ?_
  rintro _ _ ⟨rfl, rfl⟩
  dsimp only [Option.toList, List.cons_append, List.nil_append]
  refine G_callV (pc := 22) (mc1 := 0) (ms1 := 0) (ci := 1) (mj := mX1_tell) (vs := [_]) dX1_goRest_22 rfl rfl cm_X1_tell wf_69 wf_71 wf_72 rfl (Nat.le_of_ble_eq_true rfl) (Nat.le_of_ble_eq_true rfl) (Nat.le_of_ble_eq_true rfl) (Nat.le_of_ble_eq_true rfl) (s351_X1_tell  d  ) ?_
  rintro _ _ ⟨rfl, rfl⟩
  dsimp only [Option.toList, List.cons_append, List.nil_append]
  refine G_aload_n (pc := 25) rfl dX1_goRest_25 ?_
  refine G_callV (pc := 26) (mc1 := 0) (ms1 := 0) (ci := 1) (mj := mX1_melt) (vs := []) dX1_goRest_26 rfl rfl cm_X1_melt wf_73 wf_75 wf_76 rfl (Nat.le_of_ble_eq_true rfl) (Nat.le_of_ble_eq_true rfl) (Nat.le_of_ble_eq_true rfl) (Nat.le_of_ble_eq_true rfl) (s353_X1_melt  (d + 1)  ) ?_
  rintro _ _ ⟨rfl, rfl⟩
  dsimp only [Option.toList, List.cons_append, List.nil_append]
  refine G_iadd (pc := 29) (z := 0) (by decide) dX1_goRest_29 ?_
  refine G_iadd (pc := 30) (z := 0) (by decide) dX1_goRest_30 ?_
  refine G_istore_n (pc := 31) (L1 := [some (.ref 19), some (.int 10), some (.int 0), some (.int 1)]) rfl rfl (by decide) dX1_goRest_31 ?_
  refine G_iinc (pc := 32) (v := 1) (w := 2) (L1 := [some (.ref 19), some (.int 10), some (.int 0), some (.int 2)]) (by decide) rfl rfl (by decide) rfl (by decide) dX1_goRest_32 ?_
  refine G_goto (pc := 35) (tgt := 4) (by decide) dX1_goRest_35 ?_
  refine G_iload_n (pc := 4) rfl dX1_goRest_4 ?_
  refine G_iload_n (pc := 5) rfl dX1_goRest_5 ?_
  refine G_icmp_ge (pc := 6) (tgt := 38) (by decide) dX1_goRest_6 (fun z => absurd z (by decide)) (fun _ => ?_)
  refine G_aload_n (pc := 9) rfl dX1_goRest_9 ?_
  refine G_callV (pc := 10) (mc1 := 0) (ms1 := 0) (ci := 1) (mj := mX1_isOver) (vs := []) dX1_goRest_10 rfl rfl cm_X1_isOver wf_172 wf_17 wf_18 rfl (Nat.le_of_ble_eq_true rfl) (Nat.le_of_ble_eq_true rfl) (Nat.le_of_ble_eq_true rfl) (Nat.le_of_ble_eq_true rfl) (s354_X1_isOver  (d + 1)  ) ?_
  rintro _ _ ⟨rfl, rfl⟩
  dsimp only [Option.toList, List.cons_append, List.nil_append]
  refine G_if_ne (pc := 13) (tgt := 38) (by decide) dX1_goRest_13 (fun z => absurd (by decide) z) (fun _ => ?_)
  refine G_iload_n (pc := 16) rfl dX1_goRest_16 ?_
  refine G_aload_n (pc := 17) rfl dX1_goRest_17 ?_
  refine G_aload_n (pc := 18) rfl dX1_goRest_18 ?_
  refine G_callV (pc := 19) (mc1 := 0) (ms1 := 0) (ci := 1) (mj := mX1_restAct) (vs := []) dX1_goRest_19 rfl rfl cm_X1_restAct wf_173 wf_66 wf_67 rfl (Nat.le_of_ble_eq_true rfl) (Nat.le_of_ble_eq_true rfl) (Nat.le_of_ble_eq_true rfl) (Nat.le_of_ble_eq_true rfl) (s355_X1_restAct  (d + 1)  ) ?_
  rintro _ _ ⟨rfl, rfl⟩
  dsimp only [Option.toList, List.cons_append, List.nil_append]
  refine G_callV (pc := 22) (mc1 := 0) (ms1 := 0) (ci := 1) (mj := mX1_tell) (vs := [_]) dX1_goRest_22 rfl rfl cm_X1_tell wf_69 wf_71 wf_72 rfl (Nat.le_of_ble_eq_true rfl) (Nat.le_of_ble_eq_true rfl) (Nat.le_of_ble_eq_true rfl) (Nat.le_of_ble_eq_true rfl) (s356_X1_tell  d  ) ?_
  rintro _ _ ⟨rfl, rfl⟩
  dsimp only [Option.toList, List.cons_append, List.nil_append]
  refine G_aload_n (pc := 25) rfl dX1_goRest_25 ?_
  refine G_callV (pc := 26) (mc1 := 0) (ms1 := 0) (ci := 1) (mj := mX1_melt) (vs := []) dX1_goRest_26 rfl rfl cm_X1_melt wf_73 wf_75 wf_76 rfl (Nat.le_of_ble_eq_true rfl) (Nat.le_of_ble_eq_true rfl) (Nat.le_of_ble_eq_true rfl) (Nat.le_of_ble_eq_true rfl) (s358_X1_melt  (d + 1)  ) ?_
  rintro _ _ ⟨rfl, rfl⟩
  dsimp only [Option.toList, List.cons_append, List.nil_append]
  refine G_iadd (pc := 29) (z := 0) (by decide) dX1_goRest_29 ?_
  refine G_iadd (pc := 30) (z := 0) (by decide) dX1_goRest_30 ?_
  refine G_istore_n (pc := 31) (L1 := [some (.ref 19), some (.int 10), some (.int 0), some (.int 2)]) rfl rfl (by decide) dX1_goRest_31 ?_
  refine G_iinc (pc := 32) (v := 1) (w := 3) (L1 := [some (.ref 19), some (.int 10), some (.int 0), some (.int 3)]) (by decide) rfl rfl (by decide) rfl (by decide) dX1_goRest_32 ?_
  refine G_goto (pc := 35) (tgt := 4) (by decide) dX1_goRest_35 ?_
  refine G_iload_n (pc := 4) rfl dX1_goRest_4 ?_
  refine G_iload_n (pc := 5) rfl dX1_goRest_5 ?_
  refine G_icmp_ge (pc := 6) (tgt := 38) (by decide) dX1_goRest_6 (fun z => absurd z (by decide)) (fun _ => ?_)
  refine G_aload_n (pc := 9) rfl dX1_goRest_9 ?_
  refine G_callV (pc := 10) (mc1 := 0) (ms1 := 0) (ci := 1) (mj := mX1_isOver) (vs := []) dX1_goRest_10 rfl rfl cm_X1_isOver wf_172 wf_17 wf_18 rfl (Nat.le_of_ble_eq_true rfl) (Nat.le_of_ble_eq_true rfl) (Nat.le_of_ble_eq_true rfl) (Nat.le_of_ble_eq_true rfl) (s359_X1_isOver  (d + 1)  ) ?_
  rintro _ _ ⟨rfl, rfl⟩
  dsimp only [Option.toList, List.cons_append, List.nil_append]
  refine G_if_ne (pc := 13) (tgt := 38) (by decide) dX1_goRest_13 (fun z => absurd (by decide) z) (fun _ => ?_)
  refine G_iload_n (pc := 16) rfl dX1_goRest_16 ?_
  refine G_aload_n (pc := 17) rfl dX1_goRest_17 ?_
  refine G_aload_n (pc := 18) rfl dX1_goRest_18 ?_
  refine G_callV (pc := 19) (mc1 := 0) (ms1 := 0) (ci := 1) (mj := mX1_restAct) (vs := []) dX1_goRest_19 rfl rfl cm_X1_restAct wf_173 wf_66 wf_67 rfl (Nat.le_of_ble_eq_true rfl) (Nat.le_of_ble_eq_true rfl) (Nat.le_of_ble_eq_true rfl) (Nat.le_of_ble_eq_true rfl) (s360_X1_restAct  (d + 1)  ) ?_
  rintro _ _ ⟨rfl, rfl⟩
  dsimp only [Option.toList, List.cons_append, List.nil_append]
  refine G_callV (pc := 22) (mc1 := 0) (ms1 := 0) (ci := 1) (mj := mX1_tell) (vs := [_]) dX1_goRest_22 rfl rfl cm_X1_tell wf_69 wf_71 wf_72 rfl (Nat.le_of_ble_eq_true rfl) (Nat.le_of_ble_eq_true rfl) (Nat.le_of_ble_eq_true rfl) (Nat.le_of_ble_eq_true rfl) (s361_X1_tell  d  ) ?_
  rintro _ _ ⟨rfl, rfl⟩
  dsimp only [Option.toList, List.cons_append, List.nil_append]
  refine G_aload_n (pc := 25) rfl dX1_goRest_25 ?_
  refine G_callV (pc := 26) (mc1 := 0) (ms1 := 0) (ci := 1) (mj := mX1_melt) (vs := []) dX1_goRest_26 rfl rfl cm_X1_melt wf_73 wf_75 wf_76 rfl (Nat.le_of_ble_eq_true rfl) (Nat.le_of_ble_eq_true rfl) (Nat.le_of_ble_eq_true rfl) (Nat.le_of_ble_eq_true rfl) (s363_X1_melt  (d + 1)  ) ?_
  rintro _ _ ⟨rfl, rfl⟩
  dsimp only [Option.toList, List.cons_append, List.nil_append]
  refine G_iadd (pc := 29) (z := 0) (by decide) dX1_goRest_29 ?_
  refine G_iadd (pc := 30) (z := 0) (by decide) dX1_goRest_30 ?_
  refine G_istore_n (pc := 31) (L1 := [some (.ref 19), some (.int 10), some (.int 0), some (.int 3)]) rfl rfl (by decide) dX1_goRest_31 ?_
  refine G_iinc (pc := 32) (v := 1) (w := 4) (L1 := [some (.ref 19), some (.int 10), some (.int 0), some (.int 4)]) (by decide) rfl rfl (by decide) rfl (by decide) dX1_goRest_32 ?_
  refine G_goto (pc := 35) (tgt := 4) (by decide) dX1_goRest_35 ?_
  refine G_iload_n (pc := 4) rfl dX1_goRest_4 ?_
  refine G_iload_n (pc := 5) rfl dX1_goRest_5 ?_
  refine G_icmp_ge (pc := 6) (tgt := 38) (by decide) dX1_goRest_6 (fun z => absurd z (by decide)) (fun _ => ?_)
  refine G_aload_n (pc := 9) rfl dX1_goRest_9 ?_
  refine G_callV (pc := 10) (mc1 := 0) (ms1 := 0) (ci := 1) (mj := mX1_isOver) (vs := []) dX1_goRest_10 rfl rfl cm_X1_isOver wf_172 wf_17 wf_18 rfl (Nat.le_of_ble_eq_true rfl) (Nat.le_of_ble_eq_true rfl) (Nat.le_of_ble_eq_true rfl) (Nat.le_of_ble_eq_true rfl) (s364_X1_isOver  (d + 1)  ) ?_
  rintro _ _ ⟨rfl, rfl⟩
  dsimp only [Option.toList, List.cons_append, List.nil_append]
  refine G_if_ne (pc := 13) (tgt := 38) (by decide) dX1_goRest_13 (fun z => absurd (by decide) z) (fun _ => ?_)
  refine G_iload_n (pc := 16) rfl dX1_goRest_16 ?_
  refine G_aload_n (pc := 17) rfl dX1_goRest_17 ?_
  refine G_aload_n (pc := 18) rfl dX1_goRest_18 ?_
  refine G_callV (pc := 19) (mc1 := 0) (ms1 := 0) (ci := 1) (mj := mX1_restAct) (vs := []) dX1_goRest_19 rfl rfl cm_X1_restAct wf_173 wf_66 wf_67 rfl (Nat.le_of_ble_eq_true rfl) (Nat.le_of_ble_eq_true rfl) (Nat.le_of_ble_eq_true rfl) (Nat.le_of_ble_eq_true rfl) (s365_X1_restAct  (d + 1)  ) ?_
  rintro _ _ ⟨rfl, rfl⟩
  dsimp only [Option.toList, List.cons_append, List.nil_append]
  refine G_callV (pc := 22) (mc1 := 0) (ms1 := 0) (ci := 1) (mj := mX1_tell) (vs := [_]) dX1_goRest_22 rfl rfl cm_X1_tell wf_69 wf_71 wf_72 rfl (Nat.le_of_ble_eq_true rfl) (Nat.le_of_ble_eq_true rfl) (Nat.le_of_ble_eq_true rfl) (Nat.le_of_ble_eq_true rfl) (s366_X1_tell  d  ) ?_
  rintro _ _ ⟨rfl, rfl⟩
  dsimp only [Option.toList, List.cons_append, List.nil_append]
  refine G_aload_n (pc := 25) rfl dX1_goRest_25 ?_
  refine G_callV (pc := 26) (mc1 := 0) (ms1 := 0) (ci := 1) (mj := mX1_melt) (vs := []) dX1_goRest_26 rfl rfl cm_X1_melt wf_73 wf_75 wf_76 rfl (Nat.le_of_ble_eq_true rfl) (Nat.le_of_ble_eq_true rfl) (Nat.le_of_ble_eq_true rfl) (Nat.le_of_ble_eq_true rfl) (s368_X1_melt  (d + 1)  ) ?_
  rintro _ _ ⟨rfl, rfl⟩
  dsimp only [Option.toList, List.cons_append, List.nil_append]
  refine G_iadd (pc := 29) (z := 0) (by decide) dX1_goRest_29 ?_
  refine G_iadd (pc := 30) (z := 0) (by decide) dX1_goRest_30 ?_
  refine G_istore_n (pc := 31) (L1 := [some (.ref 19), some (.int 10), some (.int 0), some (.int 4)]) rfl rfl (by decide) dX1_goRest_31 ?_
  refine G_iinc (pc := 32) (v := 1) (w := 5) (L1 := [some (.ref 19), some (.int 10), some (.int 0), some (.int 5)]) (by decide) rfl rfl (by decide) rfl (by decide) dX1_goRest_32 ?_
  refine G_goto (pc := 35) (tgt := 4) (by decide) dX1_goRest_35 ?_
  refine G_iload_n (pc := 4) rfl dX1_goRest_4 ?_
  refine G_iload_n (pc := 5) rfl dX1_goRest_5 ?_
  refine G_icmp_ge (pc := 6) (tgt := 38) (by decide) dX1_goRest_6 (fun z => absurd z (by decide)) (fun _ => ?_)
  refine G_aload_n (pc := 9) rfl dX1_goRest_9 ?_
  refine G_callV (pc := 10) (mc1 := 0) (ms1 := 0) (ci := 1) (mj := mX1_isOver) (vs := []) dX1_goRest_10 rfl rfl cm_X1_isOver wf_172 wf_17 wf_18 rfl (Nat.le_of_ble_eq_true rfl) (Nat.le_of_ble_eq_true rfl) (Nat.le_of_ble_eq_true rfl) (Nat.le_of_ble_eq_true rfl) (s369_X1_isOver  (d + 1)  ) ?_
  rintro _ _ ⟨rfl, rfl⟩
  dsimp only [Option.toList, List.cons_append, List.nil_append]
  refine G_if_ne (pc := 13) (tgt := 38) (by decide) dX1_goRest_13 (fun z => absurd (by decide) z) (fun _ => ?_)
  refine G_iload_n (pc := 16) rfl dX1_goRest_16 ?_
  refine G_aload_n (pc := 17) rfl dX1_goRest_17 ?_
  refine G_aload_n (pc := 18) rfl dX1_goRest_18 ?_
  refine G_callV (pc := 19) (mc1 := 0) (ms1 := 0) (ci := 1) (mj := mX1_restAct) (vs := []) dX1_goRest_19 rfl rfl cm_X1_restAct wf_173 wf_66 wf_67 rfl (Nat.le_of_ble_eq_true rfl) (Nat.le_of_ble_eq_true rfl) (Nat.le_of_ble_eq_true rfl) (Nat.le_of_ble_eq_true rfl) (s370_X1_restAct  (d + 1)  ) ?_
  rintro _ _ ⟨rfl, rfl⟩
  dsimp only [Option.toList, List.cons_append, List.nil_append]
  refine G_callV (pc := 22) (mc1 := 0) (ms1 := 0) (ci := 1) (mj := mX1_tell) (vs := [_]) dX1_goRest_22 rfl rfl cm_X1_tell wf_69 wf_71 wf_72 rfl (Nat.le_of_ble_eq_true rfl) (Nat.le_of_ble_eq_true rfl) (Nat.le_of_ble_eq_true rfl) (Nat.le_of_ble_eq_true rfl) (s371_X1_tell  d  ) ?_
  rintro _ _ ⟨rfl, rfl⟩
  dsimp only [Option.toList, List.cons_append, List.nil_append]
  refine G_aload_n (pc := 25) rfl dX1_goRest_25 ?_
  refine G_callV (pc := 26) (mc1 := 0) (ms1 := 0) (ci := 1) (mj := mX1_melt) (vs := []) dX1_goRest_26 rfl rfl cm_X1_melt wf_73 wf_75 wf_76 rfl (Nat.le_of_ble_eq_true rfl) (Nat.le_of_ble_eq_true rfl) (Nat.le_of_ble_eq_true rfl) (Nat.le_of_ble_eq_true rfl) (s373_X1_melt  (d + 1)  ) ?_
  rintro _ _ ⟨rfl, rfl⟩
  dsimp only [Option.toList, List.cons_append, List.nil_append]
  refine G_iadd (pc := 29) (z := 0) (by decide) dX1_goRest_29 ?_
  refine G_iadd (pc := 30) (z := 0) (by decide) dX1_goRest_30 ?_
  refine G_istore_n (pc := 31) (L1 := [some (.ref 19), some (.int 10), some (.int 0), some (.int 5)]) rfl rfl (by decide) dX1_goRest_31 ?_
  refine G_iinc (pc := 32) (v := 1) (w := 6) (L1 := [some (.ref 19), some (.int 10), some (.int 0), some (.int 6)]) (by decide) rfl rfl (by decide) rfl (by decide) dX1_goRest_32 ?_
  refine G_goto (pc := 35) (tgt := 4) (by decide) dX1_goRest_35 ?_
  refine G_iload_n (pc := 4) rfl dX1_goRest_4 ?_
  refine G_iload_n (pc := 5) rfl dX1_goRest_5 ?_
  refine G_icmp_ge (pc := 6) (tgt := 38) (by decide) dX1_goRest_6 (fun z => absurd z (by decide)) (fun _ => ?_)
  refine G_aload_n (pc := 9) rfl dX1_goRest_9 ?_
  refine G_callV (pc := 10) (mc1 := 0) (ms1 := 0) (ci := 1) (mj := mX1_isOver) (vs := []) dX1_goRest_10 rfl rfl cm_X1_isOver wf_172 wf_17 wf_18 rfl (Nat.le_of_ble_eq_true rfl) (Nat.le_of_ble_eq_true rfl) (Nat.le_of_ble_eq_true rfl) (Nat.le_of_ble_eq_true rfl) (s374_X1_isOver  (d + 1)  ) ?_
  rintro _ _ ⟨rfl, rfl⟩
  dsimp only [Option.toList, List.cons_append, List.nil_append]
  refine G_if_ne (pc := 13) (tgt := 38) (by decide) dX1_goRest_13 (fun z => absurd (by decide) z) (fun _ => ?_)
  refine G_iload_n (pc := 16) rfl dX1_goRest_16 ?_
  refine G_aload_n (pc := 17) rfl dX1_goRest_17 ?_
  refine G_aload_n (pc := 18) rfl dX1_goRest_18 ?_
  refine G_callV (pc := 19) (mc1 := 0) (ms1 := 0) (ci := 1) (mj := mX1_restAct) (vs := []) dX1_goRest_19 rfl rfl cm_X1_restAct wf_173 wf_66 wf_67 rfl (Nat.le_of_ble_eq_true rfl) (Nat.le_of_ble_eq_true rfl) (Nat.le_of_ble_eq_true rfl) (Nat.le_of_ble_eq_true rfl) (s375_X1_restAct  (d + 1)  ) ?_
  rintro _ _ ⟨rfl, rfl⟩
  dsimp only [Option.toList, List.cons_append, List.nil_append]
  refine G_callV (pc := 22) (mc1 := 0) (ms1 := 0) (ci := 1) (mj := mX1_tell) (vs := [_]) dX1_goRest_22 rfl rfl cm_X1_tell wf_69 wf_71 wf_72 rfl (Nat.le_of_ble_eq_true rfl) (Nat.le_of_ble_eq_true rfl) (Nat.le_of_ble_eq_true rfl) (Nat.le_of_ble_eq_true rfl) (s376_X1_tell  d  ) ?_
  rintro _ _ ⟨rfl, rfl⟩
  dsimp only [Option.toList, List.cons_append, List.nil_append]
  refine G_aload_n (pc := 25) rfl dX1_goRest_25 ?_
  refine G_callV (pc := 26) (mc1 := 0) (ms1 := 0) (ci := 1) (mj := mX1_melt) (vs := []) dX1_goRest_26 rfl rfl cm_X1_melt wf_73 wf_75 wf_76 rfl (Nat.le_of_ble_eq_true rfl) (Nat.le_of_ble_eq_true rfl) (Nat.le_of_ble_eq_true rfl) (Nat.le_of_ble_eq_true rfl) (s378_X1_melt  (d + 1)  ) ?_
  rintro _ _ ⟨rfl, rfl⟩
  dsimp only [Option.toList, List.cons_append, List.nil_append]
  refine G_iadd (pc := 29) (z := 0) (by decide) dX1_goRest_29 ?_
  refine G_iadd (pc := 30) (z := 0) (by decide) dX1_goRest_30 ?_
  refine G_istore_n (pc := 31) (L1 := [some (.ref 19), some (.int 10), some (.int 0), some (.int 6)]) rfl rfl (by decide) dX1_goRest_31 ?_
  refine G_iinc (pc := 32) (v := 1) (w := 7) (L1 := [some (.ref 19), some (.int 10), some (.int 0), some (.int 7)]) (by decide) rfl rfl (by decide) rfl (by decide) dX1_goRest_32 ?_
  refine G_goto (pc := 35) (tgt := 4) (by decide) dX1_goRest_35 ?_
  refine G_iload_n (pc := 4) rfl dX1_goRest_4 ?_
  refine G_iload_n (pc := 5) rfl dX1_goRest_5 ?_
  refine G_icmp_ge (pc := 6) (tgt := 38) (by decide) dX1_goRest_6 (fun z => absurd z (by decide)) (fun _ => ?_)
  refine G_aload_n (pc := 9) rfl dX1_goRest_9 ?_
  refine G_callV (pc := 10) (mc1 := 0) (ms1 := 0) (ci := 1) (mj := mX1_isOver) (vs := []) dX1_goRest_10 rfl rfl cm_X1_isOver wf_172 wf_17 wf_18 rfl (Nat.le_of_ble_eq_true rfl) (Nat.le_of_ble_eq_true rfl) (Nat.le_of_ble_eq_true rfl) (Nat.le_of_ble_eq_true rfl) (s379_X1_isOver  (d + 1)  ) ?_
  rintro _ _ ⟨rfl, rfl⟩
  dsimp only [Option.toList, List.cons_append, List.nil_append]
  refine G_if_ne (pc := 13) (tgt := 38) (by decide) dX1_goRest_13 (fun z => absurd (by decide) z) (fun _ => ?_)
  refine G_iload_n (pc := 16) rfl dX1_goRest_16 ?_
  refine G_aload_n (pc := 17) rfl dX1_goRest_17 ?_
  refine G_aload_n (pc := 18) rfl dX1_goRest_18 ?_
  refine G_callV (pc := 19) (mc1 := 0) (ms1 := 0) (ci := 1) (mj := mX1_restAct) (vs := []) dX1_goRest_19 rfl rfl cm_X1_restAct wf_173 wf_66 wf_67 rfl (Nat.le_of_ble_eq_true rfl) (Nat.le_of_ble_eq_true rfl) (Nat.le_of_ble_eq_true rfl) (Nat.le_of_ble_eq_true rfl) (s380_X1_restAct  (d + 1)  ) ?_
  rintro _ _ ⟨rfl, rfl⟩
  dsimp only [Option.toList, List.cons_append, List.nil_append]
  refine G_callV (pc := 22) (mc1 := 0) (ms1 := 0) (ci := 1) (mj := mX1_tell) (vs := [_]) dX1_goRest_22 rfl rfl cm_X1_tell wf_69 wf_71 wf_72 rfl (Nat.le_of_ble_eq_true rfl) (Nat.le_of_ble_eq_true rfl) (Nat.le_of_ble_eq_true rfl) (Nat.le_of_ble_eq_true rfl) (s381_X1_tell  d  ) ?_
  rintro _ _ ⟨rfl, rfl⟩
  dsimp only [Option.toList, List.cons_append, List.nil_append]
  refine G_aload_n (pc := 25) rfl dX1_goRest_25 ?_
  refine G_callV (pc := 26) (mc1 := 0) (ms1 := 0) (ci := 1) (mj := mX1_melt) (vs := []) dX1_goRest_26 rfl rfl cm_X1_melt wf_73 wf_75 wf_76 rfl (Nat.le_of_ble_eq_true rfl) (Nat.le_of_ble_eq_true rfl) (Nat.le_of_ble_eq_true rfl) (Nat.le_of_ble_eq_true rfl) (s383_X1_melt  (d + 1)  ) ?_
  rintro _ _ ⟨rfl, rfl⟩
  dsimp only [Option.toList, List.cons_append, List.nil_append]
  refine G_iadd (pc := 29) (z := 0) (by decide) dX1_goRest_29 ?_
  refine G_iadd (pc := 30) (z := 0) (by decide) dX1_goRest_30 ?_
  refine G_istore_n (pc := 31) (L1 := [some (.ref 19), some (.int 10), some (.int 0), some (.int 7)]) rfl rfl (by decide) dX1_goRest_31 ?_
  refine G_iinc (pc := 32) (v := 1) (w := 8) (L1 := [some (.ref 19), some (.int 10), some (.int 0), some (.int 8)]) (by decide) rfl rfl (by decide) rfl (by decide) dX1_goRest_32 ?_
  refine G_goto (pc := 35) (tgt := 4) (by decide) dX1_goRest_35 ?_
  refine G_iload_n (pc := 4) rfl dX1_goRest_4 ?_
  refine G_iload_n (pc := 5) rfl dX1_goRest_5 ?_
  refine G_icmp_ge (pc := 6) (tgt := 38) (by decide) dX1_goRest_6 (fun z => absurd z (by decide)) (fun _ => ?_)
  refine G_aload_n (pc := 9) rfl dX1_goRest_9 ?_
  refine G_callV (pc := 10) (mc1 := 0) (ms1 := 0) (ci := 1) (mj := mX1_isOver) (vs := []) dX1_goRest_10 rfl rfl cm_X1_isOver wf_172 wf_17 wf_18 rfl (Nat.le_of_ble_eq_true rfl) (Nat.le_of_ble_eq_true rfl) (Nat.le_of_ble_eq_true rfl) (Nat.le_of_ble_eq_true rfl) (s384_X1_isOver  (d + 1)  ) ?_
  rintro _ _ ⟨rfl, rfl⟩
  dsimp only [Option.toList, List.cons_append, List.nil_append]
  refine G_if_ne (pc := 13) (tgt := 38) (by decide) dX1_goRest_13 (fun z => absurd (by decide) z) (fun _ => ?_)
  refine G_iload_n (pc := 16) rfl dX1_goRest_16 ?_
  refine G_aload_n (pc := 17) rfl dX1_goRest_17 ?_
  refine G_aload_n (pc := 18) rfl dX1_goRest_18 ?_
  refine G_callV (pc := 19) (mc1 := 0) (ms1 := 0) (ci := 1) (mj := mX1_restAct) (vs := []) dX1_goRest_19 rfl rfl cm_X1_restAct wf_173 wf_66 wf_67 rfl (Nat.le_of_ble_eq_true rfl) (Nat.le_of_ble_eq_true rfl) (Nat.le_of_ble_eq_true rfl) (Nat.le_of_ble_eq_true rfl) (s385_X1_restAct  (d + 1)  ) ?_
  rintro _ _ ⟨rfl, rfl⟩
  dsimp only [Option.toList, List.cons_append, List.nil_append]
  refine G_callV (pc := 22) (mc1 := 0) (ms1 := 0) (ci := 1) (mj := mX1_tell) (vs := [_]) dX1_goRest_22 rfl rfl cm_X1_tell wf_69 wf_71 wf_72 rfl (Nat.le_of_ble_eq_true rfl) (Nat.le_of_ble_eq_true rfl) (Nat.le_of_ble_eq_true rfl) (Nat.le_of_ble_eq_true rfl) (s386_X1_tell  d  ) ?_
  rintro _ _ ⟨rfl, rfl⟩
  dsimp only [Option.toList, List.cons_append, List.nil_append]
  refine G_aload_n (pc := 25) rfl dX1_goRest_25 ?_
  refine G_callV (pc := 26) (mc1 := 0) (ms1 := 0) (ci := 1) (mj := mX1_melt) (vs := []) dX1_goRest_26 rfl rfl cm_X1_melt wf_73 wf_75 wf_76 rfl (Nat.le_of_ble_eq_true rfl) (Nat.le_of_ble_eq_true rfl) (Nat.le_of_ble_eq_true rfl) (Nat.le_of_ble_eq_true rfl) (s388_X1_melt  (d + 1)  ) ?_
  rintro _ _ ⟨rfl, rfl⟩
  dsimp only [Option.toList, List.cons_append, List.nil_append]
  refine G_iadd (pc := 29) (z := 0) (by decide) dX1_goRest_29 ?_
  refine G_iadd (pc := 30) (z := 0) (by decide) dX1_goRest_30 ?_
  refine G_istore_n (pc := 31) (L1 := [some (.ref 19), some (.int 10), some (.int 0), some (.int 8)]) rfl rfl (by decide) dX1_goRest_31 ?_
  refine G_iinc (pc := 32) (v := 1) (w := 9) (L1 := [some (.ref 19), some (.int 10), some (.int 0), some (.int 9)]) (by decide) rfl rfl (by decide) rfl (by decide) dX1_goRest_32 ?_
  refine G_goto (pc := 35) (tgt := 4) (by decide) dX1_goRest_35 ?_
  refine G_iload_n (pc := 4) rfl dX1_goRest_4 ?_
  refine G_iload_n (pc := 5) rfl dX1_goRest_5 ?_
  refine G_icmp_ge (pc := 6) (tgt := 38) (by decide) dX1_goRest_6 (fun z => absurd z (by decide)) (fun _ => ?_)
  refine G_aload_n (pc := 9) rfl dX1_goRest_9 ?_
  refine G_callV (pc := 10) (mc1 := 0) (ms1 := 0) (ci := 1) (mj := mX1_isOver) (vs := []) dX1_goRest_10 rfl rfl cm_X1_isOver wf_172 wf_17 wf_18 rfl (Nat.le_of_ble_eq_true rfl) (Nat.le_of_ble_eq_true rfl) (Nat.le_of_ble_eq_true rfl) (Nat.le_of_ble_eq_true rfl) (s389_X1_isOver  (d + 1)  ) ?_
  rintro _ _ ⟨rfl, rfl⟩
  dsimp only [Option.toList, List.cons_append, List.nil_append]
  refine G_if_ne (pc := 13) (tgt := 38) (by decide) dX1_goRest_13 (fun z => absurd (by decide) z) (fun _ => ?_)
  refine G_iload_n (pc := 16) rfl dX1_goRest_16 ?_
  refine G_aload_n (pc := 17) rfl dX1_goRest_17 ?_
  refine G_aload_n (pc := 18) rfl dX1_goRest_18 ?_
  refine G_callV (pc := 19) (mc1 := 0) (ms1 := 0) (ci := 1) (mj := mX1_restAct) (vs := []) dX1_goRest_19 rfl rfl cm_X1_restAct wf_173 wf_66 wf_67 rfl (Nat.le_of_ble_eq_true rfl) (Nat.le_of_ble_eq_true rfl) (Nat.le_of_ble_eq_true rfl) (Nat.le_of_ble_eq_true rfl) (s390_X1_restAct  (d + 1)  ) ?_
  rintro _ _ ⟨rfl, rfl⟩
  dsimp only [Option.toList, List.cons_append, List.nil_append]
  refine G_callV (pc := 22) (mc1 := 0) (ms1 := 0) (ci := 1) (mj := mX1_tell) (vs := [_]) dX1_goRest_22 rfl rfl cm_X1_tell wf_69 wf_71 wf_72 rfl (Nat.le_of_ble_eq_true rfl) (Nat.le_of_ble_eq_true rfl) (Nat.le_of_ble_eq_true rfl) (Nat.le_of_ble_eq_true rfl) (s391_X1_tell  d  ) ?_
  rintro _ _ ⟨rfl, rfl⟩
  dsimp only [Option.toList, List.cons_append, List.nil_append]
  refine G_aload_n (pc := 25) rfl dX1_goRest_25 ?_
  refine G_callV (pc := 26) (mc1 := 0) (ms1 := 0) (ci := 1) (mj := mX1_melt) (vs := []) dX1_goRest_26 rfl rfl cm_X1_melt wf_73 wf_75 wf_76 rfl (Nat.le_of_ble_eq_true rfl) (Nat.le_of_ble_eq_true rfl) (Nat.le_of_ble_eq_true rfl) (Nat.le_of_ble_eq_true rfl) (s393_X1_melt  (d + 1)  ) ?_
  rintro _ _ ⟨rfl, rfl⟩
  dsimp only [Option.toList, List.cons_append, List.nil_append]
  refine G_iadd (pc := 29) (z := 0) (by decide) dX1_goRest_29 ?_
  refine G_iadd (pc := 30) (z := 0) (by decide) dX1_goRest_30 ?_
  refine G_istore_n (pc := 31) (L1 := [some (.ref 19), some (.int 10), some (.int 0), some (.int 9)]) rfl rfl (by decide) dX1_goRest_31 ?_
  refine G_iinc (pc := 32) (v := 1) (w := 10) (L1 := [some (.ref 19), some (.int 10), some (.int 0), some (.int 10)]) (by decide) rfl rfl (by decide) rfl (by decide) dX1_goRest_32 ?_
  refine G_goto (pc := 35) (tgt := 4) (by decide) dX1_goRest_35 ?_
  refine G_iload_n (pc := 4) rfl dX1_goRest_4 ?_
  refine G_iload_n (pc := 5) rfl dX1_goRest_5 ?_
  refine G_icmp_ge (pc := 6) (tgt := 38) (by decide) dX1_goRest_6 (fun _ => ?_) (fun z => absurd (by decide) z)
  refine G_iload_n (pc := 38) rfl dX1_goRest_38 ?_
  exact G_iret (pc := 39) (Nat.le_of_ble_eq_true rfl) (Nat.le_of_ble_eq_true rfl) rfl dX1_goRest_39 ⟨rfl, rfl⟩
set_option maxRecDepth 100000 in
set_option maxHeartbeats 4000000 in
theorem s424_X1_restore  (d : Nat)   : G (d + 1) mX1_restore 0 0 0 0 0 (gent 3 [.ref 19, .int 0]) [] SH0 RF0 (gup (gup (gup (gup (gup (gup (gup (gup (gup (gup (gup (gup (gcp I0 24 34 (0 : Int32).toNatClampNeg (0 : Int32).toNatClampNeg (6 : Int32).toNatClampNeg) 34 6 0) 34 7 0) 19 1 1) 19 1 2) 19 1 3) 19 1 4) 19 1 5) 19 1 6) 19 1 7) 19 1 8) 19 1 9) 19 1 10) (fun r h => r = none ∧ h = (SH0, RF0, (gup (gup (gcp (gup (gup (gup (gup (gup (gup (gup (gup (gup (gup (gup (gup (gcp I0 24 34 (0 : Int32).toNatClampNeg (0 : Int32).toNatClampNeg (6 : Int32).toNatClampNeg) 34 6 0) 34 7 0) 19 1 1) 19 1 2) 19 1 3) 19 1 4) 19 1 5) 19 1 6) 19 1 7) 19 1 8) 19 1 9) 19 1 10) 34 24 (0 : Int32).toNatClampNeg (0 : Int32).toNatClampNeg (6 : Int32).toNatClampNeg) 19 9 0) 19 1 0))) := by
  refine G_iload_n (pc := 0) rfl dX1_restore_0 ?_
  refine G_bipush (pc := 1) (v := 8) (by decide) dX1_restore_1 ?_
  refine G_imul (pc := 3) (z := 0) (by decide) dX1_restore_3 ?_
  refine G_istore_n (pc := 4) (L1 := [some (.ref 19), some (.int 0), some (.int 0)]) rfl rfl (by decide) dX1_restore_4 ?_
  refine G_aload_n (pc := 5) rfl dX1_restore_5 ?_
  refine G_getR (pc := 6) (r := 34) (ci := 1) (j := 18) rfl lk_RX1_53 rfl rfl rfl dX1_restore_6 ?_
  refine G_iload_n (pc := 9) rfl dX1_restore_9 ?_
  refine G_aload_n (pc := 10) rfl dX1_restore_10 ?_
  refine G_getR (pc := 11) (r := 24) (ci := 1) (j := 11) rfl lk_RX1_31 rfl rfl rfl dX1_restore_11 ?_
  refine G_iconst (pc := 14) (v := 0) (by decide) dX1_restore_14 ?_
  refine G_bipush (pc := 15) (v := 6) (by decide) dX1_restore_15 ?_
  refine G_copy (pc := 17) (x := 34) (y := 24) rfl rfl (by decide) (by decide) (by decide) (by decide) (by decide) wf_50 wf_51 wf_52 wf_53 (Nat.le_of_ble_eq_true rfl) dX1_restore_17 ?_
  refine G_aload_n (pc := 20) rfl dX1_restore_20 ?_
  refine G_aload_n (pc := 21) rfl dX1_restore_21 ?_
  refine G_getR (pc := 22) (r := 34) (ci := 1) (j := 18) rfl lk_RX1_53 rfl rfl rfl dX1_restore_22 ?_
  refine G_iload_n (pc := 25) rfl dX1_restore_25 ?_
  refine G_bipush (pc := 26) (v := 6) (by decide) dX1_restore_26 ?_
  refine G_iadd (pc := 28) (z := 6) (by decide) dX1_restore_28 ?_
  refine G_iald (pc := 29) (jj := 6) (v := 0) (by decide) rfl rfl (by unfold vp_in; decide) dX1_restore_29 ?_
  refine G_putI (pc := 30) (ci := 1) (j := 9) rfl lk_RX1_75 rfl rfl rfl trivial dX1_restore_30 ?_
  refine G_aload_n (pc := 33) rfl dX1_restore_33 ?_
  refine G_aload_n (pc := 34) rfl dX1_restore_34 ?_
  refine G_getR (pc := 35) (r := 34) (ci := 1) (j := 18) rfl lk_RX1_53 rfl rfl rfl dX1_restore_35 ?_
  refine G_iload_n (pc := 38) rfl dX1_restore_38 ?_
  refine G_bipush (pc := 39) (v := 6) (by decide) dX1_restore_39 ?_
  refine G_iadd (pc := 41) (z := 6) (by decide) dX1_restore_41 ?_
  refine G_iconst (pc := 42) (v := 1) (by decide) dX1_restore_42 ?_
  refine G_iadd (pc := 43) (z := 7) (by decide) dX1_restore_43 ?_
  refine G_iald (pc := 44) (jj := 7) (v := 0) (by decide) rfl rfl (by unfold vp_in; decide) dX1_restore_44 ?_
  refine G_putI (pc := 45) (ci := 1) (j := 1) rfl lk_RX1_60 rfl rfl rfl trivial dX1_restore_45 ?_
  exact G_vret (pc := 48) (Nat.le_of_ble_eq_true rfl) (Nat.le_of_ble_eq_true rfl) rfl dX1_restore_48 ⟨rfl, rfl⟩
set_option maxRecDepth 100000 in
set_option maxHeartbeats 4000000 in
theorem s425_X1_goRest  (d : Nat)   : G (d + 2) mX1_goRest 0 0 0 0 0 (gent 4 [.ref 19, .int 11]) [] SH0 RF0 (gup (gup (gcp I0 24 34 (0 : Int32).toNatClampNeg (0 : Int32).toNatClampNeg (6 : Int32).toNatClampNeg) 34 6 0) 34 7 0) (fun r h => r = some (.int 0) ∧ h = (SH0, RF0, (gup (gup (gup (gup (gup (gup (gup (gup (gup (gup (gup (gup (gup (gcp I0 24 34 (0 : Int32).toNatClampNeg (0 : Int32).toNatClampNeg (6 : Int32).toNatClampNeg) 34 6 0) 34 7 0) 19 1 1) 19 1 2) 19 1 3) 19 1 4) 19 1 5) 19 1 6) 19 1 7) 19 1 8) 19 1 9) 19 1 10) 19 1 11))) := by
  refine G_iconst (pc := 0) (v := 0) (by decide) dX1_goRest_0 ?_
  refine G_istore_n (pc := 1) (L1 := [some (.ref 19), some (.int 11), some (.int 0), none]) rfl rfl (by decide) dX1_goRest_1 ?_
  refine G_iconst (pc := 2) (v := 0) (by decide) dX1_goRest_2 ?_
  refine G_istore_n (pc := 3) (L1 := [some (.ref 19), some (.int 11), some (.int 0), some (.int 0)]) rfl rfl (by decide) dX1_goRest_3 ?_
  refine G_iload_n (pc := 4) rfl dX1_goRest_4 ?_
  refine G_iload_n (pc := 5) rfl dX1_goRest_5 ?_
  refine G_icmp_ge (pc := 6) (tgt := 38) (by decide) dX1_goRest_6 (fun z => absurd z (by decide)) (fun _ => ?_)
  refine G_aload_n (pc := 9) rfl dX1_goRest_9 ?_
  refine G_callV (pc := 10) (mc1 := 0) (ms1 := 0) (ci := 1) (mj := mX1_isOver) (vs := []) dX1_goRest_10 rfl rfl cm_X1_isOver wf_172 wf_17 wf_18 rfl (Nat.le_of_ble_eq_true rfl) (Nat.le_of_ble_eq_true rfl) (Nat.le_of_ble_eq_true rfl) (Nat.le_of_ble_eq_true rfl) (s348_X1_isOver  (d + 1)  ) ?_
  rintro _ _ ⟨rfl, rfl⟩
  dsimp only [Option.toList, List.cons_append, List.nil_append]
  refine G_if_ne (pc := 13) (tgt := 38) (by decide) dX1_goRest_13 (fun z => absurd (by decide) z) (fun _ => ?_)
  refine G_iload_n (pc := 16) rfl dX1_goRest_16 ?_
  refine G_aload_n (pc := 17) rfl dX1_goRest_17 ?_
  refine G_aload_n (pc := 18) rfl dX1_goRest_18 ?_
  refine G_callV (pc := 19) (mc1 := 0) (ms1 := 0) (ci := 1) (mj := mX1_restAct) (vs := []) dX1_goRest_19 rfl rfl cm_X1_restAct wf_173 wf_66 wf_67 rfl (Nat.le_of_ble_eq_true rfl) (Nat.le_of_ble_eq_true rfl) (Nat.le_of_ble_eq_true rfl) (Nat.le_of_ble_eq_true rfl) (s349_X1_restAct  (d + 1)  ) ?_
  rintro _ _ ⟨rfl, rfl⟩
  dsimp only [Option.toList, List.cons_append, List.nil_append]
  refine G_callV (pc := 22) (mc1 := 0) (ms1 := 0) (ci := 1) (mj := mX1_tell) (vs := [_]) dX1_goRest_22 rfl rfl cm_X1_tell wf_69 wf_71 wf_72 rfl (Nat.le_of_ble_eq_true rfl) (Nat.le_of_ble_eq_true rfl) (Nat.le_of_ble_eq_true rfl) (Nat.le_of_ble_eq_true rfl) (s143_X1_tell  d  ) ?_
  rintro _ _ ⟨rfl, rfl⟩
  dsimp only [Option.toList, List.cons_append, List.nil_append]
  refine G_aload_n (pc := 25) rfl dX1_goRest_25 ?_
  refine G_callV (pc := 26) (mc1 := 0) (ms1 := 0) (ci := 1) (mj := mX1_melt) (vs := []) dX1_goRest_26 rfl rfl cm_X1_melt wf_73 wf_75 wf_76 rfl (Nat.le_of_ble_eq_true rfl) (Nat.le_of_ble_eq_true rfl) (Nat.le_of_ble_eq_true rfl) (Nat.le_of_ble_eq_true rfl) (s145_X1_melt  (d + 1)  ) ?_
  rintro _ _ ⟨rfl, rfl⟩
  dsimp only [Option.toList, List.cons_append, List.nil_append]
  refine G_iadd (pc := 29) (z := 0) (by decide) dX1_goRest_29 ?_
  refine G_iadd (pc := 30) (z := 0) (by decide) dX1_goRest_30 ?_
  refine G_istore_n (pc := 31) (L1 := [some (.ref 19), some (.int 11), some (.int 0), some (.int 0)]) rfl rfl (by decide) dX1_goRest_31 ?_
  refine G_iinc (pc := 32) (v := 1) (w := 1) (L1 := [some (.ref 19), some (.int 11), some (.int 0), some (.int 1)]) (by decide) rfl rfl (by decide) rfl (by decide) dX1_goRest_32 ?_
  refine G_goto (pc := 35) (tgt := 4) (by decide) dX1_goRest_35 ?_
  refine G_iload_n (pc := 4) rfl dX1_goRest_4 ?_
  refine G_iload_n (pc := 5) rfl dX1_goRest_5 ?_
  refine G_icmp_ge (pc := 6) (tgt := 38) (by decide) dX1_goRest_6 (fun z => absurd z (by decide)) (fun _ => ?_)
  refine G_aload_n (pc := 9) rfl dX1_goRest_9 ?_
  refine G_callV (pc := 10) (mc1 := 0) (ms1 := 0) (ci := 1) (mj := mX1_isOver) (vs := []) dX1_goRest_10 rfl rfl cm_X1_isOver wf_172 wf_17 wf_18 rfl (Nat.le_of_ble_eq_true rfl) (Nat.le_of_ble_eq_true rfl) (Nat.le_of_ble_eq_true rfl) (Nat.le_of_ble_eq_true rfl) (s153_X1_isOver  (d + 1)  ) ?_
  rintro _ _ ⟨rfl, rfl⟩
  dsimp only [Option.toList, List.cons_append, List.nil_append]
  refine G_if_ne (pc := 13) (tgt := 38) (by decide) dX1_goRest_13 (fun z => absurd (by decide) z) (fun _ => ?_)
  refine G_iload_n (pc := 16) rfl dX1_goRest_16 ?_
  refine G_aload_n (pc := 17) rfl dX1_goRest_17 ?_
  refine G_aload_n (pc := 18) rfl dX1_goRest_18 ?_
  refine G_callV (pc := 19) (mc1 := 0) (ms1 := 0) (ci := 1) (mj := mX1_restAct) (vs := []) dX1_goRest_19 rfl rfl cm_X1_restAct wf_173 wf_66 wf_67 rfl (Nat.le_of_ble_eq_true rfl) (Nat.le_of_ble_eq_true rfl) (Nat.le_of_ble_eq_true rfl) (Nat.le_of_ble_eq_true rfl) (s350_X1_restAct  (d + 1)  ) ?_
  rintro _ _ ⟨rfl, rfl⟩
  dsimp only [Option.toList, List.cons_append, List.nil_append]
  refine G_callV (pc := 22) (mc1 := 0) (ms1 := 0) (ci := 1) (mj := mX1_tell) (vs := [_]) dX1_goRest_22 rfl rfl cm_X1_tell wf_69 wf_71 wf_72 rfl (Nat.le_of_ble_eq_true rfl) (Nat.le_of_ble_eq_true rfl) (Nat.le_of_ble_eq_true rfl) (Nat.le_of_ble_eq_true rfl) (s351_X1_tell  d  ) ?_
  rintro _ _ ⟨rfl, rfl⟩
  dsimp only [Option.toList, List.cons_append, List.nil_append]
  refine G_aload_n (pc := 25) rfl dX1_goRest_25 ?_
  refine G_callV (pc := 26) (mc1 := 0) (ms1 := 0) (ci := 1) (mj := mX1_melt) (vs := []) dX1_goRest_26 rfl rfl cm_X1_melt wf_73 wf_75 wf_76 rfl (Nat.le_of_ble_eq_true rfl) (Nat.le_of_ble_eq_true rfl) (Nat.le_of_ble_eq_true rfl) (Nat.le_of_ble_eq_true rfl) (s353_X1_melt  (d + 1)  ) ?_
  rintro _ _ ⟨rfl, rfl⟩
  dsimp only [Option.toList, List.cons_append, List.nil_append]
  refine G_iadd (pc := 29) (z := 0) (by decide) dX1_goRest_29 ?_
  refine G_iadd (pc := 30) (z := 0) (by decide) dX1_goRest_30 ?_
  refine G_istore_n (pc := 31) (L1 := [some (.ref 19), some (.int 11), some (.int 0), some (.int 1)]) rfl rfl (by decide) dX1_goRest_31 ?_
  refine G_iinc (pc := 32) (v := 1) (w := 2) (L1 := [some (.ref 19), some (.int 11), some (.int 0), some (.int 2)]) (by decide) rfl rfl (by decide) rfl (by decide) dX1_goRest_32 ?_
  refine G_goto (pc := 35) (tgt := 4) (by decide) dX1_goRest_35 ?_
  refine G_iload_n (pc := 4) rfl dX1_goRest_4 ?_
  refine G_iload_n (pc := 5) rfl dX1_goRest_5 ?_
  refine G_icmp_ge (pc := 6) (tgt := 38) (by decide) dX1_goRest_6 (fun z => absurd z (by decide)) (fun _ => ?_)
  refine G_aload_n (pc := 9) rfl dX1_goRest_9 ?_
  refine G_callV (pc := 10) (mc1 := 0) (ms1 := 0) (ci := 1) (mj := mX1_isOver) (vs := []) dX1_goRest_10 rfl rfl cm_X1_isOver wf_172 wf_17 wf_18 rfl (Nat.le_of_ble_eq_true rfl) (Nat.le_of_ble_eq_true rfl) (Nat.le_of_ble_eq_true rfl) (Nat.le_of_ble_eq_true rfl) (s354_X1_isOver  (d + 1)  ) ?_
  rintro _ _ ⟨rfl, rfl⟩
  dsimp only [Option.toList, List.cons_append, List.nil_append]
  refine G_if_ne (pc := 13) (tgt := 38) (by decide) dX1_goRest_13 (fun z => absurd (by decide) z) (fun _ => ?_)
  refine G_iload_n (pc := 16) rfl dX1_goRest_16 ?_
  refine G_aload_n (pc := 17) rfl dX1_goRest_17 ?_
  refine G_aload_n (pc := 18) rfl dX1_goRest_18 ?_
  refine G_callV (pc := 19) (mc1 := 0) (ms1 := 0) (ci := 1) (mj := mX1_restAct) (vs := []) dX1_goRest_19 rfl rfl cm_X1_restAct wf_173 wf_66 wf_67 rfl (Nat.le_of_ble_eq_true rfl) (Nat.le_of_ble_eq_true rfl) (Nat.le_of_ble_eq_true rfl) (Nat.le_of_ble_eq_true rfl) (s355_X1_restAct  (d + 1)  ) ?_
  rintro _ _ ⟨rfl, rfl⟩
  dsimp only [Option.toList, List.cons_append, List.nil_append]
  refine G_callV (pc := 22) (mc1 := 0) (ms1 := 0) (ci := 1) (mj := mX1_tell) (vs := [_]) dX1_goRest_22 rfl rfl cm_X1_tell wf_69 wf_71 wf_72 rfl (Nat.le_of_ble_eq_true rfl) (Nat.le_of_ble_eq_true rfl) (Nat.le_of_ble_eq_true rfl) (Nat.le_of_ble_eq_true rfl) (s356_X1_tell  d  ) ?_
  rintro _ _ ⟨rfl, rfl⟩
  dsimp only [Option.toList, List.cons_append, List.nil_append]
  refine G_aload_n (pc := 25) rfl dX1_goRest_25 ?_
  refine G_callV (pc := 26) (mc1 := 0) (ms1 := 0) (ci := 1) (mj := mX1_melt) (vs := []) dX1_goRest_26 rfl rfl cm_X1_melt wf_73 wf_75 wf_76 rfl (Nat.le_of_ble_eq_true rfl) (Nat.le_of_ble_eq_true rfl) (Nat.le_of_ble_eq_true rfl) (Nat.le_of_ble_eq_true rfl) (s358_X1_melt  (d + 1)  ) ?_
  rintro _ _ ⟨rfl, rfl⟩
  dsimp only [Option.toList, List.cons_append, List.nil_append]
  refine G_iadd (pc := 29) (z := 0) (by decide) dX1_goRest_29 ?_
  refine G_iadd (pc := 30) (z := 0) (by decide) dX1_goRest_30 ?_
  refine G_istore_n (pc := 31) (L1 := [some (.ref 19), some (.int 11), some (.int 0), some (.int 2)]) rfl rfl (by decide) dX1_goRest_31 ?_
  refine G_iinc (pc := 32) (v := 1) (w := 3) (L1 := [some (.ref 19), some (.int 11), some (.int 0), some (.int 3)]) (by decide) rfl rfl (by decide) rfl (by decide) dX1_goRest_32 ?_
  refine G_goto (pc := 35) (tgt := 4) (by decide) dX1_goRest_35 ?_
  refine G_iload_n (pc := 4) rfl dX1_goRest_4 ?_
  refine G_iload_n (pc := 5) rfl dX1_goRest_5 ?_
  refine G_icmp_ge (pc := 6) (tgt := 38) (by decide) dX1_goRest_6 (fun z => absurd z (by decide)) (fun _ => ?_)
  refine G_aload_n (pc := 9) rfl dX1_goRest_9 ?_
  refine G_callV (pc := 10) (mc1 := 0) (ms1 := 0) (ci := 1) (mj := mX1_isOver) (vs := []) dX1_goRest_10 rfl rfl cm_X1_isOver wf_172 wf_17 wf_18 rfl (Nat.le_of_ble_eq_true rfl) (Nat.le_of_ble_eq_true rfl) (Nat.le_of_ble_eq_true rfl) (Nat.le_of_ble_eq_true rfl) (s359_X1_isOver  (d + 1)  ) ?_
  rintro _ _ ⟨rfl, rfl⟩
  dsimp only [Option.toList, List.cons_append, List.nil_append]
  refine G_if_ne (pc := 13) (tgt := 38) (by decide) dX1_goRest_13 (fun z => absurd (by decide) z) (fun _ => ?_)
  refine G_iload_n (pc := 16) rfl dX1_goRest_16 ?_
  refine G_aload_n (pc := 17) rfl dX1_goRest_17 ?_
  refine G_aload_n (pc := 18) rfl dX1_goRest_18 ?_
  refine G_callV (pc := 19) (mc1 := 0) (ms1 := 0) (ci := 1) (mj := mX1_restAct) (vs := []) dX1_goRest_19 rfl rfl cm_X1_restAct wf_173 wf_66 wf_67 rfl (Nat.le_of_ble_eq_true rfl) (Nat.le_of_ble_eq_true rfl) (Nat.le_of_ble_eq_true rfl) (Nat.le_of_ble_eq_true rfl) (s360_X1_restAct  (d + 1)  ) ?_
  rintro _ _ ⟨rfl, rfl⟩
  dsimp only [Option.toList, List.cons_append, List.nil_append]
  refine G_callV (pc := 22) (mc1 := 0) (ms1 := 0) (ci := 1) (mj := mX1_tell) (vs := [_]) dX1_goRest_22 rfl rfl cm_X1_tell wf_69 wf_71 wf_72 rfl (Nat.le_of_ble_eq_true rfl) (Nat.le_of_ble_eq_true rfl) (Nat.le_of_ble_eq_true rfl) (Nat.le_of_ble_eq_true rfl) (s361_X1_tell  d  ) ?_
  rintro _ _ ⟨rfl, rfl⟩
  dsimp only [Option.toList, List.cons_append, List.nil_append]
  refine G_aload_n (pc := 25) rfl dX1_goRest_25 ?_
  refine G_callV (pc := 26) (mc1 := 0) (ms1 := 0) (ci := 1) (mj := mX1_melt) (vs := []) dX1_goRest_26 rfl rfl cm_X1_melt wf_73 wf_75 wf_76 rfl (Nat.le_of_ble_eq_true rfl) (Nat.le_of_ble_eq_true rfl) (Nat.le_of_ble_eq_true rfl) (Nat.le_of_ble_eq_true rfl) (s363_X1_melt  (d + 1)  ) ?_
  rintro _ _ ⟨rfl, rfl⟩
  dsimp only [Option.toList, List.cons_append, List.nil_append]
  refine G_iadd (pc := 29) (z := 0) (by decide) dX1_goRest_29 ?_
  refine G_iadd (pc := 30) (z := 0) (by decide) dX1_goRest_30 ?_
  refine G_istore_n (pc := 31) (L1 := [some (.ref 19), some (.int 11), some (.int 0), some (.int 3)]) rfl rfl (by decide) dX1_goRest_31 ?_
  refine G_iinc (pc := 32) (v := 1) (w := 4) (L1 := [some (.ref 19), some (.int 11), some (.int 0), some (.int 4)]) (by decide) rfl rfl (by decide) rfl (by decide) dX1_goRest_32 ?_
  refine G_goto (pc := 35) (tgt := 4) (by decide) dX1_goRest_35 ?_
  refine G_iload_n (pc := 4) rfl dX1_goRest_4 ?_
  refine G_iload_n (pc := 5) rfl dX1_goRest_5 ?_
  refine G_icmp_ge (pc := 6) (tgt := 38) (by decide) dX1_goRest_6 (fun z => absurd z (by decide)) (fun _ => ?_)
  refine G_aload_n (pc := 9) rfl dX1_goRest_9 ?_
  refine G_callV (pc := 10) (mc1 := 0) (ms1 := 0) (ci := 1) (mj := mX1_isOver) (vs := []) dX1_goRest_10 rfl rfl cm_X1_isOver wf_172 wf_17 wf_18 rfl (Nat.le_of_ble_eq_true rfl) (Nat.le_of_ble_eq_true rfl) (Nat.le_of_ble_eq_true rfl) (Nat.le_of_ble_eq_true rfl) (s364_X1_isOver  (d + 1)  ) ?_
  rintro _ _ ⟨rfl, rfl⟩
  dsimp only [Option.toList, List.cons_append, List.nil_append]
  refine G_if_ne (pc := 13) (tgt := 38) (by decide) dX1_goRest_13 (fun z => absurd (by decide) z) (fun _ => ?_)
  refine G_iload_n (pc := 16) rfl dX1_goRest_16 ?_
  refine G_aload_n (pc := 17) rfl dX1_goRest_17 ?_
  refine G_aload_n (pc := 18) rfl dX1_goRest_18 ?_
  refine G_callV (pc := 19) (mc1 := 0) (ms1 := 0) (ci := 1) (mj := mX1_restAct) (vs := []) dX1_goRest_19 rfl rfl cm_X1_restAct wf_173 wf_66 wf_67 rfl (Nat.le_of_ble_eq_true rfl) (Nat.le_of_ble_eq_true rfl) (Nat.le_of_ble_eq_true rfl) (Nat.le_of_ble_eq_true rfl) (s365_X1_restAct  (d + 1)  ) ?_
  rintro _ _ ⟨rfl, rfl⟩
  dsimp only [Option.toList, List.cons_append, List.nil_append]
  refine G_callV (pc := 22) (mc1 := 0) (ms1 := 0) (ci := 1) (mj := mX1_tell) (vs := [_]) dX1_goRest_22 rfl rfl cm_X1_tell wf_69 wf_71 wf_72 rfl (Nat.le_of_ble_eq_true rfl) (Nat.le_of_ble_eq_true rfl) (Nat.le_of_ble_eq_true rfl) (Nat.le_of_ble_eq_true rfl) (s366_X1_tell  d  ) ?_
  rintro _ _ ⟨rfl, rfl⟩
  dsimp only [Option.toList, List.cons_append, List.nil_append]
  refine G_aload_n (pc := 25) rfl dX1_goRest_25 ?_
  refine G_callV (pc := 26) (mc1 := 0) (ms1 := 0) (ci := 1) (mj := mX1_melt) (vs := []) dX1_goRest_26 rfl rfl cm_X1_melt wf_73 wf_75 wf_76 rfl (Nat.le_of_ble_eq_true rfl) (Nat.le_of_ble_eq_true rfl) (Nat.le_of_ble_eq_true rfl) (Nat.le_of_ble_eq_true rfl) (s368_X1_melt  (d + 1)  ) ?_
  rintro _ _ ⟨rfl, rfl⟩
  dsimp only [Option.toList, List.cons_append, List.nil_append]
  refine G_iadd (pc := 29) (z := 0) (by decide) dX1_goRest_29 ?_
  refine G_iadd (pc := 30) (z := 0) (by decide) dX1_goRest_30 ?_
  refine G_istore_n (pc := 31) (L1 := [some (.ref 19), some (.int 11), some (.int 0), some (.int 4)]) rfl rfl (by decide) dX1_goRest_31 ?_
  refine G_iinc (pc := 32) (v := 1) (w := 5) (L1 := [some (.ref 19), some (.int 11), some (.int 0), some (.int 5)]) (by decide) rfl rfl (by decide) rfl (by decide) dX1_goRest_32 ?_
  refine G_goto (pc := 35) (tgt := 4) (by decide) dX1_goRest_35 ?_
  refine G_iload_n (pc := 4) rfl dX1_goRest_4 ?_
  refine G_iload_n (pc := 5) rfl dX1_goRest_5 ?_
  refine G_icmp_ge (pc := 6) (tgt := 38) (by decide) dX1_goRest_6 (fun z => absurd z (by decide)) (fun _ => ?_)
  refine G_aload_n (pc := 9) rfl dX1_goRest_9 ?_
  refine G_callV (pc := 10) (mc1 := 0) (ms1 := 0) (ci := 1) (mj := mX1_isOver) (vs := []) dX1_goRest_10 rfl rfl cm_X1_isOver wf_172 wf_17 wf_18 rfl (Nat.le_of_ble_eq_true rfl) (Nat.le_of_ble_eq_true rfl) (Nat.le_of_ble_eq_true rfl) (Nat.le_of_ble_eq_true rfl) (s369_X1_isOver  (d + 1)  ) ?_
  rintro _ _ ⟨rfl, rfl⟩
  dsimp only [Option.toList, List.cons_append, List.nil_append]
  refine G_if_ne (pc := 13) (tgt := 38) (by decide) dX1_goRest_13 (fun z => absurd (by decide) z) (fun _ => ?_)
  refine G_iload_n (pc := 16) rfl dX1_goRest_16 ?_
  refine G_aload_n (pc := 17) rfl dX1_goRest_17 ?_
  refine G_aload_n (pc := 18) rfl dX1_goRest_18 ?_
  refine G_callV (pc := 19) (mc1 := 0) (ms1 := 0) (ci := 1) (mj := mX1_restAct) (vs := []) dX1_goRest_19 rfl rfl cm_X1_restAct wf_173 wf_66 wf_67 rfl (Nat.le_of_ble_eq_true rfl) (Nat.le_of_ble_eq_true rfl) (Nat.le_of_ble_eq_true rfl) (Nat.le_of_ble_eq_true rfl) (s370_X1_restAct  (d + 1)  ) ?_
  rintro _ _ ⟨rfl, rfl⟩
  dsimp only [Option.toList, List.cons_append, List.nil_append]
  refine G_callV (pc := 22) (mc1 := 0) (ms1 := 0) (ci := 1) (mj := mX1_tell) (vs := [_]) dX1_goRest_22 rfl rfl cm_X1_tell wf_69 wf_71 wf_72 rfl (Nat.le_of_ble_eq_true rfl) (Nat.le_of_ble_eq_true rfl) (Nat.le_of_ble_eq_true rfl) (Nat.le_of_ble_eq_true rfl) (s371_X1_tell  d  ) ?_
  rintro _ _ ⟨rfl, rfl⟩
  dsimp only [Option.toList, List.cons_append, List.nil_append]
  refine G_aload_n (pc := 25) rfl dX1_goRest_25 ?_
  refine G_callV (pc := 26) (mc1 := 0) (ms1 := 0) (ci := 1) (mj := mX1_melt) (vs := []) dX1_goRest_26 rfl rfl cm_X1_melt wf_73 wf_75 wf_76 rfl (Nat.le_of_ble_eq_true rfl) (Nat.le_of_ble_eq_true rfl) (Nat.le_of_ble_eq_true rfl) (Nat.le_of_ble_eq_true rfl) (s373_X1_melt  (d + 1)  ) ?_
  rintro _ _ ⟨rfl, rfl⟩
  dsimp only [Option.toList, List.cons_append, List.nil_append]
  refine G_iadd (pc := 29) (z := 0) (by decide) dX1_goRest_29 ?_
  refine G_iadd (pc := 30) (z := 0) (by decide) dX1_goRest_30 ?_
  refine G_istore_n (pc := 31) (L1 := [some (.ref 19), some (.int 11), some (.int 0), some (.int 5)]) rfl rfl (by decide) dX1_goRest_31 ?_
  refine G_iinc (pc := 32) (v := 1) (w := 6) (L1 := [some (.ref 19), some (.int 11), some (.int 0), some (.int 6)]) (by decide) rfl rfl (by decide) rfl (by decide) dX1_goRest_32 ?_
  refine G_goto (pc := 35) (tgt := 4) (by decide) dX1_goRest_35 ?_
  refine G_iload_n (pc := 4) rfl dX1_goRest_4 ?_
  refine G_iload_n (pc := 5) rfl dX1_goRest_5 ?_
  refine G_icmp_ge (pc := 6) (tgt := 38) (by decide) dX1_goRest_6 (fun z => absurd z (by decide)) (fun _ => ?_)
  refine G_aload_n (pc := 9) rfl dX1_goRest_9 ?_
  refine G_callV (pc := 10) (mc1 := 0) (ms1 := 0) (ci := 1) (mj := mX1_isOver) (vs := []) dX1_goRest_10 rfl rfl cm_X1_isOver wf_172 wf_17 wf_18 rfl (Nat.le_of_ble_eq_true rfl) (Nat.le_of_ble_eq_true rfl) (Nat.le_of_ble_eq_true rfl) (Nat.le_of_ble_eq_true rfl) (s374_X1_isOver  (d + 1)  ) ?_
  rintro _ _ ⟨rfl, rfl⟩
  dsimp only [Option.toList, List.cons_append, List.nil_append]
  refine G_if_ne (pc := 13) (tgt := 38) (by decide) dX1_goRest_13 (fun z => absurd (by decide) z) (fun _ => ?_)
  refine G_iload_n (pc := 16) rfl dX1_goRest_16 ?_
  refine G_aload_n (pc := 17) rfl dX1_goRest_17 ?_
  refine G_aload_n (pc := 18) rfl dX1_goRest_18 ?_
  refine G_callV (pc := 19) (mc1 := 0) (ms1 := 0) (ci := 1) (mj := mX1_restAct) (vs := []) dX1_goRest_19 rfl rfl cm_X1_restAct wf_173 wf_66 wf_67 rfl (Nat.le_of_ble_eq_true rfl) (Nat.le_of_ble_eq_true rfl) (Nat.le_of_ble_eq_true rfl) (Nat.le_of_ble_eq_true rfl) (s375_X1_restAct  (d + 1)  ) ?_
  rintro _ _ ⟨rfl, rfl⟩
  dsimp only [Option.toList, List.cons_append, List.nil_append]
  refine G_callV (pc := 22) (mc1 := 0) (ms1 := 0) (ci := 1) (mj := mX1_tell) (vs := [_]) dX1_goRest_22 rfl rfl cm_X1_tell wf_69 wf_71 wf_72 rfl (Nat.le_of_ble_eq_true rfl) (Nat.le_of_ble_eq_true rfl) (Nat.le_of_ble_eq_true rfl) (Nat.le_of_ble_eq_true rfl) (s376_X1_tell  d  ) ?_
  rintro _ _ ⟨rfl, rfl⟩
  dsimp only [Option.toList, List.cons_append, List.nil_append]
  refine G_aload_n (pc := 25) rfl dX1_goRest_25 ?_
  refine G_callV (pc := 26) (mc1 := 0) (ms1 := 0) (ci := 1) (mj := mX1_melt) (vs := []) dX1_goRest_26 rfl rfl cm_X1_melt wf_73 wf_75 wf_76 rfl (Nat.le_of_ble_eq_true rfl) (Nat.le_of_ble_eq_true rfl) (Nat.le_of_ble_eq_true rfl) (Nat.le_of_ble_eq_true rfl) (s378_X1_melt  (d + 1)  ) ?_
  rintro _ _ ⟨rfl, rfl⟩
  dsimp only [Option.toList, List.cons_append, List.nil_append]
  refine G_iadd (pc := 29) (z := 0) (by decide) dX1_goRest_29 ?_
  refine G_iadd (pc := 30) (z := 0) (by decide) dX1_goRest_30 ?_
  refine G_istore_n (pc := 31) (L1 := [some (.ref 19), some (.int 11), some (.int 0), some (.int 6)]) rfl rfl (by decide) dX1_goRest_31 ?_
  refine G_iinc (pc := 32) (v := 1) (w := 7) (L1 := [some (.ref 19), some (.int 11), some (.int 0), some (.int 7)]) (by decide) rfl rfl (by decide) rfl (by decide) dX1_goRest_32 ?_
  refine G_goto (pc := 35) (tgt := 4) (by decide) dX1_goRest_35 ?_
  refine G_iload_n (pc := 4) rfl dX1_goRest_4 ?_
  refine G_iload_n (pc := 5) rfl dX1_goRest_5 ?_
  refine G_icmp_ge (pc := 6) (tgt := 38) (by decide) dX1_goRest_6 (fun z => absurd z (by decide)) (fun _ => ?_)
  refine G_aload_n (pc := 9) rfl dX1_goRest_9 ?_
  refine G_callV (pc := 10) (mc1 := 0) (ms1 := 0) (ci := 1) (mj := mX1_isOver) (vs := []) dX1_goRest_10 rfl rfl cm_X1_isOver wf_172 wf_17 wf_18 rfl (Nat.le_of_ble_eq_true rfl) (Nat.le_of_ble_eq_true rfl) (Nat.le_of_ble_eq_true rfl) (Nat.le_of_ble_eq_true rfl) (s379_X1_isOver  (d + 1)  ) ?_
  rintro _ _ ⟨rfl, rfl⟩
  dsimp only [Option.toList, List.cons_append, List.nil_append]
  refine G_if_ne (pc := 13) (tgt := 38) (by decide) dX1_goRest_13 (fun z => absurd (by decide) z) (fun _ => ?_)
  refine G_iload_n (pc := 16) rfl dX1_goRest_16 ?_
  refine G_aload_n (pc := 17) rfl dX1_goRest_17 ?_
  refine G_aload_n (pc := 18) rfl dX1_goRest_18 ?_
  refine G_callV (pc := 19) (mc1 := 0) (ms1 := 0) (ci := 1) (mj := mX1_restAct) (vs := []) dX1_goRest_19 rfl rfl cm_X1_restAct wf_173 wf_66 wf_67 rfl (Nat.le_of_ble_eq_true rfl) (Nat.le_of_ble_eq_true rfl) (Nat.le_of_ble_eq_true rfl) (Nat.le_of_ble_eq_true rfl) (s380_X1_restAct  (d + 1)  ) ?_
  rintro _ _ ⟨rfl, rfl⟩
  dsimp only [Option.toList, List.cons_append, List.nil_append]
  refine G_callV (pc := 22) (mc1 := 0) (ms1 := 0) (ci := 1) (mj := mX1_tell) (vs := [_]) dX1_goRest_22 rfl rfl cm_X1_tell wf_69 wf_71 wf_72 rfl (Nat.le_of_ble_eq_true rfl) (Nat.le_of_ble_eq_true rfl) (Nat.le_of_ble_eq_true rfl) (Nat.le_of_ble_eq_true rfl) (s381_X1_tell  d  ) ?_
  rintro _ _ ⟨rfl, rfl⟩
  dsimp only [Option.toList, List.cons_append, List.nil_append]
  refine G_aload_n (pc := 25) rfl dX1_goRest_25 ?_
  refine G_callV (pc := 26) (mc1 := 0) (ms1 := 0) (ci := 1) (mj := mX1_melt) (vs := []) dX1_goRest_26 rfl rfl cm_X1_melt wf_73 wf_75 wf_76 rfl (Nat.le_of_ble_eq_true rfl) (Nat.le_of_ble_eq_true rfl) (Nat.le_of_ble_eq_true rfl) (Nat.le_of_ble_eq_true rfl) (s383_X1_melt  (d + 1)  ) ?_
  rintro _ _ ⟨rfl, rfl⟩
  dsimp only [Option.toList, List.cons_append, List.nil_append]
  refine G_iadd (pc := 29) (z := 0) (by decide) dX1_goRest_29 ?_
  refine G_iadd (pc := 30) (z := 0) (by decide) dX1_goRest_30 ?_
  refine G_istore_n (pc := 31) (L1 := [some (.ref 19), some (.int 11), some (.int 0), some (.int 7)]) rfl rfl (by decide) dX1_goRest_31 ?_
  refine G_iinc (pc := 32) (v := 1) (w := 8) (L1 := [some (.ref 19), some (.int 11), some (.int 0), some (.int 8)]) (by decide) rfl rfl (by decide) rfl (by decide) dX1_goRest_32 ?_
  refine G_goto (pc := 35) (tgt := 4) (by decide) dX1_goRest_35 ?_
  refine G_iload_n (pc := 4) rfl dX1_goRest_4 ?_
  refine G_iload_n (pc := 5) rfl dX1_goRest_5 ?_
  refine G_icmp_ge (pc := 6) (tgt := 38) (by decide) dX1_goRest_6 (fun z => absurd z (by decide)) (fun _ => ?_)
  refine G_aload_n (pc := 9) rfl dX1_goRest_9 ?_
  refine G_callV (pc := 10) (mc1 := 0) (ms1 := 0) (ci := 1) (mj := mX1_isOver) (vs := []) dX1_goRest_10 rfl rfl cm_X1_isOver wf_172 wf_17 wf_18 rfl (Nat.le_of_ble_eq_true rfl) (Nat.le_of_ble_eq_true rfl) (Nat.le_of_ble_eq_true rfl) (Nat.le_of_ble_eq_true rfl) (s384_X1_isOver  (d + 1)  ) ?_
  rintro _ _ ⟨rfl, rfl⟩
  dsimp only [Option.toList, List.cons_append, List.nil_append]
  refine G_if_ne (pc := 13) (tgt := 38) (by decide) dX1_goRest_13 (fun z => absurd (by decide) z) (fun _ => ?_)
  refine G_iload_n (pc := 16) rfl dX1_goRest_16 ?_
  refine G_aload_n (pc := 17) rfl dX1_goRest_17 ?_
  refine G_aload_n (pc := 18) rfl dX1_goRest_18 ?_
  refine G_callV (pc := 19) (mc1 := 0) (ms1 := 0) (ci := 1) (mj := mX1_restAct) (vs := []) dX1_goRest_19 rfl rfl cm_X1_restAct wf_173 wf_66 wf_67 rfl (Nat.le_of_ble_eq_true rfl) (Nat.le_of_ble_eq_true rfl) (Nat.le_of_ble_eq_true rfl) (Nat.le_of_ble_eq_true rfl) (s385_X1_restAct  (d + 1)  ) ?_
  rintro _ _ ⟨rfl, rfl⟩
  dsimp only [Option.toList, List.cons_append, List.nil_append]
  refine G_callV (pc := 22) (mc1 := 0) (ms1 := 0) (ci := 1) (mj := mX1_tell) (vs := [_]) dX1_goRest_22 rfl rfl cm_X1_tell wf_69 wf_71 wf_72 rfl (Nat.le_of_ble_eq_true rfl) (Nat.le_of_ble_eq_true rfl) (Nat.le_of_ble_eq_true rfl) (Nat.le_of_ble_eq_true rfl) (s386_X1_tell  d  ) ?_
  rintro _ _ ⟨rfl, rfl⟩
  dsimp only [Option.toList, List.cons_append, List.nil_append]
  refine G_aload_n (pc := 25) rfl dX1_goRest_25 ?_
  refine G_callV (pc := 26) (mc1 := 0) (ms1 := 0) (ci := 1) (mj := mX1_melt) (vs := []) dX1_goRest_26 rfl rfl cm_X1_melt wf_73 wf_75 wf_76 rfl (Nat.le_of_ble_eq_true rfl) (Nat.le_of_ble_eq_true rfl) (Nat.le_of_ble_eq_true rfl) (Nat.le_of_ble_eq_true rfl) (s388_X1_melt  (d + 1)  ) ?_
  rintro _ _ ⟨rfl, rfl⟩
  dsimp only [Option.toList, List.cons_append, List.nil_append]
  refine G_iadd (pc := 29) (z := 0) (by decide) dX1_goRest_29 ?_
  refine G_iadd (pc := 30) (z := 0) (by decide) dX1_goRest_30 ?_
  refine G_istore_n (pc := 31) (L1 := [some (.ref 19), some (.int 11), some (.int 0), some (.int 8)]) rfl rfl (by decide) dX1_goRest_31 ?_
  refine G_iinc (pc := 32) (v := 1) (w := 9) (L1 := [some (.ref 19), some (.int 11), some (.int 0), some (.int 9)]) (by decide) rfl rfl (by decide) rfl (by decide) dX1_goRest_32 ?_
  refine G_goto (pc := 35) (tgt := 4) (by decide) dX1_goRest_35 ?_
  refine G_iload_n (pc := 4) rfl dX1_goRest_4 ?_
  refine G_iload_n (pc := 5) rfl dX1_goRest_5 ?_
  refine G_icmp_ge (pc := 6) (tgt := 38) (by decide) dX1_goRest_6 (fun z => absurd z (by decide)) (fun _ => ?_)
  refine G_aload_n (pc := 9) rfl dX1_goRest_9 ?_
  refine G_callV (pc := 10) (mc1 := 0) (ms1 := 0) (ci := 1) (mj := mX1_isOver) (vs := []) dX1_goRest_10 rfl rfl cm_X1_isOver wf_172 wf_17 wf_18 rfl (Nat.le_of_ble_eq_true rfl) (Nat.le_of_ble_eq_true rfl) (Nat.le_of_ble_eq_true rfl) (Nat.le_of_ble_eq_true rfl) (s389_X1_isOver  (d + 1)  ) ?_
  rintro _ _ ⟨rfl, rfl⟩
  dsimp only [Option.toList, List.cons_append, List.nil_append]
  refine G_if_ne (pc := 13) (tgt := 38) (by decide) dX1_goRest_13 (fun z => absurd (by decide) z) (fun _ => ?_)
  refine G_iload_n (pc := 16) rfl dX1_goRest_16 ?_
  refine G_aload_n (pc := 17) rfl dX1_goRest_17 ?_
  refine G_aload_n (pc := 18) rfl dX1_goRest_18 ?_
  refine G_callV (pc := 19) (mc1 := 0) (ms1 := 0) (ci := 1) (mj := mX1_restAct) (vs := []) dX1_goRest_19 rfl rfl cm_X1_restAct wf_173 wf_66 wf_67 rfl (Nat.le_of_ble_eq_true rfl) (Nat.le_of_ble_eq_true rfl) (Nat.le_of_ble_eq_true rfl) (Nat.le_of_ble_eq_true rfl) (s390_X1_restAct  (d + 1)  ) ?_
  rintro _ _ ⟨rfl, rfl⟩
  dsimp only [Option.toList, List.cons_append, List.nil_append]
  refine G_callV (pc := 22) (mc1 := 0) (ms1 := 0) (ci := 1) (mj := mX1_tell) (vs := [_]) dX1_goRest_22 rfl rfl cm_X1_tell wf_69 wf_71 wf_72 rfl (Nat.le_of_ble_eq_true rfl) (Nat.le_of_ble_eq_true rfl) (Nat.le_of_ble_eq_true rfl) (Nat.le_of_ble_eq_true rfl) (s391_X1_tell  d  ) ?_
  rintro _ _ ⟨rfl, rfl⟩
  dsimp only [Option.toList, List.cons_append, List.nil_append]
  refine G_aload_n (pc := 25) rfl dX1_goRest_25 ?_
  refine G_callV (pc := 26) (mc1 := 0) (ms1 := 0) (ci := 1) (mj := mX1_melt) (vs := []) dX1_goRest_26 rfl rfl cm_X1_melt wf_73 wf_75 wf_76 rfl (Nat.le_of_ble_eq_true rfl) (Nat.le_of_ble_eq_true rfl) (Nat.le_of_ble_eq_true rfl) (Nat.le_of_ble_eq_true rfl) (s393_X1_melt  (d + 1)  ) ?_
  rintro _ _ ⟨rfl, rfl⟩
  dsimp only [Option.toList, List.cons_append, List.nil_append]
  refine G_iadd (pc := 29) (z := 0) (by decide) dX1_goRest_29 ?_
  refine G_iadd (pc := 30) (z := 0) (by decide) dX1_goRest_30 ?_
  refine G_istore_n (pc := 31) (L1 := [some (.ref 19), some (.int 11), some (.int 0), some (.int 9)]) rfl rfl (by decide) dX1_goRest_31 ?_
  refine G_iinc (pc := 32) (v := 1) (w := 10) (L1 := [some (.ref 19), some (.int 11), some (.int 0), some (.int 10)]) (by decide) rfl rfl (by decide) rfl (by decide) dX1_goRest_32 ?_
  refine G_goto (pc := 35) (tgt := 4) (by decide) dX1_goRest_35 ?_
  refine G_iload_n (pc := 4) rfl dX1_goRest_4 ?_
  refine G_iload_n (pc := 5) rfl dX1_goRest_5 ?_
  refine G_icmp_ge (pc := 6) (tgt := 38) (by decide) dX1_goRest_6 (fun z => absurd z (by decide)) (fun _ => ?_)
  refine G_aload_n (pc := 9) rfl dX1_goRest_9 ?_
  refine G_callV (pc := 10) (mc1 := 0) (ms1 := 0) (ci := 1) (mj := mX1_isOver) (vs := []) dX1_goRest_10 rfl rfl cm_X1_isOver wf_172 wf_17 wf_18 rfl (Nat.le_of_ble_eq_true rfl) (Nat.le_of_ble_eq_true rfl) (Nat.le_of_ble_eq_true rfl) (Nat.le_of_ble_eq_true rfl) (s394_X1_isOver  (d + 1)  ) ?_
  rintro _ _ ⟨rfl, rfl⟩
  dsimp only [Option.toList, List.cons_append, List.nil_append]
  refine G_if_ne (pc := 13) (tgt := 38) (by decide) dX1_goRest_13 (fun z => absurd (by decide) z) (fun _ => ?_)
  refine G_iload_n (pc := 16) rfl dX1_goRest_16 ?_
  refine G_aload_n (pc := 17) rfl dX1_goRest_17 ?_
  refine G_aload_n (pc := 18) rfl dX1_goRest_18 ?_
  refine G_callV (pc := 19) (mc1 := 0) (ms1 := 0) (ci := 1) (mj := mX1_restAct) (vs := []) dX1_goRest_19 rfl rfl cm_X1_restAct wf_173 wf_66 wf_67 rfl (Nat.le_of_ble_eq_true rfl) (Nat.le_of_ble_eq_true rfl) (Nat.le_of_ble_eq_true rfl) (Nat.le_of_ble_eq_true rfl) (s395_X1_restAct  (d + 1)  ) ?_
  rintro _ _ ⟨rfl, rfl⟩
  dsimp only [Option.toList, List.cons_append, List.nil_append]
  refine G_callV (pc := 22) (mc1 := 0) (ms1 := 0) (ci := 1) (mj := mX1_tell) (vs := [_]) dX1_goRest_22 rfl rfl cm_X1_tell wf_69 wf_71 wf_72 rfl (Nat.le_of_ble_eq_true rfl) (Nat.le_of_ble_eq_true rfl) (Nat.le_of_ble_eq_true rfl) (Nat.le_of_ble_eq_true rfl) (s396_X1_tell  d  ) ?_
  rintro _ _ ⟨rfl, rfl⟩
  dsimp only [Option.toList, List.cons_append, List.nil_append]
  refine G_aload_n (pc := 25) rfl dX1_goRest_25 ?_
  refine G_callV (pc := 26) (mc1 := 0) (ms1 := 0) (ci := 1) (mj := mX1_melt) (vs := []) dX1_goRest_26 rfl rfl cm_X1_melt wf_73 wf_75 wf_76 rfl (Nat.le_of_ble_eq_true rfl) (Nat.le_of_ble_eq_true rfl) (Nat.le_of_ble_eq_true rfl) (Nat.le_of_ble_eq_true rfl) (s398_X1_melt  (d + 1)  ) ?_
  rintro _ _ ⟨rfl, rfl⟩
  dsimp only [Option.toList, List.cons_append, List.nil_append]
  refine G_iadd (pc := 29) (z := 0) (by decide) dX1_goRest_29 ?_
  refine G_iadd (pc := 30) (z := 0) (by decide) dX1_goRest_30 ?_
  refine G_istore_n (pc := 31) (L1 := [some (.ref 19), some (.int 11), some (.int 0), some (.int 10)]) rfl rfl (by decide) dX1_goRest_31 ?_
  refine G_iinc (pc := 32) (v := 1) (w := 11) (L1 := [some (.ref 19), some (.int 11), some (.int 0), some (.int 11)]) (by decide) rfl rfl (by decide) rfl (by decide) dX1_goRest_32 ?_
  refine G_goto (pc := 35) (tgt := 4) (by decide) dX1_goRest_35 ?_
  refine G_iload_n (pc := 4) rfl dX1_goRest_4 ?_
  refine G_iload_n (pc := 5) rfl dX1_goRest_5 ?_
  refine G_icmp_ge (pc := 6) (tgt := 38) (by decide) dX1_goRest_6 (fun _ => ?_) (fun z => absurd (by decide) z)
  refine G_iload_n (pc := 38) rfl dX1_goRest_38 ?_
  exact G_iret (pc := 39) (Nat.le_of_ble_eq_true rfl) (Nat.le_of_ble_eq_true rfl) rfl dX1_goRest_39 ⟨rfl, rfl⟩
set_option maxRecDepth 100000 in
set_option maxHeartbeats 4000000 in
theorem s426_X1_restore  (d : Nat)   : G (d + 1) mX1_restore 0 0 0 0 0 (gent 3 [.ref 19, .int 0]) [] SH0 RF0 (gup (gup (gup (gup (gup (gup (gup (gup (gup (gup (gup (gup (gup (gcp I0 24 34 (0 : Int32).toNatClampNeg (0 : Int32).toNatClampNeg (6 : Int32).toNatClampNeg) 34 6 0) 34 7 0) 19 1 1) 19 1 2) 19 1 3) 19 1 4) 19 1 5) 19 1 6) 19 1 7) 19 1 8) 19 1 9) 19 1 10) 19 1 11) (fun r h => r = none ∧ h = (SH0, RF0, (gup (gup (gcp (gup (gup (gup (gup (gup (gup (gup (gup (gup (gup (gup (gup (gup (gcp I0 24 34 (0 : Int32).toNatClampNeg (0 : Int32).toNatClampNeg (6 : Int32).toNatClampNeg) 34 6 0) 34 7 0) 19 1 1) 19 1 2) 19 1 3) 19 1 4) 19 1 5) 19 1 6) 19 1 7) 19 1 8) 19 1 9) 19 1 10) 19 1 11) 34 24 (0 : Int32).toNatClampNeg (0 : Int32).toNatClampNeg (6 : Int32).toNatClampNeg) 19 9 0) 19 1 0))) := by
  refine G_iload_n (pc := 0) rfl dX1_restore_0 ?_
  refine G_bipush (pc := 1) (v := 8) (by decide) dX1_restore_1 ?_
  refine G_imul (pc := 3) (z := 0) (by decide) dX1_restore_3 ?_
  refine G_istore_n (pc := 4) (L1 := [some (.ref 19), some (.int 0), some (.int 0)]) rfl rfl (by decide) dX1_restore_4 ?_
  refine G_aload_n (pc := 5) rfl dX1_restore_5 ?_
  refine G_getR (pc := 6) (r := 34) (ci := 1) (j := 18) rfl lk_RX1_53 rfl rfl rfl dX1_restore_6 ?_
  refine G_iload_n (pc := 9) rfl dX1_restore_9 ?_
  refine G_aload_n (pc := 10) rfl dX1_restore_10 ?_
  refine G_getR (pc := 11) (r := 24) (ci := 1) (j := 11) rfl lk_RX1_31 rfl rfl rfl dX1_restore_11 ?_
  refine G_iconst (pc := 14) (v := 0) (by decide) dX1_restore_14 ?_
  refine G_bipush (pc := 15) (v := 6) (by decide) dX1_restore_15 ?_
  refine G_copy (pc := 17) (x := 34) (y := 24) rfl rfl (by decide) (by decide) (by decide) (by decide) (by decide) wf_50 wf_51 wf_52 wf_53 (Nat.le_of_ble_eq_true rfl) dX1_restore_17 ?_
  refine G_aload_n (pc := 20) rfl dX1_restore_20 ?_
  refine G_aload_n (pc := 21) rfl dX1_restore_21 ?_
  refine G_getR (pc := 22) (r := 34) (ci := 1) (j := 18) rfl lk_RX1_53 rfl rfl rfl dX1_restore_22 ?_
  refine G_iload_n (pc := 25) rfl dX1_restore_25 ?_
  refine G_bipush (pc := 26) (v := 6) (by decide) dX1_restore_26 ?_
  refine G_iadd (pc := 28) (z := 6) (by decide) dX1_restore_28 ?_
  refine G_iald (pc := 29) (jj := 6) (v := 0) (by decide) rfl rfl (by unfold vp_in; decide) dX1_restore_29 ?_
  refine G_putI (pc := 30) (ci := 1) (j := 9) rfl lk_RX1_75 rfl rfl rfl trivial dX1_restore_30 ?_
  refine G_aload_n (pc := 33) rfl dX1_restore_33 ?_
  refine G_aload_n (pc := 34) rfl dX1_restore_34 ?_
  refine G_getR (pc := 35) (r := 34) (ci := 1) (j := 18) rfl lk_RX1_53 rfl rfl rfl dX1_restore_35 ?_
  refine G_iload_n (pc := 38) rfl dX1_restore_38 ?_
  refine G_bipush (pc := 39) (v := 6) (by decide) dX1_restore_39 ?_
  refine G_iadd (pc := 41) (z := 6) (by decide) dX1_restore_41 ?_
  refine G_iconst (pc := 42) (v := 1) (by decide) dX1_restore_42 ?_
  refine G_iadd (pc := 43) (z := 7) (by decide) dX1_restore_43 ?_
  refine G_iald (pc := 44) (jj := 7) (v := 0) (by decide) rfl rfl (by unfold vp_in; decide) dX1_restore_44 ?_
  refine G_putI (pc := 45) (ci := 1) (j := 1) rfl lk_RX1_60 rfl rfl rfl trivial dX1_restore_45 ?_
  exact G_vret (pc := 48) (Nat.le_of_ble_eq_true rfl) (Nat.le_of_ble_eq_true rfl) rfl dX1_restore_48 ⟨rfl, rfl⟩
set_option maxRecDepth 100000 in
set_option maxHeartbeats 4000000 in
theorem s427_X1_goRest  (d : Nat)   : G (d + 2) mX1_goRest 0 0 0 0 0 (gent 4 [.ref 19, .int 12]) [] SH0 RF0 (gup (gup (gcp I0 24 34 (0 : Int32).toNatClampNeg (0 : Int32).toNatClampNeg (6 : Int32).toNatClampNeg) 34 6 0) 34 7 0) (fun r h => r = some (.int 0) ∧ h = (SH0, RF0, (gup (gup (gup (gup (gup (gup (gup (gup (gup (gup (gup (gup (gup (gup (gcp I0 24 34 (0 : Int32).toNatClampNeg (0 : Int32).toNatClampNeg (6 : Int32).toNatClampNeg) 34 6 0) 34 7 0) 19 1 1) 19 1 2) 19 1 3) 19 1 4) 19 1 5) 19 1 6) 19 1 7) 19 1 8) 19 1 9) 19 1 10) 19 1 11) 19 1 12))) := by
  refine G_iconst (pc := 0) (v := 0) (by decide) dX1_goRest_0 ?_
  refine G_istore_n (pc := 1) (L1 := [some (.ref 19), some (.int 12), some (.int 0), none]) rfl rfl (by decide) dX1_goRest_1 ?_
  refine G_iconst (pc := 2) (v := 0) (by decide) dX1_goRest_2 ?_
  refine G_istore_n (pc := 3) (L1 := [some (.ref 19), some (.int 12), some (.int 0), some (.int 0)]) rfl rfl (by decide) dX1_goRest_3 ?_
  refine G_iload_n (pc := 4) rfl dX1_goRest_4 ?_
  refine G_iload_n (pc := 5) rfl dX1_goRest_5 ?_
  refine G_icmp_ge (pc := 6) (tgt := 38) (by decide) dX1_goRest_6 (fun z => absurd z (by decide)) (fun _ => ?_)
  refine G_aload_n (pc := 9) rfl dX1_goRest_9 ?_
  refine G_callV (pc := 10) (mc1 := 0) (ms1 := 0) (ci := 1) (mj := mX1_isOver) (vs := []) dX1_goRest_10 rfl rfl cm_X1_isOver wf_172 wf_17 wf_18 rfl (Nat.le_of_ble_eq_true rfl) (Nat.le_of_ble_eq_true rfl) (Nat.le_of_ble_eq_true rfl) (Nat.le_of_ble_eq_true rfl) (s348_X1_isOver  (d + 1)  ) ?_
  rintro _ _ ⟨rfl, rfl⟩
  dsimp only [Option.toList, List.cons_append, List.nil_append]
  refine G_if_ne (pc := 13) (tgt := 38) (by decide) dX1_goRest_13 (fun z => absurd (by decide) z) (fun _ => ?_)
  refine G_iload_n (pc := 16) rfl dX1_goRest_16 ?_
  refine G_aload_n (pc := 17) rfl dX1_goRest_17 ?_
  refine G_aload_n (pc := 18) rfl dX1_goRest_18 ?_
  refine G_callV (pc := 19) (mc1 := 0) (ms1 := 0) (ci := 1) (mj := mX1_restAct) (vs := []) dX1_goRest_19 rfl rfl cm_X1_restAct wf_173 wf_66 wf_67 rfl (Nat.le_of_ble_eq_true rfl) (Nat.le_of_ble_eq_true rfl) (Nat.le_of_ble_eq_true rfl) (Nat.le_of_ble_eq_true rfl) (s349_X1_restAct  (d + 1)  ) ?_
  rintro _ _ ⟨rfl, rfl⟩
  dsimp only [Option.toList, List.cons_append, List.nil_append]
  refine G_callV (pc := 22) (mc1 := 0) (ms1 := 0) (ci := 1) (mj := mX1_tell) (vs := [_]) dX1_goRest_22 rfl rfl cm_X1_tell wf_69 wf_71 wf_72 rfl (Nat.le_of_ble_eq_true rfl) (Nat.le_of_ble_eq_true rfl) (Nat.le_of_ble_eq_true rfl) (Nat.le_of_ble_eq_true rfl) (s143_X1_tell  d  ) ?_
  rintro _ _ ⟨rfl, rfl⟩
  dsimp only [Option.toList, List.cons_append, List.nil_append]
  refine G_aload_n (pc := 25) rfl dX1_goRest_25 ?_
  refine G_callV (pc := 26) (mc1 := 0) (ms1 := 0) (ci := 1) (mj := mX1_melt) (vs := []) dX1_goRest_26 rfl rfl cm_X1_melt wf_73 wf_75 wf_76 rfl (Nat.le_of_ble_eq_true rfl) (Nat.le_of_ble_eq_true rfl) (Nat.le_of_ble_eq_true rfl) (Nat.le_of_ble_eq_true rfl) (s145_X1_melt  (d + 1)  ) ?_
  rintro _ _ ⟨rfl, rfl⟩
  dsimp only [Option.toList, List.cons_append, List.nil_append]
  refine G_iadd (pc := 29) (z := 0) (by decide) dX1_goRest_29 ?_
  refine G_iadd (pc := 30) (z := 0) (by decide) dX1_goRest_30 ?_
  refine G_istore_n (pc := 31) (L1 := [some (.ref 19), some (.int 12), some (.int 0), some (.int 0)]) rfl rfl (by decide) dX1_goRest_31 ?_
  refine G_iinc (pc := 32) (v := 1) (w := 1) (L1 := [some (.ref 19), some (.int 12), some (.int 0), some (.int 1)]) (by decide) rfl rfl (by decide) rfl (by decide) dX1_goRest_32 ?_
  refine G_goto (pc := 35) (tgt := 4) (by decide) dX1_goRest_35 ?_
  refine G_iload_n (pc := 4) rfl dX1_goRest_4 ?_
  refine G_iload_n (pc := 5) rfl dX1_goRest_5 ?_
  refine G_icmp_ge (pc := 6) (tgt := 38) (by decide) dX1_goRest_6 (fun z => absurd z (by decide)) (fun _ => ?_)
  refine G_aload_n (pc := 9) rfl dX1_goRest_9 ?_
  refine G_callV (pc := 10) (mc1 := 0) (ms1 := 0) (ci := 1) (mj := mX1_isOver) (vs := []) dX1_goRest_10 rfl rfl cm_X1_isOver wf_172 wf_17 wf_18 rfl (Nat.le_of_ble_eq_true rfl) (Nat.le_of_ble_eq_true rfl) (Nat.le_of_ble_eq_true rfl) (Nat.le_of_ble_eq_true rfl) (s153_X1_isOver  (d + 1)  ) ?_
  rintro _ _ ⟨rfl, rfl⟩
  dsimp only [Option.toList, List.cons_append, List.nil_append]
  refine G_if_ne (pc := 13) (tgt := 38) (by decide) dX1_goRest_13 (fun z => absurd (by decide) z) (fun _ => ?_)
  refine G_iload_n (pc := 16) rfl dX1_goRest_16 ?_
  refine G_aload_n (pc := 17) rfl dX1_goRest_17 ?_
  refine G_aload_n (pc := 18) rfl dX1_goRest_18 ?_
  refine G_callV (pc := 19) (mc1 := 0) (ms1 := 0) (ci := 1) (mj := mX1_restAct) (vs := []) dX1_goRest_19 rfl rfl cm_X1_restAct wf_173 wf_66 wf_67 rfl (Nat.le_of_ble_eq_true rfl) (Nat.le_of_ble_eq_true rfl) (Nat.le_of_ble_eq_true rfl) (Nat.le_of_ble_eq_true rfl) (s350_X1_restAct  (d + 1)  ) ?_
  rintro _ _ ⟨rfl, rfl⟩
  dsimp only [Option.toList, List.cons_append, List.nil_append]
  refine G_callV (pc := 22) (mc1 := 0) (ms1 := 0) (ci := 1) (mj := mX1_tell) (vs := [_]) dX1_goRest_22 rfl rfl cm_X1_tell wf_69 wf_71 wf_72 rfl (Nat.le_of_ble_eq_true rfl) (Nat.le_of_ble_eq_true rfl) (Nat.le_of_ble_eq_true rfl) (Nat.le_of_ble_eq_true rfl) (s351_X1_tell  d  ) ?_
  rintro _ _ ⟨rfl, rfl⟩
  dsimp only [Option.toList, List.cons_append, List.nil_append]
  refine G_aload_n (pc := 25) rfl dX1_goRest_25 ?_
  refine G_callV (pc := 26) (mc1 := 0) (ms1 := 0) (ci := 1) (mj := mX1_melt) (vs := []) dX1_goRest_26 rfl rfl cm_X1_melt wf_73 wf_75 wf_76 rfl (Nat.le_of_ble_eq_true rfl) (Nat.le_of_ble_eq_true rfl) (Nat.le_of_ble_eq_true rfl) (Nat.le_of_ble_eq_true rfl) (s353_X1_melt  (d + 1)  ) ?_
  rintro _ _ ⟨rfl, rfl⟩
  dsimp only [Option.toList, List.cons_append, List.nil_append]
  refine G_iadd (pc := 29) (z := 0) (by decide) dX1_goRest_29 ?_
  refine G_iadd (pc := 30) (z := 0) (by decide) dX1_goRest_30 ?_
  refine G_istore_n (pc := 31) (L1 := [some (.ref 19), some (.int 12), some (.int 0), some (.int 1)]) rfl rfl (by decide) dX1_goRest_31 ?_
  refine G_iinc (pc := 32) (v := 1) (w := 2) (L1 := [some (.ref 19), some (.int 12), some (.int 0), some (.int 2)]) (by decide) rfl rfl (by decide) rfl (by decide) dX1_goRest_32 ?_
  refine G_goto (pc := 35) (tgt := 4) (by decide) dX1_goRest_35 ?_
  refine G_iload_n (pc := 4) rfl dX1_goRest_4 ?_
  refine G_iload_n (pc := 5) rfl dX1_goRest_5 ?_
  refine G_icmp_ge (pc := 6) (tgt := 38) (by decide) dX1_goRest_6 (fun z => absurd z (by decide)) (fun _ => ?_)
  refine G_aload_n (pc := 9) rfl dX1_goRest_9 ?_
  refine G_callV (pc := 10) (mc1 := 0) (ms1 := 0) (ci := 1) (mj := mX1_isOver) (vs := []) dX1_goRest_10 rfl rfl cm_X1_isOver wf_172 wf_17 wf_18 rfl (Nat.le_of_ble_eq_true rfl) (Nat.le_of_ble_eq_true rfl) (Nat.le_of_ble_eq_true rfl) (Nat.le_of_ble_eq_true rfl) (s354_X1_isOver  (d + 1)  ) ?_
  rintro _ _ ⟨rfl, rfl⟩
  dsimp only [Option.toList, List.cons_append, List.nil_append]
  refine G_if_ne (pc := 13) (tgt := 38) (by decide) dX1_goRest_13 (fun z => absurd (by decide) z) (fun _ => ?_)
  refine G_iload_n (pc := 16) rfl dX1_goRest_16 ?_
  refine G_aload_n (pc := 17) rfl dX1_goRest_17 ?_
  refine G_aload_n (pc := 18) rfl dX1_goRest_18 ?_
  refine G_callV (pc := 19) (mc1 := 0) (ms1 := 0) (ci := 1) (mj := mX1_restAct) (vs := []) dX1_goRest_19 rfl rfl cm_X1_restAct wf_173 wf_66 wf_67 rfl (Nat.le_of_ble_eq_true rfl) (Nat.le_of_ble_eq_true rfl) (Nat.le_of_ble_eq_true rfl) (Nat.le_of_ble_eq_true rfl) (s355_X1_restAct  (d + 1)  ) ?_
  rintro _ _ ⟨rfl, rfl⟩
  dsimp only [Option.toList, List.cons_append, List.nil_append]
  refine G_callV (pc := 22) (mc1 := 0) (ms1 := 0) (ci := 1) (mj := mX1_tell) (vs := [_]) dX1_goRest_22 rfl rfl cm_X1_tell wf_69 wf_71 wf_72 rfl (Nat.le_of_ble_eq_true rfl) (Nat.le_of_ble_eq_true rfl) (Nat.le_of_ble_eq_true rfl) (Nat.le_of_ble_eq_true rfl) (s356_X1_tell  d  ) ?_
  rintro _ _ ⟨rfl, rfl⟩
  dsimp only [Option.toList, List.cons_append, List.nil_append]
  refine G_aload_n (pc := 25) rfl dX1_goRest_25 ?_
  refine G_callV (pc := 26) (mc1 := 0) (ms1 := 0) (ci := 1) (mj := mX1_melt) (vs := []) dX1_goRest_26 rfl rfl cm_X1_melt wf_73 wf_75 wf_76 rfl (Nat.le_of_ble_eq_true rfl) (Nat.le_of_ble_eq_true rfl) (Nat.le_of_ble_eq_true rfl) (Nat.le_of_ble_eq_true rfl) (s358_X1_melt  (d + 1)  ) ?_
  rintro _ _ ⟨rfl, rfl⟩
  dsimp only [Option.toList, List.cons_append, List.nil_append]
  refine G_iadd (pc := 29) (z := 0) (by decide) dX1_goRest_29 ?_
  refine G_iadd (pc := 30) (z := 0) (by decide) dX1_goRest_30 ?_
  refine G_istore_n (pc := 31) (L1 := [some (.ref 19), some (.int 12), some (.int 0), some (.int 2)]) rfl rfl (by decide) dX1_goRest_31 ?_
  refine G_iinc (pc := 32) (v := 1) (w := 3) (L1 := [some (.ref 19), some (.int 12), some (.int 0), some (.int 3)]) (by decide) rfl rfl (by decide) rfl (by decide) dX1_goRest_32 ?_
  refine G_goto (pc := 35) (tgt := 4) (by decide) dX1_goRest_35 ?_
  refine G_iload_n (pc := 4) rfl dX1_goRest_4 ?_
  refine G_iload_n (pc := 5) rfl dX1_goRest_5 ?_
  refine G_icmp_ge (pc := 6) (tgt := 38) (by decide) dX1_goRest_6 (fun z => absurd z (by decide)) (fun _ => ?_)
  refine G_aload_n (pc := 9) rfl dX1_goRest_9 ?_
  refine G_callV (pc := 10) (mc1 := 0) (ms1 := 0) (ci := 1) (mj := mX1_isOver) (vs := []) dX1_goRest_10 rfl rfl cm_X1_isOver wf_172 wf_17 wf_18 rfl (Nat.le_of_ble_eq_true rfl) (Nat.le_of_ble_eq_true rfl) (Nat.le_of_ble_eq_true rfl) (Nat.le_of_ble_eq_true rfl) (s359_X1_isOver  (d + 1)  ) ?_
  rintro _ _ ⟨rfl, rfl⟩
  dsimp only [Option.toList, List.cons_append, List.nil_append]
  refine G_if_ne (pc := 13) (tgt := 38) (by decide) dX1_goRest_13 (fun z => absurd (by decide) z) (fun _ => ?_)
  refine G_iload_n (pc := 16) rfl dX1_goRest_16 ?_
  refine G_aload_n (pc := 17) rfl dX1_goRest_17 ?_
  refine G_aload_n (pc := 18) rfl dX1_goRest_18 ?_
  refine G_callV (pc := 19) (mc1 := 0) (ms1 := 0) (ci := 1) (mj := mX1_restAct) (vs := []) dX1_goRest_19 rfl rfl cm_X1_restAct wf_173 wf_66 wf_67 rfl (Nat.le_of_ble_eq_true rfl) (Nat.le_of_ble_eq_true rfl) (Nat.le_of_ble_eq_true rfl) (Nat.le_of_ble_eq_true rfl) (s360_X1_restAct  (d + 1)  ) ?_
  rintro _ _ ⟨rfl, rfl⟩
  dsimp only [Option.toList, List.cons_append, List.nil_append]
  refine G_callV (pc := 22) (mc1 := 0) (ms1 := 0) (ci := 1) (mj := mX1_tell) (vs := [_]) dX1_goRest_22 rfl rfl cm_X1_tell wf_69 wf_71 wf_72 rfl (Nat.le_of_ble_eq_true rfl) (Nat.le_of_ble_eq_true rfl) (Nat.le_of_ble_eq_true rfl) (Nat.le_of_ble_eq_true rfl) (s361_X1_tell  d  ) ?_
  rintro _ _ ⟨rfl, rfl⟩
  dsimp only [Option.toList, List.cons_append, List.nil_append]
  refine G_aload_n (pc := 25) rfl dX1_goRest_25 ?_
  refine G_callV (pc := 26) (mc1 := 0) (ms1 := 0) (ci := 1) (mj := mX1_melt) (vs := []) dX1_goRest_26 rfl rfl cm_X1_melt wf_73 wf_75 wf_76 rfl (Nat.le_of_ble_eq_true rfl) (Nat.le_of_ble_eq_true rfl) (Nat.le_of_ble_eq_true rfl) (Nat.le_of_ble_eq_true rfl) (s363_X1_melt  (d + 1)  ) ?_
  rintro _ _ ⟨rfl, rfl⟩
  dsimp only [Option.toList, List.cons_append, List.nil_append]
  refine G_iadd (pc := 29) (z := 0) (by decide) dX1_goRest_29 ?_
  refine G_iadd (pc := 30) (z := 0) (by decide) dX1_goRest_30 ?_
  refine G_istore_n (pc := 31) (L1 := [some (.ref 19), some (.int 12), some (.int 0), some (.int 3)]) rfl rfl (by decide) dX1_goRest_31 ?_
  refine G_iinc (pc := 32) (v := 1) (w := 4) (L1 := [some (.ref 19), some (.int 12), some (.int 0), some (.int 4)]) (by decide) rfl rfl (by decide) rfl (by decide) dX1_goRest_32 ?_
  refine G_goto (pc := 35) (tgt := 4) (by decide) dX1_goRest_35 ?_
  refine G_iload_n (pc := 4) rfl dX1_goRest_4 ?_
  refine G_iload_n (pc := 5) rfl dX1_goRest_5 ?_
  refine G_icmp_ge (pc := 6) (tgt := 38) (by decide) dX1_goRest_6 (fun z => absurd z (by decide)) (fun _ => ?_)
  refine G_aload_n (pc := 9) rfl dX1_goRest_9 ?_
  refine G_callV (pc := 10) (mc1 := 0) (ms1 := 0) (ci := 1) (mj := mX1_isOver) (vs := []) dX1_goRest_10 rfl rfl cm_X1_isOver wf_172 wf_17 wf_18 rfl (Nat.le_of_ble_eq_true rfl) (Nat.le_of_ble_eq_true rfl) (Nat.le_of_ble_eq_true rfl) (Nat.le_of_ble_eq_true rfl) (s364_X1_isOver  (d + 1)  ) ?_
  rintro _ _ ⟨rfl, rfl⟩
  dsimp only [Option.toList, List.cons_append, List.nil_append]
  refine G_if_ne (pc := 13) (tgt := 38) (by decide) dX1_goRest_13 (fun z => absurd (by decide) z) (fun _ => ?_)
  refine G_iload_n (pc := 16) rfl dX1_goRest_16 ?_
  refine G_aload_n (pc := 17) rfl dX1_goRest_17 ?_
  refine G_aload_n (pc := 18) rfl dX1_goRest_18 ?_
  refine G_callV (pc := 19) (mc1 := 0) (ms1 := 0) (ci := 1) (mj := mX1_restAct) (vs := []) dX1_goRest_19 rfl rfl cm_X1_restAct wf_173 wf_66 wf_67 rfl (Nat.le_of_ble_eq_true rfl) (Nat.le_of_ble_eq_true rfl) (Nat.le_of_ble_eq_true rfl) (Nat.le_of_ble_eq_true rfl) (s365_X1_restAct  (d + 1)  ) ?_
  rintro _ _ ⟨rfl, rfl⟩
  dsimp only [Option.toList, List.cons_append, List.nil_append]
  refine G_callV (pc := 22) (mc1 := 0) (ms1 := 0) (ci := 1) (mj := mX1_tell) (vs := [_]) dX1_goRest_22 rfl rfl cm_X1_tell wf_69 wf_71 wf_72 rfl (Nat.le_of_ble_eq_true rfl) (Nat.le_of_ble_eq_true rfl) (Nat.le_of_ble_eq_true rfl) (Nat.le_of_ble_eq_true rfl) (s366_X1_tell  d  ) ?_
  rintro _ _ ⟨rfl, rfl⟩
  dsimp only [Option.toList, List.cons_append, List.nil_append]
  refine G_aload_n (pc := 25) rfl dX1_goRest_25 ?_
  refine G_callV (pc := 26) (mc1 := 0) (ms1 := 0) (ci := 1) (mj := mX1_melt) (vs := []) dX1_goRest_26 rfl rfl cm_X1_melt wf_73 wf_75 wf_76 rfl (Nat.le_of_ble_eq_true rfl) (Nat.le_of_ble_eq_true rfl) (Nat.le_of_ble_eq_true rfl) (Nat.le_of_ble_eq_true rfl) (s368_X1_melt  (d + 1)  ) ?_
  rintro _ _ ⟨rfl, rfl⟩
  dsimp only [Option.toList, List.cons_append, List.nil_append]
  refine G_iadd (pc := 29) (z := 0) (by decide) dX1_goRest_29 ?_
  refine G_iadd (pc := 30) (z := 0) (by decide) dX1_goRest_30 ?_
  refine G_istore_n (pc := 31) (L1 := [some (.ref 19), some (.int 12), some (.int 0), some (.int 4)]) rfl rfl (by decide) dX1_goRest_31 ?_
  refine G_iinc (pc := 32) (v := 1) (w := 5) (L1 := [some (.ref 19), some (.int 12), some (.int 0), some (.int 5)]) (by decide) rfl rfl (by decide) rfl (by decide) dX1_goRest_32 ?_
  refine G_goto (pc := 35) (tgt := 4) (by decide) dX1_goRest_35 ?_
  refine G_iload_n (pc := 4) rfl dX1_goRest_4 ?_
  refine G_iload_n (pc := 5) rfl dX1_goRest_5 ?_
  refine G_icmp_ge (pc := 6) (tgt := 38) (by decide) dX1_goRest_6 (fun z => absurd z (by decide)) (fun _ => ?_)
  refine G_aload_n (pc := 9) rfl dX1_goRest_9 ?_
  refine G_callV (pc := 10) (mc1 := 0) (ms1 := 0) (ci := 1) (mj := mX1_isOver) (vs := []) dX1_goRest_10 rfl rfl cm_X1_isOver wf_172 wf_17 wf_18 rfl (Nat.le_of_ble_eq_true rfl) (Nat.le_of_ble_eq_true rfl) (Nat.le_of_ble_eq_true rfl) (Nat.le_of_ble_eq_true rfl) (s369_X1_isOver  (d + 1)  ) ?_
  rintro _ _ ⟨rfl, rfl⟩
  dsimp only [Option.toList, List.cons_append, List.nil_append]
  refine G_if_ne (pc := 13) (tgt := 38) (by decide) dX1_goRest_13 (fun z => absurd (by decide) z) (fun _ => ?_)
  refine G_iload_n (pc := 16) rfl dX1_goRest_16 ?_
  refine G_aload_n (pc := 17) rfl dX1_goRest_17 ?_
  refine G_aload_n (pc := 18) rfl dX1_goRest_18 ?_
  refine G_callV (pc := 19) (mc1 := 0) (ms1 := 0) (ci := 1) (mj := mX1_restAct) (vs := []) dX1_goRest_19 rfl rfl cm_X1_restAct wf_173 wf_66 wf_67 rfl (Nat.le_of_ble_eq_true rfl) (Nat.le_of_ble_eq_true rfl) (Nat.le_of_ble_eq_true rfl) (Nat.le_of_ble_eq_true rfl) (s370_X1_restAct  (d + 1)  ) ?_
  rintro _ _ ⟨rfl, rfl⟩
  dsimp only [Option.toList, List.cons_append, List.nil_append]
  refine G_callV (pc := 22) (mc1 := 0) (ms1 := 0) (ci := 1) (mj := mX1_tell) (vs := [_]) dX1_goRest_22 rfl rfl cm_X1_tell wf_69 wf_71 wf_72 rfl (Nat.le_of_ble_eq_true rfl) (Nat.le_of_ble_eq_true rfl) (Nat.le_of_ble_eq_true rfl) (Nat.le_of_ble_eq_true rfl) (s371_X1_tell  d  ) ?_
  rintro _ _ ⟨rfl, rfl⟩
  dsimp only [Option.toList, List.cons_append, List.nil_append]
  refine G_aload_n (pc := 25) rfl dX1_goRest_25 ?_
  refine G_callV (pc := 26) (mc1 := 0) (ms1 := 0) (ci := 1) (mj := mX1_melt) (vs := []) dX1_goRest_26 rfl rfl cm_X1_melt wf_73 wf_75 wf_76 rfl (Nat.le_of_ble_eq_true rfl) (Nat.le_of_ble_eq_true rfl) (Nat.le_of_ble_eq_true rfl) (Nat.le_of_ble_eq_true rfl) (s373_X1_melt  (d + 1)  ) ?_
  rintro _ _ ⟨rfl, rfl⟩
  dsimp only [Option.toList, List.cons_append, List.nil_append]
  refine G_iadd (pc := 29) (z := 0) (by decide) dX1_goRest_29 ?_
  refine G_iadd (pc := 30) (z := 0) (by decide) dX1_goRest_30 ?_
  refine G_istore_n (pc := 31) (L1 := [some (.ref 19), some (.int 12), some (.int 0), some (.int 5)]) rfl rfl (by decide) dX1_goRest_31 ?_
  refine G_iinc (pc := 32) (v := 1) (w := 6) (L1 := [some (.ref 19), some (.int 12), some (.int 0), some (.int 6)]) (by decide) rfl rfl (by decide) rfl (by decide) dX1_goRest_32 ?_
  refine G_goto (pc := 35) (tgt := 4) (by decide) dX1_goRest_35 ?_
  refine G_iload_n (pc := 4) rfl dX1_goRest_4 ?_
  refine G_iload_n (pc := 5) rfl dX1_goRest_5 ?_
  refine G_icmp_ge (pc := 6) (tgt := 38) (by decide) dX1_goRest_6 (fun z => absurd z (by decide)) (fun _ => ?_)
  refine G_aload_n (pc := 9) rfl dX1_goRest_9 ?_
  refine G_callV (pc := 10) (mc1 := 0) (ms1 := 0) (ci := 1) (mj := mX1_isOver) (vs := []) dX1_goRest_10 rfl rfl cm_X1_isOver wf_172 wf_17 wf_18 rfl (Nat.le_of_ble_eq_true rfl) (Nat.le_of_ble_eq_true rfl) (Nat.le_of_ble_eq_true rfl) (Nat.le_of_ble_eq_true rfl) (s374_X1_isOver  (d + 1)  ) ?_
  rintro _ _ ⟨rfl, rfl⟩
  dsimp only [Option.toList, List.cons_append, List.nil_append]
  refine G_if_ne (pc := 13) (tgt := 38) (by decide) dX1_goRest_13 (fun z => absurd (by decide) z) (fun _ => ?_)
  refine G_iload_n (pc := 16) rfl dX1_goRest_16 ?_
  refine G_aload_n (pc := 17) rfl dX1_goRest_17 ?_
  refine G_aload_n (pc := 18) rfl dX1_goRest_18 ?_
  refine G_callV (pc := 19) (mc1 := 0) (ms1 := 0) (ci := 1) (mj := mX1_restAct) (vs := []) dX1_goRest_19 rfl rfl cm_X1_restAct wf_173 wf_66 wf_67 rfl (Nat.le_of_ble_eq_true rfl) (Nat.le_of_ble_eq_true rfl) (Nat.le_of_ble_eq_true rfl) (Nat.le_of_ble_eq_true rfl) (s375_X1_restAct  (d + 1)  ) ?_
  rintro _ _ ⟨rfl, rfl⟩
  dsimp only [Option.toList, List.cons_append, List.nil_append]
  refine G_callV (pc := 22) (mc1 := 0) (ms1 := 0) (ci := 1) (mj := mX1_tell) (vs := [_]) dX1_goRest_22 rfl rfl cm_X1_tell wf_69 wf_71 wf_72 rfl (Nat.le_of_ble_eq_true rfl) (Nat.le_of_ble_eq_true rfl) (Nat.le_of_ble_eq_true rfl) (Nat.le_of_ble_eq_true rfl) (s376_X1_tell  d  ) ?_
  rintro _ _ ⟨rfl, rfl⟩
  dsimp only [Option.toList, List.cons_append, List.nil_append]
  refine G_aload_n (pc := 25) rfl dX1_goRest_25 ?_
  refine G_callV (pc := 26) (mc1 := 0) (ms1 := 0) (ci := 1) (mj := mX1_melt) (vs := []) dX1_goRest_26 rfl rfl cm_X1_melt wf_73 wf_75 wf_76 rfl (Nat.le_of_ble_eq_true rfl) (Nat.le_of_ble_eq_true rfl) (Nat.le_of_ble_eq_true rfl) (Nat.le_of_ble_eq_true rfl) (s378_X1_melt  (d + 1)  ) ?_
  rintro _ _ ⟨rfl, rfl⟩
  dsimp only [Option.toList, List.cons_append, List.nil_append]
  refine G_iadd (pc := 29) (z := 0) (by decide) dX1_goRest_29 ?_
  refine G_iadd (pc := 30) (z := 0) (by decide) dX1_goRest_30 ?_
  refine G_istore_n (pc := 31) (L1 := [some (.ref 19), some (.int 12), some (.int 0), some (.int 6)]) rfl rfl (by decide) dX1_goRest_31 ?_
  refine G_iinc (pc := 32) (v := 1) (w := 7) (L1 := [some (.ref 19), some (.int 12), some (.int 0), some (.int 7)]) (by decide) rfl rfl (by decide) rfl (by decide) dX1_goRest_32 ?_
  refine G_goto (pc := 35) (tgt := 4) (by decide) dX1_goRest_35 ?_
  refine G_iload_n (pc := 4) rfl dX1_goRest_4 ?_
  refine G_iload_n (pc := 5) rfl dX1_goRest_5 ?_
  refine G_icmp_ge (pc := 6) (tgt := 38) (by decide) dX1_goRest_6 (fun z => absurd z (by decide)) (fun _ => ?_)
  refine G_aload_n (pc := 9) rfl dX1_goRest_9 ?_
  refine G_callV (pc := 10) (mc1 := 0) (ms1 := 0) (ci := 1) (mj := mX1_isOver) (vs := []) dX1_goRest_10 rfl rfl cm_X1_isOver wf_172 wf_17 wf_18 rfl (Nat.le_of_ble_eq_true rfl) (Nat.le_of_ble_eq_true rfl) (Nat.le_of_ble_eq_true rfl) (Nat.le_of_ble_eq_true rfl) (s379_X1_isOver  (d + 1)  ) ?_
  rintro _ _ ⟨rfl, rfl⟩
  dsimp only [Option.toList, List.cons_append, List.nil_append]
  refine G_if_ne (pc := 13) (tgt := 38) (by decide) dX1_goRest_13 (fun z => absurd (by decide) z) (fun _ => ?_)
  refine G_iload_n (pc := 16) rfl dX1_goRest_16 ?_
  refine G_aload_n (pc := 17) rfl dX1_goRest_17 ?_
  refine G_aload_n (pc := 18) rfl dX1_goRest_18 ?_
  refine G_callV (pc := 19) (mc1 := 0) (ms1 := 0) (ci := 1) (mj := mX1_restAct) (vs := []) dX1_goRest_19 rfl rfl cm_X1_restAct wf_173 wf_66 wf_67 rfl (Nat.le_of_ble_eq_true rfl) (Nat.le_of_ble_eq_true rfl) (Nat.le_of_ble_eq_true rfl) (Nat.le_of_ble_eq_true rfl) (s380_X1_restAct  (d + 1)  ) ?_
  rintro _ _ ⟨rfl, rfl⟩
  dsimp only [Option.toList, List.cons_append, List.nil_append]
  refine G_callV (pc := 22) (mc1 := 0) (ms1 := 0) (ci := 1) (mj := mX1_tell) (vs := [_]) dX1_goRest_22 rfl rfl cm_X1_tell wf_69 wf_71 wf_72 rfl (Nat.le_of_ble_eq_true rfl) (Nat.le_of_ble_eq_true rfl) (Nat.le_of_ble_eq_true rfl) (Nat.le_of_ble_eq_true rfl) (s381_X1_tell  d  ) ?_
  rintro _ _ ⟨rfl, rfl⟩
  dsimp only [Option.toList, List.cons_append, List.nil_append]
  refine G_aload_n (pc := 25) rfl dX1_goRest_25 ?_
  refine G_callV (pc := 26) (mc1 := 0) (ms1 := 0) (ci := 1) (mj := mX1_melt) (vs := []) dX1_goRest_26 rfl rfl cm_X1_melt wf_73 wf_75 wf_76 rfl (Nat.le_of_ble_eq_true rfl) (Nat.le_of_ble_eq_true rfl) (Nat.le_of_ble_eq_true rfl) (Nat.le_of_ble_eq_true rfl) (s383_X1_melt  (d + 1)  ) ?_
  rintro _ _ ⟨rfl, rfl⟩
  dsimp only [Option.toList, List.cons_append, List.nil_append]
  refine G_iadd (pc := 29) (z := 0) (by decide) dX1_goRest_29 ?_
  refine G_iadd (pc := 30) (z := 0) (by decide) dX1_goRest_30 ?_
  refine G_istore_n (pc := 31) (L1 := [some (.ref 19), some (.int 12), some (.int 0), some (.int 7)]) rfl rfl (by decide) dX1_goRest_31 ?_
  refine G_iinc (pc := 32) (v := 1) (w := 8) (L1 := [some (.ref 19), some (.int 12), some (.int 0), some (.int 8)]) (by decide) rfl rfl (by decide) rfl (by decide) dX1_goRest_32 ?_
  refine G_goto (pc := 35) (tgt := 4) (by decide) dX1_goRest_35 ?_
  refine G_iload_n (pc := 4) rfl dX1_goRest_4 ?_
  refine G_iload_n (pc := 5) rfl dX1_goRest_5 ?_
  refine G_icmp_ge (pc := 6) (tgt := 38) (by decide) dX1_goRest_6 (fun z => absurd z (by decide)) (fun _ => ?_)
  refine G_aload_n (pc := 9) rfl dX1_goRest_9 ?_
  refine G_callV (pc := 10) (mc1 := 0) (ms1 := 0) (ci := 1) (mj := mX1_isOver) (vs := []) dX1_goRest_10 rfl rfl cm_X1_isOver wf_172 wf_17 wf_18 rfl (Nat.le_of_ble_eq_true rfl) (Nat.le_of_ble_eq_true rfl) (Nat.le_of_ble_eq_true rfl) (Nat.le_of_ble_eq_true rfl) (s384_X1_isOver  (d + 1)  ) ?_
  rintro _ _ ⟨rfl, rfl⟩
  dsimp only [Option.toList, List.cons_append, List.nil_append]
  refine G_if_ne (pc := 13) (tgt := 38) (by decide) dX1_goRest_13 (fun z => absurd (by decide) z) (fun _ => ?_)
  refine G_iload_n (pc := 16) rfl dX1_goRest_16 ?_
  refine G_aload_n (pc := 17) rfl dX1_goRest_17 ?_
  refine G_aload_n (pc := 18) rfl dX1_goRest_18 ?_
  refine G_callV (pc := 19) (mc1 := 0) (ms1 := 0) (ci := 1) (mj := mX1_restAct) (vs := []) dX1_goRest_19 rfl rfl cm_X1_restAct wf_173 wf_66 wf_67 rfl (Nat.le_of_ble_eq_true rfl) (Nat.le_of_ble_eq_true rfl) (Nat.le_of_ble_eq_true rfl) (Nat.le_of_ble_eq_true rfl) (s385_X1_restAct  (d + 1)  ) ?_
  rintro _ _ ⟨rfl, rfl⟩
  dsimp only [Option.toList, List.cons_append, List.nil_append]
  refine G_callV (pc := 22) (mc1 := 0) (ms1 := 0) (ci := 1) (mj := mX1_tell) (vs := [_]) dX1_goRest_22 rfl rfl cm_X1_tell wf_69 wf_71 wf_72 rfl (Nat.le_of_ble_eq_true rfl) (Nat.le_of_ble_eq_true rfl) (Nat.le_of_ble_eq_true rfl) (Nat.le_of_ble_eq_true rfl) (s386_X1_tell  d  ) ?_
  rintro _ _ ⟨rfl, rfl⟩
  dsimp only [Option.toList, List.cons_append, List.nil_append]
  refine G_aload_n (pc := 25) rfl dX1_goRest_25 ?_
  refine G_callV (pc := 26) (mc1 := 0) (ms1 := 0) (ci := 1) (mj := mX1_melt) (vs := []) dX1_goRest_26 rfl rfl cm_X1_melt wf_73 wf_75 wf_76 rfl (Nat.le_of_ble_eq_true rfl) (Nat.le_of_ble_eq_true rfl) (Nat.le_of_ble_eq_true rfl) (Nat.le_of_ble_eq_true rfl) (s388_X1_melt  (d + 1)  ) ?_
  rintro _ _ ⟨rfl, rfl⟩
  dsimp only [Option.toList, List.cons_append, List.nil_append]
  refine G_iadd (pc := 29) (z := 0) (by decide) dX1_goRest_29 ?_
  refine G_iadd (pc := 30) (z := 0) (by decide) dX1_goRest_30 ?_
  refine G_istore_n (pc := 31) (L1 := [some (.ref 19), some (.int 12), some (.int 0), some (.int 8)]) rfl rfl (by decide) dX1_goRest_31 ?_
  refine G_iinc (pc := 32) (v := 1) (w := 9) (L1 := [some (.ref 19), some (.int 12), some (.int 0), some (.int 9)]) (by decide) rfl rfl (by decide) rfl (by decide) dX1_goRest_32 ?_
  refine G_goto (pc := 35) (tgt := 4) (by decide) dX1_goRest_35 ?_
  refine G_iload_n (pc := 4) rfl dX1_goRest_4 ?_
  refine G_iload_n (pc := 5) rfl dX1_goRest_5 ?_
  refine G_icmp_ge (pc := 6) (tgt := 38) (by decide) dX1_goRest_6 (fun z => absurd z (by decide)) (fun _ => ?_)
  refine G_aload_n (pc := 9) rfl dX1_goRest_9 ?_
  refine G_callV (pc := 10) (mc1 := 0) (ms1 := 0) (ci := 1) (mj := mX1_isOver) (vs := []) dX1_goRest_10 rfl rfl cm_X1_isOver wf_172 wf_17 wf_18 rfl (Nat.le_of_ble_eq_true rfl) (Nat.le_of_ble_eq_true rfl) (Nat.le_of_ble_eq_true rfl) (Nat.le_of_ble_eq_true rfl) (s389_X1_isOver  (d + 1)  ) ?_
  rintro _ _ ⟨rfl, rfl⟩
  dsimp only [Option.toList, List.cons_append, List.nil_append]
  refine G_if_ne (pc := 13) (tgt := 38) (by decide) dX1_goRest_13 (fun z => absurd (by decide) z) (fun _ => ?_)
  refine G_iload_n (pc := 16) rfl dX1_goRest_16 ?_
  refine G_aload_n (pc := 17) rfl dX1_goRest_17 ?_
  refine G_aload_n (pc := 18) rfl dX1_goRest_18 ?_
  refine G_callV (pc := 19) (mc1 := 0) (ms1 := 0) (ci := 1) (mj := mX1_restAct) (vs := []) dX1_goRest_19 rfl rfl cm_X1_restAct wf_173 wf_66 wf_67 rfl (Nat.le_of_ble_eq_true rfl) (Nat.le_of_ble_eq_true rfl) (Nat.le_of_ble_eq_true rfl) (Nat.le_of_ble_eq_true rfl) (s390_X1_restAct  (d + 1)  ) ?_
  rintro _ _ ⟨rfl, rfl⟩
  dsimp only [Option.toList, List.cons_append, List.nil_append]
  refine G_callV (pc := 22) (mc1 := 0) (ms1 := 0) (ci := 1) (mj := mX1_tell) (vs := [_]) dX1_goRest_22 rfl rfl cm_X1_tell wf_69 wf_71 wf_72 rfl (Nat.le_of_ble_eq_true rfl) (Nat.le_of_ble_eq_true rfl) (Nat.le_of_ble_eq_true rfl) (Nat.le_of_ble_eq_true rfl) (s391_X1_tell  d  ) ?_
  rintro _ _ ⟨rfl, rfl⟩
  dsimp only [Option.toList, List.cons_append, List.nil_append]
  refine G_aload_n (pc := 25) rfl dX1_goRest_25 ?_
  refine G_callV (pc := 26) (mc1 := 0) (ms1 := 0) (ci := 1) (mj := mX1_melt) (vs := []) dX1_goRest_26 rfl rfl cm_X1_melt wf_73 wf_75 wf_76 rfl (Nat.le_of_ble_eq_true rfl) (Nat.le_of_ble_eq_true rfl) (Nat.le_of_ble_eq_true rfl) (Nat.le_of_ble_eq_true rfl) (s393_X1_melt  (d + 1)  ) ?_
  rintro _ _ ⟨rfl, rfl⟩
  dsimp only [Option.toList, List.cons_append, List.nil_append]
  refine G_iadd (pc := 29) (z := 0) (by decide) dX1_goRest_29 ?_
  refine G_iadd (pc := 30) (z := 0) (by decide) dX1_goRest_30 ?_
  refine G_istore_n (pc := 31) (L1 := [some (.ref 19), some (.int 12), some (.int 0), some (.int 9)]) rfl rfl (by decide) dX1_goRest_31 ?_
  refine G_iinc (pc := 32) (v := 1) (w := 10) (L1 := [some (.ref 19), some (.int 12), some (.int 0), some (.int 10)]) (by decide) rfl rfl (by decide) rfl (by decide) dX1_goRest_32 ?_
  refine G_goto (pc := 35) (tgt := 4) (by decide) dX1_goRest_35 ?_
  refine G_iload_n (pc := 4) rfl dX1_goRest_4 ?_
  refine G_iload_n (pc := 5) rfl dX1_goRest_5 ?_
  refine G_icmp_ge (pc := 6) (tgt := 38) (by decide) dX1_goRest_6 (fun z => absurd z (by decide)) (fun _ => ?_)
  refine G_aload_n (pc := 9) rfl dX1_goRest_9 ?_
  refine G_callV (pc := 10) (mc1 := 0) (ms1 := 0) (ci := 1) (mj := mX1_isOver) (vs := []) dX1_goRest_10 rfl rfl cm_X1_isOver wf_172 wf_17 wf_18 rfl (Nat.le_of_ble_eq_true rfl) (Nat.le_of_ble_eq_true rfl) (Nat.le_of_ble_eq_true rfl) (Nat.le_of_ble_eq_true rfl) (s394_X1_isOver  (d + 1)  ) ?_
  rintro _ _ ⟨rfl, rfl⟩
  dsimp only [Option.toList, List.cons_append, List.nil_append]
  refine G_if_ne (pc := 13) (tgt := 38) (by decide) dX1_goRest_13 (fun z => absurd (by decide) z) (fun _ => ?_)
  refine G_iload_n (pc := 16) rfl dX1_goRest_16 ?_
  refine G_aload_n (pc := 17) rfl dX1_goRest_17 ?_
  refine G_aload_n (pc := 18) rfl dX1_goRest_18 ?_
  refine G_callV (pc := 19) (mc1 := 0) (ms1 := 0) (ci := 1) (mj := mX1_restAct) (vs := []) dX1_goRest_19 rfl rfl cm_X1_restAct wf_173 wf_66 wf_67 rfl (Nat.le_of_ble_eq_true rfl) (Nat.le_of_ble_eq_true rfl) (Nat.le_of_ble_eq_true rfl) (Nat.le_of_ble_eq_true rfl) (s395_X1_restAct  (d + 1)  ) ?_
  rintro _ _ ⟨rfl, rfl⟩
  dsimp only [Option.toList, List.cons_append, List.nil_append]
  refine G_callV (pc := 22) (mc1 := 0) (ms1 := 0) (ci := 1) (mj := mX1_tell) (vs := [_]) dX1_goRest_22 rfl rfl cm_X1_tell wf_69 wf_71 wf_72 rfl (Nat.le_of_ble_eq_true rfl) (Nat.le_of_ble_eq_true rfl) (Nat.le_of_ble_eq_true rfl) (Nat.le_of_ble_eq_true rfl) (s396_X1_tell  d  ) ?_
  rintro _ _ ⟨rfl, rfl⟩
  dsimp only [Option.toList, List.cons_append, List.nil_append]
  refine G_aload_n (pc := 25) rfl dX1_goRest_25 ?_
  refine G_callV (pc := 26) (mc1 := 0) (ms1 := 0) (ci := 1) (mj := mX1_melt) (vs := []) dX1_goRest_26 rfl rfl cm_X1_melt wf_73 wf_75 wf_76 rfl (Nat.le_of_ble_eq_true rfl) (Nat.le_of_ble_eq_true rfl) (Nat.le_of_ble_eq_true rfl) (Nat.le_of_ble_eq_true rfl) (s398_X1_melt  (d + 1)  ) ?_
  rintro _ _ ⟨rfl, rfl⟩
  dsimp only [Option.toList, List.cons_append, List.nil_append]
  refine G_iadd (pc := 29) (z := 0) (by decide) dX1_goRest_29 ?_
  refine G_iadd (pc := 30) (z := 0) (by decide) dX1_goRest_30 ?_
  refine G_istore_n (pc := 31) (L1 := [some (.ref 19), some (.int 12), some (.int 0), some (.int 10)]) rfl rfl (by decide) dX1_goRest_31 ?_
  refine G_iinc (pc := 32) (v := 1) (w := 11) (L1 := [some (.ref 19), some (.int 12), some (.int 0), some (.int 11)]) (by decide) rfl rfl (by decide) rfl (by decide) dX1_goRest_32 ?_
  refine G_goto (pc := 35) (tgt := 4) (by decide) dX1_goRest_35 ?_
  refine G_iload_n (pc := 4) rfl dX1_goRest_4 ?_
  refine G_iload_n (pc := 5) rfl dX1_goRest_5 ?_
  refine G_icmp_ge (pc := 6) (tgt := 38) (by decide) dX1_goRest_6 (fun z => absurd z (by decide)) (fun _ => ?_)
  refine G_aload_n (pc := 9) rfl dX1_goRest_9 ?_
  refine G_callV (pc := 10) (mc1 := 0) (ms1 := 0) (ci := 1) (mj := mX1_isOver) (vs := []) dX1_goRest_10 rfl rfl cm_X1_isOver wf_172 wf_17 wf_18 rfl (Nat.le_of_ble_eq_true rfl) (Nat.le_of_ble_eq_true rfl) (Nat.le_of_ble_eq_true rfl) (Nat.le_of_ble_eq_true rfl) (s399_X1_isOver  (d + 1)  ) ?_
  rintro _ _ ⟨rfl, rfl⟩
  dsimp only [Option.toList, List.cons_append, List.nil_append]
  refine G_if_ne (pc := 13) (tgt := 38) (by decide) dX1_goRest_13 (fun z => absurd (by decide) z) (fun _ => ?_)
  refine G_iload_n (pc := 16) rfl dX1_goRest_16 ?_
  refine G_aload_n (pc := 17) rfl dX1_goRest_17 ?_
  refine G_aload_n (pc := 18) rfl dX1_goRest_18 ?_
  refine G_callV (pc := 19) (mc1 := 0) (ms1 := 0) (ci := 1) (mj := mX1_restAct) (vs := []) dX1_goRest_19 rfl rfl cm_X1_restAct wf_173 wf_66 wf_67 rfl (Nat.le_of_ble_eq_true rfl) (Nat.le_of_ble_eq_true rfl) (Nat.le_of_ble_eq_true rfl) (Nat.le_of_ble_eq_true rfl) (s400_X1_restAct  (d + 1)  ) ?_
  rintro _ _ ⟨rfl, rfl⟩
  dsimp only [Option.toList, List.cons_append, List.nil_append]
  refine G_callV (pc := 22) (mc1 := 0) (ms1 := 0) (ci := 1) (mj := mX1_tell) (vs := [_]) dX1_goRest_22 rfl rfl cm_X1_tell wf_69 wf_71 wf_72 rfl (Nat.le_of_ble_eq_true rfl) (Nat.le_of_ble_eq_true rfl) (Nat.le_of_ble_eq_true rfl) (Nat.le_of_ble_eq_true rfl) (s401_X1_tell  d  ) ?_
  rintro _ _ ⟨rfl, rfl⟩
  dsimp only [Option.toList, List.cons_append, List.nil_append]
  refine G_aload_n (pc := 25) rfl dX1_goRest_25 ?_
  refine G_callV (pc := 26) (mc1 := 0) (ms1 := 0) (ci := 1) (mj := mX1_melt) (vs := []) dX1_goRest_26 rfl rfl cm_X1_melt wf_73 wf_75 wf_76 rfl (Nat.le_of_ble_eq_true rfl) (Nat.le_of_ble_eq_true rfl) (Nat.le_of_ble_eq_true rfl) (Nat.le_of_ble_eq_true rfl) (s403_X1_melt  (d + 1)  ) ?_
  rintro _ _ ⟨rfl, rfl⟩
  dsimp only [Option.toList, List.cons_append, List.nil_append]
  refine G_iadd (pc := 29) (z := 0) (by decide) dX1_goRest_29 ?_
  refine G_iadd (pc := 30) (z := 0) (by decide) dX1_goRest_30 ?_
  refine G_istore_n (pc := 31) (L1 := [some (.ref 19), some (.int 12), some (.int 0), some (.int 11)]) rfl rfl (by decide) dX1_goRest_31 ?_
  refine G_iinc (pc := 32) (v := 1) (w := 12) (L1 := [some (.ref 19), some (.int 12), some (.int 0), some (.int 12)]) (by decide) rfl rfl (by decide) rfl (by decide) dX1_goRest_32 ?_
  refine G_goto (pc := 35) (tgt := 4) (by decide) dX1_goRest_35 ?_
  refine G_iload_n (pc := 4) rfl dX1_goRest_4 ?_
  refine G_iload_n (pc := 5) rfl dX1_goRest_5 ?_
  refine G_icmp_ge (pc := 6) (tgt := 38) (by decide) dX1_goRest_6 (fun _ => ?_) (fun z => absurd (by decide) z)
  refine G_iload_n (pc := 38) rfl dX1_goRest_38 ?_
  exact G_iret (pc := 39) (Nat.le_of_ble_eq_true rfl) (Nat.le_of_ble_eq_true rfl) rfl dX1_goRest_39 ⟨rfl, rfl⟩
set_option maxRecDepth 100000 in
set_option maxHeartbeats 4000000 in
theorem s428_X1_restore  (d : Nat)   : G (d + 1) mX1_restore 0 0 0 0 0 (gent 3 [.ref 19, .int 0]) [] SH0 RF0 (gup (gup (gup (gup (gup (gup (gup (gup (gup (gup (gup (gup (gup (gup (gcp I0 24 34 (0 : Int32).toNatClampNeg (0 : Int32).toNatClampNeg (6 : Int32).toNatClampNeg) 34 6 0) 34 7 0) 19 1 1) 19 1 2) 19 1 3) 19 1 4) 19 1 5) 19 1 6) 19 1 7) 19 1 8) 19 1 9) 19 1 10) 19 1 11) 19 1 12) (fun r h => r = none ∧ h = (SH0, RF0, (gup (gup (gcp (gup (gup (gup (gup (gup (gup (gup (gup (gup (gup (gup (gup (gup (gup (gcp I0 24 34 (0 : Int32).toNatClampNeg (0 : Int32).toNatClampNeg (6 : Int32).toNatClampNeg) 34 6 0) 34 7 0) 19 1 1) 19 1 2) 19 1 3) 19 1 4) 19 1 5) 19 1 6) 19 1 7) 19 1 8) 19 1 9) 19 1 10) 19 1 11) 19 1 12) 34 24 (0 : Int32).toNatClampNeg (0 : Int32).toNatClampNeg (6 : Int32).toNatClampNeg) 19 9 0) 19 1 0))) := by
  refine G_iload_n (pc := 0) rfl dX1_restore_0 ?_
  refine G_bipush (pc := 1) (v := 8) (by decide) dX1_restore_1 ?_
  refine G_imul (pc := 3) (z := 0) (by decide) dX1_restore_3 ?_
  refine G_istore_n (pc := 4) (L1 := [some (.ref 19), some (.int 0), some (.int 0)]) rfl rfl (by decide) dX1_restore_4 ?_
  refine G_aload_n (pc := 5) rfl dX1_restore_5 ?_
  refine G_getR (pc := 6) (r := 34) (ci := 1) (j := 18) rfl lk_RX1_53 rfl rfl rfl dX1_restore_6 ?_
  refine G_iload_n (pc := 9) rfl dX1_restore_9 ?_
  refine G_aload_n (pc := 10) rfl dX1_restore_10 ?_
  refine G_getR (pc := 11) (r := 24) (ci := 1) (j := 11) rfl lk_RX1_31 rfl rfl rfl dX1_restore_11 ?_
  refine G_iconst (pc := 14) (v := 0) (by decide) dX1_restore_14 ?_
  refine G_bipush (pc := 15) (v := 6) (by decide) dX1_restore_15 ?_
  refine G_copy (pc := 17) (x := 34) (y := 24) rfl rfl (by decide) (by decide) (by decide) (by decide) (by decide) wf_50 wf_51 wf_52 wf_53 (Nat.le_of_ble_eq_true rfl) dX1_restore_17 ?_
  refine G_aload_n (pc := 20) rfl dX1_restore_20 ?_
  refine G_aload_n (pc := 21) rfl dX1_restore_21 ?_
  refine G_getR (pc := 22) (r := 34) (ci := 1) (j := 18) rfl lk_RX1_53 rfl rfl rfl dX1_restore_22 ?_
  refine G_iload_n (pc := 25) rfl dX1_restore_25 ?_
  refine G_bipush (pc := 26) (v := 6) (by decide) dX1_restore_26 ?_
  refine G_iadd (pc := 28) (z := 6) (by decide) dX1_restore_28 ?_
  refine G_iald (pc := 29) (jj := 6) (v := 0) (by decide) rfl rfl (by unfold vp_in; decide) dX1_restore_29 ?_
  refine G_putI (pc := 30) (ci := 1) (j := 9) rfl lk_RX1_75 rfl rfl rfl trivial dX1_restore_30 ?_
  refine G_aload_n (pc := 33) rfl dX1_restore_33 ?_
  refine G_aload_n (pc := 34) rfl dX1_restore_34 ?_
  refine G_getR (pc := 35) (r := 34) (ci := 1) (j := 18) rfl lk_RX1_53 rfl rfl rfl dX1_restore_35 ?_
  refine G_iload_n (pc := 38) rfl dX1_restore_38 ?_
  refine G_bipush (pc := 39) (v := 6) (by decide) dX1_restore_39 ?_
  refine G_iadd (pc := 41) (z := 6) (by decide) dX1_restore_41 ?_
  refine G_iconst (pc := 42) (v := 1) (by decide) dX1_restore_42 ?_
  refine G_iadd (pc := 43) (z := 7) (by decide) dX1_restore_43 ?_
  refine G_iald (pc := 44) (jj := 7) (v := 0) (by decide) rfl rfl (by unfold vp_in; decide) dX1_restore_44 ?_
  refine G_putI (pc := 45) (ci := 1) (j := 1) rfl lk_RX1_60 rfl rfl rfl trivial dX1_restore_45 ?_
  exact G_vret (pc := 48) (Nat.le_of_ble_eq_true rfl) (Nat.le_of_ble_eq_true rfl) rfl dX1_restore_48 ⟨rfl, rfl⟩
set_option maxRecDepth 100000 in
set_option maxHeartbeats 4000000 in
theorem s429_X1_goRest  (d : Nat)   : G (d + 2) mX1_goRest 0 0 0 0 0 (gent 4 [.ref 19, .int 13]) [] SH0 RF0 (gup (gup (gcp I0 24 34 (0 : Int32).toNatClampNeg (0 : Int32).toNatClampNeg (6 : Int32).toNatClampNeg) 34 6 0) 34 7 0) (fun r h => r = some (.int 0) ∧ h = (SH0, RF0, (gup (gup (gup (gup (gup (gup (gup (gup (gup (gup (gup (gup (gup (gup (gcp I0 24 34 (0 : Int32).toNatClampNeg (0 : Int32).toNatClampNeg (6 : Int32).toNatClampNeg) 34 6 0) 34 7 0) 19 1 1) 19 1 2) 19 1 3) 19 1 4) 19 1 5) 19 1 6) 19 1 7) 19 1 8) 19 1 9) 19 1 10) 19 1 11) 19 1 12))) := by
  refine G_iconst (pc := 0) (v := 0) (by decide) dX1_goRest_0 ?_
  refine G_istore_n (pc := 1) (L1 := [some (.ref 19), some (.int 13), some (.int 0), none]) rfl rfl (by decide) dX1_goRest_1 ?_
  refine G_iconst (pc := 2) (v := 0) (by decide) dX1_goRest_2 ?_
  refine G_istore_n (pc := 3) (L1 := [some (.ref 19), some (.int 13), some (.int 0), some (.int 0)]) rfl rfl (by decide) dX1_goRest_3 ?_
  refine G_iload_n (pc := 4) rfl dX1_goRest_4 ?_
  refine G_iload_n (pc := 5) rfl dX1_goRest_5 ?_
  refine G_icmp_ge (pc := 6) (tgt := 38) (by decide) dX1_goRest_6 (fun z => absurd z (by decide)) (fun _ => ?_)
  refine G_aload_n (pc := 9) rfl dX1_goRest_9 ?_
  refine G_callV (pc := 10) (mc1 := 0) (ms1 := 0) (ci := 1) (mj := mX1_isOver) (vs := []) dX1_goRest_10 rfl rfl cm_X1_isOver wf_172 wf_17 wf_18 rfl (Nat.le_of_ble_eq_true rfl) (Nat.le_of_ble_eq_true rfl) (Nat.le_of_ble_eq_true rfl) (Nat.le_of_ble_eq_true rfl) (s348_X1_isOver  (d + 1)  ) ?_
  rintro _ _ ⟨rfl, rfl⟩
  dsimp only [Option.toList, List.cons_append, List.nil_append]
  refine G_if_ne (pc := 13) (tgt := 38) (by decide) dX1_goRest_13 (fun z => absurd (by decide) z) (fun _ => ?_)
  refine G_iload_n (pc := 16) rfl dX1_goRest_16 ?_
  refine G_aload_n (pc := 17) rfl dX1_goRest_17 ?_
  refine G_aload_n (pc := 18) rfl dX1_goRest_18 ?_
  refine G_callV (pc := 19) (mc1 := 0) (ms1 := 0) (ci := 1) (mj := mX1_restAct) (vs := []) dX1_goRest_19 rfl rfl cm_X1_restAct wf_173 wf_66 wf_67 rfl (Nat.le_of_ble_eq_true rfl) (Nat.le_of_ble_eq_true rfl) (Nat.le_of_ble_eq_true rfl) (Nat.le_of_ble_eq_true rfl) (s349_X1_restAct  (d + 1)  ) ?_
  rintro _ _ ⟨rfl, rfl⟩
  dsimp only [Option.toList, List.cons_append, List.nil_append]
  refine G_callV (pc := 22) (mc1 := 0) (ms1 := 0) (ci := 1) (mj := mX1_tell) (vs := [_]) dX1_goRest_22 rfl rfl cm_X1_tell wf_69 wf_71 wf_72 rfl (Nat.le_of_ble_eq_true rfl) (Nat.le_of_ble_eq_true rfl) (Nat.le_of_ble_eq_true rfl) (Nat.le_of_ble_eq_true rfl) (s143_X1_tell  d  ) ?_
  rintro _ _ ⟨rfl, rfl⟩
  dsimp only [Option.toList, List.cons_append, List.nil_append]
  refine G_aload_n (pc := 25) rfl dX1_goRest_25 ?_
  refine G_callV (pc := 26) (mc1 := 0) (ms1 := 0) (ci := 1) (mj := mX1_melt) (vs := []) dX1_goRest_26 rfl rfl cm_X1_melt wf_73 wf_75 wf_76 rfl (Nat.le_of_ble_eq_true rfl) (Nat.le_of_ble_eq_true rfl) (Nat.le_of_ble_eq_true rfl) (Nat.le_of_ble_eq_true rfl) (s145_X1_melt  (d + 1)  ) ?_
  rintro _ _ ⟨rfl, rfl⟩
  dsimp only [Option.toList, List.cons_append, List.nil_append]
  refine G_iadd (pc := 29) (z := 0) (by decide) dX1_goRest_29 ?_
  refine G_iadd (pc := 30) (z := 0) (by decide) dX1_goRest_30 ?_
  refine G_istore_n (pc := 31) (L1 := [some (.ref 19), some (.int 13), some (.int 0), some (.int 0)]) rfl rfl (by decide) dX1_goRest_31 ?_
  refine G_iinc (pc := 32) (v := 1) (w := 1) (L1 := [some (.ref 19), some (.int 13), some (.int 0), some (.int 1)]) (by decide) rfl rfl (by decide) rfl (by decide) dX1_goRest_32 ?_
  refine G_goto (pc := 35) (tgt := 4) (by decide) dX1_goRest_35 ?_
  refine G_iload_n (pc := 4) rfl dX1_goRest_4 ?_
  refine G_iload_n (pc := 5) rfl dX1_goRest_5 ?_
  refine G_icmp_ge (pc := 6) (tgt := 38) (by decide) dX1_goRest_6 (fun z => absurd z (by decide)) (fun _ => ?_)
  refine G_aload_n (pc := 9) rfl dX1_goRest_9 ?_
  refine G_callV (pc := 10) (mc1 := 0) (ms1 := 0) (ci := 1) (mj := mX1_isOver) (vs := []) dX1_goRest_10 rfl rfl cm_X1_isOver wf_172 wf_17 wf_18 rfl (Nat.le_of_ble_eq_true rfl) (Nat.le_of_ble_eq_true rfl) (Nat.le_of_ble_eq_true rfl) (Nat.le_of_ble_eq_true rfl) (s153_X1_isOver  (d + 1)  ) ?_
  rintro _ _ ⟨rfl, rfl⟩
  dsimp only [Option.toList, List.cons_append, List.nil_append]
  refine G_if_ne (pc := 13) (tgt := 38) (by decide) dX1_goRest_13 (fun z => absurd (by decide) z) (fun _ => ?_)
  refine G_iload_n (pc := 16) rfl dX1_goRest_16 ?_
  refine G_aload_n (pc := 17) rfl dX1_goRest_17 ?_
  refine G_aload_n (pc := 18) rfl dX1_goRest_18 ?_
  refine G_callV (pc := 19) (mc1 := 0) (ms1 := 0) (ci := 1) (mj := mX1_restAct) (vs := []) dX1_goRest_19 rfl rfl cm_X1_restAct wf_173 wf_66 wf_67 rfl (Nat.le_of_ble_eq_true rfl) (Nat.le_of_ble_eq_true rfl) (Nat.le_of_ble_eq_true rfl) (Nat.le_of_ble_eq_true rfl) (s350_X1_restAct  (d + 1)  ) ?_
  rintro _ _ ⟨rfl, rfl⟩
  dsimp only [Option.toList, List.cons_append, List.nil_append]
  refine G_callV (pc := 22) (mc1 := 0) (ms1 := 0) (ci := 1) (mj := mX1_tell) (vs := [_]) dX1_goRest_22 rfl rfl cm_X1_tell wf_69 wf_71 wf_72 rfl (Nat.le_of_ble_eq_true rfl) (Nat.le_of_ble_eq_true rfl) (Nat.le_of_ble_eq_true rfl) (Nat.le_of_ble_eq_true rfl) (s351_X1_tell  d  ) ?_
  rintro _ _ ⟨rfl, rfl⟩
  dsimp only [Option.toList, List.cons_append, List.nil_append]
  refine G_aload_n (pc := 25) rfl dX1_goRest_25 ?_
  refine G_callV (pc := 26) (mc1 := 0) (ms1 := 0) (ci := 1) (mj := mX1_melt) (vs := []) dX1_goRest_26 rfl rfl cm_X1_melt wf_73 wf_75 wf_76 rfl (Nat.le_of_ble_eq_true rfl) (Nat.le_of_ble_eq_true rfl) (Nat.le_of_ble_eq_true rfl) (Nat.le_of_ble_eq_true rfl) (s353_X1_melt  (d + 1)  ) ?_
  rintro _ _ ⟨rfl, rfl⟩
  dsimp only [Option.toList, List.cons_append, List.nil_append]
  refine G_iadd (pc := 29) (z := 0) (by decide) dX1_goRest_29 ?_
  refine G_iadd (pc := 30) (z := 0) (by decide) dX1_goRest_30 ?_
  refine G_istore_n (pc := 31) (L1 := [some (.ref 19), some (.int 13), some (.int 0), some (.int 1)]) rfl rfl (by decide) dX1_goRest_31 ?_
  refine G_iinc (pc := 32) (v := 1) (w := 2) (L1 := [some (.ref 19), some (.int 13), some (.int 0), some (.int 2)]) (by decide) rfl rfl (by decide) rfl (by decide) dX1_goRest_32 ?_
  refine G_goto (pc := 35) (tgt := 4) (by decide) dX1_goRest_35 ?_
  refine G_iload_n (pc := 4) rfl dX1_goRest_4 ?_
  refine G_iload_n (pc := 5) rfl dX1_goRest_5 ?_
  refine G_icmp_ge (pc := 6) (tgt := 38) (by decide) dX1_goRest_6 (fun z => absurd z (by decide)) (fun _ => ?_)
  refine G_aload_n (pc := 9) rfl dX1_goRest_9 ?_
  refine G_callV (pc := 10) (mc1 := 0) (ms1 := 0) (ci := 1) (mj := mX1_isOver) (vs := []) dX1_goRest_10 rfl rfl cm_X1_isOver wf_172 wf_17 wf_18 rfl (Nat.le_of_ble_eq_true rfl) (Nat.le_of_ble_eq_true rfl) (Nat.le_of_ble_eq_true rfl) (Nat.le_of_ble_eq_true rfl) (s354_X1_isOver  (d + 1)  ) ?_
  rintro _ _ ⟨rfl, rfl⟩
  dsimp only [Option.toList, List.cons_append, List.nil_append]
  refine G_if_ne (pc := 13) (tgt := 38) (by decide) dX1_goRest_13 (fun z => absurd (by decide) z) (fun _ => ?_)
  refine G_iload_n (pc := 16) rfl dX1_goRest_16 ?_
  refine G_aload_n (pc := 17) rfl dX1_goRest_17 ?_
  refine G_aload_n (pc := 18) rfl dX1_goRest_18 ?_
  refine G_callV (pc := 19) (mc1 := 0) (ms1 := 0) (ci := 1) (mj := mX1_restAct) (vs := []) dX1_goRest_19 rfl rfl cm_X1_restAct wf_173 wf_66 wf_67 rfl (Nat.le_of_ble_eq_true rfl) (Nat.le_of_ble_eq_true rfl) (Nat.le_of_ble_eq_true rfl) (Nat.le_of_ble_eq_true rfl) (s355_X1_restAct  (d + 1)  ) ?_
  rintro _ _ ⟨rfl, rfl⟩
  dsimp only [Option.toList, List.cons_append, List.nil_append]
  refine G_callV (pc := 22) (mc1 := 0) (ms1 := 0) (ci := 1) (mj := mX1_tell) (vs := [_]) dX1_goRest_22 rfl rfl cm_X1_tell wf_69 wf_71 wf_72 rfl (Nat.le_of_ble_eq_true rfl) (Nat.le_of_ble_eq_true rfl) (Nat.le_of_ble_eq_true rfl) (Nat.le_of_ble_eq_true rfl) (s356_X1_tell  d  ) ?_
  rintro _ _ ⟨rfl, rfl⟩
  dsimp only [Option.toList, List.cons_append, List.nil_append]
  refine G_aload_n (pc := 25) rfl dX1_goRest_25 ?_
  refine G_callV (pc := 26) (mc1 := 0) (ms1 := 0) (ci := 1) (mj := mX1_melt) (vs := []) dX1_goRest_26 rfl rfl cm_X1_melt wf_73 wf_75 wf_76 rfl (Nat.le_of_ble_eq_true rfl) (Nat.le_of_ble_eq_true rfl) (Nat.le_of_ble_eq_true rfl) (Nat.le_of_ble_eq_true rfl) (s358_X1_melt  (d + 1)  ) ?_
  rintro _ _ ⟨rfl, rfl⟩
  dsimp only [Option.toList, List.cons_append, List.nil_append]
  refine G_iadd (pc := 29) (z := 0) (by decide) dX1_goRest_29 ?_
  refine G_iadd (pc := 30) (z := 0) (by decide) dX1_goRest_30 ?_
  refine G_istore_n (pc := 31) (L1 := [some (.ref 19), some (.int 13), some (.int 0), some (.int 2)]) rfl rfl (by decide) dX1_goRest_31 ?_
  refine G_iinc (pc := 32) (v := 1) (w := 3) (L1 := [some (.ref 19), some (.int 13), some (.int 0), some (.int 3)]) (by decide) rfl rfl (by decide) rfl (by decide) dX1_goRest_32 ?_
  refine G_goto (pc := 35) (tgt := 4) (by decide) dX1_goRest_35 ?_
  refine G_iload_n (pc := 4) rfl dX1_goRest_4 ?_
  refine G_iload_n (pc := 5) rfl dX1_goRest_5 ?_
  refine G_icmp_ge (pc := 6) (tgt := 38) (by decide) dX1_goRest_6 (fun z => absurd z (by decide)) (fun _ => ?_)
  refine G_aload_n (pc := 9) rfl dX1_goRest_9 ?_
  refine G_callV (pc := 10) (mc1 := 0) (ms1 := 0) (ci := 1) (mj := mX1_isOver) (vs := []) dX1_goRest_10 rfl rfl cm_X1_isOver wf_172 wf_17 wf_18 rfl (Nat.le_of_ble_eq_true rfl) (Nat.le_of_ble_eq_true rfl) (Nat.le_of_ble_eq_true rfl) (Nat.le_of_ble_eq_true rfl) (s359_X1_isOver  (d + 1)  ) ?_
  rintro _ _ ⟨rfl, rfl⟩
  dsimp only [Option.toList, List.cons_append, List.nil_append]
  refine G_if_ne (pc := 13) (tgt := 38) (by decide) dX1_goRest_13 (fun z => absurd (by decide) z) (fun _ => ?_)
  refine G_iload_n (pc := 16) rfl dX1_goRest_16 ?_
  refine G_aload_n (pc := 17) rfl dX1_goRest_17 ?_
  refine G_aload_n (pc := 18) rfl dX1_goRest_18 ?_
  refine G_callV (pc := 19) (mc1 := 0) (ms1 := 0) (ci := 1) (mj := mX1_restAct) (vs := []) dX1_goRest_19 rfl rfl cm_X1_restAct wf_173 wf_66 wf_67 rfl (Nat.le_of_ble_eq_true rfl) (Nat.le_of_ble_eq_true rfl) (Nat.le_of_ble_eq_true rfl) (Nat.le_of_ble_eq_true rfl) (s360_X1_restAct  (d + 1)  ) ?_
  rintro _ _ ⟨rfl, rfl⟩
  dsimp only [Option.toList, List.cons_append, List.nil_append]
  refine G_callV (pc := 22) (mc1 := 0) (ms1 := 0) (ci := 1) (mj := mX1_tell) (vs := [_]) dX1_goRest_22 rfl rfl cm_X1_tell wf_69 wf_71 wf_72 rfl (Nat.le_of_ble_eq_true rfl) (Nat.le_of_ble_eq_true rfl) (Nat.le_of_ble_eq_true rfl) (Nat.le_of_ble_eq_true rfl) (s361_X1_tell  d  ) ?_
  rintro _ _ ⟨rfl, rfl⟩
  dsimp only [Option.toList, List.cons_append, List.nil_append]
  refine G_aload_n (pc := 25) rfl dX1_goRest_25 ?_
  refine G_callV (pc := 26) (mc1 := 0) (ms1 := 0) (ci := 1) (mj := mX1_melt) (vs := []) dX1_goRest_26 rfl rfl cm_X1_melt wf_73 wf_75 wf_76 rfl (Nat.le_of_ble_eq_true rfl) (Nat.le_of_ble_eq_true rfl) (Nat.le_of_ble_eq_true rfl) (Nat.le_of_ble_eq_true rfl) (s363_X1_melt  (d + 1)  ) ?_
  rintro _ _ ⟨rfl, rfl⟩
  dsimp only [Option.toList, List.cons_append, List.nil_append]
  refine G_iadd (pc := 29) (z := 0) (by decide) dX1_goRest_29 ?_
  refine G_iadd (pc := 30) (z := 0) (by decide) dX1_goRest_30 ?_
  refine G_istore_n (pc := 31) (L1 := [some (.ref 19), some (.int 13), some (.int 0), some (.int 3)]) rfl rfl (by decide) dX1_goRest_31 ?_
  refine G_iinc (pc := 32) (v := 1) (w := 4) (L1 := [some (.ref 19), some (.int 13), some (.int 0), some (.int 4)]) (by decide) rfl rfl (by decide) rfl (by decide) dX1_goRest_32 ?_
  refine G_goto (pc := 35) (tgt := 4) (by decide) dX1_goRest_35 ?_
  refine G_iload_n (pc := 4) rfl dX1_goRest_4 ?_
  refine G_iload_n (pc := 5) rfl dX1_goRest_5 ?_
  refine G_icmp_ge (pc := 6) (tgt := 38) (by decide) dX1_goRest_6 (fun z => absurd z (by decide)) (fun _ => ?_)
  refine G_aload_n (pc := 9) rfl dX1_goRest_9 ?_
  refine G_callV (pc := 10) (mc1 := 0) (ms1 := 0) (ci := 1) (mj := mX1_isOver) (vs := []) dX1_goRest_10 rfl rfl cm_X1_isOver wf_172 wf_17 wf_18 rfl (Nat.le_of_ble_eq_true rfl) (Nat.le_of_ble_eq_true rfl) (Nat.le_of_ble_eq_true rfl) (Nat.le_of_ble_eq_true rfl) (s364_X1_isOver  (d + 1)  ) ?_
  rintro _ _ ⟨rfl, rfl⟩
  dsimp only [Option.toList, List.cons_append, List.nil_append]
  refine G_if_ne (pc := 13) (tgt := 38) (by decide) dX1_goRest_13 (fun z => absurd (by decide) z) (fun _ => ?_)
  refine G_iload_n (pc := 16) rfl dX1_goRest_16 ?_
  refine G_aload_n (pc := 17) rfl dX1_goRest_17 ?_
  refine G_aload_n (pc := 18) rfl dX1_goRest_18 ?_
  refine G_callV (pc := 19) (mc1 := 0) (ms1 := 0) (ci := 1) (mj := mX1_restAct) (vs := []) dX1_goRest_19 rfl rfl cm_X1_restAct wf_173 wf_66 wf_67 rfl (Nat.le_of_ble_eq_true rfl) (Nat.le_of_ble_eq_true rfl) (Nat.le_of_ble_eq_true rfl) (Nat.le_of_ble_eq_true rfl) (s365_X1_restAct  (d + 1)  ) ?_
  rintro _ _ ⟨rfl, rfl⟩
  dsimp only [Option.toList, List.cons_append, List.nil_append]
  refine G_callV (pc := 22) (mc1 := 0) (ms1 := 0) (ci := 1) (mj := mX1_tell) (vs := [_]) dX1_goRest_22 rfl rfl cm_X1_tell wf_69 wf_71 wf_72 rfl (Nat.le_of_ble_eq_true rfl) (Nat.le_of_ble_eq_true rfl) (Nat.le_of_ble_eq_true rfl) (Nat.le_of_ble_eq_true rfl) (s366_X1_tell  d  ) ?_
  rintro _ _ ⟨rfl, rfl⟩
  dsimp only [Option.toList, List.cons_append, List.nil_append]
  refine G_aload_n (pc := 25) rfl dX1_goRest_25 ?_
  refine G_callV (pc := 26) (mc1 := 0) (ms1 := 0) (ci := 1) (mj := mX1_melt) (vs := []) dX1_goRest_26 rfl rfl cm_X1_melt wf_73 wf_75 wf_76 rfl (Nat.le_of_ble_eq_true rfl) (Nat.le_of_ble_eq_true rfl) (Nat.le_of_ble_eq_true rfl) (Nat.le_of_ble_eq_true rfl) (s368_X1_melt  (d + 1)  ) ?_
  rintro _ _ ⟨rfl, rfl⟩
  dsimp only [Option.toList, List.cons_append, List.nil_append]
  refine G_iadd (pc := 29) (z := 0) (by decide) dX1_goRest_29 ?_
  refine G_iadd (pc := 30) (z := 0) (by decide) dX1_goRest_30 ?_
  refine G_istore_n (pc := 31) (L1 := [some (.ref 19), some (.int 13), some (.int 0), some (.int 4)]) rfl rfl (by decide) dX1_goRest_31 ?_
  refine G_iinc (pc := 32) (v := 1) (w := 5) (L1 := [some (.ref 19), some (.int 13), some (.int 0), some (.int 5)]) (by decide) rfl rfl (by decide) rfl (by decide) dX1_goRest_32 ?_
  refine G_goto (pc := 35) (tgt := 4) (by decide) dX1_goRest_35 ?_
  refine G_iload_n (pc := 4) rfl dX1_goRest_4 ?_
  refine G_iload_n (pc := 5) rfl dX1_goRest_5 ?_
  refine G_icmp_ge (pc := 6) (tgt := 38) (by decide) dX1_goRest_6 (fun z => absurd z (by decide)) (fun _ => ?_)
  refine G_aload_n (pc := 9) rfl dX1_goRest_9 ?_
  refine G_callV (pc := 10) (mc1 := 0) (ms1 := 0) (ci := 1) (mj := mX1_isOver) (vs := []) dX1_goRest_10 rfl rfl cm_X1_isOver wf_172 wf_17 wf_18 rfl (Nat.le_of_ble_eq_true rfl) (Nat.le_of_ble_eq_true rfl) (Nat.le_of_ble_eq_true rfl) (Nat.le_of_ble_eq_true rfl) (s369_X1_isOver  (d + 1)  ) ?_
  rintro _ _ ⟨rfl, rfl⟩
  dsimp only [Option.toList, List.cons_append, List.nil_append]
  refine G_if_ne (pc := 13) (tgt := 38) (by decide) dX1_goRest_13 (fun z => absurd (by decide) z) (fun _ => ?_)
  refine G_iload_n (pc := 16) rfl dX1_goRest_16 ?_
  refine G_aload_n (pc := 17) rfl dX1_goRest_17 ?_
  refine G_aload_n (pc := 18) rfl dX1_goRest_18 ?_
  refine G_callV (pc := 19) (mc1 := 0) (ms1 := 0) (ci := 1) (mj := mX1_restAct) (vs := []) dX1_goRest_19 rfl rfl cm_X1_restAct wf_173 wf_66 wf_67 rfl (Nat.le_of_ble_eq_true rfl) (Nat.le_of_ble_eq_true rfl) (Nat.le_of_ble_eq_true rfl) (Nat.le_of_ble_eq_true rfl) (s370_X1_restAct  (d + 1)  ) ?_
  rintro _ _ ⟨rfl, rfl⟩
  dsimp only [Option.toList, List.cons_append, List.nil_append]
  refine G_callV (pc := 22) (mc1 := 0) (ms1 := 0) (ci := 1) (mj := mX1_tell) (vs := [_]) dX1_goRest_22 rfl rfl cm_X1_tell wf_69 wf_71 wf_72 rfl (Nat.le_of_ble_eq_true rfl) (Nat.le_of_ble_eq_true rfl) (Nat.le_of_ble_eq_true rfl) (Nat.le_of_ble_eq_true rfl) (s371_X1_tell  d  ) ?_
  rintro _ _ ⟨rfl, rfl⟩
  dsimp only [Option.toList, List.cons_append, List.nil_append]
  refine G_aload_n (pc := 25) rfl dX1_goRest_25 ?_
  refine G_callV (pc := 26) (mc1 := 0) (ms1 := 0) (ci := 1) (mj := mX1_melt) (vs := []) dX1_goRest_26 rfl rfl cm_X1_melt wf_73 wf_75 wf_76 rfl (Nat.le_of_ble_eq_true rfl) (Nat.le_of_ble_eq_true rfl) (Nat.le_of_ble_eq_true rfl) (Nat.le_of_ble_eq_true rfl) (s373_X1_melt  (d + 1)  ) ?_
  rintro _ _ ⟨rfl, rfl⟩
  dsimp only [Option.toList, List.cons_append, List.nil_append]
  refine G_iadd (pc := 29) (z := 0) (by decide) dX1_goRest_29 ?_
  refine G_iadd (pc := 30) (z := 0) (by decide) dX1_goRest_30 ?_
  refine G_istore_n (pc := 31) (L1 := [some (.ref 19), some (.int 13), some (.int 0), some (.int 5)]) rfl rfl (by decide) dX1_goRest_31 ?_
  refine G_iinc (pc := 32) (v := 1) (w := 6) (L1 := [some (.ref 19), some (.int 13), some (.int 0), some (.int 6)]) (by decide) rfl rfl (by decide) rfl (by decide) dX1_goRest_32 ?_
  refine G_goto (pc := 35) (tgt := 4) (by decide) dX1_goRest_35 ?_
  refine G_iload_n (pc := 4) rfl dX1_goRest_4 ?_
  refine G_iload_n (pc := 5) rfl dX1_goRest_5 ?_
  refine G_icmp_ge (pc := 6) (tgt := 38) (by decide) dX1_goRest_6 (fun z => absurd z (by decide)) (fun _ => ?_)
  refine G_aload_n (pc := 9) rfl dX1_goRest_9 ?_
  refine G_callV (pc := 10) (mc1 := 0) (ms1 := 0) (ci := 1) (mj := mX1_isOver) (vs := []) dX1_goRest_10 rfl rfl cm_X1_isOver wf_172 wf_17 wf_18 rfl (Nat.le_of_ble_eq_true rfl) (Nat.le_of_ble_eq_true rfl) (Nat.le_of_ble_eq_true rfl) (Nat.le_of_ble_eq_true rfl) (s374_X1_isOver  (d + 1)  ) ?_
  rintro _ _ ⟨rfl, rfl⟩
  dsimp only [Option.toList, List.cons_append, List.nil_append]
  refine G_if_ne (pc := 13) (tgt := 38) (by decide) dX1_goRest_13 (fun z => absurd (by decide) z) (fun _ => ?_)
  refine G_iload_n (pc := 16) rfl dX1_goRest_16 ?_
  refine G_aload_n (pc := 17) rfl dX1_goRest_17 ?_
  refine G_aload_n (pc := 18) rfl dX1_goRest_18 ?_
  refine G_callV (pc := 19) (mc1 := 0) (ms1 := 0) (ci := 1) (mj := mX1_restAct) (vs := []) dX1_goRest_19 rfl rfl cm_X1_restAct wf_173 wf_66 wf_67 rfl (Nat.le_of_ble_eq_true rfl) (Nat.le_of_ble_eq_true rfl) (Nat.le_of_ble_eq_true rfl) (Nat.le_of_ble_eq_true rfl) (s375_X1_restAct  (d + 1)  ) ?_
  rintro _ _ ⟨rfl, rfl⟩
  dsimp only [Option.toList, List.cons_append, List.nil_append]
  refine G_callV (pc := 22) (mc1 := 0) (ms1 := 0) (ci := 1) (mj := mX1_tell) (vs := [_]) dX1_goRest_22 rfl rfl cm_X1_tell wf_69 wf_71 wf_72 rfl (Nat.le_of_ble_eq_true rfl) (Nat.le_of_ble_eq_true rfl) (Nat.le_of_ble_eq_true rfl) (Nat.le_of_ble_eq_true rfl) (s376_X1_tell  d  ) ?_
  rintro _ _ ⟨rfl, rfl⟩
  dsimp only [Option.toList, List.cons_append, List.nil_append]
  refine G_aload_n (pc := 25) rfl dX1_goRest_25 ?_
  refine G_callV (pc := 26) (mc1 := 0) (ms1 := 0) (ci := 1) (mj := mX1_melt) (vs := []) dX1_goRest_26 rfl rfl cm_X1_melt wf_73 wf_75 wf_76 rfl (Nat.le_of_ble_eq_true rfl) (Nat.le_of_ble_eq_true rfl) (Nat.le_of_ble_eq_true rfl) (Nat.le_of_ble_eq_true rfl) (s378_X1_melt  (d + 1)  ) ?_
  rintro _ _ ⟨rfl, rfl⟩
  dsimp only [Option.toList, List.cons_append, List.nil_append]
  refine G_iadd (pc := 29) (z := 0) (by decide) dX1_goRest_29 ?_
  refine G_iadd (pc := 30) (z := 0) (by decide) dX1_goRest_30 ?_
  refine G_istore_n (pc := 31) (L1 := [some (.ref 19), some (.int 13), some (.int 0), some (.int 6)]) rfl rfl (by decide) dX1_goRest_31 ?_
  refine G_iinc (pc := 32) (v := 1) (w := 7) (L1 := [some (.ref 19), some (.int 13), some (.int 0), some (.int 7)]) (by decide) rfl rfl (by decide) rfl (by decide) dX1_goRest_32 ?_
  refine G_goto (pc := 35) (tgt := 4) (by decide) dX1_goRest_35 ?_
  refine G_iload_n (pc := 4) rfl dX1_goRest_4 ?_
  refine G_iload_n (pc := 5) rfl dX1_goRest_5 ?_
  refine G_icmp_ge (pc := 6) (tgt := 38) (by decide) dX1_goRest_6 (fun z => absurd z (by decide)) (fun _ => ?_)
  refine G_aload_n (pc := 9) rfl dX1_goRest_9 ?_
  refine G_callV (pc := 10) (mc1 := 0) (ms1 := 0) (ci := 1) (mj := mX1_isOver) (vs := []) dX1_goRest_10 rfl rfl cm_X1_isOver wf_172 wf_17 wf_18 rfl (Nat.le_of_ble_eq_true rfl) (Nat.le_of_ble_eq_true rfl) (Nat.le_of_ble_eq_true rfl) (Nat.le_of_ble_eq_true rfl) (s379_X1_isOver  (d + 1)  ) ?_
  rintro _ _ ⟨rfl, rfl⟩
  dsimp only [Option.toList, List.cons_append, List.nil_append]
  refine G_if_ne (pc := 13) (tgt := 38) (by decide) dX1_goRest_13 (fun z => absurd (by decide) z) (fun _ => ?_)
  refine G_iload_n (pc := 16) rfl dX1_goRest_16 ?_
  refine G_aload_n (pc := 17) rfl dX1_goRest_17 ?_
  refine G_aload_n (pc := 18) rfl dX1_goRest_18 ?_
  refine G_callV (pc := 19) (mc1 := 0) (ms1 := 0) (ci := 1) (mj := mX1_restAct) (vs := []) dX1_goRest_19 rfl rfl cm_X1_restAct wf_173 wf_66 wf_67 rfl (Nat.le_of_ble_eq_true rfl) (Nat.le_of_ble_eq_true rfl) (Nat.le_of_ble_eq_true rfl) (Nat.le_of_ble_eq_true rfl) (s380_X1_restAct  (d + 1)  ) ?_
  rintro _ _ ⟨rfl, rfl⟩
  dsimp only [Option.toList, List.cons_append, List.nil_append]
  refine G_callV (pc := 22) (mc1 := 0) (ms1 := 0) (ci := 1) (mj := mX1_tell) (vs := [_]) dX1_goRest_22 rfl rfl cm_X1_tell wf_69 wf_71 wf_72 rfl (Nat.le_of_ble_eq_true rfl) (Nat.le_of_ble_eq_true rfl) (Nat.le_of_ble_eq_true rfl) (Nat.le_of_ble_eq_true rfl) (s381_X1_tell  d  ) ?_
  rintro _ _ ⟨rfl, rfl⟩
  dsimp only [Option.toList, List.cons_append, List.nil_append]
  refine G_aload_n (pc := 25) rfl dX1_goRest_25 ?_
  refine G_callV (pc := 26) (mc1 := 0) (ms1 := 0) (ci := 1) (mj := mX1_melt) (vs := []) dX1_goRest_26 rfl rfl cm_X1_melt wf_73 wf_75 wf_76 rfl (Nat.le_of_ble_eq_true rfl) (Nat.le_of_ble_eq_true rfl) (Nat.le_of_ble_eq_true rfl) (Nat.le_of_ble_eq_true rfl) (s383_X1_melt  (d + 1)  ) ?_
  rintro _ _ ⟨rfl, rfl⟩
  dsimp only [Option.toList, List.cons_append, List.nil_append]
  refine G_iadd (pc := 29) (z := 0) (by decide) dX1_goRest_29 ?_
  refine G_iadd (pc := 30) (z := 0) (by decide) dX1_goRest_30 ?_
  refine G_istore_n (pc := 31) (L1 := [some (.ref 19), some (.int 13), some (.int 0), some (.int 7)]) rfl rfl (by decide) dX1_goRest_31 ?_
  refine G_iinc (pc := 32) (v := 1) (w := 8) (L1 := [some (.ref 19), some (.int 13), some (.int 0), some (.int 8)]) (by decide) rfl rfl (by decide) rfl (by decide) dX1_goRest_32 ?_
  refine G_goto (pc := 35) (tgt := 4) (by decide) dX1_goRest_35 ?_
  refine G_iload_n (pc := 4) rfl dX1_goRest_4 ?_
  refine G_iload_n (pc := 5) rfl dX1_goRest_5 ?_
  refine G_icmp_ge (pc := 6) (tgt := 38) (by decide) dX1_goRest_6 (fun z => absurd z (by decide)) (fun _ => ?_)
  refine G_aload_n (pc := 9) rfl dX1_goRest_9 ?_
  refine G_callV (pc := 10) (mc1 := 0) (ms1 := 0) (ci := 1) (mj := mX1_isOver) (vs := []) dX1_goRest_10 rfl rfl cm_X1_isOver wf_172 wf_17 wf_18 rfl (Nat.le_of_ble_eq_true rfl) (Nat.le_of_ble_eq_true rfl) (Nat.le_of_ble_eq_true rfl) (Nat.le_of_ble_eq_true rfl) (s384_X1_isOver  (d + 1)  ) ?_
  rintro _ _ ⟨rfl, rfl⟩
  dsimp only [Option.toList, List.cons_append, List.nil_append]
  refine G_if_ne (pc := 13) (tgt := 38) (by decide) dX1_goRest_13 (fun z => absurd (by decide) z) (fun _ => ?_)
  refine G_iload_n (pc := 16) rfl dX1_goRest_16 ?_
  refine G_aload_n (pc := 17) rfl dX1_goRest_17 ?_
  refine G_aload_n (pc := 18) rfl dX1_goRest_18 ?_
  refine G_callV (pc := 19) (mc1 := 0) (ms1 := 0) (ci := 1) (mj := mX1_restAct) (vs := []) dX1_goRest_19 rfl rfl cm_X1_restAct wf_173 wf_66 wf_67 rfl (Nat.le_of_ble_eq_true rfl) (Nat.le_of_ble_eq_true rfl) (Nat.le_of_ble_eq_true rfl) (Nat.le_of_ble_eq_true rfl) (s385_X1_restAct  (d + 1)  ) ?_
  rintro _ _ ⟨rfl, rfl⟩
  dsimp only [Option.toList, List.cons_append, List.nil_append]
  refine G_callV (pc := 22) (mc1 := 0) (ms1 := 0) (ci := 1) (mj := mX1_tell) (vs := [_]) dX1_goRest_22 rfl rfl cm_X1_tell wf_69 wf_71 wf_72 rfl (Nat.le_of_ble_eq_true rfl) (Nat.le_of_ble_eq_true rfl) (Nat.le_of_ble_eq_true rfl) (Nat.le_of_ble_eq_true rfl) (s386_X1_tell  d  ) ?_
  rintro _ _ ⟨rfl, rfl⟩
  dsimp only [Option.toList, List.cons_append, List.nil_append]
  refine G_aload_n (pc := 25) rfl dX1_goRest_25 ?_
  refine G_callV (pc := 26) (mc1 := 0) (ms1 := 0) (ci := 1) (mj := mX1_melt) (vs := []) dX1_goRest_26 rfl rfl cm_X1_melt wf_73 wf_75 wf_76 rfl (Nat.le_of_ble_eq_true rfl) (Nat.le_of_ble_eq_true rfl) (Nat.le_of_ble_eq_true rfl) (Nat.le_of_ble_eq_true rfl) (s388_X1_melt  (d + 1)  ) ?_
  rintro _ _ ⟨rfl, rfl⟩
  dsimp only [Option.toList, List.cons_append, List.nil_append]
  refine G_iadd (pc := 29) (z := 0) (by decide) dX1_goRest_29 ?_
  refine G_iadd (pc := 30) (z := 0) (by decide) dX1_goRest_30 ?_
  refine G_istore_n (pc := 31) (L1 := [some (.ref 19), some (.int 13), some (.int 0), some (.int 8)]) rfl rfl (by decide) dX1_goRest_31 ?_
  refine G_iinc (pc := 32) (v := 1) (w := 9) (L1 := [some (.ref 19), some (.int 13), some (.int 0), some (.int 9)]) (by decide) rfl rfl (by decide) rfl (by decide) dX1_goRest_32 ?_
  refine G_goto (pc := 35) (tgt := 4) (by decide) dX1_goRest_35 ?_
  refine G_iload_n (pc := 4) rfl dX1_goRest_4 ?_
  refine G_iload_n (pc := 5) rfl dX1_goRest_5 ?_
  refine G_icmp_ge (pc := 6) (tgt := 38) (by decide) dX1_goRest_6 (fun z => absurd z (by decide)) (fun _ => ?_)
  refine G_aload_n (pc := 9) rfl dX1_goRest_9 ?_
  refine G_callV (pc := 10) (mc1 := 0) (ms1 := 0) (ci := 1) (mj := mX1_isOver) (vs := []) dX1_goRest_10 rfl rfl cm_X1_isOver wf_172 wf_17 wf_18 rfl (Nat.le_of_ble_eq_true rfl) (Nat.le_of_ble_eq_true rfl) (Nat.le_of_ble_eq_true rfl) (Nat.le_of_ble_eq_true rfl) (s389_X1_isOver  (d + 1)  ) ?_
  rintro _ _ ⟨rfl, rfl⟩
  dsimp only [Option.toList, List.cons_append, List.nil_append]
  refine G_if_ne (pc := 13) (tgt := 38) (by decide) dX1_goRest_13 (fun z => absurd (by decide) z) (fun _ => ?_)
  refine G_iload_n (pc := 16) rfl dX1_goRest_16 ?_
  refine G_aload_n (pc := 17) rfl dX1_goRest_17 ?_
  refine G_aload_n (pc := 18) rfl dX1_goRest_18 ?_
  refine G_callV (pc := 19) (mc1 := 0) (ms1 := 0) (ci := 1) (mj := mX1_restAct) (vs := []) dX1_goRest_19 rfl rfl cm_X1_restAct wf_173 wf_66 wf_67 rfl (Nat.le_of_ble_eq_true rfl) (Nat.le_of_ble_eq_true rfl) (Nat.le_of_ble_eq_true rfl) (Nat.le_of_ble_eq_true rfl) (s390_X1_restAct  (d + 1)  ) ?_
  rintro _ _ ⟨rfl, rfl⟩
  dsimp only [Option.toList, List.cons_append, List.nil_append]
  refine G_callV (pc := 22) (mc1 := 0) (ms1 := 0) (ci := 1) (mj := mX1_tell) (vs := [_]) dX1_goRest_22 rfl rfl cm_X1_tell wf_69 wf_71 wf_72 rfl (Nat.le_of_ble_eq_true rfl) (Nat.le_of_ble_eq_true rfl) (Nat.le_of_ble_eq_true rfl) (Nat.le_of_ble_eq_true rfl) (s391_X1_tell  d  ) ?_
  rintro _ _ ⟨rfl, rfl⟩
  dsimp only [Option.toList, List.cons_append, List.nil_append]
  refine G_aload_n (pc := 25) rfl dX1_goRest_25 ?_
  refine G_callV (pc := 26) (mc1 := 0) (ms1 := 0) (ci := 1) (mj := mX1_melt) (vs := []) dX1_goRest_26 rfl rfl cm_X1_melt wf_73 wf_75 wf_76 rfl (Nat.le_of_ble_eq_true rfl) (Nat.le_of_ble_eq_true rfl) (Nat.le_of_ble_eq_true rfl) (Nat.le_of_ble_eq_true rfl) (s393_X1_melt  (d + 1)  ) ?_
  rintro _ _ ⟨rfl, rfl⟩
  dsimp only [Option.toList, List.cons_append, List.nil_append]
  refine G_iadd (pc := 29) (z := 0) (by decide) dX1_goRest_29 ?_
  refine G_iadd (pc := 30) (z := 0) (by decide) dX1_goRest_30 ?_
  refine G_istore_n (pc := 31) (L1 := [some (.ref 19), some (.int 13), some (.int 0), some (.int 9)]) rfl rfl (by decide) dX1_goRest_31 ?_
  refine G_iinc (pc := 32) (v := 1) (w := 10) (L1 := [some (.ref 19), some (.int 13), some (.int 0), some (.int 10)]) (by decide) rfl rfl (by decide) rfl (by decide) dX1_goRest_32 ?_
  refine G_goto (pc := 35) (tgt := 4) (by decide) dX1_goRest_35 ?_
  refine G_iload_n (pc := 4) rfl dX1_goRest_4 ?_
  refine G_iload_n (pc := 5) rfl dX1_goRest_5 ?_
  refine G_icmp_ge (pc := 6) (tgt := 38) (by decide) dX1_goRest_6 (fun z => absurd z (by decide)) (fun _ => ?_)
  refine G_aload_n (pc := 9) rfl dX1_goRest_9 ?_
  refine G_callV (pc := 10) (mc1 := 0) (ms1 := 0) (ci := 1) (mj := mX1_isOver) (vs := []) dX1_goRest_10 rfl rfl cm_X1_isOver wf_172 wf_17 wf_18 rfl (Nat.le_of_ble_eq_true rfl) (Nat.le_of_ble_eq_true rfl) (Nat.le_of_ble_eq_true rfl) (Nat.le_of_ble_eq_true rfl) (s394_X1_isOver  (d + 1)  ) ?_
  rintro _ _ ⟨rfl, rfl⟩
  dsimp only [Option.toList, List.cons_append, List.nil_append]
  refine G_if_ne (pc := 13) (tgt := 38) (by decide) dX1_goRest_13 (fun z => absurd (by decide) z) (fun _ => ?_)
  refine G_iload_n (pc := 16) rfl dX1_goRest_16 ?_
  refine G_aload_n (pc := 17) rfl dX1_goRest_17 ?_
  refine G_aload_n (pc := 18) rfl dX1_goRest_18 ?_
  refine G_callV (pc := 19) (mc1 := 0) (ms1 := 0) (ci := 1) (mj := mX1_restAct) (vs := []) dX1_goRest_19 rfl rfl cm_X1_restAct wf_173 wf_66 wf_67 rfl (Nat.le_of_ble_eq_true rfl) (Nat.le_of_ble_eq_true rfl) (Nat.le_of_ble_eq_true rfl) (Nat.le_of_ble_eq_true rfl) (s395_X1_restAct  (d + 1)  ) ?_
  rintro _ _ ⟨rfl, rfl⟩
  dsimp only [Option.toList, List.cons_append, List.nil_append]
  refine G_callV (pc := 22) (mc1 := 0) (ms1 := 0) (ci := 1) (mj := mX1_tell) (vs := [_]) dX1_goRest_22 rfl rfl cm_X1_tell wf_69 wf_71 wf_72 rfl (Nat.le_of_ble_eq_true rfl) (Nat.le_of_ble_eq_true rfl) (Nat.le_of_ble_eq_true rfl) (Nat.le_of_ble_eq_true rfl) (s396_X1_tell  d  ) ?_
  rintro _ _ ⟨rfl, rfl⟩
  dsimp only [Option.toList, List.cons_append, List.nil_append]
  refine G_aload_n (pc := 25) rfl dX1_goRest_25 ?_
  refine G_callV (pc := 26) (mc1 := 0) (ms1 := 0) (ci := 1) (mj := mX1_melt) (vs := []) dX1_goRest_26 rfl rfl cm_X1_melt wf_73 wf_75 wf_76 rfl (Nat.le_of_ble_eq_true rfl) (Nat.le_of_ble_eq_true rfl) (Nat.le_of_ble_eq_true rfl) (Nat.le_of_ble_eq_true rfl) (s398_X1_melt  (d + 1)  ) ?_
  rintro _ _ ⟨rfl, rfl⟩
  dsimp only [Option.toList, List.cons_append, List.nil_append]
  refine G_iadd (pc := 29) (z := 0) (by decide) dX1_goRest_29 ?_
  refine G_iadd (pc := 30) (z := 0) (by decide) dX1_goRest_30 ?_
  refine G_istore_n (pc := 31) (L1 := [some (.ref 19), some (.int 13), some (.int 0), some (.int 10)]) rfl rfl (by decide) dX1_goRest_31 ?_
  refine G_iinc (pc := 32) (v := 1) (w := 11) (L1 := [some (.ref 19), some (.int 13), some (.int 0), some (.int 11)]) (by decide) rfl rfl (by decide) rfl (by decide) dX1_goRest_32 ?_
  refine G_goto (pc := 35) (tgt := 4) (by decide) dX1_goRest_35 ?_
  refine G_iload_n (pc := 4) rfl dX1_goRest_4 ?_
  refine G_iload_n (pc := 5) rfl dX1_goRest_5 ?_
  refine G_icmp_ge (pc := 6) (tgt := 38) (by decide) dX1_goRest_6 (fun z => absurd z (by decide)) (fun _ => ?_)
  refine G_aload_n (pc := 9) rfl dX1_goRest_9 ?_
  refine G_callV (pc := 10) (mc1 := 0) (ms1 := 0) (ci := 1) (mj := mX1_isOver) (vs := []) dX1_goRest_10 rfl rfl cm_X1_isOver wf_172 wf_17 wf_18 rfl (Nat.le_of_ble_eq_true rfl) (Nat.le_of_ble_eq_true rfl) (Nat.le_of_ble_eq_true rfl) (Nat.le_of_ble_eq_true rfl) (s399_X1_isOver  (d + 1)  ) ?_
  rintro _ _ ⟨rfl, rfl⟩
  dsimp only [Option.toList, List.cons_append, List.nil_append]
  refine G_if_ne (pc := 13) (tgt := 38) (by decide) dX1_goRest_13 (fun z => absurd (by decide) z) (fun _ => ?_)
  refine G_iload_n (pc := 16) rfl dX1_goRest_16 ?_
  refine G_aload_n (pc := 17) rfl dX1_goRest_17 ?_
  refine G_aload_n (pc := 18) rfl dX1_goRest_18 ?_
  refine G_callV (pc := 19) (mc1 := 0) (ms1 := 0) (ci := 1) (mj := mX1_restAct) (vs := []) dX1_goRest_19 rfl rfl cm_X1_restAct wf_173 wf_66 wf_67 rfl (Nat.le_of_ble_eq_true rfl) (Nat.le_of_ble_eq_true rfl) (Nat.le_of_ble_eq_true rfl) (Nat.le_of_ble_eq_true rfl) (s400_X1_restAct  (d + 1)  ) ?_
  rintro _ _ ⟨rfl, rfl⟩
  dsimp only [Option.toList, List.cons_append, List.nil_append]
  refine G_callV (pc := 22) (mc1 := 0) (ms1 := 0) (ci := 1) (mj := mX1_tell) (vs := [_]) dX1_goRest_22 rfl rfl cm_X1_tell wf_69 wf_71 wf_72 rfl (Nat.le_of_ble_eq_true rfl) (Nat.le_of_ble_eq_true rfl) (Nat.le_of_ble_eq_true rfl) (Nat.le_of_ble_eq_true rfl) (s401_X1_tell  d  ) ?_
  rintro _ _ ⟨rfl, rfl⟩
  dsimp only [Option.toList, List.cons_append, List.nil_append]
  refine G_aload_n (pc := 25) rfl dX1_goRest_25 ?_
  refine G_callV (pc := 26) (mc1 := 0) (ms1 := 0) (ci := 1) (mj := mX1_melt) (vs := []) dX1_goRest_26 rfl rfl cm_X1_melt wf_73 wf_75 wf_76 rfl (Nat.le_of_ble_eq_true rfl) (Nat.le_of_ble_eq_true rfl) (Nat.le_of_ble_eq_true rfl) (Nat.le_of_ble_eq_true rfl) (s403_X1_melt  (d + 1)  ) ?_
  rintro _ _ ⟨rfl, rfl⟩
  dsimp only [Option.toList, List.cons_append, List.nil_append]
  refine G_iadd (pc := 29) (z := 0) (by decide) dX1_goRest_29 ?_
  refine G_iadd (pc := 30) (z := 0) (by decide) dX1_goRest_30 ?_
  refine G_istore_n (pc := 31) (L1 := [some (.ref 19), some (.int 13), some (.int 0), some (.int 11)]) rfl rfl (by decide) dX1_goRest_31 ?_
  refine G_iinc (pc := 32) (v := 1) (w := 12) (L1 := [some (.ref 19), some (.int 13), some (.int 0), some (.int 12)]) (by decide) rfl rfl (by decide) rfl (by decide) dX1_goRest_32 ?_
  refine G_goto (pc := 35) (tgt := 4) (by decide) dX1_goRest_35 ?_
  refine G_iload_n (pc := 4) rfl dX1_goRest_4 ?_
  refine G_iload_n (pc := 5) rfl dX1_goRest_5 ?_
  refine G_icmp_ge (pc := 6) (tgt := 38) (by decide) dX1_goRest_6 (fun z => absurd z (by decide)) (fun _ => ?_)
  refine G_aload_n (pc := 9) rfl dX1_goRest_9 ?_
  refine G_callV (pc := 10) (mc1 := 0) (ms1 := 0) (ci := 1) (mj := mX1_isOver) (vs := []) dX1_goRest_10 rfl rfl cm_X1_isOver wf_172 wf_17 wf_18 rfl (Nat.le_of_ble_eq_true rfl) (Nat.le_of_ble_eq_true rfl) (Nat.le_of_ble_eq_true rfl) (Nat.le_of_ble_eq_true rfl) (s404_X1_isOver  (d + 1)  ) ?_
  rintro _ _ ⟨rfl, rfl⟩
  dsimp only [Option.toList, List.cons_append, List.nil_append]
  refine G_if_ne (pc := 13) (tgt := 38) (by decide) dX1_goRest_13 (fun _ => ?_) (fun z => absurd z (by decide))
  refine G_iload_n (pc := 38) rfl dX1_goRest_38 ?_
  exact G_iret (pc := 39) (Nat.le_of_ble_eq_true rfl) (Nat.le_of_ble_eq_true rfl) rfl dX1_goRest_39 ⟨rfl, rfl⟩
set_option maxRecDepth 100000 in
set_option maxHeartbeats 4000000 in
theorem s430_X1_goRest  (d : Nat)   : G (d + 2) mX1_goRest 0 0 0 0 0 (gent 4 [.ref 19, .int 14]) [] SH0 RF0 (gup (gup (gcp I0 24 34 (0 : Int32).toNatClampNeg (0 : Int32).toNatClampNeg (6 : Int32).toNatClampNeg) 34 6 0) 34 7 0) (fun r h => r = some (.int 0) ∧ h = (SH0, RF0, (gup (gup (gup (gup (gup (gup (gup (gup (gup (gup (gup (gup (gup (gup (gcp I0 24 34 (0 : Int32).toNatClampNeg (0 : Int32).toNatClampNeg (6 : Int32).toNatClampNeg) 34 6 0) 34 7 0) 19 1 1) 19 1 2) 19 1 3) 19 1 4) 19 1 5) 19 1 6) 19 1 7) 19 1 8) 19 1 9) 19 1 10) 19 1 11) 19 1 12))) := by
  refine G_iconst (pc := 0) (v := 0) (by decide) dX1_goRest_0 ?_
  refine G_istore_n (pc := 1) (L1 := [some (.ref 19), some (.int 14), some (.int 0), none]) rfl rfl (by decide) dX1_goRest_1 ?_
  refine G_iconst (pc := 2) (v := 0) (by decide) dX1_goRest_2 ?_
  refine G_istore_n (pc := 3) (L1 := [some (.ref 19), some (.int 14), some (.int 0), some (.int 0)]) rfl rfl (by decide) dX1_goRest_3 ?_
  refine G_iload_n (pc := 4) rfl dX1_goRest_4 ?_
  refine G_iload_n (pc := 5) rfl dX1_goRest_5 ?_
  refine G_icmp_ge (pc := 6) (tgt := 38) (by decide) dX1_goRest_6 (fun z => absurd z (by decide)) (fun _ => ?_)
  refine G_aload_n (pc := 9) rfl dX1_goRest_9 ?_
  refine G_callV (pc := 10) (mc1 := 0) (ms1 := 0) (ci := 1) (mj := mX1_isOver) (vs := []) dX1_goRest_10 rfl rfl cm_X1_isOver wf_172 wf_17 wf_18 rfl (Nat.le_of_ble_eq_true rfl) (Nat.le_of_ble_eq_true rfl) (Nat.le_of_ble_eq_true rfl) (Nat.le_of_ble_eq_true rfl) (s348_X1_isOver  (d + 1)  ) ?_
  rintro _ _ ⟨rfl, rfl⟩
  dsimp only [Option.toList, List.cons_append, List.nil_append]
  refine G_if_ne (pc := 13) (tgt := 38) (by decide) dX1_goRest_13 (fun z => absurd (by decide) z) (fun _ => ?_)
  refine G_iload_n (pc := 16) rfl dX1_goRest_16 ?_
  refine G_aload_n (pc := 17) rfl dX1_goRest_17 ?_
  refine G_aload_n (pc := 18) rfl dX1_goRest_18 ?_
  refine G_callV (pc := 19) (mc1 := 0) (ms1 := 0) (ci := 1) (mj := mX1_restAct) (vs := []) dX1_goRest_19 rfl rfl cm_X1_restAct wf_173 wf_66 wf_67 rfl (Nat.le_of_ble_eq_true rfl) (Nat.le_of_ble_eq_true rfl) (Nat.le_of_ble_eq_true rfl) (Nat.le_of_ble_eq_true rfl) (s349_X1_restAct  (d + 1)  ) ?_
  rintro _ _ ⟨rfl, rfl⟩
  dsimp only [Option.toList, List.cons_append, List.nil_append]
  refine G_callV (pc := 22) (mc1 := 0) (ms1 := 0) (ci := 1) (mj := mX1_tell) (vs := [_]) dX1_goRest_22 rfl rfl cm_X1_tell wf_69 wf_71 wf_72 rfl (Nat.le_of_ble_eq_true rfl) (Nat.le_of_ble_eq_true rfl) (Nat.le_of_ble_eq_true rfl) (Nat.le_of_ble_eq_true rfl) (s143_X1_tell  d  ) ?_
  rintro _ _ ⟨rfl, rfl⟩
  dsimp only [Option.toList, List.cons_append, List.nil_append]
  refine G_aload_n (pc := 25) rfl dX1_goRest_25 ?_
  refine G_callV (pc := 26) (mc1 := 0) (ms1 := 0) (ci := 1) (mj := mX1_melt) (vs := []) dX1_goRest_26 rfl rfl cm_X1_melt wf_73 wf_75 wf_76 rfl (Nat.le_of_ble_eq_true rfl) (Nat.le_of_ble_eq_true rfl) (Nat.le_of_ble_eq_true rfl) (Nat.le_of_ble_eq_true rfl) (s145_X1_melt  (d + 1)  ) ?_
  rintro _ _ ⟨rfl, rfl⟩
  dsimp only [Option.toList, List.cons_append, List.nil_append]
  refine G_iadd (pc := 29) (z := 0) (by decide) dX1_goRest_29 ?_
  refine G_iadd (pc := 30) (z := 0) (by decide) dX1_goRest_30 ?_
  refine G_istore_n (pc := 31) (L1 := [some (.ref 19), some (.int 14), some (.int 0), some (.int 0)]) rfl rfl (by decide) dX1_goRest_31 ?_
  refine G_iinc (pc := 32) (v := 1) (w := 1) (L1 := [some (.ref 19), some (.int 14), some (.int 0), some (.int 1)]) (by decide) rfl rfl (by decide) rfl (by decide) dX1_goRest_32 ?_
  refine G_goto (pc := 35) (tgt := 4) (by decide) dX1_goRest_35 ?_
  refine G_iload_n (pc := 4) rfl dX1_goRest_4 ?_
  refine G_iload_n (pc := 5) rfl dX1_goRest_5 ?_
  refine G_icmp_ge (pc := 6) (tgt := 38) (by decide) dX1_goRest_6 (fun z => absurd z (by decide)) (fun _ => ?_)
  refine G_aload_n (pc := 9) rfl dX1_goRest_9 ?_
  refine G_callV (pc := 10) (mc1 := 0) (ms1 := 0) (ci := 1) (mj := mX1_isOver) (vs := []) dX1_goRest_10 rfl rfl cm_X1_isOver wf_172 wf_17 wf_18 rfl (Nat.le_of_ble_eq_true rfl) (Nat.le_of_ble_eq_true rfl) (Nat.le_of_ble_eq_true rfl) (Nat.le_of_ble_eq_true rfl) (s153_X1_isOver  (d + 1)  ) ?_
  rintro _ _ ⟨rfl, rfl⟩
  dsimp only [Option.toList, List.cons_append, List.nil_append]
  refine G_if_ne (pc := 13) (tgt := 38) (by decide) dX1_goRest_13 (fun z => absurd (by decide) z) (fun _ => ?_)
  refine G_iload_n (pc := 16) rfl dX1_goRest_16 ?_
  refine G_aload_n (pc := 17) rfl dX1_goRest_17 ?_
  refine G_aload_n (pc := 18) rfl dX1_goRest_18 ?_
  refine G_callV (pc := 19) (mc1 := 0) (ms1 := 0) (ci := 1) (mj := mX1_restAct) (vs := []) dX1_goRest_19 rfl rfl cm_X1_restAct wf_173 wf_66 wf_67 rfl (Nat.le_of_ble_eq_true rfl) (Nat.le_of_ble_eq_true rfl) (Nat.le_of_ble_eq_true rfl) (Nat.le_of_ble_eq_true rfl) (s350_X1_restAct  (d + 1)  ) ?_
  rintro _ _ ⟨rfl, rfl⟩
  dsimp only [Option.toList, List.cons_append, List.nil_append]
  refine G_callV (pc := 22) (mc1 := 0) (ms1 := 0) (ci := 1) (mj := mX1_tell) (vs := [_]) dX1_goRest_22 rfl rfl cm_X1_tell wf_69 wf_71 wf_72 rfl (Nat.le_of_ble_eq_true rfl) (Nat.le_of_ble_eq_true rfl) (Nat.le_of_ble_eq_true rfl) (Nat.le_of_ble_eq_true rfl) (s351_X1_tell  d  ) ?_
  rintro _ _ ⟨rfl, rfl⟩
  dsimp only [Option.toList, List.cons_append, List.nil_append]
  refine G_aload_n (pc := 25) rfl dX1_goRest_25 ?_
  refine G_callV (pc := 26) (mc1 := 0) (ms1 := 0) (ci := 1) (mj := mX1_melt) (vs := []) dX1_goRest_26 rfl rfl cm_X1_melt wf_73 wf_75 wf_76 rfl (Nat.le_of_ble_eq_true rfl) (Nat.le_of_ble_eq_true rfl) (Nat.le_of_ble_eq_true rfl) (Nat.le_of_ble_eq_true rfl) (s353_X1_melt  (d + 1)  ) ?_
  rintro _ _ ⟨rfl, rfl⟩
  dsimp only [Option.toList, List.cons_append, List.nil_append]
  refine G_iadd (pc := 29) (z := 0) (by decide) dX1_goRest_29 ?_
  refine G_iadd (pc := 30) (z := 0) (by decide) dX1_goRest_30 ?_
  refine G_istore_n (pc := 31) (L1 := [some (.ref 19), some (.int 14), some (.int 0), some (.int 1)]) rfl rfl (by decide) dX1_goRest_31 ?_
  refine G_iinc (pc := 32) (v := 1) (w := 2) (L1 := [some (.ref 19), some (.int 14), some (.int 0), some (.int 2)]) (by decide) rfl rfl (by decide) rfl (by decide) dX1_goRest_32 ?_
  refine G_goto (pc := 35) (tgt := 4) (by decide) dX1_goRest_35 ?_
  refine G_iload_n (pc := 4) rfl dX1_goRest_4 ?_
  refine G_iload_n (pc := 5) rfl dX1_goRest_5 ?_
  refine G_icmp_ge (pc := 6) (tgt := 38) (by decide) dX1_goRest_6 (fun z => absurd z (by decide)) (fun _ => ?_)
  refine G_aload_n (pc := 9) rfl dX1_goRest_9 ?_
  refine G_callV (pc := 10) (mc1 := 0) (ms1 := 0) (ci := 1) (mj := mX1_isOver) (vs := []) dX1_goRest_10 rfl rfl cm_X1_isOver wf_172 wf_17 wf_18 rfl (Nat.le_of_ble_eq_true rfl) (Nat.le_of_ble_eq_true rfl) (Nat.le_of_ble_eq_true rfl) (Nat.le_of_ble_eq_true rfl) (s354_X1_isOver  (d + 1)  ) ?_
  rintro _ _ ⟨rfl, rfl⟩
  dsimp only [Option.toList, List.cons_append, List.nil_append]
  refine G_if_ne (pc := 13) (tgt := 38) (by decide) dX1_goRest_13 (fun z => absurd (by decide) z) (fun _ => ?_)
  refine G_iload_n (pc := 16) rfl dX1_goRest_16 ?_
  refine G_aload_n (pc := 17) rfl dX1_goRest_17 ?_
  refine G_aload_n (pc := 18) rfl dX1_goRest_18 ?_
  refine G_callV (pc := 19) (mc1 := 0) (ms1 := 0) (ci := 1) (mj := mX1_restAct) (vs := []) dX1_goRest_19 rfl rfl cm_X1_restAct wf_173 wf_66 wf_67 rfl (Nat.le_of_ble_eq_true rfl) (Nat.le_of_ble_eq_true rfl) (Nat.le_of_ble_eq_true rfl) (Nat.le_of_ble_eq_true rfl) (s355_X1_restAct  (d + 1)  ) ?_
  rintro _ _ ⟨rfl, rfl⟩
  dsimp only [Option.toList, List.cons_append, List.nil_append]
  refine G_callV (pc := 22) (mc1 := 0) (ms1 := 0) (ci := 1) (mj := mX1_tell) (vs := [_]) dX1_goRest_22 rfl rfl cm_X1_tell wf_69 wf_71 wf_72 rfl (Nat.le_of_ble_eq_true rfl) (Nat.le_of_ble_eq_true rfl) (Nat.le_of_ble_eq_true rfl) (Nat.le_of_ble_eq_true rfl) (s356_X1_tell  d  ) ?_
  rintro _ _ ⟨rfl, rfl⟩
  dsimp only [Option.toList, List.cons_append, List.nil_append]
  refine G_aload_n (pc := 25) rfl dX1_goRest_25 ?_
  refine G_callV (pc := 26) (mc1 := 0) (ms1 := 0) (ci := 1) (mj := mX1_melt) (vs := []) dX1_goRest_26 rfl rfl cm_X1_melt wf_73 wf_75 wf_76 rfl (Nat.le_of_ble_eq_true rfl) (Nat.le_of_ble_eq_true rfl) (Nat.le_of_ble_eq_true rfl) (Nat.le_of_ble_eq_true rfl) (s358_X1_melt  (d + 1)  ) ?_
  rintro _ _ ⟨rfl, rfl⟩
  dsimp only [Option.toList, List.cons_append, List.nil_append]
  refine G_iadd (pc := 29) (z := 0) (by decide) dX1_goRest_29 ?_
  refine G_iadd (pc := 30) (z := 0) (by decide) dX1_goRest_30 ?_
  refine G_istore_n (pc := 31) (L1 := [some (.ref 19), some (.int 14), some (.int 0), some (.int 2)]) rfl rfl (by decide) dX1_goRest_31 ?_
  refine G_iinc (pc := 32) (v := 1) (w := 3) (L1 := [some (.ref 19), some (.int 14), some (.int 0), some (.int 3)]) (by decide) rfl rfl (by decide) rfl (by decide) dX1_goRest_32 ?_
  refine G_goto (pc := 35) (tgt := 4) (by decide) dX1_goRest_35 ?_
  refine G_iload_n (pc := 4) rfl dX1_goRest_4 ?_
  refine G_iload_n (pc := 5) rfl dX1_goRest_5 ?_
  refine G_icmp_ge (pc := 6) (tgt := 38) (by decide) dX1_goRest_6 (fun z => absurd z (by decide)) (fun _ => ?_)
  refine G_aload_n (pc := 9) rfl dX1_goRest_9 ?_
  refine G_callV (pc := 10) (mc1 := 0) (ms1 := 0) (ci := 1) (mj := mX1_isOver) (vs := []) dX1_goRest_10 rfl rfl cm_X1_isOver wf_172 wf_17 wf_18 rfl (Nat.le_of_ble_eq_true rfl) (Nat.le_of_ble_eq_true rfl) (Nat.le_of_ble_eq_true rfl) (Nat.le_of_ble_eq_true rfl) (s359_X1_isOver  (d + 1)  ) ?_
  rintro _ _ ⟨rfl, rfl⟩
  dsimp only [Option.toList, List.cons_append, List.nil_append]
  refine G_if_ne (pc := 13) (tgt := 38) (by decide) dX1_goRest_13 (fun z => absurd (by decide) z) (fun _ => ?_)
  refine G_iload_n (pc := 16) rfl dX1_goRest_16 ?_
  refine G_aload_n (pc := 17) rfl dX1_goRest_17 ?_
  refine G_aload_n (pc := 18) rfl dX1_goRest_18 ?_
  refine G_callV (pc := 19) (mc1 := 0) (ms1 := 0) (ci := 1) (mj := mX1_restAct) (vs := []) dX1_goRest_19 rfl rfl cm_X1_restAct wf_173 wf_66 wf_67 rfl (Nat.le_of_ble_eq_true rfl) (Nat.le_of_ble_eq_true rfl) (Nat.le_of_ble_eq_true rfl) (Nat.le_of_ble_eq_true rfl) (s360_X1_restAct  (d + 1)  ) ?_
  rintro _ _ ⟨rfl, rfl⟩
  dsimp only [Option.toList, List.cons_append, List.nil_append]
  refine G_callV (pc := 22) (mc1 := 0) (ms1 := 0) (ci := 1) (mj := mX1_tell) (vs := [_]) dX1_goRest_22 rfl rfl cm_X1_tell wf_69 wf_71 wf_72 rfl (Nat.le_of_ble_eq_true rfl) (Nat.le_of_ble_eq_true rfl) (Nat.le_of_ble_eq_true rfl) (Nat.le_of_ble_eq_true rfl) (s361_X1_tell  d  ) ?_
  rintro _ _ ⟨rfl, rfl⟩
  dsimp only [Option.toList, List.cons_append, List.nil_append]
  refine G_aload_n (pc := 25) rfl dX1_goRest_25 ?_
  refine G_callV (pc := 26) (mc1 := 0) (ms1 := 0) (ci := 1) (mj := mX1_melt) (vs := []) dX1_goRest_26 rfl rfl cm_X1_melt wf_73 wf_75 wf_76 rfl (Nat.le_of_ble_eq_true rfl) (Nat.le_of_ble_eq_true rfl) (Nat.le_of_ble_eq_true rfl) (Nat.le_of_ble_eq_true rfl) (s363_X1_melt  (d + 1)  ) ?_
  rintro _ _ ⟨rfl, rfl⟩
  dsimp only [Option.toList, List.cons_append, List.nil_append]
  refine G_iadd (pc := 29) (z := 0) (by decide) dX1_goRest_29 ?_
  refine G_iadd (pc := 30) (z := 0) (by decide) dX1_goRest_30 ?_
  refine G_istore_n (pc := 31) (L1 := [some (.ref 19), some (.int 14), some (.int 0), some (.int 3)]) rfl rfl (by decide) dX1_goRest_31 ?_
  refine G_iinc (pc := 32) (v := 1) (w := 4) (L1 := [some (.ref 19), some (.int 14), some (.int 0), some (.int 4)]) (by decide) rfl rfl (by decide) rfl (by decide) dX1_goRest_32 ?_
  refine G_goto (pc := 35) (tgt := 4) (by decide) dX1_goRest_35 ?_
  refine G_iload_n (pc := 4) rfl dX1_goRest_4 ?_
  refine G_iload_n (pc := 5) rfl dX1_goRest_5 ?_
  refine G_icmp_ge (pc := 6) (tgt := 38) (by decide) dX1_goRest_6 (fun z => absurd z (by decide)) (fun _ => ?_)
  refine G_aload_n (pc := 9) rfl dX1_goRest_9 ?_
  refine G_callV (pc := 10) (mc1 := 0) (ms1 := 0) (ci := 1) (mj := mX1_isOver) (vs := []) dX1_goRest_10 rfl rfl cm_X1_isOver wf_172 wf_17 wf_18 rfl (Nat.le_of_ble_eq_true rfl) (Nat.le_of_ble_eq_true rfl) (Nat.le_of_ble_eq_true rfl) (Nat.le_of_ble_eq_true rfl) (s364_X1_isOver  (d + 1)  ) ?_
  rintro _ _ ⟨rfl, rfl⟩
  dsimp only [Option.toList, List.cons_append, List.nil_append]
  refine G_if_ne (pc := 13) (tgt := 38) (by decide) dX1_goRest_13 (fun z => absurd (by decide) z) (fun _ => ?_)
  refine G_iload_n (pc := 16) rfl dX1_goRest_16 ?_
  refine G_aload_n (pc := 17) rfl dX1_goRest_17 ?_
  refine G_aload_n (pc := 18) rfl dX1_goRest_18 ?_
  refine G_callV (pc := 19) (mc1 := 0) (ms1 := 0) (ci := 1) (mj := mX1_restAct) (vs := []) dX1_goRest_19 rfl rfl cm_X1_restAct wf_173 wf_66 wf_67 rfl (Nat.le_of_ble_eq_true rfl) (Nat.le_of_ble_eq_true rfl) (Nat.le_of_ble_eq_true rfl) (Nat.le_of_ble_eq_true rfl) (s365_X1_restAct  (d + 1)  ) ?_
  rintro _ _ ⟨rfl, rfl⟩
  dsimp only [Option.toList, List.cons_append, List.nil_append]
  refine G_callV (pc := 22) (mc1 := 0) (ms1 := 0) (ci := 1) (mj := mX1_tell) (vs := [_]) dX1_goRest_22 rfl rfl cm_X1_tell wf_69 wf_71 wf_72 rfl (Nat.le_of_ble_eq_true rfl) (Nat.le_of_ble_eq_true rfl) (Nat.le_of_ble_eq_true rfl) (Nat.le_of_ble_eq_true rfl) (s366_X1_tell  d  ) ?_
  rintro _ _ ⟨rfl, rfl⟩
  dsimp only [Option.toList, List.cons_append, List.nil_append]
  refine G_aload_n (pc := 25) rfl dX1_goRest_25 ?_
  refine G_callV (pc := 26) (mc1 := 0) (ms1 := 0) (ci := 1) (mj := mX1_melt) (vs := []) dX1_goRest_26 rfl rfl cm_X1_melt wf_73 wf_75 wf_76 rfl (Nat.le_of_ble_eq_true rfl) (Nat.le_of_ble_eq_true rfl) (Nat.le_of_ble_eq_true rfl) (Nat.le_of_ble_eq_true rfl) (s368_X1_melt  (d + 1)  ) ?_
  rintro _ _ ⟨rfl, rfl⟩
  dsimp only [Option.toList, List.cons_append, List.nil_append]
  refine G_iadd (pc := 29) (z := 0) (by decide) dX1_goRest_29 ?_
  refine G_iadd (pc := 30) (z := 0) (by decide) dX1_goRest_30 ?_
  refine G_istore_n (pc := 31) (L1 := [some (.ref 19), some (.int 14), some (.int 0), some (.int 4)]) rfl rfl (by decide) dX1_goRest_31 ?_
  refine G_iinc (pc := 32) (v := 1) (w := 5) (L1 := [some (.ref 19), some (.int 14), some (.int 0), some (.int 5)]) (by decide) rfl rfl (by decide) rfl (by decide) dX1_goRest_32 ?_
  refine G_goto (pc := 35) (tgt := 4) (by decide) dX1_goRest_35 ?_
  refine G_iload_n (pc := 4) rfl dX1_goRest_4 ?_
  refine G_iload_n (pc := 5) rfl dX1_goRest_5 ?_
  refine G_icmp_ge (pc := 6) (tgt := 38) (by decide) dX1_goRest_6 (fun z => absurd z (by decide)) (fun _ => ?_)
  refine G_aload_n (pc := 9) rfl dX1_goRest_9 ?_
  refine G_callV (pc := 10) (mc1 := 0) (ms1 := 0) (ci := 1) (mj := mX1_isOver) (vs := []) dX1_goRest_10 rfl rfl cm_X1_isOver wf_172 wf_17 wf_18 rfl (Nat.le_of_ble_eq_true rfl) (Nat.le_of_ble_eq_true rfl) (Nat.le_of_ble_eq_true rfl) (Nat.le_of_ble_eq_true rfl) (s369_X1_isOver  (d + 1)  ) ?_
  rintro _ _ ⟨rfl, rfl⟩
  dsimp only [Option.toList, List.cons_append, List.nil_append]
  refine G_if_ne (pc := 13) (tgt := 38) (by decide) dX1_goRest_13 (fun z => absurd (by decide) z) (fun _ => ?_)
  refine G_iload_n (pc := 16) rfl dX1_goRest_16 ?_
  refine G_aload_n (pc := 17) rfl dX1_goRest_17 ?_
  refine G_aload_n (pc := 18) rfl dX1_goRest_18 ?_
  refine G_callV (pc := 19) (mc1 := 0) (ms1 := 0) (ci := 1) (mj := mX1_restAct) (vs := []) dX1_goRest_19 rfl rfl cm_X1_restAct wf_173 wf_66 wf_67 rfl (Nat.le_of_ble_eq_true rfl) (Nat.le_of_ble_eq_true rfl) (Nat.le_of_ble_eq_true rfl) (Nat.le_of_ble_eq_true rfl) (s370_X1_restAct  (d + 1)  ) ?_
  rintro _ _ ⟨rfl, rfl⟩
  dsimp only [Option.toList, List.cons_append, List.nil_append]
  refine G_callV (pc := 22) (mc1 := 0) (ms1 := 0) (ci := 1) (mj := mX1_tell) (vs := [_]) dX1_goRest_22 rfl rfl cm_X1_tell wf_69 wf_71 wf_72 rfl (Nat.le_of_ble_eq_true rfl) (Nat.le_of_ble_eq_true rfl) (Nat.le_of_ble_eq_true rfl) (Nat.le_of_ble_eq_true rfl) (s371_X1_tell  d  ) ?_
  rintro _ _ ⟨rfl, rfl⟩
  dsimp only [Option.toList, List.cons_append, List.nil_append]
  refine G_aload_n (pc := 25) rfl dX1_goRest_25 ?_
  refine G_callV (pc := 26) (mc1 := 0) (ms1 := 0) (ci := 1) (mj := mX1_melt) (vs := []) dX1_goRest_26 rfl rfl cm_X1_melt wf_73 wf_75 wf_76 rfl (Nat.le_of_ble_eq_true rfl) (Nat.le_of_ble_eq_true rfl) (Nat.le_of_ble_eq_true rfl) (Nat.le_of_ble_eq_true rfl) (s373_X1_melt  (d + 1)  ) ?_
  rintro _ _ ⟨rfl, rfl⟩
  dsimp only [Option.toList, List.cons_append, List.nil_append]
  refine G_iadd (pc := 29) (z := 0) (by decide) dX1_goRest_29 ?_
  refine G_iadd (pc := 30) (z := 0) (by decide) dX1_goRest_30 ?_
  refine G_istore_n (pc := 31) (L1 := [some (.ref 19), some (.int 14), some (.int 0), some (.int 5)]) rfl rfl (by decide) dX1_goRest_31 ?_
  refine G_iinc (pc := 32) (v := 1) (w := 6) (L1 := [some (.ref 19), some (.int 14), some (.int 0), some (.int 6)]) (by decide) rfl rfl (by decide) rfl (by decide) dX1_goRest_32 ?_
  refine G_goto (pc := 35) (tgt := 4) (by decide) dX1_goRest_35 ?_
  refine G_iload_n (pc := 4) rfl dX1_goRest_4 ?_
  refine G_iload_n (pc := 5) rfl dX1_goRest_5 ?_
  refine G_icmp_ge (pc := 6) (tgt := 38) (by decide) dX1_goRest_6 (fun z => absurd z (by decide)) (fun _ => ?_)
  refine G_aload_n (pc := 9) rfl dX1_goRest_9 ?_
  refine G_callV (pc := 10) (mc1 := 0) (ms1 := 0) (ci := 1) (mj := mX1_isOver) (vs := []) dX1_goRest_10 rfl rfl cm_X1_isOver wf_172 wf_17 wf_18 rfl (Nat.le_of_ble_eq_true rfl) (Nat.le_of_ble_eq_true rfl) (Nat.le_of_ble_eq_true rfl) (Nat.le_of_ble_eq_true rfl) (s374_X1_isOver  (d + 1)  ) ?_
  rintro _ _ ⟨rfl, rfl⟩
  dsimp only [Option.toList, List.cons_append, List.nil_append]
  refine G_if_ne (pc := 13) (tgt := 38) (by decide) dX1_goRest_13 (fun z => absurd (by decide) z) (fun _ => ?_)
  refine G_iload_n (pc := 16) rfl dX1_goRest_16 ?_
  refine G_aload_n (pc := 17) rfl dX1_goRest_17 ?_
  refine G_aload_n (pc := 18) rfl dX1_goRest_18 ?_
  refine G_callV (pc := 19) (mc1 := 0) (ms1 := 0) (ci := 1) (mj := mX1_restAct) (vs := []) dX1_goRest_19 rfl rfl cm_X1_restAct wf_173 wf_66 wf_67 rfl (Nat.le_of_ble_eq_true rfl) (Nat.le_of_ble_eq_true rfl) (Nat.le_of_ble_eq_true rfl) (Nat.le_of_ble_eq_true rfl) (s375_X1_restAct  (d + 1)  ) ?_
  rintro _ _ ⟨rfl, rfl⟩
  dsimp only [Option.toList, List.cons_append, List.nil_append]
  refine G_callV (pc := 22) (mc1 := 0) (ms1 := 0) (ci := 1) (mj := mX1_tell) (vs := [_]) dX1_goRest_22 rfl rfl cm_X1_tell wf_69 wf_71 wf_72 rfl (Nat.le_of_ble_eq_true rfl) (Nat.le_of_ble_eq_true rfl) (Nat.le_of_ble_eq_true rfl) (Nat.le_of_ble_eq_true rfl) (s376_X1_tell  d  ) ?_
  rintro _ _ ⟨rfl, rfl⟩
  dsimp only [Option.toList, List.cons_append, List.nil_append]
  refine G_aload_n (pc := 25) rfl dX1_goRest_25 ?_
  refine G_callV (pc := 26) (mc1 := 0) (ms1 := 0) (ci := 1) (mj := mX1_melt) (vs := []) dX1_goRest_26 rfl rfl cm_X1_melt wf_73 wf_75 wf_76 rfl (Nat.le_of_ble_eq_true rfl) (Nat.le_of_ble_eq_true rfl) (Nat.le_of_ble_eq_true rfl) (Nat.le_of_ble_eq_true rfl) (s378_X1_melt  (d + 1)  ) ?_
  rintro _ _ ⟨rfl, rfl⟩
  dsimp only [Option.toList, List.cons_append, List.nil_append]
  refine G_iadd (pc := 29) (z := 0) (by decide) dX1_goRest_29 ?_
  refine G_iadd (pc := 30) (z := 0) (by decide) dX1_goRest_30 ?_
  refine G_istore_n (pc := 31) (L1 := [some (.ref 19), some (.int 14), some (.int 0), some (.int 6)]) rfl rfl (by decide) dX1_goRest_31 ?_
  refine G_iinc (pc := 32) (v := 1) (w := 7) (L1 := [some (.ref 19), some (.int 14), some (.int 0), some (.int 7)]) (by decide) rfl rfl (by decide) rfl (by decide) dX1_goRest_32 ?_
  refine G_goto (pc := 35) (tgt := 4) (by decide) dX1_goRest_35 ?_
  refine G_iload_n (pc := 4) rfl dX1_goRest_4 ?_
  refine G_iload_n (pc := 5) rfl dX1_goRest_5 ?_
  refine G_icmp_ge (pc := 6) (tgt := 38) (by decide) dX1_goRest_6 (fun z => absurd z (by decide)) (fun _ => ?_)
  refine G_aload_n (pc := 9) rfl dX1_goRest_9 ?_
  refine G_callV (pc := 10) (mc1 := 0) (ms1 := 0) (ci := 1) (mj := mX1_isOver) (vs := []) dX1_goRest_10 rfl rfl cm_X1_isOver wf_172 wf_17 wf_18 rfl (Nat.le_of_ble_eq_true rfl) (Nat.le_of_ble_eq_true rfl) (Nat.le_of_ble_eq_true rfl) (Nat.le_of_ble_eq_true rfl) (s379_X1_isOver  (d + 1)  ) ?_
  rintro _ _ ⟨rfl, rfl⟩
  dsimp only [Option.toList, List.cons_append, List.nil_append]
  refine G_if_ne (pc := 13) (tgt := 38) (by decide) dX1_goRest_13 (fun z => absurd (by decide) z) (fun _ => ?_)
  refine G_iload_n (pc := 16) rfl dX1_goRest_16 ?_
  refine G_aload_n (pc := 17) rfl dX1_goRest_17 ?_
  refine G_aload_n (pc := 18) rfl dX1_goRest_18 ?_
  refine G_callV (pc := 19) (mc1 := 0) (ms1 := 0) (ci := 1) (mj := mX1_restAct) (vs := []) dX1_goRest_19 rfl rfl cm_X1_restAct wf_173 wf_66 wf_67 rfl (Nat.le_of_ble_eq_true rfl) (Nat.le_of_ble_eq_true rfl) (Nat.le_of_ble_eq_true rfl) (Nat.le_of_ble_eq_true rfl) (s380_X1_restAct  (d + 1)  ) ?_
  rintro _ _ ⟨rfl, rfl⟩
  dsimp only [Option.toList, List.cons_append, List.nil_append]
  refine G_callV (pc := 22) (mc1 := 0) (ms1 := 0) (ci := 1) (mj := mX1_tell) (vs := [_]) dX1_goRest_22 rfl rfl cm_X1_tell wf_69 wf_71 wf_72 rfl (Nat.le_of_ble_eq_true rfl) (Nat.le_of_ble_eq_true rfl) (Nat.le_of_ble_eq_true rfl) (Nat.le_of_ble_eq_true rfl) (s381_X1_tell  d  ) ?_
  rintro _ _ ⟨rfl, rfl⟩
  dsimp only [Option.toList, List.cons_append, List.nil_append]
  refine G_aload_n (pc := 25) rfl dX1_goRest_25 ?_
  refine G_callV (pc := 26) (mc1 := 0) (ms1 := 0) (ci := 1) (mj := mX1_melt) (vs := []) dX1_goRest_26 rfl rfl cm_X1_melt wf_73 wf_75 wf_76 rfl (Nat.le_of_ble_eq_true rfl) (Nat.le_of_ble_eq_true rfl) (Nat.le_of_ble_eq_true rfl) (Nat.le_of_ble_eq_true rfl) (s383_X1_melt  (d + 1)  ) ?_
  rintro _ _ ⟨rfl, rfl⟩
  dsimp only [Option.toList, List.cons_append, List.nil_append]
  refine G_iadd (pc := 29) (z := 0) (by decide) dX1_goRest_29 ?_
  refine G_iadd (pc := 30) (z := 0) (by decide) dX1_goRest_30 ?_
  refine G_istore_n (pc := 31) (L1 := [some (.ref 19), some (.int 14), some (.int 0), some (.int 7)]) rfl rfl (by decide) dX1_goRest_31 ?_
  refine G_iinc (pc := 32) (v := 1) (w := 8) (L1 := [some (.ref 19), some (.int 14), some (.int 0), some (.int 8)]) (by decide) rfl rfl (by decide) rfl (by decide) dX1_goRest_32 ?_
  refine G_goto (pc := 35) (tgt := 4) (by decide) dX1_goRest_35 ?_
  refine G_iload_n (pc := 4) rfl dX1_goRest_4 ?_
  refine G_iload_n (pc := 5) rfl dX1_goRest_5 ?_
  refine G_icmp_ge (pc := 6) (tgt := 38) (by decide) dX1_goRest_6 (fun z => absurd z (by decide)) (fun _ => ?_)
  refine G_aload_n (pc := 9) rfl dX1_goRest_9 ?_
  refine G_callV (pc := 10) (mc1 := 0) (ms1 := 0) (ci := 1) (mj := mX1_isOver) (vs := []) dX1_goRest_10 rfl rfl cm_X1_isOver wf_172 wf_17 wf_18 rfl (Nat.le_of_ble_eq_true rfl) (Nat.le_of_ble_eq_true rfl) (Nat.le_of_ble_eq_true rfl) (Nat.le_of_ble_eq_true rfl) (s384_X1_isOver  (d + 1)  ) ?_
  rintro _ _ ⟨rfl, rfl⟩
  dsimp only [Option.toList, List.cons_append, List.nil_append]
  refine G_if_ne (pc := 13) (tgt := 38) (by decide) dX1_goRest_13 (fun z => absurd (by decide) z) (fun _ => ?_)
  refine G_iload_n (pc := 16) rfl dX1_goRest_16 ?_
  refine G_aload_n (pc := 17) rfl dX1_goRest_17 ?_
  refine G_aload_n (pc := 18) rfl dX1_goRest_18 ?_
  refine G_callV (pc := 19) (mc1 := 0) (ms1 := 0) (ci := 1) (mj := mX1_restAct) (vs := []) dX1_goRest_19 rfl rfl cm_X1_restAct wf_173 wf_66 wf_67 rfl (Nat.le_of_ble_eq_true rfl) (Nat.le_of_ble_eq_true rfl) (Nat.le_of_ble_eq_true rfl) (Nat.le_of_ble_eq_true rfl) (s385_X1_restAct  (d + 1)  ) ?_
  rintro _ _ ⟨rfl, rfl⟩
  dsimp only [Option.toList, List.cons_append, List.nil_append]
  refine G_callV (pc := 22) (mc1 := 0) (ms1 := 0) (ci := 1) (mj := mX1_tell) (vs := [_]) dX1_goRest_22 rfl rfl cm_X1_tell wf_69 wf_71 wf_72 rfl (Nat.le_of_ble_eq_true rfl) (Nat.le_of_ble_eq_true rfl) (Nat.le_of_ble_eq_true rfl) (Nat.le_of_ble_eq_true rfl) (s386_X1_tell  d  ) ?_
  rintro _ _ ⟨rfl, rfl⟩
  dsimp only [Option.toList, List.cons_append, List.nil_append]
  refine G_aload_n (pc := 25) rfl dX1_goRest_25 ?_
  refine G_callV (pc := 26) (mc1 := 0) (ms1 := 0) (ci := 1) (mj := mX1_melt) (vs := []) dX1_goRest_26 rfl rfl cm_X1_melt wf_73 wf_75 wf_76 rfl (Nat.le_of_ble_eq_true rfl) (Nat.le_of_ble_eq_true rfl) (Nat.le_of_ble_eq_true rfl) (Nat.le_of_ble_eq_true rfl) (s388_X1_melt  (d + 1)  ) ?_
  rintro _ _ ⟨rfl, rfl⟩
  dsimp only [Option.toList, List.cons_append, List.nil_append]
  refine G_iadd (pc := 29) (z := 0) (by decide) dX1_goRest_29 ?_
  refine G_iadd (pc := 30) (z := 0) (by decide) dX1_goRest_30 ?_
  refine G_istore_n (pc := 31) (L1 := [some (.ref 19), some (.int 14), some (.int 0), some (.int 8)]) rfl rfl (by decide) dX1_goRest_31 ?_
  refine G_iinc (pc := 32) (v := 1) (w := 9) (L1 := [some (.ref 19), some (.int 14), some (.int 0), some (.int 9)]) (by decide) rfl rfl (by decide) rfl (by decide) dX1_goRest_32 ?_
  refine G_goto (pc := 35) (tgt := 4) (by decide) dX1_goRest_35 ?_
  refine G_iload_n (pc := 4) rfl dX1_goRest_4 ?_
  refine G_iload_n (pc := 5) rfl dX1_goRest_5 ?_
  refine G_icmp_ge (pc := 6) (tgt := 38) (by decide) dX1_goRest_6 (fun z => absurd z (by decide)) (fun _ => ?_)
  refine G_aload_n (pc := 9) rfl dX1_goRest_9 ?_
  refine G_callV (pc := 10) (mc1 := 0) (ms1 := 0) (ci := 1) (mj := mX1_isOver) (vs := []) dX1_goRest_10 rfl rfl cm_X1_isOver wf_172 wf_17 wf_18 rfl (Nat.le_of_ble_eq_true rfl) (Nat.le_of_ble_eq_true rfl) (Nat.le_of_ble_eq_true rfl) (Nat.le_of_ble_eq_true rfl) (s389_X1_isOver  (d + 1)  ) ?_
  rintro _ _ ⟨rfl, rfl⟩
  dsimp only [Option.toList, List.cons_append, List.nil_append]
  refine G_if_ne (pc := 13) (tgt := 38) (by decide) dX1_goRest_13 (fun z => absurd (by decide) z) (fun _ => ?_)
  refine G_iload_n (pc := 16) rfl dX1_goRest_16 ?_
  refine G_aload_n (pc := 17) rfl dX1_goRest_17 ?_
  refine G_aload_n (pc := 18) rfl dX1_goRest_18 ?_
  refine G_callV (pc := 19) (mc1 := 0) (ms1 := 0) (ci := 1) (mj := mX1_restAct) (vs := []) dX1_goRest_19 rfl rfl cm_X1_restAct wf_173 wf_66 wf_67 rfl (Nat.le_of_ble_eq_true rfl) (Nat.le_of_ble_eq_true rfl) (Nat.le_of_ble_eq_true rfl) (Nat.le_of_ble_eq_true rfl) (s390_X1_restAct  (d + 1)  ) ?_
  rintro _ _ ⟨rfl, rfl⟩
  dsimp only [Option.toList, List.cons_append, List.nil_append]
  refine G_callV (pc := 22) (mc1 := 0) (ms1 := 0) (ci := 1) (mj := mX1_tell) (vs := [_]) dX1_goRest_22 rfl rfl cm_X1_tell wf_69 wf_71 wf_72 rfl (Nat.le_of_ble_eq_true rfl) (Nat.le_of_ble_eq_true rfl) (Nat.le_of_ble_eq_true rfl) (Nat.le_of_ble_eq_true rfl) (s391_X1_tell  d  ) ?_
  rintro _ _ ⟨rfl, rfl⟩
  dsimp only [Option.toList, List.cons_append, List.nil_append]
  refine G_aload_n (pc := 25) rfl dX1_goRest_25 ?_
  refine G_callV (pc := 26) (mc1 := 0) (ms1 := 0) (ci := 1) (mj := mX1_melt) (vs := []) dX1_goRest_26 rfl rfl cm_X1_melt wf_73 wf_75 wf_76 rfl (Nat.le_of_ble_eq_true rfl) (Nat.le_of_ble_eq_true rfl) (Nat.le_of_ble_eq_true rfl) (Nat.le_of_ble_eq_true rfl) (s393_X1_melt  (d + 1)  ) ?_
  rintro _ _ ⟨rfl, rfl⟩
  dsimp only [Option.toList, List.cons_append, List.nil_append]
  refine G_iadd (pc := 29) (z := 0) (by decide) dX1_goRest_29 ?_
  refine G_iadd (pc := 30) (z := 0) (by decide) dX1_goRest_30 ?_
  refine G_istore_n (pc := 31) (L1 := [some (.ref 19), some (.int 14), some (.int 0), some (.int 9)]) rfl rfl (by decide) dX1_goRest_31 ?_
  refine G_iinc (pc := 32) (v := 1) (w := 10) (L1 := [some (.ref 19), some (.int 14), some (.int 0), some (.int 10)]) (by decide) rfl rfl (by decide) rfl (by decide) dX1_goRest_32 ?_
  refine G_goto (pc := 35) (tgt := 4) (by decide) dX1_goRest_35 ?_
  refine G_iload_n (pc := 4) rfl dX1_goRest_4 ?_
  refine G_iload_n (pc := 5) rfl dX1_goRest_5 ?_
  refine G_icmp_ge (pc := 6) (tgt := 38) (by decide) dX1_goRest_6 (fun z => absurd z (by decide)) (fun _ => ?_)
  refine G_aload_n (pc := 9) rfl dX1_goRest_9 ?_
  refine G_callV (pc := 10) (mc1 := 0) (ms1 := 0) (ci := 1) (mj := mX1_isOver) (vs := []) dX1_goRest_10 rfl rfl cm_X1_isOver wf_172 wf_17 wf_18 rfl (Nat.le_of_ble_eq_true rfl) (Nat.le_of_ble_eq_true rfl) (Nat.le_of_ble_eq_true rfl) (Nat.le_of_ble_eq_true rfl) (s394_X1_isOver  (d + 1)  ) ?_
  rintro _ _ ⟨rfl, rfl⟩
  dsimp only [Option.toList, List.cons_append, List.nil_append]
  refine G_if_ne (pc := 13) (tgt := 38) (by decide) dX1_goRest_13 (fun z => absurd (by decide) z) (fun _ => ?_)
  refine G_iload_n (pc := 16) rfl dX1_goRest_16 ?_
  refine G_aload_n (pc := 17) rfl dX1_goRest_17 ?_
  refine G_aload_n (pc := 18) rfl dX1_goRest_18 ?_
  refine G_callV (pc := 19) (mc1 := 0) (ms1 := 0) (ci := 1) (mj := mX1_restAct) (vs := []) dX1_goRest_19 rfl rfl cm_X1_restAct wf_173 wf_66 wf_67 rfl (Nat.le_of_ble_eq_true rfl) (Nat.le_of_ble_eq_true rfl) (Nat.le_of_ble_eq_true rfl) (Nat.le_of_ble_eq_true rfl) (s395_X1_restAct  (d + 1)  ) ?_
  rintro _ _ ⟨rfl, rfl⟩
  dsimp only [Option.toList, List.cons_append, List.nil_append]
  refine G_callV (pc := 22) (mc1 := 0) (ms1 := 0) (ci := 1) (mj := mX1_tell) (vs := [_]) dX1_goRest_22 rfl rfl cm_X1_tell wf_69 wf_71 wf_72 rfl (Nat.le_of_ble_eq_true rfl) (Nat.le_of_ble_eq_true rfl) (Nat.le_of_ble_eq_true rfl) (Nat.le_of_ble_eq_true rfl) (s396_X1_tell  d  ) ?_
  rintro _ _ ⟨rfl, rfl⟩
  dsimp only [Option.toList, List.cons_append, List.nil_append]
  refine G_aload_n (pc := 25) rfl dX1_goRest_25 ?_
  refine G_callV (pc := 26) (mc1 := 0) (ms1 := 0) (ci := 1) (mj := mX1_melt) (vs := []) dX1_goRest_26 rfl rfl cm_X1_melt wf_73 wf_75 wf_76 rfl (Nat.le_of_ble_eq_true rfl) (Nat.le_of_ble_eq_true rfl) (Nat.le_of_ble_eq_true rfl) (Nat.le_of_ble_eq_true rfl) (s398_X1_melt  (d + 1)  ) ?_
  rintro _ _ ⟨rfl, rfl⟩
  dsimp only [Option.toList, List.cons_append, List.nil_append]
  refine G_iadd (pc := 29) (z := 0) (by decide) dX1_goRest_29 ?_
  refine G_iadd (pc := 30) (z := 0) (by decide) dX1_goRest_30 ?_
  refine G_istore_n (pc := 31) (L1 := [some (.ref 19), some (.int 14), some (.int 0), some (.int 10)]) rfl rfl (by decide) dX1_goRest_31 ?_
  refine G_iinc (pc := 32) (v := 1) (w := 11) (L1 := [some (.ref 19), some (.int 14), some (.int 0), some (.int 11)]) (by decide) rfl rfl (by decide) rfl (by decide) dX1_goRest_32 ?_
  refine G_goto (pc := 35) (tgt := 4) (by decide) dX1_goRest_35 ?_
  refine G_iload_n (pc := 4) rfl dX1_goRest_4 ?_
  refine G_iload_n (pc := 5) rfl dX1_goRest_5 ?_
  refine G_icmp_ge (pc := 6) (tgt := 38) (by decide) dX1_goRest_6 (fun z => absurd z (by decide)) (fun _ => ?_)
  refine G_aload_n (pc := 9) rfl dX1_goRest_9 ?_
  refine G_callV (pc := 10) (mc1 := 0) (ms1 := 0) (ci := 1) (mj := mX1_isOver) (vs := []) dX1_goRest_10 rfl rfl cm_X1_isOver wf_172 wf_17 wf_18 rfl (Nat.le_of_ble_eq_true rfl) (Nat.le_of_ble_eq_true rfl) (Nat.le_of_ble_eq_true rfl) (Nat.le_of_ble_eq_true rfl) (s399_X1_isOver  (d + 1)  ) ?_
  rintro _ _ ⟨rfl, rfl⟩
  dsimp only [Option.toList, List.cons_append, List.nil_append]
  refine G_if_ne (pc := 13) (tgt := 38) (by decide) dX1_goRest_13 (fun z => absurd (by decide) z) (fun _ => ?_)
  refine G_iload_n (pc := 16) rfl dX1_goRest_16 ?_
  refine G_aload_n (pc := 17) rfl dX1_goRest_17 ?_
  refine G_aload_n (pc := 18) rfl dX1_goRest_18 ?_
  refine G_callV (pc := 19) (mc1 := 0) (ms1 := 0) (ci := 1) (mj := mX1_restAct) (vs := []) dX1_goRest_19 rfl rfl cm_X1_restAct wf_173 wf_66 wf_67 rfl (Nat.le_of_ble_eq_true rfl) (Nat.le_of_ble_eq_true rfl) (Nat.le_of_ble_eq_true rfl) (Nat.le_of_ble_eq_true rfl) (s400_X1_restAct  (d + 1)  ) ?_
  rintro _ _ ⟨rfl, rfl⟩
  dsimp only [Option.toList, List.cons_append, List.nil_append]
  refine G_callV (pc := 22) (mc1 := 0) (ms1 := 0) (ci := 1) (mj := mX1_tell) (vs := [_]) dX1_goRest_22 rfl rfl cm_X1_tell wf_69 wf_71 wf_72 rfl (Nat.le_of_ble_eq_true rfl) (Nat.le_of_ble_eq_true rfl) (Nat.le_of_ble_eq_true rfl) (Nat.le_of_ble_eq_true rfl) (s401_X1_tell  d  ) ?_
  rintro _ _ ⟨rfl, rfl⟩
  dsimp only [Option.toList, List.cons_append, List.nil_append]
  refine G_aload_n (pc := 25) rfl dX1_goRest_25 ?_
  refine G_callV (pc := 26) (mc1 := 0) (ms1 := 0) (ci := 1) (mj := mX1_melt) (vs := []) dX1_goRest_26 rfl rfl cm_X1_melt wf_73 wf_75 wf_76 rfl (Nat.le_of_ble_eq_true rfl) (Nat.le_of_ble_eq_true rfl) (Nat.le_of_ble_eq_true rfl) (Nat.le_of_ble_eq_true rfl) (s403_X1_melt  (d + 1)  ) ?_
  rintro _ _ ⟨rfl, rfl⟩
  dsimp only [Option.toList, List.cons_append, List.nil_append]
  refine G_iadd (pc := 29) (z := 0) (by decide) dX1_goRest_29 ?_
  refine G_iadd (pc := 30) (z := 0) (by decide) dX1_goRest_30 ?_
  refine G_istore_n (pc := 31) (L1 := [some (.ref 19), some (.int 14), some (.int 0), some (.int 11)]) rfl rfl (by decide) dX1_goRest_31 ?_
  refine G_iinc (pc := 32) (v := 1) (w := 12) (L1 := [some (.ref 19), some (.int 14), some (.int 0), some (.int 12)]) (by decide) rfl rfl (by decide) rfl (by decide) dX1_goRest_32 ?_
  refine G_goto (pc := 35) (tgt := 4) (by decide) dX1_goRest_35 ?_
  refine G_iload_n (pc := 4) rfl dX1_goRest_4 ?_
  refine G_iload_n (pc := 5) rfl dX1_goRest_5 ?_
  refine G_icmp_ge (pc := 6) (tgt := 38) (by decide) dX1_goRest_6 (fun z => absurd z (by decide)) (fun _ => ?_)
  refine G_aload_n (pc := 9) rfl dX1_goRest_9 ?_
  refine G_callV (pc := 10) (mc1 := 0) (ms1 := 0) (ci := 1) (mj := mX1_isOver) (vs := []) dX1_goRest_10 rfl rfl cm_X1_isOver wf_172 wf_17 wf_18 rfl (Nat.le_of_ble_eq_true rfl) (Nat.le_of_ble_eq_true rfl) (Nat.le_of_ble_eq_true rfl) (Nat.le_of_ble_eq_true rfl) (s404_X1_isOver  (d + 1)  ) ?_
  rintro _ _ ⟨rfl, rfl⟩
  dsimp only [Option.toList, List.cons_append, List.nil_append]
  refine G_if_ne (pc := 13) (tgt := 38) (by decide) dX1_goRest_13 (fun _ => ?_) (fun z => absurd z (by decide))
  refine G_iload_n (pc := 38) rfl dX1_goRest_38 ?_
  exact G_iret (pc := 39) (Nat.le_of_ble_eq_true rfl) (Nat.le_of_ble_eq_true rfl) rfl dX1_goRest_39 ⟨rfl, rfl⟩
set_option maxRecDepth 100000 in
set_option maxHeartbeats 4000000 in
theorem s431_X1_goRest  (d : Nat)   : G (d + 2) mX1_goRest 0 0 0 0 0 (gent 4 [.ref 19, .int 15]) [] SH0 RF0 (gup (gup (gcp I0 24 34 (0 : Int32).toNatClampNeg (0 : Int32).toNatClampNeg (6 : Int32).toNatClampNeg) 34 6 0) 34 7 0) (fun r h => r = some (.int 0) ∧ h = (SH0, RF0, (gup (gup (gup (gup (gup (gup (gup (gup (gup (gup (gup (gup (gup (gup (gcp I0 24 34 (0 : Int32).toNatClampNeg (0 : Int32).toNatClampNeg (6 : Int32).toNatClampNeg) 34 6 0) 34 7 0) 19 1 1) 19 1 2) 19 1 3) 19 1 4) 19 1 5) 19 1 6) 19 1 7) 19 1 8) 19 1 9) 19 1 10) 19 1 11) 19 1 12))) := by
  refine G_iconst (pc := 0) (v := 0) (by decide) dX1_goRest_0 ?_
  refine G_istore_n (pc := 1) (L1 := [some (.ref 19), some (.int 15), some (.int 0), none]) rfl rfl (by decide) dX1_goRest_1 ?_
  refine G_iconst (pc := 2) (v := 0) (by decide) dX1_goRest_2 ?_
  refine G_istore_n (pc := 3) (L1 := [some (.ref 19), some (.int 15), some (.int 0), some (.int 0)]) rfl rfl (by decide) dX1_goRest_3 ?_
  refine G_iload_n (pc := 4) rfl dX1_goRest_4 ?_
  refine G_iload_n (pc := 5) rfl dX1_goRest_5 ?_
  refine G_icmp_ge (pc := 6) (tgt := 38) (by decide) dX1_goRest_6 (fun z => absurd z (by decide)) (fun _ => ?_)
  refine G_aload_n (pc := 9) rfl dX1_goRest_9 ?_
  refine G_callV (pc := 10) (mc1 := 0) (ms1 := 0) (ci := 1) (mj := mX1_isOver) (vs := []) dX1_goRest_10 rfl rfl cm_X1_isOver wf_172 wf_17 wf_18 rfl (Nat.le_of_ble_eq_true rfl) (Nat.le_of_ble_eq_true rfl) (Nat.le_of_ble_eq_true rfl) (Nat.le_of_ble_eq_true rfl) (s348_X1_isOver  (d + 1)  ) ?_
  rintro _ _ ⟨rfl, rfl⟩
  dsimp only [Option.toList, List.cons_append, List.nil_append]
  refine G_if_ne (pc := 13) (tgt := 38) (by decide) dX1_goRest_13 (fun z => absurd (by decide) z) (fun _ => ?_)
  refine G_iload_n (pc := 16) rfl dX1_goRest_16 ?_
  refine G_aload_n (pc := 17) rfl dX1_goRest_17 ?_
  refine G_aload_n (pc := 18) rfl dX1_goRest_18 ?_
  refine G_callV (pc := 19) (mc1 := 0) (ms1 := 0) (ci := 1) (mj := mX1_restAct) (vs := []) dX1_goRest_19 rfl rfl cm_X1_restAct wf_173 wf_66 wf_67 rfl (Nat.le_of_ble_eq_true rfl) (Nat.le_of_ble_eq_true rfl) (Nat.le_of_ble_eq_true rfl) (Nat.le_of_ble_eq_true rfl) (s349_X1_restAct  (d + 1)  ) ?_
  rintro _ _ ⟨rfl, rfl⟩
  dsimp only [Option.toList, List.cons_append, List.nil_append]
  refine G_callV (pc := 22) (mc1 := 0) (ms1 := 0) (ci := 1) (mj := mX1_tell) (vs := [_]) dX1_goRest_22 rfl rfl cm_X1_tell wf_69 wf_71 wf_72 rfl (Nat.le_of_ble_eq_true rfl) (Nat.le_of_ble_eq_true rfl) (Nat.le_of_ble_eq_true rfl) (Nat.le_of_ble_eq_true rfl) (s143_X1_tell  d  ) ?_
  rintro _ _ ⟨rfl, rfl⟩
  dsimp only [Option.toList, List.cons_append, List.nil_append]
  refine G_aload_n (pc := 25) rfl dX1_goRest_25 ?_
  refine G_callV (pc := 26) (mc1 := 0) (ms1 := 0) (ci := 1) (mj := mX1_melt) (vs := []) dX1_goRest_26 rfl rfl cm_X1_melt wf_73 wf_75 wf_76 rfl (Nat.le_of_ble_eq_true rfl) (Nat.le_of_ble_eq_true rfl) (Nat.le_of_ble_eq_true rfl) (Nat.le_of_ble_eq_true rfl) (s145_X1_melt  (d + 1)  ) ?_
  rintro _ _ ⟨rfl, rfl⟩
  dsimp only [Option.toList, List.cons_append, List.nil_append]
  refine G_iadd (pc := 29) (z := 0) (by decide) dX1_goRest_29 ?_
  refine G_iadd (pc := 30) (z := 0) (by decide) dX1_goRest_30 ?_
  refine G_istore_n (pc := 31) (L1 := [some (.ref 19), some (.int 15), some (.int 0), some (.int 0)]) rfl rfl (by decide) dX1_goRest_31 ?_
  refine G_iinc (pc := 32) (v := 1) (w := 1) (L1 := [some (.ref 19), some (.int 15), some (.int 0), some (.int 1)]) (by decide) rfl rfl (by decide) rfl (by decide) dX1_goRest_32 ?_
  refine G_goto (pc := 35) (tgt := 4) (by decide) dX1_goRest_35 ?_
  refine G_iload_n (pc := 4) rfl dX1_goRest_4 ?_
  refine G_iload_n (pc := 5) rfl dX1_goRest_5 ?_
  refine G_icmp_ge (pc := 6) (tgt := 38) (by decide) dX1_goRest_6 (fun z => absurd z (by decide)) (fun _ => ?_)
  refine G_aload_n (pc := 9) rfl dX1_goRest_9 ?_
  refine G_callV (pc := 10) (mc1 := 0) (ms1 := 0) (ci := 1) (mj := mX1_isOver) (vs := []) dX1_goRest_10 rfl rfl cm_X1_isOver wf_172 wf_17 wf_18 rfl (Nat.le_of_ble_eq_true rfl) (Nat.le_of_ble_eq_true rfl) (Nat.le_of_ble_eq_true rfl) (Nat.le_of_ble_eq_true rfl) (s153_X1_isOver  (d + 1)  ) ?_
  rintro _ _ ⟨rfl, rfl⟩
  dsimp only [Option.toList, List.cons_append, List.nil_append]
  refine G_if_ne (pc := 13) (tgt := 38) (by decide) dX1_goRest_13 (fun z => absurd (by decide) z) (fun _ => ?_)
  refine G_iload_n (pc := 16) rfl dX1_goRest_16 ?_
  refine G_aload_n (pc := 17) rfl dX1_goRest_17 ?_
  refine G_aload_n (pc := 18) rfl dX1_goRest_18 ?_
  refine G_callV (pc := 19) (mc1 := 0) (ms1 := 0) (ci := 1) (mj := mX1_restAct) (vs := []) dX1_goRest_19 rfl rfl cm_X1_restAct wf_173 wf_66 wf_67 rfl (Nat.le_of_ble_eq_true rfl) (Nat.le_of_ble_eq_true rfl) (Nat.le_of_ble_eq_true rfl) (Nat.le_of_ble_eq_true rfl) (s350_X1_restAct  (d + 1)  ) ?_
  rintro _ _ ⟨rfl, rfl⟩
  dsimp only [Option.toList, List.cons_append, List.nil_append]
  refine G_callV (pc := 22) (mc1 := 0) (ms1 := 0) (ci := 1) (mj := mX1_tell) (vs := [_]) dX1_goRest_22 rfl rfl cm_X1_tell wf_69 wf_71 wf_72 rfl (Nat.le_of_ble_eq_true rfl) (Nat.le_of_ble_eq_true rfl) (Nat.le_of_ble_eq_true rfl) (Nat.le_of_ble_eq_true rfl) (s351_X1_tell  d  ) ?_
  rintro _ _ ⟨rfl, rfl⟩
  dsimp only [Option.toList, List.cons_append, List.nil_append]
  refine G_aload_n (pc := 25) rfl dX1_goRest_25 ?_
  refine G_callV (pc := 26) (mc1 := 0) (ms1 := 0) (ci := 1) (mj := mX1_melt) (vs := []) dX1_goRest_26 rfl rfl cm_X1_melt wf_73 wf_75 wf_76 rfl (Nat.le_of_ble_eq_true rfl) (Nat.le_of_ble_eq_true rfl) (Nat.le_of_ble_eq_true rfl) (Nat.le_of_ble_eq_true rfl) (s353_X1_melt  (d + 1)  ) ?_
  rintro _ _ ⟨rfl, rfl⟩
  dsimp only [Option.toList, List.cons_append, List.nil_append]
  refine G_iadd (pc := 29) (z := 0) (by decide) dX1_goRest_29 ?_
  refine G_iadd (pc := 30) (z := 0) (by decide) dX1_goRest_30 ?_
  refine G_istore_n (pc := 31) (L1 := [some (.ref 19), some (.int 15), some (.int 0), some (.int 1)]) rfl rfl (by decide) dX1_goRest_31 ?_
  refine G_iinc (pc := 32) (v := 1) (w := 2) (L1 := [some (.ref 19), some (.int 15), some (.int 0), some (.int 2)]) (by decide) rfl rfl (by decide) rfl (by decide) dX1_goRest_32 ?_
  refine G_goto (pc := 35) (tgt := 4) (by decide) dX1_goRest_35 ?_
  refine G_iload_n (pc := 4) rfl dX1_goRest_4 ?_
  refine G_iload_n (pc := 5) rfl dX1_goRest_5 ?_
  refine G_icmp_ge (pc := 6) (tgt := 38) (by decide) dX1_goRest_6 (fun z => absurd z (by decide)) (fun _ => ?_)
  refine G_aload_n (pc := 9) rfl dX1_goRest_9 ?_
  refine G_callV (pc := 10) (mc1 := 0) (ms1 := 0) (ci := 1) (mj := mX1_isOver) (vs := []) dX1_goRest_10 rfl rfl cm_X1_isOver wf_172 wf_17 wf_18 rfl (Nat.le_of_ble_eq_true rfl) (Nat.le_of_ble_eq_true rfl) (Nat.le_of_ble_eq_true rfl) (Nat.le_of_ble_eq_true rfl) (s354_X1_isOver  (d + 1)  ) ?_
  rintro _ _ ⟨rfl, rfl⟩
  dsimp only [Option.toList, List.cons_append, List.nil_append]
  refine G_if_ne (pc := 13) (tgt := 38) (by decide) dX1_goRest_13 (fun z => absurd (by decide) z) (fun _ => ?_)
  refine G_iload_n (pc := 16) rfl dX1_goRest_16 ?_
  refine G_aload_n (pc := 17) rfl dX1_goRest_17 ?_
  refine G_aload_n (pc := 18) rfl dX1_goRest_18 ?_
  refine G_callV (pc := 19) (mc1 := 0) (ms1 := 0) (ci := 1) (mj := mX1_restAct) (vs := []) dX1_goRest_19 rfl rfl cm_X1_restAct wf_173 wf_66 wf_67 rfl (Nat.le_of_ble_eq_true rfl) (Nat.le_of_ble_eq_true rfl) (Nat.le_of_ble_eq_true rfl) (Nat.le_of_ble_eq_true rfl) (s355_X1_restAct  (d + 1)  ) ?_
  rintro _ _ ⟨rfl, rfl⟩
  dsimp only [Option.toList, List.cons_append, List.nil_append]
  refine G_callV (pc := 22) (mc1 := 0) (ms1 := 0) (ci := 1) (mj := mX1_tell) (vs := [_]) dX1_goRest_22 rfl rfl cm_X1_tell wf_69 wf_71 wf_72 rfl (Nat.le_of_ble_eq_true rfl) (Nat.le_of_ble_eq_true rfl) (Nat.le_of_ble_eq_true rfl) (Nat.le_of_ble_eq_true rfl) (s356_X1_tell  d  ) ?_
  rintro _ _ ⟨rfl, rfl⟩
  dsimp only [Option.toList, List.cons_append, List.nil_append]
  refine G_aload_n (pc := 25) rfl dX1_goRest_25 ?_
  refine G_callV (pc := 26) (mc1 := 0) (ms1 := 0) (ci := 1) (mj := mX1_melt) (vs := []) dX1_goRest_26 rfl rfl cm_X1_melt wf_73 wf_75 wf_76 rfl (Nat.le_of_ble_eq_true rfl) (Nat.le_of_ble_eq_true rfl) (Nat.le_of_ble_eq_true rfl) (Nat.le_of_ble_eq_true rfl) (s358_X1_melt  (d + 1)  ) ?_
  rintro _ _ ⟨rfl, rfl⟩
  dsimp only [Option.toList, List.cons_append, List.nil_append]
  refine G_iadd (pc := 29) (z := 0) (by decide) dX1_goRest_29 ?_
  refine G_iadd (pc := 30) (z := 0) (by decide) dX1_goRest_30 ?_
  refine G_istore_n (pc := 31) (L1 := [some (.ref 19), some (.int 15), some (.int 0), some (.int 2)]) rfl rfl (by decide) dX1_goRest_31 ?_
  refine G_iinc (pc := 32) (v := 1) (w := 3) (L1 := [some (.ref 19), some (.int 15), some (.int 0), some (.int 3)]) (by decide) rfl rfl (by decide) rfl (by decide) dX1_goRest_32 ?_
  refine G_goto (pc := 35) (tgt := 4) (by decide) dX1_goRest_35 ?_
  refine G_iload_n (pc := 4) rfl dX1_goRest_4 ?_
  refine G_iload_n (pc := 5) rfl dX1_goRest_5 ?_
  refine G_icmp_ge (pc := 6) (tgt := 38) (by decide) dX1_goRest_6 (fun z => absurd z (by decide)) (fun _ => ?_)
  refine G_aload_n (pc := 9) rfl dX1_goRest_9 ?_
  refine G_callV (pc := 10) (mc1 := 0) (ms1 := 0) (ci := 1) (mj := mX1_isOver) (vs := []) dX1_goRest_10 rfl rfl cm_X1_isOver wf_172 wf_17 wf_18 rfl (Nat.le_of_ble_eq_true rfl) (Nat.le_of_ble_eq_true rfl) (Nat.le_of_ble_eq_true rfl) (Nat.le_of_ble_eq_true rfl) (s359_X1_isOver  (d + 1)  ) ?_
  rintro _ _ ⟨rfl, rfl⟩
  dsimp only [Option.toList, List.cons_append, List.nil_append]
  refine G_if_ne (pc := 13) (tgt := 38) (by decide) dX1_goRest_13 (fun z => absurd (by decide) z) (fun _ => ?_)
  refine G_iload_n (pc := 16) rfl dX1_goRest_16 ?_
  refine G_aload_n (pc := 17) rfl dX1_goRest_17 ?_
  refine G_aload_n (pc := 18) rfl dX1_goRest_18 ?_
  refine G_callV (pc := 19) (mc1 := 0) (ms1 := 0) (ci := 1) (mj := mX1_restAct) (vs := []) dX1_goRest_19 rfl rfl cm_X1_restAct wf_173 wf_66 wf_67 rfl (Nat.le_of_ble_eq_true rfl) (Nat.le_of_ble_eq_true rfl) (Nat.le_of_ble_eq_true rfl) (Nat.le_of_ble_eq_true rfl) (s360_X1_restAct  (d + 1)  ) ?_
  rintro _ _ ⟨rfl, rfl⟩
  dsimp only [Option.toList, List.cons_append, List.nil_append]
  refine G_callV (pc := 22) (mc1 := 0) (ms1 := 0) (ci := 1) (mj := mX1_tell) (vs := [_]) dX1_goRest_22 rfl rfl cm_X1_tell wf_69 wf_71 wf_72 rfl (Nat.le_of_ble_eq_true rfl) (Nat.le_of_ble_eq_true rfl) (Nat.le_of_ble_eq_true rfl) (Nat.le_of_ble_eq_true rfl) (s361_X1_tell  d  ) ?_
  rintro _ _ ⟨rfl, rfl⟩
  dsimp only [Option.toList, List.cons_append, List.nil_append]
  refine G_aload_n (pc := 25) rfl dX1_goRest_25 ?_
  refine G_callV (pc := 26) (mc1 := 0) (ms1 := 0) (ci := 1) (mj := mX1_melt) (vs := []) dX1_goRest_26 rfl rfl cm_X1_melt wf_73 wf_75 wf_76 rfl (Nat.le_of_ble_eq_true rfl) (Nat.le_of_ble_eq_true rfl) (Nat.le_of_ble_eq_true rfl) (Nat.le_of_ble_eq_true rfl) (s363_X1_melt  (d + 1)  ) ?_
  rintro _ _ ⟨rfl, rfl⟩
  dsimp only [Option.toList, List.cons_append, List.nil_append]
  refine G_iadd (pc := 29) (z := 0) (by decide) dX1_goRest_29 ?_
  refine G_iadd (pc := 30) (z := 0) (by decide) dX1_goRest_30 ?_
  refine G_istore_n (pc := 31) (L1 := [some (.ref 19), some (.int 15), some (.int 0), some (.int 3)]) rfl rfl (by decide) dX1_goRest_31 ?_
  refine G_iinc (pc := 32) (v := 1) (w := 4) (L1 := [some (.ref 19), some (.int 15), some (.int 0), some (.int 4)]) (by decide) rfl rfl (by decide) rfl (by decide) dX1_goRest_32 ?_
  refine G_goto (pc := 35) (tgt := 4) (by decide) dX1_goRest_35 ?_
  refine G_iload_n (pc := 4) rfl dX1_goRest_4 ?_
  refine G_iload_n (pc := 5) rfl dX1_goRest_5 ?_
  refine G_icmp_ge (pc := 6) (tgt := 38) (by decide) dX1_goRest_6 (fun z => absurd z (by decide)) (fun _ => ?_)
  refine G_aload_n (pc := 9) rfl dX1_goRest_9 ?_
  refine G_callV (pc := 10) (mc1 := 0) (ms1 := 0) (ci := 1) (mj := mX1_isOver) (vs := []) dX1_goRest_10 rfl rfl cm_X1_isOver wf_172 wf_17 wf_18 rfl (Nat.le_of_ble_eq_true rfl) (Nat.le_of_ble_eq_true rfl) (Nat.le_of_ble_eq_true rfl) (Nat.le_of_ble_eq_true rfl) (s364_X1_isOver  (d + 1)  ) ?_
  rintro _ _ ⟨rfl, rfl⟩
  dsimp only [Option.toList, List.cons_append, List.nil_append]
  refine G_if_ne (pc := 13) (tgt := 38) (by decide) dX1_goRest_13 (fun z => absurd (by decide) z) (fun _ => ?_)
  refine G_iload_n (pc := 16) rfl dX1_goRest_16 ?_
  refine G_aload_n (pc := 17) rfl dX1_goRest_17 ?_
  refine G_aload_n (pc := 18) rfl dX1_goRest_18 ?_
  refine G_callV (pc := 19) (mc1 := 0) (ms1 := 0) (ci := 1) (mj := mX1_restAct) (vs := []) dX1_goRest_19 rfl rfl cm_X1_restAct wf_173 wf_66 wf_67 rfl (Nat.le_of_ble_eq_true rfl) (Nat.le_of_ble_eq_true rfl) (Nat.le_of_ble_eq_true rfl) (Nat.le_of_ble_eq_true rfl) (s365_X1_restAct  (d + 1)  ) ?_
  rintro _ _ ⟨rfl, rfl⟩
  dsimp only [Option.toList, List.cons_append, List.nil_append]
  refine G_callV (pc := 22) (mc1 := 0) (ms1 := 0) (ci := 1) (mj := mX1_tell) (vs := [_]) dX1_goRest_22 rfl rfl cm_X1_tell wf_69 wf_71 wf_72 rfl (Nat.le_of_ble_eq_true rfl) (Nat.le_of_ble_eq_true rfl) (Nat.le_of_ble_eq_true rfl) (Nat.le_of_ble_eq_true rfl) (s366_X1_tell  d  ) ?_
  rintro _ _ ⟨rfl, rfl⟩
  dsimp only [Option.toList, List.cons_append, List.nil_append]
  refine G_aload_n (pc := 25) rfl dX1_goRest_25 ?_
  refine G_callV (pc := 26) (mc1 := 0) (ms1 := 0) (ci := 1) (mj := mX1_melt) (vs := []) dX1_goRest_26 rfl rfl cm_X1_melt wf_73 wf_75 wf_76 rfl (Nat.le_of_ble_eq_true rfl) (Nat.le_of_ble_eq_true rfl) (Nat.le_of_ble_eq_true rfl) (Nat.le_of_ble_eq_true rfl) (s368_X1_melt  (d + 1)  ) ?_
  rintro _ _ ⟨rfl, rfl⟩
  dsimp only [Option.toList, List.cons_append, List.nil_append]
  refine G_iadd (pc := 29) (z := 0) (by decide) dX1_goRest_29 ?_
  refine G_iadd (pc := 30) (z := 0) (by decide) dX1_goRest_30 ?_
  refine G_istore_n (pc := 31) (L1 := [some (.ref 19), some (.int 15), some (.int 0), some (.int 4)]) rfl rfl (by decide) dX1_goRest_31 ?_
  refine G_iinc (pc := 32) (v := 1) (w := 5) (L1 := [some (.ref 19), some (.int 15), some (.int 0), some (.int 5)]) (by decide) rfl rfl (by decide) rfl (by decide) dX1_goRest_32 ?_
  refine G_goto (pc := 35) (tgt := 4) (by decide) dX1_goRest_35 ?_
  refine G_iload_n (pc := 4) rfl dX1_goRest_4 ?_
  refine G_iload_n (pc := 5) rfl dX1_goRest_5 ?_
  refine G_icmp_ge (pc := 6) (tgt := 38) (by decide) dX1_goRest_6 (fun z => absurd z (by decide)) (fun _ => ?_)
  refine G_aload_n (pc := 9) rfl dX1_goRest_9 ?_
  refine G_callV (pc := 10) (mc1 := 0) (ms1 := 0) (ci := 1) (mj := mX1_isOver) (vs := []) dX1_goRest_10 rfl rfl cm_X1_isOver wf_172 wf_17 wf_18 rfl (Nat.le_of_ble_eq_true rfl) (Nat.le_of_ble_eq_true rfl) (Nat.le_of_ble_eq_true rfl) (Nat.le_of_ble_eq_true rfl) (s369_X1_isOver  (d + 1)  ) ?_
  rintro _ _ ⟨rfl, rfl⟩
  dsimp only [Option.toList, List.cons_append, List.nil_append]
  refine G_if_ne (pc := 13) (tgt := 38) (by decide) dX1_goRest_13 (fun z => absurd (by decide) z) (fun _ => ?_)
  refine G_iload_n (pc := 16) rfl dX1_goRest_16 ?_
  refine G_aload_n (pc := 17) rfl dX1_goRest_17 ?_
  refine G_aload_n (pc := 18) rfl dX1_goRest_18 ?_
  refine G_callV (pc := 19) (mc1 := 0) (ms1 := 0) (ci := 1) (mj := mX1_restAct) (vs := []) dX1_goRest_19 rfl rfl cm_X1_restAct wf_173 wf_66 wf_67 rfl (Nat.le_of_ble_eq_true rfl) (Nat.le_of_ble_eq_true rfl) (Nat.le_of_ble_eq_true rfl) (Nat.le_of_ble_eq_true rfl) (s370_X1_restAct  (d + 1)  ) ?_
  rintro _ _ ⟨rfl, rfl⟩
  dsimp only [Option.toList, List.cons_append, List.nil_append]
  refine G_callV (pc := 22) (mc1 := 0) (ms1 := 0) (ci := 1) (mj := mX1_tell) (vs := [_]) dX1_goRest_22 rfl rfl cm_X1_tell wf_69 wf_71 wf_72 rfl (Nat.le_of_ble_eq_true rfl) (Nat.le_of_ble_eq_true rfl) (Nat.le_of_ble_eq_true rfl) (Nat.le_of_ble_eq_true rfl) (s371_X1_tell  d  ) ?_
  rintro _ _ ⟨rfl, rfl⟩
  dsimp only [Option.toList, List.cons_append, List.nil_append]
  refine G_aload_n (pc := 25) rfl dX1_goRest_25 ?_
  refine G_callV (pc := 26) (mc1 := 0) (ms1 := 0) (ci := 1) (mj := mX1_melt) (vs := []) dX1_goRest_26 rfl rfl cm_X1_melt wf_73 wf_75 wf_76 rfl (Nat.le_of_ble_eq_true rfl) (Nat.le_of_ble_eq_true rfl) (Nat.le_of_ble_eq_true rfl) (Nat.le_of_ble_eq_true rfl) (s373_X1_melt  (d + 1)  ) ?_
  rintro _ _ ⟨rfl, rfl⟩
  dsimp only [Option.toList, List.cons_append, List.nil_append]
  refine G_iadd (pc := 29) (z := 0) (by decide) dX1_goRest_29 ?_
  refine G_iadd (pc := 30) (z := 0) (by decide) dX1_goRest_30 ?_
  refine G_istore_n (pc := 31) (L1 := [some (.ref 19), some (.int 15), some (.int 0), some (.int 5)]) rfl rfl (by decide) dX1_goRest_31 ?_
  refine G_iinc (pc := 32) (v := 1) (w := 6) (L1 := [some (.ref 19), some (.int 15), some (.int 0), some (.int 6)]) (by decide) rfl rfl (by decide) rfl (by decide) dX1_goRest_32 ?_
  refine G_goto (pc := 35) (tgt := 4) (by decide) dX1_goRest_35 ?_
  refine G_iload_n (pc := 4) rfl dX1_goRest_4 ?_
  refine G_iload_n (pc := 5) rfl dX1_goRest_5 ?_
  refine G_icmp_ge (pc := 6) (tgt := 38) (by decide) dX1_goRest_6 (fun z => absurd z (by decide)) (fun _ => ?_)
  refine G_aload_n (pc := 9) rfl dX1_goRest_9 ?_
  refine G_callV (pc := 10) (mc1 := 0) (ms1 := 0) (ci := 1) (mj := mX1_isOver) (vs := []) dX1_goRest_10 rfl rfl cm_X1_isOver wf_172 wf_17 wf_18 rfl (Nat.le_of_ble_eq_true rfl) (Nat.le_of_ble_eq_true rfl) (Nat.le_of_ble_eq_true rfl) (Nat.le_of_ble_eq_true rfl) (s374_X1_isOver  (d + 1)  ) ?_
  rintro _ _ ⟨rfl, rfl⟩
  dsimp only [Option.toList, List.cons_append, List.nil_append]
  refine G_if_ne (pc := 13) (tgt := 38) (by decide) dX1_goRest_13 (fun z => absurd (by decide) z) (fun _ => ?_)
  refine G_iload_n (pc := 16) rfl dX1_goRest_16 ?_
  refine G_aload_n (pc := 17) rfl dX1_goRest_17 ?_
  refine G_aload_n (pc := 18) rfl dX1_goRest_18 ?_
  refine G_callV (pc := 19) (mc1 := 0) (ms1 := 0) (ci := 1) (mj := mX1_restAct) (vs := []) dX1_goRest_19 rfl rfl cm_X1_restAct wf_173 wf_66 wf_67 rfl (Nat.le_of_ble_eq_true rfl) (Nat.le_of_ble_eq_true rfl) (Nat.le_of_ble_eq_true rfl) (Nat.le_of_ble_eq_true rfl) (s375_X1_restAct  (d + 1)  ) ?_
  rintro _ _ ⟨rfl, rfl⟩
  dsimp only [Option.toList, List.cons_append, List.nil_append]
  refine G_callV (pc := 22) (mc1 := 0) (ms1 := 0) (ci := 1) (mj := mX1_tell) (vs := [_]) dX1_goRest_22 rfl rfl cm_X1_tell wf_69 wf_71 wf_72 rfl (Nat.le_of_ble_eq_true rfl) (Nat.le_of_ble_eq_true rfl) (Nat.le_of_ble_eq_true rfl) (Nat.le_of_ble_eq_true rfl) (s376_X1_tell  d  ) ?_
  rintro _ _ ⟨rfl, rfl⟩
  dsimp only [Option.toList, List.cons_append, List.nil_append]
  refine G_aload_n (pc := 25) rfl dX1_goRest_25 ?_
  refine G_callV (pc := 26) (mc1 := 0) (ms1 := 0) (ci := 1) (mj := mX1_melt) (vs := []) dX1_goRest_26 rfl rfl cm_X1_melt wf_73 wf_75 wf_76 rfl (Nat.le_of_ble_eq_true rfl) (Nat.le_of_ble_eq_true rfl) (Nat.le_of_ble_eq_true rfl) (Nat.le_of_ble_eq_true rfl) (s378_X1_melt  (d + 1)  ) ?_
  rintro _ _ ⟨rfl, rfl⟩
  dsimp only [Option.toList, List.cons_append, List.nil_append]
  refine G_iadd (pc := 29) (z := 0) (by decide) dX1_goRest_29 ?_
  refine G_iadd (pc := 30) (z := 0) (by decide) dX1_goRest_30 ?_
  refine G_istore_n (pc := 31) (L1 := [some (.ref 19), some (.int 15), some (.int 0), some (.int 6)]) rfl rfl (by decide) dX1_goRest_31 ?_
  refine G_iinc (pc := 32) (v := 1) (w := 7) (L1 := [some (.ref 19), some (.int 15), some (.int 0), some (.int 7)]) (by decide) rfl rfl (by decide) rfl (by decide) dX1_goRest_32 ?_
  refine G_goto (pc := 35) (tgt := 4) (by decide) dX1_goRest_35 ?_
  refine G_iload_n (pc := 4) rfl dX1_goRest_4 ?_
  refine G_iload_n (pc := 5) rfl dX1_goRest_5 ?_
  refine G_icmp_ge (pc := 6) (tgt := 38) (by decide) dX1_goRest_6 (fun z => absurd z (by decide)) (fun _ => ?_)
  refine G_aload_n (pc := 9) rfl dX1_goRest_9 ?_
  refine G_callV (pc := 10) (mc1 := 0) (ms1 := 0) (ci := 1) (mj := mX1_isOver) (vs := []) dX1_goRest_10 rfl rfl cm_X1_isOver wf_172 wf_17 wf_18 rfl (Nat.le_of_ble_eq_true rfl) (Nat.le_of_ble_eq_true rfl) (Nat.le_of_ble_eq_true rfl) (Nat.le_of_ble_eq_true rfl) (s379_X1_isOver  (d + 1)  ) ?_
  rintro _ _ ⟨rfl, rfl⟩
  dsimp only [Option.toList, List.cons_append, List.nil_append]
  refine G_if_ne (pc := 13) (tgt := 38) (by decide) dX1_goRest_13 (fun z => absurd (by decide) z) (fun _ => ?_)
  refine G_iload_n (pc := 16) rfl dX1_goRest_16 ?_
  refine G_aload_n (pc := 17) rfl dX1_goRest_17 ?_
  refine G_aload_n (pc := 18) rfl dX1_goRest_18 ?_
  refine G_callV (pc := 19) (mc1 := 0) (ms1 := 0) (ci := 1) (mj := mX1_restAct) (vs := []) dX1_goRest_19 rfl rfl cm_X1_restAct wf_173 wf_66 wf_67 rfl (Nat.le_of_ble_eq_true rfl) (Nat.le_of_ble_eq_true rfl) (Nat.le_of_ble_eq_true rfl) (Nat.le_of_ble_eq_true rfl) (s380_X1_restAct  (d + 1)  ) ?_
  rintro _ _ ⟨rfl, rfl⟩
  dsimp only [Option.toList, List.cons_append, List.nil_append]
  refine G_callV (pc := 22) (mc1 := 0) (ms1 := 0) (ci := 1) (mj := mX1_tell) (vs := [_]) dX1_goRest_22 rfl rfl cm_X1_tell wf_69 wf_71 wf_72 rfl (Nat.le_of_ble_eq_true rfl) (Nat.le_of_ble_eq_true rfl) (Nat.le_of_ble_eq_true rfl) (Nat.le_of_ble_eq_true rfl) (s381_X1_tell  d  ) ?_
  rintro _ _ ⟨rfl, rfl⟩
  dsimp only [Option.toList, List.cons_append, List.nil_append]
  refine G_aload_n (pc := 25) rfl dX1_goRest_25 ?_
  refine G_callV (pc := 26) (mc1 := 0) (ms1 := 0) (ci := 1) (mj := mX1_melt) (vs := []) dX1_goRest_26 rfl rfl cm_X1_melt wf_73 wf_75 wf_76 rfl (Nat.le_of_ble_eq_true rfl) (Nat.le_of_ble_eq_true rfl) (Nat.le_of_ble_eq_true rfl) (Nat.le_of_ble_eq_true rfl) (s383_X1_melt  (d + 1)  ) ?_
  rintro _ _ ⟨rfl, rfl⟩
  dsimp only [Option.toList, List.cons_append, List.nil_append]
  refine G_iadd (pc := 29) (z := 0) (by decide) dX1_goRest_29 ?_
  refine G_iadd (pc := 30) (z := 0) (by decide) dX1_goRest_30 ?_
  refine G_istore_n (pc := 31) (L1 := [some (.ref 19), some (.int 15), some (.int 0), some (.int 7)]) rfl rfl (by decide) dX1_goRest_31 ?_
  refine G_iinc (pc := 32) (v := 1) (w := 8) (L1 := [some (.ref 19), some (.int 15), some (.int 0), some (.int 8)]) (by decide) rfl rfl (by decide) rfl (by decide) dX1_goRest_32 ?_
  refine G_goto (pc := 35) (tgt := 4) (by decide) dX1_goRest_35 ?_
  refine G_iload_n (pc := 4) rfl dX1_goRest_4 ?_
  refine G_iload_n (pc := 5) rfl dX1_goRest_5 ?_
  refine G_icmp_ge (pc := 6) (tgt := 38) (by decide) dX1_goRest_6 (fun z => absurd z (by decide)) (fun _ => ?_)
  refine G_aload_n (pc := 9) rfl dX1_goRest_9 ?_
  refine G_callV (pc := 10) (mc1 := 0) (ms1 := 0) (ci := 1) (mj := mX1_isOver) (vs := []) dX1_goRest_10 rfl rfl cm_X1_isOver wf_172 wf_17 wf_18 rfl (Nat.le_of_ble_eq_true rfl) (Nat.le_of_ble_eq_true rfl) (Nat.le_of_ble_eq_true rfl) (Nat.le_of_ble_eq_true rfl) (s384_X1_isOver  (d + 1)  ) ?_
  rintro _ _ ⟨rfl, rfl⟩
  dsimp only [Option.toList, List.cons_append, List.nil_append]
  refine G_if_ne (pc := 13) (tgt := 38) (by decide) dX1_goRest_13 (fun z => absurd (by decide) z) (fun _ => ?_)
  refine G_iload_n (pc := 16) rfl dX1_goRest_16 ?_
  refine G_aload_n (pc := 17) rfl dX1_goRest_17 ?_
  refine G_aload_n (pc := 18) rfl dX1_goRest_18 ?_
  refine G_callV (pc := 19) (mc1 := 0) (ms1 := 0) (ci := 1) (mj := mX1_restAct) (vs := []) dX1_goRest_19 rfl rfl cm_X1_restAct wf_173 wf_66 wf_67 rfl (Nat.le_of_ble_eq_true rfl) (Nat.le_of_ble_eq_true rfl) (Nat.le_of_ble_eq_true rfl) (Nat.le_of_ble_eq_true rfl) (s385_X1_restAct  (d + 1)  ) ?_
  rintro _ _ ⟨rfl, rfl⟩
  dsimp only [Option.toList, List.cons_append, List.nil_append]
  refine G_callV (pc := 22) (mc1 := 0) (ms1 := 0) (ci := 1) (mj := mX1_tell) (vs := [_]) dX1_goRest_22 rfl rfl cm_X1_tell wf_69 wf_71 wf_72 rfl (Nat.le_of_ble_eq_true rfl) (Nat.le_of_ble_eq_true rfl) (Nat.le_of_ble_eq_true rfl) (Nat.le_of_ble_eq_true rfl) (s386_X1_tell  d  ) ?_
  rintro _ _ ⟨rfl, rfl⟩
  dsimp only [Option.toList, List.cons_append, List.nil_append]
  refine G_aload_n (pc := 25) rfl dX1_goRest_25 ?_
  refine G_callV (pc := 26) (mc1 := 0) (ms1 := 0) (ci := 1) (mj := mX1_melt) (vs := []) dX1_goRest_26 rfl rfl cm_X1_melt wf_73 wf_75 wf_76 rfl (Nat.le_of_ble_eq_true rfl) (Nat.le_of_ble_eq_true rfl) (Nat.le_of_ble_eq_true rfl) (Nat.le_of_ble_eq_true rfl) (s388_X1_melt  (d + 1)  ) ?_
  rintro _ _ ⟨rfl, rfl⟩
  dsimp only [Option.toList, List.cons_append, List.nil_append]
  refine G_iadd (pc := 29) (z := 0) (by decide) dX1_goRest_29 ?_
  refine G_iadd (pc := 30) (z := 0) (by decide) dX1_goRest_30 ?_
  refine G_istore_n (pc := 31) (L1 := [some (.ref 19), some (.int 15), some (.int 0), some (.int 8)]) rfl rfl (by decide) dX1_goRest_31 ?_
  refine G_iinc (pc := 32) (v := 1) (w := 9) (L1 := [some (.ref 19), some (.int 15), some (.int 0), some (.int 9)]) (by decide) rfl rfl (by decide) rfl (by decide) dX1_goRest_32 ?_
  refine G_goto (pc := 35) (tgt := 4) (by decide) dX1_goRest_35 ?_
  refine G_iload_n (pc := 4) rfl dX1_goRest_4 ?_
  refine G_iload_n (pc := 5) rfl dX1_goRest_5 ?_
  refine G_icmp_ge (pc := 6) (tgt := 38) (by decide) dX1_goRest_6 (fun z => absurd z (by decide)) (fun _ => ?_)
  refine G_aload_n (pc := 9) rfl dX1_goRest_9 ?_
  refine G_callV (pc := 10) (mc1 := 0) (ms1 := 0) (ci := 1) (mj := mX1_isOver) (vs := []) dX1_goRest_10 rfl rfl cm_X1_isOver wf_172 wf_17 wf_18 rfl (Nat.le_of_ble_eq_true rfl) (Nat.le_of_ble_eq_true rfl) (Nat.le_of_ble_eq_true rfl) (Nat.le_of_ble_eq_true rfl) (s389_X1_isOver  (d + 1)  ) ?_
  rintro _ _ ⟨rfl, rfl⟩
  dsimp only [Option.toList, List.cons_append, List.nil_append]
  refine G_if_ne (pc := 13) (tgt := 38) (by decide) dX1_goRest_13 (fun z => absurd (by decide) z) (fun _ => ?_)
  refine G_iload_n (pc := 16) rfl dX1_goRest_16 ?_
  refine G_aload_n (pc := 17) rfl dX1_goRest_17 ?_
  refine G_aload_n (pc := 18) rfl dX1_goRest_18 ?_
  refine G_callV (pc := 19) (mc1 := 0) (ms1 := 0) (ci := 1) (mj := mX1_restAct) (vs := []) dX1_goRest_19 rfl rfl cm_X1_restAct wf_173 wf_66 wf_67 rfl (Nat.le_of_ble_eq_true rfl) (Nat.le_of_ble_eq_true rfl) (Nat.le_of_ble_eq_true rfl) (Nat.le_of_ble_eq_true rfl) (s390_X1_restAct  (d + 1)  ) ?_
  rintro _ _ ⟨rfl, rfl⟩
  dsimp only [Option.toList, List.cons_append, List.nil_append]
  refine G_callV (pc := 22) (mc1 := 0) (ms1 := 0) (ci := 1) (mj := mX1_tell) (vs := [_]) dX1_goRest_22 rfl rfl cm_X1_tell wf_69 wf_71 wf_72 rfl (Nat.le_of_ble_eq_true rfl) (Nat.le_of_ble_eq_true rfl) (Nat.le_of_ble_eq_true rfl) (Nat.le_of_ble_eq_true rfl) (s391_X1_tell  d  ) ?_
  rintro _ _ ⟨rfl, rfl⟩
  dsimp only [Option.toList, List.cons_append, List.nil_append]
  refine G_aload_n (pc := 25) rfl dX1_goRest_25 ?_
  refine G_callV (pc := 26) (mc1 := 0) (ms1 := 0) (ci := 1) (mj := mX1_melt) (vs := []) dX1_goRest_26 rfl rfl cm_X1_melt wf_73 wf_75 wf_76 rfl (Nat.le_of_ble_eq_true rfl) (Nat.le_of_ble_eq_true rfl) (Nat.le_of_ble_eq_true rfl) (Nat.le_of_ble_eq_true rfl) (s393_X1_melt  (d + 1)  ) ?_
  rintro _ _ ⟨rfl, rfl⟩
  dsimp only [Option.toList, List.cons_append, List.nil_append]
  refine G_iadd (pc := 29) (z := 0) (by decide) dX1_goRest_29 ?_
  refine G_iadd (pc := 30) (z := 0) (by decide) dX1_goRest_30 ?_
  refine G_istore_n (pc := 31) (L1 := [some (.ref 19), some (.int 15), some (.int 0), some (.int 9)]) rfl rfl (by decide) dX1_goRest_31 ?_
  refine G_iinc (pc := 32) (v := 1) (w := 10) (L1 := [some (.ref 19), some (.int 15), some (.int 0), some (.int 10)]) (by decide) rfl rfl (by decide) rfl (by decide) dX1_goRest_32 ?_
  refine G_goto (pc := 35) (tgt := 4) (by decide) dX1_goRest_35 ?_
  refine G_iload_n (pc := 4) rfl dX1_goRest_4 ?_
  refine G_iload_n (pc := 5) rfl dX1_goRest_5 ?_
  refine G_icmp_ge (pc := 6) (tgt := 38) (by decide) dX1_goRest_6 (fun z => absurd z (by decide)) (fun _ => ?_)
  refine G_aload_n (pc := 9) rfl dX1_goRest_9 ?_
  refine G_callV (pc := 10) (mc1 := 0) (ms1 := 0) (ci := 1) (mj := mX1_isOver) (vs := []) dX1_goRest_10 rfl rfl cm_X1_isOver wf_172 wf_17 wf_18 rfl (Nat.le_of_ble_eq_true rfl) (Nat.le_of_ble_eq_true rfl) (Nat.le_of_ble_eq_true rfl) (Nat.le_of_ble_eq_true rfl) (s394_X1_isOver  (d + 1)  ) ?_
  rintro _ _ ⟨rfl, rfl⟩
  dsimp only [Option.toList, List.cons_append, List.nil_append]
  refine G_if_ne (pc := 13) (tgt := 38) (by decide) dX1_goRest_13 (fun z => absurd (by decide) z) (fun _ => ?_)
  refine G_iload_n (pc := 16) rfl dX1_goRest_16 ?_
  refine G_aload_n (pc := 17) rfl dX1_goRest_17 ?_
  refine G_aload_n (pc := 18) rfl dX1_goRest_18 ?_
  refine G_callV (pc := 19) (mc1 := 0) (ms1 := 0) (ci := 1) (mj := mX1_restAct) (vs := []) dX1_goRest_19 rfl rfl cm_X1_restAct wf_173 wf_66 wf_67 rfl (Nat.le_of_ble_eq_true rfl) (Nat.le_of_ble_eq_true rfl) (Nat.le_of_ble_eq_true rfl) (Nat.le_of_ble_eq_true rfl) (s395_X1_restAct  (d + 1)  ) ?_
  rintro _ _ ⟨rfl, rfl⟩
  dsimp only [Option.toList, List.cons_append, List.nil_append]
  refine G_callV (pc := 22) (mc1 := 0) (ms1 := 0) (ci := 1) (mj := mX1_tell) (vs := [_]) dX1_goRest_22 rfl rfl cm_X1_tell wf_69 wf_71 wf_72 rfl (Nat.le_of_ble_eq_true rfl) (Nat.le_of_ble_eq_true rfl) (Nat.le_of_ble_eq_true rfl) (Nat.le_of_ble_eq_true rfl) (s396_X1_tell  d  ) ?_
  rintro _ _ ⟨rfl, rfl⟩
  dsimp only [Option.toList, List.cons_append, List.nil_append]
  refine G_aload_n (pc := 25) rfl dX1_goRest_25 ?_
  refine G_callV (pc := 26) (mc1 := 0) (ms1 := 0) (ci := 1) (mj := mX1_melt) (vs := []) dX1_goRest_26 rfl rfl cm_X1_melt wf_73 wf_75 wf_76 rfl (Nat.le_of_ble_eq_true rfl) (Nat.le_of_ble_eq_true rfl) (Nat.le_of_ble_eq_true rfl) (Nat.le_of_ble_eq_true rfl) (s398_X1_melt  (d + 1)  ) ?_
  rintro _ _ ⟨rfl, rfl⟩
  dsimp only [Option.toList, List.cons_append, List.nil_append]
  refine G_iadd (pc := 29) (z := 0) (by decide) dX1_goRest_29 ?_
  refine G_iadd (pc := 30) (z := 0) (by decide) dX1_goRest_30 ?_
  refine G_istore_n (pc := 31) (L1 := [some (.ref 19), some (.int 15), some (.int 0), some (.int 10)]) rfl rfl (by decide) dX1_goRest_31 ?_
  refine G_iinc (pc := 32) (v := 1) (w := 11) (L1 := [some (.ref 19), some (.int 15), some (.int 0), some (.int 11)]) (by decide) rfl rfl (by decide) rfl (by decide) dX1_goRest_32 ?_
  refine G_goto (pc := 35) (tgt := 4) (by decide) dX1_goRest_35 ?_
  refine G_iload_n (pc := 4) rfl dX1_goRest_4 ?_
  refine G_iload_n (pc := 5) rfl dX1_goRest_5 ?_
  refine G_icmp_ge (pc := 6) (tgt := 38) (by decide) dX1_goRest_6 (fun z => absurd z (by decide)) (fun _ => ?_)
  refine G_aload_n (pc := 9) rfl dX1_goRest_9 ?_
  refine G_callV (pc := 10) (mc1 := 0) (ms1 := 0) (ci := 1) (mj := mX1_isOver) (vs := []) dX1_goRest_10 rfl rfl cm_X1_isOver wf_172 wf_17 wf_18 rfl (Nat.le_of_ble_eq_true rfl) (Nat.le_of_ble_eq_true rfl) (Nat.le_of_ble_eq_true rfl) (Nat.le_of_ble_eq_true rfl) (s399_X1_isOver  (d + 1)  ) ?_
  rintro _ _ ⟨rfl, rfl⟩
  dsimp only [Option.toList, List.cons_append, List.nil_append]
  refine G_if_ne (pc := 13) (tgt := 38) (by decide) dX1_goRest_13 (fun z => absurd (by decide) z) (fun _ => ?_)
  refine G_iload_n (pc := 16) rfl dX1_goRest_16 ?_
  refine G_aload_n (pc := 17) rfl dX1_goRest_17 ?_
  refine G_aload_n (pc := 18) rfl dX1_goRest_18 ?_
  refine G_callV (pc := 19) (mc1 := 0) (ms1 := 0) (ci := 1) (mj := mX1_restAct) (vs := []) dX1_goRest_19 rfl rfl cm_X1_restAct wf_173 wf_66 wf_67 rfl (Nat.le_of_ble_eq_true rfl) (Nat.le_of_ble_eq_true rfl) (Nat.le_of_ble_eq_true rfl) (Nat.le_of_ble_eq_true rfl) (s400_X1_restAct  (d + 1)  ) ?_
  rintro _ _ ⟨rfl, rfl⟩
  dsimp only [Option.toList, List.cons_append, List.nil_append]
  refine G_callV (pc := 22) (mc1 := 0) (ms1 := 0) (ci := 1) (mj := mX1_tell) (vs := [_]) dX1_goRest_22 rfl rfl cm_X1_tell wf_69 wf_71 wf_72 rfl (Nat.le_of_ble_eq_true rfl) (Nat.le_of_ble_eq_true rfl) (Nat.le_of_ble_eq_true rfl) (Nat.le_of_ble_eq_true rfl) (s401_X1_tell  d  ) ?_
  rintro _ _ ⟨rfl, rfl⟩
  dsimp only [Option.toList, List.cons_append, List.nil_append]
  refine G_aload_n (pc := 25) rfl dX1_goRest_25 ?_
  refine G_callV (pc := 26) (mc1 := 0) (ms1 := 0) (ci := 1) (mj := mX1_melt) (vs := []) dX1_goRest_26 rfl rfl cm_X1_melt wf_73 wf_75 wf_76 rfl (Nat.le_of_ble_eq_true rfl) (Nat.le_of_ble_eq_true rfl) (Nat.le_of_ble_eq_true rfl) (Nat.le_of_ble_eq_true rfl) (s403_X1_melt  (d + 1)  ) ?_
  rintro _ _ ⟨rfl, rfl⟩
  dsimp only [Option.toList, List.cons_append, List.nil_append]
  refine G_iadd (pc := 29) (z := 0) (by decide) dX1_goRest_29 ?_
  refine G_iadd (pc := 30) (z := 0) (by decide) dX1_goRest_30 ?_
  refine G_istore_n (pc := 31) (L1 := [some (.ref 19), some (.int 15), some (.int 0), some (.int 11)]) rfl rfl (by decide) dX1_goRest_31 ?_
  refine G_iinc (pc := 32) (v := 1) (w := 12) (L1 := [some (.ref 19), some (.int 15), some (.int 0), some (.int 12)]) (by decide) rfl rfl (by decide) rfl (by decide) dX1_goRest_32 ?_
  refine G_goto (pc := 35) (tgt := 4) (by decide) dX1_goRest_35 ?_
  refine G_iload_n (pc := 4) rfl dX1_goRest_4 ?_
  refine G_iload_n (pc := 5) rfl dX1_goRest_5 ?_
  refine G_icmp_ge (pc := 6) (tgt := 38) (by decide) dX1_goRest_6 (fun z => absurd z (by decide)) (fun _ => ?_)
  refine G_aload_n (pc := 9) rfl dX1_goRest_9 ?_
  refine G_callV (pc := 10) (mc1 := 0) (ms1 := 0) (ci := 1) (mj := mX1_isOver) (vs := []) dX1_goRest_10 rfl rfl cm_X1_isOver wf_172 wf_17 wf_18 rfl (Nat.le_of_ble_eq_true rfl) (Nat.le_of_ble_eq_true rfl) (Nat.le_of_ble_eq_true rfl) (Nat.le_of_ble_eq_true rfl) (s404_X1_isOver  (d + 1)  ) ?_
  rintro _ _ ⟨rfl, rfl⟩
  dsimp only [Option.toList, List.cons_append, List.nil_append]
  refine G_if_ne (pc := 13) (tgt := 38) (by decide) dX1_goRest_13 (fun _ => ?_) (fun z => absurd z (by decide))
  refine G_iload_n (pc := 38) rfl dX1_goRest_38 ?_
  exact G_iret (pc := 39) (Nat.le_of_ble_eq_true rfl) (Nat.le_of_ble_eq_true rfl) rfl dX1_goRest_39 ⟨rfl, rfl⟩
