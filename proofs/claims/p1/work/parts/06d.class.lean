set_option maxRecDepth 100000 in
set_option maxHeartbeats 4000000 in
theorem s320_X1_melt  (d : Nat)   : G (d) mX1_melt 0 0 0 0 0 (gent 3 [.ref 19]) [] SH0 RF0 (gup (gup (gup (gcp (gup (gup (gup (gup (gup (gup (gcp (gup (gup (gup (gup (gup (gcp (gup (gup (gup (gup (gup (gcp (gup (gup (gup (gup (gup (gup (gcp (gup (gup (gup (gup (gup (gup (gup (gcp (gup (gup (gup (gup (gup (gup (gup (gcp (gup (gup (gup (gup I0 52 0 0) 53 0 1) 54 0 0) 52 0 (-1)) 24 34 (0 : Int32).toNatClampNeg (0 : Int32).toNatClampNeg (6 : Int32).toNatClampNeg) 34 6 0) 34 7 0) 19 1 1) 52 1 0) 53 1 1) 54 1 0) 52 1 (-1)) 24 34 (0 : Int32).toNatClampNeg (8 : Int32).toNatClampNeg (6 : Int32).toNatClampNeg) 34 14 0) 34 15 1) 19 1 2) 52 2 0) 53 2 1) 54 2 0) 52 2 (-1)) 24 34 (0 : Int32).toNatClampNeg (16 : Int32).toNatClampNeg (6 : Int32).toNatClampNeg) 34 22 0) 34 23 2) 19 1 3) 52 3 0) 53 3 1) 54 3 0) 34 24 (16 : Int32).toNatClampNeg (0 : Int32).toNatClampNeg (6 : Int32).toNatClampNeg) 19 9 0) 19 1 2) 52 2 0) 53 2 1) 54 2 0) 34 24 (8 : Int32).toNatClampNeg (0 : Int32).toNatClampNeg (6 : Int32).toNatClampNeg) 19 9 0) 19 1 1) 52 1 0) 53 1 1) 54 1 0) 34 24 (0 : Int32).toNatClampNeg (0 : Int32).toNatClampNeg (6 : Int32).toNatClampNeg) 19 9 0) 19 1 0) 52 0 0) 53 0 1) 54 0 0) 0 7 3) 24 34 (0 : Int32).toNatClampNeg (0 : Int32).toNatClampNeg (6 : Int32).toNatClampNeg) 34 6 0) 34 7 0) 1 0 0) (fun r h => r = some (.int 0) ∧ h = (SH0, RF0, (gup (gup (gup (gup (gcp (gup (gup (gup (gup (gup (gup (gcp (gup (gup (gup (gup (gup (gcp (gup (gup (gup (gup (gup (gcp (gup (gup (gup (gup (gup (gup (gcp (gup (gup (gup (gup (gup (gup (gup (gcp (gup (gup (gup (gup (gup (gup (gup (gcp (gup (gup (gup (gup I0 52 0 0) 53 0 1) 54 0 0) 52 0 (-1)) 24 34 (0 : Int32).toNatClampNeg (0 : Int32).toNatClampNeg (6 : Int32).toNatClampNeg) 34 6 0) 34 7 0) 19 1 1) 52 1 0) 53 1 1) 54 1 0) 52 1 (-1)) 24 34 (0 : Int32).toNatClampNeg (8 : Int32).toNatClampNeg (6 : Int32).toNatClampNeg) 34 14 0) 34 15 1) 19 1 2) 52 2 0) 53 2 1) 54 2 0) 52 2 (-1)) 24 34 (0 : Int32).toNatClampNeg (16 : Int32).toNatClampNeg (6 : Int32).toNatClampNeg) 34 22 0) 34 23 2) 19 1 3) 52 3 0) 53 3 1) 54 3 0) 34 24 (16 : Int32).toNatClampNeg (0 : Int32).toNatClampNeg (6 : Int32).toNatClampNeg) 19 9 0) 19 1 2) 52 2 0) 53 2 1) 54 2 0) 34 24 (8 : Int32).toNatClampNeg (0 : Int32).toNatClampNeg (6 : Int32).toNatClampNeg) 19 9 0) 19 1 1) 52 1 0) 53 1 1) 54 1 0) 34 24 (0 : Int32).toNatClampNeg (0 : Int32).toNatClampNeg (6 : Int32).toNatClampNeg) 19 9 0) 19 1 0) 52 0 0) 53 0 1) 54 0 0) 0 7 3) 24 34 (0 : Int32).toNatClampNeg (0 : Int32).toNatClampNeg (6 : Int32).toNatClampNeg) 34 6 0) 34 7 0) 1 0 0) 19 1 1))) := by
  refine G_iconst (pc := 0) (v := 0) (by decide) dX1_melt_0 ?_
  refine G_istore_n (pc := 1) (L1 := [some (.ref 19), some (.int 0), none]) rfl rfl (by decide) dX1_melt_1 ?_
  refine G_iconst (pc := 2) (v := 0) (by decide) dX1_melt_2 ?_
  refine G_istore_n (pc := 3) (L1 := [some (.ref 19), some (.int 0), some (.int 0)]) rfl rfl (by decide) dX1_melt_3 ?_
  refine G_iload_n (pc := 4) rfl dX1_melt_4 ?_
  refine G_aload_n (pc := 5) rfl dX1_melt_5 ?_
  refine G_getI (pc := 6) (v := 0) (ci := 1) (j := 8) rfl rfl lk_RX1_72 rfl rfl dX1_melt_6 ?_
  refine G_icmp_ge (pc := 9) (tgt := 60) (by decide) dX1_melt_9 (fun _ => ?_) (fun z => absurd (by decide) z)
  refine G_aload_n (pc := 60) rfl dX1_melt_60 ?_
  refine G_dup (pc := 61) rfl dX1_melt_61 ?_
  refine G_getI (pc := 62) (v := 0) (ci := 1) (j := 1) rfl rfl lk_RX1_60 rfl rfl dX1_melt_62 ?_
  refine G_iconst (pc := 65) (v := 1) (by decide) dX1_melt_65 ?_
  refine G_iadd (pc := 66) (z := 1) (by decide) dX1_melt_66 ?_
  refine G_putI (pc := 67) (ci := 1) (j := 1) rfl lk_RX1_60 rfl rfl rfl trivial dX1_melt_67 ?_
  refine G_iload_n (pc := 70) rfl dX1_melt_70 ?_
  exact G_iret (pc := 71) (Nat.le_of_ble_eq_true rfl) (Nat.le_of_ble_eq_true rfl) rfl dX1_melt_71 ⟨rfl, rfl⟩
set_option maxRecDepth 100000 in
set_option maxHeartbeats 4000000 in
theorem s317_X1_goBy  (d : Nat)   : G (d + 2) mX1_goBy 0 0 0 0 0 (gent 2 [.ref 19, .int 0]) [] SH0 RF0 (gup (gup (gup (gcp (gup (gup (gup (gup (gup (gup (gcp (gup (gup (gup (gup (gup (gcp (gup (gup (gup (gup (gup (gcp (gup (gup (gup (gup (gup (gup (gcp (gup (gup (gup (gup (gup (gup (gup (gcp (gup (gup (gup (gup (gup (gup (gup (gcp (gup (gup (gup (gup I0 52 0 0) 53 0 1) 54 0 0) 52 0 (-1)) 24 34 (0 : Int32).toNatClampNeg (0 : Int32).toNatClampNeg (6 : Int32).toNatClampNeg) 34 6 0) 34 7 0) 19 1 1) 52 1 0) 53 1 1) 54 1 0) 52 1 (-1)) 24 34 (0 : Int32).toNatClampNeg (8 : Int32).toNatClampNeg (6 : Int32).toNatClampNeg) 34 14 0) 34 15 1) 19 1 2) 52 2 0) 53 2 1) 54 2 0) 52 2 (-1)) 24 34 (0 : Int32).toNatClampNeg (16 : Int32).toNatClampNeg (6 : Int32).toNatClampNeg) 34 22 0) 34 23 2) 19 1 3) 52 3 0) 53 3 1) 54 3 0) 34 24 (16 : Int32).toNatClampNeg (0 : Int32).toNatClampNeg (6 : Int32).toNatClampNeg) 19 9 0) 19 1 2) 52 2 0) 53 2 1) 54 2 0) 34 24 (8 : Int32).toNatClampNeg (0 : Int32).toNatClampNeg (6 : Int32).toNatClampNeg) 19 9 0) 19 1 1) 52 1 0) 53 1 1) 54 1 0) 34 24 (0 : Int32).toNatClampNeg (0 : Int32).toNatClampNeg (6 : Int32).toNatClampNeg) 19 9 0) 19 1 0) 52 0 0) 53 0 1) 54 0 0) 0 7 3) 24 34 (0 : Int32).toNatClampNeg (0 : Int32).toNatClampNeg (6 : Int32).toNatClampNeg) 34 6 0) 34 7 0) 1 0 0) (fun r h => r = some (.int 0) ∧ h = (SH0, RF0, (gup (gup (gup (gup (gcp (gup (gup (gup (gup (gup (gup (gcp (gup (gup (gup (gup (gup (gcp (gup (gup (gup (gup (gup (gcp (gup (gup (gup (gup (gup (gup (gcp (gup (gup (gup (gup (gup (gup (gup (gcp (gup (gup (gup (gup (gup (gup (gup (gcp (gup (gup (gup (gup I0 52 0 0) 53 0 1) 54 0 0) 52 0 (-1)) 24 34 (0 : Int32).toNatClampNeg (0 : Int32).toNatClampNeg (6 : Int32).toNatClampNeg) 34 6 0) 34 7 0) 19 1 1) 52 1 0) 53 1 1) 54 1 0) 52 1 (-1)) 24 34 (0 : Int32).toNatClampNeg (8 : Int32).toNatClampNeg (6 : Int32).toNatClampNeg) 34 14 0) 34 15 1) 19 1 2) 52 2 0) 53 2 1) 54 2 0) 52 2 (-1)) 24 34 (0 : Int32).toNatClampNeg (16 : Int32).toNatClampNeg (6 : Int32).toNatClampNeg) 34 22 0) 34 23 2) 19 1 3) 52 3 0) 53 3 1) 54 3 0) 34 24 (16 : Int32).toNatClampNeg (0 : Int32).toNatClampNeg (6 : Int32).toNatClampNeg) 19 9 0) 19 1 2) 52 2 0) 53 2 1) 54 2 0) 34 24 (8 : Int32).toNatClampNeg (0 : Int32).toNatClampNeg (6 : Int32).toNatClampNeg) 19 9 0) 19 1 1) 52 1 0) 53 1 1) 54 1 0) 34 24 (0 : Int32).toNatClampNeg (0 : Int32).toNatClampNeg (6 : Int32).toNatClampNeg) 19 9 0) 19 1 0) 52 0 0) 53 0 1) 54 0 0) 0 7 3) 24 34 (0 : Int32).toNatClampNeg (0 : Int32).toNatClampNeg (6 : Int32).toNatClampNeg) 34 6 0) 34 7 0) 1 0 0) 19 1 1))) := by
  refine G_aload_n (pc := 0) rfl dX1_goBy_0 ?_
  refine G_iload_n (pc := 1) rfl dX1_goBy_1 ?_
  refine G_callV (pc := 2) (mc1 := 0) (ms1 := 0) (ci := 1) (mj := mX1_tell) (vs := [_]) dX1_goBy_2 rfl rfl cm_X1_tell wf_69 wf_71 wf_72 rfl (Nat.le_of_ble_eq_true rfl) (Nat.le_of_ble_eq_true rfl) (Nat.le_of_ble_eq_true rfl) (Nat.le_of_ble_eq_true rfl) (s318_X1_tell  d  ) ?_
  rintro _ _ ⟨rfl, rfl⟩
  dsimp only [Option.toList, List.cons_append, List.nil_append]
  refine G_aload_n (pc := 5) rfl dX1_goBy_5 ?_
  refine G_callV (pc := 6) (mc1 := 0) (ms1 := 0) (ci := 1) (mj := mX1_melt) (vs := []) dX1_goBy_6 rfl rfl cm_X1_melt wf_73 wf_75 wf_76 rfl (Nat.le_of_ble_eq_true rfl) (Nat.le_of_ble_eq_true rfl) (Nat.le_of_ble_eq_true rfl) (Nat.le_of_ble_eq_true rfl) (s320_X1_melt  (d + 1)  ) ?_
  rintro _ _ ⟨rfl, rfl⟩
  dsimp only [Option.toList, List.cons_append, List.nil_append]
  refine G_iadd (pc := 9) (z := 0) (by decide) dX1_goBy_9 ?_
  exact G_iret (pc := 10) (Nat.le_of_ble_eq_true rfl) (Nat.le_of_ble_eq_true rfl) rfl dX1_goBy_10 ⟨rfl, rfl⟩
set_option maxRecDepth 100000 in
set_option maxHeartbeats 4000000 in
theorem s323_X1_isKey  (d : Nat)   : G (d) mX1_isKey 0 0 0 0 0 (gent 2 [.ref 19, .int (-1)]) [] SH0 RF0 (gup (gup (gup (gup (gup (gup (gup (gcp (gup (gup (gup (gup (gup (gup (gcp (gup (gup (gup (gup (gup (gcp (gup (gup (gup (gup (gup (gcp (gup (gup (gup (gup (gup (gup (gcp (gup (gup (gup (gup (gup (gup (gup (gcp (gup (gup (gup (gup (gup (gup (gup (gcp (gup (gup (gup (gup I0 52 0 0) 53 0 1) 54 0 0) 52 0 (-1)) 24 34 (0 : Int32).toNatClampNeg (0 : Int32).toNatClampNeg (6 : Int32).toNatClampNeg) 34 6 0) 34 7 0) 19 1 1) 52 1 0) 53 1 1) 54 1 0) 52 1 (-1)) 24 34 (0 : Int32).toNatClampNeg (8 : Int32).toNatClampNeg (6 : Int32).toNatClampNeg) 34 14 0) 34 15 1) 19 1 2) 52 2 0) 53 2 1) 54 2 0) 52 2 (-1)) 24 34 (0 : Int32).toNatClampNeg (16 : Int32).toNatClampNeg (6 : Int32).toNatClampNeg) 34 22 0) 34 23 2) 19 1 3) 52 3 0) 53 3 1) 54 3 0) 34 24 (16 : Int32).toNatClampNeg (0 : Int32).toNatClampNeg (6 : Int32).toNatClampNeg) 19 9 0) 19 1 2) 52 2 0) 53 2 1) 54 2 0) 34 24 (8 : Int32).toNatClampNeg (0 : Int32).toNatClampNeg (6 : Int32).toNatClampNeg) 19 9 0) 19 1 1) 52 1 0) 53 1 1) 54 1 0) 34 24 (0 : Int32).toNatClampNeg (0 : Int32).toNatClampNeg (6 : Int32).toNatClampNeg) 19 9 0) 19 1 0) 52 0 0) 53 0 1) 54 0 0) 0 7 3) 24 34 (0 : Int32).toNatClampNeg (0 : Int32).toNatClampNeg (6 : Int32).toNatClampNeg) 34 6 0) 34 7 0) 1 0 0) 19 1 1) 1 1 0) 1 2 0) 1 3 0) (fun r h => r = some (.int 0) ∧ h = (SH0, RF0, (gup (gup (gup (gup (gup (gup (gup (gcp (gup (gup (gup (gup (gup (gup (gcp (gup (gup (gup (gup (gup (gcp (gup (gup (gup (gup (gup (gcp (gup (gup (gup (gup (gup (gup (gcp (gup (gup (gup (gup (gup (gup (gup (gcp (gup (gup (gup (gup (gup (gup (gup (gcp (gup (gup (gup (gup I0 52 0 0) 53 0 1) 54 0 0) 52 0 (-1)) 24 34 (0 : Int32).toNatClampNeg (0 : Int32).toNatClampNeg (6 : Int32).toNatClampNeg) 34 6 0) 34 7 0) 19 1 1) 52 1 0) 53 1 1) 54 1 0) 52 1 (-1)) 24 34 (0 : Int32).toNatClampNeg (8 : Int32).toNatClampNeg (6 : Int32).toNatClampNeg) 34 14 0) 34 15 1) 19 1 2) 52 2 0) 53 2 1) 54 2 0) 52 2 (-1)) 24 34 (0 : Int32).toNatClampNeg (16 : Int32).toNatClampNeg (6 : Int32).toNatClampNeg) 34 22 0) 34 23 2) 19 1 3) 52 3 0) 53 3 1) 54 3 0) 34 24 (16 : Int32).toNatClampNeg (0 : Int32).toNatClampNeg (6 : Int32).toNatClampNeg) 19 9 0) 19 1 2) 52 2 0) 53 2 1) 54 2 0) 34 24 (8 : Int32).toNatClampNeg (0 : Int32).toNatClampNeg (6 : Int32).toNatClampNeg) 19 9 0) 19 1 1) 52 1 0) 53 1 1) 54 1 0) 34 24 (0 : Int32).toNatClampNeg (0 : Int32).toNatClampNeg (6 : Int32).toNatClampNeg) 19 9 0) 19 1 0) 52 0 0) 53 0 1) 54 0 0) 0 7 3) 24 34 (0 : Int32).toNatClampNeg (0 : Int32).toNatClampNeg (6 : Int32).toNatClampNeg) 34 6 0) 34 7 0) 1 0 0) 19 1 1) 1 1 0) 1 2 0) 1 3 0))) := by
  refine G_iload_n (pc := 0) rfl dX1_isKey_0 ?_
  refine G_if_lt (pc := 1) (tgt := 16) (by decide) dX1_isKey_1 (fun _ => ?_) (fun z => absurd (by decide) z)
  refine G_iconst (pc := 16) (v := 0) (by decide) dX1_isKey_16 ?_
  exact G_zret (pc := 17) (Nat.le_of_ble_eq_true rfl) (Nat.le_of_ble_eq_true rfl) rfl (by decide) dX1_isKey_17 ⟨rfl, rfl⟩
set_option maxRecDepth 100000 in
set_option maxHeartbeats 4000000 in
theorem s322_X1_tell  (d : Nat)   : G (d + 1) mX1_tell 0 0 0 0 0 (gent 5 [.ref 19, .int 0]) [] SH0 RF0 (gup (gup (gup (gup (gup (gup (gup (gcp (gup (gup (gup (gup (gup (gup (gcp (gup (gup (gup (gup (gup (gcp (gup (gup (gup (gup (gup (gcp (gup (gup (gup (gup (gup (gup (gcp (gup (gup (gup (gup (gup (gup (gup (gcp (gup (gup (gup (gup (gup (gup (gup (gcp (gup (gup (gup (gup I0 52 0 0) 53 0 1) 54 0 0) 52 0 (-1)) 24 34 (0 : Int32).toNatClampNeg (0 : Int32).toNatClampNeg (6 : Int32).toNatClampNeg) 34 6 0) 34 7 0) 19 1 1) 52 1 0) 53 1 1) 54 1 0) 52 1 (-1)) 24 34 (0 : Int32).toNatClampNeg (8 : Int32).toNatClampNeg (6 : Int32).toNatClampNeg) 34 14 0) 34 15 1) 19 1 2) 52 2 0) 53 2 1) 54 2 0) 52 2 (-1)) 24 34 (0 : Int32).toNatClampNeg (16 : Int32).toNatClampNeg (6 : Int32).toNatClampNeg) 34 22 0) 34 23 2) 19 1 3) 52 3 0) 53 3 1) 54 3 0) 34 24 (16 : Int32).toNatClampNeg (0 : Int32).toNatClampNeg (6 : Int32).toNatClampNeg) 19 9 0) 19 1 2) 52 2 0) 53 2 1) 54 2 0) 34 24 (8 : Int32).toNatClampNeg (0 : Int32).toNatClampNeg (6 : Int32).toNatClampNeg) 19 9 0) 19 1 1) 52 1 0) 53 1 1) 54 1 0) 34 24 (0 : Int32).toNatClampNeg (0 : Int32).toNatClampNeg (6 : Int32).toNatClampNeg) 19 9 0) 19 1 0) 52 0 0) 53 0 1) 54 0 0) 0 7 3) 24 34 (0 : Int32).toNatClampNeg (0 : Int32).toNatClampNeg (6 : Int32).toNatClampNeg) 34 6 0) 34 7 0) 1 0 0) 19 1 1) 1 1 0) 1 2 0) 1 3 0) (fun r h => r = some (.int 0) ∧ h = (SH0, RF0, (gup (gup (gup (gup (gup (gup (gup (gcp (gup (gup (gup (gup (gup (gup (gcp (gup (gup (gup (gup (gup (gcp (gup (gup (gup (gup (gup (gcp (gup (gup (gup (gup (gup (gup (gcp (gup (gup (gup (gup (gup (gup (gup (gcp (gup (gup (gup (gup (gup (gup (gup (gcp (gup (gup (gup (gup I0 52 0 0) 53 0 1) 54 0 0) 52 0 (-1)) 24 34 (0 : Int32).toNatClampNeg (0 : Int32).toNatClampNeg (6 : Int32).toNatClampNeg) 34 6 0) 34 7 0) 19 1 1) 52 1 0) 53 1 1) 54 1 0) 52 1 (-1)) 24 34 (0 : Int32).toNatClampNeg (8 : Int32).toNatClampNeg (6 : Int32).toNatClampNeg) 34 14 0) 34 15 1) 19 1 2) 52 2 0) 53 2 1) 54 2 0) 52 2 (-1)) 24 34 (0 : Int32).toNatClampNeg (16 : Int32).toNatClampNeg (6 : Int32).toNatClampNeg) 34 22 0) 34 23 2) 19 1 3) 52 3 0) 53 3 1) 54 3 0) 34 24 (16 : Int32).toNatClampNeg (0 : Int32).toNatClampNeg (6 : Int32).toNatClampNeg) 19 9 0) 19 1 2) 52 2 0) 53 2 1) 54 2 0) 34 24 (8 : Int32).toNatClampNeg (0 : Int32).toNatClampNeg (6 : Int32).toNatClampNeg) 19 9 0) 19 1 1) 52 1 0) 53 1 1) 54 1 0) 34 24 (0 : Int32).toNatClampNeg (0 : Int32).toNatClampNeg (6 : Int32).toNatClampNeg) 19 9 0) 19 1 0) 52 0 0) 53 0 1) 54 0 0) 0 7 3) 24 34 (0 : Int32).toNatClampNeg (0 : Int32).toNatClampNeg (6 : Int32).toNatClampNeg) 34 6 0) 34 7 0) 1 0 0) 19 1 1) 1 1 0) 1 2 0) 1 3 0))) := by
  refine G_iload_n (pc := 0) rfl dX1_tell_0 ?_
  refine G_iconst (pc := 1) (v := 1) (by decide) dX1_tell_1 ?_
  refine G_isub (pc := 2) (z := (-1)) (by decide) dX1_tell_2 ?_
  refine G_istore_n (pc := 3) (L1 := [some (.ref 19), some (.int 0), some (.int (-1)), none, none]) rfl rfl (by decide) dX1_tell_3 ?_
  refine G_aload_n (pc := 4) rfl dX1_tell_4 ?_
  refine G_iload_n (pc := 5) rfl dX1_tell_5 ?_
  refine G_callV (pc := 6) (mc1 := 0) (ms1 := 0) (ci := 1) (mj := mX1_isKey) (vs := [_]) dX1_tell_6 rfl rfl cm_X1_isKey wf_68 wf_13 wf_14 rfl (Nat.le_of_ble_eq_true rfl) (Nat.le_of_ble_eq_true rfl) (Nat.le_of_ble_eq_true rfl) (Nat.le_of_ble_eq_true rfl) (s323_X1_isKey  d  ) ?_
  rintro _ _ ⟨rfl, rfl⟩
  dsimp only [Option.toList, List.cons_append, List.nil_append]
  refine G_if_eq (pc := 9) (tgt := 20) (by decide) dX1_tell_9 (fun _ => ?_) (fun z => absurd (by decide) z)
  refine G_iconst (pc := 20) (v := 0) (by decide) dX1_tell_20 ?_
  exact G_iret (pc := 21) (Nat.le_of_ble_eq_true rfl) (Nat.le_of_ble_eq_true rfl) rfl dX1_tell_21 ⟨rfl, rfl⟩
set_option maxRecDepth 100000 in
set_option maxHeartbeats 4000000 in
theorem s324_X1_melt  (d : Nat)   : G (d) mX1_melt 0 0 0 0 0 (gent 3 [.ref 19]) [] SH0 RF0 (gup (gup (gup (gup (gup (gup (gup (gcp (gup (gup (gup (gup (gup (gup (gcp (gup (gup (gup (gup (gup (gcp (gup (gup (gup (gup (gup (gcp (gup (gup (gup (gup (gup (gup (gcp (gup (gup (gup (gup (gup (gup (gup (gcp (gup (gup (gup (gup (gup (gup (gup (gcp (gup (gup (gup (gup I0 52 0 0) 53 0 1) 54 0 0) 52 0 (-1)) 24 34 (0 : Int32).toNatClampNeg (0 : Int32).toNatClampNeg (6 : Int32).toNatClampNeg) 34 6 0) 34 7 0) 19 1 1) 52 1 0) 53 1 1) 54 1 0) 52 1 (-1)) 24 34 (0 : Int32).toNatClampNeg (8 : Int32).toNatClampNeg (6 : Int32).toNatClampNeg) 34 14 0) 34 15 1) 19 1 2) 52 2 0) 53 2 1) 54 2 0) 52 2 (-1)) 24 34 (0 : Int32).toNatClampNeg (16 : Int32).toNatClampNeg (6 : Int32).toNatClampNeg) 34 22 0) 34 23 2) 19 1 3) 52 3 0) 53 3 1) 54 3 0) 34 24 (16 : Int32).toNatClampNeg (0 : Int32).toNatClampNeg (6 : Int32).toNatClampNeg) 19 9 0) 19 1 2) 52 2 0) 53 2 1) 54 2 0) 34 24 (8 : Int32).toNatClampNeg (0 : Int32).toNatClampNeg (6 : Int32).toNatClampNeg) 19 9 0) 19 1 1) 52 1 0) 53 1 1) 54 1 0) 34 24 (0 : Int32).toNatClampNeg (0 : Int32).toNatClampNeg (6 : Int32).toNatClampNeg) 19 9 0) 19 1 0) 52 0 0) 53 0 1) 54 0 0) 0 7 3) 24 34 (0 : Int32).toNatClampNeg (0 : Int32).toNatClampNeg (6 : Int32).toNatClampNeg) 34 6 0) 34 7 0) 1 0 0) 19 1 1) 1 1 0) 1 2 0) 1 3 0) (fun r h => r = some (.int 0) ∧ h = (SH0, RF0, (gup (gup (gup (gup (gup (gup (gup (gup (gcp (gup (gup (gup (gup (gup (gup (gcp (gup (gup (gup (gup (gup (gcp (gup (gup (gup (gup (gup (gcp (gup (gup (gup (gup (gup (gup (gcp (gup (gup (gup (gup (gup (gup (gup (gcp (gup (gup (gup (gup (gup (gup (gup (gcp (gup (gup (gup (gup I0 52 0 0) 53 0 1) 54 0 0) 52 0 (-1)) 24 34 (0 : Int32).toNatClampNeg (0 : Int32).toNatClampNeg (6 : Int32).toNatClampNeg) 34 6 0) 34 7 0) 19 1 1) 52 1 0) 53 1 1) 54 1 0) 52 1 (-1)) 24 34 (0 : Int32).toNatClampNeg (8 : Int32).toNatClampNeg (6 : Int32).toNatClampNeg) 34 14 0) 34 15 1) 19 1 2) 52 2 0) 53 2 1) 54 2 0) 52 2 (-1)) 24 34 (0 : Int32).toNatClampNeg (16 : Int32).toNatClampNeg (6 : Int32).toNatClampNeg) 34 22 0) 34 23 2) 19 1 3) 52 3 0) 53 3 1) 54 3 0) 34 24 (16 : Int32).toNatClampNeg (0 : Int32).toNatClampNeg (6 : Int32).toNatClampNeg) 19 9 0) 19 1 2) 52 2 0) 53 2 1) 54 2 0) 34 24 (8 : Int32).toNatClampNeg (0 : Int32).toNatClampNeg (6 : Int32).toNatClampNeg) 19 9 0) 19 1 1) 52 1 0) 53 1 1) 54 1 0) 34 24 (0 : Int32).toNatClampNeg (0 : Int32).toNatClampNeg (6 : Int32).toNatClampNeg) 19 9 0) 19 1 0) 52 0 0) 53 0 1) 54 0 0) 0 7 3) 24 34 (0 : Int32).toNatClampNeg (0 : Int32).toNatClampNeg (6 : Int32).toNatClampNeg) 34 6 0) 34 7 0) 1 0 0) 19 1 1) 1 1 0) 1 2 0) 1 3 0) 19 1 2))) := by
  refine G_iconst (pc := 0) (v := 0) (by decide) dX1_melt_0 ?_
  refine G_istore_n (pc := 1) (L1 := [some (.ref 19), some (.int 0), none]) rfl rfl (by decide) dX1_melt_1 ?_
  refine G_iconst (pc := 2) (v := 0) (by decide) dX1_melt_2 ?_
  refine G_istore_n (pc := 3) (L1 := [some (.ref 19), some (.int 0), some (.int 0)]) rfl rfl (by decide) dX1_melt_3 ?_
  refine G_iload_n (pc := 4) rfl dX1_melt_4 ?_
  refine G_aload_n (pc := 5) rfl dX1_melt_5 ?_
  refine G_getI (pc := 6) (v := 0) (ci := 1) (j := 8) rfl rfl lk_RX1_72 rfl rfl dX1_melt_6 ?_
  refine G_icmp_ge (pc := 9) (tgt := 60) (by decide) dX1_melt_9 (fun _ => ?_) (fun z => absurd (by decide) z)
  refine G_aload_n (pc := 60) rfl dX1_melt_60 ?_
  refine G_dup (pc := 61) rfl dX1_melt_61 ?_
  refine G_getI (pc := 62) (v := 1) (ci := 1) (j := 1) rfl rfl lk_RX1_60 rfl rfl dX1_melt_62 ?_
  refine G_iconst (pc := 65) (v := 1) (by decide) dX1_melt_65 ?_
  refine G_iadd (pc := 66) (z := 2) (by decide) dX1_melt_66 ?_
  refine G_putI (pc := 67) (ci := 1) (j := 1) rfl lk_RX1_60 rfl rfl rfl trivial dX1_melt_67 ?_
  refine G_iload_n (pc := 70) rfl dX1_melt_70 ?_
  exact G_iret (pc := 71) (Nat.le_of_ble_eq_true rfl) (Nat.le_of_ble_eq_true rfl) rfl dX1_melt_71 ⟨rfl, rfl⟩
set_option maxRecDepth 100000 in
set_option maxHeartbeats 4000000 in
theorem s321_X1_goBy  (d : Nat)   : G (d + 2) mX1_goBy 0 0 0 0 0 (gent 2 [.ref 19, .int 0]) [] SH0 RF0 (gup (gup (gup (gup (gup (gup (gup (gcp (gup (gup (gup (gup (gup (gup (gcp (gup (gup (gup (gup (gup (gcp (gup (gup (gup (gup (gup (gcp (gup (gup (gup (gup (gup (gup (gcp (gup (gup (gup (gup (gup (gup (gup (gcp (gup (gup (gup (gup (gup (gup (gup (gcp (gup (gup (gup (gup I0 52 0 0) 53 0 1) 54 0 0) 52 0 (-1)) 24 34 (0 : Int32).toNatClampNeg (0 : Int32).toNatClampNeg (6 : Int32).toNatClampNeg) 34 6 0) 34 7 0) 19 1 1) 52 1 0) 53 1 1) 54 1 0) 52 1 (-1)) 24 34 (0 : Int32).toNatClampNeg (8 : Int32).toNatClampNeg (6 : Int32).toNatClampNeg) 34 14 0) 34 15 1) 19 1 2) 52 2 0) 53 2 1) 54 2 0) 52 2 (-1)) 24 34 (0 : Int32).toNatClampNeg (16 : Int32).toNatClampNeg (6 : Int32).toNatClampNeg) 34 22 0) 34 23 2) 19 1 3) 52 3 0) 53 3 1) 54 3 0) 34 24 (16 : Int32).toNatClampNeg (0 : Int32).toNatClampNeg (6 : Int32).toNatClampNeg) 19 9 0) 19 1 2) 52 2 0) 53 2 1) 54 2 0) 34 24 (8 : Int32).toNatClampNeg (0 : Int32).toNatClampNeg (6 : Int32).toNatClampNeg) 19 9 0) 19 1 1) 52 1 0) 53 1 1) 54 1 0) 34 24 (0 : Int32).toNatClampNeg (0 : Int32).toNatClampNeg (6 : Int32).toNatClampNeg) 19 9 0) 19 1 0) 52 0 0) 53 0 1) 54 0 0) 0 7 3) 24 34 (0 : Int32).toNatClampNeg (0 : Int32).toNatClampNeg (6 : Int32).toNatClampNeg) 34 6 0) 34 7 0) 1 0 0) 19 1 1) 1 1 0) 1 2 0) 1 3 0) (fun r h => r = some (.int 0) ∧ h = (SH0, RF0, (gup (gup (gup (gup (gup (gup (gup (gup (gcp (gup (gup (gup (gup (gup (gup (gcp (gup (gup (gup (gup (gup (gcp (gup (gup (gup (gup (gup (gcp (gup (gup (gup (gup (gup (gup (gcp (gup (gup (gup (gup (gup (gup (gup (gcp (gup (gup (gup (gup (gup (gup (gup (gcp (gup (gup (gup (gup I0 52 0 0) 53 0 1) 54 0 0) 52 0 (-1)) 24 34 (0 : Int32).toNatClampNeg (0 : Int32).toNatClampNeg (6 : Int32).toNatClampNeg) 34 6 0) 34 7 0) 19 1 1) 52 1 0) 53 1 1) 54 1 0) 52 1 (-1)) 24 34 (0 : Int32).toNatClampNeg (8 : Int32).toNatClampNeg (6 : Int32).toNatClampNeg) 34 14 0) 34 15 1) 19 1 2) 52 2 0) 53 2 1) 54 2 0) 52 2 (-1)) 24 34 (0 : Int32).toNatClampNeg (16 : Int32).toNatClampNeg (6 : Int32).toNatClampNeg) 34 22 0) 34 23 2) 19 1 3) 52 3 0) 53 3 1) 54 3 0) 34 24 (16 : Int32).toNatClampNeg (0 : Int32).toNatClampNeg (6 : Int32).toNatClampNeg) 19 9 0) 19 1 2) 52 2 0) 53 2 1) 54 2 0) 34 24 (8 : Int32).toNatClampNeg (0 : Int32).toNatClampNeg (6 : Int32).toNatClampNeg) 19 9 0) 19 1 1) 52 1 0) 53 1 1) 54 1 0) 34 24 (0 : Int32).toNatClampNeg (0 : Int32).toNatClampNeg (6 : Int32).toNatClampNeg) 19 9 0) 19 1 0) 52 0 0) 53 0 1) 54 0 0) 0 7 3) 24 34 (0 : Int32).toNatClampNeg (0 : Int32).toNatClampNeg (6 : Int32).toNatClampNeg) 34 6 0) 34 7 0) 1 0 0) 19 1 1) 1 1 0) 1 2 0) 1 3 0) 19 1 2))) := by
  refine G_aload_n (pc := 0) rfl dX1_goBy_0 ?_
  refine G_iload_n (pc := 1) rfl dX1_goBy_1 ?_
  refine G_callV (pc := 2) (mc1 := 0) (ms1 := 0) (ci := 1) (mj := mX1_tell) (vs := [_]) dX1_goBy_2 rfl rfl cm_X1_tell wf_69 wf_71 wf_72 rfl (Nat.le_of_ble_eq_true rfl) (Nat.le_of_ble_eq_true rfl) (Nat.le_of_ble_eq_true rfl) (Nat.le_of_ble_eq_true rfl) (s322_X1_tell  d  ) ?_
  rintro _ _ ⟨rfl, rfl⟩
  dsimp only [Option.toList, List.cons_append, List.nil_append]
  refine G_aload_n (pc := 5) rfl dX1_goBy_5 ?_
  refine G_callV (pc := 6) (mc1 := 0) (ms1 := 0) (ci := 1) (mj := mX1_melt) (vs := []) dX1_goBy_6 rfl rfl cm_X1_melt wf_73 wf_75 wf_76 rfl (Nat.le_of_ble_eq_true rfl) (Nat.le_of_ble_eq_true rfl) (Nat.le_of_ble_eq_true rfl) (Nat.le_of_ble_eq_true rfl) (s324_X1_melt  (d + 1)  ) ?_
  rintro _ _ ⟨rfl, rfl⟩
  dsimp only [Option.toList, List.cons_append, List.nil_append]
  refine G_iadd (pc := 9) (z := 0) (by decide) dX1_goBy_9 ?_
  exact G_iret (pc := 10) (Nat.le_of_ble_eq_true rfl) (Nat.le_of_ble_eq_true rfl) rfl dX1_goBy_10 ⟨rfl, rfl⟩
set_option maxRecDepth 100000 in
set_option maxHeartbeats 4000000 in
theorem s327_X1_isKey  (d : Nat)   : G (d) mX1_isKey 0 0 0 0 0 (gent 2 [.ref 19, .int (-1)]) [] SH0 RF0 (gup (gup (gup (gup (gup (gup (gup (gup (gup (gup (gup (gcp (gup (gup (gup (gup (gup (gup (gcp (gup (gup (gup (gup (gup (gcp (gup (gup (gup (gup (gup (gcp (gup (gup (gup (gup (gup (gup (gcp (gup (gup (gup (gup (gup (gup (gup (gcp (gup (gup (gup (gup (gup (gup (gup (gcp (gup (gup (gup (gup I0 52 0 0) 53 0 1) 54 0 0) 52 0 (-1)) 24 34 (0 : Int32).toNatClampNeg (0 : Int32).toNatClampNeg (6 : Int32).toNatClampNeg) 34 6 0) 34 7 0) 19 1 1) 52 1 0) 53 1 1) 54 1 0) 52 1 (-1)) 24 34 (0 : Int32).toNatClampNeg (8 : Int32).toNatClampNeg (6 : Int32).toNatClampNeg) 34 14 0) 34 15 1) 19 1 2) 52 2 0) 53 2 1) 54 2 0) 52 2 (-1)) 24 34 (0 : Int32).toNatClampNeg (16 : Int32).toNatClampNeg (6 : Int32).toNatClampNeg) 34 22 0) 34 23 2) 19 1 3) 52 3 0) 53 3 1) 54 3 0) 34 24 (16 : Int32).toNatClampNeg (0 : Int32).toNatClampNeg (6 : Int32).toNatClampNeg) 19 9 0) 19 1 2) 52 2 0) 53 2 1) 54 2 0) 34 24 (8 : Int32).toNatClampNeg (0 : Int32).toNatClampNeg (6 : Int32).toNatClampNeg) 19 9 0) 19 1 1) 52 1 0) 53 1 1) 54 1 0) 34 24 (0 : Int32).toNatClampNeg (0 : Int32).toNatClampNeg (6 : Int32).toNatClampNeg) 19 9 0) 19 1 0) 52 0 0) 53 0 1) 54 0 0) 0 7 3) 24 34 (0 : Int32).toNatClampNeg (0 : Int32).toNatClampNeg (6 : Int32).toNatClampNeg) 34 6 0) 34 7 0) 1 0 0) 19 1 1) 1 1 0) 1 2 0) 1 3 0) 19 1 2) 1 4 0) 1 5 0) 1 6 0) (fun r h => r = some (.int 0) ∧ h = (SH0, RF0, (gup (gup (gup (gup (gup (gup (gup (gup (gup (gup (gup (gcp (gup (gup (gup (gup (gup (gup (gcp (gup (gup (gup (gup (gup (gcp (gup (gup (gup (gup (gup (gcp (gup (gup (gup (gup (gup (gup (gcp (gup (gup (gup (gup (gup (gup (gup (gcp (gup (gup (gup (gup (gup (gup (gup (gcp (gup (gup (gup (gup I0 52 0 0) 53 0 1) 54 0 0) 52 0 (-1)) 24 34 (0 : Int32).toNatClampNeg (0 : Int32).toNatClampNeg (6 : Int32).toNatClampNeg) 34 6 0) 34 7 0) 19 1 1) 52 1 0) 53 1 1) 54 1 0) 52 1 (-1)) 24 34 (0 : Int32).toNatClampNeg (8 : Int32).toNatClampNeg (6 : Int32).toNatClampNeg) 34 14 0) 34 15 1) 19 1 2) 52 2 0) 53 2 1) 54 2 0) 52 2 (-1)) 24 34 (0 : Int32).toNatClampNeg (16 : Int32).toNatClampNeg (6 : Int32).toNatClampNeg) 34 22 0) 34 23 2) 19 1 3) 52 3 0) 53 3 1) 54 3 0) 34 24 (16 : Int32).toNatClampNeg (0 : Int32).toNatClampNeg (6 : Int32).toNatClampNeg) 19 9 0) 19 1 2) 52 2 0) 53 2 1) 54 2 0) 34 24 (8 : Int32).toNatClampNeg (0 : Int32).toNatClampNeg (6 : Int32).toNatClampNeg) 19 9 0) 19 1 1) 52 1 0) 53 1 1) 54 1 0) 34 24 (0 : Int32).toNatClampNeg (0 : Int32).toNatClampNeg (6 : Int32).toNatClampNeg) 19 9 0) 19 1 0) 52 0 0) 53 0 1) 54 0 0) 0 7 3) 24 34 (0 : Int32).toNatClampNeg (0 : Int32).toNatClampNeg (6 : Int32).toNatClampNeg) 34 6 0) 34 7 0) 1 0 0) 19 1 1) 1 1 0) 1 2 0) 1 3 0) 19 1 2) 1 4 0) 1 5 0) 1 6 0))) := by
  refine G_iload_n (pc := 0) rfl dX1_isKey_0 ?_
  refine G_if_lt (pc := 1) (tgt := 16) (by decide) dX1_isKey_1 (fun _ => ?_) (fun z => absurd (by decide) z)
  refine G_iconst (pc := 16) (v := 0) (by decide) dX1_isKey_16 ?_
  exact G_zret (pc := 17) (Nat.le_of_ble_eq_true rfl) (Nat.le_of_ble_eq_true rfl) rfl (by decide) dX1_isKey_17 ⟨rfl, rfl⟩
set_option maxRecDepth 100000 in
set_option maxHeartbeats 4000000 in
theorem s326_X1_tell  (d : Nat)   : G (d + 1) mX1_tell 0 0 0 0 0 (gent 5 [.ref 19, .int 0]) [] SH0 RF0 (gup (gup (gup (gup (gup (gup (gup (gup (gup (gup (gup (gcp (gup (gup (gup (gup (gup (gup (gcp (gup (gup (gup (gup (gup (gcp (gup (gup (gup (gup (gup (gcp (gup (gup (gup (gup (gup (gup (gcp (gup (gup (gup (gup (gup (gup (gup (gcp (gup (gup (gup (gup (gup (gup (gup (gcp (gup (gup (gup (gup I0 52 0 0) 53 0 1) 54 0 0) 52 0 (-1)) 24 34 (0 : Int32).toNatClampNeg (0 : Int32).toNatClampNeg (6 : Int32).toNatClampNeg) 34 6 0) 34 7 0) 19 1 1) 52 1 0) 53 1 1) 54 1 0) 52 1 (-1)) 24 34 (0 : Int32).toNatClampNeg (8 : Int32).toNatClampNeg (6 : Int32).toNatClampNeg) 34 14 0) 34 15 1) 19 1 2) 52 2 0) 53 2 1) 54 2 0) 52 2 (-1)) 24 34 (0 : Int32).toNatClampNeg (16 : Int32).toNatClampNeg (6 : Int32).toNatClampNeg) 34 22 0) 34 23 2) 19 1 3) 52 3 0) 53 3 1) 54 3 0) 34 24 (16 : Int32).toNatClampNeg (0 : Int32).toNatClampNeg (6 : Int32).toNatClampNeg) 19 9 0) 19 1 2) 52 2 0) 53 2 1) 54 2 0) 34 24 (8 : Int32).toNatClampNeg (0 : Int32).toNatClampNeg (6 : Int32).toNatClampNeg) 19 9 0) 19 1 1) 52 1 0) 53 1 1) 54 1 0) 34 24 (0 : Int32).toNatClampNeg (0 : Int32).toNatClampNeg (6 : Int32).toNatClampNeg) 19 9 0) 19 1 0) 52 0 0) 53 0 1) 54 0 0) 0 7 3) 24 34 (0 : Int32).toNatClampNeg (0 : Int32).toNatClampNeg (6 : Int32).toNatClampNeg) 34 6 0) 34 7 0) 1 0 0) 19 1 1) 1 1 0) 1 2 0) 1 3 0) 19 1 2) 1 4 0) 1 5 0) 1 6 0) (fun r h => r = some (.int 0) ∧ h = (SH0, RF0, (gup (gup (gup (gup (gup (gup (gup (gup (gup (gup (gup (gcp (gup (gup (gup (gup (gup (gup (gcp (gup (gup (gup (gup (gup (gcp (gup (gup (gup (gup (gup (gcp (gup (gup (gup (gup (gup (gup (gcp (gup (gup (gup (gup (gup (gup (gup (gcp (gup (gup (gup (gup (gup (gup (gup (gcp (gup (gup (gup (gup I0 52 0 0) 53 0 1) 54 0 0) 52 0 (-1)) 24 34 (0 : Int32).toNatClampNeg (0 : Int32).toNatClampNeg (6 : Int32).toNatClampNeg) 34 6 0) 34 7 0) 19 1 1) 52 1 0) 53 1 1) 54 1 0) 52 1 (-1)) 24 34 (0 : Int32).toNatClampNeg (8 : Int32).toNatClampNeg (6 : Int32).toNatClampNeg) 34 14 0) 34 15 1) 19 1 2) 52 2 0) 53 2 1) 54 2 0) 52 2 (-1)) 24 34 (0 : Int32).toNatClampNeg (16 : Int32).toNatClampNeg (6 : Int32).toNatClampNeg) 34 22 0) 34 23 2) 19 1 3) 52 3 0) 53 3 1) 54 3 0) 34 24 (16 : Int32).toNatClampNeg (0 : Int32).toNatClampNeg (6 : Int32).toNatClampNeg) 19 9 0) 19 1 2) 52 2 0) 53 2 1) 54 2 0) 34 24 (8 : Int32).toNatClampNeg (0 : Int32).toNatClampNeg (6 : Int32).toNatClampNeg) 19 9 0) 19 1 1) 52 1 0) 53 1 1) 54 1 0) 34 24 (0 : Int32).toNatClampNeg (0 : Int32).toNatClampNeg (6 : Int32).toNatClampNeg) 19 9 0) 19 1 0) 52 0 0) 53 0 1) 54 0 0) 0 7 3) 24 34 (0 : Int32).toNatClampNeg (0 : Int32).toNatClampNeg (6 : Int32).toNatClampNeg) 34 6 0) 34 7 0) 1 0 0) 19 1 1) 1 1 0) 1 2 0) 1 3 0) 19 1 2) 1 4 0) 1 5 0) 1 6 0))) := by
  refine G_iload_n (pc := 0) rfl dX1_tell_0 ?_
  refine G_iconst (pc := 1) (v := 1) (by decide) dX1_tell_1 ?_
  refine G_isub (pc := 2) (z := (-1)) (by decide) dX1_tell_2 ?_
  refine G_istore_n (pc := 3) (L1 := [some (.ref 19), some (.int 0), some (.int (-1)), none, none]) rfl rfl (by decide) dX1_tell_3 ?_
  refine G_aload_n (pc := 4) rfl dX1_tell_4 ?_
  refine G_iload_n (pc := 5) rfl dX1_tell_5 ?_
  refine G_callV (pc := 6) (mc1 := 0) (ms1 := 0) (ci := 1) (mj := mX1_isKey) (vs := [_]) dX1_tell_6 rfl rfl cm_X1_isKey wf_68 wf_13 wf_14 rfl (Nat.le_of_ble_eq_true rfl) (Nat.le_of_ble_eq_true rfl) (Nat.le_of_ble_eq_true rfl) (Nat.le_of_ble_eq_true rfl) (s327_X1_isKey  d  ) ?_
  rintro _ _ ⟨rfl, rfl⟩
  dsimp only [Option.toList, List.cons_append, List.nil_append]
  refine G_if_eq (pc := 9) (tgt := 20) (by decide) dX1_tell_9 (fun _ => ?_) (fun z => absurd (by decide) z)
  refine G_iconst (pc := 20) (v := 0) (by decide) dX1_tell_20 ?_
  exact G_iret (pc := 21) (Nat.le_of_ble_eq_true rfl) (Nat.le_of_ble_eq_true rfl) rfl dX1_tell_21 ⟨rfl, rfl⟩
set_option maxRecDepth 100000 in
set_option maxHeartbeats 4000000 in
theorem s328_X1_melt  (d : Nat)   : G (d) mX1_melt 0 0 0 0 0 (gent 3 [.ref 19]) [] SH0 RF0 (gup (gup (gup (gup (gup (gup (gup (gup (gup (gup (gup (gcp (gup (gup (gup (gup (gup (gup (gcp (gup (gup (gup (gup (gup (gcp (gup (gup (gup (gup (gup (gcp (gup (gup (gup (gup (gup (gup (gcp (gup (gup (gup (gup (gup (gup (gup (gcp (gup (gup (gup (gup (gup (gup (gup (gcp (gup (gup (gup (gup I0 52 0 0) 53 0 1) 54 0 0) 52 0 (-1)) 24 34 (0 : Int32).toNatClampNeg (0 : Int32).toNatClampNeg (6 : Int32).toNatClampNeg) 34 6 0) 34 7 0) 19 1 1) 52 1 0) 53 1 1) 54 1 0) 52 1 (-1)) 24 34 (0 : Int32).toNatClampNeg (8 : Int32).toNatClampNeg (6 : Int32).toNatClampNeg) 34 14 0) 34 15 1) 19 1 2) 52 2 0) 53 2 1) 54 2 0) 52 2 (-1)) 24 34 (0 : Int32).toNatClampNeg (16 : Int32).toNatClampNeg (6 : Int32).toNatClampNeg) 34 22 0) 34 23 2) 19 1 3) 52 3 0) 53 3 1) 54 3 0) 34 24 (16 : Int32).toNatClampNeg (0 : Int32).toNatClampNeg (6 : Int32).toNatClampNeg) 19 9 0) 19 1 2) 52 2 0) 53 2 1) 54 2 0) 34 24 (8 : Int32).toNatClampNeg (0 : Int32).toNatClampNeg (6 : Int32).toNatClampNeg) 19 9 0) 19 1 1) 52 1 0) 53 1 1) 54 1 0) 34 24 (0 : Int32).toNatClampNeg (0 : Int32).toNatClampNeg (6 : Int32).toNatClampNeg) 19 9 0) 19 1 0) 52 0 0) 53 0 1) 54 0 0) 0 7 3) 24 34 (0 : Int32).toNatClampNeg (0 : Int32).toNatClampNeg (6 : Int32).toNatClampNeg) 34 6 0) 34 7 0) 1 0 0) 19 1 1) 1 1 0) 1 2 0) 1 3 0) 19 1 2) 1 4 0) 1 5 0) 1 6 0) (fun r h => r = some (.int 0) ∧ h = (SH0, RF0, (gup (gup (gup (gup (gup (gup (gup (gup (gup (gup (gup (gup (gcp (gup (gup (gup (gup (gup (gup (gcp (gup (gup (gup (gup (gup (gcp (gup (gup (gup (gup (gup (gcp (gup (gup (gup (gup (gup (gup (gcp (gup (gup (gup (gup (gup (gup (gup (gcp (gup (gup (gup (gup (gup (gup (gup (gcp (gup (gup (gup (gup I0 52 0 0) 53 0 1) 54 0 0) 52 0 (-1)) 24 34 (0 : Int32).toNatClampNeg (0 : Int32).toNatClampNeg (6 : Int32).toNatClampNeg) 34 6 0) 34 7 0) 19 1 1) 52 1 0) 53 1 1) 54 1 0) 52 1 (-1)) 24 34 (0 : Int32).toNatClampNeg (8 : Int32).toNatClampNeg (6 : Int32).toNatClampNeg) 34 14 0) 34 15 1) 19 1 2) 52 2 0) 53 2 1) 54 2 0) 52 2 (-1)) 24 34 (0 : Int32).toNatClampNeg (16 : Int32).toNatClampNeg (6 : Int32).toNatClampNeg) 34 22 0) 34 23 2) 19 1 3) 52 3 0) 53 3 1) 54 3 0) 34 24 (16 : Int32).toNatClampNeg (0 : Int32).toNatClampNeg (6 : Int32).toNatClampNeg) 19 9 0) 19 1 2) 52 2 0) 53 2 1) 54 2 0) 34 24 (8 : Int32).toNatClampNeg (0 : Int32).toNatClampNeg (6 : Int32).toNatClampNeg) 19 9 0) 19 1 1) 52 1 0) 53 1 1) 54 1 0) 34 24 (0 : Int32).toNatClampNeg (0 : Int32).toNatClampNeg (6 : Int32).toNatClampNeg) 19 9 0) 19 1 0) 52 0 0) 53 0 1) 54 0 0) 0 7 3) 24 34 (0 : Int32).toNatClampNeg (0 : Int32).toNatClampNeg (6 : Int32).toNatClampNeg) 34 6 0) 34 7 0) 1 0 0) 19 1 1) 1 1 0) 1 2 0) 1 3 0) 19 1 2) 1 4 0) 1 5 0) 1 6 0) 19 1 3))) := by
  refine G_iconst (pc := 0) (v := 0) (by decide) dX1_melt_0 ?_
  refine G_istore_n (pc := 1) (L1 := [some (.ref 19), some (.int 0), none]) rfl rfl (by decide) dX1_melt_1 ?_
  refine G_iconst (pc := 2) (v := 0) (by decide) dX1_melt_2 ?_
  refine G_istore_n (pc := 3) (L1 := [some (.ref 19), some (.int 0), some (.int 0)]) rfl rfl (by decide) dX1_melt_3 ?_
  refine G_iload_n (pc := 4) rfl dX1_melt_4 ?_
  refine G_aload_n (pc := 5) rfl dX1_melt_5 ?_
  refine G_getI (pc := 6) (v := 0) (ci := 1) (j := 8) rfl rfl lk_RX1_72 rfl rfl dX1_melt_6 ?_
  refine G_icmp_ge (pc := 9) (tgt := 60) (by decide) dX1_melt_9 (fun _ => ?_) (fun z => absurd (by decide) z)
  refine G_aload_n (pc := 60) rfl dX1_melt_60 ?_
  refine G_dup (pc := 61) rfl dX1_melt_61 ?_
  refine G_getI (pc := 62) (v := 2) (ci := 1) (j := 1) rfl rfl lk_RX1_60 rfl rfl dX1_melt_62 ?_
  refine G_iconst (pc := 65) (v := 1) (by decide) dX1_melt_65 ?_
  refine G_iadd (pc := 66) (z := 3) (by decide) dX1_melt_66 ?_
  refine G_putI (pc := 67) (ci := 1) (j := 1) rfl lk_RX1_60 rfl rfl rfl trivial dX1_melt_67 ?_
  refine G_iload_n (pc := 70) rfl dX1_melt_70 ?_
  exact G_iret (pc := 71) (Nat.le_of_ble_eq_true rfl) (Nat.le_of_ble_eq_true rfl) rfl dX1_melt_71 ⟨rfl, rfl⟩
set_option maxRecDepth 100000 in
set_option maxHeartbeats 4000000 in
theorem s325_X1_goBy  (d : Nat)   : G (d + 2) mX1_goBy 0 0 0 0 0 (gent 2 [.ref 19, .int 0]) [] SH0 RF0 (gup (gup (gup (gup (gup (gup (gup (gup (gup (gup (gup (gcp (gup (gup (gup (gup (gup (gup (gcp (gup (gup (gup (gup (gup (gcp (gup (gup (gup (gup (gup (gcp (gup (gup (gup (gup (gup (gup (gcp (gup (gup (gup (gup (gup (gup (gup (gcp (gup (gup (gup (gup (gup (gup (gup (gcp (gup (gup (gup (gup I0 52 0 0) 53 0 1) 54 0 0) 52 0 (-1)) 24 34 (0 : Int32).toNatClampNeg (0 : Int32).toNatClampNeg (6 : Int32).toNatClampNeg) 34 6 0) 34 7 0) 19 1 1) 52 1 0) 53 1 1) 54 1 0) 52 1 (-1)) 24 34 (0 : Int32).toNatClampNeg (8 : Int32).toNatClampNeg (6 : Int32).toNatClampNeg) 34 14 0) 34 15 1) 19 1 2) 52 2 0) 53 2 1) 54 2 0) 52 2 (-1)) 24 34 (0 : Int32).toNatClampNeg (16 : Int32).toNatClampNeg (6 : Int32).toNatClampNeg) 34 22 0) 34 23 2) 19 1 3) 52 3 0) 53 3 1) 54 3 0) 34 24 (16 : Int32).toNatClampNeg (0 : Int32).toNatClampNeg (6 : Int32).toNatClampNeg) 19 9 0) 19 1 2) 52 2 0) 53 2 1) 54 2 0) 34 24 (8 : Int32).toNatClampNeg (0 : Int32).toNatClampNeg (6 : Int32).toNatClampNeg) 19 9 0) 19 1 1) 52 1 0) 53 1 1) 54 1 0) 34 24 (0 : Int32).toNatClampNeg (0 : Int32).toNatClampNeg (6 : Int32).toNatClampNeg) 19 9 0) 19 1 0) 52 0 0) 53 0 1) 54 0 0) 0 7 3) 24 34 (0 : Int32).toNatClampNeg (0 : Int32).toNatClampNeg (6 : Int32).toNatClampNeg) 34 6 0) 34 7 0) 1 0 0) 19 1 1) 1 1 0) 1 2 0) 1 3 0) 19 1 2) 1 4 0) 1 5 0) 1 6 0) (fun r h => r = some (.int 0) ∧ h = (SH0, RF0, (gup (gup (gup (gup (gup (gup (gup (gup (gup (gup (gup (gup (gcp (gup (gup (gup (gup (gup (gup (gcp (gup (gup (gup (gup (gup (gcp (gup (gup (gup (gup (gup (gcp (gup (gup (gup (gup (gup (gup (gcp (gup (gup (gup (gup (gup (gup (gup (gcp (gup (gup (gup (gup (gup (gup (gup (gcp (gup (gup (gup (gup I0 52 0 0) 53 0 1) 54 0 0) 52 0 (-1)) 24 34 (0 : Int32).toNatClampNeg (0 : Int32).toNatClampNeg (6 : Int32).toNatClampNeg) 34 6 0) 34 7 0) 19 1 1) 52 1 0) 53 1 1) 54 1 0) 52 1 (-1)) 24 34 (0 : Int32).toNatClampNeg (8 : Int32).toNatClampNeg (6 : Int32).toNatClampNeg) 34 14 0) 34 15 1) 19 1 2) 52 2 0) 53 2 1) 54 2 0) 52 2 (-1)) 24 34 (0 : Int32).toNatClampNeg (16 : Int32).toNatClampNeg (6 : Int32).toNatClampNeg) 34 22 0) 34 23 2) 19 1 3) 52 3 0) 53 3 1) 54 3 0) 34 24 (16 : Int32).toNatClampNeg (0 : Int32).toNatClampNeg (6 : Int32).toNatClampNeg) 19 9 0) 19 1 2) 52 2 0) 53 2 1) 54 2 0) 34 24 (8 : Int32).toNatClampNeg (0 : Int32).toNatClampNeg (6 : Int32).toNatClampNeg) 19 9 0) 19 1 1) 52 1 0) 53 1 1) 54 1 0) 34 24 (0 : Int32).toNatClampNeg (0 : Int32).toNatClampNeg (6 : Int32).toNatClampNeg) 19 9 0) 19 1 0) 52 0 0) 53 0 1) 54 0 0) 0 7 3) 24 34 (0 : Int32).toNatClampNeg (0 : Int32).toNatClampNeg (6 : Int32).toNatClampNeg) 34 6 0) 34 7 0) 1 0 0) 19 1 1) 1 1 0) 1 2 0) 1 3 0) 19 1 2) 1 4 0) 1 5 0) 1 6 0) 19 1 3))) := by
  refine G_aload_n (pc := 0) rfl dX1_goBy_0 ?_
  refine G_iload_n (pc := 1) rfl dX1_goBy_1 ?_
  refine G_callV (pc := 2) (mc1 := 0) (ms1 := 0) (ci := 1) (mj := mX1_tell) (vs := [_]) dX1_goBy_2 rfl rfl cm_X1_tell wf_69 wf_71 wf_72 rfl (Nat.le_of_ble_eq_true rfl) (Nat.le_of_ble_eq_true rfl) (Nat.le_of_ble_eq_true rfl) (Nat.le_of_ble_eq_true rfl) (s326_X1_tell  d  ) ?_
  rintro _ _ ⟨rfl, rfl⟩
  dsimp only [Option.toList, List.cons_append, List.nil_append]
  refine G_aload_n (pc := 5) rfl dX1_goBy_5 ?_
  refine G_callV (pc := 6) (mc1 := 0) (ms1 := 0) (ci := 1) (mj := mX1_melt) (vs := []) dX1_goBy_6 rfl rfl cm_X1_melt wf_73 wf_75 wf_76 rfl (Nat.le_of_ble_eq_true rfl) (Nat.le_of_ble_eq_true rfl) (Nat.le_of_ble_eq_true rfl) (Nat.le_of_ble_eq_true rfl) (s328_X1_melt  (d + 1)  ) ?_
  rintro _ _ ⟨rfl, rfl⟩
  dsimp only [Option.toList, List.cons_append, List.nil_append]
  refine G_iadd (pc := 9) (z := 0) (by decide) dX1_goBy_9 ?_
  exact G_iret (pc := 10) (Nat.le_of_ble_eq_true rfl) (Nat.le_of_ble_eq_true rfl) rfl dX1_goBy_10 ⟨rfl, rfl⟩
set_option maxRecDepth 100000 in
set_option maxHeartbeats 4000000 in
theorem s329_X1_restore  (d : Nat)   : G (d + 1) mX1_restore 0 0 0 0 0 (gent 3 [.ref 19, .int 0]) [] SH0 RF0 (gup (gup (gup (gup (gup (gup (gup (gup (gup (gup (gup (gup (gup (gup (gcp (gup (gup (gup (gup (gup (gup (gcp (gup (gup (gup (gup (gup (gcp (gup (gup (gup (gup (gup (gcp (gup (gup (gup (gup (gup (gup (gcp (gup (gup (gup (gup (gup (gup (gup (gcp (gup (gup (gup (gup (gup (gup (gup (gcp (gup (gup (gup (gup I0 52 0 0) 53 0 1) 54 0 0) 52 0 (-1)) 24 34 (0 : Int32).toNatClampNeg (0 : Int32).toNatClampNeg (6 : Int32).toNatClampNeg) 34 6 0) 34 7 0) 19 1 1) 52 1 0) 53 1 1) 54 1 0) 52 1 (-1)) 24 34 (0 : Int32).toNatClampNeg (8 : Int32).toNatClampNeg (6 : Int32).toNatClampNeg) 34 14 0) 34 15 1) 19 1 2) 52 2 0) 53 2 1) 54 2 0) 52 2 (-1)) 24 34 (0 : Int32).toNatClampNeg (16 : Int32).toNatClampNeg (6 : Int32).toNatClampNeg) 34 22 0) 34 23 2) 19 1 3) 52 3 0) 53 3 1) 54 3 0) 34 24 (16 : Int32).toNatClampNeg (0 : Int32).toNatClampNeg (6 : Int32).toNatClampNeg) 19 9 0) 19 1 2) 52 2 0) 53 2 1) 54 2 0) 34 24 (8 : Int32).toNatClampNeg (0 : Int32).toNatClampNeg (6 : Int32).toNatClampNeg) 19 9 0) 19 1 1) 52 1 0) 53 1 1) 54 1 0) 34 24 (0 : Int32).toNatClampNeg (0 : Int32).toNatClampNeg (6 : Int32).toNatClampNeg) 19 9 0) 19 1 0) 52 0 0) 53 0 1) 54 0 0) 0 7 3) 24 34 (0 : Int32).toNatClampNeg (0 : Int32).toNatClampNeg (6 : Int32).toNatClampNeg) 34 6 0) 34 7 0) 1 0 0) 19 1 1) 1 1 0) 1 2 0) 1 3 0) 19 1 2) 1 4 0) 1 5 0) 1 6 0) 19 1 3) 1 7 0) 1 8 0) (fun r h => r = none ∧ h = (SH0, RF0, (gup (gup (gcp (gup (gup (gup (gup (gup (gup (gup (gup (gup (gup (gup (gup (gup (gup (gcp (gup (gup (gup (gup (gup (gup (gcp (gup (gup (gup (gup (gup (gcp (gup (gup (gup (gup (gup (gcp (gup (gup (gup (gup (gup (gup (gcp (gup (gup (gup (gup (gup (gup (gup (gcp (gup (gup (gup (gup (gup (gup (gup (gcp (gup (gup (gup (gup I0 52 0 0) 53 0 1) 54 0 0) 52 0 (-1)) 24 34 (0 : Int32).toNatClampNeg (0 : Int32).toNatClampNeg (6 : Int32).toNatClampNeg) 34 6 0) 34 7 0) 19 1 1) 52 1 0) 53 1 1) 54 1 0) 52 1 (-1)) 24 34 (0 : Int32).toNatClampNeg (8 : Int32).toNatClampNeg (6 : Int32).toNatClampNeg) 34 14 0) 34 15 1) 19 1 2) 52 2 0) 53 2 1) 54 2 0) 52 2 (-1)) 24 34 (0 : Int32).toNatClampNeg (16 : Int32).toNatClampNeg (6 : Int32).toNatClampNeg) 34 22 0) 34 23 2) 19 1 3) 52 3 0) 53 3 1) 54 3 0) 34 24 (16 : Int32).toNatClampNeg (0 : Int32).toNatClampNeg (6 : Int32).toNatClampNeg) 19 9 0) 19 1 2) 52 2 0) 53 2 1) 54 2 0) 34 24 (8 : Int32).toNatClampNeg (0 : Int32).toNatClampNeg (6 : Int32).toNatClampNeg) 19 9 0) 19 1 1) 52 1 0) 53 1 1) 54 1 0) 34 24 (0 : Int32).toNatClampNeg (0 : Int32).toNatClampNeg (6 : Int32).toNatClampNeg) 19 9 0) 19 1 0) 52 0 0) 53 0 1) 54 0 0) 0 7 3) 24 34 (0 : Int32).toNatClampNeg (0 : Int32).toNatClampNeg (6 : Int32).toNatClampNeg) 34 6 0) 34 7 0) 1 0 0) 19 1 1) 1 1 0) 1 2 0) 1 3 0) 19 1 2) 1 4 0) 1 5 0) 1 6 0) 19 1 3) 1 7 0) 1 8 0) 34 24 (0 : Int32).toNatClampNeg (0 : Int32).toNatClampNeg (6 : Int32).toNatClampNeg) 19 9 0) 19 1 0))) := by
  refine G_iload_n (pc := 0) rfl dX1_restore_0 ?_
  refine G_bipush (pc := 1) (v := 8) (by decide) dX1_restore_1 ?_
  refine G_imul (pc := 3) (z := 0) (by decide) dX1_restore_3 ?_
  refine G_istore_n (pc := 4) (L1 := [some (.ref 19), some (.int 0), some (.int 0)]) rfl rfl (by decide) dX1_restore_4 ?_
  refine G_aload_n (pc := 5) rfl dX1_restore_5 ?_
  refine G_getR (pc := 6) (r := 34) (ci := 1) (j := 18) rfl lk_RX1_53 rfl rfl rfl dX1_restore_6 ?_
  refine G_iload_n (pc := 9) rfl dX1_restore_9 ?_
  refine G_aload_n (pc := 10) rfl dX1_restore_10 ?_
  refine G_getR (pc := 11) (r := 24) (ci := 1) (j := 11) rfl lk_RX1_31 rfl rfl rfl dX1_restore_11 ?_
  refine G_iconst (pc := 14) (v := 0) (by decide) dX1_restore_14 ?_
  refine G_bipush (pc := 15) (v := 6) (by decide) dX1_restore_15 ?_
  refine G_copy (pc := 17) (x := 34) (y := 24) rfl rfl (by decide) (by decide) (by decide) (by decide) (by decide) wf_50 wf_51 wf_52 wf_53 (Nat.le_of_ble_eq_true rfl) dX1_restore_17 ?_
  refine G_aload_n (pc := 20) rfl dX1_restore_20 ?_
  refine G_aload_n (pc := 21) rfl dX1_restore_21 ?_
  refine G_getR (pc := 22) (r := 34) (ci := 1) (j := 18) rfl lk_RX1_53 rfl rfl rfl dX1_restore_22 ?_
  refine G_iload_n (pc := 25) rfl dX1_restore_25 ?_
  refine G_bipush (pc := 26) (v := 6) (by decide) dX1_restore_26 ?_
  refine G_iadd (pc := 28) (z := 6) (by decide) dX1_restore_28 ?_
  refine G_iald (pc := 29) (jj := 6) (v := 0) (by decide) rfl rfl (by unfold vp_in; decide) dX1_restore_29 ?_
  refine G_putI (pc := 30) (ci := 1) (j := 9) rfl lk_RX1_75 rfl rfl rfl trivial dX1_restore_30 ?_
  refine G_aload_n (pc := 33) rfl dX1_restore_33 ?_
  refine G_aload_n (pc := 34) rfl dX1_restore_34 ?_
  refine G_getR (pc := 35) (r := 34) (ci := 1) (j := 18) rfl lk_RX1_53 rfl rfl rfl dX1_restore_35 ?_
  refine G_iload_n (pc := 38) rfl dX1_restore_38 ?_
  refine G_bipush (pc := 39) (v := 6) (by decide) dX1_restore_39 ?_
  refine G_iadd (pc := 41) (z := 6) (by decide) dX1_restore_41 ?_
  refine G_iconst (pc := 42) (v := 1) (by decide) dX1_restore_42 ?_
  refine G_iadd (pc := 43) (z := 7) (by decide) dX1_restore_43 ?_
  refine G_iald (pc := 44) (jj := 7) (v := 0) (by decide) rfl rfl (by unfold vp_in; decide) dX1_restore_44 ?_
  refine G_putI (pc := 45) (ci := 1) (j := 1) rfl lk_RX1_60 rfl rfl rfl trivial dX1_restore_45 ?_
  exact G_vret (pc := 48) (Nat.le_of_ble_eq_true rfl) (Nat.le_of_ble_eq_true rfl) rfl dX1_restore_48 ⟨rfl, rfl⟩
set_option maxRecDepth 100000 in
set_option maxHeartbeats 4000000 in
theorem s330_X1_haltsOf  (d : Nat)   : G (d + 1) mX1_haltsOf 0 0 0 0 0 (gent 2 [.ref 19, .int 4]) [] SH0 RF0 (gup (gup (gup (gup (gup (gcp (gup (gup (gup (gup (gup (gcp (gup (gup (gup (gup (gup (gcp (gup (gup (gup (gup (gup (gcp (gup (gup (gup (gup (gup (gup (gcp (gup (gup (gup (gup (gup (gup (gup (gcp (gup (gup (gup (gup (gup (gup (gup (gcp (gup (gup (gup (gup (gup (gup (gup (gcp (gup (gup (gup (gup I0 52 0 0) 53 0 1) 54 0 0) 52 0 (-1)) 24 34 (0 : Int32).toNatClampNeg (0 : Int32).toNatClampNeg (6 : Int32).toNatClampNeg) 34 6 0) 34 7 0) 19 1 1) 52 1 0) 53 1 1) 54 1 0) 52 1 (-1)) 24 34 (0 : Int32).toNatClampNeg (8 : Int32).toNatClampNeg (6 : Int32).toNatClampNeg) 34 14 0) 34 15 1) 19 1 2) 52 2 0) 53 2 1) 54 2 0) 52 2 (-1)) 24 34 (0 : Int32).toNatClampNeg (16 : Int32).toNatClampNeg (6 : Int32).toNatClampNeg) 34 22 0) 34 23 2) 19 1 3) 52 3 0) 53 3 1) 54 3 0) 52 3 (-1)) 24 34 (0 : Int32).toNatClampNeg (24 : Int32).toNatClampNeg (6 : Int32).toNatClampNeg) 34 30 0) 34 31 3) 19 1 4) 52 4 0) 53 4 1) 54 4 0) 34 24 (24 : Int32).toNatClampNeg (0 : Int32).toNatClampNeg (6 : Int32).toNatClampNeg) 19 9 0) 19 1 3) 52 3 0) 53 3 1) 54 3 0) 34 24 (16 : Int32).toNatClampNeg (0 : Int32).toNatClampNeg (6 : Int32).toNatClampNeg) 19 9 0) 19 1 2) 52 2 0) 53 2 1) 54 2 0) 34 24 (8 : Int32).toNatClampNeg (0 : Int32).toNatClampNeg (6 : Int32).toNatClampNeg) 19 9 0) 19 1 1) 52 1 0) 53 1 1) 54 1 0) 34 24 (0 : Int32).toNatClampNeg (0 : Int32).toNatClampNeg (6 : Int32).toNatClampNeg) 19 9 0) 19 1 0) 52 0 0) 53 0 1) 54 0 0) (fun r h => r = some (.int 4) ∧ h = (SH0, RF0, (gup (gup (gup (gup (gup (gcp (gup (gup (gup (gup (gup (gcp (gup (gup (gup (gup (gup (gcp (gup (gup (gup (gup (gup (gcp (gup (gup (gup (gup (gup (gup (gcp (gup (gup (gup (gup (gup (gup (gup (gcp (gup (gup (gup (gup (gup (gup (gup (gcp (gup (gup (gup (gup (gup (gup (gup (gcp (gup (gup (gup (gup I0 52 0 0) 53 0 1) 54 0 0) 52 0 (-1)) 24 34 (0 : Int32).toNatClampNeg (0 : Int32).toNatClampNeg (6 : Int32).toNatClampNeg) 34 6 0) 34 7 0) 19 1 1) 52 1 0) 53 1 1) 54 1 0) 52 1 (-1)) 24 34 (0 : Int32).toNatClampNeg (8 : Int32).toNatClampNeg (6 : Int32).toNatClampNeg) 34 14 0) 34 15 1) 19 1 2) 52 2 0) 53 2 1) 54 2 0) 52 2 (-1)) 24 34 (0 : Int32).toNatClampNeg (16 : Int32).toNatClampNeg (6 : Int32).toNatClampNeg) 34 22 0) 34 23 2) 19 1 3) 52 3 0) 53 3 1) 54 3 0) 52 3 (-1)) 24 34 (0 : Int32).toNatClampNeg (24 : Int32).toNatClampNeg (6 : Int32).toNatClampNeg) 34 30 0) 34 31 3) 19 1 4) 52 4 0) 53 4 1) 54 4 0) 34 24 (24 : Int32).toNatClampNeg (0 : Int32).toNatClampNeg (6 : Int32).toNatClampNeg) 19 9 0) 19 1 3) 52 3 0) 53 3 1) 54 3 0) 34 24 (16 : Int32).toNatClampNeg (0 : Int32).toNatClampNeg (6 : Int32).toNatClampNeg) 19 9 0) 19 1 2) 52 2 0) 53 2 1) 54 2 0) 34 24 (8 : Int32).toNatClampNeg (0 : Int32).toNatClampNeg (6 : Int32).toNatClampNeg) 19 9 0) 19 1 1) 52 1 0) 53 1 1) 54 1 0) 34 24 (0 : Int32).toNatClampNeg (0 : Int32).toNatClampNeg (6 : Int32).toNatClampNeg) 19 9 0) 19 1 0) 52 0 0) 53 0 1) 54 0 0))) := by
  refine G_iconst (pc := 0) (v := 0) (by decide) dX1_haltsOf_0 ?_
  refine G_iload_n (pc := 1) rfl dX1_haltsOf_1 ?_
  refine G_aload_n (pc := 2) rfl dX1_haltsOf_2 ?_
  refine G_getI (pc := 3) (v := 12) (ci := 1) (j := 2) rfl rfl lk_RX1_9 rfl rfl dX1_haltsOf_3 ?_
  refine G_aload_n (pc := 6) rfl dX1_haltsOf_6 ?_
  refine G_getI (pc := 7) (v := 0) (ci := 1) (j := 1) rfl rfl lk_RX1_60 rfl rfl dX1_haltsOf_7 ?_
  refine G_isub (pc := 10) (z := 12) (by decide) dX1_haltsOf_10 ?_
  refine G_min (pc := 11) dX1_haltsOf_11 wf_143 wf_144 wf_145 wf_146 (Nat.le_of_ble_eq_true rfl) (Nat.le_of_ble_eq_true rfl) (Nat.le_of_ble_eq_true rfl) ?_
  rw [show (if (12 : Int32) < 4 then (12 : Int32) else 4) = 4 by decide]
  refine G_max (pc := 14) dX1_haltsOf_14 wf_147 wf_148 wf_145 wf_149 (Nat.le_of_ble_eq_true rfl) (Nat.le_of_ble_eq_true rfl) (Nat.le_of_ble_eq_true rfl) ?_
  rw [show (if (0 : Int32) < 4 then (4 : Int32) else 0) = 4 by decide]
  exact G_iret (pc := 17) (Nat.le_of_ble_eq_true rfl) (Nat.le_of_ble_eq_true rfl) rfl dX1_haltsOf_17 ⟨rfl, rfl⟩
set_option maxRecDepth 100000 in
set_option maxHeartbeats 4000000 in
theorem s331_X1_save  (d : Nat)   : G (d + 1) mX1_save 0 0 0 0 0 (gent 3 [.ref 19, .int 0]) [] SH0 RF0 (gup (gup (gup (gup (gup (gup (gcp (gup (gup (gup (gup (gup (gcp (gup (gup (gup (gup (gup (gcp (gup (gup (gup (gup (gup (gcp (gup (gup (gup (gup (gup (gup (gcp (gup (gup (gup (gup (gup (gup (gup (gcp (gup (gup (gup (gup (gup (gup (gup (gcp (gup (gup (gup (gup (gup (gup (gup (gcp (gup (gup (gup (gup I0 52 0 0) 53 0 1) 54 0 0) 52 0 (-1)) 24 34 (0 : Int32).toNatClampNeg (0 : Int32).toNatClampNeg (6 : Int32).toNatClampNeg) 34 6 0) 34 7 0) 19 1 1) 52 1 0) 53 1 1) 54 1 0) 52 1 (-1)) 24 34 (0 : Int32).toNatClampNeg (8 : Int32).toNatClampNeg (6 : Int32).toNatClampNeg) 34 14 0) 34 15 1) 19 1 2) 52 2 0) 53 2 1) 54 2 0) 52 2 (-1)) 24 34 (0 : Int32).toNatClampNeg (16 : Int32).toNatClampNeg (6 : Int32).toNatClampNeg) 34 22 0) 34 23 2) 19 1 3) 52 3 0) 53 3 1) 54 3 0) 52 3 (-1)) 24 34 (0 : Int32).toNatClampNeg (24 : Int32).toNatClampNeg (6 : Int32).toNatClampNeg) 34 30 0) 34 31 3) 19 1 4) 52 4 0) 53 4 1) 54 4 0) 34 24 (24 : Int32).toNatClampNeg (0 : Int32).toNatClampNeg (6 : Int32).toNatClampNeg) 19 9 0) 19 1 3) 52 3 0) 53 3 1) 54 3 0) 34 24 (16 : Int32).toNatClampNeg (0 : Int32).toNatClampNeg (6 : Int32).toNatClampNeg) 19 9 0) 19 1 2) 52 2 0) 53 2 1) 54 2 0) 34 24 (8 : Int32).toNatClampNeg (0 : Int32).toNatClampNeg (6 : Int32).toNatClampNeg) 19 9 0) 19 1 1) 52 1 0) 53 1 1) 54 1 0) 34 24 (0 : Int32).toNatClampNeg (0 : Int32).toNatClampNeg (6 : Int32).toNatClampNeg) 19 9 0) 19 1 0) 52 0 0) 53 0 1) 54 0 0) 0 7 4) (fun r h => r = none ∧ h = (SH0, RF0, (gup (gup (gcp (gup (gup (gup (gup (gup (gup (gcp (gup (gup (gup (gup (gup (gcp (gup (gup (gup (gup (gup (gcp (gup (gup (gup (gup (gup (gcp (gup (gup (gup (gup (gup (gup (gcp (gup (gup (gup (gup (gup (gup (gup (gcp (gup (gup (gup (gup (gup (gup (gup (gcp (gup (gup (gup (gup (gup (gup (gup (gcp (gup (gup (gup (gup I0 52 0 0) 53 0 1) 54 0 0) 52 0 (-1)) 24 34 (0 : Int32).toNatClampNeg (0 : Int32).toNatClampNeg (6 : Int32).toNatClampNeg) 34 6 0) 34 7 0) 19 1 1) 52 1 0) 53 1 1) 54 1 0) 52 1 (-1)) 24 34 (0 : Int32).toNatClampNeg (8 : Int32).toNatClampNeg (6 : Int32).toNatClampNeg) 34 14 0) 34 15 1) 19 1 2) 52 2 0) 53 2 1) 54 2 0) 52 2 (-1)) 24 34 (0 : Int32).toNatClampNeg (16 : Int32).toNatClampNeg (6 : Int32).toNatClampNeg) 34 22 0) 34 23 2) 19 1 3) 52 3 0) 53 3 1) 54 3 0) 52 3 (-1)) 24 34 (0 : Int32).toNatClampNeg (24 : Int32).toNatClampNeg (6 : Int32).toNatClampNeg) 34 30 0) 34 31 3) 19 1 4) 52 4 0) 53 4 1) 54 4 0) 34 24 (24 : Int32).toNatClampNeg (0 : Int32).toNatClampNeg (6 : Int32).toNatClampNeg) 19 9 0) 19 1 3) 52 3 0) 53 3 1) 54 3 0) 34 24 (16 : Int32).toNatClampNeg (0 : Int32).toNatClampNeg (6 : Int32).toNatClampNeg) 19 9 0) 19 1 2) 52 2 0) 53 2 1) 54 2 0) 34 24 (8 : Int32).toNatClampNeg (0 : Int32).toNatClampNeg (6 : Int32).toNatClampNeg) 19 9 0) 19 1 1) 52 1 0) 53 1 1) 54 1 0) 34 24 (0 : Int32).toNatClampNeg (0 : Int32).toNatClampNeg (6 : Int32).toNatClampNeg) 19 9 0) 19 1 0) 52 0 0) 53 0 1) 54 0 0) 0 7 4) 24 34 (0 : Int32).toNatClampNeg (0 : Int32).toNatClampNeg (6 : Int32).toNatClampNeg) 34 6 0) 34 7 0))) := by
  refine G_iload_n (pc := 0) rfl dX1_save_0 ?_
  refine G_bipush (pc := 1) (v := 8) (by decide) dX1_save_1 ?_
  refine G_imul (pc := 3) (z := 0) (by decide) dX1_save_3 ?_
  refine G_istore_n (pc := 4) (L1 := [some (.ref 19), some (.int 0), some (.int 0)]) rfl rfl (by decide) dX1_save_4 ?_
  refine G_aload_n (pc := 5) rfl dX1_save_5 ?_
  refine G_getR (pc := 6) (r := 24) (ci := 1) (j := 11) rfl lk_RX1_31 rfl rfl rfl dX1_save_6 ?_
  refine G_iconst (pc := 9) (v := 0) (by decide) dX1_save_9 ?_
  refine G_aload_n (pc := 10) rfl dX1_save_10 ?_
  refine G_getR (pc := 11) (r := 34) (ci := 1) (j := 18) rfl lk_RX1_53 rfl rfl rfl dX1_save_11 ?_
  refine G_iload_n (pc := 14) rfl dX1_save_14 ?_
  refine G_bipush (pc := 15) (v := 6) (by decide) dX1_save_15 ?_
  refine G_copy (pc := 17) (x := 24) (y := 34) rfl rfl (by decide) (by decide) (by decide) (by decide) (by decide) wf_50 wf_51 wf_52 wf_53 (Nat.le_of_ble_eq_true rfl) dX1_save_17 ?_
  refine G_aload_n (pc := 20) rfl dX1_save_20 ?_
  refine G_getR (pc := 21) (r := 34) (ci := 1) (j := 18) rfl lk_RX1_53 rfl rfl rfl dX1_save_21 ?_
  refine G_iload_n (pc := 24) rfl dX1_save_24 ?_
  refine G_bipush (pc := 25) (v := 6) (by decide) dX1_save_25 ?_
  refine G_iadd (pc := 27) (z := 6) (by decide) dX1_save_27 ?_
  refine G_aload_n (pc := 28) rfl dX1_save_28 ?_
  refine G_getI (pc := 29) (v := 0) (ci := 1) (j := 9) rfl rfl lk_RX1_75 rfl rfl dX1_save_29 ?_
  refine G_iast (pc := 32) (jj := 6) (by decide) rfl (by unfold vp_in; decide) dX1_save_32 ?_
  refine G_aload_n (pc := 33) rfl dX1_save_33 ?_
  refine G_getR (pc := 34) (r := 34) (ci := 1) (j := 18) rfl lk_RX1_53 rfl rfl rfl dX1_save_34 ?_
  refine G_iload_n (pc := 37) rfl dX1_save_37 ?_
  refine G_bipush (pc := 38) (v := 6) (by decide) dX1_save_38 ?_
  refine G_iadd (pc := 40) (z := 6) (by decide) dX1_save_40 ?_
  refine G_iconst (pc := 41) (v := 1) (by decide) dX1_save_41 ?_
  refine G_iadd (pc := 42) (z := 7) (by decide) dX1_save_42 ?_
  refine G_aload_n (pc := 43) rfl dX1_save_43 ?_
  refine G_getI (pc := 44) (v := 0) (ci := 1) (j := 1) rfl rfl lk_RX1_60 rfl rfl dX1_save_44 ?_
  refine G_iast (pc := 47) (jj := 7) (by decide) rfl (by unfold vp_in; decide) dX1_save_47 ?_
  exact G_vret (pc := 48) (Nat.le_of_ble_eq_true rfl) (Nat.le_of_ble_eq_true rfl) rfl dX1_save_48 ⟨rfl, rfl⟩
set_option maxRecDepth 100000 in
set_option maxHeartbeats 4000000 in
theorem s334_X1_isKey  (d : Nat)   : G (d) mX1_isKey 0 0 0 0 0 (gent 2 [.ref 19, .int (-1)]) [] SH0 RF0 (gup (gup (gup (gcp (gup (gup (gup (gup (gup (gup (gcp (gup (gup (gup (gup (gup (gcp (gup (gup (gup (gup (gup (gcp (gup (gup (gup (gup (gup (gcp (gup (gup (gup (gup (gup (gup (gcp (gup (gup (gup (gup (gup (gup (gup (gcp (gup (gup (gup (gup (gup (gup (gup (gcp (gup (gup (gup (gup (gup (gup (gup (gcp (gup (gup (gup (gup I0 52 0 0) 53 0 1) 54 0 0) 52 0 (-1)) 24 34 (0 : Int32).toNatClampNeg (0 : Int32).toNatClampNeg (6 : Int32).toNatClampNeg) 34 6 0) 34 7 0) 19 1 1) 52 1 0) 53 1 1) 54 1 0) 52 1 (-1)) 24 34 (0 : Int32).toNatClampNeg (8 : Int32).toNatClampNeg (6 : Int32).toNatClampNeg) 34 14 0) 34 15 1) 19 1 2) 52 2 0) 53 2 1) 54 2 0) 52 2 (-1)) 24 34 (0 : Int32).toNatClampNeg (16 : Int32).toNatClampNeg (6 : Int32).toNatClampNeg) 34 22 0) 34 23 2) 19 1 3) 52 3 0) 53 3 1) 54 3 0) 52 3 (-1)) 24 34 (0 : Int32).toNatClampNeg (24 : Int32).toNatClampNeg (6 : Int32).toNatClampNeg) 34 30 0) 34 31 3) 19 1 4) 52 4 0) 53 4 1) 54 4 0) 34 24 (24 : Int32).toNatClampNeg (0 : Int32).toNatClampNeg (6 : Int32).toNatClampNeg) 19 9 0) 19 1 3) 52 3 0) 53 3 1) 54 3 0) 34 24 (16 : Int32).toNatClampNeg (0 : Int32).toNatClampNeg (6 : Int32).toNatClampNeg) 19 9 0) 19 1 2) 52 2 0) 53 2 1) 54 2 0) 34 24 (8 : Int32).toNatClampNeg (0 : Int32).toNatClampNeg (6 : Int32).toNatClampNeg) 19 9 0) 19 1 1) 52 1 0) 53 1 1) 54 1 0) 34 24 (0 : Int32).toNatClampNeg (0 : Int32).toNatClampNeg (6 : Int32).toNatClampNeg) 19 9 0) 19 1 0) 52 0 0) 53 0 1) 54 0 0) 0 7 4) 24 34 (0 : Int32).toNatClampNeg (0 : Int32).toNatClampNeg (6 : Int32).toNatClampNeg) 34 6 0) 34 7 0) 1 0 0) (fun r h => r = some (.int 0) ∧ h = (SH0, RF0, (gup (gup (gup (gcp (gup (gup (gup (gup (gup (gup (gcp (gup (gup (gup (gup (gup (gcp (gup (gup (gup (gup (gup (gcp (gup (gup (gup (gup (gup (gcp (gup (gup (gup (gup (gup (gup (gcp (gup (gup (gup (gup (gup (gup (gup (gcp (gup (gup (gup (gup (gup (gup (gup (gcp (gup (gup (gup (gup (gup (gup (gup (gcp (gup (gup (gup (gup I0 52 0 0) 53 0 1) 54 0 0) 52 0 (-1)) 24 34 (0 : Int32).toNatClampNeg (0 : Int32).toNatClampNeg (6 : Int32).toNatClampNeg) 34 6 0) 34 7 0) 19 1 1) 52 1 0) 53 1 1) 54 1 0) 52 1 (-1)) 24 34 (0 : Int32).toNatClampNeg (8 : Int32).toNatClampNeg (6 : Int32).toNatClampNeg) 34 14 0) 34 15 1) 19 1 2) 52 2 0) 53 2 1) 54 2 0) 52 2 (-1)) 24 34 (0 : Int32).toNatClampNeg (16 : Int32).toNatClampNeg (6 : Int32).toNatClampNeg) 34 22 0) 34 23 2) 19 1 3) 52 3 0) 53 3 1) 54 3 0) 52 3 (-1)) 24 34 (0 : Int32).toNatClampNeg (24 : Int32).toNatClampNeg (6 : Int32).toNatClampNeg) 34 30 0) 34 31 3) 19 1 4) 52 4 0) 53 4 1) 54 4 0) 34 24 (24 : Int32).toNatClampNeg (0 : Int32).toNatClampNeg (6 : Int32).toNatClampNeg) 19 9 0) 19 1 3) 52 3 0) 53 3 1) 54 3 0) 34 24 (16 : Int32).toNatClampNeg (0 : Int32).toNatClampNeg (6 : Int32).toNatClampNeg) 19 9 0) 19 1 2) 52 2 0) 53 2 1) 54 2 0) 34 24 (8 : Int32).toNatClampNeg (0 : Int32).toNatClampNeg (6 : Int32).toNatClampNeg) 19 9 0) 19 1 1) 52 1 0) 53 1 1) 54 1 0) 34 24 (0 : Int32).toNatClampNeg (0 : Int32).toNatClampNeg (6 : Int32).toNatClampNeg) 19 9 0) 19 1 0) 52 0 0) 53 0 1) 54 0 0) 0 7 4) 24 34 (0 : Int32).toNatClampNeg (0 : Int32).toNatClampNeg (6 : Int32).toNatClampNeg) 34 6 0) 34 7 0) 1 0 0))) := by
  refine G_iload_n (pc := 0) rfl dX1_isKey_0 ?_
  refine G_if_lt (pc := 1) (tgt := 16) (by decide) dX1_isKey_1 (fun _ => ?_) (fun z => absurd (by decide) z)
  refine G_iconst (pc := 16) (v := 0) (by decide) dX1_isKey_16 ?_
  exact G_zret (pc := 17) (Nat.le_of_ble_eq_true rfl) (Nat.le_of_ble_eq_true rfl) rfl (by decide) dX1_isKey_17 ⟨rfl, rfl⟩
set_option maxRecDepth 100000 in
set_option maxHeartbeats 4000000 in
theorem s333_X1_tell  (d : Nat)   : G (d + 1) mX1_tell 0 0 0 0 0 (gent 5 [.ref 19, .int 0]) [] SH0 RF0 (gup (gup (gup (gcp (gup (gup (gup (gup (gup (gup (gcp (gup (gup (gup (gup (gup (gcp (gup (gup (gup (gup (gup (gcp (gup (gup (gup (gup (gup (gcp (gup (gup (gup (gup (gup (gup (gcp (gup (gup (gup (gup (gup (gup (gup (gcp (gup (gup (gup (gup (gup (gup (gup (gcp (gup (gup (gup (gup (gup (gup (gup (gcp (gup (gup (gup (gup I0 52 0 0) 53 0 1) 54 0 0) 52 0 (-1)) 24 34 (0 : Int32).toNatClampNeg (0 : Int32).toNatClampNeg (6 : Int32).toNatClampNeg) 34 6 0) 34 7 0) 19 1 1) 52 1 0) 53 1 1) 54 1 0) 52 1 (-1)) 24 34 (0 : Int32).toNatClampNeg (8 : Int32).toNatClampNeg (6 : Int32).toNatClampNeg) 34 14 0) 34 15 1) 19 1 2) 52 2 0) 53 2 1) 54 2 0) 52 2 (-1)) 24 34 (0 : Int32).toNatClampNeg (16 : Int32).toNatClampNeg (6 : Int32).toNatClampNeg) 34 22 0) 34 23 2) 19 1 3) 52 3 0) 53 3 1) 54 3 0) 52 3 (-1)) 24 34 (0 : Int32).toNatClampNeg (24 : Int32).toNatClampNeg (6 : Int32).toNatClampNeg) 34 30 0) 34 31 3) 19 1 4) 52 4 0) 53 4 1) 54 4 0) 34 24 (24 : Int32).toNatClampNeg (0 : Int32).toNatClampNeg (6 : Int32).toNatClampNeg) 19 9 0) 19 1 3) 52 3 0) 53 3 1) 54 3 0) 34 24 (16 : Int32).toNatClampNeg (0 : Int32).toNatClampNeg (6 : Int32).toNatClampNeg) 19 9 0) 19 1 2) 52 2 0) 53 2 1) 54 2 0) 34 24 (8 : Int32).toNatClampNeg (0 : Int32).toNatClampNeg (6 : Int32).toNatClampNeg) 19 9 0) 19 1 1) 52 1 0) 53 1 1) 54 1 0) 34 24 (0 : Int32).toNatClampNeg (0 : Int32).toNatClampNeg (6 : Int32).toNatClampNeg) 19 9 0) 19 1 0) 52 0 0) 53 0 1) 54 0 0) 0 7 4) 24 34 (0 : Int32).toNatClampNeg (0 : Int32).toNatClampNeg (6 : Int32).toNatClampNeg) 34 6 0) 34 7 0) 1 0 0) (fun r h => r = some (.int 0) ∧ h = (SH0, RF0, (gup (gup (gup (gcp (gup (gup (gup (gup (gup (gup (gcp (gup (gup (gup (gup (gup (gcp (gup (gup (gup (gup (gup (gcp (gup (gup (gup (gup (gup (gcp (gup (gup (gup (gup (gup (gup (gcp (gup (gup (gup (gup (gup (gup (gup (gcp (gup (gup (gup (gup (gup (gup (gup (gcp (gup (gup (gup (gup (gup (gup (gup (gcp (gup (gup (gup (gup I0 52 0 0) 53 0 1) 54 0 0) 52 0 (-1)) 24 34 (0 : Int32).toNatClampNeg (0 : Int32).toNatClampNeg (6 : Int32).toNatClampNeg) 34 6 0) 34 7 0) 19 1 1) 52 1 0) 53 1 1) 54 1 0) 52 1 (-1)) 24 34 (0 : Int32).toNatClampNeg (8 : Int32).toNatClampNeg (6 : Int32).toNatClampNeg) 34 14 0) 34 15 1) 19 1 2) 52 2 0) 53 2 1) 54 2 0) 52 2 (-1)) 24 34 (0 : Int32).toNatClampNeg (16 : Int32).toNatClampNeg (6 : Int32).toNatClampNeg) 34 22 0) 34 23 2) 19 1 3) 52 3 0) 53 3 1) 54 3 0) 52 3 (-1)) 24 34 (0 : Int32).toNatClampNeg (24 : Int32).toNatClampNeg (6 : Int32).toNatClampNeg) 34 30 0) 34 31 3) 19 1 4) 52 4 0) 53 4 1) 54 4 0) 34 24 (24 : Int32).toNatClampNeg (0 : Int32).toNatClampNeg (6 : Int32).toNatClampNeg) 19 9 0) 19 1 3) 52 3 0) 53 3 1) 54 3 0) 34 24 (16 : Int32).toNatClampNeg (0 : Int32).toNatClampNeg (6 : Int32).toNatClampNeg) 19 9 0) 19 1 2) 52 2 0) 53 2 1) 54 2 0) 34 24 (8 : Int32).toNatClampNeg (0 : Int32).toNatClampNeg (6 : Int32).toNatClampNeg) 19 9 0) 19 1 1) 52 1 0) 53 1 1) 54 1 0) 34 24 (0 : Int32).toNatClampNeg (0 : Int32).toNatClampNeg (6 : Int32).toNatClampNeg) 19 9 0) 19 1 0) 52 0 0) 53 0 1) 54 0 0) 0 7 4) 24 34 (0 : Int32).toNatClampNeg (0 : Int32).toNatClampNeg (6 : Int32).toNatClampNeg) 34 6 0) 34 7 0) 1 0 0))) := by
  refine G_iload_n (pc := 0) rfl dX1_tell_0 ?_
  refine G_iconst (pc := 1) (v := 1) (by decide) dX1_tell_1 ?_
  refine G_isub (pc := 2) (z := (-1)) (by decide) dX1_tell_2 ?_
  refine G_istore_n (pc := 3) (L1 := [some (.ref 19), some (.int 0), some (.int (-1)), none, none]) rfl rfl (by decide) dX1_tell_3 ?_
  refine G_aload_n (pc := 4) rfl dX1_tell_4 ?_
  refine G_iload_n (pc := 5) rfl dX1_tell_5 ?_
  refine G_callV (pc := 6) (mc1 := 0) (ms1 := 0) (ci := 1) (mj := mX1_isKey) (vs := [_]) dX1_tell_6 rfl rfl cm_X1_isKey wf_68 wf_13 wf_14 rfl (Nat.le_of_ble_eq_true rfl) (Nat.le_of_ble_eq_true rfl) (Nat.le_of_ble_eq_true rfl) (Nat.le_of_ble_eq_true rfl) (s334_X1_isKey  d  ) ?_
  rintro _ _ ⟨rfl, rfl⟩
  dsimp only [Option.toList, List.cons_append, List.nil_append]
  refine G_if_eq (pc := 9) (tgt := 20) (by decide) dX1_tell_9 (fun _ => ?_) (fun z => absurd (by decide) z)
  refine G_iconst (pc := 20) (v := 0) (by decide) dX1_tell_20 ?_
  exact G_iret (pc := 21) (Nat.le_of_ble_eq_true rfl) (Nat.le_of_ble_eq_true rfl) rfl dX1_tell_21 ⟨rfl, rfl⟩
set_option maxRecDepth 100000 in
set_option maxHeartbeats 4000000 in
theorem s335_X1_melt  (d : Nat)   : G (d) mX1_melt 0 0 0 0 0 (gent 3 [.ref 19]) [] SH0 RF0 (gup (gup (gup (gcp (gup (gup (gup (gup (gup (gup (gcp (gup (gup (gup (gup (gup (gcp (gup (gup (gup (gup (gup (gcp (gup (gup (gup (gup (gup (gcp (gup (gup (gup (gup (gup (gup (gcp (gup (gup (gup (gup (gup (gup (gup (gcp (gup (gup (gup (gup (gup (gup (gup (gcp (gup (gup (gup (gup (gup (gup (gup (gcp (gup (gup (gup (gup I0 52 0 0) 53 0 1) 54 0 0) 52 0 (-1)) 24 34 (0 : Int32).toNatClampNeg (0 : Int32).toNatClampNeg (6 : Int32).toNatClampNeg) 34 6 0) 34 7 0) 19 1 1) 52 1 0) 53 1 1) 54 1 0) 52 1 (-1)) 24 34 (0 : Int32).toNatClampNeg (8 : Int32).toNatClampNeg (6 : Int32).toNatClampNeg) 34 14 0) 34 15 1) 19 1 2) 52 2 0) 53 2 1) 54 2 0) 52 2 (-1)) 24 34 (0 : Int32).toNatClampNeg (16 : Int32).toNatClampNeg (6 : Int32).toNatClampNeg) 34 22 0) 34 23 2) 19 1 3) 52 3 0) 53 3 1) 54 3 0) 52 3 (-1)) 24 34 (0 : Int32).toNatClampNeg (24 : Int32).toNatClampNeg (6 : Int32).toNatClampNeg) 34 30 0) 34 31 3) 19 1 4) 52 4 0) 53 4 1) 54 4 0) 34 24 (24 : Int32).toNatClampNeg (0 : Int32).toNatClampNeg (6 : Int32).toNatClampNeg) 19 9 0) 19 1 3) 52 3 0) 53 3 1) 54 3 0) 34 24 (16 : Int32).toNatClampNeg (0 : Int32).toNatClampNeg (6 : Int32).toNatClampNeg) 19 9 0) 19 1 2) 52 2 0) 53 2 1) 54 2 0) 34 24 (8 : Int32).toNatClampNeg (0 : Int32).toNatClampNeg (6 : Int32).toNatClampNeg) 19 9 0) 19 1 1) 52 1 0) 53 1 1) 54 1 0) 34 24 (0 : Int32).toNatClampNeg (0 : Int32).toNatClampNeg (6 : Int32).toNatClampNeg) 19 9 0) 19 1 0) 52 0 0) 53 0 1) 54 0 0) 0 7 4) 24 34 (0 : Int32).toNatClampNeg (0 : Int32).toNatClampNeg (6 : Int32).toNatClampNeg) 34 6 0) 34 7 0) 1 0 0) (fun r h => r = some (.int 0) ∧ h = (SH0, RF0, (gup (gup (gup (gup (gcp (gup (gup (gup (gup (gup (gup (gcp (gup (gup (gup (gup (gup (gcp (gup (gup (gup (gup (gup (gcp (gup (gup (gup (gup (gup (gcp (gup (gup (gup (gup (gup (gup (gcp (gup (gup (gup (gup (gup (gup (gup (gcp (gup (gup (gup (gup (gup (gup (gup (gcp (gup (gup (gup (gup (gup (gup (gup (gcp (gup (gup (gup (gup I0 52 0 0) 53 0 1) 54 0 0) 52 0 (-1)) 24 34 (0 : Int32).toNatClampNeg (0 : Int32).toNatClampNeg (6 : Int32).toNatClampNeg) 34 6 0) 34 7 0) 19 1 1) 52 1 0) 53 1 1) 54 1 0) 52 1 (-1)) 24 34 (0 : Int32).toNatClampNeg (8 : Int32).toNatClampNeg (6 : Int32).toNatClampNeg) 34 14 0) 34 15 1) 19 1 2) 52 2 0) 53 2 1) 54 2 0) 52 2 (-1)) 24 34 (0 : Int32).toNatClampNeg (16 : Int32).toNatClampNeg (6 : Int32).toNatClampNeg) 34 22 0) 34 23 2) 19 1 3) 52 3 0) 53 3 1) 54 3 0) 52 3 (-1)) 24 34 (0 : Int32).toNatClampNeg (24 : Int32).toNatClampNeg (6 : Int32).toNatClampNeg) 34 30 0) 34 31 3) 19 1 4) 52 4 0) 53 4 1) 54 4 0) 34 24 (24 : Int32).toNatClampNeg (0 : Int32).toNatClampNeg (6 : Int32).toNatClampNeg) 19 9 0) 19 1 3) 52 3 0) 53 3 1) 54 3 0) 34 24 (16 : Int32).toNatClampNeg (0 : Int32).toNatClampNeg (6 : Int32).toNatClampNeg) 19 9 0) 19 1 2) 52 2 0) 53 2 1) 54 2 0) 34 24 (8 : Int32).toNatClampNeg (0 : Int32).toNatClampNeg (6 : Int32).toNatClampNeg) 19 9 0) 19 1 1) 52 1 0) 53 1 1) 54 1 0) 34 24 (0 : Int32).toNatClampNeg (0 : Int32).toNatClampNeg (6 : Int32).toNatClampNeg) 19 9 0) 19 1 0) 52 0 0) 53 0 1) 54 0 0) 0 7 4) 24 34 (0 : Int32).toNatClampNeg (0 : Int32).toNatClampNeg (6 : Int32).toNatClampNeg) 34 6 0) 34 7 0) 1 0 0) 19 1 1))) := by
  refine G_iconst (pc := 0) (v := 0) (by decide) dX1_melt_0 ?_
  refine G_istore_n (pc := 1) (L1 := [some (.ref 19), some (.int 0), none]) rfl rfl (by decide) dX1_melt_1 ?_
  refine G_iconst (pc := 2) (v := 0) (by decide) dX1_melt_2 ?_
  refine G_istore_n (pc := 3) (L1 := [some (.ref 19), some (.int 0), some (.int 0)]) rfl rfl (by decide) dX1_melt_3 ?_
  refine G_iload_n (pc := 4) rfl dX1_melt_4 ?_
  refine G_aload_n (pc := 5) rfl dX1_melt_5 ?_
  refine G_getI (pc := 6) (v := 0) (ci := 1) (j := 8) rfl rfl lk_RX1_72 rfl rfl dX1_melt_6 ?_
  refine G_icmp_ge (pc := 9) (tgt := 60) (by decide) dX1_melt_9 (fun _ => ?_) (fun z => absurd (by decide) z)
  refine G_aload_n (pc := 60) rfl dX1_melt_60 ?_
  refine G_dup (pc := 61) rfl dX1_melt_61 ?_
  refine G_getI (pc := 62) (v := 0) (ci := 1) (j := 1) rfl rfl lk_RX1_60 rfl rfl dX1_melt_62 ?_
  refine G_iconst (pc := 65) (v := 1) (by decide) dX1_melt_65 ?_
  refine G_iadd (pc := 66) (z := 1) (by decide) dX1_melt_66 ?_
  refine G_putI (pc := 67) (ci := 1) (j := 1) rfl lk_RX1_60 rfl rfl rfl trivial dX1_melt_67 ?_
  refine G_iload_n (pc := 70) rfl dX1_melt_70 ?_
  exact G_iret (pc := 71) (Nat.le_of_ble_eq_true rfl) (Nat.le_of_ble_eq_true rfl) rfl dX1_melt_71 ⟨rfl, rfl⟩
set_option maxRecDepth 100000 in
set_option maxHeartbeats 4000000 in
theorem s332_X1_goBy  (d : Nat)   : G (d + 2) mX1_goBy 0 0 0 0 0 (gent 2 [.ref 19, .int 0]) [] SH0 RF0 (gup (gup (gup (gcp (gup (gup (gup (gup (gup (gup (gcp (gup (gup (gup (gup (gup (gcp (gup (gup (gup (gup (gup (gcp (gup (gup (gup (gup (gup (gcp (gup (gup (gup (gup (gup (gup (gcp (gup (gup (gup (gup (gup (gup (gup (gcp (gup (gup (gup (gup (gup (gup (gup (gcp (gup (gup (gup (gup (gup (gup (gup (gcp (gup (gup (gup (gup I0 52 0 0) 53 0 1) 54 0 0) 52 0 (-1)) 24 34 (0 : Int32).toNatClampNeg (0 : Int32).toNatClampNeg (6 : Int32).toNatClampNeg) 34 6 0) 34 7 0) 19 1 1) 52 1 0) 53 1 1) 54 1 0) 52 1 (-1)) 24 34 (0 : Int32).toNatClampNeg (8 : Int32).toNatClampNeg (6 : Int32).toNatClampNeg) 34 14 0) 34 15 1) 19 1 2) 52 2 0) 53 2 1) 54 2 0) 52 2 (-1)) 24 34 (0 : Int32).toNatClampNeg (16 : Int32).toNatClampNeg (6 : Int32).toNatClampNeg) 34 22 0) 34 23 2) 19 1 3) 52 3 0) 53 3 1) 54 3 0) 52 3 (-1)) 24 34 (0 : Int32).toNatClampNeg (24 : Int32).toNatClampNeg (6 : Int32).toNatClampNeg) 34 30 0) 34 31 3) 19 1 4) 52 4 0) 53 4 1) 54 4 0) 34 24 (24 : Int32).toNatClampNeg (0 : Int32).toNatClampNeg (6 : Int32).toNatClampNeg) 19 9 0) 19 1 3) 52 3 0) 53 3 1) 54 3 0) 34 24 (16 : Int32).toNatClampNeg (0 : Int32).toNatClampNeg (6 : Int32).toNatClampNeg) 19 9 0) 19 1 2) 52 2 0) 53 2 1) 54 2 0) 34 24 (8 : Int32).toNatClampNeg (0 : Int32).toNatClampNeg (6 : Int32).toNatClampNeg) 19 9 0) 19 1 1) 52 1 0) 53 1 1) 54 1 0) 34 24 (0 : Int32).toNatClampNeg (0 : Int32).toNatClampNeg (6 : Int32).toNatClampNeg) 19 9 0) 19 1 0) 52 0 0) 53 0 1) 54 0 0) 0 7 4) 24 34 (0 : Int32).toNatClampNeg (0 : Int32).toNatClampNeg (6 : Int32).toNatClampNeg) 34 6 0) 34 7 0) 1 0 0) (fun r h => r = some (.int 0) ∧ h = (SH0, RF0, (gup (gup (gup (gup (gcp (gup (gup (gup (gup (gup (gup (gcp (gup (gup (gup (gup (gup (gcp (gup (gup (gup (gup (gup (gcp (gup (gup (gup (gup (gup (gcp (gup (gup (gup (gup (gup (gup (gcp (gup (gup (gup (gup (gup (gup (gup (gcp (gup (gup (gup (gup (gup (gup (gup (gcp (gup (gup (gup (gup (gup (gup (gup (gcp (gup (gup (gup (gup I0 52 0 0) 53 0 1) 54 0 0) 52 0 (-1)) 24 34 (0 : Int32).toNatClampNeg (0 : Int32).toNatClampNeg (6 : Int32).toNatClampNeg) 34 6 0) 34 7 0) 19 1 1) 52 1 0) 53 1 1) 54 1 0) 52 1 (-1)) 24 34 (0 : Int32).toNatClampNeg (8 : Int32).toNatClampNeg (6 : Int32).toNatClampNeg) 34 14 0) 34 15 1) 19 1 2) 52 2 0) 53 2 1) 54 2 0) 52 2 (-1)) 24 34 (0 : Int32).toNatClampNeg (16 : Int32).toNatClampNeg (6 : Int32).toNatClampNeg) 34 22 0) 34 23 2) 19 1 3) 52 3 0) 53 3 1) 54 3 0) 52 3 (-1)) 24 34 (0 : Int32).toNatClampNeg (24 : Int32).toNatClampNeg (6 : Int32).toNatClampNeg) 34 30 0) 34 31 3) 19 1 4) 52 4 0) 53 4 1) 54 4 0) 34 24 (24 : Int32).toNatClampNeg (0 : Int32).toNatClampNeg (6 : Int32).toNatClampNeg) 19 9 0) 19 1 3) 52 3 0) 53 3 1) 54 3 0) 34 24 (16 : Int32).toNatClampNeg (0 : Int32).toNatClampNeg (6 : Int32).toNatClampNeg) 19 9 0) 19 1 2) 52 2 0) 53 2 1) 54 2 0) 34 24 (8 : Int32).toNatClampNeg (0 : Int32).toNatClampNeg (6 : Int32).toNatClampNeg) 19 9 0) 19 1 1) 52 1 0) 53 1 1) 54 1 0) 34 24 (0 : Int32).toNatClampNeg (0 : Int32).toNatClampNeg (6 : Int32).toNatClampNeg) 19 9 0) 19 1 0) 52 0 0) 53 0 1) 54 0 0) 0 7 4) 24 34 (0 : Int32).toNatClampNeg (0 : Int32).toNatClampNeg (6 : Int32).toNatClampNeg) 34 6 0) 34 7 0) 1 0 0) 19 1 1))) := by
  refine G_aload_n (pc := 0) rfl dX1_goBy_0 ?_
  refine G_iload_n (pc := 1) rfl dX1_goBy_1 ?_
  refine G_callV (pc := 2) (mc1 := 0) (ms1 := 0) (ci := 1) (mj := mX1_tell) (vs := [_]) dX1_goBy_2 rfl rfl cm_X1_tell wf_69 wf_71 wf_72 rfl (Nat.le_of_ble_eq_true rfl) (Nat.le_of_ble_eq_true rfl) (Nat.le_of_ble_eq_true rfl) (Nat.le_of_ble_eq_true rfl) (s333_X1_tell  d  ) ?_
  rintro _ _ ⟨rfl, rfl⟩
  dsimp only [Option.toList, List.cons_append, List.nil_append]
  refine G_aload_n (pc := 5) rfl dX1_goBy_5 ?_
  refine G_callV (pc := 6) (mc1 := 0) (ms1 := 0) (ci := 1) (mj := mX1_melt) (vs := []) dX1_goBy_6 rfl rfl cm_X1_melt wf_73 wf_75 wf_76 rfl (Nat.le_of_ble_eq_true rfl) (Nat.le_of_ble_eq_true rfl) (Nat.le_of_ble_eq_true rfl) (Nat.le_of_ble_eq_true rfl) (s335_X1_melt  (d + 1)  ) ?_
  rintro _ _ ⟨rfl, rfl⟩
  dsimp only [Option.toList, List.cons_append, List.nil_append]
  refine G_iadd (pc := 9) (z := 0) (by decide) dX1_goBy_9 ?_
  exact G_iret (pc := 10) (Nat.le_of_ble_eq_true rfl) (Nat.le_of_ble_eq_true rfl) rfl dX1_goBy_10 ⟨rfl, rfl⟩
set_option maxRecDepth 100000 in
set_option maxHeartbeats 4000000 in
theorem s338_X1_isKey  (d : Nat)   : G (d) mX1_isKey 0 0 0 0 0 (gent 2 [.ref 19, .int (-1)]) [] SH0 RF0 (gup (gup (gup (gup (gup (gup (gup (gcp (gup (gup (gup (gup (gup (gup (gcp (gup (gup (gup (gup (gup (gcp (gup (gup (gup (gup (gup (gcp (gup (gup (gup (gup (gup (gcp (gup (gup (gup (gup (gup (gup (gcp (gup (gup (gup (gup (gup (gup (gup (gcp (gup (gup (gup (gup (gup (gup (gup (gcp (gup (gup (gup (gup (gup (gup (gup (gcp (gup (gup (gup (gup I0 52 0 0) 53 0 1) 54 0 0) 52 0 (-1)) 24 34 (0 : Int32).toNatClampNeg (0 : Int32).toNatClampNeg (6 : Int32).toNatClampNeg) 34 6 0) 34 7 0) 19 1 1) 52 1 0) 53 1 1) 54 1 0) 52 1 (-1)) 24 34 (0 : Int32).toNatClampNeg (8 : Int32).toNatClampNeg (6 : Int32).toNatClampNeg) 34 14 0) 34 15 1) 19 1 2) 52 2 0) 53 2 1) 54 2 0) 52 2 (-1)) 24 34 (0 : Int32).toNatClampNeg (16 : Int32).toNatClampNeg (6 : Int32).toNatClampNeg) 34 22 0) 34 23 2) 19 1 3) 52 3 0) 53 3 1) 54 3 0) 52 3 (-1)) 24 34 (0 : Int32).toNatClampNeg (24 : Int32).toNatClampNeg (6 : Int32).toNatClampNeg) 34 30 0) 34 31 3) 19 1 4) 52 4 0) 53 4 1) 54 4 0) 34 24 (24 : Int32).toNatClampNeg (0 : Int32).toNatClampNeg (6 : Int32).toNatClampNeg) 19 9 0) 19 1 3) 52 3 0) 53 3 1) 54 3 0) 34 24 (16 : Int32).toNatClampNeg (0 : Int32).toNatClampNeg (6 : Int32).toNatClampNeg) 19 9 0) 19 1 2) 52 2 0) 53 2 1) 54 2 0) 34 24 (8 : Int32).toNatClampNeg (0 : Int32).toNatClampNeg (6 : Int32).toNatClampNeg) 19 9 0) 19 1 1) 52 1 0) 53 1 1) 54 1 0) 34 24 (0 : Int32).toNatClampNeg (0 : Int32).toNatClampNeg (6 : Int32).toNatClampNeg) 19 9 0) 19 1 0) 52 0 0) 53 0 1) 54 0 0) 0 7 4) 24 34 (0 : Int32).toNatClampNeg (0 : Int32).toNatClampNeg (6 : Int32).toNatClampNeg) 34 6 0) 34 7 0) 1 0 0) 19 1 1) 1 1 0) 1 2 0) 1 3 0) (fun r h => r = some (.int 0) ∧ h = (SH0, RF0, (gup (gup (gup (gup (gup (gup (gup (gcp (gup (gup (gup (gup (gup (gup (gcp (gup (gup (gup (gup (gup (gcp (gup (gup (gup (gup (gup (gcp (gup (gup (gup (gup (gup (gcp (gup (gup (gup (gup (gup (gup (gcp (gup (gup (gup (gup (gup (gup (gup (gcp (gup (gup (gup (gup (gup (gup (gup (gcp (gup (gup (gup (gup (gup (gup (gup (gcp (gup (gup (gup (gup I0 52 0 0) 53 0 1) 54 0 0) 52 0 (-1)) 24 34 (0 : Int32).toNatClampNeg (0 : Int32).toNatClampNeg (6 : Int32).toNatClampNeg) 34 6 0) 34 7 0) 19 1 1) 52 1 0) 53 1 1) 54 1 0) 52 1 (-1)) 24 34 (0 : Int32).toNatClampNeg (8 : Int32).toNatClampNeg (6 : Int32).toNatClampNeg) 34 14 0) 34 15 1) 19 1 2) 52 2 0) 53 2 1) 54 2 0) 52 2 (-1)) 24 34 (0 : Int32).toNatClampNeg (16 : Int32).toNatClampNeg (6 : Int32).toNatClampNeg) 34 22 0) 34 23 2) 19 1 3) 52 3 0) 53 3 1) 54 3 0) 52 3 (-1)) 24 34 (0 : Int32).toNatClampNeg (24 : Int32).toNatClampNeg (6 : Int32).toNatClampNeg) 34 30 0) 34 31 3) 19 1 4) 52 4 0) 53 4 1) 54 4 0) 34 24 (24 : Int32).toNatClampNeg (0 : Int32).toNatClampNeg (6 : Int32).toNatClampNeg) 19 9 0) 19 1 3) 52 3 0) 53 3 1) 54 3 0) 34 24 (16 : Int32).toNatClampNeg (0 : Int32).toNatClampNeg (6 : Int32).toNatClampNeg) 19 9 0) 19 1 2) 52 2 0) 53 2 1) 54 2 0) 34 24 (8 : Int32).toNatClampNeg (0 : Int32).toNatClampNeg (6 : Int32).toNatClampNeg) 19 9 0) 19 1 1) 52 1 0) 53 1 1) 54 1 0) 34 24 (0 : Int32).toNatClampNeg (0 : Int32).toNatClampNeg (6 : Int32).toNatClampNeg) 19 9 0) 19 1 0) 52 0 0) 53 0 1) 54 0 0) 0 7 4) 24 34 (0 : Int32).toNatClampNeg (0 : Int32).toNatClampNeg (6 : Int32).toNatClampNeg) 34 6 0) 34 7 0) 1 0 0) 19 1 1) 1 1 0) 1 2 0) 1 3 0))) := by
  refine G_iload_n (pc := 0) rfl dX1_isKey_0 ?_
  refine G_if_lt (pc := 1) (tgt := 16) (by decide) dX1_isKey_1 (fun _ => ?_) (fun z => absurd (by decide) z)
  refine G_iconst (pc := 16) (v := 0) (by decide) dX1_isKey_16 ?_
  exact G_zret (pc := 17) (Nat.le_of_ble_eq_true rfl) (Nat.le_of_ble_eq_true rfl) rfl (by decide) dX1_isKey_17 ⟨rfl, rfl⟩
set_option maxRecDepth 100000 in
set_option maxHeartbeats 4000000 in
theorem s337_X1_tell  (d : Nat)   : G (d + 1) mX1_tell 0 0 0 0 0 (gent 5 [.ref 19, .int 0]) [] SH0 RF0 (gup (gup (gup (gup (gup (gup (gup (gcp (gup (gup (gup (gup (gup (gup (gcp (gup (gup (gup (gup (gup (gcp (gup (gup (gup (gup (gup (gcp (gup (gup (gup (gup (gup (gcp (gup (gup (gup (gup (gup (gup (gcp (gup (gup (gup (gup (gup (gup (gup (gcp (gup (gup (gup (gup (gup (gup (gup (gcp (gup (gup (gup (gup (gup (gup (gup (gcp (gup (gup (gup (gup I0 52 0 0) 53 0 1) 54 0 0) 52 0 (-1)) 24 34 (0 : Int32).toNatClampNeg (0 : Int32).toNatClampNeg (6 : Int32).toNatClampNeg) 34 6 0) 34 7 0) 19 1 1) 52 1 0) 53 1 1) 54 1 0) 52 1 (-1)) 24 34 (0 : Int32).toNatClampNeg (8 : Int32).toNatClampNeg (6 : Int32).toNatClampNeg) 34 14 0) 34 15 1) 19 1 2) 52 2 0) 53 2 1) 54 2 0) 52 2 (-1)) 24 34 (0 : Int32).toNatClampNeg (16 : Int32).toNatClampNeg (6 : Int32).toNatClampNeg) 34 22 0) 34 23 2) 19 1 3) 52 3 0) 53 3 1) 54 3 0) 52 3 (-1)) 24 34 (0 : Int32).toNatClampNeg (24 : Int32).toNatClampNeg (6 : Int32).toNatClampNeg) 34 30 0) 34 31 3) 19 1 4) 52 4 0) 53 4 1) 54 4 0) 34 24 (24 : Int32).toNatClampNeg (0 : Int32).toNatClampNeg (6 : Int32).toNatClampNeg) 19 9 0) 19 1 3) 52 3 0) 53 3 1) 54 3 0) 34 24 (16 : Int32).toNatClampNeg (0 : Int32).toNatClampNeg (6 : Int32).toNatClampNeg) 19 9 0) 19 1 2) 52 2 0) 53 2 1) 54 2 0) 34 24 (8 : Int32).toNatClampNeg (0 : Int32).toNatClampNeg (6 : Int32).toNatClampNeg) 19 9 0) 19 1 1) 52 1 0) 53 1 1) 54 1 0) 34 24 (0 : Int32).toNatClampNeg (0 : Int32).toNatClampNeg (6 : Int32).toNatClampNeg) 19 9 0) 19 1 0) 52 0 0) 53 0 1) 54 0 0) 0 7 4) 24 34 (0 : Int32).toNatClampNeg (0 : Int32).toNatClampNeg (6 : Int32).toNatClampNeg) 34 6 0) 34 7 0) 1 0 0) 19 1 1) 1 1 0) 1 2 0) 1 3 0) (fun r h => r = some (.int 0) ∧ h = (SH0, RF0, (gup (gup (gup (gup (gup (gup (gup (gcp (gup (gup (gup (gup (gup (gup (gcp (gup (gup (gup (gup (gup (gcp (gup (gup (gup (gup (gup (gcp (gup (gup (gup (gup (gup (gcp (gup (gup (gup (gup (gup (gup (gcp (gup (gup (gup (gup (gup (gup (gup (gcp (gup (gup (gup (gup (gup (gup (gup (gcp (gup (gup (gup (gup (gup (gup (gup (gcp (gup (gup (gup (gup I0 52 0 0) 53 0 1) 54 0 0) 52 0 (-1)) 24 34 (0 : Int32).toNatClampNeg (0 : Int32).toNatClampNeg (6 : Int32).toNatClampNeg) 34 6 0) 34 7 0) 19 1 1) 52 1 0) 53 1 1) 54 1 0) 52 1 (-1)) 24 34 (0 : Int32).toNatClampNeg (8 : Int32).toNatClampNeg (6 : Int32).toNatClampNeg) 34 14 0) 34 15 1) 19 1 2) 52 2 0) 53 2 1) 54 2 0) 52 2 (-1)) 24 34 (0 : Int32).toNatClampNeg (16 : Int32).toNatClampNeg (6 : Int32).toNatClampNeg) 34 22 0) 34 23 2) 19 1 3) 52 3 0) 53 3 1) 54 3 0) 52 3 (-1)) 24 34 (0 : Int32).toNatClampNeg (24 : Int32).toNatClampNeg (6 : Int32).toNatClampNeg) 34 30 0) 34 31 3) 19 1 4) 52 4 0) 53 4 1) 54 4 0) 34 24 (24 : Int32).toNatClampNeg (0 : Int32).toNatClampNeg (6 : Int32).toNatClampNeg) 19 9 0) 19 1 3) 52 3 0) 53 3 1) 54 3 0) 34 24 (16 : Int32).toNatClampNeg (0 : Int32).toNatClampNeg (6 : Int32).toNatClampNeg) 19 9 0) 19 1 2) 52 2 0) 53 2 1) 54 2 0) 34 24 (8 : Int32).toNatClampNeg (0 : Int32).toNatClampNeg (6 : Int32).toNatClampNeg) 19 9 0) 19 1 1) 52 1 0) 53 1 1) 54 1 0) 34 24 (0 : Int32).toNatClampNeg (0 : Int32).toNatClampNeg (6 : Int32).toNatClampNeg) 19 9 0) 19 1 0) 52 0 0) 53 0 1) 54 0 0) 0 7 4) 24 34 (0 : Int32).toNatClampNeg (0 : Int32).toNatClampNeg (6 : Int32).toNatClampNeg) 34 6 0) 34 7 0) 1 0 0) 19 1 1) 1 1 0) 1 2 0) 1 3 0))) := by
  refine G_iload_n (pc := 0) rfl dX1_tell_0 ?_
  refine G_iconst (pc := 1) (v := 1) (by decide) dX1_tell_1 ?_
  refine G_isub (pc := 2) (z := (-1)) (by decide) dX1_tell_2 ?_
  refine G_istore_n (pc := 3) (L1 := [some (.ref 19), some (.int 0), some (.int (-1)), none, none]) rfl rfl (by decide) dX1_tell_3 ?_
  refine G_aload_n (pc := 4) rfl dX1_tell_4 ?_
  refine G_iload_n (pc := 5) rfl dX1_tell_5 ?_
  refine G_callV (pc := 6) (mc1 := 0) (ms1 := 0) (ci := 1) (mj := mX1_isKey) (vs := [_]) dX1_tell_6 rfl rfl cm_X1_isKey wf_68 wf_13 wf_14 rfl (Nat.le_of_ble_eq_true rfl) (Nat.le_of_ble_eq_true rfl) (Nat.le_of_ble_eq_true rfl) (Nat.le_of_ble_eq_true rfl) (s338_X1_isKey  d  ) ?_
  rintro _ _ ⟨rfl, rfl⟩
  dsimp only [Option.toList, List.cons_append, List.nil_append]
  refine G_if_eq (pc := 9) (tgt := 20) (by decide) dX1_tell_9 (fun _ => ?_) (fun z => absurd (by decide) z)
  refine G_iconst (pc := 20) (v := 0) (by decide) dX1_tell_20 ?_
  exact G_iret (pc := 21) (Nat.le_of_ble_eq_true rfl) (Nat.le_of_ble_eq_true rfl) rfl dX1_tell_21 ⟨rfl, rfl⟩
set_option maxRecDepth 100000 in
set_option maxHeartbeats 4000000 in
theorem s339_X1_melt  (d : Nat)   : G (d) mX1_melt 0 0 0 0 0 (gent 3 [.ref 19]) [] SH0 RF0 (gup (gup (gup (gup (gup (gup (gup (gcp (gup (gup (gup (gup (gup (gup (gcp (gup (gup (gup (gup (gup (gcp (gup (gup (gup (gup (gup (gcp (gup (gup (gup (gup (gup (gcp (gup (gup (gup (gup (gup (gup (gcp (gup (gup (gup (gup (gup (gup (gup (gcp (gup (gup (gup (gup (gup (gup (gup (gcp (gup (gup (gup (gup (gup (gup (gup (gcp (gup (gup (gup (gup I0 52 0 0) 53 0 1) 54 0 0) 52 0 (-1)) 24 34 (0 : Int32).toNatClampNeg (0 : Int32).toNatClampNeg (6 : Int32).toNatClampNeg) 34 6 0) 34 7 0) 19 1 1) 52 1 0) 53 1 1) 54 1 0) 52 1 (-1)) 24 34 (0 : Int32).toNatClampNeg (8 : Int32).toNatClampNeg (6 : Int32).toNatClampNeg) 34 14 0) 34 15 1) 19 1 2) 52 2 0) 53 2 1) 54 2 0) 52 2 (-1)) 24 34 (0 : Int32).toNatClampNeg (16 : Int32).toNatClampNeg (6 : Int32).toNatClampNeg) 34 22 0) 34 23 2) 19 1 3) 52 3 0) 53 3 1) 54 3 0) 52 3 (-1)) 24 34 (0 : Int32).toNatClampNeg (24 : Int32).toNatClampNeg (6 : Int32).toNatClampNeg) 34 30 0) 34 31 3) 19 1 4) 52 4 0) 53 4 1) 54 4 0) 34 24 (24 : Int32).toNatClampNeg (0 : Int32).toNatClampNeg (6 : Int32).toNatClampNeg) 19 9 0) 19 1 3) 52 3 0) 53 3 1) 54 3 0) 34 24 (16 : Int32).toNatClampNeg (0 : Int32).toNatClampNeg (6 : Int32).toNatClampNeg) 19 9 0) 19 1 2) 52 2 0) 53 2 1) 54 2 0) 34 24 (8 : Int32).toNatClampNeg (0 : Int32).toNatClampNeg (6 : Int32).toNatClampNeg) 19 9 0) 19 1 1) 52 1 0) 53 1 1) 54 1 0) 34 24 (0 : Int32).toNatClampNeg (0 : Int32).toNatClampNeg (6 : Int32).toNatClampNeg) 19 9 0) 19 1 0) 52 0 0) 53 0 1) 54 0 0) 0 7 4) 24 34 (0 : Int32).toNatClampNeg (0 : Int32).toNatClampNeg (6 : Int32).toNatClampNeg) 34 6 0) 34 7 0) 1 0 0) 19 1 1) 1 1 0) 1 2 0) 1 3 0) (fun r h => r = some (.int 0) ∧ h = (SH0, RF0, (gup (gup (gup (gup (gup (gup (gup (gup (gcp (gup (gup (gup (gup (gup (gup (gcp (gup (gup (gup (gup (gup (gcp (gup (gup (gup (gup (gup (gcp (gup (gup (gup (gup (gup (gcp (gup (gup (gup (gup (gup (gup (gcp (gup (gup (gup (gup (gup (gup (gup (gcp (gup (gup (gup (gup (gup (gup (gup (gcp (gup (gup (gup (gup (gup (gup (gup (gcp (gup (gup (gup (gup I0 52 0 0) 53 0 1) 54 0 0) 52 0 (-1)) 24 34 (0 : Int32).toNatClampNeg (0 : Int32).toNatClampNeg (6 : Int32).toNatClampNeg) 34 6 0) 34 7 0) 19 1 1) 52 1 0) 53 1 1) 54 1 0) 52 1 (-1)) 24 34 (0 : Int32).toNatClampNeg (8 : Int32).toNatClampNeg (6 : Int32).toNatClampNeg) 34 14 0) 34 15 1) 19 1 2) 52 2 0) 53 2 1) 54 2 0) 52 2 (-1)) 24 34 (0 : Int32).toNatClampNeg (16 : Int32).toNatClampNeg (6 : Int32).toNatClampNeg) 34 22 0) 34 23 2) 19 1 3) 52 3 0) 53 3 1) 54 3 0) 52 3 (-1)) 24 34 (0 : Int32).toNatClampNeg (24 : Int32).toNatClampNeg (6 : Int32).toNatClampNeg) 34 30 0) 34 31 3) 19 1 4) 52 4 0) 53 4 1) 54 4 0) 34 24 (24 : Int32).toNatClampNeg (0 : Int32).toNatClampNeg (6 : Int32).toNatClampNeg) 19 9 0) 19 1 3) 52 3 0) 53 3 1) 54 3 0) 34 24 (16 : Int32).toNatClampNeg (0 : Int32).toNatClampNeg (6 : Int32).toNatClampNeg) 19 9 0) 19 1 2) 52 2 0) 53 2 1) 54 2 0) 34 24 (8 : Int32).toNatClampNeg (0 : Int32).toNatClampNeg (6 : Int32).toNatClampNeg) 19 9 0) 19 1 1) 52 1 0) 53 1 1) 54 1 0) 34 24 (0 : Int32).toNatClampNeg (0 : Int32).toNatClampNeg (6 : Int32).toNatClampNeg) 19 9 0) 19 1 0) 52 0 0) 53 0 1) 54 0 0) 0 7 4) 24 34 (0 : Int32).toNatClampNeg (0 : Int32).toNatClampNeg (6 : Int32).toNatClampNeg) 34 6 0) 34 7 0) 1 0 0) 19 1 1) 1 1 0) 1 2 0) 1 3 0) 19 1 2))) := by
  refine G_iconst (pc := 0) (v := 0) (by decide) dX1_melt_0 ?_
  refine G_istore_n (pc := 1) (L1 := [some (.ref 19), some (.int 0), none]) rfl rfl (by decide) dX1_melt_1 ?_
  refine G_iconst (pc := 2) (v := 0) (by decide) dX1_melt_2 ?_
  refine G_istore_n (pc := 3) (L1 := [some (.ref 19), some (.int 0), some (.int 0)]) rfl rfl (by decide) dX1_melt_3 ?_
  refine G_iload_n (pc := 4) rfl dX1_melt_4 ?_
  refine G_aload_n (pc := 5) rfl dX1_melt_5 ?_
  refine G_getI (pc := 6) (v := 0) (ci := 1) (j := 8) rfl rfl lk_RX1_72 rfl rfl dX1_melt_6 ?_
  refine G_icmp_ge (pc := 9) (tgt := 60) (by decide) dX1_melt_9 (fun _ => ?_) (fun z => absurd (by decide) z)
  refine G_aload_n (pc := 60) rfl dX1_melt_60 ?_
  refine G_dup (pc := 61) rfl dX1_melt_61 ?_
  refine G_getI (pc := 62) (v := 1) (ci := 1) (j := 1) rfl rfl lk_RX1_60 rfl rfl dX1_melt_62 ?_
  refine G_iconst (pc := 65) (v := 1) (by decide) dX1_melt_65 ?_
  refine G_iadd (pc := 66) (z := 2) (by decide) dX1_melt_66 ?_
  refine G_putI (pc := 67) (ci := 1) (j := 1) rfl lk_RX1_60 rfl rfl rfl trivial dX1_melt_67 ?_
  refine G_iload_n (pc := 70) rfl dX1_melt_70 ?_
  exact G_iret (pc := 71) (Nat.le_of_ble_eq_true rfl) (Nat.le_of_ble_eq_true rfl) rfl dX1_melt_71 ⟨rfl, rfl⟩
set_option maxRecDepth 100000 in
set_option maxHeartbeats 4000000 in
theorem s336_X1_goBy  (d : Nat)   : G (d + 2) mX1_goBy 0 0 0 0 0 (gent 2 [.ref 19, .int 0]) [] SH0 RF0 (gup (gup (gup (gup (gup (gup (gup (gcp (gup (gup (gup (gup (gup (gup (gcp (gup (gup (gup (gup (gup (gcp (gup (gup (gup (gup (gup (gcp (gup (gup (gup (gup (gup (gcp (gup (gup (gup (gup (gup (gup (gcp (gup (gup (gup (gup (gup (gup (gup (gcp (gup (gup (gup (gup (gup (gup (gup (gcp (gup (gup (gup (gup (gup (gup (gup (gcp (gup (gup (gup (gup I0 52 0 0) 53 0 1) 54 0 0) 52 0 (-1)) 24 34 (0 : Int32).toNatClampNeg (0 : Int32).toNatClampNeg (6 : Int32).toNatClampNeg) 34 6 0) 34 7 0) 19 1 1) 52 1 0) 53 1 1) 54 1 0) 52 1 (-1)) 24 34 (0 : Int32).toNatClampNeg (8 : Int32).toNatClampNeg (6 : Int32).toNatClampNeg) 34 14 0) 34 15 1) 19 1 2) 52 2 0) 53 2 1) 54 2 0) 52 2 (-1)) 24 34 (0 : Int32).toNatClampNeg (16 : Int32).toNatClampNeg (6 : Int32).toNatClampNeg) 34 22 0) 34 23 2) 19 1 3) 52 3 0) 53 3 1) 54 3 0) 52 3 (-1)) 24 34 (0 : Int32).toNatClampNeg (24 : Int32).toNatClampNeg (6 : Int32).toNatClampNeg) 34 30 0) 34 31 3) 19 1 4) 52 4 0) 53 4 1) 54 4 0) 34 24 (24 : Int32).toNatClampNeg (0 : Int32).toNatClampNeg (6 : Int32).toNatClampNeg) 19 9 0) 19 1 3) 52 3 0) 53 3 1) 54 3 0) 34 24 (16 : Int32).toNatClampNeg (0 : Int32).toNatClampNeg (6 : Int32).toNatClampNeg) 19 9 0) 19 1 2) 52 2 0) 53 2 1) 54 2 0) 34 24 (8 : Int32).toNatClampNeg (0 : Int32).toNatClampNeg (6 : Int32).toNatClampNeg) 19 9 0) 19 1 1) 52 1 0) 53 1 1) 54 1 0) 34 24 (0 : Int32).toNatClampNeg (0 : Int32).toNatClampNeg (6 : Int32).toNatClampNeg) 19 9 0) 19 1 0) 52 0 0) 53 0 1) 54 0 0) 0 7 4) 24 34 (0 : Int32).toNatClampNeg (0 : Int32).toNatClampNeg (6 : Int32).toNatClampNeg) 34 6 0) 34 7 0) 1 0 0) 19 1 1) 1 1 0) 1 2 0) 1 3 0) (fun r h => r = some (.int 0) ∧ h = (SH0, RF0, (gup (gup (gup (gup (gup (gup (gup (gup (gcp (gup (gup (gup (gup (gup (gup (gcp (gup (gup (gup (gup (gup (gcp (gup (gup (gup (gup (gup (gcp (gup (gup (gup (gup (gup (gcp (gup (gup (gup (gup (gup (gup (gcp (gup (gup (gup (gup (gup (gup (gup (gcp (gup (gup (gup (gup (gup (gup (gup (gcp (gup (gup (gup (gup (gup (gup (gup (gcp (gup (gup (gup (gup I0 52 0 0) 53 0 1) 54 0 0) 52 0 (-1)) 24 34 (0 : Int32).toNatClampNeg (0 : Int32).toNatClampNeg (6 : Int32).toNatClampNeg) 34 6 0) 34 7 0) 19 1 1) 52 1 0) 53 1 1) 54 1 0) 52 1 (-1)) 24 34 (0 : Int32).toNatClampNeg (8 : Int32).toNatClampNeg (6 : Int32).toNatClampNeg) 34 14 0) 34 15 1) 19 1 2) 52 2 0) 53 2 1) 54 2 0) 52 2 (-1)) 24 34 (0 : Int32).toNatClampNeg (16 : Int32).toNatClampNeg (6 : Int32).toNatClampNeg) 34 22 0) 34 23 2) 19 1 3) 52 3 0) 53 3 1) 54 3 0) 52 3 (-1)) 24 34 (0 : Int32).toNatClampNeg (24 : Int32).toNatClampNeg (6 : Int32).toNatClampNeg) 34 30 0) 34 31 3) 19 1 4) 52 4 0) 53 4 1) 54 4 0) 34 24 (24 : Int32).toNatClampNeg (0 : Int32).toNatClampNeg (6 : Int32).toNatClampNeg) 19 9 0) 19 1 3) 52 3 0) 53 3 1) 54 3 0) 34 24 (16 : Int32).toNatClampNeg (0 : Int32).toNatClampNeg (6 : Int32).toNatClampNeg) 19 9 0) 19 1 2) 52 2 0) 53 2 1) 54 2 0) 34 24 (8 : Int32).toNatClampNeg (0 : Int32).toNatClampNeg (6 : Int32).toNatClampNeg) 19 9 0) 19 1 1) 52 1 0) 53 1 1) 54 1 0) 34 24 (0 : Int32).toNatClampNeg (0 : Int32).toNatClampNeg (6 : Int32).toNatClampNeg) 19 9 0) 19 1 0) 52 0 0) 53 0 1) 54 0 0) 0 7 4) 24 34 (0 : Int32).toNatClampNeg (0 : Int32).toNatClampNeg (6 : Int32).toNatClampNeg) 34 6 0) 34 7 0) 1 0 0) 19 1 1) 1 1 0) 1 2 0) 1 3 0) 19 1 2))) := by
  refine G_aload_n (pc := 0) rfl dX1_goBy_0 ?_
  refine G_iload_n (pc := 1) rfl dX1_goBy_1 ?_
  refine G_callV (pc := 2) (mc1 := 0) (ms1 := 0) (ci := 1) (mj := mX1_tell) (vs := [_]) dX1_goBy_2 rfl rfl cm_X1_tell wf_69 wf_71 wf_72 rfl (Nat.le_of_ble_eq_true rfl) (Nat.le_of_ble_eq_true rfl) (Nat.le_of_ble_eq_true rfl) (Nat.le_of_ble_eq_true rfl) (s337_X1_tell  d  ) ?_
  rintro _ _ ⟨rfl, rfl⟩
  dsimp only [Option.toList, List.cons_append, List.nil_append]
  refine G_aload_n (pc := 5) rfl dX1_goBy_5 ?_
  refine G_callV (pc := 6) (mc1 := 0) (ms1 := 0) (ci := 1) (mj := mX1_melt) (vs := []) dX1_goBy_6 rfl rfl cm_X1_melt wf_73 wf_75 wf_76 rfl (Nat.le_of_ble_eq_true rfl) (Nat.le_of_ble_eq_true rfl) (Nat.le_of_ble_eq_true rfl) (Nat.le_of_ble_eq_true rfl) (s339_X1_melt  (d + 1)  ) ?_
  rintro _ _ ⟨rfl, rfl⟩
  dsimp only [Option.toList, List.cons_append, List.nil_append]
  refine G_iadd (pc := 9) (z := 0) (by decide) dX1_goBy_9 ?_
  exact G_iret (pc := 10) (Nat.le_of_ble_eq_true rfl) (Nat.le_of_ble_eq_true rfl) rfl dX1_goBy_10 ⟨rfl, rfl⟩
set_option maxRecDepth 100000 in
set_option maxHeartbeats 4000000 in
theorem s342_X1_isKey  (d : Nat)   : G (d) mX1_isKey 0 0 0 0 0 (gent 2 [.ref 19, .int (-1)]) [] SH0 RF0 (gup (gup (gup (gup (gup (gup (gup (gup (gup (gup (gup (gcp (gup (gup (gup (gup (gup (gup (gcp (gup (gup (gup (gup (gup (gcp (gup (gup (gup (gup (gup (gcp (gup (gup (gup (gup (gup (gcp (gup (gup (gup (gup (gup (gup (gcp (gup (gup (gup (gup (gup (gup (gup (gcp (gup (gup (gup (gup (gup (gup (gup (gcp (gup (gup (gup (gup (gup (gup (gup (gcp (gup (gup (gup (gup I0 52 0 0) 53 0 1) 54 0 0) 52 0 (-1)) 24 34 (0 : Int32).toNatClampNeg (0 : Int32).toNatClampNeg (6 : Int32).toNatClampNeg) 34 6 0) 34 7 0) 19 1 1) 52 1 0) 53 1 1) 54 1 0) 52 1 (-1)) 24 34 (0 : Int32).toNatClampNeg (8 : Int32).toNatClampNeg (6 : Int32).toNatClampNeg) 34 14 0) 34 15 1) 19 1 2) 52 2 0) 53 2 1) 54 2 0) 52 2 (-1)) 24 34 (0 : Int32).toNatClampNeg (16 : Int32).toNatClampNeg (6 : Int32).toNatClampNeg) 34 22 0) 34 23 2) 19 1 3) 52 3 0) 53 3 1) 54 3 0) 52 3 (-1)) 24 34 (0 : Int32).toNatClampNeg (24 : Int32).toNatClampNeg (6 : Int32).toNatClampNeg) 34 30 0) 34 31 3) 19 1 4) 52 4 0) 53 4 1) 54 4 0) 34 24 (24 : Int32).toNatClampNeg (0 : Int32).toNatClampNeg (6 : Int32).toNatClampNeg) 19 9 0) 19 1 3) 52 3 0) 53 3 1) 54 3 0) 34 24 (16 : Int32).toNatClampNeg (0 : Int32).toNatClampNeg (6 : Int32).toNatClampNeg) 19 9 0) 19 1 2) 52 2 0) 53 2 1) 54 2 0) 34 24 (8 : Int32).toNatClampNeg (0 : Int32).toNatClampNeg (6 : Int32).toNatClampNeg) 19 9 0) 19 1 1) 52 1 0) 53 1 1) 54 1 0) 34 24 (0 : Int32).toNatClampNeg (0 : Int32).toNatClampNeg (6 : Int32).toNatClampNeg) 19 9 0) 19 1 0) 52 0 0) 53 0 1) 54 0 0) 0 7 4) 24 34 (0 : Int32).toNatClampNeg (0 : Int32).toNatClampNeg (6 : Int32).toNatClampNeg) 34 6 0) 34 7 0) 1 0 0) 19 1 1) 1 1 0) 1 2 0) 1 3 0) 19 1 2) 1 4 0) 1 5 0) 1 6 0) (fun r h => r = some (.int 0) ∧ h = (SH0, RF0, (gup (gup (gup (gup (gup (gup (gup (gup (gup (gup (gup (gcp (gup (gup (gup (gup (gup (gup (gcp (gup (gup (gup (gup (gup (gcp (gup (gup (gup (gup (gup (gcp (gup (gup (gup (gup (gup (gcp (gup (gup (gup (gup (gup (gup (gcp (gup (gup (gup (gup (gup (gup (gup (gcp (gup (gup (gup (gup (gup (gup (gup (gcp (gup (gup (gup (gup (gup (gup (gup (gcp (gup (gup (gup (gup I0 52 0 0) 53 0 1) 54 0 0) 52 0 (-1)) 24 34 (0 : Int32).toNatClampNeg (0 : Int32).toNatClampNeg (6 : Int32).toNatClampNeg) 34 6 0) 34 7 0) 19 1 1) 52 1 0) 53 1 1) 54 1 0) 52 1 (-1)) 24 34 (0 : Int32).toNatClampNeg (8 : Int32).toNatClampNeg (6 : Int32).toNatClampNeg) 34 14 0) 34 15 1) 19 1 2) 52 2 0) 53 2 1) 54 2 0) 52 2 (-1)) 24 34 (0 : Int32).toNatClampNeg (16 : Int32).toNatClampNeg (6 : Int32).toNatClampNeg) 34 22 0) 34 23 2) 19 1 3) 52 3 0) 53 3 1) 54 3 0) 52 3 (-1)) 24 34 (0 : Int32).toNatClampNeg (24 : Int32).toNatClampNeg (6 : Int32).toNatClampNeg) 34 30 0) 34 31 3) 19 1 4) 52 4 0) 53 4 1) 54 4 0) 34 24 (24 : Int32).toNatClampNeg (0 : Int32).toNatClampNeg (6 : Int32).toNatClampNeg) 19 9 0) 19 1 3) 52 3 0) 53 3 1) 54 3 0) 34 24 (16 : Int32).toNatClampNeg (0 : Int32).toNatClampNeg (6 : Int32).toNatClampNeg) 19 9 0) 19 1 2) 52 2 0) 53 2 1) 54 2 0) 34 24 (8 : Int32).toNatClampNeg (0 : Int32).toNatClampNeg (6 : Int32).toNatClampNeg) 19 9 0) 19 1 1) 52 1 0) 53 1 1) 54 1 0) 34 24 (0 : Int32).toNatClampNeg (0 : Int32).toNatClampNeg (6 : Int32).toNatClampNeg) 19 9 0) 19 1 0) 52 0 0) 53 0 1) 54 0 0) 0 7 4) 24 34 (0 : Int32).toNatClampNeg (0 : Int32).toNatClampNeg (6 : Int32).toNatClampNeg) 34 6 0) 34 7 0) 1 0 0) 19 1 1) 1 1 0) 1 2 0) 1 3 0) 19 1 2) 1 4 0) 1 5 0) 1 6 0))) := by
  refine G_iload_n (pc := 0) rfl dX1_isKey_0 ?_
  refine G_if_lt (pc := 1) (tgt := 16) (by decide) dX1_isKey_1 (fun _ => ?_) (fun z => absurd (by decide) z)
  refine G_iconst (pc := 16) (v := 0) (by decide) dX1_isKey_16 ?_
  exact G_zret (pc := 17) (Nat.le_of_ble_eq_true rfl) (Nat.le_of_ble_eq_true rfl) rfl (by decide) dX1_isKey_17 ⟨rfl, rfl⟩
set_option maxRecDepth 100000 in
set_option maxHeartbeats 4000000 in
theorem s341_X1_tell  (d : Nat)   : G (d + 1) mX1_tell 0 0 0 0 0 (gent 5 [.ref 19, .int 0]) [] SH0 RF0 (gup (gup (gup (gup (gup (gup (gup (gup (gup (gup (gup (gcp (gup (gup (gup (gup (gup (gup (gcp (gup (gup (gup (gup (gup (gcp (gup (gup (gup (gup (gup (gcp (gup (gup (gup (gup (gup (gcp (gup (gup (gup (gup (gup (gup (gcp (gup (gup (gup (gup (gup (gup (gup (gcp (gup (gup (gup (gup (gup (gup (gup (gcp (gup (gup (gup (gup (gup (gup (gup (gcp (gup (gup (gup (gup I0 52 0 0) 53 0 1) 54 0 0) 52 0 (-1)) 24 34 (0 : Int32).toNatClampNeg (0 : Int32).toNatClampNeg (6 : Int32).toNatClampNeg) 34 6 0) 34 7 0) 19 1 1) 52 1 0) 53 1 1) 54 1 0) 52 1 (-1)) 24 34 (0 : Int32).toNatClampNeg (8 : Int32).toNatClampNeg (6 : Int32).toNatClampNeg) 34 14 0) 34 15 1) 19 1 2) 52 2 0) 53 2 1) 54 2 0) 52 2 (-1)) 24 34 (0 : Int32).toNatClampNeg (16 : Int32).toNatClampNeg (6 : Int32).toNatClampNeg) 34 22 0) 34 23 2) 19 1 3) 52 3 0) 53 3 1) 54 3 0) 52 3 (-1)) 24 34 (0 : Int32).toNatClampNeg (24 : Int32).toNatClampNeg (6 : Int32).toNatClampNeg) 34 30 0) 34 31 3) 19 1 4) 52 4 0) 53 4 1) 54 4 0) 34 24 (24 : Int32).toNatClampNeg (0 : Int32).toNatClampNeg (6 : Int32).toNatClampNeg) 19 9 0) 19 1 3) 52 3 0) 53 3 1) 54 3 0) 34 24 (16 : Int32).toNatClampNeg (0 : Int32).toNatClampNeg (6 : Int32).toNatClampNeg) 19 9 0) 19 1 2) 52 2 0) 53 2 1) 54 2 0) 34 24 (8 : Int32).toNatClampNeg (0 : Int32).toNatClampNeg (6 : Int32).toNatClampNeg) 19 9 0) 19 1 1) 52 1 0) 53 1 1) 54 1 0) 34 24 (0 : Int32).toNatClampNeg (0 : Int32).toNatClampNeg (6 : Int32).toNatClampNeg) 19 9 0) 19 1 0) 52 0 0) 53 0 1) 54 0 0) 0 7 4) 24 34 (0 : Int32).toNatClampNeg (0 : Int32).toNatClampNeg (6 : Int32).toNatClampNeg) 34 6 0) 34 7 0) 1 0 0) 19 1 1) 1 1 0) 1 2 0) 1 3 0) 19 1 2) 1 4 0) 1 5 0) 1 6 0) (fun r h => r = some (.int 0) ∧ h = (SH0, RF0, (gup (gup (gup (gup (gup (gup (gup (gup (gup (gup (gup (gcp (gup (gup (gup (gup (gup (gup (gcp (gup (gup (gup (gup (gup (gcp (gup (gup (gup (gup (gup (gcp (gup (gup (gup (gup (gup (gcp (gup (gup (gup (gup (gup (gup (gcp (gup (gup (gup (gup (gup (gup (gup (gcp (gup (gup (gup (gup (gup (gup (gup (gcp (gup (gup (gup (gup (gup (gup (gup (gcp (gup (gup (gup (gup I0 52 0 0) 53 0 1) 54 0 0) 52 0 (-1)) 24 34 (0 : Int32).toNatClampNeg (0 : Int32).toNatClampNeg (6 : Int32).toNatClampNeg) 34 6 0) 34 7 0) 19 1 1) 52 1 0) 53 1 1) 54 1 0) 52 1 (-1)) 24 34 (0 : Int32).toNatClampNeg (8 : Int32).toNatClampNeg (6 : Int32).toNatClampNeg) 34 14 0) 34 15 1) 19 1 2) 52 2 0) 53 2 1) 54 2 0) 52 2 (-1)) 24 34 (0 : Int32).toNatClampNeg (16 : Int32).toNatClampNeg (6 : Int32).toNatClampNeg) 34 22 0) 34 23 2) 19 1 3) 52 3 0) 53 3 1) 54 3 0) 52 3 (-1)) 24 34 (0 : Int32).toNatClampNeg (24 : Int32).toNatClampNeg (6 : Int32).toNatClampNeg) 34 30 0) 34 31 3) 19 1 4) 52 4 0) 53 4 1) 54 4 0) 34 24 (24 : Int32).toNatClampNeg (0 : Int32).toNatClampNeg (6 : Int32).toNatClampNeg) 19 9 0) 19 1 3) 52 3 0) 53 3 1) 54 3 0) 34 24 (16 : Int32).toNatClampNeg (0 : Int32).toNatClampNeg (6 : Int32).toNatClampNeg) 19 9 0) 19 1 2) 52 2 0) 53 2 1) 54 2 0) 34 24 (8 : Int32).toNatClampNeg (0 : Int32).toNatClampNeg (6 : Int32).toNatClampNeg) 19 9 0) 19 1 1) 52 1 0) 53 1 1) 54 1 0) 34 24 (0 : Int32).toNatClampNeg (0 : Int32).toNatClampNeg (6 : Int32).toNatClampNeg) 19 9 0) 19 1 0) 52 0 0) 53 0 1) 54 0 0) 0 7 4) 24 34 (0 : Int32).toNatClampNeg (0 : Int32).toNatClampNeg (6 : Int32).toNatClampNeg) 34 6 0) 34 7 0) 1 0 0) 19 1 1) 1 1 0) 1 2 0) 1 3 0) 19 1 2) 1 4 0) 1 5 0) 1 6 0))) := by
  refine G_iload_n (pc := 0) rfl dX1_tell_0 ?_
  refine G_iconst (pc := 1) (v := 1) (by decide) dX1_tell_1 ?_
  refine G_isub (pc := 2) (z := (-1)) (by decide) dX1_tell_2 ?_
  refine G_istore_n (pc := 3) (L1 := [some (.ref 19), some (.int 0), some (.int (-1)), none, none]) rfl rfl (by decide) dX1_tell_3 ?_
  refine G_aload_n (pc := 4) rfl dX1_tell_4 ?_
  refine G_iload_n (pc := 5) rfl dX1_tell_5 ?_
  refine G_callV (pc := 6) (mc1 := 0) (ms1 := 0) (ci := 1) (mj := mX1_isKey) (vs := [_]) dX1_tell_6 rfl rfl cm_X1_isKey wf_68 wf_13 wf_14 rfl (Nat.le_of_ble_eq_true rfl) (Nat.le_of_ble_eq_true rfl) (Nat.le_of_ble_eq_true rfl) (Nat.le_of_ble_eq_true rfl) (s342_X1_isKey  d  ) ?_
  rintro _ _ ⟨rfl, rfl⟩
  dsimp only [Option.toList, List.cons_append, List.nil_append]
  refine G_if_eq (pc := 9) (tgt := 20) (by decide) dX1_tell_9 (fun _ => ?_) (fun z => absurd (by decide) z)
  refine G_iconst (pc := 20) (v := 0) (by decide) dX1_tell_20 ?_
  exact G_iret (pc := 21) (Nat.le_of_ble_eq_true rfl) (Nat.le_of_ble_eq_true rfl) rfl dX1_tell_21 ⟨rfl, rfl⟩
set_option maxRecDepth 100000 in
set_option maxHeartbeats 4000000 in
theorem s343_X1_melt  (d : Nat)   : G (d) mX1_melt 0 0 0 0 0 (gent 3 [.ref 19]) [] SH0 RF0 (gup (gup (gup (gup (gup (gup (gup (gup (gup (gup (gup (gcp (gup (gup (gup (gup (gup (gup (gcp (gup (gup (gup (gup (gup (gcp (gup (gup (gup (gup (gup (gcp (gup (gup (gup (gup (gup (gcp (gup (gup (gup (gup (gup (gup (gcp (gup (gup (gup (gup (gup (gup (gup (gcp (gup (gup (gup (gup (gup (gup (gup (gcp (gup (gup (gup (gup (gup (gup (gup (gcp (gup (gup (gup (gup I0 52 0 0) 53 0 1) 54 0 0) 52 0 (-1)) 24 34 (0 : Int32).toNatClampNeg (0 : Int32).toNatClampNeg (6 : Int32).toNatClampNeg) 34 6 0) 34 7 0) 19 1 1) 52 1 0) 53 1 1) 54 1 0) 52 1 (-1)) 24 34 (0 : Int32).toNatClampNeg (8 : Int32).toNatClampNeg (6 : Int32).toNatClampNeg) 34 14 0) 34 15 1) 19 1 2) 52 2 0) 53 2 1) 54 2 0) 52 2 (-1)) 24 34 (0 : Int32).toNatClampNeg (16 : Int32).toNatClampNeg (6 : Int32).toNatClampNeg) 34 22 0) 34 23 2) 19 1 3) 52 3 0) 53 3 1) 54 3 0) 52 3 (-1)) 24 34 (0 : Int32).toNatClampNeg (24 : Int32).toNatClampNeg (6 : Int32).toNatClampNeg) 34 30 0) 34 31 3) 19 1 4) 52 4 0) 53 4 1) 54 4 0) 34 24 (24 : Int32).toNatClampNeg (0 : Int32).toNatClampNeg (6 : Int32).toNatClampNeg) 19 9 0) 19 1 3) 52 3 0) 53 3 1) 54 3 0) 34 24 (16 : Int32).toNatClampNeg (0 : Int32).toNatClampNeg (6 : Int32).toNatClampNeg) 19 9 0) 19 1 2) 52 2 0) 53 2 1) 54 2 0) 34 24 (8 : Int32).toNatClampNeg (0 : Int32).toNatClampNeg (6 : Int32).toNatClampNeg) 19 9 0) 19 1 1) 52 1 0) 53 1 1) 54 1 0) 34 24 (0 : Int32).toNatClampNeg (0 : Int32).toNatClampNeg (6 : Int32).toNatClampNeg) 19 9 0) 19 1 0) 52 0 0) 53 0 1) 54 0 0) 0 7 4) 24 34 (0 : Int32).toNatClampNeg (0 : Int32).toNatClampNeg (6 : Int32).toNatClampNeg) 34 6 0) 34 7 0) 1 0 0) 19 1 1) 1 1 0) 1 2 0) 1 3 0) 19 1 2) 1 4 0) 1 5 0) 1 6 0) (fun r h => r = some (.int 0) ∧ h = (SH0, RF0, (gup (gup (gup (gup (gup (gup (gup (gup (gup (gup (gup (gup (gcp (gup (gup (gup (gup (gup (gup (gcp (gup (gup (gup (gup (gup (gcp (gup (gup (gup (gup (gup (gcp (gup (gup (gup (gup (gup (gcp (gup (gup (gup (gup (gup (gup (gcp (gup (gup (gup (gup (gup (gup (gup (gcp (gup (gup (gup (gup (gup (gup (gup (gcp (gup (gup (gup (gup (gup (gup (gup (gcp (gup (gup (gup (gup I0 52 0 0) 53 0 1) 54 0 0) 52 0 (-1)) 24 34 (0 : Int32).toNatClampNeg (0 : Int32).toNatClampNeg (6 : Int32).toNatClampNeg) 34 6 0) 34 7 0) 19 1 1) 52 1 0) 53 1 1) 54 1 0) 52 1 (-1)) 24 34 (0 : Int32).toNatClampNeg (8 : Int32).toNatClampNeg (6 : Int32).toNatClampNeg) 34 14 0) 34 15 1) 19 1 2) 52 2 0) 53 2 1) 54 2 0) 52 2 (-1)) 24 34 (0 : Int32).toNatClampNeg (16 : Int32).toNatClampNeg (6 : Int32).toNatClampNeg) 34 22 0) 34 23 2) 19 1 3) 52 3 0) 53 3 1) 54 3 0) 52 3 (-1)) 24 34 (0 : Int32).toNatClampNeg (24 : Int32).toNatClampNeg (6 : Int32).toNatClampNeg) 34 30 0) 34 31 3) 19 1 4) 52 4 0) 53 4 1) 54 4 0) 34 24 (24 : Int32).toNatClampNeg (0 : Int32).toNatClampNeg (6 : Int32).toNatClampNeg) 19 9 0) 19 1 3) 52 3 0) 53 3 1) 54 3 0) 34 24 (16 : Int32).toNatClampNeg (0 : Int32).toNatClampNeg (6 : Int32).toNatClampNeg) 19 9 0) 19 1 2) 52 2 0) 53 2 1) 54 2 0) 34 24 (8 : Int32).toNatClampNeg (0 : Int32).toNatClampNeg (6 : Int32).toNatClampNeg) 19 9 0) 19 1 1) 52 1 0) 53 1 1) 54 1 0) 34 24 (0 : Int32).toNatClampNeg (0 : Int32).toNatClampNeg (6 : Int32).toNatClampNeg) 19 9 0) 19 1 0) 52 0 0) 53 0 1) 54 0 0) 0 7 4) 24 34 (0 : Int32).toNatClampNeg (0 : Int32).toNatClampNeg (6 : Int32).toNatClampNeg) 34 6 0) 34 7 0) 1 0 0) 19 1 1) 1 1 0) 1 2 0) 1 3 0) 19 1 2) 1 4 0) 1 5 0) 1 6 0) 19 1 3))) := by
  refine G_iconst (pc := 0) (v := 0) (by decide) dX1_melt_0 ?_
  refine G_istore_n (pc := 1) (L1 := [some (.ref 19), some (.int 0), none]) rfl rfl (by decide) dX1_melt_1 ?_
  refine G_iconst (pc := 2) (v := 0) (by decide) dX1_melt_2 ?_
  refine G_istore_n (pc := 3) (L1 := [some (.ref 19), some (.int 0), some (.int 0)]) rfl rfl (by decide) dX1_melt_3 ?_
  refine G_iload_n (pc := 4) rfl dX1_melt_4 ?_
  refine G_aload_n (pc := 5) rfl dX1_melt_5 ?_
  refine G_getI (pc := 6) (v := 0) (ci := 1) (j := 8) rfl rfl lk_RX1_72 rfl rfl dX1_melt_6 ?_
  refine G_icmp_ge (pc := 9) (tgt := 60) (by decide) dX1_melt_9 (fun _ => ?_) (fun z => absurd (by decide) z)
  refine G_aload_n (pc := 60) rfl dX1_melt_60 ?_
  refine G_dup (pc := 61) rfl dX1_melt_61 ?_
  refine G_getI (pc := 62) (v := 2) (ci := 1) (j := 1) rfl rfl lk_RX1_60 rfl rfl dX1_melt_62 ?_
  refine G_iconst (pc := 65) (v := 1) (by decide) dX1_melt_65 ?_
  refine G_iadd (pc := 66) (z := 3) (by decide) dX1_melt_66 ?_
  refine G_putI (pc := 67) (ci := 1) (j := 1) rfl lk_RX1_60 rfl rfl rfl trivial dX1_melt_67 ?_
  refine G_iload_n (pc := 70) rfl dX1_melt_70 ?_
  exact G_iret (pc := 71) (Nat.le_of_ble_eq_true rfl) (Nat.le_of_ble_eq_true rfl) rfl dX1_melt_71 ⟨rfl, rfl⟩
set_option maxRecDepth 100000 in
set_option maxHeartbeats 4000000 in
theorem s340_X1_goBy  (d : Nat)   : G (d + 2) mX1_goBy 0 0 0 0 0 (gent 2 [.ref 19, .int 0]) [] SH0 RF0 (gup (gup (gup (gup (gup (gup (gup (gup (gup (gup (gup (gcp (gup (gup (gup (gup (gup (gup (gcp (gup (gup (gup (gup (gup (gcp (gup (gup (gup (gup (gup (gcp (gup (gup (gup (gup (gup (gcp (gup (gup (gup (gup (gup (gup (gcp (gup (gup (gup (gup (gup (gup (gup (gcp (gup (gup (gup (gup (gup (gup (gup (gcp (gup (gup (gup (gup (gup (gup (gup (gcp (gup (gup (gup (gup I0 52 0 0) 53 0 1) 54 0 0) 52 0 (-1)) 24 34 (0 : Int32).toNatClampNeg (0 : Int32).toNatClampNeg (6 : Int32).toNatClampNeg) 34 6 0) 34 7 0) 19 1 1) 52 1 0) 53 1 1) 54 1 0) 52 1 (-1)) 24 34 (0 : Int32).toNatClampNeg (8 : Int32).toNatClampNeg (6 : Int32).toNatClampNeg) 34 14 0) 34 15 1) 19 1 2) 52 2 0) 53 2 1) 54 2 0) 52 2 (-1)) 24 34 (0 : Int32).toNatClampNeg (16 : Int32).toNatClampNeg (6 : Int32).toNatClampNeg) 34 22 0) 34 23 2) 19 1 3) 52 3 0) 53 3 1) 54 3 0) 52 3 (-1)) 24 34 (0 : Int32).toNatClampNeg (24 : Int32).toNatClampNeg (6 : Int32).toNatClampNeg) 34 30 0) 34 31 3) 19 1 4) 52 4 0) 53 4 1) 54 4 0) 34 24 (24 : Int32).toNatClampNeg (0 : Int32).toNatClampNeg (6 : Int32).toNatClampNeg) 19 9 0) 19 1 3) 52 3 0) 53 3 1) 54 3 0) 34 24 (16 : Int32).toNatClampNeg (0 : Int32).toNatClampNeg (6 : Int32).toNatClampNeg) 19 9 0) 19 1 2) 52 2 0) 53 2 1) 54 2 0) 34 24 (8 : Int32).toNatClampNeg (0 : Int32).toNatClampNeg (6 : Int32).toNatClampNeg) 19 9 0) 19 1 1) 52 1 0) 53 1 1) 54 1 0) 34 24 (0 : Int32).toNatClampNeg (0 : Int32).toNatClampNeg (6 : Int32).toNatClampNeg) 19 9 0) 19 1 0) 52 0 0) 53 0 1) 54 0 0) 0 7 4) 24 34 (0 : Int32).toNatClampNeg (0 : Int32).toNatClampNeg (6 : Int32).toNatClampNeg) 34 6 0) 34 7 0) 1 0 0) 19 1 1) 1 1 0) 1 2 0) 1 3 0) 19 1 2) 1 4 0) 1 5 0) 1 6 0) (fun r h => r = some (.int 0) ∧ h = (SH0, RF0, (gup (gup (gup (gup (gup (gup (gup (gup (gup (gup (gup (gup (gcp (gup (gup (gup (gup (gup (gup (gcp (gup (gup (gup (gup (gup (gcp (gup (gup (gup (gup (gup (gcp (gup (gup (gup (gup (gup (gcp (gup (gup (gup (gup (gup (gup (gcp (gup (gup (gup (gup (gup (gup (gup (gcp (gup (gup (gup (gup (gup (gup (gup (gcp (gup (gup (gup (gup (gup (gup (gup (gcp (gup (gup (gup (gup I0 52 0 0) 53 0 1) 54 0 0) 52 0 (-1)) 24 34 (0 : Int32).toNatClampNeg (0 : Int32).toNatClampNeg (6 : Int32).toNatClampNeg) 34 6 0) 34 7 0) 19 1 1) 52 1 0) 53 1 1) 54 1 0) 52 1 (-1)) 24 34 (0 : Int32).toNatClampNeg (8 : Int32).toNatClampNeg (6 : Int32).toNatClampNeg) 34 14 0) 34 15 1) 19 1 2) 52 2 0) 53 2 1) 54 2 0) 52 2 (-1)) 24 34 (0 : Int32).toNatClampNeg (16 : Int32).toNatClampNeg (6 : Int32).toNatClampNeg) 34 22 0) 34 23 2) 19 1 3) 52 3 0) 53 3 1) 54 3 0) 52 3 (-1)) 24 34 (0 : Int32).toNatClampNeg (24 : Int32).toNatClampNeg (6 : Int32).toNatClampNeg) 34 30 0) 34 31 3) 19 1 4) 52 4 0) 53 4 1) 54 4 0) 34 24 (24 : Int32).toNatClampNeg (0 : Int32).toNatClampNeg (6 : Int32).toNatClampNeg) 19 9 0) 19 1 3) 52 3 0) 53 3 1) 54 3 0) 34 24 (16 : Int32).toNatClampNeg (0 : Int32).toNatClampNeg (6 : Int32).toNatClampNeg) 19 9 0) 19 1 2) 52 2 0) 53 2 1) 54 2 0) 34 24 (8 : Int32).toNatClampNeg (0 : Int32).toNatClampNeg (6 : Int32).toNatClampNeg) 19 9 0) 19 1 1) 52 1 0) 53 1 1) 54 1 0) 34 24 (0 : Int32).toNatClampNeg (0 : Int32).toNatClampNeg (6 : Int32).toNatClampNeg) 19 9 0) 19 1 0) 52 0 0) 53 0 1) 54 0 0) 0 7 4) 24 34 (0 : Int32).toNatClampNeg (0 : Int32).toNatClampNeg (6 : Int32).toNatClampNeg) 34 6 0) 34 7 0) 1 0 0) 19 1 1) 1 1 0) 1 2 0) 1 3 0) 19 1 2) 1 4 0) 1 5 0) 1 6 0) 19 1 3))) := by
  refine G_aload_n (pc := 0) rfl dX1_goBy_0 ?_
  refine G_iload_n (pc := 1) rfl dX1_goBy_1 ?_
  refine G_callV (pc := 2) (mc1 := 0) (ms1 := 0) (ci := 1) (mj := mX1_tell) (vs := [_]) dX1_goBy_2 rfl rfl cm_X1_tell wf_69 wf_71 wf_72 rfl (Nat.le_of_ble_eq_true rfl) (Nat.le_of_ble_eq_true rfl) (Nat.le_of_ble_eq_true rfl) (Nat.le_of_ble_eq_true rfl) (s341_X1_tell  d  ) ?_
  rintro _ _ ⟨rfl, rfl⟩
  dsimp only [Option.toList, List.cons_append, List.nil_append]
  refine G_aload_n (pc := 5) rfl dX1_goBy_5 ?_
  refine G_callV (pc := 6) (mc1 := 0) (ms1 := 0) (ci := 1) (mj := mX1_melt) (vs := []) dX1_goBy_6 rfl rfl cm_X1_melt wf_73 wf_75 wf_76 rfl (Nat.le_of_ble_eq_true rfl) (Nat.le_of_ble_eq_true rfl) (Nat.le_of_ble_eq_true rfl) (Nat.le_of_ble_eq_true rfl) (s343_X1_melt  (d + 1)  ) ?_
  rintro _ _ ⟨rfl, rfl⟩
  dsimp only [Option.toList, List.cons_append, List.nil_append]
  refine G_iadd (pc := 9) (z := 0) (by decide) dX1_goBy_9 ?_
  exact G_iret (pc := 10) (Nat.le_of_ble_eq_true rfl) (Nat.le_of_ble_eq_true rfl) rfl dX1_goBy_10 ⟨rfl, rfl⟩
set_option maxRecDepth 100000 in
set_option maxHeartbeats 4000000 in
theorem s346_X1_isKey  (d : Nat)   : G (d) mX1_isKey 0 0 0 0 0 (gent 2 [.ref 19, .int (-1)]) [] SH0 RF0 (gup (gup (gup (gup (gup (gup (gup (gup (gup (gup (gup (gup (gup (gup (gup (gcp (gup (gup (gup (gup (gup (gup (gcp (gup (gup (gup (gup (gup (gcp (gup (gup (gup (gup (gup (gcp (gup (gup (gup (gup (gup (gcp (gup (gup (gup (gup (gup (gup (gcp (gup (gup (gup (gup (gup (gup (gup (gcp (gup (gup (gup (gup (gup (gup (gup (gcp (gup (gup (gup (gup (gup (gup (gup (gcp (gup (gup (gup (gup I0 52 0 0) 53 0 1) 54 0 0) 52 0 (-1)) 24 34 (0 : Int32).toNatClampNeg (0 : Int32).toNatClampNeg (6 : Int32).toNatClampNeg) 34 6 0) 34 7 0) 19 1 1) 52 1 0) 53 1 1) 54 1 0) 52 1 (-1)) 24 34 (0 : Int32).toNatClampNeg (8 : Int32).toNatClampNeg (6 : Int32).toNatClampNeg) 34 14 0) 34 15 1) 19 1 2) 52 2 0) 53 2 1) 54 2 0) 52 2 (-1)) 24 34 (0 : Int32).toNatClampNeg (16 : Int32).toNatClampNeg (6 : Int32).toNatClampNeg) 34 22 0) 34 23 2) 19 1 3) 52 3 0) 53 3 1) 54 3 0) 52 3 (-1)) 24 34 (0 : Int32).toNatClampNeg (24 : Int32).toNatClampNeg (6 : Int32).toNatClampNeg) 34 30 0) 34 31 3) 19 1 4) 52 4 0) 53 4 1) 54 4 0) 34 24 (24 : Int32).toNatClampNeg (0 : Int32).toNatClampNeg (6 : Int32).toNatClampNeg) 19 9 0) 19 1 3) 52 3 0) 53 3 1) 54 3 0) 34 24 (16 : Int32).toNatClampNeg (0 : Int32).toNatClampNeg (6 : Int32).toNatClampNeg) 19 9 0) 19 1 2) 52 2 0) 53 2 1) 54 2 0) 34 24 (8 : Int32).toNatClampNeg (0 : Int32).toNatClampNeg (6 : Int32).toNatClampNeg) 19 9 0) 19 1 1) 52 1 0) 53 1 1) 54 1 0) 34 24 (0 : Int32).toNatClampNeg (0 : Int32).toNatClampNeg (6 : Int32).toNatClampNeg) 19 9 0) 19 1 0) 52 0 0) 53 0 1) 54 0 0) 0 7 4) 24 34 (0 : Int32).toNatClampNeg (0 : Int32).toNatClampNeg (6 : Int32).toNatClampNeg) 34 6 0) 34 7 0) 1 0 0) 19 1 1) 1 1 0) 1 2 0) 1 3 0) 19 1 2) 1 4 0) 1 5 0) 1 6 0) 19 1 3) 1 7 0) 1 8 0) 1 9 0) (fun r h => r = some (.int 0) ∧ h = (SH0, RF0, (gup (gup (gup (gup (gup (gup (gup (gup (gup (gup (gup (gup (gup (gup (gup (gcp (gup (gup (gup (gup (gup (gup (gcp (gup (gup (gup (gup (gup (gcp (gup (gup (gup (gup (gup (gcp (gup (gup (gup (gup (gup (gcp (gup (gup (gup (gup (gup (gup (gcp (gup (gup (gup (gup (gup (gup (gup (gcp (gup (gup (gup (gup (gup (gup (gup (gcp (gup (gup (gup (gup (gup (gup (gup (gcp (gup (gup (gup (gup I0 52 0 0) 53 0 1) 54 0 0) 52 0 (-1)) 24 34 (0 : Int32).toNatClampNeg (0 : Int32).toNatClampNeg (6 : Int32).toNatClampNeg) 34 6 0) 34 7 0) 19 1 1) 52 1 0) 53 1 1) 54 1 0) 52 1 (-1)) 24 34 (0 : Int32).toNatClampNeg (8 : Int32).toNatClampNeg (6 : Int32).toNatClampNeg) 34 14 0) 34 15 1) 19 1 2) 52 2 0) 53 2 1) 54 2 0) 52 2 (-1)) 24 34 (0 : Int32).toNatClampNeg (16 : Int32).toNatClampNeg (6 : Int32).toNatClampNeg) 34 22 0) 34 23 2) 19 1 3) 52 3 0) 53 3 1) 54 3 0) 52 3 (-1)) 24 34 (0 : Int32).toNatClampNeg (24 : Int32).toNatClampNeg (6 : Int32).toNatClampNeg) 34 30 0) 34 31 3) 19 1 4) 52 4 0) 53 4 1) 54 4 0) 34 24 (24 : Int32).toNatClampNeg (0 : Int32).toNatClampNeg (6 : Int32).toNatClampNeg) 19 9 0) 19 1 3) 52 3 0) 53 3 1) 54 3 0) 34 24 (16 : Int32).toNatClampNeg (0 : Int32).toNatClampNeg (6 : Int32).toNatClampNeg) 19 9 0) 19 1 2) 52 2 0) 53 2 1) 54 2 0) 34 24 (8 : Int32).toNatClampNeg (0 : Int32).toNatClampNeg (6 : Int32).toNatClampNeg) 19 9 0) 19 1 1) 52 1 0) 53 1 1) 54 1 0) 34 24 (0 : Int32).toNatClampNeg (0 : Int32).toNatClampNeg (6 : Int32).toNatClampNeg) 19 9 0) 19 1 0) 52 0 0) 53 0 1) 54 0 0) 0 7 4) 24 34 (0 : Int32).toNatClampNeg (0 : Int32).toNatClampNeg (6 : Int32).toNatClampNeg) 34 6 0) 34 7 0) 1 0 0) 19 1 1) 1 1 0) 1 2 0) 1 3 0) 19 1 2) 1 4 0) 1 5 0) 1 6 0) 19 1 3) 1 7 0) 1 8 0) 1 9 0))) := by
  refine G_iload_n (pc := 0) rfl dX1_isKey_0 ?_
  refine G_if_lt (pc := 1) (tgt := 16) (by decide) dX1_isKey_1 (fun _ => ?_) (fun z => absurd (by decide) z)
  refine G_iconst (pc := 16) (v := 0) (by decide) dX1_isKey_16 ?_
  exact G_zret (pc := 17) (Nat.le_of_ble_eq_true rfl) (Nat.le_of_ble_eq_true rfl) rfl (by decide) dX1_isKey_17 ⟨rfl, rfl⟩
set_option maxRecDepth 100000 in
set_option maxHeartbeats 4000000 in
theorem s345_X1_tell  (d : Nat)   : G (d + 1) mX1_tell 0 0 0 0 0 (gent 5 [.ref 19, .int 0]) [] SH0 RF0 (gup (gup (gup (gup (gup (gup (gup (gup (gup (gup (gup (gup (gup (gup (gup (gcp (gup (gup (gup (gup (gup (gup (gcp (gup (gup (gup (gup (gup (gcp (gup (gup (gup (gup (gup (gcp (gup (gup (gup (gup (gup (gcp (gup (gup (gup (gup (gup (gup (gcp (gup (gup (gup (gup (gup (gup (gup (gcp (gup (gup (gup (gup (gup (gup (gup (gcp (gup (gup (gup (gup (gup (gup (gup (gcp (gup (gup (gup (gup I0 52 0 0) 53 0 1) 54 0 0) 52 0 (-1)) 24 34 (0 : Int32).toNatClampNeg (0 : Int32).toNatClampNeg (6 : Int32).toNatClampNeg) 34 6 0) 34 7 0) 19 1 1) 52 1 0) 53 1 1) 54 1 0) 52 1 (-1)) 24 34 (0 : Int32).toNatClampNeg (8 : Int32).toNatClampNeg (6 : Int32).toNatClampNeg) 34 14 0) 34 15 1) 19 1 2) 52 2 0) 53 2 1) 54 2 0) 52 2 (-1)) 24 34 (0 : Int32).toNatClampNeg (16 : Int32).toNatClampNeg (6 : Int32).toNatClampNeg) 34 22 0) 34 23 2) 19 1 3) 52 3 0) 53 3 1) 54 3 0) 52 3 (-1)) 24 34 (0 : Int32).toNatClampNeg (24 : Int32).toNatClampNeg (6 : Int32).toNatClampNeg) 34 30 0) 34 31 3) 19 1 4) 52 4 0) 53 4 1) 54 4 0) 34 24 (24 : Int32).toNatClampNeg (0 : Int32).toNatClampNeg (6 : Int32).toNatClampNeg) 19 9 0) 19 1 3) 52 3 0) 53 3 1) 54 3 0) 34 24 (16 : Int32).toNatClampNeg (0 : Int32).toNatClampNeg (6 : Int32).toNatClampNeg) 19 9 0) 19 1 2) 52 2 0) 53 2 1) 54 2 0) 34 24 (8 : Int32).toNatClampNeg (0 : Int32).toNatClampNeg (6 : Int32).toNatClampNeg) 19 9 0) 19 1 1) 52 1 0) 53 1 1) 54 1 0) 34 24 (0 : Int32).toNatClampNeg (0 : Int32).toNatClampNeg (6 : Int32).toNatClampNeg) 19 9 0) 19 1 0) 52 0 0) 53 0 1) 54 0 0) 0 7 4) 24 34 (0 : Int32).toNatClampNeg (0 : Int32).toNatClampNeg (6 : Int32).toNatClampNeg) 34 6 0) 34 7 0) 1 0 0) 19 1 1) 1 1 0) 1 2 0) 1 3 0) 19 1 2) 1 4 0) 1 5 0) 1 6 0) 19 1 3) 1 7 0) 1 8 0) 1 9 0) (fun r h => r = some (.int 0) ∧ h = (SH0, RF0, (gup (gup (gup (gup (gup (gup (gup (gup (gup (gup (gup (gup (gup (gup (gup (gcp (gup (gup (gup (gup (gup (gup (gcp (gup (gup (gup (gup (gup (gcp (gup (gup (gup (gup (gup (gcp (gup (gup (gup (gup (gup (gcp (gup (gup (gup (gup (gup (gup (gcp (gup (gup (gup (gup (gup (gup (gup (gcp (gup (gup (gup (gup (gup (gup (gup (gcp (gup (gup (gup (gup (gup (gup (gup (gcp (gup (gup (gup (gup I0 52 0 0) 53 0 1) 54 0 0) 52 0 (-1)) 24 34 (0 : Int32).toNatClampNeg (0 : Int32).toNatClampNeg (6 : Int32).toNatClampNeg) 34 6 0) 34 7 0) 19 1 1) 52 1 0) 53 1 1) 54 1 0) 52 1 (-1)) 24 34 (0 : Int32).toNatClampNeg (8 : Int32).toNatClampNeg (6 : Int32).toNatClampNeg) 34 14 0) 34 15 1) 19 1 2) 52 2 0) 53 2 1) 54 2 0) 52 2 (-1)) 24 34 (0 : Int32).toNatClampNeg (16 : Int32).toNatClampNeg (6 : Int32).toNatClampNeg) 34 22 0) 34 23 2) 19 1 3) 52 3 0) 53 3 1) 54 3 0) 52 3 (-1)) 24 34 (0 : Int32).toNatClampNeg (24 : Int32).toNatClampNeg (6 : Int32).toNatClampNeg) 34 30 0) 34 31 3) 19 1 4) 52 4 0) 53 4 1) 54 4 0) 34 24 (24 : Int32).toNatClampNeg (0 : Int32).toNatClampNeg (6 : Int32).toNatClampNeg) 19 9 0) 19 1 3) 52 3 0) 53 3 1) 54 3 0) 34 24 (16 : Int32).toNatClampNeg (0 : Int32).toNatClampNeg (6 : Int32).toNatClampNeg) 19 9 0) 19 1 2) 52 2 0) 53 2 1) 54 2 0) 34 24 (8 : Int32).toNatClampNeg (0 : Int32).toNatClampNeg (6 : Int32).toNatClampNeg) 19 9 0) 19 1 1) 52 1 0) 53 1 1) 54 1 0) 34 24 (0 : Int32).toNatClampNeg (0 : Int32).toNatClampNeg (6 : Int32).toNatClampNeg) 19 9 0) 19 1 0) 52 0 0) 53 0 1) 54 0 0) 0 7 4) 24 34 (0 : Int32).toNatClampNeg (0 : Int32).toNatClampNeg (6 : Int32).toNatClampNeg) 34 6 0) 34 7 0) 1 0 0) 19 1 1) 1 1 0) 1 2 0) 1 3 0) 19 1 2) 1 4 0) 1 5 0) 1 6 0) 19 1 3) 1 7 0) 1 8 0) 1 9 0))) := by
  refine G_iload_n (pc := 0) rfl dX1_tell_0 ?_
  refine G_iconst (pc := 1) (v := 1) (by decide) dX1_tell_1 ?_
  refine G_isub (pc := 2) (z := (-1)) (by decide) dX1_tell_2 ?_
  refine G_istore_n (pc := 3) (L1 := [some (.ref 19), some (.int 0), some (.int (-1)), none, none]) rfl rfl (by decide) dX1_tell_3 ?_
  refine G_aload_n (pc := 4) rfl dX1_tell_4 ?_
  refine G_iload_n (pc := 5) rfl dX1_tell_5 ?_
  refine G_callV (pc := 6) (mc1 := 0) (ms1 := 0) (ci := 1) (mj := mX1_isKey) (vs := [_]) dX1_tell_6 rfl rfl cm_X1_isKey wf_68 wf_13 wf_14 rfl (Nat.le_of_ble_eq_true rfl) (Nat.le_of_ble_eq_true rfl) (Nat.le_of_ble_eq_true rfl) (Nat.le_of_ble_eq_true rfl) (s346_X1_isKey  d  ) ?_
  rintro _ _ ⟨rfl, rfl⟩
  dsimp only [Option.toList, List.cons_append, List.nil_append]
  refine G_if_eq (pc := 9) (tgt := 20) (by decide) dX1_tell_9 (fun _ => ?_) (fun z => absurd (by decide) z)
  refine G_iconst (pc := 20) (v := 0) (by decide) dX1_tell_20 ?_
  exact G_iret (pc := 21) (Nat.le_of_ble_eq_true rfl) (Nat.le_of_ble_eq_true rfl) rfl dX1_tell_21 ⟨rfl, rfl⟩
set_option maxRecDepth 100000 in
set_option maxHeartbeats 4000000 in
theorem s347_X1_melt  (d : Nat)   : G (d) mX1_melt 0 0 0 0 0 (gent 3 [.ref 19]) [] SH0 RF0 (gup (gup (gup (gup (gup (gup (gup (gup (gup (gup (gup (gup (gup (gup (gup (gcp (gup (gup (gup (gup (gup (gup (gcp (gup (gup (gup (gup (gup (gcp (gup (gup (gup (gup (gup (gcp (gup (gup (gup (gup (gup (gcp (gup (gup (gup (gup (gup (gup (gcp (gup (gup (gup (gup (gup (gup (gup (gcp (gup (gup (gup (gup (gup (gup (gup (gcp (gup (gup (gup (gup (gup (gup (gup (gcp (gup (gup (gup (gup I0 52 0 0) 53 0 1) 54 0 0) 52 0 (-1)) 24 34 (0 : Int32).toNatClampNeg (0 : Int32).toNatClampNeg (6 : Int32).toNatClampNeg) 34 6 0) 34 7 0) 19 1 1) 52 1 0) 53 1 1) 54 1 0) 52 1 (-1)) 24 34 (0 : Int32).toNatClampNeg (8 : Int32).toNatClampNeg (6 : Int32).toNatClampNeg) 34 14 0) 34 15 1) 19 1 2) 52 2 0) 53 2 1) 54 2 0) 52 2 (-1)) 24 34 (0 : Int32).toNatClampNeg (16 : Int32).toNatClampNeg (6 : Int32).toNatClampNeg) 34 22 0) 34 23 2) 19 1 3) 52 3 0) 53 3 1) 54 3 0) 52 3 (-1)) 24 34 (0 : Int32).toNatClampNeg (24 : Int32).toNatClampNeg (6 : Int32).toNatClampNeg) 34 30 0) 34 31 3) 19 1 4) 52 4 0) 53 4 1) 54 4 0) 34 24 (24 : Int32).toNatClampNeg (0 : Int32).toNatClampNeg (6 : Int32).toNatClampNeg) 19 9 0) 19 1 3) 52 3 0) 53 3 1) 54 3 0) 34 24 (16 : Int32).toNatClampNeg (0 : Int32).toNatClampNeg (6 : Int32).toNatClampNeg) 19 9 0) 19 1 2) 52 2 0) 53 2 1) 54 2 0) 34 24 (8 : Int32).toNatClampNeg (0 : Int32).toNatClampNeg (6 : Int32).toNatClampNeg) 19 9 0) 19 1 1) 52 1 0) 53 1 1) 54 1 0) 34 24 (0 : Int32).toNatClampNeg (0 : Int32).toNatClampNeg (6 : Int32).toNatClampNeg) 19 9 0) 19 1 0) 52 0 0) 53 0 1) 54 0 0) 0 7 4) 24 34 (0 : Int32).toNatClampNeg (0 : Int32).toNatClampNeg (6 : Int32).toNatClampNeg) 34 6 0) 34 7 0) 1 0 0) 19 1 1) 1 1 0) 1 2 0) 1 3 0) 19 1 2) 1 4 0) 1 5 0) 1 6 0) 19 1 3) 1 7 0) 1 8 0) 1 9 0) (fun r h => r = some (.int 0) ∧ h = (SH0, RF0, (gup (gup (gup (gup (gup (gup (gup (gup (gup (gup (gup (gup (gup (gup (gup (gup (gcp (gup (gup (gup (gup (gup (gup (gcp (gup (gup (gup (gup (gup (gcp (gup (gup (gup (gup (gup (gcp (gup (gup (gup (gup (gup (gcp (gup (gup (gup (gup (gup (gup (gcp (gup (gup (gup (gup (gup (gup (gup (gcp (gup (gup (gup (gup (gup (gup (gup (gcp (gup (gup (gup (gup (gup (gup (gup (gcp (gup (gup (gup (gup I0 52 0 0) 53 0 1) 54 0 0) 52 0 (-1)) 24 34 (0 : Int32).toNatClampNeg (0 : Int32).toNatClampNeg (6 : Int32).toNatClampNeg) 34 6 0) 34 7 0) 19 1 1) 52 1 0) 53 1 1) 54 1 0) 52 1 (-1)) 24 34 (0 : Int32).toNatClampNeg (8 : Int32).toNatClampNeg (6 : Int32).toNatClampNeg) 34 14 0) 34 15 1) 19 1 2) 52 2 0) 53 2 1) 54 2 0) 52 2 (-1)) 24 34 (0 : Int32).toNatClampNeg (16 : Int32).toNatClampNeg (6 : Int32).toNatClampNeg) 34 22 0) 34 23 2) 19 1 3) 52 3 0) 53 3 1) 54 3 0) 52 3 (-1)) 24 34 (0 : Int32).toNatClampNeg (24 : Int32).toNatClampNeg (6 : Int32).toNatClampNeg) 34 30 0) 34 31 3) 19 1 4) 52 4 0) 53 4 1) 54 4 0) 34 24 (24 : Int32).toNatClampNeg (0 : Int32).toNatClampNeg (6 : Int32).toNatClampNeg) 19 9 0) 19 1 3) 52 3 0) 53 3 1) 54 3 0) 34 24 (16 : Int32).toNatClampNeg (0 : Int32).toNatClampNeg (6 : Int32).toNatClampNeg) 19 9 0) 19 1 2) 52 2 0) 53 2 1) 54 2 0) 34 24 (8 : Int32).toNatClampNeg (0 : Int32).toNatClampNeg (6 : Int32).toNatClampNeg) 19 9 0) 19 1 1) 52 1 0) 53 1 1) 54 1 0) 34 24 (0 : Int32).toNatClampNeg (0 : Int32).toNatClampNeg (6 : Int32).toNatClampNeg) 19 9 0) 19 1 0) 52 0 0) 53 0 1) 54 0 0) 0 7 4) 24 34 (0 : Int32).toNatClampNeg (0 : Int32).toNatClampNeg (6 : Int32).toNatClampNeg) 34 6 0) 34 7 0) 1 0 0) 19 1 1) 1 1 0) 1 2 0) 1 3 0) 19 1 2) 1 4 0) 1 5 0) 1 6 0) 19 1 3) 1 7 0) 1 8 0) 1 9 0) 19 1 4))) := by
  refine G_iconst (pc := 0) (v := 0) (by decide) dX1_melt_0 ?_
  refine G_istore_n (pc := 1) (L1 := [some (.ref 19), some (.int 0), none]) rfl rfl (by decide) dX1_melt_1 ?_
  refine G_iconst (pc := 2) (v := 0) (by decide) dX1_melt_2 ?_
  refine G_istore_n (pc := 3) (L1 := [some (.ref 19), some (.int 0), some (.int 0)]) rfl rfl (by decide) dX1_melt_3 ?_
  refine G_iload_n (pc := 4) rfl dX1_melt_4 ?_
  refine G_aload_n (pc := 5) rfl dX1_melt_5 ?_
  refine G_getI (pc := 6) (v := 0) (ci := 1) (j := 8) rfl rfl lk_RX1_72 rfl rfl dX1_melt_6 ?_
  refine G_icmp_ge (pc := 9) (tgt := 60) (by decide) dX1_melt_9 (fun _ => ?_) (fun z => absurd (by decide) z)
  refine G_aload_n (pc := 60) rfl dX1_melt_60 ?_
  refine G_dup (pc := 61) rfl dX1_melt_61 ?_
  refine G_getI (pc := 62) (v := 3) (ci := 1) (j := 1) rfl rfl lk_RX1_60 rfl rfl dX1_melt_62 ?_
  refine G_iconst (pc := 65) (v := 1) (by decide) dX1_melt_65 ?_
  refine G_iadd (pc := 66) (z := 4) (by decide) dX1_melt_66 ?_
  refine G_putI (pc := 67) (ci := 1) (j := 1) rfl lk_RX1_60 rfl rfl rfl trivial dX1_melt_67 ?_
  refine G_iload_n (pc := 70) rfl dX1_melt_70 ?_
  exact G_iret (pc := 71) (Nat.le_of_ble_eq_true rfl) (Nat.le_of_ble_eq_true rfl) rfl dX1_melt_71 ⟨rfl, rfl⟩
set_option maxRecDepth 100000 in
set_option maxHeartbeats 4000000 in
theorem s344_X1_goBy  (d : Nat)   : G (d + 2) mX1_goBy 0 0 0 0 0 (gent 2 [.ref 19, .int 0]) [] SH0 RF0 (gup (gup (gup (gup (gup (gup (gup (gup (gup (gup (gup (gup (gup (gup (gup (gcp (gup (gup (gup (gup (gup (gup (gcp (gup (gup (gup (gup (gup (gcp (gup (gup (gup (gup (gup (gcp (gup (gup (gup (gup (gup (gcp (gup (gup (gup (gup (gup (gup (gcp (gup (gup (gup (gup (gup (gup (gup (gcp (gup (gup (gup (gup (gup (gup (gup (gcp (gup (gup (gup (gup (gup (gup (gup (gcp (gup (gup (gup (gup I0 52 0 0) 53 0 1) 54 0 0) 52 0 (-1)) 24 34 (0 : Int32).toNatClampNeg (0 : Int32).toNatClampNeg (6 : Int32).toNatClampNeg) 34 6 0) 34 7 0) 19 1 1) 52 1 0) 53 1 1) 54 1 0) 52 1 (-1)) 24 34 (0 : Int32).toNatClampNeg (8 : Int32).toNatClampNeg (6 : Int32).toNatClampNeg) 34 14 0) 34 15 1) 19 1 2) 52 2 0) 53 2 1) 54 2 0) 52 2 (-1)) 24 34 (0 : Int32).toNatClampNeg (16 : Int32).toNatClampNeg (6 : Int32).toNatClampNeg) 34 22 0) 34 23 2) 19 1 3) 52 3 0) 53 3 1) 54 3 0) 52 3 (-1)) 24 34 (0 : Int32).toNatClampNeg (24 : Int32).toNatClampNeg (6 : Int32).toNatClampNeg) 34 30 0) 34 31 3) 19 1 4) 52 4 0) 53 4 1) 54 4 0) 34 24 (24 : Int32).toNatClampNeg (0 : Int32).toNatClampNeg (6 : Int32).toNatClampNeg) 19 9 0) 19 1 3) 52 3 0) 53 3 1) 54 3 0) 34 24 (16 : Int32).toNatClampNeg (0 : Int32).toNatClampNeg (6 : Int32).toNatClampNeg) 19 9 0) 19 1 2) 52 2 0) 53 2 1) 54 2 0) 34 24 (8 : Int32).toNatClampNeg (0 : Int32).toNatClampNeg (6 : Int32).toNatClampNeg) 19 9 0) 19 1 1) 52 1 0) 53 1 1) 54 1 0) 34 24 (0 : Int32).toNatClampNeg (0 : Int32).toNatClampNeg (6 : Int32).toNatClampNeg) 19 9 0) 19 1 0) 52 0 0) 53 0 1) 54 0 0) 0 7 4) 24 34 (0 : Int32).toNatClampNeg (0 : Int32).toNatClampNeg (6 : Int32).toNatClampNeg) 34 6 0) 34 7 0) 1 0 0) 19 1 1) 1 1 0) 1 2 0) 1 3 0) 19 1 2) 1 4 0) 1 5 0) 1 6 0) 19 1 3) 1 7 0) 1 8 0) 1 9 0) (fun r h => r = some (.int 0) ∧ h = (SH0, RF0, (gup (gup (gup (gup (gup (gup (gup (gup (gup (gup (gup (gup (gup (gup (gup (gup (gcp (gup (gup (gup (gup (gup (gup (gcp (gup (gup (gup (gup (gup (gcp (gup (gup (gup (gup (gup (gcp (gup (gup (gup (gup (gup (gcp (gup (gup (gup (gup (gup (gup (gcp (gup (gup (gup (gup (gup (gup (gup (gcp (gup (gup (gup (gup (gup (gup (gup (gcp (gup (gup (gup (gup (gup (gup (gup (gcp (gup (gup (gup (gup I0 52 0 0) 53 0 1) 54 0 0) 52 0 (-1)) 24 34 (0 : Int32).toNatClampNeg (0 : Int32).toNatClampNeg (6 : Int32).toNatClampNeg) 34 6 0) 34 7 0) 19 1 1) 52 1 0) 53 1 1) 54 1 0) 52 1 (-1)) 24 34 (0 : Int32).toNatClampNeg (8 : Int32).toNatClampNeg (6 : Int32).toNatClampNeg) 34 14 0) 34 15 1) 19 1 2) 52 2 0) 53 2 1) 54 2 0) 52 2 (-1)) 24 34 (0 : Int32).toNatClampNeg (16 : Int32).toNatClampNeg (6 : Int32).toNatClampNeg) 34 22 0) 34 23 2) 19 1 3) 52 3 0) 53 3 1) 54 3 0) 52 3 (-1)) 24 34 (0 : Int32).toNatClampNeg (24 : Int32).toNatClampNeg (6 : Int32).toNatClampNeg) 34 30 0) 34 31 3) 19 1 4) 52 4 0) 53 4 1) 54 4 0) 34 24 (24 : Int32).toNatClampNeg (0 : Int32).toNatClampNeg (6 : Int32).toNatClampNeg) 19 9 0) 19 1 3) 52 3 0) 53 3 1) 54 3 0) 34 24 (16 : Int32).toNatClampNeg (0 : Int32).toNatClampNeg (6 : Int32).toNatClampNeg) 19 9 0) 19 1 2) 52 2 0) 53 2 1) 54 2 0) 34 24 (8 : Int32).toNatClampNeg (0 : Int32).toNatClampNeg (6 : Int32).toNatClampNeg) 19 9 0) 19 1 1) 52 1 0) 53 1 1) 54 1 0) 34 24 (0 : Int32).toNatClampNeg (0 : Int32).toNatClampNeg (6 : Int32).toNatClampNeg) 19 9 0) 19 1 0) 52 0 0) 53 0 1) 54 0 0) 0 7 4) 24 34 (0 : Int32).toNatClampNeg (0 : Int32).toNatClampNeg (6 : Int32).toNatClampNeg) 34 6 0) 34 7 0) 1 0 0) 19 1 1) 1 1 0) 1 2 0) 1 3 0) 19 1 2) 1 4 0) 1 5 0) 1 6 0) 19 1 3) 1 7 0) 1 8 0) 1 9 0) 19 1 4))) := by
  refine G_aload_n (pc := 0) rfl dX1_goBy_0 ?_
  refine G_iload_n (pc := 1) rfl dX1_goBy_1 ?_
  refine G_callV (pc := 2) (mc1 := 0) (ms1 := 0) (ci := 1) (mj := mX1_tell) (vs := [_]) dX1_goBy_2 rfl rfl cm_X1_tell wf_69 wf_71 wf_72 rfl (Nat.le_of_ble_eq_true rfl) (Nat.le_of_ble_eq_true rfl) (Nat.le_of_ble_eq_true rfl) (Nat.le_of_ble_eq_true rfl) (s345_X1_tell  d  ) ?_
  rintro _ _ ⟨rfl, rfl⟩
  dsimp only [Option.toList, List.cons_append, List.nil_append]
  refine G_aload_n (pc := 5) rfl dX1_goBy_5 ?_
  refine G_callV (pc := 6) (mc1 := 0) (ms1 := 0) (ci := 1) (mj := mX1_melt) (vs := []) dX1_goBy_6 rfl rfl cm_X1_melt wf_73 wf_75 wf_76 rfl (Nat.le_of_ble_eq_true rfl) (Nat.le_of_ble_eq_true rfl) (Nat.le_of_ble_eq_true rfl) (Nat.le_of_ble_eq_true rfl) (s347_X1_melt  (d + 1)  ) ?_
  rintro _ _ ⟨rfl, rfl⟩
  dsimp only [Option.toList, List.cons_append, List.nil_append]
  refine G_iadd (pc := 9) (z := 0) (by decide) dX1_goBy_9 ?_
  exact G_iret (pc := 10) (Nat.le_of_ble_eq_true rfl) (Nat.le_of_ble_eq_true rfl) rfl dX1_goBy_10 ⟨rfl, rfl⟩
set_option maxRecDepth 100000 in
set_option maxHeartbeats 4000000 in
theorem s348_X1_restore  (d : Nat)   : G (d + 1) mX1_restore 0 0 0 0 0 (gent 3 [.ref 19, .int 0]) [] SH0 RF0 (gup (gup (gup (gup (gup (gup (gup (gup (gup (gup (gup (gup (gup (gup (gup (gup (gup (gup (gcp (gup (gup (gup (gup (gup (gup (gcp (gup (gup (gup (gup (gup (gcp (gup (gup (gup (gup (gup (gcp (gup (gup (gup (gup (gup (gcp (gup (gup (gup (gup (gup (gup (gcp (gup (gup (gup (gup (gup (gup (gup (gcp (gup (gup (gup (gup (gup (gup (gup (gcp (gup (gup (gup (gup (gup (gup (gup (gcp (gup (gup (gup (gup I0 52 0 0) 53 0 1) 54 0 0) 52 0 (-1)) 24 34 (0 : Int32).toNatClampNeg (0 : Int32).toNatClampNeg (6 : Int32).toNatClampNeg) 34 6 0) 34 7 0) 19 1 1) 52 1 0) 53 1 1) 54 1 0) 52 1 (-1)) 24 34 (0 : Int32).toNatClampNeg (8 : Int32).toNatClampNeg (6 : Int32).toNatClampNeg) 34 14 0) 34 15 1) 19 1 2) 52 2 0) 53 2 1) 54 2 0) 52 2 (-1)) 24 34 (0 : Int32).toNatClampNeg (16 : Int32).toNatClampNeg (6 : Int32).toNatClampNeg) 34 22 0) 34 23 2) 19 1 3) 52 3 0) 53 3 1) 54 3 0) 52 3 (-1)) 24 34 (0 : Int32).toNatClampNeg (24 : Int32).toNatClampNeg (6 : Int32).toNatClampNeg) 34 30 0) 34 31 3) 19 1 4) 52 4 0) 53 4 1) 54 4 0) 34 24 (24 : Int32).toNatClampNeg (0 : Int32).toNatClampNeg (6 : Int32).toNatClampNeg) 19 9 0) 19 1 3) 52 3 0) 53 3 1) 54 3 0) 34 24 (16 : Int32).toNatClampNeg (0 : Int32).toNatClampNeg (6 : Int32).toNatClampNeg) 19 9 0) 19 1 2) 52 2 0) 53 2 1) 54 2 0) 34 24 (8 : Int32).toNatClampNeg (0 : Int32).toNatClampNeg (6 : Int32).toNatClampNeg) 19 9 0) 19 1 1) 52 1 0) 53 1 1) 54 1 0) 34 24 (0 : Int32).toNatClampNeg (0 : Int32).toNatClampNeg (6 : Int32).toNatClampNeg) 19 9 0) 19 1 0) 52 0 0) 53 0 1) 54 0 0) 0 7 4) 24 34 (0 : Int32).toNatClampNeg (0 : Int32).toNatClampNeg (6 : Int32).toNatClampNeg) 34 6 0) 34 7 0) 1 0 0) 19 1 1) 1 1 0) 1 2 0) 1 3 0) 19 1 2) 1 4 0) 1 5 0) 1 6 0) 19 1 3) 1 7 0) 1 8 0) 1 9 0) 19 1 4) 1 10 0) 1 11 0) (fun r h => r = none ∧ h = (SH0, RF0, (gup (gup (gcp (gup (gup (gup (gup (gup (gup (gup (gup (gup (gup (gup (gup (gup (gup (gup (gup (gup (gup (gcp (gup (gup (gup (gup (gup (gup (gcp (gup (gup (gup (gup (gup (gcp (gup (gup (gup (gup (gup (gcp (gup (gup (gup (gup (gup (gcp (gup (gup (gup (gup (gup (gup (gcp (gup (gup (gup (gup (gup (gup (gup (gcp (gup (gup (gup (gup (gup (gup (gup (gcp (gup (gup (gup (gup (gup (gup (gup (gcp (gup (gup (gup (gup I0 52 0 0) 53 0 1) 54 0 0) 52 0 (-1)) 24 34 (0 : Int32).toNatClampNeg (0 : Int32).toNatClampNeg (6 : Int32).toNatClampNeg) 34 6 0) 34 7 0) 19 1 1) 52 1 0) 53 1 1) 54 1 0) 52 1 (-1)) 24 34 (0 : Int32).toNatClampNeg (8 : Int32).toNatClampNeg (6 : Int32).toNatClampNeg) 34 14 0) 34 15 1) 19 1 2) 52 2 0) 53 2 1) 54 2 0) 52 2 (-1)) 24 34 (0 : Int32).toNatClampNeg (16 : Int32).toNatClampNeg (6 : Int32).toNatClampNeg) 34 22 0) 34 23 2) 19 1 3) 52 3 0) 53 3 1) 54 3 0) 52 3 (-1)) 24 34 (0 : Int32).toNatClampNeg (24 : Int32).toNatClampNeg (6 : Int32).toNatClampNeg) 34 30 0) 34 31 3) 19 1 4) 52 4 0) 53 4 1) 54 4 0) 34 24 (24 : Int32).toNatClampNeg (0 : Int32).toNatClampNeg (6 : Int32).toNatClampNeg) 19 9 0) 19 1 3) 52 3 0) 53 3 1) 54 3 0) 34 24 (16 : Int32).toNatClampNeg (0 : Int32).toNatClampNeg (6 : Int32).toNatClampNeg) 19 9 0) 19 1 2) 52 2 0) 53 2 1) 54 2 0) 34 24 (8 : Int32).toNatClampNeg (0 : Int32).toNatClampNeg (6 : Int32).toNatClampNeg) 19 9 0) 19 1 1) 52 1 0) 53 1 1) 54 1 0) 34 24 (0 : Int32).toNatClampNeg (0 : Int32).toNatClampNeg (6 : Int32).toNatClampNeg) 19 9 0) 19 1 0) 52 0 0) 53 0 1) 54 0 0) 0 7 4) 24 34 (0 : Int32).toNatClampNeg (0 : Int32).toNatClampNeg (6 : Int32).toNatClampNeg) 34 6 0) 34 7 0) 1 0 0) 19 1 1) 1 1 0) 1 2 0) 1 3 0) 19 1 2) 1 4 0) 1 5 0) 1 6 0) 19 1 3) 1 7 0) 1 8 0) 1 9 0) 19 1 4) 1 10 0) 1 11 0) 34 24 (0 : Int32).toNatClampNeg (0 : Int32).toNatClampNeg (6 : Int32).toNatClampNeg) 19 9 0) 19 1 0))) := by
  refine G_iload_n (pc := 0) rfl dX1_restore_0 ?_
  refine G_bipush (pc := 1) (v := 8) (by decide) dX1_restore_1 ?_
  refine G_imul (pc := 3) (z := 0) (by decide) dX1_restore_3 ?_
  refine G_istore_n (pc := 4) (L1 := [some (.ref 19), some (.int 0), some (.int 0)]) rfl rfl (by decide) dX1_restore_4 ?_
  refine G_aload_n (pc := 5) rfl dX1_restore_5 ?_
  refine G_getR (pc := 6) (r := 34) (ci := 1) (j := 18) rfl lk_RX1_53 rfl rfl rfl dX1_restore_6 ?_
  refine G_iload_n (pc := 9) rfl dX1_restore_9 ?_
  refine G_aload_n (pc := 10) rfl dX1_restore_10 ?_
  refine G_getR (pc := 11) (r := 24) (ci := 1) (j := 11) rfl lk_RX1_31 rfl rfl rfl dX1_restore_11 ?_
  refine G_iconst (pc := 14) (v := 0) (by decide) dX1_restore_14 ?_
  refine G_bipush (pc := 15) (v := 6) (by decide) dX1_restore_15 ?_
  refine G_copy (pc := 17) (x := 34) (y := 24) rfl rfl (by decide) (by decide) (by decide) (by decide) (by decide) wf_50 wf_51 wf_52 wf_53 (Nat.le_of_ble_eq_true rfl) dX1_restore_17 ?_
  refine G_aload_n (pc := 20) rfl dX1_restore_20 ?_
  refine G_aload_n (pc := 21) rfl dX1_restore_21 ?_
  refine G_getR (pc := 22) (r := 34) (ci := 1) (j := 18) rfl lk_RX1_53 rfl rfl rfl dX1_restore_22 ?_
  refine G_iload_n (pc := 25) rfl dX1_restore_25 ?_
  refine G_bipush (pc := 26) (v := 6) (by decide) dX1_restore_26 ?_
  refine G_iadd (pc := 28) (z := 6) (by decide) dX1_restore_28 ?_
  refine G_iald (pc := 29) (jj := 6) (v := 0) (by decide) rfl rfl (by unfold vp_in; decide) dX1_restore_29 ?_
  refine G_putI (pc := 30) (ci := 1) (j := 9) rfl lk_RX1_75 rfl rfl rfl trivial dX1_restore_30 ?_
  refine G_aload_n (pc := 33) rfl dX1_restore_33 ?_
  refine G_aload_n (pc := 34) rfl dX1_restore_34 ?_
  refine G_getR (pc := 35) (r := 34) (ci := 1) (j := 18) rfl lk_RX1_53 rfl rfl rfl dX1_restore_35 ?_
  refine G_iload_n (pc := 38) rfl dX1_restore_38 ?_
  refine G_bipush (pc := 39) (v := 6) (by decide) dX1_restore_39 ?_
  refine G_iadd (pc := 41) (z := 6) (by decide) dX1_restore_41 ?_
  refine G_iconst (pc := 42) (v := 1) (by decide) dX1_restore_42 ?_
  refine G_iadd (pc := 43) (z := 7) (by decide) dX1_restore_43 ?_
  refine G_iald (pc := 44) (jj := 7) (v := 0) (by decide) rfl rfl (by unfold vp_in; decide) dX1_restore_44 ?_
  refine G_putI (pc := 45) (ci := 1) (j := 1) rfl lk_RX1_60 rfl rfl rfl trivial dX1_restore_45 ?_
  exact G_vret (pc := 48) (Nat.le_of_ble_eq_true rfl) (Nat.le_of_ble_eq_true rfl) rfl dX1_restore_48 ⟨rfl, rfl⟩
def F_prove (n : Int32) : Int32 := if 0 ≤ n ∧ n ≤ 4 then n else -1
set_option maxRecDepth 100000 in
set_option maxHeartbeats 4000000 in
theorem x_prove (d : Nat) (n : Int32) : G (d + 6) mX11_prove 0 0 0 0 0 (gent 5 [.ref 0, .int n]) [] SH0 RF0 I0 (fun r h => ∃ I1, r = some (.int (F_prove n)) ∧ h = (SH0, RF0, I1) ∧ ∀ a, 67 ≤ a → I1 a = I0 a) := by
  refine G_iload_n (pc := 0) rfl dX11_prove_0 ?_
  refine G_callS (pc := 1) (mc1 := 0) (ms1 := 0) (mj := mX11_isPlan) (vs := [_]) dX11_prove_1 cm_X11_isPlan wf_122 wf_124 rfl (Nat.le_of_ble_eq_true rfl) (Nat.le_of_ble_eq_true rfl) (Nat.le_of_ble_eq_true rfl) (Nat.le_of_ble_eq_true rfl) (isPlan_s (d + 4) n) ?_
  rintro _ _ ⟨rfl, rfl⟩
  dsimp only [Option.toList, List.cons_append, List.nil_append]
  refine G_if_ne (pc := 4) (tgt := 9) (by decide) dX11_prove_4 (fun c505 => ?_) (fun c505 => ?_)
  · have c505 := gB_o c505
    refine G_aload_n (pc := 9) rfl dX11_prove_9 ?_
    refine G_getR (pc := 10) (r := 51) (ci := 11) (j := 3) rfl lk_RX11_68 rfl rfl rfl dX11_prove_10 ?_
    refine G_iconst (pc := 13) (v := 0) (by decide) dX11_prove_13 ?_
    refine G_iload_n (pc := 14) rfl dX11_prove_14 ?_
    by_cases c507 : n = 0
    · subst c507
      refine G_callVN (host := "IceKeys") (pc := 15) (mc1 := 0) (ms1 := 0) (ci := 4) (mj := mX4_seek) (vs := [_, _]) dX11_prove_15 rfl rfl cm_X4_seek (by decide) wf_132 wf_133 rfl (Nat.le_of_ble_eq_true rfl) (Nat.le_of_ble_eq_true rfl) (Nat.le_of_ble_eq_true rfl) (Nat.le_of_ble_eq_true rfl) (s61_X4_seek  (d + 4)  ) ?_
      rintro _ _ ⟨rfl, rfl⟩
      dsimp only [Option.toList, List.cons_append, List.nil_append]
      refine G_aload_n (pc := 18) rfl dX11_prove_18 ?_
      refine G_getR (pc := 19) (r := 51) (ci := 11) (j := 3) rfl lk_RX11_68 rfl rfl rfl dX11_prove_19 ?_
      refine G_getR (pc := 22) (r := 54) (ci := 4) (j := 3) rfl lk_RX11_251 rfl rfl rfl dX11_prove_22 ?_
      refine G_iconst (pc := 25) (v := 0) (by decide) dX11_prove_25 ?_
      refine G_iald (pc := 26) (jj := 0) (v := 0) (by decide) rfl rfl (by unfold vp_in; decide) dX11_prove_26 ?_
      refine G_istore_n (pc := 27) (L1 := [some (.ref 0), some (.int 0), some (.int 0), none, none]) rfl rfl (by decide) dX11_prove_27 ?_
      refine G_aload_n (pc := 28) rfl dX11_prove_28 ?_
      refine G_aload_n (pc := 29) rfl dX11_prove_29 ?_
      refine G_getR (pc := 30) (r := 19) (ci := 11) (j := 0) rfl lk_RX11_56 rfl rfl rfl dX11_prove_30 ?_
      refine G_iload_n (pc := 33) rfl dX11_prove_33 ?_
      refine G_callV (pc := 34) (mc1 := 0) (ms1 := 0) (ci := 1) (mj := mX1_haltsOf) (vs := [_]) dX11_prove_34 rfl rfl cm_X1_haltsOf wf_150 wf_152 wf_153 rfl (Nat.le_of_ble_eq_true rfl) (Nat.le_of_ble_eq_true rfl) (Nat.le_of_ble_eq_true rfl) (Nat.le_of_ble_eq_true rfl) (s294_X1_haltsOf  (d + 4)  ) ?_
      rintro _ _ ⟨rfl, rfl⟩
      dsimp only [Option.toList, List.cons_append, List.nil_append]
      refine G_putI (pc := 37) (ci := 11) (j := 7) rfl lk_RX11_307 rfl rfl rfl trivial dX11_prove_37 ?_
      refine G_aload_n (pc := 40) rfl dX11_prove_40 ?_
      refine G_getR (pc := 41) (r := 19) (ci := 11) (j := 0) rfl lk_RX11_56 rfl rfl rfl dX11_prove_41 ?_
      refine G_iconst (pc := 44) (v := 0) (by decide) dX11_prove_44 ?_
      refine G_callV (pc := 45) (mc1 := 0) (ms1 := 0) (ci := 1) (mj := mX1_save) (vs := [_]) dX11_prove_45 rfl rfl cm_X1_save wf_103 wf_105 wf_106 rfl (Nat.le_of_ble_eq_true rfl) (Nat.le_of_ble_eq_true rfl) (Nat.le_of_ble_eq_true rfl) (Nat.le_of_ble_eq_true rfl) (s295_X1_save  (d + 4)  ) ?_
      rintro _ _ ⟨rfl, rfl⟩
      dsimp only [Option.toList, List.cons_append, List.nil_append]
      refine G_iconst (pc := 48) (v := 0) (by decide) dX11_prove_48 ?_
      refine G_istore_n (pc := 49) (L1 := [some (.ref 0), some (.int 0), some (.int 0), some (.int 0), none]) rfl rfl (by decide) dX11_prove_49 ?_
      refine G_iload_n (pc := 50) rfl dX11_prove_50 ?_
      refine G_aload_n (pc := 51) rfl dX11_prove_51 ?_
      refine G_getI (pc := 52) (v := 0) (ci := 11) (j := 7) rfl rfl lk_RX11_307 rfl rfl dX11_prove_52 ?_
      refine G_icmp_ge (pc := 55) (tgt := 120) (by decide) dX11_prove_55 (fun _ => ?_) (fun z => absurd (by decide) z)
      refine G_aload_n (pc := 120) rfl dX11_prove_120 ?_
      refine G_getR (pc := 121) (r := 19) (ci := 11) (j := 0) rfl lk_RX11_56 rfl rfl rfl dX11_prove_121 ?_
      refine G_iconst (pc := 124) (v := 0) (by decide) dX11_prove_124 ?_
      refine G_callV (pc := 125) (mc1 := 0) (ms1 := 0) (ci := 1) (mj := mX1_restore) (vs := [_]) dX11_prove_125 rfl rfl cm_X1_restore wf_107 wf_109 wf_110 rfl (Nat.le_of_ble_eq_true rfl) (Nat.le_of_ble_eq_true rfl) (Nat.le_of_ble_eq_true rfl) (Nat.le_of_ble_eq_true rfl) (s296_X1_restore  (d + 4)  ) ?_
      rintro _ _ ⟨rfl, rfl⟩
      dsimp only [Option.toList, List.cons_append, List.nil_append]
      refine G_aload_n (pc := 128) rfl dX11_prove_128 ?_
      refine G_getI (pc := 129) (v := 0) (ci := 11) (j := 7) rfl rfl lk_RX11_307 rfl rfl dX11_prove_129 ?_
      exact G_iret (pc := 132) (Nat.le_of_ble_eq_true rfl) (Nat.le_of_ble_eq_true rfl) rfl dX11_prove_132 ⟨_, by first | rfl | (simp [F_prove, *]; done) | (simp only [F_prove, Int32.le_iff_toInt_le, Int32.lt_iff_toInt_lt, ← Int32.toInt_inj]; simp; omega) | (simp only [F_prove, Int32.le_iff_toInt_le, Int32.lt_iff_toInt_lt, ← Int32.toInt_inj]; split <;> first | rfl | (exfalso; simp at *; omega)) | (unfold F_prove; (repeat' split) <;> first | rfl | (exfalso; (try simp only [Int32.le_iff_toInt_le, Int32.lt_iff_toInt_lt, ← Int32.toInt_inj] at *); first | omega | (simp at *; done) | (simp at *; omega))), rfl, fun a ha => by funext j; simp (disch := omega) only [gup_off, gcp_off]⟩
    by_cases c508 : n = 1
    · subst c508
      refine G_callVN (host := "IceKeys") (pc := 15) (mc1 := 0) (ms1 := 0) (ci := 4) (mj := mX4_seek) (vs := [_, _]) dX11_prove_15 rfl rfl cm_X4_seek (by decide) wf_132 wf_133 rfl (Nat.le_of_ble_eq_true rfl) (Nat.le_of_ble_eq_true rfl) (Nat.le_of_ble_eq_true rfl) (Nat.le_of_ble_eq_true rfl) (s63_X4_seek  (d + 3)  ) ?_
      rintro _ _ ⟨rfl, rfl⟩
      dsimp only [Option.toList, List.cons_append, List.nil_append]
      refine G_aload_n (pc := 18) rfl dX11_prove_18 ?_
      refine G_getR (pc := 19) (r := 51) (ci := 11) (j := 3) rfl lk_RX11_68 rfl rfl rfl dX11_prove_19 ?_
      refine G_getR (pc := 22) (r := 54) (ci := 4) (j := 3) rfl lk_RX11_251 rfl rfl rfl dX11_prove_22 ?_
      refine G_iconst (pc := 25) (v := 0) (by decide) dX11_prove_25 ?_
      refine G_iald (pc := 26) (jj := 0) (v := 0) (by decide) rfl rfl (by unfold vp_in; decide) dX11_prove_26 ?_
      refine G_istore_n (pc := 27) (L1 := [some (.ref 0), some (.int 1), some (.int 0), none, none]) rfl rfl (by decide) dX11_prove_27 ?_
      refine G_aload_n (pc := 28) rfl dX11_prove_28 ?_
      refine G_aload_n (pc := 29) rfl dX11_prove_29 ?_
      refine G_getR (pc := 30) (r := 19) (ci := 11) (j := 0) rfl lk_RX11_56 rfl rfl rfl dX11_prove_30 ?_
      refine G_iload_n (pc := 33) rfl dX11_prove_33 ?_
      refine G_callV (pc := 34) (mc1 := 0) (ms1 := 0) (ci := 1) (mj := mX1_haltsOf) (vs := [_]) dX11_prove_34 rfl rfl cm_X1_haltsOf wf_150 wf_152 wf_153 rfl (Nat.le_of_ble_eq_true rfl) (Nat.le_of_ble_eq_true rfl) (Nat.le_of_ble_eq_true rfl) (Nat.le_of_ble_eq_true rfl) (s297_X1_haltsOf  (d + 4)  ) ?_
      rintro _ _ ⟨rfl, rfl⟩
      dsimp only [Option.toList, List.cons_append, List.nil_append]
      refine G_putI (pc := 37) (ci := 11) (j := 7) rfl lk_RX11_307 rfl rfl rfl trivial dX11_prove_37 ?_
      refine G_aload_n (pc := 40) rfl dX11_prove_40 ?_
      refine G_getR (pc := 41) (r := 19) (ci := 11) (j := 0) rfl lk_RX11_56 rfl rfl rfl dX11_prove_41 ?_
      refine G_iconst (pc := 44) (v := 0) (by decide) dX11_prove_44 ?_
      refine G_callV (pc := 45) (mc1 := 0) (ms1 := 0) (ci := 1) (mj := mX1_save) (vs := [_]) dX11_prove_45 rfl rfl cm_X1_save wf_103 wf_105 wf_106 rfl (Nat.le_of_ble_eq_true rfl) (Nat.le_of_ble_eq_true rfl) (Nat.le_of_ble_eq_true rfl) (Nat.le_of_ble_eq_true rfl) (s298_X1_save  (d + 4)  ) ?_
      rintro _ _ ⟨rfl, rfl⟩
      dsimp only [Option.toList, List.cons_append, List.nil_append]
      refine G_iconst (pc := 48) (v := 0) (by decide) dX11_prove_48 ?_
      refine G_istore_n (pc := 49) (L1 := [some (.ref 0), some (.int 1), some (.int 0), some (.int 0), none]) rfl rfl (by decide) dX11_prove_49 ?_
      refine G_iload_n (pc := 50) rfl dX11_prove_50 ?_
      refine G_aload_n (pc := 51) rfl dX11_prove_51 ?_
      refine G_getI (pc := 52) (v := 1) (ci := 11) (j := 7) rfl rfl lk_RX11_307 rfl rfl dX11_prove_52 ?_
      refine G_icmp_ge (pc := 55) (tgt := 120) (by decide) dX11_prove_55 (fun z => absurd z (by decide)) (fun _ => ?_)
      refine G_iload_n (pc := 58) rfl dX11_prove_58 ?_
      refine G_iconst (pc := 59) (v := 3) (by decide) dX11_prove_59 ?_
      refine G_iload_n (pc := 60) rfl dX11_prove_60 ?_
      refine G_imul (pc := 61) (z := 0) (by decide) dX11_prove_61 ?_
      refine G_ishr (pc := 62) (z := 0) (by decide) dX11_prove_62 ?_
      refine G_bipush (pc := 63) (v := 7) (by decide) dX11_prove_63 ?_
      refine G_iand (pc := 65) (z := 0) (by decide) dX11_prove_65 ?_
      refine G_istore (pc := 66) (L1 := [some (.ref 0), some (.int 1), some (.int 0), some (.int 0), some (.int 0)]) rfl rfl (by decide) dX11_prove_66 ?_
      refine G_aload_n (pc := 68) rfl dX11_prove_68 ?_
      refine G_getR (pc := 69) (r := 1) (ci := 11) (j := 6) rfl lk_RX11_9 rfl rfl rfl dX11_prove_69 ?_
      refine G_iload_n (pc := 72) rfl dX11_prove_72 ?_
      refine G_iconst (pc := 73) (v := 3) (by decide) dX11_prove_73 ?_
      refine G_imul (pc := 74) (z := 0) (by decide) dX11_prove_74 ?_
      refine G_iload (pc := 75) rfl dX11_prove_75 ?_
      refine G_iast (pc := 77) (jj := 0) (by decide) rfl (by unfold vp_in; decide) dX11_prove_77 ?_
      refine G_aload_n (pc := 78) rfl dX11_prove_78 ?_
      refine G_getR (pc := 79) (r := 1) (ci := 11) (j := 6) rfl lk_RX11_9 rfl rfl rfl dX11_prove_79 ?_
      refine G_iload_n (pc := 82) rfl dX11_prove_82 ?_
      refine G_iconst (pc := 83) (v := 3) (by decide) dX11_prove_83 ?_
      refine G_imul (pc := 84) (z := 0) (by decide) dX11_prove_84 ?_
      refine G_iconst (pc := 85) (v := 1) (by decide) dX11_prove_85 ?_
      refine G_iadd (pc := 86) (z := 1) (by decide) dX11_prove_86 ?_
      refine G_aload_n (pc := 87) rfl dX11_prove_87 ?_
      refine G_getR (pc := 88) (r := 19) (ci := 11) (j := 0) rfl lk_RX11_56 rfl rfl rfl dX11_prove_88 ?_
      refine G_iload (pc := 91) rfl dX11_prove_91 ?_
      refine G_callV (pc := 93) (mc1 := 0) (ms1 := 0) (ci := 1) (mj := mX1_goBy) (vs := [_]) dX11_prove_93 rfl rfl cm_X1_goBy wf_77 wf_79 wf_80 rfl (Nat.le_of_ble_eq_true rfl) (Nat.le_of_ble_eq_true rfl) (Nat.le_of_ble_eq_true rfl) (Nat.le_of_ble_eq_true rfl) (s299_X1_goBy  (d + 3)  ) ?_
      rintro _ _ ⟨rfl, rfl⟩
      dsimp only [Option.toList, List.cons_append, List.nil_append]
      refine G_iast (pc := 96) (jj := 1) (by decide) rfl (by unfold vp_in; decide) dX11_prove_96 ?_
      refine G_aload_n (pc := 97) rfl dX11_prove_97 ?_
      refine G_getR (pc := 98) (r := 1) (ci := 11) (j := 6) rfl lk_RX11_9 rfl rfl rfl dX11_prove_98 ?_
      refine G_iload_n (pc := 101) rfl dX11_prove_101 ?_
      refine G_iconst (pc := 102) (v := 3) (by decide) dX11_prove_102 ?_
      refine G_imul (pc := 103) (z := 0) (by decide) dX11_prove_103 ?_
      refine G_iconst (pc := 104) (v := 2) (by decide) dX11_prove_104 ?_
      refine G_iadd (pc := 105) (z := 2) (by decide) dX11_prove_105 ?_
      refine G_aload_n (pc := 106) rfl dX11_prove_106 ?_
      refine G_getR (pc := 107) (r := 19) (ci := 11) (j := 0) rfl lk_RX11_56 rfl rfl rfl dX11_prove_107 ?_
      refine G_getI (pc := 110) (v := 0) (ci := 1) (j := 9) rfl rfl lk_RX11_165 rfl rfl dX11_prove_110 ?_
      refine G_iast (pc := 113) (jj := 2) (by decide) rfl (by unfold vp_in; decide) dX11_prove_113 ?_
      refine G_iinc (pc := 114) (v := 1) (w := 1) (L1 := [some (.ref 0), some (.int 1), some (.int 0), some (.int 1), some (.int 0)]) (by decide) rfl rfl (by decide) rfl (by decide) dX11_prove_114 ?_
      refine G_goto (pc := 117) (tgt := 50) (by decide) dX11_prove_117 ?_
      refine G_iload_n (pc := 50) rfl dX11_prove_50 ?_
      refine G_aload_n (pc := 51) rfl dX11_prove_51 ?_
      refine G_getI (pc := 52) (v := 1) (ci := 11) (j := 7) rfl rfl lk_RX11_307 rfl rfl dX11_prove_52 ?_
      refine G_icmp_ge (pc := 55) (tgt := 120) (by decide) dX11_prove_55 (fun _ => ?_) (fun z => absurd (by decide) z)
      refine G_aload_n (pc := 120) rfl dX11_prove_120 ?_
      refine G_getR (pc := 121) (r := 19) (ci := 11) (j := 0) rfl lk_RX11_56 rfl rfl rfl dX11_prove_121 ?_
      refine G_iconst (pc := 124) (v := 0) (by decide) dX11_prove_124 ?_
      refine G_callV (pc := 125) (mc1 := 0) (ms1 := 0) (ci := 1) (mj := mX1_restore) (vs := [_]) dX11_prove_125 rfl rfl cm_X1_restore wf_107 wf_109 wf_110 rfl (Nat.le_of_ble_eq_true rfl) (Nat.le_of_ble_eq_true rfl) (Nat.le_of_ble_eq_true rfl) (Nat.le_of_ble_eq_true rfl) (s303_X1_restore  (d + 4)  ) ?_
      rintro _ _ ⟨rfl, rfl⟩
      dsimp only [Option.toList, List.cons_append, List.nil_append]
      refine G_aload_n (pc := 128) rfl dX11_prove_128 ?_
      refine G_getI (pc := 129) (v := 1) (ci := 11) (j := 7) rfl rfl lk_RX11_307 rfl rfl dX11_prove_129 ?_
      exact G_iret (pc := 132) (Nat.le_of_ble_eq_true rfl) (Nat.le_of_ble_eq_true rfl) rfl dX11_prove_132 ⟨_, by first | rfl | (simp [F_prove, *]; done) | (simp only [F_prove, Int32.le_iff_toInt_le, Int32.lt_iff_toInt_lt, ← Int32.toInt_inj]; simp; omega) | (simp only [F_prove, Int32.le_iff_toInt_le, Int32.lt_iff_toInt_lt, ← Int32.toInt_inj]; split <;> first | rfl | (exfalso; simp at *; omega)) | (unfold F_prove; (repeat' split) <;> first | rfl | (exfalso; (try simp only [Int32.le_iff_toInt_le, Int32.lt_iff_toInt_lt, ← Int32.toInt_inj] at *); first | omega | (simp at *; done) | (simp at *; omega))), rfl, fun a ha => by funext j; simp (disch := omega) only [gup_off, gcp_off]⟩
    by_cases c509 : n = 2
    · subst c509
      refine G_callVN (host := "IceKeys") (pc := 15) (mc1 := 0) (ms1 := 0) (ci := 4) (mj := mX4_seek) (vs := [_, _]) dX11_prove_15 rfl rfl cm_X4_seek (by decide) wf_132 wf_133 rfl (Nat.le_of_ble_eq_true rfl) (Nat.le_of_ble_eq_true rfl) (Nat.le_of_ble_eq_true rfl) (Nat.le_of_ble_eq_true rfl) (s73_X4_seek  (d + 2)  ) ?_
      rintro _ _ ⟨rfl, rfl⟩
      dsimp only [Option.toList, List.cons_append, List.nil_append]
      refine G_aload_n (pc := 18) rfl dX11_prove_18 ?_
      refine G_getR (pc := 19) (r := 51) (ci := 11) (j := 3) rfl lk_RX11_68 rfl rfl rfl dX11_prove_19 ?_
      refine G_getR (pc := 22) (r := 54) (ci := 4) (j := 3) rfl lk_RX11_251 rfl rfl rfl dX11_prove_22 ?_
      refine G_iconst (pc := 25) (v := 0) (by decide) dX11_prove_25 ?_
      refine G_iald (pc := 26) (jj := 0) (v := 0) (by decide) rfl rfl (by unfold vp_in; decide) dX11_prove_26 ?_
      refine G_istore_n (pc := 27) (L1 := [some (.ref 0), some (.int 2), some (.int 0), none, none]) rfl rfl (by decide) dX11_prove_27 ?_
      refine G_aload_n (pc := 28) rfl dX11_prove_28 ?_
      refine G_aload_n (pc := 29) rfl dX11_prove_29 ?_
      refine G_getR (pc := 30) (r := 19) (ci := 11) (j := 0) rfl lk_RX11_56 rfl rfl rfl dX11_prove_30 ?_
      refine G_iload_n (pc := 33) rfl dX11_prove_33 ?_
      refine G_callV (pc := 34) (mc1 := 0) (ms1 := 0) (ci := 1) (mj := mX1_haltsOf) (vs := [_]) dX11_prove_34 rfl rfl cm_X1_haltsOf wf_150 wf_152 wf_153 rfl (Nat.le_of_ble_eq_true rfl) (Nat.le_of_ble_eq_true rfl) (Nat.le_of_ble_eq_true rfl) (Nat.le_of_ble_eq_true rfl) (s304_X1_haltsOf  (d + 4)  ) ?_
      rintro _ _ ⟨rfl, rfl⟩
      dsimp only [Option.toList, List.cons_append, List.nil_append]
      refine G_putI (pc := 37) (ci := 11) (j := 7) rfl lk_RX11_307 rfl rfl rfl trivial dX11_prove_37 ?_
      refine G_aload_n (pc := 40) rfl dX11_prove_40 ?_
      refine G_getR (pc := 41) (r := 19) (ci := 11) (j := 0) rfl lk_RX11_56 rfl rfl rfl dX11_prove_41 ?_
      refine G_iconst (pc := 44) (v := 0) (by decide) dX11_prove_44 ?_
      refine G_callV (pc := 45) (mc1 := 0) (ms1 := 0) (ci := 1) (mj := mX1_save) (vs := [_]) dX11_prove_45 rfl rfl cm_X1_save wf_103 wf_105 wf_106 rfl (Nat.le_of_ble_eq_true rfl) (Nat.le_of_ble_eq_true rfl) (Nat.le_of_ble_eq_true rfl) (Nat.le_of_ble_eq_true rfl) (s305_X1_save  (d + 4)  ) ?_
      rintro _ _ ⟨rfl, rfl⟩
      dsimp only [Option.toList, List.cons_append, List.nil_append]
      refine G_iconst (pc := 48) (v := 0) (by decide) dX11_prove_48 ?_
      refine G_istore_n (pc := 49) (L1 := [some (.ref 0), some (.int 2), some (.int 0), some (.int 0), none]) rfl rfl (by decide) dX11_prove_49 ?_
      refine G_iload_n (pc := 50) rfl dX11_prove_50 ?_
      refine G_aload_n (pc := 51) rfl dX11_prove_51 ?_
      refine G_getI (pc := 52) (v := 2) (ci := 11) (j := 7) rfl rfl lk_RX11_307 rfl rfl dX11_prove_52 ?_
      refine G_icmp_ge (pc := 55) (tgt := 120) (by decide) dX11_prove_55 (fun z => absurd z (by decide)) (fun _ => ?_)
      refine G_iload_n (pc := 58) rfl dX11_prove_58 ?_
      refine G_iconst (pc := 59) (v := 3) (by decide) dX11_prove_59 ?_
      refine G_iload_n (pc := 60) rfl dX11_prove_60 ?_
      refine G_imul (pc := 61) (z := 0) (by decide) dX11_prove_61 ?_
      refine G_ishr (pc := 62) (z := 0) (by decide) dX11_prove_62 ?_
      refine G_bipush (pc := 63) (v := 7) (by decide) dX11_prove_63 ?_
      refine G_iand (pc := 65) (z := 0) (by decide) dX11_prove_65 ?_
      refine G_istore (pc := 66) (L1 := [some (.ref 0), some (.int 2), some (.int 0), some (.int 0), some (.int 0)]) rfl rfl (by decide) dX11_prove_66 ?_
      refine G_aload_n (pc := 68) rfl dX11_prove_68 ?_
      refine G_getR (pc := 69) (r := 1) (ci := 11) (j := 6) rfl lk_RX11_9 rfl rfl rfl dX11_prove_69 ?_
      refine G_iload_n (pc := 72) rfl dX11_prove_72 ?_
      refine G_iconst (pc := 73) (v := 3) (by decide) dX11_prove_73 ?_
      refine G_imul (pc := 74) (z := 0) (by decide) dX11_prove_74 ?_
      refine G_iload (pc := 75) rfl dX11_prove_75 ?_
      refine G_iast (pc := 77) (jj := 0) (by decide) rfl (by unfold vp_in; decide) dX11_prove_77 ?_
      refine G_aload_n (pc := 78) rfl dX11_prove_78 ?_
      refine G_getR (pc := 79) (r := 1) (ci := 11) (j := 6) rfl lk_RX11_9 rfl rfl rfl dX11_prove_79 ?_
      refine G_iload_n (pc := 82) rfl dX11_prove_82 ?_
      refine G_iconst (pc := 83) (v := 3) (by decide) dX11_prove_83 ?_
      refine G_imul (pc := 84) (z := 0) (by decide) dX11_prove_84 ?_
      refine G_iconst (pc := 85) (v := 1) (by decide) dX11_prove_85 ?_
      refine G_iadd (pc := 86) (z := 1) (by decide) dX11_prove_86 ?_
      refine G_aload_n (pc := 87) rfl dX11_prove_87 ?_
      refine G_getR (pc := 88) (r := 19) (ci := 11) (j := 0) rfl lk_RX11_56 rfl rfl rfl dX11_prove_88 ?_
      refine G_iload (pc := 91) rfl dX11_prove_91 ?_
      refine G_callV (pc := 93) (mc1 := 0) (ms1 := 0) (ci := 1) (mj := mX1_goBy) (vs := [_]) dX11_prove_93 rfl rfl cm_X1_goBy wf_77 wf_79 wf_80 rfl (Nat.le_of_ble_eq_true rfl) (Nat.le_of_ble_eq_true rfl) (Nat.le_of_ble_eq_true rfl) (Nat.le_of_ble_eq_true rfl) (s306_X1_goBy  (d + 3)  ) ?_
      rintro _ _ ⟨rfl, rfl⟩
      dsimp only [Option.toList, List.cons_append, List.nil_append]
      refine G_iast (pc := 96) (jj := 1) (by decide) rfl (by unfold vp_in; decide) dX11_prove_96 ?_
      refine G_aload_n (pc := 97) rfl dX11_prove_97 ?_
      refine G_getR (pc := 98) (r := 1) (ci := 11) (j := 6) rfl lk_RX11_9 rfl rfl rfl dX11_prove_98 ?_
      refine G_iload_n (pc := 101) rfl dX11_prove_101 ?_
      refine G_iconst (pc := 102) (v := 3) (by decide) dX11_prove_102 ?_
      refine G_imul (pc := 103) (z := 0) (by decide) dX11_prove_103 ?_
      refine G_iconst (pc := 104) (v := 2) (by decide) dX11_prove_104 ?_
      refine G_iadd (pc := 105) (z := 2) (by decide) dX11_prove_105 ?_
      refine G_aload_n (pc := 106) rfl dX11_prove_106 ?_
      refine G_getR (pc := 107) (r := 19) (ci := 11) (j := 0) rfl lk_RX11_56 rfl rfl rfl dX11_prove_107 ?_
      refine G_getI (pc := 110) (v := 0) (ci := 1) (j := 9) rfl rfl lk_RX11_165 rfl rfl dX11_prove_110 ?_
      refine G_iast (pc := 113) (jj := 2) (by decide) rfl (by unfold vp_in; decide) dX11_prove_113 ?_
      refine G_iinc (pc := 114) (v := 1) (w := 1) (L1 := [some (.ref 0), some (.int 2), some (.int 0), some (.int 1), some (.int 0)]) (by decide) rfl rfl (by decide) rfl (by decide) dX11_prove_114 ?_
      refine G_goto (pc := 117) (tgt := 50) (by decide) dX11_prove_117 ?_
      refine G_iload_n (pc := 50) rfl dX11_prove_50 ?_
      refine G_aload_n (pc := 51) rfl dX11_prove_51 ?_
      refine G_getI (pc := 52) (v := 2) (ci := 11) (j := 7) rfl rfl lk_RX11_307 rfl rfl dX11_prove_52 ?_
      refine G_icmp_ge (pc := 55) (tgt := 120) (by decide) dX11_prove_55 (fun z => absurd z (by decide)) (fun _ => ?_)
      refine G_iload_n (pc := 58) rfl dX11_prove_58 ?_
      refine G_iconst (pc := 59) (v := 3) (by decide) dX11_prove_59 ?_
      refine G_iload_n (pc := 60) rfl dX11_prove_60 ?_
      refine G_imul (pc := 61) (z := 3) (by decide) dX11_prove_61 ?_
      refine G_ishr (pc := 62) (z := 0) (by decide) dX11_prove_62 ?_
      refine G_bipush (pc := 63) (v := 7) (by decide) dX11_prove_63 ?_
      refine G_iand (pc := 65) (z := 0) (by decide) dX11_prove_65 ?_
      refine G_istore (pc := 66) (L1 := [some (.ref 0), some (.int 2), some (.int 0), some (.int 1), some (.int 0)]) rfl rfl (by decide) dX11_prove_66 ?_
      refine G_aload_n (pc := 68) rfl dX11_prove_68 ?_
      refine G_getR (pc := 69) (r := 1) (ci := 11) (j := 6) rfl lk_RX11_9 rfl rfl rfl dX11_prove_69 ?_
      refine G_iload_n (pc := 72) rfl dX11_prove_72 ?_
      refine G_iconst (pc := 73) (v := 3) (by decide) dX11_prove_73 ?_
      refine G_imul (pc := 74) (z := 3) (by decide) dX11_prove_74 ?_
      refine G_iload (pc := 75) rfl dX11_prove_75 ?_
      refine G_iast (pc := 77) (jj := 3) (by decide) rfl (by unfold vp_in; decide) dX11_prove_77 ?_
      refine G_aload_n (pc := 78) rfl dX11_prove_78 ?_
      refine G_getR (pc := 79) (r := 1) (ci := 11) (j := 6) rfl lk_RX11_9 rfl rfl rfl dX11_prove_79 ?_
      refine G_iload_n (pc := 82) rfl dX11_prove_82 ?_
      refine G_iconst (pc := 83) (v := 3) (by decide) dX11_prove_83 ?_
      refine G_imul (pc := 84) (z := 3) (by decide) dX11_prove_84 ?_
      refine G_iconst (pc := 85) (v := 1) (by decide) dX11_prove_85 ?_
      refine G_iadd (pc := 86) (z := 4) (by decide) dX11_prove_86 ?_
      refine G_aload_n (pc := 87) rfl dX11_prove_87 ?_
      refine G_getR (pc := 88) (r := 19) (ci := 11) (j := 0) rfl lk_RX11_56 rfl rfl rfl dX11_prove_88 ?_
      refine G_iload (pc := 91) rfl dX11_prove_91 ?_
      refine G_callV (pc := 93) (mc1 := 0) (ms1 := 0) (ci := 1) (mj := mX1_goBy) (vs := [_]) dX11_prove_93 rfl rfl cm_X1_goBy wf_77 wf_79 wf_80 rfl (Nat.le_of_ble_eq_true rfl) (Nat.le_of_ble_eq_true rfl) (Nat.le_of_ble_eq_true rfl) (Nat.le_of_ble_eq_true rfl) (s310_X1_goBy  (d + 3)  ) ?_
      rintro _ _ ⟨rfl, rfl⟩
      dsimp only [Option.toList, List.cons_append, List.nil_append]
      refine G_iast (pc := 96) (jj := 4) (by decide) rfl (by unfold vp_in; decide) dX11_prove_96 ?_
      refine G_aload_n (pc := 97) rfl dX11_prove_97 ?_
      refine G_getR (pc := 98) (r := 1) (ci := 11) (j := 6) rfl lk_RX11_9 rfl rfl rfl dX11_prove_98 ?_
      refine G_iload_n (pc := 101) rfl dX11_prove_101 ?_
      refine G_iconst (pc := 102) (v := 3) (by decide) dX11_prove_102 ?_
      refine G_imul (pc := 103) (z := 3) (by decide) dX11_prove_103 ?_
      refine G_iconst (pc := 104) (v := 2) (by decide) dX11_prove_104 ?_
      refine G_iadd (pc := 105) (z := 5) (by decide) dX11_prove_105 ?_
      refine G_aload_n (pc := 106) rfl dX11_prove_106 ?_
      refine G_getR (pc := 107) (r := 19) (ci := 11) (j := 0) rfl lk_RX11_56 rfl rfl rfl dX11_prove_107 ?_
      refine G_getI (pc := 110) (v := 0) (ci := 1) (j := 9) rfl rfl lk_RX11_165 rfl rfl dX11_prove_110 ?_
      refine G_iast (pc := 113) (jj := 5) (by decide) rfl (by unfold vp_in; decide) dX11_prove_113 ?_
      refine G_iinc (pc := 114) (v := 1) (w := 2) (L1 := [some (.ref 0), some (.int 2), some (.int 0), some (.int 2), some (.int 0)]) (by decide) rfl rfl (by decide) rfl (by decide) dX11_prove_114 ?_
      refine G_goto (pc := 117) (tgt := 50) (by decide) dX11_prove_117 ?_
      refine G_iload_n (pc := 50) rfl dX11_prove_50 ?_
      refine G_aload_n (pc := 51) rfl dX11_prove_51 ?_
      refine G_getI (pc := 52) (v := 2) (ci := 11) (j := 7) rfl rfl lk_RX11_307 rfl rfl dX11_prove_52 ?_
      refine G_icmp_ge (pc := 55) (tgt := 120) (by decide) dX11_prove_55 (fun _ => ?_) (fun z => absurd (by decide) z)
      refine G_aload_n (pc := 120) rfl dX11_prove_120 ?_
      refine G_getR (pc := 121) (r := 19) (ci := 11) (j := 0) rfl lk_RX11_56 rfl rfl rfl dX11_prove_121 ?_
      refine G_iconst (pc := 124) (v := 0) (by decide) dX11_prove_124 ?_
      refine G_callV (pc := 125) (mc1 := 0) (ms1 := 0) (ci := 1) (mj := mX1_restore) (vs := [_]) dX11_prove_125 rfl rfl cm_X1_restore wf_107 wf_109 wf_110 rfl (Nat.le_of_ble_eq_true rfl) (Nat.le_of_ble_eq_true rfl) (Nat.le_of_ble_eq_true rfl) (Nat.le_of_ble_eq_true rfl) (s314_X1_restore  (d + 4)  ) ?_
      rintro _ _ ⟨rfl, rfl⟩
      dsimp only [Option.toList, List.cons_append, List.nil_append]
      refine G_aload_n (pc := 128) rfl dX11_prove_128 ?_
      refine G_getI (pc := 129) (v := 2) (ci := 11) (j := 7) rfl rfl lk_RX11_307 rfl rfl dX11_prove_129 ?_
      exact G_iret (pc := 132) (Nat.le_of_ble_eq_true rfl) (Nat.le_of_ble_eq_true rfl) rfl dX11_prove_132 ⟨_, by first | rfl | (simp [F_prove, *]; done) | (simp only [F_prove, Int32.le_iff_toInt_le, Int32.lt_iff_toInt_lt, ← Int32.toInt_inj]; simp; omega) | (simp only [F_prove, Int32.le_iff_toInt_le, Int32.lt_iff_toInt_lt, ← Int32.toInt_inj]; split <;> first | rfl | (exfalso; simp at *; omega)) | (unfold F_prove; (repeat' split) <;> first | rfl | (exfalso; (try simp only [Int32.le_iff_toInt_le, Int32.lt_iff_toInt_lt, ← Int32.toInt_inj] at *); first | omega | (simp at *; done) | (simp at *; omega))), rfl, fun a ha => by funext j; simp (disch := omega) only [gup_off, gcp_off]⟩
    by_cases c510 : n = 3
    · subst c510
      refine G_callVN (host := "IceKeys") (pc := 15) (mc1 := 0) (ms1 := 0) (ci := 4) (mj := mX4_seek) (vs := [_, _]) dX11_prove_15 rfl rfl cm_X4_seek (by decide) wf_132 wf_133 rfl (Nat.le_of_ble_eq_true rfl) (Nat.le_of_ble_eq_true rfl) (Nat.le_of_ble_eq_true rfl) (Nat.le_of_ble_eq_true rfl) (s88_X4_seek  (d + 1)  ) ?_
      rintro _ _ ⟨rfl, rfl⟩
      dsimp only [Option.toList, List.cons_append, List.nil_append]
      refine G_aload_n (pc := 18) rfl dX11_prove_18 ?_
      refine G_getR (pc := 19) (r := 51) (ci := 11) (j := 3) rfl lk_RX11_68 rfl rfl rfl dX11_prove_19 ?_
      refine G_getR (pc := 22) (r := 54) (ci := 4) (j := 3) rfl lk_RX11_251 rfl rfl rfl dX11_prove_22 ?_
      refine G_iconst (pc := 25) (v := 0) (by decide) dX11_prove_25 ?_
      refine G_iald (pc := 26) (jj := 0) (v := 0) (by decide) rfl rfl (by unfold vp_in; decide) dX11_prove_26 ?_
      refine G_istore_n (pc := 27) (L1 := [some (.ref 0), some (.int 3), some (.int 0), none, none]) rfl rfl (by decide) dX11_prove_27 ?_
      refine G_aload_n (pc := 28) rfl dX11_prove_28 ?_
      refine G_aload_n (pc := 29) rfl dX11_prove_29 ?_
      refine G_getR (pc := 30) (r := 19) (ci := 11) (j := 0) rfl lk_RX11_56 rfl rfl rfl dX11_prove_30 ?_
      refine G_iload_n (pc := 33) rfl dX11_prove_33 ?_
      refine G_callV (pc := 34) (mc1 := 0) (ms1 := 0) (ci := 1) (mj := mX1_haltsOf) (vs := [_]) dX11_prove_34 rfl rfl cm_X1_haltsOf wf_150 wf_152 wf_153 rfl (Nat.le_of_ble_eq_true rfl) (Nat.le_of_ble_eq_true rfl) (Nat.le_of_ble_eq_true rfl) (Nat.le_of_ble_eq_true rfl) (s315_X1_haltsOf  (d + 4)  ) ?_
      rintro _ _ ⟨rfl, rfl⟩
      dsimp only [Option.toList, List.cons_append, List.nil_append]
      refine G_putI (pc := 37) (ci := 11) (j := 7) rfl lk_RX11_307 rfl rfl rfl trivial dX11_prove_37 ?_
      refine G_aload_n (pc := 40) rfl dX11_prove_40 ?_
      refine G_getR (pc := 41) (r := 19) (ci := 11) (j := 0) rfl lk_RX11_56 rfl rfl rfl dX11_prove_41 ?_
      refine G_iconst (pc := 44) (v := 0) (by decide) dX11_prove_44 ?_
      refine G_callV (pc := 45) (mc1 := 0) (ms1 := 0) (ci := 1) (mj := mX1_save) (vs := [_]) dX11_prove_45 rfl rfl cm_X1_save wf_103 wf_105 wf_106 rfl (Nat.le_of_ble_eq_true rfl) (Nat.le_of_ble_eq_true rfl) (Nat.le_of_ble_eq_true rfl) (Nat.le_of_ble_eq_true rfl) (s316_X1_save  (d + 4)  ) ?_
      rintro _ _ ⟨rfl, rfl⟩
      dsimp only [Option.toList, List.cons_append, List.nil_append]
      refine G_iconst (pc := 48) (v := 0) (by decide) dX11_prove_48 ?_
      refine G_istore_n (pc := 49) (L1 := [some (.ref 0), some (.int 3), some (.int 0), some (.int 0), none]) rfl rfl (by decide) dX11_prove_49 ?_
      refine G_iload_n (pc := 50) rfl dX11_prove_50 ?_
      refine G_aload_n (pc := 51) rfl dX11_prove_51 ?_
      refine G_getI (pc := 52) (v := 3) (ci := 11) (j := 7) rfl rfl lk_RX11_307 rfl rfl dX11_prove_52 ?_
      refine G_icmp_ge (pc := 55) (tgt := 120) (by decide) dX11_prove_55 (fun z => absurd z (by decide)) (fun _ => ?_)
      refine G_iload_n (pc := 58) rfl dX11_prove_58 ?_
      refine G_iconst (pc := 59) (v := 3) (by decide) dX11_prove_59 ?_
      refine G_iload_n (pc := 60) rfl dX11_prove_60 ?_
      refine G_imul (pc := 61) (z := 0) (by decide) dX11_prove_61 ?_
      refine G_ishr (pc := 62) (z := 0) (by decide) dX11_prove_62 ?_
      refine G_bipush (pc := 63) (v := 7) (by decide) dX11_prove_63 ?_
      refine G_iand (pc := 65) (z := 0) (by decide) dX11_prove_65 ?_
      refine G_istore (pc := 66) (L1 := [some (.ref 0), some (.int 3), some (.int 0), some (.int 0), some (.int 0)]) rfl rfl (by decide) dX11_prove_66 ?_
      refine G_aload_n (pc := 68) rfl dX11_prove_68 ?_
      refine G_getR (pc := 69) (r := 1) (ci := 11) (j := 6) rfl lk_RX11_9 rfl rfl rfl dX11_prove_69 ?_
      refine G_iload_n (pc := 72) rfl dX11_prove_72 ?_
      refine G_iconst (pc := 73) (v := 3) (by decide) dX11_prove_73 ?_
      refine G_imul (pc := 74) (z := 0) (by decide) dX11_prove_74 ?_
      refine G_iload (pc := 75) rfl dX11_prove_75 ?_
      refine G_iast (pc := 77) (jj := 0) (by decide) rfl (by unfold vp_in; decide) dX11_prove_77 ?_
      refine G_aload_n (pc := 78) rfl dX11_prove_78 ?_
      refine G_getR (pc := 79) (r := 1) (ci := 11) (j := 6) rfl lk_RX11_9 rfl rfl rfl dX11_prove_79 ?_
      refine G_iload_n (pc := 82) rfl dX11_prove_82 ?_
      refine G_iconst (pc := 83) (v := 3) (by decide) dX11_prove_83 ?_
      refine G_imul (pc := 84) (z := 0) (by decide) dX11_prove_84 ?_
      refine G_iconst (pc := 85) (v := 1) (by decide) dX11_prove_85 ?_
      refine G_iadd (pc := 86) (z := 1) (by decide) dX11_prove_86 ?_
      refine G_aload_n (pc := 87) rfl dX11_prove_87 ?_
      refine G_getR (pc := 88) (r := 19) (ci := 11) (j := 0) rfl lk_RX11_56 rfl rfl rfl dX11_prove_88 ?_
      refine G_iload (pc := 91) rfl dX11_prove_91 ?_
      refine G_callV (pc := 93) (mc1 := 0) (ms1 := 0) (ci := 1) (mj := mX1_goBy) (vs := [_]) dX11_prove_93 rfl rfl cm_X1_goBy wf_77 wf_79 wf_80 rfl (Nat.le_of_ble_eq_true rfl) (Nat.le_of_ble_eq_true rfl) (Nat.le_of_ble_eq_true rfl) (Nat.le_of_ble_eq_true rfl) (s317_X1_goBy  (d + 3)  ) ?_
      rintro _ _ ⟨rfl, rfl⟩
      dsimp only [Option.toList, List.cons_append, List.nil_append]
      refine G_iast (pc := 96) (jj := 1) (by decide) rfl (by unfold vp_in; decide) dX11_prove_96 ?_
      refine G_aload_n (pc := 97) rfl dX11_prove_97 ?_
      refine G_getR (pc := 98) (r := 1) (ci := 11) (j := 6) rfl lk_RX11_9 rfl rfl rfl dX11_prove_98 ?_
      refine G_iload_n (pc := 101) rfl dX11_prove_101 ?_
      refine G_iconst (pc := 102) (v := 3) (by decide) dX11_prove_102 ?_
      refine G_imul (pc := 103) (z := 0) (by decide) dX11_prove_103 ?_
      refine G_iconst (pc := 104) (v := 2) (by decide) dX11_prove_104 ?_
      refine G_iadd (pc := 105) (z := 2) (by decide) dX11_prove_105 ?_
      refine G_aload_n (pc := 106) rfl dX11_prove_106 ?_
      refine G_getR (pc := 107) (r := 19) (ci := 11) (j := 0) rfl lk_RX11_56 rfl rfl rfl dX11_prove_107 ?_
      refine G_getI (pc := 110) (v := 0) (ci := 1) (j := 9) rfl rfl lk_RX11_165 rfl rfl dX11_prove_110 ?_
      refine G_iast (pc := 113) (jj := 2) (by decide) rfl (by unfold vp_in; decide) dX11_prove_113 ?_
      refine G_iinc (pc := 114) (v := 1) (w := 1) (L1 := [some (.ref 0), some (.int 3), some (.int 0), some (.int 1), some (.int 0)]) (by decide) rfl rfl (by decide) rfl (by decide) dX11_prove_114 ?_
      refine G_goto (pc := 117) (tgt := 50) (by decide) dX11_prove_117 ?_
      refine G_iload_n (pc := 50) rfl dX11_prove_50 ?_
      refine G_aload_n (pc := 51) rfl dX11_prove_51 ?_
      refine G_getI (pc := 52) (v := 3) (ci := 11) (j := 7) rfl rfl lk_RX11_307 rfl rfl dX11_prove_52 ?_
      refine G_icmp_ge (pc := 55) (tgt := 120) (by decide) dX11_prove_55 (fun z => absurd z (by decide)) (fun _ => ?_)
      refine G_iload_n (pc := 58) rfl dX11_prove_58 ?_
      refine G_iconst (pc := 59) (v := 3) (by decide) dX11_prove_59 ?_
      refine G_iload_n (pc := 60) rfl dX11_prove_60 ?_
      refine G_imul (pc := 61) (z := 3) (by decide) dX11_prove_61 ?_
      refine G_ishr (pc := 62) (z := 0) (by decide) dX11_prove_62 ?_
      refine G_bipush (pc := 63) (v := 7) (by decide) dX11_prove_63 ?_
      refine G_iand (pc := 65) (z := 0) (by decide) dX11_prove_65 ?_
      refine G_istore (pc := 66) (L1 := [some (.ref 0), some (.int 3), some (.int 0), some (.int 1), some (.int 0)]) rfl rfl (by decide) dX11_prove_66 ?_
      refine G_aload_n (pc := 68) rfl dX11_prove_68 ?_
      refine G_getR (pc := 69) (r := 1) (ci := 11) (j := 6) rfl lk_RX11_9 rfl rfl rfl dX11_prove_69 ?_
      refine G_iload_n (pc := 72) rfl dX11_prove_72 ?_
      refine G_iconst (pc := 73) (v := 3) (by decide) dX11_prove_73 ?_
      refine G_imul (pc := 74) (z := 3) (by decide) dX11_prove_74 ?_
      refine G_iload (pc := 75) rfl dX11_prove_75 ?_
      refine G_iast (pc := 77) (jj := 3) (by decide) rfl (by unfold vp_in; decide) dX11_prove_77 ?_
      refine G_aload_n (pc := 78) rfl dX11_prove_78 ?_
      refine G_getR (pc := 79) (r := 1) (ci := 11) (j := 6) rfl lk_RX11_9 rfl rfl rfl dX11_prove_79 ?_
      refine G_iload_n (pc := 82) rfl dX11_prove_82 ?_
      refine G_iconst (pc := 83) (v := 3) (by decide) dX11_prove_83 ?_
      refine G_imul (pc := 84) (z := 3) (by decide) dX11_prove_84 ?_
      refine G_iconst (pc := 85) (v := 1) (by decide) dX11_prove_85 ?_
      refine G_iadd (pc := 86) (z := 4) (by decide) dX11_prove_86 ?_
      refine G_aload_n (pc := 87) rfl dX11_prove_87 ?_
      refine G_getR (pc := 88) (r := 19) (ci := 11) (j := 0) rfl lk_RX11_56 rfl rfl rfl dX11_prove_88 ?_
      refine G_iload (pc := 91) rfl dX11_prove_91 ?_
      refine G_callV (pc := 93) (mc1 := 0) (ms1 := 0) (ci := 1) (mj := mX1_goBy) (vs := [_]) dX11_prove_93 rfl rfl cm_X1_goBy wf_77 wf_79 wf_80 rfl (Nat.le_of_ble_eq_true rfl) (Nat.le_of_ble_eq_true rfl) (Nat.le_of_ble_eq_true rfl) (Nat.le_of_ble_eq_true rfl) (s321_X1_goBy  (d + 3)  ) ?_
      rintro _ _ ⟨rfl, rfl⟩
      dsimp only [Option.toList, List.cons_append, List.nil_append]
      refine G_iast (pc := 96) (jj := 4) (by decide) rfl (by unfold vp_in; decide) dX11_prove_96 ?_
      refine G_aload_n (pc := 97) rfl dX11_prove_97 ?_
      refine G_getR (pc := 98) (r := 1) (ci := 11) (j := 6) rfl lk_RX11_9 rfl rfl rfl dX11_prove_98 ?_
      refine G_iload_n (pc := 101) rfl dX11_prove_101 ?_
      refine G_iconst (pc := 102) (v := 3) (by decide) dX11_prove_102 ?_
      refine G_imul (pc := 103) (z := 3) (by decide) dX11_prove_103 ?_
      refine G_iconst (pc := 104) (v := 2) (by decide) dX11_prove_104 ?_
      refine G_iadd (pc := 105) (z := 5) (by decide) dX11_prove_105 ?_
      refine G_aload_n (pc := 106) rfl dX11_prove_106 ?_
      refine G_getR (pc := 107) (r := 19) (ci := 11) (j := 0) rfl lk_RX11_56 rfl rfl rfl dX11_prove_107 ?_
      refine G_getI (pc := 110) (v := 0) (ci := 1) (j := 9) rfl rfl lk_RX11_165 rfl rfl dX11_prove_110 ?_
      refine G_iast (pc := 113) (jj := 5) (by decide) rfl (by unfold vp_in; decide) dX11_prove_113 ?_
      refine G_iinc (pc := 114) (v := 1) (w := 2) (L1 := [some (.ref 0), some (.int 3), some (.int 0), some (.int 2), some (.int 0)]) (by decide) rfl rfl (by decide) rfl (by decide) dX11_prove_114 ?_
      refine G_goto (pc := 117) (tgt := 50) (by decide) dX11_prove_117 ?_
      refine G_iload_n (pc := 50) rfl dX11_prove_50 ?_
      refine G_aload_n (pc := 51) rfl dX11_prove_51 ?_
      refine G_getI (pc := 52) (v := 3) (ci := 11) (j := 7) rfl rfl lk_RX11_307 rfl rfl dX11_prove_52 ?_
      refine G_icmp_ge (pc := 55) (tgt := 120) (by decide) dX11_prove_55 (fun z => absurd z (by decide)) (fun _ => ?_)
      refine G_iload_n (pc := 58) rfl dX11_prove_58 ?_
      refine G_iconst (pc := 59) (v := 3) (by decide) dX11_prove_59 ?_
      refine G_iload_n (pc := 60) rfl dX11_prove_60 ?_
      refine G_imul (pc := 61) (z := 6) (by decide) dX11_prove_61 ?_
      refine G_ishr (pc := 62) (z := 0) (by decide) dX11_prove_62 ?_
      refine G_bipush (pc := 63) (v := 7) (by decide) dX11_prove_63 ?_
      refine G_iand (pc := 65) (z := 0) (by decide) dX11_prove_65 ?_
      refine G_istore (pc := 66) (L1 := [some (.ref 0), some (.int 3), some (.int 0), some (.int 2), some (.int 0)]) rfl rfl (by decide) dX11_prove_66 ?_
      refine G_aload_n (pc := 68) rfl dX11_prove_68 ?_
      refine G_getR (pc := 69) (r := 1) (ci := 11) (j := 6) rfl lk_RX11_9 rfl rfl rfl dX11_prove_69 ?_
      refine G_iload_n (pc := 72) rfl dX11_prove_72 ?_
      refine G_iconst (pc := 73) (v := 3) (by decide) dX11_prove_73 ?_
      refine G_imul (pc := 74) (z := 6) (by decide) dX11_prove_74 ?_
      refine G_iload (pc := 75) rfl dX11_prove_75 ?_
      refine G_iast (pc := 77) (jj := 6) (by decide) rfl (by unfold vp_in; decide) dX11_prove_77 ?_
      refine G_aload_n (pc := 78) rfl dX11_prove_78 ?_
      refine G_getR (pc := 79) (r := 1) (ci := 11) (j := 6) rfl lk_RX11_9 rfl rfl rfl dX11_prove_79 ?_
      refine G_iload_n (pc := 82) rfl dX11_prove_82 ?_
      refine G_iconst (pc := 83) (v := 3) (by decide) dX11_prove_83 ?_
      refine G_imul (pc := 84) (z := 6) (by decide) dX11_prove_84 ?_
      refine G_iconst (pc := 85) (v := 1) (by decide) dX11_prove_85 ?_
      refine G_iadd (pc := 86) (z := 7) (by decide) dX11_prove_86 ?_
      refine G_aload_n (pc := 87) rfl dX11_prove_87 ?_
      refine G_getR (pc := 88) (r := 19) (ci := 11) (j := 0) rfl lk_RX11_56 rfl rfl rfl dX11_prove_88 ?_
      refine G_iload (pc := 91) rfl dX11_prove_91 ?_
      refine G_callV (pc := 93) (mc1 := 0) (ms1 := 0) (ci := 1) (mj := mX1_goBy) (vs := [_]) dX11_prove_93 rfl rfl cm_X1_goBy wf_77 wf_79 wf_80 rfl (Nat.le_of_ble_eq_true rfl) (Nat.le_of_ble_eq_true rfl) (Nat.le_of_ble_eq_true rfl) (Nat.le_of_ble_eq_true rfl) (s325_X1_goBy  (d + 3)  ) ?_
      rintro _ _ ⟨rfl, rfl⟩
      dsimp only [Option.toList, List.cons_append, List.nil_append]
      refine G_iast (pc := 96) (jj := 7) (by decide) rfl (by unfold vp_in; decide) dX11_prove_96 ?_
      refine G_aload_n (pc := 97) rfl dX11_prove_97 ?_
      refine G_getR (pc := 98) (r := 1) (ci := 11) (j := 6) rfl lk_RX11_9 rfl rfl rfl dX11_prove_98 ?_
      refine G_iload_n (pc := 101) rfl dX11_prove_101 ?_
      refine G_iconst (pc := 102) (v := 3) (by decide) dX11_prove_102 ?_
      refine G_imul (pc := 103) (z := 6) (by decide) dX11_prove_103 ?_
      refine G_iconst (pc := 104) (v := 2) (by decide) dX11_prove_104 ?_
      refine G_iadd (pc := 105) (z := 8) (by decide) dX11_prove_105 ?_
      refine G_aload_n (pc := 106) rfl dX11_prove_106 ?_
      refine G_getR (pc := 107) (r := 19) (ci := 11) (j := 0) rfl lk_RX11_56 rfl rfl rfl dX11_prove_107 ?_
      refine G_getI (pc := 110) (v := 0) (ci := 1) (j := 9) rfl rfl lk_RX11_165 rfl rfl dX11_prove_110 ?_
      refine G_iast (pc := 113) (jj := 8) (by decide) rfl (by unfold vp_in; decide) dX11_prove_113 ?_
      refine G_iinc (pc := 114) (v := 1) (w := 3) (L1 := [some (.ref 0), some (.int 3), some (.int 0), some (.int 3), some (.int 0)]) (by decide) rfl rfl (by decide) rfl (by decide) dX11_prove_114 ?_
      refine G_goto (pc := 117) (tgt := 50) (by decide) dX11_prove_117 ?_
      refine G_iload_n (pc := 50) rfl dX11_prove_50 ?_
      refine G_aload_n (pc := 51) rfl dX11_prove_51 ?_
      refine G_getI (pc := 52) (v := 3) (ci := 11) (j := 7) rfl rfl lk_RX11_307 rfl rfl dX11_prove_52 ?_
      refine G_icmp_ge (pc := 55) (tgt := 120) (by decide) dX11_prove_55 (fun _ => ?_) (fun z => absurd (by decide) z)
      refine G_aload_n (pc := 120) rfl dX11_prove_120 ?_
      refine G_getR (pc := 121) (r := 19) (ci := 11) (j := 0) rfl lk_RX11_56 rfl rfl rfl dX11_prove_121 ?_
      refine G_iconst (pc := 124) (v := 0) (by decide) dX11_prove_124 ?_
      refine G_callV (pc := 125) (mc1 := 0) (ms1 := 0) (ci := 1) (mj := mX1_restore) (vs := [_]) dX11_prove_125 rfl rfl cm_X1_restore wf_107 wf_109 wf_110 rfl (Nat.le_of_ble_eq_true rfl) (Nat.le_of_ble_eq_true rfl) (Nat.le_of_ble_eq_true rfl) (Nat.le_of_ble_eq_true rfl) (s329_X1_restore  (d + 4)  ) ?_
      rintro _ _ ⟨rfl, rfl⟩
      dsimp only [Option.toList, List.cons_append, List.nil_append]
      refine G_aload_n (pc := 128) rfl dX11_prove_128 ?_
      refine G_getI (pc := 129) (v := 3) (ci := 11) (j := 7) rfl rfl lk_RX11_307 rfl rfl dX11_prove_129 ?_
      exact G_iret (pc := 132) (Nat.le_of_ble_eq_true rfl) (Nat.le_of_ble_eq_true rfl) rfl dX11_prove_132 ⟨_, by first | rfl | (simp [F_prove, *]; done) | (simp only [F_prove, Int32.le_iff_toInt_le, Int32.lt_iff_toInt_lt, ← Int32.toInt_inj]; simp; omega) | (simp only [F_prove, Int32.le_iff_toInt_le, Int32.lt_iff_toInt_lt, ← Int32.toInt_inj]; split <;> first | rfl | (exfalso; simp at *; omega)) | (unfold F_prove; (repeat' split) <;> first | rfl | (exfalso; (try simp only [Int32.le_iff_toInt_le, Int32.lt_iff_toInt_lt, ← Int32.toInt_inj] at *); first | omega | (simp at *; done) | (simp at *; omega))), rfl, fun a ha => by funext j; simp (disch := omega) only [gup_off, gcp_off]⟩
    by_cases c511 : n = 4
    · subst c511
      refine G_callVN (host := "IceKeys") (pc := 15) (mc1 := 0) (ms1 := 0) (ci := 4) (mj := mX4_seek) (vs := [_, _]) dX11_prove_15 rfl rfl cm_X4_seek (by decide) wf_132 wf_133 rfl (Nat.le_of_ble_eq_true rfl) (Nat.le_of_ble_eq_true rfl) (Nat.le_of_ble_eq_true rfl) (Nat.le_of_ble_eq_true rfl) (s107_X4_seek  d  ) ?_
      rintro _ _ ⟨rfl, rfl⟩
      dsimp only [Option.toList, List.cons_append, List.nil_append]
      refine G_aload_n (pc := 18) rfl dX11_prove_18 ?_
      refine G_getR (pc := 19) (r := 51) (ci := 11) (j := 3) rfl lk_RX11_68 rfl rfl rfl dX11_prove_19 ?_
      refine G_getR (pc := 22) (r := 54) (ci := 4) (j := 3) rfl lk_RX11_251 rfl rfl rfl dX11_prove_22 ?_
      refine G_iconst (pc := 25) (v := 0) (by decide) dX11_prove_25 ?_
      refine G_iald (pc := 26) (jj := 0) (v := 0) (by decide) rfl rfl (by unfold vp_in; decide) dX11_prove_26 ?_
      refine G_istore_n (pc := 27) (L1 := [some (.ref 0), some (.int 4), some (.int 0), none, none]) rfl rfl (by decide) dX11_prove_27 ?_
      refine G_aload_n (pc := 28) rfl dX11_prove_28 ?_
      refine G_aload_n (pc := 29) rfl dX11_prove_29 ?_
      refine G_getR (pc := 30) (r := 19) (ci := 11) (j := 0) rfl lk_RX11_56 rfl rfl rfl dX11_prove_30 ?_
      refine G_iload_n (pc := 33) rfl dX11_prove_33 ?_
      refine G_callV (pc := 34) (mc1 := 0) (ms1 := 0) (ci := 1) (mj := mX1_haltsOf) (vs := [_]) dX11_prove_34 rfl rfl cm_X1_haltsOf wf_150 wf_152 wf_153 rfl (Nat.le_of_ble_eq_true rfl) (Nat.le_of_ble_eq_true rfl) (Nat.le_of_ble_eq_true rfl) (Nat.le_of_ble_eq_true rfl) (s330_X1_haltsOf  (d + 4)  ) ?_
      rintro _ _ ⟨rfl, rfl⟩
      dsimp only [Option.toList, List.cons_append, List.nil_append]
      refine G_putI (pc := 37) (ci := 11) (j := 7) rfl lk_RX11_307 rfl rfl rfl trivial dX11_prove_37 ?_
      refine G_aload_n (pc := 40) rfl dX11_prove_40 ?_
      refine G_getR (pc := 41) (r := 19) (ci := 11) (j := 0) rfl lk_RX11_56 rfl rfl rfl dX11_prove_41 ?_
      refine G_iconst (pc := 44) (v := 0) (by decide) dX11_prove_44 ?_
      refine G_callV (pc := 45) (mc1 := 0) (ms1 := 0) (ci := 1) (mj := mX1_save) (vs := [_]) dX11_prove_45 rfl rfl cm_X1_save wf_103 wf_105 wf_106 rfl (Nat.le_of_ble_eq_true rfl) (Nat.le_of_ble_eq_true rfl) (Nat.le_of_ble_eq_true rfl) (Nat.le_of_ble_eq_true rfl) (s331_X1_save  (d + 4)  ) ?_
      rintro _ _ ⟨rfl, rfl⟩
      dsimp only [Option.toList, List.cons_append, List.nil_append]
      refine G_iconst (pc := 48) (v := 0) (by decide) dX11_prove_48 ?_
      refine G_istore_n (pc := 49) (L1 := [some (.ref 0), some (.int 4), some (.int 0), some (.int 0), none]) rfl rfl (by decide) dX11_prove_49 ?_
      refine G_iload_n (pc := 50) rfl dX11_prove_50 ?_
      refine G_aload_n (pc := 51) rfl dX11_prove_51 ?_
      refine G_getI (pc := 52) (v := 4) (ci := 11) (j := 7) rfl rfl lk_RX11_307 rfl rfl dX11_prove_52 ?_
      refine G_icmp_ge (pc := 55) (tgt := 120) (by decide) dX11_prove_55 (fun z => absurd z (by decide)) (fun _ => ?_)
      refine G_iload_n (pc := 58) rfl dX11_prove_58 ?_
      refine G_iconst (pc := 59) (v := 3) (by decide) dX11_prove_59 ?_
      refine G_iload_n (pc := 60) rfl dX11_prove_60 ?_
      refine G_imul (pc := 61) (z := 0) (by decide) dX11_prove_61 ?_
      refine G_ishr (pc := 62) (z := 0) (by decide) dX11_prove_62 ?_
      refine G_bipush (pc := 63) (v := 7) (by decide) dX11_prove_63 ?_
      refine G_iand (pc := 65) (z := 0) (by decide) dX11_prove_65 ?_
      refine G_istore (pc := 66) (L1 := [some (.ref 0), some (.int 4), some (.int 0), some (.int 0), some (.int 0)]) rfl rfl (by decide) dX11_prove_66 ?_
      refine G_aload_n (pc := 68) rfl dX11_prove_68 ?_
      refine G_getR (pc := 69) (r := 1) (ci := 11) (j := 6) rfl lk_RX11_9 rfl rfl rfl dX11_prove_69 ?_
      refine G_iload_n (pc := 72) rfl dX11_prove_72 ?_
      refine G_iconst (pc := 73) (v := 3) (by decide) dX11_prove_73 ?_
      refine G_imul (pc := 74) (z := 0) (by decide) dX11_prove_74 ?_
      refine G_iload (pc := 75) rfl dX11_prove_75 ?_
      refine G_iast (pc := 77) (jj := 0) (by decide) rfl (by unfold vp_in; decide) dX11_prove_77 ?_
      refine G_aload_n (pc := 78) rfl dX11_prove_78 ?_
      refine G_getR (pc := 79) (r := 1) (ci := 11) (j := 6) rfl lk_RX11_9 rfl rfl rfl dX11_prove_79 ?_
      refine G_iload_n (pc := 82) rfl dX11_prove_82 ?_
      refine G_iconst (pc := 83) (v := 3) (by decide) dX11_prove_83 ?_
      refine G_imul (pc := 84) (z := 0) (by decide) dX11_prove_84 ?_
      refine G_iconst (pc := 85) (v := 1) (by decide) dX11_prove_85 ?_
      refine G_iadd (pc := 86) (z := 1) (by decide) dX11_prove_86 ?_
      refine G_aload_n (pc := 87) rfl dX11_prove_87 ?_
      refine G_getR (pc := 88) (r := 19) (ci := 11) (j := 0) rfl lk_RX11_56 rfl rfl rfl dX11_prove_88 ?_
      refine G_iload (pc := 91) rfl dX11_prove_91 ?_
      refine G_callV (pc := 93) (mc1 := 0) (ms1 := 0) (ci := 1) (mj := mX1_goBy) (vs := [_]) dX11_prove_93 rfl rfl cm_X1_goBy wf_77 wf_79 wf_80 rfl (Nat.le_of_ble_eq_true rfl) (Nat.le_of_ble_eq_true rfl) (Nat.le_of_ble_eq_true rfl) (Nat.le_of_ble_eq_true rfl) (s332_X1_goBy  (d + 3)  ) ?_
      rintro _ _ ⟨rfl, rfl⟩
      dsimp only [Option.toList, List.cons_append, List.nil_append]
      refine G_iast (pc := 96) (jj := 1) (by decide) rfl (by unfold vp_in; decide) dX11_prove_96 ?_
      refine G_aload_n (pc := 97) rfl dX11_prove_97 ?_
      refine G_getR (pc := 98) (r := 1) (ci := 11) (j := 6) rfl lk_RX11_9 rfl rfl rfl dX11_prove_98 ?_
      refine G_iload_n (pc := 101) rfl dX11_prove_101 ?_
      refine G_iconst (pc := 102) (v := 3) (by decide) dX11_prove_102 ?_
      refine G_imul (pc := 103) (z := 0) (by decide) dX11_prove_103 ?_
      refine G_iconst (pc := 104) (v := 2) (by decide) dX11_prove_104 ?_
      refine G_iadd (pc := 105) (z := 2) (by decide) dX11_prove_105 ?_
      refine G_aload_n (pc := 106) rfl dX11_prove_106 ?_
      refine G_getR (pc := 107) (r := 19) (ci := 11) (j := 0) rfl lk_RX11_56 rfl rfl rfl dX11_prove_107 ?_
      refine G_getI (pc := 110) (v := 0) (ci := 1) (j := 9) rfl rfl lk_RX11_165 rfl rfl dX11_prove_110 ?_
      refine G_iast (pc := 113) (jj := 2) (by decide) rfl (by unfold vp_in; decide) dX11_prove_113 ?_
      refine G_iinc (pc := 114) (v := 1) (w := 1) (L1 := [some (.ref 0), some (.int 4), some (.int 0), some (.int 1), some (.int 0)]) (by decide) rfl rfl (by decide) rfl (by decide) dX11_prove_114 ?_
      refine G_goto (pc := 117) (tgt := 50) (by decide) dX11_prove_117 ?_
      refine G_iload_n (pc := 50) rfl dX11_prove_50 ?_
      refine G_aload_n (pc := 51) rfl dX11_prove_51 ?_
      refine G_getI (pc := 52) (v := 4) (ci := 11) (j := 7) rfl rfl lk_RX11_307 rfl rfl dX11_prove_52 ?_
      refine G_icmp_ge (pc := 55) (tgt := 120) (by decide) dX11_prove_55 (fun z => absurd z (by decide)) (fun _ => ?_)
      refine G_iload_n (pc := 58) rfl dX11_prove_58 ?_
      refine G_iconst (pc := 59) (v := 3) (by decide) dX11_prove_59 ?_
      refine G_iload_n (pc := 60) rfl dX11_prove_60 ?_
      refine G_imul (pc := 61) (z := 3) (by decide) dX11_prove_61 ?_
      refine G_ishr (pc := 62) (z := 0) (by decide) dX11_prove_62 ?_
      refine G_bipush (pc := 63) (v := 7) (by decide) dX11_prove_63 ?_
      refine G_iand (pc := 65) (z := 0) (by decide) dX11_prove_65 ?_
      refine G_istore (pc := 66) (L1 := [some (.ref 0), some (.int 4), some (.int 0), some (.int 1), some (.int 0)]) rfl rfl (by decide) dX11_prove_66 ?_
      refine G_aload_n (pc := 68) rfl dX11_prove_68 ?_
      refine G_getR (pc := 69) (r := 1) (ci := 11) (j := 6) rfl lk_RX11_9 rfl rfl rfl dX11_prove_69 ?_
      refine G_iload_n (pc := 72) rfl dX11_prove_72 ?_
      refine G_iconst (pc := 73) (v := 3) (by decide) dX11_prove_73 ?_
      refine G_imul (pc := 74) (z := 3) (by decide) dX11_prove_74 ?_
      refine G_iload (pc := 75) rfl dX11_prove_75 ?_
      refine G_iast (pc := 77) (jj := 3) (by decide) rfl (by unfold vp_in; decide) dX11_prove_77 ?_
      refine G_aload_n (pc := 78) rfl dX11_prove_78 ?_
      refine G_getR (pc := 79) (r := 1) (ci := 11) (j := 6) rfl lk_RX11_9 rfl rfl rfl dX11_prove_79 ?_
      refine G_iload_n (pc := 82) rfl dX11_prove_82 ?_
      refine G_iconst (pc := 83) (v := 3) (by decide) dX11_prove_83 ?_
      refine G_imul (pc := 84) (z := 3) (by decide) dX11_prove_84 ?_
      refine G_iconst (pc := 85) (v := 1) (by decide) dX11_prove_85 ?_
      refine G_iadd (pc := 86) (z := 4) (by decide) dX11_prove_86 ?_
      refine G_aload_n (pc := 87) rfl dX11_prove_87 ?_
      refine G_getR (pc := 88) (r := 19) (ci := 11) (j := 0) rfl lk_RX11_56 rfl rfl rfl dX11_prove_88 ?_
      refine G_iload (pc := 91) rfl dX11_prove_91 ?_
      refine G_callV (pc := 93) (mc1 := 0) (ms1 := 0) (ci := 1) (mj := mX1_goBy) (vs := [_]) dX11_prove_93 rfl rfl cm_X1_goBy wf_77 wf_79 wf_80 rfl (Nat.le_of_ble_eq_true rfl) (Nat.le_of_ble_eq_true rfl) (Nat.le_of_ble_eq_true rfl) (Nat.le_of_ble_eq_true rfl) (s336_X1_goBy  (d + 3)  ) ?_
      rintro _ _ ⟨rfl, rfl⟩
      dsimp only [Option.toList, List.cons_append, List.nil_append]
      refine G_iast (pc := 96) (jj := 4) (by decide) rfl (by unfold vp_in; decide) dX11_prove_96 ?_
      refine G_aload_n (pc := 97) rfl dX11_prove_97 ?_
      refine G_getR (pc := 98) (r := 1) (ci := 11) (j := 6) rfl lk_RX11_9 rfl rfl rfl dX11_prove_98 ?_
      refine G_iload_n (pc := 101) rfl dX11_prove_101 ?_
      refine G_iconst (pc := 102) (v := 3) (by decide) dX11_prove_102 ?_
      refine G_imul (pc := 103) (z := 3) (by decide) dX11_prove_103 ?_
      refine G_iconst (pc := 104) (v := 2) (by decide) dX11_prove_104 ?_
      refine G_iadd (pc := 105) (z := 5) (by decide) dX11_prove_105 ?_
      refine G_aload_n (pc := 106) rfl dX11_prove_106 ?_
      refine G_getR (pc := 107) (r := 19) (ci := 11) (j := 0) rfl lk_RX11_56 rfl rfl rfl dX11_prove_107 ?_
      refine G_getI (pc := 110) (v := 0) (ci := 1) (j := 9) rfl rfl lk_RX11_165 rfl rfl dX11_prove_110 ?_
      refine G_iast (pc := 113) (jj := 5) (by decide) rfl (by unfold vp_in; decide) dX11_prove_113 ?_
      refine G_iinc (pc := 114) (v := 1) (w := 2) (L1 := [some (.ref 0), some (.int 4), some (.int 0), some (.int 2), some (.int 0)]) (by decide) rfl rfl (by decide) rfl (by decide) dX11_prove_114 ?_
      refine G_goto (pc := 117) (tgt := 50) (by decide) dX11_prove_117 ?_
      refine G_iload_n (pc := 50) rfl dX11_prove_50 ?_
      refine G_aload_n (pc := 51) rfl dX11_prove_51 ?_
      refine G_getI (pc := 52) (v := 4) (ci := 11) (j := 7) rfl rfl lk_RX11_307 rfl rfl dX11_prove_52 ?_
      refine G_icmp_ge (pc := 55) (tgt := 120) (by decide) dX11_prove_55 (fun z => absurd z (by decide)) (fun _ => ?_)
      refine G_iload_n (pc := 58) rfl dX11_prove_58 ?_
      refine G_iconst (pc := 59) (v := 3) (by decide) dX11_prove_59 ?_
      refine G_iload_n (pc := 60) rfl dX11_prove_60 ?_
      refine G_imul (pc := 61) (z := 6) (by decide) dX11_prove_61 ?_
      refine G_ishr (pc := 62) (z := 0) (by decide) dX11_prove_62 ?_
      refine G_bipush (pc := 63) (v := 7) (by decide) dX11_prove_63 ?_
      refine G_iand (pc := 65) (z := 0) (by decide) dX11_prove_65 ?_
      refine G_istore (pc := 66) (L1 := [some (.ref 0), some (.int 4), some (.int 0), some (.int 2), some (.int 0)]) rfl rfl (by decide) dX11_prove_66 ?_
      refine G_aload_n (pc := 68) rfl dX11_prove_68 ?_
      refine G_getR (pc := 69) (r := 1) (ci := 11) (j := 6) rfl lk_RX11_9 rfl rfl rfl dX11_prove_69 ?_
      refine G_iload_n (pc := 72) rfl dX11_prove_72 ?_
      refine G_iconst (pc := 73) (v := 3) (by decide) dX11_prove_73 ?_
      refine G_imul (pc := 74) (z := 6) (by decide) dX11_prove_74 ?_
      refine G_iload (pc := 75) rfl dX11_prove_75 ?_
      refine G_iast (pc := 77) (jj := 6) (by decide) rfl (by unfold vp_in; decide) dX11_prove_77 ?_
      refine G_aload_n (pc := 78) rfl dX11_prove_78 ?_
      refine G_getR (pc := 79) (r := 1) (ci := 11) (j := 6) rfl lk_RX11_9 rfl rfl rfl dX11_prove_79 ?_
      refine G_iload_n (pc := 82) rfl dX11_prove_82 ?_
      refine G_iconst (pc := 83) (v := 3) (by decide) dX11_prove_83 ?_
      refine G_imul (pc := 84) (z := 6) (by decide) dX11_prove_84 ?_
      refine G_iconst (pc := 85) (v := 1) (by decide) dX11_prove_85 ?_
      refine G_iadd (pc := 86) (z := 7) (by decide) dX11_prove_86 ?_
      refine G_aload_n (pc := 87) rfl dX11_prove_87 ?_
      refine G_getR (pc := 88) (r := 19) (ci := 11) (j := 0) rfl lk_RX11_56 rfl rfl rfl dX11_prove_88 ?_
      refine G_iload (pc := 91) rfl dX11_prove_91 ?_
      refine G_callV (pc := 93) (mc1 := 0) (ms1 := 0) (ci := 1) (mj := mX1_goBy) (vs := [_]) dX11_prove_93 rfl rfl cm_X1_goBy wf_77 wf_79 wf_80 rfl (Nat.le_of_ble_eq_true rfl) (Nat.le_of_ble_eq_true rfl) (Nat.le_of_ble_eq_true rfl) (Nat.le_of_ble_eq_true rfl) (s340_X1_goBy  (d + 3)  ) ?_
      rintro _ _ ⟨rfl, rfl⟩
      dsimp only [Option.toList, List.cons_append, List.nil_append]
      refine G_iast (pc := 96) (jj := 7) (by decide) rfl (by unfold vp_in; decide) dX11_prove_96 ?_
      refine G_aload_n (pc := 97) rfl dX11_prove_97 ?_
      refine G_getR (pc := 98) (r := 1) (ci := 11) (j := 6) rfl lk_RX11_9 rfl rfl rfl dX11_prove_98 ?_
      refine G_iload_n (pc := 101) rfl dX11_prove_101 ?_
      refine G_iconst (pc := 102) (v := 3) (by decide) dX11_prove_102 ?_
      refine G_imul (pc := 103) (z := 6) (by decide) dX11_prove_103 ?_
      refine G_iconst (pc := 104) (v := 2) (by decide) dX11_prove_104 ?_
      refine G_iadd (pc := 105) (z := 8) (by decide) dX11_prove_105 ?_
      refine G_aload_n (pc := 106) rfl dX11_prove_106 ?_
      refine G_getR (pc := 107) (r := 19) (ci := 11) (j := 0) rfl lk_RX11_56 rfl rfl rfl dX11_prove_107 ?_
      refine G_getI (pc := 110) (v := 0) (ci := 1) (j := 9) rfl rfl lk_RX11_165 rfl rfl dX11_prove_110 ?_
      refine G_iast (pc := 113) (jj := 8) (by decide) rfl (by unfold vp_in; decide) dX11_prove_113 ?_
      refine G_iinc (pc := 114) (v := 1) (w := 3) (L1 := [some (.ref 0), some (.int 4), some (.int 0), some (.int 3), some (.int 0)]) (by decide) rfl rfl (by decide) rfl (by decide) dX11_prove_114 ?_
      refine G_goto (pc := 117) (tgt := 50) (by decide) dX11_prove_117 ?_
      refine G_iload_n (pc := 50) rfl dX11_prove_50 ?_
      refine G_aload_n (pc := 51) rfl dX11_prove_51 ?_
      refine G_getI (pc := 52) (v := 4) (ci := 11) (j := 7) rfl rfl lk_RX11_307 rfl rfl dX11_prove_52 ?_
      refine G_icmp_ge (pc := 55) (tgt := 120) (by decide) dX11_prove_55 (fun z => absurd z (by decide)) (fun _ => ?_)
      refine G_iload_n (pc := 58) rfl dX11_prove_58 ?_
      refine G_iconst (pc := 59) (v := 3) (by decide) dX11_prove_59 ?_
      refine G_iload_n (pc := 60) rfl dX11_prove_60 ?_
      refine G_imul (pc := 61) (z := 9) (by decide) dX11_prove_61 ?_
      refine G_ishr (pc := 62) (z := 0) (by decide) dX11_prove_62 ?_
      refine G_bipush (pc := 63) (v := 7) (by decide) dX11_prove_63 ?_
      refine G_iand (pc := 65) (z := 0) (by decide) dX11_prove_65 ?_
      refine G_istore (pc := 66) (L1 := [some (.ref 0), some (.int 4), some (.int 0), some (.int 3), some (.int 0)]) rfl rfl (by decide) dX11_prove_66 ?_
      refine G_aload_n (pc := 68) rfl dX11_prove_68 ?_
      refine G_getR (pc := 69) (r := 1) (ci := 11) (j := 6) rfl lk_RX11_9 rfl rfl rfl dX11_prove_69 ?_
      refine G_iload_n (pc := 72) rfl dX11_prove_72 ?_
      refine G_iconst (pc := 73) (v := 3) (by decide) dX11_prove_73 ?_
      refine G_imul (pc := 74) (z := 9) (by decide) dX11_prove_74 ?_
      refine G_iload (pc := 75) rfl dX11_prove_75 ?_
      refine G_iast (pc := 77) (jj := 9) (by decide) rfl (by unfold vp_in; decide) dX11_prove_77 ?_
      refine G_aload_n (pc := 78) rfl dX11_prove_78 ?_
      refine G_getR (pc := 79) (r := 1) (ci := 11) (j := 6) rfl lk_RX11_9 rfl rfl rfl dX11_prove_79 ?_
      refine G_iload_n (pc := 82) rfl dX11_prove_82 ?_
      refine G_iconst (pc := 83) (v := 3) (by decide) dX11_prove_83 ?_
      refine G_imul (pc := 84) (z := 9) (by decide) dX11_prove_84 ?_
      refine G_iconst (pc := 85) (v := 1) (by decide) dX11_prove_85 ?_
      refine G_iadd (pc := 86) (z := 10) (by decide) dX11_prove_86 ?_
      refine G_aload_n (pc := 87) rfl dX11_prove_87 ?_
      refine G_getR (pc := 88) (r := 19) (ci := 11) (j := 0) rfl lk_RX11_56 rfl rfl rfl dX11_prove_88 ?_
      refine G_iload (pc := 91) rfl dX11_prove_91 ?_
      refine G_callV (pc := 93) (mc1 := 0) (ms1 := 0) (ci := 1) (mj := mX1_goBy) (vs := [_]) dX11_prove_93 rfl rfl cm_X1_goBy wf_77 wf_79 wf_80 rfl (Nat.le_of_ble_eq_true rfl) (Nat.le_of_ble_eq_true rfl) (Nat.le_of_ble_eq_true rfl) (Nat.le_of_ble_eq_true rfl) (s344_X1_goBy  (d + 3)  ) ?_
      rintro _ _ ⟨rfl, rfl⟩
      dsimp only [Option.toList, List.cons_append, List.nil_append]
      refine G_iast (pc := 96) (jj := 10) (by decide) rfl (by unfold vp_in; decide) dX11_prove_96 ?_
      refine G_aload_n (pc := 97) rfl dX11_prove_97 ?_
      refine G_getR (pc := 98) (r := 1) (ci := 11) (j := 6) rfl lk_RX11_9 rfl rfl rfl dX11_prove_98 ?_
      refine G_iload_n (pc := 101) rfl dX11_prove_101 ?_
      refine G_iconst (pc := 102) (v := 3) (by decide) dX11_prove_102 ?_
      refine G_imul (pc := 103) (z := 9) (by decide) dX11_prove_103 ?_
      refine G_iconst (pc := 104) (v := 2) (by decide) dX11_prove_104 ?_
      refine G_iadd (pc := 105) (z := 11) (by decide) dX11_prove_105 ?_
      refine G_aload_n (pc := 106) rfl dX11_prove_106 ?_
      refine G_getR (pc := 107) (r := 19) (ci := 11) (j := 0) rfl lk_RX11_56 rfl rfl rfl dX11_prove_107 ?_
      refine G_getI (pc := 110) (v := 0) (ci := 1) (j := 9) rfl rfl lk_RX11_165 rfl rfl dX11_prove_110 ?_
      refine G_iast (pc := 113) (jj := 11) (by decide) rfl (by unfold vp_in; decide) dX11_prove_113 ?_
      refine G_iinc (pc := 114) (v := 1) (w := 4) (L1 := [some (.ref 0), some (.int 4), some (.int 0), some (.int 4), some (.int 0)]) (by decide) rfl rfl (by decide) rfl (by decide) dX11_prove_114 ?_
      refine G_goto (pc := 117) (tgt := 50) (by decide) dX11_prove_117 ?_
      refine G_iload_n (pc := 50) rfl dX11_prove_50 ?_
      refine G_aload_n (pc := 51) rfl dX11_prove_51 ?_
      refine G_getI (pc := 52) (v := 4) (ci := 11) (j := 7) rfl rfl lk_RX11_307 rfl rfl dX11_prove_52 ?_
      refine G_icmp_ge (pc := 55) (tgt := 120) (by decide) dX11_prove_55 (fun _ => ?_) (fun z => absurd (by decide) z)
      refine G_aload_n (pc := 120) rfl dX11_prove_120 ?_
      refine G_getR (pc := 121) (r := 19) (ci := 11) (j := 0) rfl lk_RX11_56 rfl rfl rfl dX11_prove_121 ?_
      refine G_iconst (pc := 124) (v := 0) (by decide) dX11_prove_124 ?_
      refine G_callV (pc := 125) (mc1 := 0) (ms1 := 0) (ci := 1) (mj := mX1_restore) (vs := [_]) dX11_prove_125 rfl rfl cm_X1_restore wf_107 wf_109 wf_110 rfl (Nat.le_of_ble_eq_true rfl) (Nat.le_of_ble_eq_true rfl) (Nat.le_of_ble_eq_true rfl) (Nat.le_of_ble_eq_true rfl) (s348_X1_restore  (d + 4)  ) ?_
      rintro _ _ ⟨rfl, rfl⟩
      dsimp only [Option.toList, List.cons_append, List.nil_append]
      refine G_aload_n (pc := 128) rfl dX11_prove_128 ?_
      refine G_getI (pc := 129) (v := 4) (ci := 11) (j := 7) rfl rfl lk_RX11_307 rfl rfl dX11_prove_129 ?_
      exact G_iret (pc := 132) (Nat.le_of_ble_eq_true rfl) (Nat.le_of_ble_eq_true rfl) rfl dX11_prove_132 ⟨_, by first | rfl | (simp [F_prove, *]; done) | (simp only [F_prove, Int32.le_iff_toInt_le, Int32.lt_iff_toInt_lt, ← Int32.toInt_inj]; simp; omega) | (simp only [F_prove, Int32.le_iff_toInt_le, Int32.lt_iff_toInt_lt, ← Int32.toInt_inj]; split <;> first | rfl | (exfalso; simp at *; omega)) | (unfold F_prove; (repeat' split) <;> first | rfl | (exfalso; (try simp only [Int32.le_iff_toInt_le, Int32.lt_iff_toInt_lt, ← Int32.toInt_inj] at *); first | omega | (simp at *; done) | (simp at *; omega))), rfl, fun a ha => by funext j; simp (disch := omega) only [gup_off, gcp_off]⟩
    exfalso
    have : 0 ≤ (n).toInt := Int32.le_iff_toInt_le.mp (c505.1)
    have : (n).toInt ≤ 4 := Int32.le_iff_toInt_le.mp (c505.2)
    have : (n).toInt ≠ 0 := g_ne (c507)
    have : (n).toInt ≠ 1 := g_ne (c508)
    have : (n).toInt ≠ 2 := g_ne (c509)
    have : (n).toInt ≠ 3 := g_ne (c510)
    have : (n).toInt ≠ 4 := g_ne (c511)
    omega
  · have c505 := gB_z c505
    refine G_iconst (pc := 7) (v := (-1)) (by decide) dX11_prove_7 ?_
    exact G_iret (pc := 8) (Nat.le_of_ble_eq_true rfl) (Nat.le_of_ble_eq_true rfl) rfl dX11_prove_8 ⟨_, by first | rfl | (simp [F_prove, *]; done) | (have : ¬ (0 ≤ (n).toInt ∧ (n).toInt ≤ 4) := fun z => c505 ⟨Int32.le_iff_toInt_le.mpr z.1, Int32.le_iff_toInt_le.mpr z.2⟩; simp only [F_prove, Int32.le_iff_toInt_le, Int32.lt_iff_toInt_lt, ← Int32.toInt_inj]; simp; omega) | (have : ¬ (0 ≤ (n).toInt ∧ (n).toInt ≤ 4) := fun z => c505 ⟨Int32.le_iff_toInt_le.mpr z.1, Int32.le_iff_toInt_le.mpr z.2⟩; simp only [F_prove, Int32.le_iff_toInt_le, Int32.lt_iff_toInt_lt, ← Int32.toInt_inj]; split <;> first | rfl | (exfalso; simp at *; omega)) | (have : ¬ (0 ≤ (n).toInt ∧ (n).toInt ≤ 4) := fun z => c505 ⟨Int32.le_iff_toInt_le.mpr z.1, Int32.le_iff_toInt_le.mpr z.2⟩; unfold F_prove; (repeat' split) <;> first | rfl | (exfalso; (try simp only [Int32.le_iff_toInt_le, Int32.lt_iff_toInt_lt, ← Int32.toInt_inj] at *); first | omega | (simp at *; done) | (simp at *; omega))), rfl, fun _ _ => rfl⟩
set_option maxRecDepth 100000 in
set_option maxHeartbeats 4000000 in
theorem s350_X1_isOver  (d : Nat)   : G (d) mX1_isOver 0 0 0 0 0 (gent 1 [.ref 19]) [] SH0 RF0 (gup (gup (gcp I0 24 34 (0 : Int32).toNatClampNeg (0 : Int32).toNatClampNeg (6 : Int32).toNatClampNeg) 34 6 0) 34 7 0) (fun r h => r = some (.int 0) ∧ h = (SH0, RF0, (gup (gup (gcp I0 24 34 (0 : Int32).toNatClampNeg (0 : Int32).toNatClampNeg (6 : Int32).toNatClampNeg) 34 6 0) 34 7 0))) := by
  refine G_aload_n (pc := 0) rfl dX1_isOver_0 ?_
  refine G_getI (pc := 1) (v := 0) (ci := 1) (j := 1) rfl rfl lk_RX1_60 rfl rfl dX1_isOver_1 ?_
  refine G_aload_n (pc := 4) rfl dX1_isOver_4 ?_
  refine G_getI (pc := 5) (v := 12) (ci := 1) (j := 2) rfl rfl lk_RX1_9 rfl rfl dX1_isOver_5 ?_
  refine G_icmp_lt (pc := 8) (tgt := 15) (by decide) dX1_isOver_8 (fun _ => ?_) (fun z => absurd (by decide) z)
  refine G_iconst (pc := 15) (v := 0) (by decide) dX1_isOver_15 ?_
  exact G_zret (pc := 16) (Nat.le_of_ble_eq_true rfl) (Nat.le_of_ble_eq_true rfl) rfl (by decide) dX1_isOver_16 ⟨rfl, rfl⟩
set_option maxRecDepth 100000 in
set_option maxHeartbeats 4000000 in
theorem s351_X1_restAct  (d : Nat)   : G (d) mX1_restAct 0 0 0 0 0 (gent 2 [.ref 19]) [] SH0 RF0 (gup (gup (gcp I0 24 34 (0 : Int32).toNatClampNeg (0 : Int32).toNatClampNeg (6 : Int32).toNatClampNeg) 34 6 0) 34 7 0) (fun r h => r = some (.int 0) ∧ h = (SH0, RF0, (gup (gup (gcp I0 24 34 (0 : Int32).toNatClampNeg (0 : Int32).toNatClampNeg (6 : Int32).toNatClampNeg) 34 6 0) 34 7 0))) := by
  refine G_iconst (pc := 0) (v := 0) (by decide) dX1_restAct_0 ?_
  refine G_istore_n (pc := 1) (L1 := [some (.ref 19), some (.int 0)]) rfl rfl (by decide) dX1_restAct_1 ?_
  refine G_iload_n (pc := 2) rfl dX1_restAct_2 ?_
  refine G_aload_n (pc := 3) rfl dX1_restAct_3 ?_
  refine G_getI (pc := 4) (v := 0) (ci := 1) (j := 8) rfl rfl lk_RX1_72 rfl rfl dX1_restAct_4 ?_
  refine G_icmp_ge (pc := 7) (tgt := 36) (by decide) dX1_restAct_7 (fun _ => ?_) (fun z => absurd (by decide) z)
  refine G_iconst (pc := 36) (v := 0) (by decide) dX1_restAct_36 ?_
  exact G_iret (pc := 37) (Nat.le_of_ble_eq_true rfl) (Nat.le_of_ble_eq_true rfl) rfl dX1_restAct_37 ⟨rfl, rfl⟩
set_option maxRecDepth 100000 in
set_option maxHeartbeats 4000000 in
theorem s352_X1_restAct  (d : Nat)   : G (d) mX1_restAct 0 0 0 0 0 (gent 2 [.ref 19]) [] SH0 RF0 (gup (gup (gup (gcp I0 24 34 (0 : Int32).toNatClampNeg (0 : Int32).toNatClampNeg (6 : Int32).toNatClampNeg) 34 6 0) 34 7 0) 19 1 1) (fun r h => r = some (.int 0) ∧ h = (SH0, RF0, (gup (gup (gup (gcp I0 24 34 (0 : Int32).toNatClampNeg (0 : Int32).toNatClampNeg (6 : Int32).toNatClampNeg) 34 6 0) 34 7 0) 19 1 1))) := by
  refine G_iconst (pc := 0) (v := 0) (by decide) dX1_restAct_0 ?_
  refine G_istore_n (pc := 1) (L1 := [some (.ref 19), some (.int 0)]) rfl rfl (by decide) dX1_restAct_1 ?_
  refine G_iload_n (pc := 2) rfl dX1_restAct_2 ?_
  refine G_aload_n (pc := 3) rfl dX1_restAct_3 ?_
  refine G_getI (pc := 4) (v := 0) (ci := 1) (j := 8) rfl rfl lk_RX1_72 rfl rfl dX1_restAct_4 ?_
  refine G_icmp_ge (pc := 7) (tgt := 36) (by decide) dX1_restAct_7 (fun _ => ?_) (fun z => absurd (by decide) z)
  refine G_iconst (pc := 36) (v := 0) (by decide) dX1_restAct_36 ?_
  exact G_iret (pc := 37) (Nat.le_of_ble_eq_true rfl) (Nat.le_of_ble_eq_true rfl) rfl dX1_restAct_37 ⟨rfl, rfl⟩
set_option maxRecDepth 100000 in
set_option maxHeartbeats 4000000 in
theorem s354_X1_isKey  (d : Nat)   : G (d) mX1_isKey 0 0 0 0 0 (gent 2 [.ref 19, .int (-1)]) [] SH0 RF0 (gup (gup (gup (gcp I0 24 34 (0 : Int32).toNatClampNeg (0 : Int32).toNatClampNeg (6 : Int32).toNatClampNeg) 34 6 0) 34 7 0) 19 1 1) (fun r h => r = some (.int 0) ∧ h = (SH0, RF0, (gup (gup (gup (gcp I0 24 34 (0 : Int32).toNatClampNeg (0 : Int32).toNatClampNeg (6 : Int32).toNatClampNeg) 34 6 0) 34 7 0) 19 1 1))) := by
  refine G_iload_n (pc := 0) rfl dX1_isKey_0 ?_
  refine G_if_lt (pc := 1) (tgt := 16) (by decide) dX1_isKey_1 (fun _ => ?_) (fun z => absurd (by decide) z)
  refine G_iconst (pc := 16) (v := 0) (by decide) dX1_isKey_16 ?_
  exact G_zret (pc := 17) (Nat.le_of_ble_eq_true rfl) (Nat.le_of_ble_eq_true rfl) rfl (by decide) dX1_isKey_17 ⟨rfl, rfl⟩
set_option maxRecDepth 100000 in
set_option maxHeartbeats 4000000 in
theorem s353_X1_tell  (d : Nat)   : G (d + 1) mX1_tell 0 0 0 0 0 (gent 5 [.ref 19, .int 0]) [] SH0 RF0 (gup (gup (gup (gcp I0 24 34 (0 : Int32).toNatClampNeg (0 : Int32).toNatClampNeg (6 : Int32).toNatClampNeg) 34 6 0) 34 7 0) 19 1 1) (fun r h => r = some (.int 0) ∧ h = (SH0, RF0, (gup (gup (gup (gcp I0 24 34 (0 : Int32).toNatClampNeg (0 : Int32).toNatClampNeg (6 : Int32).toNatClampNeg) 34 6 0) 34 7 0) 19 1 1))) := by
  refine G_iload_n (pc := 0) rfl dX1_tell_0 ?_
  refine G_iconst (pc := 1) (v := 1) (by decide) dX1_tell_1 ?_
  refine G_isub (pc := 2) (z := (-1)) (by decide) dX1_tell_2 ?_
  refine G_istore_n (pc := 3) (L1 := [some (.ref 19), some (.int 0), some (.int (-1)), none, none]) rfl rfl (by decide) dX1_tell_3 ?_
  refine G_aload_n (pc := 4) rfl dX1_tell_4 ?_
  refine G_iload_n (pc := 5) rfl dX1_tell_5 ?_
  refine G_callV (pc := 6) (mc1 := 0) (ms1 := 0) (ci := 1) (mj := mX1_isKey) (vs := [_]) dX1_tell_6 rfl rfl cm_X1_isKey wf_68 wf_13 wf_14 rfl (Nat.le_of_ble_eq_true rfl) (Nat.le_of_ble_eq_true rfl) (Nat.le_of_ble_eq_true rfl) (Nat.le_of_ble_eq_true rfl) (s354_X1_isKey  d  ) ?_
  rintro _ _ ⟨rfl, rfl⟩
  dsimp only [Option.toList, List.cons_append, List.nil_append]
  refine G_if_eq (pc := 9) (tgt := 20) (by decide) dX1_tell_9 (fun _ => ?_) (fun z => absurd (by decide) z)
  refine G_iconst (pc := 20) (v := 0) (by decide) dX1_tell_20 ?_
  exact G_iret (pc := 21) (Nat.le_of_ble_eq_true rfl) (Nat.le_of_ble_eq_true rfl) rfl dX1_tell_21 ⟨rfl, rfl⟩
set_option maxRecDepth 100000 in
set_option maxHeartbeats 4000000 in
theorem s355_X1_melt  (d : Nat)   : G (d) mX1_melt 0 0 0 0 0 (gent 3 [.ref 19]) [] SH0 RF0 (gup (gup (gup (gcp I0 24 34 (0 : Int32).toNatClampNeg (0 : Int32).toNatClampNeg (6 : Int32).toNatClampNeg) 34 6 0) 34 7 0) 19 1 1) (fun r h => r = some (.int 0) ∧ h = (SH0, RF0, (gup (gup (gup (gup (gcp I0 24 34 (0 : Int32).toNatClampNeg (0 : Int32).toNatClampNeg (6 : Int32).toNatClampNeg) 34 6 0) 34 7 0) 19 1 1) 19 1 2))) := by
  refine G_iconst (pc := 0) (v := 0) (by decide) dX1_melt_0 ?_
  refine G_istore_n (pc := 1) (L1 := [some (.ref 19), some (.int 0), none]) rfl rfl (by decide) dX1_melt_1 ?_
  refine G_iconst (pc := 2) (v := 0) (by decide) dX1_melt_2 ?_
  refine G_istore_n (pc := 3) (L1 := [some (.ref 19), some (.int 0), some (.int 0)]) rfl rfl (by decide) dX1_melt_3 ?_
  refine G_iload_n (pc := 4) rfl dX1_melt_4 ?_
  refine G_aload_n (pc := 5) rfl dX1_melt_5 ?_
  refine G_getI (pc := 6) (v := 0) (ci := 1) (j := 8) rfl rfl lk_RX1_72 rfl rfl dX1_melt_6 ?_
  refine G_icmp_ge (pc := 9) (tgt := 60) (by decide) dX1_melt_9 (fun _ => ?_) (fun z => absurd (by decide) z)
  refine G_aload_n (pc := 60) rfl dX1_melt_60 ?_
  refine G_dup (pc := 61) rfl dX1_melt_61 ?_
  refine G_getI (pc := 62) (v := 1) (ci := 1) (j := 1) rfl rfl lk_RX1_60 rfl rfl dX1_melt_62 ?_
  refine G_iconst (pc := 65) (v := 1) (by decide) dX1_melt_65 ?_
  refine G_iadd (pc := 66) (z := 2) (by decide) dX1_melt_66 ?_
  refine G_putI (pc := 67) (ci := 1) (j := 1) rfl lk_RX1_60 rfl rfl rfl trivial dX1_melt_67 ?_
  refine G_iload_n (pc := 70) rfl dX1_melt_70 ?_
  exact G_iret (pc := 71) (Nat.le_of_ble_eq_true rfl) (Nat.le_of_ble_eq_true rfl) rfl dX1_melt_71 ⟨rfl, rfl⟩
set_option maxRecDepth 100000 in
set_option maxHeartbeats 4000000 in
theorem s356_X1_isOver  (d : Nat)   : G (d) mX1_isOver 0 0 0 0 0 (gent 1 [.ref 19]) [] SH0 RF0 (gup (gup (gup (gup (gcp I0 24 34 (0 : Int32).toNatClampNeg (0 : Int32).toNatClampNeg (6 : Int32).toNatClampNeg) 34 6 0) 34 7 0) 19 1 1) 19 1 2) (fun r h => r = some (.int 0) ∧ h = (SH0, RF0, (gup (gup (gup (gup (gcp I0 24 34 (0 : Int32).toNatClampNeg (0 : Int32).toNatClampNeg (6 : Int32).toNatClampNeg) 34 6 0) 34 7 0) 19 1 1) 19 1 2))) := by
  refine G_aload_n (pc := 0) rfl dX1_isOver_0 ?_
  refine G_getI (pc := 1) (v := 2) (ci := 1) (j := 1) rfl rfl lk_RX1_60 rfl rfl dX1_isOver_1 ?_
  refine G_aload_n (pc := 4) rfl dX1_isOver_4 ?_
  refine G_getI (pc := 5) (v := 12) (ci := 1) (j := 2) rfl rfl lk_RX1_9 rfl rfl dX1_isOver_5 ?_
  refine G_icmp_lt (pc := 8) (tgt := 15) (by decide) dX1_isOver_8 (fun _ => ?_) (fun z => absurd (by decide) z)
  refine G_iconst (pc := 15) (v := 0) (by decide) dX1_isOver_15 ?_
  exact G_zret (pc := 16) (Nat.le_of_ble_eq_true rfl) (Nat.le_of_ble_eq_true rfl) rfl (by decide) dX1_isOver_16 ⟨rfl, rfl⟩
set_option maxRecDepth 100000 in
set_option maxHeartbeats 4000000 in
theorem s357_X1_restAct  (d : Nat)   : G (d) mX1_restAct 0 0 0 0 0 (gent 2 [.ref 19]) [] SH0 RF0 (gup (gup (gup (gup (gcp I0 24 34 (0 : Int32).toNatClampNeg (0 : Int32).toNatClampNeg (6 : Int32).toNatClampNeg) 34 6 0) 34 7 0) 19 1 1) 19 1 2) (fun r h => r = some (.int 0) ∧ h = (SH0, RF0, (gup (gup (gup (gup (gcp I0 24 34 (0 : Int32).toNatClampNeg (0 : Int32).toNatClampNeg (6 : Int32).toNatClampNeg) 34 6 0) 34 7 0) 19 1 1) 19 1 2))) := by
  refine G_iconst (pc := 0) (v := 0) (by decide) dX1_restAct_0 ?_
  refine G_istore_n (pc := 1) (L1 := [some (.ref 19), some (.int 0)]) rfl rfl (by decide) dX1_restAct_1 ?_
  refine G_iload_n (pc := 2) rfl dX1_restAct_2 ?_
  refine G_aload_n (pc := 3) rfl dX1_restAct_3 ?_
  refine G_getI (pc := 4) (v := 0) (ci := 1) (j := 8) rfl rfl lk_RX1_72 rfl rfl dX1_restAct_4 ?_
  refine G_icmp_ge (pc := 7) (tgt := 36) (by decide) dX1_restAct_7 (fun _ => ?_) (fun z => absurd (by decide) z)
  refine G_iconst (pc := 36) (v := 0) (by decide) dX1_restAct_36 ?_
  exact G_iret (pc := 37) (Nat.le_of_ble_eq_true rfl) (Nat.le_of_ble_eq_true rfl) rfl dX1_restAct_37 ⟨rfl, rfl⟩
set_option maxRecDepth 100000 in
set_option maxHeartbeats 4000000 in
theorem s359_X1_isKey  (d : Nat)   : G (d) mX1_isKey 0 0 0 0 0 (gent 2 [.ref 19, .int (-1)]) [] SH0 RF0 (gup (gup (gup (gup (gcp I0 24 34 (0 : Int32).toNatClampNeg (0 : Int32).toNatClampNeg (6 : Int32).toNatClampNeg) 34 6 0) 34 7 0) 19 1 1) 19 1 2) (fun r h => r = some (.int 0) ∧ h = (SH0, RF0, (gup (gup (gup (gup (gcp I0 24 34 (0 : Int32).toNatClampNeg (0 : Int32).toNatClampNeg (6 : Int32).toNatClampNeg) 34 6 0) 34 7 0) 19 1 1) 19 1 2))) := by
  refine G_iload_n (pc := 0) rfl dX1_isKey_0 ?_
  refine G_if_lt (pc := 1) (tgt := 16) (by decide) dX1_isKey_1 (fun _ => ?_) (fun z => absurd (by decide) z)
  refine G_iconst (pc := 16) (v := 0) (by decide) dX1_isKey_16 ?_
  exact G_zret (pc := 17) (Nat.le_of_ble_eq_true rfl) (Nat.le_of_ble_eq_true rfl) rfl (by decide) dX1_isKey_17 ⟨rfl, rfl⟩
set_option maxRecDepth 100000 in
set_option maxHeartbeats 4000000 in
theorem s358_X1_tell  (d : Nat)   : G (d + 1) mX1_tell 0 0 0 0 0 (gent 5 [.ref 19, .int 0]) [] SH0 RF0 (gup (gup (gup (gup (gcp I0 24 34 (0 : Int32).toNatClampNeg (0 : Int32).toNatClampNeg (6 : Int32).toNatClampNeg) 34 6 0) 34 7 0) 19 1 1) 19 1 2) (fun r h => r = some (.int 0) ∧ h = (SH0, RF0, (gup (gup (gup (gup (gcp I0 24 34 (0 : Int32).toNatClampNeg (0 : Int32).toNatClampNeg (6 : Int32).toNatClampNeg) 34 6 0) 34 7 0) 19 1 1) 19 1 2))) := by
  refine G_iload_n (pc := 0) rfl dX1_tell_0 ?_
  refine G_iconst (pc := 1) (v := 1) (by decide) dX1_tell_1 ?_
  refine G_isub (pc := 2) (z := (-1)) (by decide) dX1_tell_2 ?_
  refine G_istore_n (pc := 3) (L1 := [some (.ref 19), some (.int 0), some (.int (-1)), none, none]) rfl rfl (by decide) dX1_tell_3 ?_
  refine G_aload_n (pc := 4) rfl dX1_tell_4 ?_
  refine G_iload_n (pc := 5) rfl dX1_tell_5 ?_
  refine G_callV (pc := 6) (mc1 := 0) (ms1 := 0) (ci := 1) (mj := mX1_isKey) (vs := [_]) dX1_tell_6 rfl rfl cm_X1_isKey wf_68 wf_13 wf_14 rfl (Nat.le_of_ble_eq_true rfl) (Nat.le_of_ble_eq_true rfl) (Nat.le_of_ble_eq_true rfl) (Nat.le_of_ble_eq_true rfl) (s359_X1_isKey  d  ) ?_
  rintro _ _ ⟨rfl, rfl⟩
  dsimp only [Option.toList, List.cons_append, List.nil_append]
  refine G_if_eq (pc := 9) (tgt := 20) (by decide) dX1_tell_9 (fun _ => ?_) (fun z => absurd (by decide) z)
  refine G_iconst (pc := 20) (v := 0) (by decide) dX1_tell_20 ?_
  exact G_iret (pc := 21) (Nat.le_of_ble_eq_true rfl) (Nat.le_of_ble_eq_true rfl) rfl dX1_tell_21 ⟨rfl, rfl⟩
set_option maxRecDepth 100000 in
set_option maxHeartbeats 4000000 in
theorem s360_X1_melt  (d : Nat)   : G (d) mX1_melt 0 0 0 0 0 (gent 3 [.ref 19]) [] SH0 RF0 (gup (gup (gup (gup (gcp I0 24 34 (0 : Int32).toNatClampNeg (0 : Int32).toNatClampNeg (6 : Int32).toNatClampNeg) 34 6 0) 34 7 0) 19 1 1) 19 1 2) (fun r h => r = some (.int 0) ∧ h = (SH0, RF0, (gup (gup (gup (gup (gup (gcp I0 24 34 (0 : Int32).toNatClampNeg (0 : Int32).toNatClampNeg (6 : Int32).toNatClampNeg) 34 6 0) 34 7 0) 19 1 1) 19 1 2) 19 1 3))) := by
  refine G_iconst (pc := 0) (v := 0) (by decide) dX1_melt_0 ?_
  refine G_istore_n (pc := 1) (L1 := [some (.ref 19), some (.int 0), none]) rfl rfl (by decide) dX1_melt_1 ?_
  refine G_iconst (pc := 2) (v := 0) (by decide) dX1_melt_2 ?_
  refine G_istore_n (pc := 3) (L1 := [some (.ref 19), some (.int 0), some (.int 0)]) rfl rfl (by decide) dX1_melt_3 ?_
  refine G_iload_n (pc := 4) rfl dX1_melt_4 ?_
  refine G_aload_n (pc := 5) rfl dX1_melt_5 ?_
  refine G_getI (pc := 6) (v := 0) (ci := 1) (j := 8) rfl rfl lk_RX1_72 rfl rfl dX1_melt_6 ?_
  refine G_icmp_ge (pc := 9) (tgt := 60) (by decide) dX1_melt_9 (fun _ => ?_) (fun z => absurd (by decide) z)
  refine G_aload_n (pc := 60) rfl dX1_melt_60 ?_
  refine G_dup (pc := 61) rfl dX1_melt_61 ?_
  refine G_getI (pc := 62) (v := 2) (ci := 1) (j := 1) rfl rfl lk_RX1_60 rfl rfl dX1_melt_62 ?_
  refine G_iconst (pc := 65) (v := 1) (by decide) dX1_melt_65 ?_
  refine G_iadd (pc := 66) (z := 3) (by decide) dX1_melt_66 ?_
  refine G_putI (pc := 67) (ci := 1) (j := 1) rfl lk_RX1_60 rfl rfl rfl trivial dX1_melt_67 ?_
  refine G_iload_n (pc := 70) rfl dX1_melt_70 ?_
  exact G_iret (pc := 71) (Nat.le_of_ble_eq_true rfl) (Nat.le_of_ble_eq_true rfl) rfl dX1_melt_71 ⟨rfl, rfl⟩
set_option maxRecDepth 100000 in
set_option maxHeartbeats 4000000 in
theorem s361_X1_isOver  (d : Nat)   : G (d) mX1_isOver 0 0 0 0 0 (gent 1 [.ref 19]) [] SH0 RF0 (gup (gup (gup (gup (gup (gcp I0 24 34 (0 : Int32).toNatClampNeg (0 : Int32).toNatClampNeg (6 : Int32).toNatClampNeg) 34 6 0) 34 7 0) 19 1 1) 19 1 2) 19 1 3) (fun r h => r = some (.int 0) ∧ h = (SH0, RF0, (gup (gup (gup (gup (gup (gcp I0 24 34 (0 : Int32).toNatClampNeg (0 : Int32).toNatClampNeg (6 : Int32).toNatClampNeg) 34 6 0) 34 7 0) 19 1 1) 19 1 2) 19 1 3))) := by
  refine G_aload_n (pc := 0) rfl dX1_isOver_0 ?_
  refine G_getI (pc := 1) (v := 3) (ci := 1) (j := 1) rfl rfl lk_RX1_60 rfl rfl dX1_isOver_1 ?_
  refine G_aload_n (pc := 4) rfl dX1_isOver_4 ?_
  refine G_getI (pc := 5) (v := 12) (ci := 1) (j := 2) rfl rfl lk_RX1_9 rfl rfl dX1_isOver_5 ?_
  refine G_icmp_lt (pc := 8) (tgt := 15) (by decide) dX1_isOver_8 (fun _ => ?_) (fun z => absurd (by decide) z)
  refine G_iconst (pc := 15) (v := 0) (by decide) dX1_isOver_15 ?_
  exact G_zret (pc := 16) (Nat.le_of_ble_eq_true rfl) (Nat.le_of_ble_eq_true rfl) rfl (by decide) dX1_isOver_16 ⟨rfl, rfl⟩
set_option maxRecDepth 100000 in
set_option maxHeartbeats 4000000 in
theorem s362_X1_restAct  (d : Nat)   : G (d) mX1_restAct 0 0 0 0 0 (gent 2 [.ref 19]) [] SH0 RF0 (gup (gup (gup (gup (gup (gcp I0 24 34 (0 : Int32).toNatClampNeg (0 : Int32).toNatClampNeg (6 : Int32).toNatClampNeg) 34 6 0) 34 7 0) 19 1 1) 19 1 2) 19 1 3) (fun r h => r = some (.int 0) ∧ h = (SH0, RF0, (gup (gup (gup (gup (gup (gcp I0 24 34 (0 : Int32).toNatClampNeg (0 : Int32).toNatClampNeg (6 : Int32).toNatClampNeg) 34 6 0) 34 7 0) 19 1 1) 19 1 2) 19 1 3))) := by
  refine G_iconst (pc := 0) (v := 0) (by decide) dX1_restAct_0 ?_
  refine G_istore_n (pc := 1) (L1 := [some (.ref 19), some (.int 0)]) rfl rfl (by decide) dX1_restAct_1 ?_
  refine G_iload_n (pc := 2) rfl dX1_restAct_2 ?_
  refine G_aload_n (pc := 3) rfl dX1_restAct_3 ?_
  refine G_getI (pc := 4) (v := 0) (ci := 1) (j := 8) rfl rfl lk_RX1_72 rfl rfl dX1_restAct_4 ?_
  refine G_icmp_ge (pc := 7) (tgt := 36) (by decide) dX1_restAct_7 (fun _ => ?_) (fun z => absurd (by decide) z)
  refine G_iconst (pc := 36) (v := 0) (by decide) dX1_restAct_36 ?_
  exact G_iret (pc := 37) (Nat.le_of_ble_eq_true rfl) (Nat.le_of_ble_eq_true rfl) rfl dX1_restAct_37 ⟨rfl, rfl⟩
set_option maxRecDepth 100000 in
set_option maxHeartbeats 4000000 in
theorem s364_X1_isKey  (d : Nat)   : G (d) mX1_isKey 0 0 0 0 0 (gent 2 [.ref 19, .int (-1)]) [] SH0 RF0 (gup (gup (gup (gup (gup (gcp I0 24 34 (0 : Int32).toNatClampNeg (0 : Int32).toNatClampNeg (6 : Int32).toNatClampNeg) 34 6 0) 34 7 0) 19 1 1) 19 1 2) 19 1 3) (fun r h => r = some (.int 0) ∧ h = (SH0, RF0, (gup (gup (gup (gup (gup (gcp I0 24 34 (0 : Int32).toNatClampNeg (0 : Int32).toNatClampNeg (6 : Int32).toNatClampNeg) 34 6 0) 34 7 0) 19 1 1) 19 1 2) 19 1 3))) := by
  refine G_iload_n (pc := 0) rfl dX1_isKey_0 ?_
  refine G_if_lt (pc := 1) (tgt := 16) (by decide) dX1_isKey_1 (fun _ => ?_) (fun z => absurd (by decide) z)
  refine G_iconst (pc := 16) (v := 0) (by decide) dX1_isKey_16 ?_
  exact G_zret (pc := 17) (Nat.le_of_ble_eq_true rfl) (Nat.le_of_ble_eq_true rfl) rfl (by decide) dX1_isKey_17 ⟨rfl, rfl⟩
set_option maxRecDepth 100000 in
set_option maxHeartbeats 4000000 in
theorem s363_X1_tell  (d : Nat)   : G (d + 1) mX1_tell 0 0 0 0 0 (gent 5 [.ref 19, .int 0]) [] SH0 RF0 (gup (gup (gup (gup (gup (gcp I0 24 34 (0 : Int32).toNatClampNeg (0 : Int32).toNatClampNeg (6 : Int32).toNatClampNeg) 34 6 0) 34 7 0) 19 1 1) 19 1 2) 19 1 3) (fun r h => r = some (.int 0) ∧ h = (SH0, RF0, (gup (gup (gup (gup (gup (gcp I0 24 34 (0 : Int32).toNatClampNeg (0 : Int32).toNatClampNeg (6 : Int32).toNatClampNeg) 34 6 0) 34 7 0) 19 1 1) 19 1 2) 19 1 3))) := by
  refine G_iload_n (pc := 0) rfl dX1_tell_0 ?_
  refine G_iconst (pc := 1) (v := 1) (by decide) dX1_tell_1 ?_
  refine G_isub (pc := 2) (z := (-1)) (by decide) dX1_tell_2 ?_
  refine G_istore_n (pc := 3) (L1 := [some (.ref 19), some (.int 0), some (.int (-1)), none, none]) rfl rfl (by decide) dX1_tell_3 ?_
  refine G_aload_n (pc := 4) rfl dX1_tell_4 ?_
  refine G_iload_n (pc := 5) rfl dX1_tell_5 ?_
  refine G_callV (pc := 6) (mc1 := 0) (ms1 := 0) (ci := 1) (mj := mX1_isKey) (vs := [_]) dX1_tell_6 rfl rfl cm_X1_isKey wf_68 wf_13 wf_14 rfl (Nat.le_of_ble_eq_true rfl) (Nat.le_of_ble_eq_true rfl) (Nat.le_of_ble_eq_true rfl) (Nat.le_of_ble_eq_true rfl) (s364_X1_isKey  d  ) ?_
  rintro _ _ ⟨rfl, rfl⟩
  dsimp only [Option.toList, List.cons_append, List.nil_append]
  refine G_if_eq (pc := 9) (tgt := 20) (by decide) dX1_tell_9 (fun _ => ?_) (fun z => absurd (by decide) z)
  refine G_iconst (pc := 20) (v := 0) (by decide) dX1_tell_20 ?_
  exact G_iret (pc := 21) (Nat.le_of_ble_eq_true rfl) (Nat.le_of_ble_eq_true rfl) rfl dX1_tell_21 ⟨rfl, rfl⟩
set_option maxRecDepth 100000 in
set_option maxHeartbeats 4000000 in
theorem s365_X1_melt  (d : Nat)   : G (d) mX1_melt 0 0 0 0 0 (gent 3 [.ref 19]) [] SH0 RF0 (gup (gup (gup (gup (gup (gcp I0 24 34 (0 : Int32).toNatClampNeg (0 : Int32).toNatClampNeg (6 : Int32).toNatClampNeg) 34 6 0) 34 7 0) 19 1 1) 19 1 2) 19 1 3) (fun r h => r = some (.int 0) ∧ h = (SH0, RF0, (gup (gup (gup (gup (gup (gup (gcp I0 24 34 (0 : Int32).toNatClampNeg (0 : Int32).toNatClampNeg (6 : Int32).toNatClampNeg) 34 6 0) 34 7 0) 19 1 1) 19 1 2) 19 1 3) 19 1 4))) := by
  refine G_iconst (pc := 0) (v := 0) (by decide) dX1_melt_0 ?_
  refine G_istore_n (pc := 1) (L1 := [some (.ref 19), some (.int 0), none]) rfl rfl (by decide) dX1_melt_1 ?_
  refine G_iconst (pc := 2) (v := 0) (by decide) dX1_melt_2 ?_
  refine G_istore_n (pc := 3) (L1 := [some (.ref 19), some (.int 0), some (.int 0)]) rfl rfl (by decide) dX1_melt_3 ?_
  refine G_iload_n (pc := 4) rfl dX1_melt_4 ?_
  refine G_aload_n (pc := 5) rfl dX1_melt_5 ?_
  refine G_getI (pc := 6) (v := 0) (ci := 1) (j := 8) rfl rfl lk_RX1_72 rfl rfl dX1_melt_6 ?_
  refine G_icmp_ge (pc := 9) (tgt := 60) (by decide) dX1_melt_9 (fun _ => ?_) (fun z => absurd (by decide) z)
  refine G_aload_n (pc := 60) rfl dX1_melt_60 ?_
  refine G_dup (pc := 61) rfl dX1_melt_61 ?_
  refine G_getI (pc := 62) (v := 3) (ci := 1) (j := 1) rfl rfl lk_RX1_60 rfl rfl dX1_melt_62 ?_
  refine G_iconst (pc := 65) (v := 1) (by decide) dX1_melt_65 ?_
  refine G_iadd (pc := 66) (z := 4) (by decide) dX1_melt_66 ?_
  refine G_putI (pc := 67) (ci := 1) (j := 1) rfl lk_RX1_60 rfl rfl rfl trivial dX1_melt_67 ?_
  refine G_iload_n (pc := 70) rfl dX1_melt_70 ?_
  exact G_iret (pc := 71) (Nat.le_of_ble_eq_true rfl) (Nat.le_of_ble_eq_true rfl) rfl dX1_melt_71 ⟨rfl, rfl⟩
set_option maxRecDepth 100000 in
set_option maxHeartbeats 4000000 in
theorem s366_X1_isOver  (d : Nat)   : G (d) mX1_isOver 0 0 0 0 0 (gent 1 [.ref 19]) [] SH0 RF0 (gup (gup (gup (gup (gup (gup (gcp I0 24 34 (0 : Int32).toNatClampNeg (0 : Int32).toNatClampNeg (6 : Int32).toNatClampNeg) 34 6 0) 34 7 0) 19 1 1) 19 1 2) 19 1 3) 19 1 4) (fun r h => r = some (.int 0) ∧ h = (SH0, RF0, (gup (gup (gup (gup (gup (gup (gcp I0 24 34 (0 : Int32).toNatClampNeg (0 : Int32).toNatClampNeg (6 : Int32).toNatClampNeg) 34 6 0) 34 7 0) 19 1 1) 19 1 2) 19 1 3) 19 1 4))) := by
  refine G_aload_n (pc := 0) rfl dX1_isOver_0 ?_
  refine G_getI (pc := 1) (v := 4) (ci := 1) (j := 1) rfl rfl lk_RX1_60 rfl rfl dX1_isOver_1 ?_
  refine G_aload_n (pc := 4) rfl dX1_isOver_4 ?_
  refine G_getI (pc := 5) (v := 12) (ci := 1) (j := 2) rfl rfl lk_RX1_9 rfl rfl dX1_isOver_5 ?_
  refine G_icmp_lt (pc := 8) (tgt := 15) (by decide) dX1_isOver_8 (fun _ => ?_) (fun z => absurd (by decide) z)
  refine G_iconst (pc := 15) (v := 0) (by decide) dX1_isOver_15 ?_
  exact G_zret (pc := 16) (Nat.le_of_ble_eq_true rfl) (Nat.le_of_ble_eq_true rfl) rfl (by decide) dX1_isOver_16 ⟨rfl, rfl⟩
set_option maxRecDepth 100000 in
set_option maxHeartbeats 4000000 in
theorem s367_X1_restAct  (d : Nat)   : G (d) mX1_restAct 0 0 0 0 0 (gent 2 [.ref 19]) [] SH0 RF0 (gup (gup (gup (gup (gup (gup (gcp I0 24 34 (0 : Int32).toNatClampNeg (0 : Int32).toNatClampNeg (6 : Int32).toNatClampNeg) 34 6 0) 34 7 0) 19 1 1) 19 1 2) 19 1 3) 19 1 4) (fun r h => r = some (.int 0) ∧ h = (SH0, RF0, (gup (gup (gup (gup (gup (gup (gcp I0 24 34 (0 : Int32).toNatClampNeg (0 : Int32).toNatClampNeg (6 : Int32).toNatClampNeg) 34 6 0) 34 7 0) 19 1 1) 19 1 2) 19 1 3) 19 1 4))) := by
  refine G_iconst (pc := 0) (v := 0) (by decide) dX1_restAct_0 ?_
  refine G_istore_n (pc := 1) (L1 := [some (.ref 19), some (.int 0)]) rfl rfl (by decide) dX1_restAct_1 ?_
  refine G_iload_n (pc := 2) rfl dX1_restAct_2 ?_
  refine G_aload_n (pc := 3) rfl dX1_restAct_3 ?_
  refine G_getI (pc := 4) (v := 0) (ci := 1) (j := 8) rfl rfl lk_RX1_72 rfl rfl dX1_restAct_4 ?_
  refine G_icmp_ge (pc := 7) (tgt := 36) (by decide) dX1_restAct_7 (fun _ => ?_) (fun z => absurd (by decide) z)
  refine G_iconst (pc := 36) (v := 0) (by decide) dX1_restAct_36 ?_
  exact G_iret (pc := 37) (Nat.le_of_ble_eq_true rfl) (Nat.le_of_ble_eq_true rfl) rfl dX1_restAct_37 ⟨rfl, rfl⟩
set_option maxRecDepth 100000 in
set_option maxHeartbeats 4000000 in
theorem s369_X1_isKey  (d : Nat)   : G (d) mX1_isKey 0 0 0 0 0 (gent 2 [.ref 19, .int (-1)]) [] SH0 RF0 (gup (gup (gup (gup (gup (gup (gcp I0 24 34 (0 : Int32).toNatClampNeg (0 : Int32).toNatClampNeg (6 : Int32).toNatClampNeg) 34 6 0) 34 7 0) 19 1 1) 19 1 2) 19 1 3) 19 1 4) (fun r h => r = some (.int 0) ∧ h = (SH0, RF0, (gup (gup (gup (gup (gup (gup (gcp I0 24 34 (0 : Int32).toNatClampNeg (0 : Int32).toNatClampNeg (6 : Int32).toNatClampNeg) 34 6 0) 34 7 0) 19 1 1) 19 1 2) 19 1 3) 19 1 4))) := by
  refine G_iload_n (pc := 0) rfl dX1_isKey_0 ?_
  refine G_if_lt (pc := 1) (tgt := 16) (by decide) dX1_isKey_1 (fun _ => ?_) (fun z => absurd (by decide) z)
  refine G_iconst (pc := 16) (v := 0) (by decide) dX1_isKey_16 ?_
  exact G_zret (pc := 17) (Nat.le_of_ble_eq_true rfl) (Nat.le_of_ble_eq_true rfl) rfl (by decide) dX1_isKey_17 ⟨rfl, rfl⟩
set_option maxRecDepth 100000 in
set_option maxHeartbeats 4000000 in
theorem s368_X1_tell  (d : Nat)   : G (d + 1) mX1_tell 0 0 0 0 0 (gent 5 [.ref 19, .int 0]) [] SH0 RF0 (gup (gup (gup (gup (gup (gup (gcp I0 24 34 (0 : Int32).toNatClampNeg (0 : Int32).toNatClampNeg (6 : Int32).toNatClampNeg) 34 6 0) 34 7 0) 19 1 1) 19 1 2) 19 1 3) 19 1 4) (fun r h => r = some (.int 0) ∧ h = (SH0, RF0, (gup (gup (gup (gup (gup (gup (gcp I0 24 34 (0 : Int32).toNatClampNeg (0 : Int32).toNatClampNeg (6 : Int32).toNatClampNeg) 34 6 0) 34 7 0) 19 1 1) 19 1 2) 19 1 3) 19 1 4))) := by
  refine G_iload_n (pc := 0) rfl dX1_tell_0 ?_
  refine G_iconst (pc := 1) (v := 1) (by decide) dX1_tell_1 ?_
  refine G_isub (pc := 2) (z := (-1)) (by decide) dX1_tell_2 ?_
  refine G_istore_n (pc := 3) (L1 := [some (.ref 19), some (.int 0), some (.int (-1)), none, none]) rfl rfl (by decide) dX1_tell_3 ?_
  refine G_aload_n (pc := 4) rfl dX1_tell_4 ?_
  refine G_iload_n (pc := 5) rfl dX1_tell_5 ?_
  refine G_callV (pc := 6) (mc1 := 0) (ms1 := 0) (ci := 1) (mj := mX1_isKey) (vs := [_]) dX1_tell_6 rfl rfl cm_X1_isKey wf_68 wf_13 wf_14 rfl (Nat.le_of_ble_eq_true rfl) (Nat.le_of_ble_eq_true rfl) (Nat.le_of_ble_eq_true rfl) (Nat.le_of_ble_eq_true rfl) (s369_X1_isKey  d  ) ?_
  rintro _ _ ⟨rfl, rfl⟩
  dsimp only [Option.toList, List.cons_append, List.nil_append]
  refine G_if_eq (pc := 9) (tgt := 20) (by decide) dX1_tell_9 (fun _ => ?_) (fun z => absurd (by decide) z)
  refine G_iconst (pc := 20) (v := 0) (by decide) dX1_tell_20 ?_
  exact G_iret (pc := 21) (Nat.le_of_ble_eq_true rfl) (Nat.le_of_ble_eq_true rfl) rfl dX1_tell_21 ⟨rfl, rfl⟩
set_option maxRecDepth 100000 in
set_option maxHeartbeats 4000000 in
theorem s370_X1_melt  (d : Nat)   : G (d) mX1_melt 0 0 0 0 0 (gent 3 [.ref 19]) [] SH0 RF0 (gup (gup (gup (gup (gup (gup (gcp I0 24 34 (0 : Int32).toNatClampNeg (0 : Int32).toNatClampNeg (6 : Int32).toNatClampNeg) 34 6 0) 34 7 0) 19 1 1) 19 1 2) 19 1 3) 19 1 4) (fun r h => r = some (.int 0) ∧ h = (SH0, RF0, (gup (gup (gup (gup (gup (gup (gup (gcp I0 24 34 (0 : Int32).toNatClampNeg (0 : Int32).toNatClampNeg (6 : Int32).toNatClampNeg) 34 6 0) 34 7 0) 19 1 1) 19 1 2) 19 1 3) 19 1 4) 19 1 5))) := by
  refine G_iconst (pc := 0) (v := 0) (by decide) dX1_melt_0 ?_
  refine G_istore_n (pc := 1) (L1 := [some (.ref 19), some (.int 0), none]) rfl rfl (by decide) dX1_melt_1 ?_
  refine G_iconst (pc := 2) (v := 0) (by decide) dX1_melt_2 ?_
  refine G_istore_n (pc := 3) (L1 := [some (.ref 19), some (.int 0), some (.int 0)]) rfl rfl (by decide) dX1_melt_3 ?_
  refine G_iload_n (pc := 4) rfl dX1_melt_4 ?_
  refine G_aload_n (pc := 5) rfl dX1_melt_5 ?_
  refine G_getI (pc := 6) (v := 0) (ci := 1) (j := 8) rfl rfl lk_RX1_72 rfl rfl dX1_melt_6 ?_
  refine G_icmp_ge (pc := 9) (tgt := 60) (by decide) dX1_melt_9 (fun _ => ?_) (fun z => absurd (by decide) z)
  refine G_aload_n (pc := 60) rfl dX1_melt_60 ?_
  refine G_dup (pc := 61) rfl dX1_melt_61 ?_
  refine G_getI (pc := 62) (v := 4) (ci := 1) (j := 1) rfl rfl lk_RX1_60 rfl rfl dX1_melt_62 ?_
  refine G_iconst (pc := 65) (v := 1) (by decide) dX1_melt_65 ?_
  refine G_iadd (pc := 66) (z := 5) (by decide) dX1_melt_66 ?_
  refine G_putI (pc := 67) (ci := 1) (j := 1) rfl lk_RX1_60 rfl rfl rfl trivial dX1_melt_67 ?_
  refine G_iload_n (pc := 70) rfl dX1_melt_70 ?_
  exact G_iret (pc := 71) (Nat.le_of_ble_eq_true rfl) (Nat.le_of_ble_eq_true rfl) rfl dX1_melt_71 ⟨rfl, rfl⟩
set_option maxRecDepth 100000 in
set_option maxHeartbeats 4000000 in
theorem s371_X1_isOver  (d : Nat)   : G (d) mX1_isOver 0 0 0 0 0 (gent 1 [.ref 19]) [] SH0 RF0 (gup (gup (gup (gup (gup (gup (gup (gcp I0 24 34 (0 : Int32).toNatClampNeg (0 : Int32).toNatClampNeg (6 : Int32).toNatClampNeg) 34 6 0) 34 7 0) 19 1 1) 19 1 2) 19 1 3) 19 1 4) 19 1 5) (fun r h => r = some (.int 0) ∧ h = (SH0, RF0, (gup (gup (gup (gup (gup (gup (gup (gcp I0 24 34 (0 : Int32).toNatClampNeg (0 : Int32).toNatClampNeg (6 : Int32).toNatClampNeg) 34 6 0) 34 7 0) 19 1 1) 19 1 2) 19 1 3) 19 1 4) 19 1 5))) := by
  refine G_aload_n (pc := 0) rfl dX1_isOver_0 ?_
  refine G_getI (pc := 1) (v := 5) (ci := 1) (j := 1) rfl rfl lk_RX1_60 rfl rfl dX1_isOver_1 ?_
  refine G_aload_n (pc := 4) rfl dX1_isOver_4 ?_
  refine G_getI (pc := 5) (v := 12) (ci := 1) (j := 2) rfl rfl lk_RX1_9 rfl rfl dX1_isOver_5 ?_
  refine G_icmp_lt (pc := 8) (tgt := 15) (by decide) dX1_isOver_8 (fun _ => ?_) (fun z => absurd (by decide) z)
  refine G_iconst (pc := 15) (v := 0) (by decide) dX1_isOver_15 ?_
  exact G_zret (pc := 16) (Nat.le_of_ble_eq_true rfl) (Nat.le_of_ble_eq_true rfl) rfl (by decide) dX1_isOver_16 ⟨rfl, rfl⟩
set_option maxRecDepth 100000 in
set_option maxHeartbeats 4000000 in
theorem s372_X1_restAct  (d : Nat)   : G (d) mX1_restAct 0 0 0 0 0 (gent 2 [.ref 19]) [] SH0 RF0 (gup (gup (gup (gup (gup (gup (gup (gcp I0 24 34 (0 : Int32).toNatClampNeg (0 : Int32).toNatClampNeg (6 : Int32).toNatClampNeg) 34 6 0) 34 7 0) 19 1 1) 19 1 2) 19 1 3) 19 1 4) 19 1 5) (fun r h => r = some (.int 0) ∧ h = (SH0, RF0, (gup (gup (gup (gup (gup (gup (gup (gcp I0 24 34 (0 : Int32).toNatClampNeg (0 : Int32).toNatClampNeg (6 : Int32).toNatClampNeg) 34 6 0) 34 7 0) 19 1 1) 19 1 2) 19 1 3) 19 1 4) 19 1 5))) := by
  refine G_iconst (pc := 0) (v := 0) (by decide) dX1_restAct_0 ?_
  refine G_istore_n (pc := 1) (L1 := [some (.ref 19), some (.int 0)]) rfl rfl (by decide) dX1_restAct_1 ?_
  refine G_iload_n (pc := 2) rfl dX1_restAct_2 ?_
  refine G_aload_n (pc := 3) rfl dX1_restAct_3 ?_
  refine G_getI (pc := 4) (v := 0) (ci := 1) (j := 8) rfl rfl lk_RX1_72 rfl rfl dX1_restAct_4 ?_
  refine G_icmp_ge (pc := 7) (tgt := 36) (by decide) dX1_restAct_7 (fun _ => ?_) (fun z => absurd (by decide) z)
  refine G_iconst (pc := 36) (v := 0) (by decide) dX1_restAct_36 ?_
  exact G_iret (pc := 37) (Nat.le_of_ble_eq_true rfl) (Nat.le_of_ble_eq_true rfl) rfl dX1_restAct_37 ⟨rfl, rfl⟩
set_option maxRecDepth 100000 in
set_option maxHeartbeats 4000000 in
theorem s374_X1_isKey  (d : Nat)   : G (d) mX1_isKey 0 0 0 0 0 (gent 2 [.ref 19, .int (-1)]) [] SH0 RF0 (gup (gup (gup (gup (gup (gup (gup (gcp I0 24 34 (0 : Int32).toNatClampNeg (0 : Int32).toNatClampNeg (6 : Int32).toNatClampNeg) 34 6 0) 34 7 0) 19 1 1) 19 1 2) 19 1 3) 19 1 4) 19 1 5) (fun r h => r = some (.int 0) ∧ h = (SH0, RF0, (gup (gup (gup (gup (gup (gup (gup (gcp I0 24 34 (0 : Int32).toNatClampNeg (0 : Int32).toNatClampNeg (6 : Int32).toNatClampNeg) 34 6 0) 34 7 0) 19 1 1) 19 1 2) 19 1 3) 19 1 4) 19 1 5))) := by
  refine G_iload_n (pc := 0) rfl dX1_isKey_0 ?_
  refine G_if_lt (pc := 1) (tgt := 16) (by decide) dX1_isKey_1 (fun _ => ?_) (fun z => absurd (by decide) z)
  refine G_iconst (pc := 16) (v := 0) (by decide) dX1_isKey_16 ?_
  exact G_zret (pc := 17) (Nat.le_of_ble_eq_true rfl) (Nat.le_of_ble_eq_true rfl) rfl (by decide) dX1_isKey_17 ⟨rfl, rfl⟩
set_option maxRecDepth 100000 in
set_option maxHeartbeats 4000000 in
theorem s373_X1_tell  (d : Nat)   : G (d + 1) mX1_tell 0 0 0 0 0 (gent 5 [.ref 19, .int 0]) [] SH0 RF0 (gup (gup (gup (gup (gup (gup (gup (gcp I0 24 34 (0 : Int32).toNatClampNeg (0 : Int32).toNatClampNeg (6 : Int32).toNatClampNeg) 34 6 0) 34 7 0) 19 1 1) 19 1 2) 19 1 3) 19 1 4) 19 1 5) (fun r h => r = some (.int 0) ∧ h = (SH0, RF0, (gup (gup (gup (gup (gup (gup (gup (gcp I0 24 34 (0 : Int32).toNatClampNeg (0 : Int32).toNatClampNeg (6 : Int32).toNatClampNeg) 34 6 0) 34 7 0) 19 1 1) 19 1 2) 19 1 3) 19 1 4) 19 1 5))) := by
  refine G_iload_n (pc := 0) rfl dX1_tell_0 ?_
  refine G_iconst (pc := 1) (v := 1) (by decide) dX1_tell_1 ?_
  refine G_isub (pc := 2) (z := (-1)) (by decide) dX1_tell_2 ?_
  refine G_istore_n (pc := 3) (L1 := [some (.ref 19), some (.int 0), some (.int (-1)), none, none]) rfl rfl (by decide) dX1_tell_3 ?_
  refine G_aload_n (pc := 4) rfl dX1_tell_4 ?_
  refine G_iload_n (pc := 5) rfl dX1_tell_5 ?_
  refine G_callV (pc := 6) (mc1 := 0) (ms1 := 0) (ci := 1) (mj := mX1_isKey) (vs := [_]) dX1_tell_6 rfl rfl cm_X1_isKey wf_68 wf_13 wf_14 rfl (Nat.le_of_ble_eq_true rfl) (Nat.le_of_ble_eq_true rfl) (Nat.le_of_ble_eq_true rfl) (Nat.le_of_ble_eq_true rfl) (s374_X1_isKey  d  ) ?_
  rintro _ _ ⟨rfl, rfl⟩
  dsimp only [Option.toList, List.cons_append, List.nil_append]
  refine G_if_eq (pc := 9) (tgt := 20) (by decide) dX1_tell_9 (fun _ => ?_) (fun z => absurd (by decide) z)
  refine G_iconst (pc := 20) (v := 0) (by decide) dX1_tell_20 ?_
  exact G_iret (pc := 21) (Nat.le_of_ble_eq_true rfl) (Nat.le_of_ble_eq_true rfl) rfl dX1_tell_21 ⟨rfl, rfl⟩
set_option maxRecDepth 100000 in
set_option maxHeartbeats 4000000 in
theorem s375_X1_melt  (d : Nat)   : G (d) mX1_melt 0 0 0 0 0 (gent 3 [.ref 19]) [] SH0 RF0 (gup (gup (gup (gup (gup (gup (gup (gcp I0 24 34 (0 : Int32).toNatClampNeg (0 : Int32).toNatClampNeg (6 : Int32).toNatClampNeg) 34 6 0) 34 7 0) 19 1 1) 19 1 2) 19 1 3) 19 1 4) 19 1 5) (fun r h => r = some (.int 0) ∧ h = (SH0, RF0, (gup (gup (gup (gup (gup (gup (gup (gup (gcp I0 24 34 (0 : Int32).toNatClampNeg (0 : Int32).toNatClampNeg (6 : Int32).toNatClampNeg) 34 6 0) 34 7 0) 19 1 1) 19 1 2) 19 1 3) 19 1 4) 19 1 5) 19 1 6))) := by
  refine G_iconst (pc := 0) (v := 0) (by decide) dX1_melt_0 ?_
  refine G_istore_n (pc := 1) (L1 := [some (.ref 19), some (.int 0), none]) rfl rfl (by decide) dX1_melt_1 ?_
  refine G_iconst (pc := 2) (v := 0) (by decide) dX1_melt_2 ?_
  refine G_istore_n (pc := 3) (L1 := [some (.ref 19), some (.int 0), some (.int 0)]) rfl rfl (by decide) dX1_melt_3 ?_
  refine G_iload_n (pc := 4) rfl dX1_melt_4 ?_
  refine G_aload_n (pc := 5) rfl dX1_melt_5 ?_
  refine G_getI (pc := 6) (v := 0) (ci := 1) (j := 8) rfl rfl lk_RX1_72 rfl rfl dX1_melt_6 ?_
  refine G_icmp_ge (pc := 9) (tgt := 60) (by decide) dX1_melt_9 (fun _ => ?_) (fun z => absurd (by decide) z)
  refine G_aload_n (pc := 60) rfl dX1_melt_60 ?_
  refine G_dup (pc := 61) rfl dX1_melt_61 ?_
  refine G_getI (pc := 62) (v := 5) (ci := 1) (j := 1) rfl rfl lk_RX1_60 rfl rfl dX1_melt_62 ?_
  refine G_iconst (pc := 65) (v := 1) (by decide) dX1_melt_65 ?_
  refine G_iadd (pc := 66) (z := 6) (by decide) dX1_melt_66 ?_
  refine G_putI (pc := 67) (ci := 1) (j := 1) rfl lk_RX1_60 rfl rfl rfl trivial dX1_melt_67 ?_
  refine G_iload_n (pc := 70) rfl dX1_melt_70 ?_
  exact G_iret (pc := 71) (Nat.le_of_ble_eq_true rfl) (Nat.le_of_ble_eq_true rfl) rfl dX1_melt_71 ⟨rfl, rfl⟩
set_option maxRecDepth 100000 in
set_option maxHeartbeats 4000000 in
theorem s376_X1_isOver  (d : Nat)   : G (d) mX1_isOver 0 0 0 0 0 (gent 1 [.ref 19]) [] SH0 RF0 (gup (gup (gup (gup (gup (gup (gup (gup (gcp I0 24 34 (0 : Int32).toNatClampNeg (0 : Int32).toNatClampNeg (6 : Int32).toNatClampNeg) 34 6 0) 34 7 0) 19 1 1) 19 1 2) 19 1 3) 19 1 4) 19 1 5) 19 1 6) (fun r h => r = some (.int 0) ∧ h = (SH0, RF0, (gup (gup (gup (gup (gup (gup (gup (gup (gcp I0 24 34 (0 : Int32).toNatClampNeg (0 : Int32).toNatClampNeg (6 : Int32).toNatClampNeg) 34 6 0) 34 7 0) 19 1 1) 19 1 2) 19 1 3) 19 1 4) 19 1 5) 19 1 6))) := by
  refine G_aload_n (pc := 0) rfl dX1_isOver_0 ?_
  refine G_getI (pc := 1) (v := 6) (ci := 1) (j := 1) rfl rfl lk_RX1_60 rfl rfl dX1_isOver_1 ?_
  refine G_aload_n (pc := 4) rfl dX1_isOver_4 ?_
  refine G_getI (pc := 5) (v := 12) (ci := 1) (j := 2) rfl rfl lk_RX1_9 rfl rfl dX1_isOver_5 ?_
  refine G_icmp_lt (pc := 8) (tgt := 15) (by decide) dX1_isOver_8 (fun _ => ?_) (fun z => absurd (by decide) z)
  refine G_iconst (pc := 15) (v := 0) (by decide) dX1_isOver_15 ?_
  exact G_zret (pc := 16) (Nat.le_of_ble_eq_true rfl) (Nat.le_of_ble_eq_true rfl) rfl (by decide) dX1_isOver_16 ⟨rfl, rfl⟩
set_option maxRecDepth 100000 in
set_option maxHeartbeats 4000000 in
theorem s377_X1_restAct  (d : Nat)   : G (d) mX1_restAct 0 0 0 0 0 (gent 2 [.ref 19]) [] SH0 RF0 (gup (gup (gup (gup (gup (gup (gup (gup (gcp I0 24 34 (0 : Int32).toNatClampNeg (0 : Int32).toNatClampNeg (6 : Int32).toNatClampNeg) 34 6 0) 34 7 0) 19 1 1) 19 1 2) 19 1 3) 19 1 4) 19 1 5) 19 1 6) (fun r h => r = some (.int 0) ∧ h = (SH0, RF0, (gup (gup (gup (gup (gup (gup (gup (gup (gcp I0 24 34 (0 : Int32).toNatClampNeg (0 : Int32).toNatClampNeg (6 : Int32).toNatClampNeg) 34 6 0) 34 7 0) 19 1 1) 19 1 2) 19 1 3) 19 1 4) 19 1 5) 19 1 6))) := by
  refine G_iconst (pc := 0) (v := 0) (by decide) dX1_restAct_0 ?_
  refine G_istore_n (pc := 1) (L1 := [some (.ref 19), some (.int 0)]) rfl rfl (by decide) dX1_restAct_1 ?_
  refine G_iload_n (pc := 2) rfl dX1_restAct_2 ?_
  refine G_aload_n (pc := 3) rfl dX1_restAct_3 ?_
  refine G_getI (pc := 4) (v := 0) (ci := 1) (j := 8) rfl rfl lk_RX1_72 rfl rfl dX1_restAct_4 ?_
  refine G_icmp_ge (pc := 7) (tgt := 36) (by decide) dX1_restAct_7 (fun _ => ?_) (fun z => absurd (by decide) z)
  refine G_iconst (pc := 36) (v := 0) (by decide) dX1_restAct_36 ?_
  exact G_iret (pc := 37) (Nat.le_of_ble_eq_true rfl) (Nat.le_of_ble_eq_true rfl) rfl dX1_restAct_37 ⟨rfl, rfl⟩
set_option maxRecDepth 100000 in
set_option maxHeartbeats 4000000 in
theorem s379_X1_isKey  (d : Nat)   : G (d) mX1_isKey 0 0 0 0 0 (gent 2 [.ref 19, .int (-1)]) [] SH0 RF0 (gup (gup (gup (gup (gup (gup (gup (gup (gcp I0 24 34 (0 : Int32).toNatClampNeg (0 : Int32).toNatClampNeg (6 : Int32).toNatClampNeg) 34 6 0) 34 7 0) 19 1 1) 19 1 2) 19 1 3) 19 1 4) 19 1 5) 19 1 6) (fun r h => r = some (.int 0) ∧ h = (SH0, RF0, (gup (gup (gup (gup (gup (gup (gup (gup (gcp I0 24 34 (0 : Int32).toNatClampNeg (0 : Int32).toNatClampNeg (6 : Int32).toNatClampNeg) 34 6 0) 34 7 0) 19 1 1) 19 1 2) 19 1 3) 19 1 4) 19 1 5) 19 1 6))) := by
  refine G_iload_n (pc := 0) rfl dX1_isKey_0 ?_
  refine G_if_lt (pc := 1) (tgt := 16) (by decide) dX1_isKey_1 (fun _ => ?_) (fun z => absurd (by decide) z)
  refine G_iconst (pc := 16) (v := 0) (by decide) dX1_isKey_16 ?_
  exact G_zret (pc := 17) (Nat.le_of_ble_eq_true rfl) (Nat.le_of_ble_eq_true rfl) rfl (by decide) dX1_isKey_17 ⟨rfl, rfl⟩
set_option maxRecDepth 100000 in
set_option maxHeartbeats 4000000 in
theorem s378_X1_tell  (d : Nat)   : G (d + 1) mX1_tell 0 0 0 0 0 (gent 5 [.ref 19, .int 0]) [] SH0 RF0 (gup (gup (gup (gup (gup (gup (gup (gup (gcp I0 24 34 (0 : Int32).toNatClampNeg (0 : Int32).toNatClampNeg (6 : Int32).toNatClampNeg) 34 6 0) 34 7 0) 19 1 1) 19 1 2) 19 1 3) 19 1 4) 19 1 5) 19 1 6) (fun r h => r = some (.int 0) ∧ h = (SH0, RF0, (gup (gup (gup (gup (gup (gup (gup (gup (gcp I0 24 34 (0 : Int32).toNatClampNeg (0 : Int32).toNatClampNeg (6 : Int32).toNatClampNeg) 34 6 0) 34 7 0) 19 1 1) 19 1 2) 19 1 3) 19 1 4) 19 1 5) 19 1 6))) := by
  refine G_iload_n (pc := 0) rfl dX1_tell_0 ?_
  refine G_iconst (pc := 1) (v := 1) (by decide) dX1_tell_1 ?_
  refine G_isub (pc := 2) (z := (-1)) (by decide) dX1_tell_2 ?_
  refine G_istore_n (pc := 3) (L1 := [some (.ref 19), some (.int 0), some (.int (-1)), none, none]) rfl rfl (by decide) dX1_tell_3 ?_
  refine G_aload_n (pc := 4) rfl dX1_tell_4 ?_
  refine G_iload_n (pc := 5) rfl dX1_tell_5 ?_
  refine G_callV (pc := 6) (mc1 := 0) (ms1 := 0) (ci := 1) (mj := mX1_isKey) (vs := [_]) dX1_tell_6 rfl rfl cm_X1_isKey wf_68 wf_13 wf_14 rfl (Nat.le_of_ble_eq_true rfl) (Nat.le_of_ble_eq_true rfl) (Nat.le_of_ble_eq_true rfl) (Nat.le_of_ble_eq_true rfl) (s379_X1_isKey  d  ) ?_
  rintro _ _ ⟨rfl, rfl⟩
  dsimp only [Option.toList, List.cons_append, List.nil_append]
  refine G_if_eq (pc := 9) (tgt := 20) (by decide) dX1_tell_9 (fun _ => ?_) (fun z => absurd (by decide) z)
  refine G_iconst (pc := 20) (v := 0) (by decide) dX1_tell_20 ?_
  exact G_iret (pc := 21) (Nat.le_of_ble_eq_true rfl) (Nat.le_of_ble_eq_true rfl) rfl dX1_tell_21 ⟨rfl, rfl⟩
set_option maxRecDepth 100000 in
set_option maxHeartbeats 4000000 in
theorem s380_X1_melt  (d : Nat)   : G (d) mX1_melt 0 0 0 0 0 (gent 3 [.ref 19]) [] SH0 RF0 (gup (gup (gup (gup (gup (gup (gup (gup (gcp I0 24 34 (0 : Int32).toNatClampNeg (0 : Int32).toNatClampNeg (6 : Int32).toNatClampNeg) 34 6 0) 34 7 0) 19 1 1) 19 1 2) 19 1 3) 19 1 4) 19 1 5) 19 1 6) (fun r h => r = some (.int 0) ∧ h = (SH0, RF0, (gup (gup (gup (gup (gup (gup (gup (gup (gup (gcp I0 24 34 (0 : Int32).toNatClampNeg (0 : Int32).toNatClampNeg (6 : Int32).toNatClampNeg) 34 6 0) 34 7 0) 19 1 1) 19 1 2) 19 1 3) 19 1 4) 19 1 5) 19 1 6) 19 1 7))) := by
  refine G_iconst (pc := 0) (v := 0) (by decide) dX1_melt_0 ?_
  refine G_istore_n (pc := 1) (L1 := [some (.ref 19), some (.int 0), none]) rfl rfl (by decide) dX1_melt_1 ?_
  refine G_iconst (pc := 2) (v := 0) (by decide) dX1_melt_2 ?_
  refine G_istore_n (pc := 3) (L1 := [some (.ref 19), some (.int 0), some (.int 0)]) rfl rfl (by decide) dX1_melt_3 ?_
  refine G_iload_n (pc := 4) rfl dX1_melt_4 ?_
  refine G_aload_n (pc := 5) rfl dX1_melt_5 ?_
  refine G_getI (pc := 6) (v := 0) (ci := 1) (j := 8) rfl rfl lk_RX1_72 rfl rfl dX1_melt_6 ?_
  refine G_icmp_ge (pc := 9) (tgt := 60) (by decide) dX1_melt_9 (fun _ => ?_) (fun z => absurd (by decide) z)
  refine G_aload_n (pc := 60) rfl dX1_melt_60 ?_
  refine G_dup (pc := 61) rfl dX1_melt_61 ?_
  refine G_getI (pc := 62) (v := 6) (ci := 1) (j := 1) rfl rfl lk_RX1_60 rfl rfl dX1_melt_62 ?_
  refine G_iconst (pc := 65) (v := 1) (by decide) dX1_melt_65 ?_
  refine G_iadd (pc := 66) (z := 7) (by decide) dX1_melt_66 ?_
  refine G_putI (pc := 67) (ci := 1) (j := 1) rfl lk_RX1_60 rfl rfl rfl trivial dX1_melt_67 ?_
  refine G_iload_n (pc := 70) rfl dX1_melt_70 ?_
  exact G_iret (pc := 71) (Nat.le_of_ble_eq_true rfl) (Nat.le_of_ble_eq_true rfl) rfl dX1_melt_71 ⟨rfl, rfl⟩
set_option maxRecDepth 100000 in
set_option maxHeartbeats 4000000 in
theorem s381_X1_isOver  (d : Nat)   : G (d) mX1_isOver 0 0 0 0 0 (gent 1 [.ref 19]) [] SH0 RF0 (gup (gup (gup (gup (gup (gup (gup (gup (gup (gcp I0 24 34 (0 : Int32).toNatClampNeg (0 : Int32).toNatClampNeg (6 : Int32).toNatClampNeg) 34 6 0) 34 7 0) 19 1 1) 19 1 2) 19 1 3) 19 1 4) 19 1 5) 19 1 6) 19 1 7) (fun r h => r = some (.int 0) ∧ h = (SH0, RF0, (gup (gup (gup (gup (gup (gup (gup (gup (gup (gcp I0 24 34 (0 : Int32).toNatClampNeg (0 : Int32).toNatClampNeg (6 : Int32).toNatClampNeg) 34 6 0) 34 7 0) 19 1 1) 19 1 2) 19 1 3) 19 1 4) 19 1 5) 19 1 6) 19 1 7))) := by
  refine G_aload_n (pc := 0) rfl dX1_isOver_0 ?_
  refine G_getI (pc := 1) (v := 7) (ci := 1) (j := 1) rfl rfl lk_RX1_60 rfl rfl dX1_isOver_1 ?_
  refine G_aload_n (pc := 4) rfl dX1_isOver_4 ?_
  refine G_getI (pc := 5) (v := 12) (ci := 1) (j := 2) rfl rfl lk_RX1_9 rfl rfl dX1_isOver_5 ?_
  refine G_icmp_lt (pc := 8) (tgt := 15) (by decide) dX1_isOver_8 (fun _ => ?_) (fun z => absurd (by decide) z)
  refine G_iconst (pc := 15) (v := 0) (by decide) dX1_isOver_15 ?_
  exact G_zret (pc := 16) (Nat.le_of_ble_eq_true rfl) (Nat.le_of_ble_eq_true rfl) rfl (by decide) dX1_isOver_16 ⟨rfl, rfl⟩
set_option maxRecDepth 100000 in
set_option maxHeartbeats 4000000 in
theorem s382_X1_restAct  (d : Nat)   : G (d) mX1_restAct 0 0 0 0 0 (gent 2 [.ref 19]) [] SH0 RF0 (gup (gup (gup (gup (gup (gup (gup (gup (gup (gcp I0 24 34 (0 : Int32).toNatClampNeg (0 : Int32).toNatClampNeg (6 : Int32).toNatClampNeg) 34 6 0) 34 7 0) 19 1 1) 19 1 2) 19 1 3) 19 1 4) 19 1 5) 19 1 6) 19 1 7) (fun r h => r = some (.int 0) ∧ h = (SH0, RF0, (gup (gup (gup (gup (gup (gup (gup (gup (gup (gcp I0 24 34 (0 : Int32).toNatClampNeg (0 : Int32).toNatClampNeg (6 : Int32).toNatClampNeg) 34 6 0) 34 7 0) 19 1 1) 19 1 2) 19 1 3) 19 1 4) 19 1 5) 19 1 6) 19 1 7))) := by
  refine G_iconst (pc := 0) (v := 0) (by decide) dX1_restAct_0 ?_
  refine G_istore_n (pc := 1) (L1 := [some (.ref 19), some (.int 0)]) rfl rfl (by decide) dX1_restAct_1 ?_
  refine G_iload_n (pc := 2) rfl dX1_restAct_2 ?_
  refine G_aload_n (pc := 3) rfl dX1_restAct_3 ?_
  refine G_getI (pc := 4) (v := 0) (ci := 1) (j := 8) rfl rfl lk_RX1_72 rfl rfl dX1_restAct_4 ?_
  refine G_icmp_ge (pc := 7) (tgt := 36) (by decide) dX1_restAct_7 (fun _ => ?_) (fun z => absurd (by decide) z)
  refine G_iconst (pc := 36) (v := 0) (by decide) dX1_restAct_36 ?_
  exact G_iret (pc := 37) (Nat.le_of_ble_eq_true rfl) (Nat.le_of_ble_eq_true rfl) rfl dX1_restAct_37 ⟨rfl, rfl⟩
set_option maxRecDepth 100000 in
set_option maxHeartbeats 4000000 in
theorem s384_X1_isKey  (d : Nat)   : G (d) mX1_isKey 0 0 0 0 0 (gent 2 [.ref 19, .int (-1)]) [] SH0 RF0 (gup (gup (gup (gup (gup (gup (gup (gup (gup (gcp I0 24 34 (0 : Int32).toNatClampNeg (0 : Int32).toNatClampNeg (6 : Int32).toNatClampNeg) 34 6 0) 34 7 0) 19 1 1) 19 1 2) 19 1 3) 19 1 4) 19 1 5) 19 1 6) 19 1 7) (fun r h => r = some (.int 0) ∧ h = (SH0, RF0, (gup (gup (gup (gup (gup (gup (gup (gup (gup (gcp I0 24 34 (0 : Int32).toNatClampNeg (0 : Int32).toNatClampNeg (6 : Int32).toNatClampNeg) 34 6 0) 34 7 0) 19 1 1) 19 1 2) 19 1 3) 19 1 4) 19 1 5) 19 1 6) 19 1 7))) := by
  refine G_iload_n (pc := 0) rfl dX1_isKey_0 ?_
  refine G_if_lt (pc := 1) (tgt := 16) (by decide) dX1_isKey_1 (fun _ => ?_) (fun z => absurd (by decide) z)
  refine G_iconst (pc := 16) (v := 0) (by decide) dX1_isKey_16 ?_
  exact G_zret (pc := 17) (Nat.le_of_ble_eq_true rfl) (Nat.le_of_ble_eq_true rfl) rfl (by decide) dX1_isKey_17 ⟨rfl, rfl⟩
set_option maxRecDepth 100000 in
set_option maxHeartbeats 4000000 in
theorem s383_X1_tell  (d : Nat)   : G (d + 1) mX1_tell 0 0 0 0 0 (gent 5 [.ref 19, .int 0]) [] SH0 RF0 (gup (gup (gup (gup (gup (gup (gup (gup (gup (gcp I0 24 34 (0 : Int32).toNatClampNeg (0 : Int32).toNatClampNeg (6 : Int32).toNatClampNeg) 34 6 0) 34 7 0) 19 1 1) 19 1 2) 19 1 3) 19 1 4) 19 1 5) 19 1 6) 19 1 7) (fun r h => r = some (.int 0) ∧ h = (SH0, RF0, (gup (gup (gup (gup (gup (gup (gup (gup (gup (gcp I0 24 34 (0 : Int32).toNatClampNeg (0 : Int32).toNatClampNeg (6 : Int32).toNatClampNeg) 34 6 0) 34 7 0) 19 1 1) 19 1 2) 19 1 3) 19 1 4) 19 1 5) 19 1 6) 19 1 7))) := by
  refine G_iload_n (pc := 0) rfl dX1_tell_0 ?_
  refine G_iconst (pc := 1) (v := 1) (by decide) dX1_tell_1 ?_
  refine G_isub (pc := 2) (z := (-1)) (by decide) dX1_tell_2 ?_
  refine G_istore_n (pc := 3) (L1 := [some (.ref 19), some (.int 0), some (.int (-1)), none, none]) rfl rfl (by decide) dX1_tell_3 ?_
  refine G_aload_n (pc := 4) rfl dX1_tell_4 ?_
  refine G_iload_n (pc := 5) rfl dX1_tell_5 ?_
  refine G_callV (pc := 6) (mc1 := 0) (ms1 := 0) (ci := 1) (mj := mX1_isKey) (vs := [_]) dX1_tell_6 rfl rfl cm_X1_isKey wf_68 wf_13 wf_14 rfl (Nat.le_of_ble_eq_true rfl) (Nat.le_of_ble_eq_true rfl) (Nat.le_of_ble_eq_true rfl) (Nat.le_of_ble_eq_true rfl) (s384_X1_isKey  d  ) ?_
  rintro _ _ ⟨rfl, rfl⟩
  dsimp only [Option.toList, List.cons_append, List.nil_append]
  refine G_if_eq (pc := 9) (tgt := 20) (by decide) dX1_tell_9 (fun _ => ?_) (fun z => absurd (by decide) z)
  refine G_iconst (pc := 20) (v := 0) (by decide) dX1_tell_20 ?_
  exact G_iret (pc := 21) (Nat.le_of_ble_eq_true rfl) (Nat.le_of_ble_eq_true rfl) rfl dX1_tell_21 ⟨rfl, rfl⟩
set_option maxRecDepth 100000 in
set_option maxHeartbeats 4000000 in
theorem s385_X1_melt  (d : Nat)   : G (d) mX1_melt 0 0 0 0 0 (gent 3 [.ref 19]) [] SH0 RF0 (gup (gup (gup (gup (gup (gup (gup (gup (gup (gcp I0 24 34 (0 : Int32).toNatClampNeg (0 : Int32).toNatClampNeg (6 : Int32).toNatClampNeg) 34 6 0) 34 7 0) 19 1 1) 19 1 2) 19 1 3) 19 1 4) 19 1 5) 19 1 6) 19 1 7) (fun r h => r = some (.int 0) ∧ h = (SH0, RF0, (gup (gup (gup (gup (gup (gup (gup (gup (gup (gup (gcp I0 24 34 (0 : Int32).toNatClampNeg (0 : Int32).toNatClampNeg (6 : Int32).toNatClampNeg) 34 6 0) 34 7 0) 19 1 1) 19 1 2) 19 1 3) 19 1 4) 19 1 5) 19 1 6) 19 1 7) 19 1 8))) := by
  refine G_iconst (pc := 0) (v := 0) (by decide) dX1_melt_0 ?_
  refine G_istore_n (pc := 1) (L1 := [some (.ref 19), some (.int 0), none]) rfl rfl (by decide) dX1_melt_1 ?_
  refine G_iconst (pc := 2) (v := 0) (by decide) dX1_melt_2 ?_
  refine G_istore_n (pc := 3) (L1 := [some (.ref 19), some (.int 0), some (.int 0)]) rfl rfl (by decide) dX1_melt_3 ?_
  refine G_iload_n (pc := 4) rfl dX1_melt_4 ?_
  refine G_aload_n (pc := 5) rfl dX1_melt_5 ?_
  refine G_getI (pc := 6) (v := 0) (ci := 1) (j := 8) rfl rfl lk_RX1_72 rfl rfl dX1_melt_6 ?_
  refine G_icmp_ge (pc := 9) (tgt := 60) (by decide) dX1_melt_9 (fun _ => ?_) (fun z => absurd (by decide) z)
  refine G_aload_n (pc := 60) rfl dX1_melt_60 ?_
  refine G_dup (pc := 61) rfl dX1_melt_61 ?_
  refine G_getI (pc := 62) (v := 7) (ci := 1) (j := 1) rfl rfl lk_RX1_60 rfl rfl dX1_melt_62 ?_
  refine G_iconst (pc := 65) (v := 1) (by decide) dX1_melt_65 ?_
  refine G_iadd (pc := 66) (z := 8) (by decide) dX1_melt_66 ?_
  refine G_putI (pc := 67) (ci := 1) (j := 1) rfl lk_RX1_60 rfl rfl rfl trivial dX1_melt_67 ?_
  refine G_iload_n (pc := 70) rfl dX1_melt_70 ?_
  exact G_iret (pc := 71) (Nat.le_of_ble_eq_true rfl) (Nat.le_of_ble_eq_true rfl) rfl dX1_melt_71 ⟨rfl, rfl⟩
set_option maxRecDepth 100000 in
set_option maxHeartbeats 4000000 in
theorem s386_X1_isOver  (d : Nat)   : G (d) mX1_isOver 0 0 0 0 0 (gent 1 [.ref 19]) [] SH0 RF0 (gup (gup (gup (gup (gup (gup (gup (gup (gup (gup (gcp I0 24 34 (0 : Int32).toNatClampNeg (0 : Int32).toNatClampNeg (6 : Int32).toNatClampNeg) 34 6 0) 34 7 0) 19 1 1) 19 1 2) 19 1 3) 19 1 4) 19 1 5) 19 1 6) 19 1 7) 19 1 8) (fun r h => r = some (.int 0) ∧ h = (SH0, RF0, (gup (gup (gup (gup (gup (gup (gup (gup (gup (gup (gcp I0 24 34 (0 : Int32).toNatClampNeg (0 : Int32).toNatClampNeg (6 : Int32).toNatClampNeg) 34 6 0) 34 7 0) 19 1 1) 19 1 2) 19 1 3) 19 1 4) 19 1 5) 19 1 6) 19 1 7) 19 1 8))) := by
  refine G_aload_n (pc := 0) rfl dX1_isOver_0 ?_
  refine G_getI (pc := 1) (v := 8) (ci := 1) (j := 1) rfl rfl lk_RX1_60 rfl rfl dX1_isOver_1 ?_
  refine G_aload_n (pc := 4) rfl dX1_isOver_4 ?_
  refine G_getI (pc := 5) (v := 12) (ci := 1) (j := 2) rfl rfl lk_RX1_9 rfl rfl dX1_isOver_5 ?_
  refine G_icmp_lt (pc := 8) (tgt := 15) (by decide) dX1_isOver_8 (fun _ => ?_) (fun z => absurd (by decide) z)
  refine G_iconst (pc := 15) (v := 0) (by decide) dX1_isOver_15 ?_
  exact G_zret (pc := 16) (Nat.le_of_ble_eq_true rfl) (Nat.le_of_ble_eq_true rfl) rfl (by decide) dX1_isOver_16 ⟨rfl, rfl⟩
set_option maxRecDepth 100000 in
set_option maxHeartbeats 4000000 in
theorem s387_X1_restAct  (d : Nat)   : G (d) mX1_restAct 0 0 0 0 0 (gent 2 [.ref 19]) [] SH0 RF0 (gup (gup (gup (gup (gup (gup (gup (gup (gup (gup (gcp I0 24 34 (0 : Int32).toNatClampNeg (0 : Int32).toNatClampNeg (6 : Int32).toNatClampNeg) 34 6 0) 34 7 0) 19 1 1) 19 1 2) 19 1 3) 19 1 4) 19 1 5) 19 1 6) 19 1 7) 19 1 8) (fun r h => r = some (.int 0) ∧ h = (SH0, RF0, (gup (gup (gup (gup (gup (gup (gup (gup (gup (gup (gcp I0 24 34 (0 : Int32).toNatClampNeg (0 : Int32).toNatClampNeg (6 : Int32).toNatClampNeg) 34 6 0) 34 7 0) 19 1 1) 19 1 2) 19 1 3) 19 1 4) 19 1 5) 19 1 6) 19 1 7) 19 1 8))) := by
  refine G_iconst (pc := 0) (v := 0) (by decide) dX1_restAct_0 ?_
  refine G_istore_n (pc := 1) (L1 := [some (.ref 19), some (.int 0)]) rfl rfl (by decide) dX1_restAct_1 ?_
  refine G_iload_n (pc := 2) rfl dX1_restAct_2 ?_
  refine G_aload_n (pc := 3) rfl dX1_restAct_3 ?_
  refine G_getI (pc := 4) (v := 0) (ci := 1) (j := 8) rfl rfl lk_RX1_72 rfl rfl dX1_restAct_4 ?_
  refine G_icmp_ge (pc := 7) (tgt := 36) (by decide) dX1_restAct_7 (fun _ => ?_) (fun z => absurd (by decide) z)
  refine G_iconst (pc := 36) (v := 0) (by decide) dX1_restAct_36 ?_
  exact G_iret (pc := 37) (Nat.le_of_ble_eq_true rfl) (Nat.le_of_ble_eq_true rfl) rfl dX1_restAct_37 ⟨rfl, rfl⟩
set_option maxRecDepth 100000 in
set_option maxHeartbeats 4000000 in
theorem s389_X1_isKey  (d : Nat)   : G (d) mX1_isKey 0 0 0 0 0 (gent 2 [.ref 19, .int (-1)]) [] SH0 RF0 (gup (gup (gup (gup (gup (gup (gup (gup (gup (gup (gcp I0 24 34 (0 : Int32).toNatClampNeg (0 : Int32).toNatClampNeg (6 : Int32).toNatClampNeg) 34 6 0) 34 7 0) 19 1 1) 19 1 2) 19 1 3) 19 1 4) 19 1 5) 19 1 6) 19 1 7) 19 1 8) (fun r h => r = some (.int 0) ∧ h = (SH0, RF0, (gup (gup (gup (gup (gup (gup (gup (gup (gup (gup (gcp I0 24 34 (0 : Int32).toNatClampNeg (0 : Int32).toNatClampNeg (6 : Int32).toNatClampNeg) 34 6 0) 34 7 0) 19 1 1) 19 1 2) 19 1 3) 19 1 4) 19 1 5) 19 1 6) 19 1 7) 19 1 8))) := by
  refine G_iload_n (pc := 0) rfl dX1_isKey_0 ?_
  refine G_if_lt (pc := 1) (tgt := 16) (by decide) dX1_isKey_1 (fun _ => ?_) (fun z => absurd (by decide) z)
  refine G_iconst (pc := 16) (v := 0) (by decide) dX1_isKey_16 ?_
  exact G_zret (pc := 17) (Nat.le_of_ble_eq_true rfl) (Nat.le_of_ble_eq_true rfl) rfl (by decide) dX1_isKey_17 ⟨rfl, rfl⟩
set_option maxRecDepth 100000 in
set_option maxHeartbeats 4000000 in
theorem s388_X1_tell  (d : Nat)   : G (d + 1) mX1_tell 0 0 0 0 0 (gent 5 [.ref 19, .int 0]) [] SH0 RF0 (gup (gup (gup (gup (gup (gup (gup (gup (gup (gup (gcp I0 24 34 (0 : Int32).toNatClampNeg (0 : Int32).toNatClampNeg (6 : Int32).toNatClampNeg) 34 6 0) 34 7 0) 19 1 1) 19 1 2) 19 1 3) 19 1 4) 19 1 5) 19 1 6) 19 1 7) 19 1 8) (fun r h => r = some (.int 0) ∧ h = (SH0, RF0, (gup (gup (gup (gup (gup (gup (gup (gup (gup (gup (gcp I0 24 34 (0 : Int32).toNatClampNeg (0 : Int32).toNatClampNeg (6 : Int32).toNatClampNeg) 34 6 0) 34 7 0) 19 1 1) 19 1 2) 19 1 3) 19 1 4) 19 1 5) 19 1 6) 19 1 7) 19 1 8))) := by
  refine G_iload_n (pc := 0) rfl dX1_tell_0 ?_
  refine G_iconst (pc := 1) (v := 1) (by decide) dX1_tell_1 ?_
  refine G_isub (pc := 2) (z := (-1)) (by decide) dX1_tell_2 ?_
  refine G_istore_n (pc := 3) (L1 := [some (.ref 19), some (.int 0), some (.int (-1)), none, none]) rfl rfl (by decide) dX1_tell_3 ?_
  refine G_aload_n (pc := 4) rfl dX1_tell_4 ?_
  refine G_iload_n (pc := 5) rfl dX1_tell_5 ?_
  refine G_callV (pc := 6) (mc1 := 0) (ms1 := 0) (ci := 1) (mj := mX1_isKey) (vs := [_]) dX1_tell_6 rfl rfl cm_X1_isKey wf_68 wf_13 wf_14 rfl (Nat.le_of_ble_eq_true rfl) (Nat.le_of_ble_eq_true rfl) (Nat.le_of_ble_eq_true rfl) (Nat.le_of_ble_eq_true rfl) (s389_X1_isKey  d  ) ?_
  rintro _ _ ⟨rfl, rfl⟩
  dsimp only [Option.toList, List.cons_append, List.nil_append]
  refine G_if_eq (pc := 9) (tgt := 20) (by decide) dX1_tell_9 (fun _ => ?_) (fun z => absurd (by decide) z)
  refine G_iconst (pc := 20) (v := 0) (by decide) dX1_tell_20 ?_
  exact G_iret (pc := 21) (Nat.le_of_ble_eq_true rfl) (Nat.le_of_ble_eq_true rfl) rfl dX1_tell_21 ⟨rfl, rfl⟩
set_option maxRecDepth 100000 in
set_option maxHeartbeats 4000000 in
theorem s390_X1_melt  (d : Nat)   : G (d) mX1_melt 0 0 0 0 0 (gent 3 [.ref 19]) [] SH0 RF0 (gup (gup (gup (gup (gup (gup (gup (gup (gup (gup (gcp I0 24 34 (0 : Int32).toNatClampNeg (0 : Int32).toNatClampNeg (6 : Int32).toNatClampNeg) 34 6 0) 34 7 0) 19 1 1) 19 1 2) 19 1 3) 19 1 4) 19 1 5) 19 1 6) 19 1 7) 19 1 8) (fun r h => r = some (.int 0) ∧ h = (SH0, RF0, (gup (gup (gup (gup (gup (gup (gup (gup (gup (gup (gup (gcp I0 24 34 (0 : Int32).toNatClampNeg (0 : Int32).toNatClampNeg (6 : Int32).toNatClampNeg) 34 6 0) 34 7 0) 19 1 1) 19 1 2) 19 1 3) 19 1 4) 19 1 5) 19 1 6) 19 1 7) 19 1 8) 19 1 9))) := by
  refine G_iconst (pc := 0) (v := 0) (by decide) dX1_melt_0 ?_
  refine G_istore_n (pc := 1) (L1 := [some (.ref 19), some (.int 0), none]) rfl rfl (by decide) dX1_melt_1 ?_
  refine G_iconst (pc := 2) (v := 0) (by decide) dX1_melt_2 ?_
  refine G_istore_n (pc := 3) (L1 := [some (.ref 19), some (.int 0), some (.int 0)]) rfl rfl (by decide) dX1_melt_3 ?_
  refine G_iload_n (pc := 4) rfl dX1_melt_4 ?_
  refine G_aload_n (pc := 5) rfl dX1_melt_5 ?_
  refine G_getI (pc := 6) (v := 0) (ci := 1) (j := 8) rfl rfl lk_RX1_72 rfl rfl dX1_melt_6 ?_
  refine G_icmp_ge (pc := 9) (tgt := 60) (by decide) dX1_melt_9 (fun _ => ?_) (fun z => absurd (by decide) z)
  refine G_aload_n (pc := 60) rfl dX1_melt_60 ?_
  refine G_dup (pc := 61) rfl dX1_melt_61 ?_
  refine G_getI (pc := 62) (v := 8) (ci := 1) (j := 1) rfl rfl lk_RX1_60 rfl rfl dX1_melt_62 ?_
  refine G_iconst (pc := 65) (v := 1) (by decide) dX1_melt_65 ?_
  refine G_iadd (pc := 66) (z := 9) (by decide) dX1_melt_66 ?_
  refine G_putI (pc := 67) (ci := 1) (j := 1) rfl lk_RX1_60 rfl rfl rfl trivial dX1_melt_67 ?_
  refine G_iload_n (pc := 70) rfl dX1_melt_70 ?_
  exact G_iret (pc := 71) (Nat.le_of_ble_eq_true rfl) (Nat.le_of_ble_eq_true rfl) rfl dX1_melt_71 ⟨rfl, rfl⟩
set_option maxRecDepth 100000 in
set_option maxHeartbeats 4000000 in
theorem s391_X1_isOver  (d : Nat)   : G (d) mX1_isOver 0 0 0 0 0 (gent 1 [.ref 19]) [] SH0 RF0 (gup (gup (gup (gup (gup (gup (gup (gup (gup (gup (gup (gcp I0 24 34 (0 : Int32).toNatClampNeg (0 : Int32).toNatClampNeg (6 : Int32).toNatClampNeg) 34 6 0) 34 7 0) 19 1 1) 19 1 2) 19 1 3) 19 1 4) 19 1 5) 19 1 6) 19 1 7) 19 1 8) 19 1 9) (fun r h => r = some (.int 0) ∧ h = (SH0, RF0, (gup (gup (gup (gup (gup (gup (gup (gup (gup (gup (gup (gcp I0 24 34 (0 : Int32).toNatClampNeg (0 : Int32).toNatClampNeg (6 : Int32).toNatClampNeg) 34 6 0) 34 7 0) 19 1 1) 19 1 2) 19 1 3) 19 1 4) 19 1 5) 19 1 6) 19 1 7) 19 1 8) 19 1 9))) := by
  refine G_aload_n (pc := 0) rfl dX1_isOver_0 ?_
  refine G_getI (pc := 1) (v := 9) (ci := 1) (j := 1) rfl rfl lk_RX1_60 rfl rfl dX1_isOver_1 ?_
  refine G_aload_n (pc := 4) rfl dX1_isOver_4 ?_
  refine G_getI (pc := 5) (v := 12) (ci := 1) (j := 2) rfl rfl lk_RX1_9 rfl rfl dX1_isOver_5 ?_
  refine G_icmp_lt (pc := 8) (tgt := 15) (by decide) dX1_isOver_8 (fun _ => ?_) (fun z => absurd (by decide) z)
  refine G_iconst (pc := 15) (v := 0) (by decide) dX1_isOver_15 ?_
  exact G_zret (pc := 16) (Nat.le_of_ble_eq_true rfl) (Nat.le_of_ble_eq_true rfl) rfl (by decide) dX1_isOver_16 ⟨rfl, rfl⟩
set_option maxRecDepth 100000 in
set_option maxHeartbeats 4000000 in
theorem s392_X1_restAct  (d : Nat)   : G (d) mX1_restAct 0 0 0 0 0 (gent 2 [.ref 19]) [] SH0 RF0 (gup (gup (gup (gup (gup (gup (gup (gup (gup (gup (gup (gcp I0 24 34 (0 : Int32).toNatClampNeg (0 : Int32).toNatClampNeg (6 : Int32).toNatClampNeg) 34 6 0) 34 7 0) 19 1 1) 19 1 2) 19 1 3) 19 1 4) 19 1 5) 19 1 6) 19 1 7) 19 1 8) 19 1 9) (fun r h => r = some (.int 0) ∧ h = (SH0, RF0, (gup (gup (gup (gup (gup (gup (gup (gup (gup (gup (gup (gcp I0 24 34 (0 : Int32).toNatClampNeg (0 : Int32).toNatClampNeg (6 : Int32).toNatClampNeg) 34 6 0) 34 7 0) 19 1 1) 19 1 2) 19 1 3) 19 1 4) 19 1 5) 19 1 6) 19 1 7) 19 1 8) 19 1 9))) := by
  refine G_iconst (pc := 0) (v := 0) (by decide) dX1_restAct_0 ?_
  refine G_istore_n (pc := 1) (L1 := [some (.ref 19), some (.int 0)]) rfl rfl (by decide) dX1_restAct_1 ?_
  refine G_iload_n (pc := 2) rfl dX1_restAct_2 ?_
  refine G_aload_n (pc := 3) rfl dX1_restAct_3 ?_
  refine G_getI (pc := 4) (v := 0) (ci := 1) (j := 8) rfl rfl lk_RX1_72 rfl rfl dX1_restAct_4 ?_
  refine G_icmp_ge (pc := 7) (tgt := 36) (by decide) dX1_restAct_7 (fun _ => ?_) (fun z => absurd (by decide) z)
  refine G_iconst (pc := 36) (v := 0) (by decide) dX1_restAct_36 ?_
  exact G_iret (pc := 37) (Nat.le_of_ble_eq_true rfl) (Nat.le_of_ble_eq_true rfl) rfl dX1_restAct_37 ⟨rfl, rfl⟩
set_option maxRecDepth 100000 in
set_option maxHeartbeats 4000000 in
theorem s394_X1_isKey  (d : Nat)   : G (d) mX1_isKey 0 0 0 0 0 (gent 2 [.ref 19, .int (-1)]) [] SH0 RF0 (gup (gup (gup (gup (gup (gup (gup (gup (gup (gup (gup (gcp I0 24 34 (0 : Int32).toNatClampNeg (0 : Int32).toNatClampNeg (6 : Int32).toNatClampNeg) 34 6 0) 34 7 0) 19 1 1) 19 1 2) 19 1 3) 19 1 4) 19 1 5) 19 1 6) 19 1 7) 19 1 8) 19 1 9) (fun r h => r = some (.int 0) ∧ h = (SH0, RF0, (gup (gup (gup (gup (gup (gup (gup (gup (gup (gup (gup (gcp I0 24 34 (0 : Int32).toNatClampNeg (0 : Int32).toNatClampNeg (6 : Int32).toNatClampNeg) 34 6 0) 34 7 0) 19 1 1) 19 1 2) 19 1 3) 19 1 4) 19 1 5) 19 1 6) 19 1 7) 19 1 8) 19 1 9))) := by
  refine G_iload_n (pc := 0) rfl dX1_isKey_0 ?_
  refine G_if_lt (pc := 1) (tgt := 16) (by decide) dX1_isKey_1 (fun _ => ?_) (fun z => absurd (by decide) z)
  refine G_iconst (pc := 16) (v := 0) (by decide) dX1_isKey_16 ?_
  exact G_zret (pc := 17) (Nat.le_of_ble_eq_true rfl) (Nat.le_of_ble_eq_true rfl) rfl (by decide) dX1_isKey_17 ⟨rfl, rfl⟩
set_option maxRecDepth 100000 in
set_option maxHeartbeats 4000000 in
theorem s393_X1_tell  (d : Nat)   : G (d + 1) mX1_tell 0 0 0 0 0 (gent 5 [.ref 19, .int 0]) [] SH0 RF0 (gup (gup (gup (gup (gup (gup (gup (gup (gup (gup (gup (gcp I0 24 34 (0 : Int32).toNatClampNeg (0 : Int32).toNatClampNeg (6 : Int32).toNatClampNeg) 34 6 0) 34 7 0) 19 1 1) 19 1 2) 19 1 3) 19 1 4) 19 1 5) 19 1 6) 19 1 7) 19 1 8) 19 1 9) (fun r h => r = some (.int 0) ∧ h = (SH0, RF0, (gup (gup (gup (gup (gup (gup (gup (gup (gup (gup (gup (gcp I0 24 34 (0 : Int32).toNatClampNeg (0 : Int32).toNatClampNeg (6 : Int32).toNatClampNeg) 34 6 0) 34 7 0) 19 1 1) 19 1 2) 19 1 3) 19 1 4) 19 1 5) 19 1 6) 19 1 7) 19 1 8) 19 1 9))) := by
  refine G_iload_n (pc := 0) rfl dX1_tell_0 ?_
  refine G_iconst (pc := 1) (v := 1) (by decide) dX1_tell_1 ?_
  refine G_isub (pc := 2) (z := (-1)) (by decide) dX1_tell_2 ?_
  refine G_istore_n (pc := 3) (L1 := [some (.ref 19), some (.int 0), some (.int (-1)), none, none]) rfl rfl (by decide) dX1_tell_3 ?_
  refine G_aload_n (pc := 4) rfl dX1_tell_4 ?_
  refine G_iload_n (pc := 5) rfl dX1_tell_5 ?_
  refine G_callV (pc := 6) (mc1 := 0) (ms1 := 0) (ci := 1) (mj := mX1_isKey) (vs := [_]) dX1_tell_6 rfl rfl cm_X1_isKey wf_68 wf_13 wf_14 rfl (Nat.le_of_ble_eq_true rfl) (Nat.le_of_ble_eq_true rfl) (Nat.le_of_ble_eq_true rfl) (Nat.le_of_ble_eq_true rfl) (s394_X1_isKey  d  ) ?_
  rintro _ _ ⟨rfl, rfl⟩
  dsimp only [Option.toList, List.cons_append, List.nil_append]
  refine G_if_eq (pc := 9) (tgt := 20) (by decide) dX1_tell_9 (fun _ => ?_) (fun z => absurd (by decide) z)
  refine G_iconst (pc := 20) (v := 0) (by decide) dX1_tell_20 ?_
  exact G_iret (pc := 21) (Nat.le_of_ble_eq_true rfl) (Nat.le_of_ble_eq_true rfl) rfl dX1_tell_21 ⟨rfl, rfl⟩
set_option maxRecDepth 100000 in
set_option maxHeartbeats 4000000 in
theorem s395_X1_melt  (d : Nat)   : G (d) mX1_melt 0 0 0 0 0 (gent 3 [.ref 19]) [] SH0 RF0 (gup (gup (gup (gup (gup (gup (gup (gup (gup (gup (gup (gcp I0 24 34 (0 : Int32).toNatClampNeg (0 : Int32).toNatClampNeg (6 : Int32).toNatClampNeg) 34 6 0) 34 7 0) 19 1 1) 19 1 2) 19 1 3) 19 1 4) 19 1 5) 19 1 6) 19 1 7) 19 1 8) 19 1 9) (fun r h => r = some (.int 0) ∧ h = (SH0, RF0, (gup (gup (gup (gup (gup (gup (gup (gup (gup (gup (gup (gup (gcp I0 24 34 (0 : Int32).toNatClampNeg (0 : Int32).toNatClampNeg (6 : Int32).toNatClampNeg) 34 6 0) 34 7 0) 19 1 1) 19 1 2) 19 1 3) 19 1 4) 19 1 5) 19 1 6) 19 1 7) 19 1 8) 19 1 9) 19 1 10))) := by
  refine G_iconst (pc := 0) (v := 0) (by decide) dX1_melt_0 ?_
  refine G_istore_n (pc := 1) (L1 := [some (.ref 19), some (.int 0), none]) rfl rfl (by decide) dX1_melt_1 ?_
  refine G_iconst (pc := 2) (v := 0) (by decide) dX1_melt_2 ?_
  refine G_istore_n (pc := 3) (L1 := [some (.ref 19), some (.int 0), some (.int 0)]) rfl rfl (by decide) dX1_melt_3 ?_
  refine G_iload_n (pc := 4) rfl dX1_melt_4 ?_
  refine G_aload_n (pc := 5) rfl dX1_melt_5 ?_
  refine G_getI (pc := 6) (v := 0) (ci := 1) (j := 8) rfl rfl lk_RX1_72 rfl rfl dX1_melt_6 ?_
  refine G_icmp_ge (pc := 9) (tgt := 60) (by decide) dX1_melt_9 (fun _ => ?_) (fun z => absurd (by decide) z)
  refine G_aload_n (pc := 60) rfl dX1_melt_60 ?_
  refine G_dup (pc := 61) rfl dX1_melt_61 ?_
  refine G_getI (pc := 62) (v := 9) (ci := 1) (j := 1) rfl rfl lk_RX1_60 rfl rfl dX1_melt_62 ?_
  refine G_iconst (pc := 65) (v := 1) (by decide) dX1_melt_65 ?_
  refine G_iadd (pc := 66) (z := 10) (by decide) dX1_melt_66 ?_
  refine G_putI (pc := 67) (ci := 1) (j := 1) rfl lk_RX1_60 rfl rfl rfl trivial dX1_melt_67 ?_
  refine G_iload_n (pc := 70) rfl dX1_melt_70 ?_
  exact G_iret (pc := 71) (Nat.le_of_ble_eq_true rfl) (Nat.le_of_ble_eq_true rfl) rfl dX1_melt_71 ⟨rfl, rfl⟩
set_option maxRecDepth 100000 in
set_option maxHeartbeats 4000000 in
theorem s396_X1_isOver  (d : Nat)   : G (d) mX1_isOver 0 0 0 0 0 (gent 1 [.ref 19]) [] SH0 RF0 (gup (gup (gup (gup (gup (gup (gup (gup (gup (gup (gup (gup (gcp I0 24 34 (0 : Int32).toNatClampNeg (0 : Int32).toNatClampNeg (6 : Int32).toNatClampNeg) 34 6 0) 34 7 0) 19 1 1) 19 1 2) 19 1 3) 19 1 4) 19 1 5) 19 1 6) 19 1 7) 19 1 8) 19 1 9) 19 1 10) (fun r h => r = some (.int 0) ∧ h = (SH0, RF0, (gup (gup (gup (gup (gup (gup (gup (gup (gup (gup (gup (gup (gcp I0 24 34 (0 : Int32).toNatClampNeg (0 : Int32).toNatClampNeg (6 : Int32).toNatClampNeg) 34 6 0) 34 7 0) 19 1 1) 19 1 2) 19 1 3) 19 1 4) 19 1 5) 19 1 6) 19 1 7) 19 1 8) 19 1 9) 19 1 10))) := by
  refine G_aload_n (pc := 0) rfl dX1_isOver_0 ?_
  refine G_getI (pc := 1) (v := 10) (ci := 1) (j := 1) rfl rfl lk_RX1_60 rfl rfl dX1_isOver_1 ?_
  refine G_aload_n (pc := 4) rfl dX1_isOver_4 ?_
  refine G_getI (pc := 5) (v := 12) (ci := 1) (j := 2) rfl rfl lk_RX1_9 rfl rfl dX1_isOver_5 ?_
  refine G_icmp_lt (pc := 8) (tgt := 15) (by decide) dX1_isOver_8 (fun _ => ?_) (fun z => absurd (by decide) z)
  refine G_iconst (pc := 15) (v := 0) (by decide) dX1_isOver_15 ?_
  exact G_zret (pc := 16) (Nat.le_of_ble_eq_true rfl) (Nat.le_of_ble_eq_true rfl) rfl (by decide) dX1_isOver_16 ⟨rfl, rfl⟩
set_option maxRecDepth 100000 in
set_option maxHeartbeats 4000000 in
theorem s397_X1_restAct  (d : Nat)   : G (d) mX1_restAct 0 0 0 0 0 (gent 2 [.ref 19]) [] SH0 RF0 (gup (gup (gup (gup (gup (gup (gup (gup (gup (gup (gup (gup (gcp I0 24 34 (0 : Int32).toNatClampNeg (0 : Int32).toNatClampNeg (6 : Int32).toNatClampNeg) 34 6 0) 34 7 0) 19 1 1) 19 1 2) 19 1 3) 19 1 4) 19 1 5) 19 1 6) 19 1 7) 19 1 8) 19 1 9) 19 1 10) (fun r h => r = some (.int 0) ∧ h = (SH0, RF0, (gup (gup (gup (gup (gup (gup (gup (gup (gup (gup (gup (gup (gcp I0 24 34 (0 : Int32).toNatClampNeg (0 : Int32).toNatClampNeg (6 : Int32).toNatClampNeg) 34 6 0) 34 7 0) 19 1 1) 19 1 2) 19 1 3) 19 1 4) 19 1 5) 19 1 6) 19 1 7) 19 1 8) 19 1 9) 19 1 10))) := by
  refine G_iconst (pc := 0) (v := 0) (by decide) dX1_restAct_0 ?_
  refine G_istore_n (pc := 1) (L1 := [some (.ref 19), some (.int 0)]) rfl rfl (by decide) dX1_restAct_1 ?_
  refine G_iload_n (pc := 2) rfl dX1_restAct_2 ?_
  refine G_aload_n (pc := 3) rfl dX1_restAct_3 ?_
  refine G_getI (pc := 4) (v := 0) (ci := 1) (j := 8) rfl rfl lk_RX1_72 rfl rfl dX1_restAct_4 ?_
  refine G_icmp_ge (pc := 7) (tgt := 36) (by decide) dX1_restAct_7 (fun _ => ?_) (fun z => absurd (by decide) z)
  refine G_iconst (pc := 36) (v := 0) (by decide) dX1_restAct_36 ?_
  exact G_iret (pc := 37) (Nat.le_of_ble_eq_true rfl) (Nat.le_of_ble_eq_true rfl) rfl dX1_restAct_37 ⟨rfl, rfl⟩
set_option maxRecDepth 100000 in
set_option maxHeartbeats 4000000 in
theorem s399_X1_isKey  (d : Nat)   : G (d) mX1_isKey 0 0 0 0 0 (gent 2 [.ref 19, .int (-1)]) [] SH0 RF0 (gup (gup (gup (gup (gup (gup (gup (gup (gup (gup (gup (gup (gcp I0 24 34 (0 : Int32).toNatClampNeg (0 : Int32).toNatClampNeg (6 : Int32).toNatClampNeg) 34 6 0) 34 7 0) 19 1 1) 19 1 2) 19 1 3) 19 1 4) 19 1 5) 19 1 6) 19 1 7) 19 1 8) 19 1 9) 19 1 10) (fun r h => r = some (.int 0) ∧ h = (SH0, RF0, (gup (gup (gup (gup (gup (gup (gup (gup (gup (gup (gup (gup (gcp I0 24 34 (0 : Int32).toNatClampNeg (0 : Int32).toNatClampNeg (6 : Int32).toNatClampNeg) 34 6 0) 34 7 0) 19 1 1) 19 1 2) 19 1 3) 19 1 4) 19 1 5) 19 1 6) 19 1 7) 19 1 8) 19 1 9) 19 1 10))) := by
  refine G_iload_n (pc := 0) rfl dX1_isKey_0 ?_
  refine G_if_lt (pc := 1) (tgt := 16) (by decide) dX1_isKey_1 (fun _ => ?_) (fun z => absurd (by decide) z)
  refine G_iconst (pc := 16) (v := 0) (by decide) dX1_isKey_16 ?_
  exact G_zret (pc := 17) (Nat.le_of_ble_eq_true rfl) (Nat.le_of_ble_eq_true rfl) rfl (by decide) dX1_isKey_17 ⟨rfl, rfl⟩
set_option maxRecDepth 100000 in
set_option maxHeartbeats 4000000 in
theorem s398_X1_tell  (d : Nat)   : G (d + 1) mX1_tell 0 0 0 0 0 (gent 5 [.ref 19, .int 0]) [] SH0 RF0 (gup (gup (gup (gup (gup (gup (gup (gup (gup (gup (gup (gup (gcp I0 24 34 (0 : Int32).toNatClampNeg (0 : Int32).toNatClampNeg (6 : Int32).toNatClampNeg) 34 6 0) 34 7 0) 19 1 1) 19 1 2) 19 1 3) 19 1 4) 19 1 5) 19 1 6) 19 1 7) 19 1 8) 19 1 9) 19 1 10) (fun r h => r = some (.int 0) ∧ h = (SH0, RF0, (gup (gup (gup (gup (gup (gup (gup (gup (gup (gup (gup (gup (gcp I0 24 34 (0 : Int32).toNatClampNeg (0 : Int32).toNatClampNeg (6 : Int32).toNatClampNeg) 34 6 0) 34 7 0) 19 1 1) 19 1 2) 19 1 3) 19 1 4) 19 1 5) 19 1 6) 19 1 7) 19 1 8) 19 1 9) 19 1 10))) := by
  refine G_iload_n (pc := 0) rfl dX1_tell_0 ?_
  refine G_iconst (pc := 1) (v := 1) (by decide) dX1_tell_1 ?_
  refine G_isub (pc := 2) (z := (-1)) (by decide) dX1_tell_2 ?_
  refine G_istore_n (pc := 3) (L1 := [some (.ref 19), some (.int 0), some (.int (-1)), none, none]) rfl rfl (by decide) dX1_tell_3 ?_
  refine G_aload_n (pc := 4) rfl dX1_tell_4 ?_
  refine G_iload_n (pc := 5) rfl dX1_tell_5 ?_
  refine G_callV (pc := 6) (mc1 := 0) (ms1 := 0) (ci := 1) (mj := mX1_isKey) (vs := [_]) dX1_tell_6 rfl rfl cm_X1_isKey wf_68 wf_13 wf_14 rfl (Nat.le_of_ble_eq_true rfl) (Nat.le_of_ble_eq_true rfl) (Nat.le_of_ble_eq_true rfl) (Nat.le_of_ble_eq_true rfl) (s399_X1_isKey  d  ) ?_
  rintro _ _ ⟨rfl, rfl⟩
  dsimp only [Option.toList, List.cons_append, List.nil_append]
  refine G_if_eq (pc := 9) (tgt := 20) (by decide) dX1_tell_9 (fun _ => ?_) (fun z => absurd (by decide) z)
  refine G_iconst (pc := 20) (v := 0) (by decide) dX1_tell_20 ?_
  exact G_iret (pc := 21) (Nat.le_of_ble_eq_true rfl) (Nat.le_of_ble_eq_true rfl) rfl dX1_tell_21 ⟨rfl, rfl⟩
set_option maxRecDepth 100000 in
set_option maxHeartbeats 4000000 in
theorem s400_X1_melt  (d : Nat)   : G (d) mX1_melt 0 0 0 0 0 (gent 3 [.ref 19]) [] SH0 RF0 (gup (gup (gup (gup (gup (gup (gup (gup (gup (gup (gup (gup (gcp I0 24 34 (0 : Int32).toNatClampNeg (0 : Int32).toNatClampNeg (6 : Int32).toNatClampNeg) 34 6 0) 34 7 0) 19 1 1) 19 1 2) 19 1 3) 19 1 4) 19 1 5) 19 1 6) 19 1 7) 19 1 8) 19 1 9) 19 1 10) (fun r h => r = some (.int 0) ∧ h = (SH0, RF0, (gup (gup (gup (gup (gup (gup (gup (gup (gup (gup (gup (gup (gup (gcp I0 24 34 (0 : Int32).toNatClampNeg (0 : Int32).toNatClampNeg (6 : Int32).toNatClampNeg) 34 6 0) 34 7 0) 19 1 1) 19 1 2) 19 1 3) 19 1 4) 19 1 5) 19 1 6) 19 1 7) 19 1 8) 19 1 9) 19 1 10) 19 1 11))) := by
  refine G_iconst (pc := 0) (v := 0) (by decide) dX1_melt_0 ?_
  refine G_istore_n (pc := 1) (L1 := [some (.ref 19), some (.int 0), none]) rfl rfl (by decide) dX1_melt_1 ?_
  refine G_iconst (pc := 2) (v := 0) (by decide) dX1_melt_2 ?_
  refine G_istore_n (pc := 3) (L1 := [some (.ref 19), some (.int 0), some (.int 0)]) rfl rfl (by decide) dX1_melt_3 ?_
  refine G_iload_n (pc := 4) rfl dX1_melt_4 ?_
  refine G_aload_n (pc := 5) rfl dX1_melt_5 ?_
  refine G_getI (pc := 6) (v := 0) (ci := 1) (j := 8) rfl rfl lk_RX1_72 rfl rfl dX1_melt_6 ?_
  refine G_icmp_ge (pc := 9) (tgt := 60) (by decide) dX1_melt_9 (fun _ => ?_) (fun z => absurd (by decide) z)
  refine G_aload_n (pc := 60) rfl dX1_melt_60 ?_
  refine G_dup (pc := 61) rfl dX1_melt_61 ?_
  refine G_getI (pc := 62) (v := 10) (ci := 1) (j := 1) rfl rfl lk_RX1_60 rfl rfl dX1_melt_62 ?_
  refine G_iconst (pc := 65) (v := 1) (by decide) dX1_melt_65 ?_
  refine G_iadd (pc := 66) (z := 11) (by decide) dX1_melt_66 ?_
  refine G_putI (pc := 67) (ci := 1) (j := 1) rfl lk_RX1_60 rfl rfl rfl trivial dX1_melt_67 ?_
  refine G_iload_n (pc := 70) rfl dX1_melt_70 ?_
  exact G_iret (pc := 71) (Nat.le_of_ble_eq_true rfl) (Nat.le_of_ble_eq_true rfl) rfl dX1_melt_71 ⟨rfl, rfl⟩
set_option maxRecDepth 100000 in
set_option maxHeartbeats 4000000 in
theorem s401_X1_isOver  (d : Nat)   : G (d) mX1_isOver 0 0 0 0 0 (gent 1 [.ref 19]) [] SH0 RF0 (gup (gup (gup (gup (gup (gup (gup (gup (gup (gup (gup (gup (gup (gcp I0 24 34 (0 : Int32).toNatClampNeg (0 : Int32).toNatClampNeg (6 : Int32).toNatClampNeg) 34 6 0) 34 7 0) 19 1 1) 19 1 2) 19 1 3) 19 1 4) 19 1 5) 19 1 6) 19 1 7) 19 1 8) 19 1 9) 19 1 10) 19 1 11) (fun r h => r = some (.int 0) ∧ h = (SH0, RF0, (gup (gup (gup (gup (gup (gup (gup (gup (gup (gup (gup (gup (gup (gcp I0 24 34 (0 : Int32).toNatClampNeg (0 : Int32).toNatClampNeg (6 : Int32).toNatClampNeg) 34 6 0) 34 7 0) 19 1 1) 19 1 2) 19 1 3) 19 1 4) 19 1 5) 19 1 6) 19 1 7) 19 1 8) 19 1 9) 19 1 10) 19 1 11))) := by
  refine G_aload_n (pc := 0) rfl dX1_isOver_0 ?_
  refine G_getI (pc := 1) (v := 11) (ci := 1) (j := 1) rfl rfl lk_RX1_60 rfl rfl dX1_isOver_1 ?_
  refine G_aload_n (pc := 4) rfl dX1_isOver_4 ?_
  refine G_getI (pc := 5) (v := 12) (ci := 1) (j := 2) rfl rfl lk_RX1_9 rfl rfl dX1_isOver_5 ?_
  refine G_icmp_lt (pc := 8) (tgt := 15) (by decide) dX1_isOver_8 (fun _ => ?_) (fun z => absurd (by decide) z)
  refine G_iconst (pc := 15) (v := 0) (by decide) dX1_isOver_15 ?_
  exact G_zret (pc := 16) (Nat.le_of_ble_eq_true rfl) (Nat.le_of_ble_eq_true rfl) rfl (by decide) dX1_isOver_16 ⟨rfl, rfl⟩
set_option maxRecDepth 100000 in
set_option maxHeartbeats 4000000 in
theorem s402_X1_restAct  (d : Nat)   : G (d) mX1_restAct 0 0 0 0 0 (gent 2 [.ref 19]) [] SH0 RF0 (gup (gup (gup (gup (gup (gup (gup (gup (gup (gup (gup (gup (gup (gcp I0 24 34 (0 : Int32).toNatClampNeg (0 : Int32).toNatClampNeg (6 : Int32).toNatClampNeg) 34 6 0) 34 7 0) 19 1 1) 19 1 2) 19 1 3) 19 1 4) 19 1 5) 19 1 6) 19 1 7) 19 1 8) 19 1 9) 19 1 10) 19 1 11) (fun r h => r = some (.int 0) ∧ h = (SH0, RF0, (gup (gup (gup (gup (gup (gup (gup (gup (gup (gup (gup (gup (gup (gcp I0 24 34 (0 : Int32).toNatClampNeg (0 : Int32).toNatClampNeg (6 : Int32).toNatClampNeg) 34 6 0) 34 7 0) 19 1 1) 19 1 2) 19 1 3) 19 1 4) 19 1 5) 19 1 6) 19 1 7) 19 1 8) 19 1 9) 19 1 10) 19 1 11))) := by
  refine G_iconst (pc := 0) (v := 0) (by decide) dX1_restAct_0 ?_
  refine G_istore_n (pc := 1) (L1 := [some (.ref 19), some (.int 0)]) rfl rfl (by decide) dX1_restAct_1 ?_
  refine G_iload_n (pc := 2) rfl dX1_restAct_2 ?_
  refine G_aload_n (pc := 3) rfl dX1_restAct_3 ?_
  refine G_getI (pc := 4) (v := 0) (ci := 1) (j := 8) rfl rfl lk_RX1_72 rfl rfl dX1_restAct_4 ?_
  refine G_icmp_ge (pc := 7) (tgt := 36) (by decide) dX1_restAct_7 (fun _ => ?_) (fun z => absurd (by decide) z)
  refine G_iconst (pc := 36) (v := 0) (by decide) dX1_restAct_36 ?_
  exact G_iret (pc := 37) (Nat.le_of_ble_eq_true rfl) (Nat.le_of_ble_eq_true rfl) rfl dX1_restAct_37 ⟨rfl, rfl⟩
set_option maxRecDepth 100000 in
set_option maxHeartbeats 4000000 in
theorem s404_X1_isKey  (d : Nat)   : G (d) mX1_isKey 0 0 0 0 0 (gent 2 [.ref 19, .int (-1)]) [] SH0 RF0 (gup (gup (gup (gup (gup (gup (gup (gup (gup (gup (gup (gup (gup (gcp I0 24 34 (0 : Int32).toNatClampNeg (0 : Int32).toNatClampNeg (6 : Int32).toNatClampNeg) 34 6 0) 34 7 0) 19 1 1) 19 1 2) 19 1 3) 19 1 4) 19 1 5) 19 1 6) 19 1 7) 19 1 8) 19 1 9) 19 1 10) 19 1 11) (fun r h => r = some (.int 0) ∧ h = (SH0, RF0, (gup (gup (gup (gup (gup (gup (gup (gup (gup (gup (gup (gup (gup (gcp I0 24 34 (0 : Int32).toNatClampNeg (0 : Int32).toNatClampNeg (6 : Int32).toNatClampNeg) 34 6 0) 34 7 0) 19 1 1) 19 1 2) 19 1 3) 19 1 4) 19 1 5) 19 1 6) 19 1 7) 19 1 8) 19 1 9) 19 1 10) 19 1 11))) := by
  refine G_iload_n (pc := 0) rfl dX1_isKey_0 ?_
  refine G_if_lt (pc := 1) (tgt := 16) (by decide) dX1_isKey_1 (fun _ => ?_) (fun z => absurd (by decide) z)
  refine G_iconst (pc := 16) (v := 0) (by decide) dX1_isKey_16 ?_
  exact G_zret (pc := 17) (Nat.le_of_ble_eq_true rfl) (Nat.le_of_ble_eq_true rfl) rfl (by decide) dX1_isKey_17 ⟨rfl, rfl⟩
set_option maxRecDepth 100000 in
set_option maxHeartbeats 4000000 in
theorem s403_X1_tell  (d : Nat)   : G (d + 1) mX1_tell 0 0 0 0 0 (gent 5 [.ref 19, .int 0]) [] SH0 RF0 (gup (gup (gup (gup (gup (gup (gup (gup (gup (gup (gup (gup (gup (gcp I0 24 34 (0 : Int32).toNatClampNeg (0 : Int32).toNatClampNeg (6 : Int32).toNatClampNeg) 34 6 0) 34 7 0) 19 1 1) 19 1 2) 19 1 3) 19 1 4) 19 1 5) 19 1 6) 19 1 7) 19 1 8) 19 1 9) 19 1 10) 19 1 11) (fun r h => r = some (.int 0) ∧ h = (SH0, RF0, (gup (gup (gup (gup (gup (gup (gup (gup (gup (gup (gup (gup (gup (gcp I0 24 34 (0 : Int32).toNatClampNeg (0 : Int32).toNatClampNeg (6 : Int32).toNatClampNeg) 34 6 0) 34 7 0) 19 1 1) 19 1 2) 19 1 3) 19 1 4) 19 1 5) 19 1 6) 19 1 7) 19 1 8) 19 1 9) 19 1 10) 19 1 11))) := by
  refine G_iload_n (pc := 0) rfl dX1_tell_0 ?_
  refine G_iconst (pc := 1) (v := 1) (by decide) dX1_tell_1 ?_
  refine G_isub (pc := 2) (z := (-1)) (by decide) dX1_tell_2 ?_
  refine G_istore_n (pc := 3) (L1 := [some (.ref 19), some (.int 0), some (.int (-1)), none, none]) rfl rfl (by decide) dX1_tell_3 ?_
  refine G_aload_n (pc := 4) rfl dX1_tell_4 ?_
  refine G_iload_n (pc := 5) rfl dX1_tell_5 ?_
  refine G_callV (pc := 6) (mc1 := 0) (ms1 := 0) (ci := 1) (mj := mX1_isKey) (vs := [_]) dX1_tell_6 rfl rfl cm_X1_isKey wf_68 wf_13 wf_14 rfl (Nat.le_of_ble_eq_true rfl) (Nat.le_of_ble_eq_true rfl) (Nat.le_of_ble_eq_true rfl) (Nat.le_of_ble_eq_true rfl) (s404_X1_isKey  d  ) ?_
  rintro _ _ ⟨rfl, rfl⟩
  dsimp only [Option.toList, List.cons_append, List.nil_append]
  refine G_if_eq (pc := 9) (tgt := 20) (by decide) dX1_tell_9 (fun _ => ?_) (fun z => absurd (by decide) z)
  refine G_iconst (pc := 20) (v := 0) (by decide) dX1_tell_20 ?_
  exact G_iret (pc := 21) (Nat.le_of_ble_eq_true rfl) (Nat.le_of_ble_eq_true rfl) rfl dX1_tell_21 ⟨rfl, rfl⟩
set_option maxRecDepth 100000 in
set_option maxHeartbeats 4000000 in
theorem s405_X1_melt  (d : Nat)   : G (d) mX1_melt 0 0 0 0 0 (gent 3 [.ref 19]) [] SH0 RF0 (gup (gup (gup (gup (gup (gup (gup (gup (gup (gup (gup (gup (gup (gcp I0 24 34 (0 : Int32).toNatClampNeg (0 : Int32).toNatClampNeg (6 : Int32).toNatClampNeg) 34 6 0) 34 7 0) 19 1 1) 19 1 2) 19 1 3) 19 1 4) 19 1 5) 19 1 6) 19 1 7) 19 1 8) 19 1 9) 19 1 10) 19 1 11) (fun r h => r = some (.int 0) ∧ h = (SH0, RF0, (gup (gup (gup (gup (gup (gup (gup (gup (gup (gup (gup (gup (gup (gup (gcp I0 24 34 (0 : Int32).toNatClampNeg (0 : Int32).toNatClampNeg (6 : Int32).toNatClampNeg) 34 6 0) 34 7 0) 19 1 1) 19 1 2) 19 1 3) 19 1 4) 19 1 5) 19 1 6) 19 1 7) 19 1 8) 19 1 9) 19 1 10) 19 1 11) 19 1 12))) := by
  refine G_iconst (pc := 0) (v := 0) (by decide) dX1_melt_0 ?_
  refine G_istore_n (pc := 1) (L1 := [some (.ref 19), some (.int 0), none]) rfl rfl (by decide) dX1_melt_1 ?_
  refine G_iconst (pc := 2) (v := 0) (by decide) dX1_melt_2 ?_
  refine G_istore_n (pc := 3) (L1 := [some (.ref 19), some (.int 0), some (.int 0)]) rfl rfl (by decide) dX1_melt_3 ?_
  refine G_iload_n (pc := 4) rfl dX1_melt_4 ?_
  refine G_aload_n (pc := 5) rfl dX1_melt_5 ?_
  refine G_getI (pc := 6) (v := 0) (ci := 1) (j := 8) rfl rfl lk_RX1_72 rfl rfl dX1_melt_6 ?_
  refine G_icmp_ge (pc := 9) (tgt := 60) (by decide) dX1_melt_9 (fun _ => ?_) (fun z => absurd (by decide) z)
  refine G_aload_n (pc := 60) rfl dX1_melt_60 ?_
  refine G_dup (pc := 61) rfl dX1_melt_61 ?_
  refine G_getI (pc := 62) (v := 11) (ci := 1) (j := 1) rfl rfl lk_RX1_60 rfl rfl dX1_melt_62 ?_
  refine G_iconst (pc := 65) (v := 1) (by decide) dX1_melt_65 ?_
  refine G_iadd (pc := 66) (z := 12) (by decide) dX1_melt_66 ?_
  refine G_putI (pc := 67) (ci := 1) (j := 1) rfl lk_RX1_60 rfl rfl rfl trivial dX1_melt_67 ?_
  refine G_iload_n (pc := 70) rfl dX1_melt_70 ?_
  exact G_iret (pc := 71) (Nat.le_of_ble_eq_true rfl) (Nat.le_of_ble_eq_true rfl) rfl dX1_melt_71 ⟨rfl, rfl⟩
set_option maxRecDepth 100000 in
set_option maxHeartbeats 4000000 in
theorem s406_X1_isOver  (d : Nat)   : G (d) mX1_isOver 0 0 0 0 0 (gent 1 [.ref 19]) [] SH0 RF0 (gup (gup (gup (gup (gup (gup (gup (gup (gup (gup (gup (gup (gup (gup (gcp I0 24 34 (0 : Int32).toNatClampNeg (0 : Int32).toNatClampNeg (6 : Int32).toNatClampNeg) 34 6 0) 34 7 0) 19 1 1) 19 1 2) 19 1 3) 19 1 4) 19 1 5) 19 1 6) 19 1 7) 19 1 8) 19 1 9) 19 1 10) 19 1 11) 19 1 12) (fun r h => r = some (.int 1) ∧ h = (SH0, RF0, (gup (gup (gup (gup (gup (gup (gup (gup (gup (gup (gup (gup (gup (gup (gcp I0 24 34 (0 : Int32).toNatClampNeg (0 : Int32).toNatClampNeg (6 : Int32).toNatClampNeg) 34 6 0) 34 7 0) 19 1 1) 19 1 2) 19 1 3) 19 1 4) 19 1 5) 19 1 6) 19 1 7) 19 1 8) 19 1 9) 19 1 10) 19 1 11) 19 1 12))) := by
  refine G_aload_n (pc := 0) rfl dX1_isOver_0 ?_
  refine G_getI (pc := 1) (v := 12) (ci := 1) (j := 1) rfl rfl lk_RX1_60 rfl rfl dX1_isOver_1 ?_
  refine G_aload_n (pc := 4) rfl dX1_isOver_4 ?_
  refine G_getI (pc := 5) (v := 12) (ci := 1) (j := 2) rfl rfl lk_RX1_9 rfl rfl dX1_isOver_5 ?_
  refine G_icmp_lt (pc := 8) (tgt := 15) (by decide) dX1_isOver_8 (fun z => absurd z (by decide)) (fun _ => ?_)
  refine G_iconst (pc := 11) (v := 1) (by decide) dX1_isOver_11 ?_
  refine G_goto (pc := 12) (tgt := 16) (by decide) dX1_isOver_12 ?_
  exact G_zret (pc := 16) (Nat.le_of_ble_eq_true rfl) (Nat.le_of_ble_eq_true rfl) rfl (by decide) dX1_isOver_16 ⟨rfl, rfl⟩
set_option maxRecDepth 100000 in
set_option maxHeartbeats 4000000 in
theorem s407_X1_goRest  (d : Nat)   : G (d) mX1_goRest 0 0 0 0 0 (gent 4 [.ref 19, .int 0]) [] SH0 RF0 (gup (gup (gcp I0 24 34 (0 : Int32).toNatClampNeg (0 : Int32).toNatClampNeg (6 : Int32).toNatClampNeg) 34 6 0) 34 7 0) (fun r h => r = some (.int 0) ∧ h = (SH0, RF0, (gup (gup (gcp I0 24 34 (0 : Int32).toNatClampNeg (0 : Int32).toNatClampNeg (6 : Int32).toNatClampNeg) 34 6 0) 34 7 0))) := by
  refine G_iconst (pc := 0) (v := 0) (by decide) dX1_goRest_0 ?_
  refine G_istore_n (pc := 1) (L1 := [some (.ref 19), some (.int 0), some (.int 0), none]) rfl rfl (by decide) dX1_goRest_1 ?_
  refine G_iconst (pc := 2) (v := 0) (by decide) dX1_goRest_2 ?_
  refine G_istore_n (pc := 3) (L1 := [some (.ref 19), some (.int 0), some (.int 0), some (.int 0)]) rfl rfl (by decide) dX1_goRest_3 ?_
  refine G_iload_n (pc := 4) rfl dX1_goRest_4 ?_
  refine G_iload_n (pc := 5) rfl dX1_goRest_5 ?_
  refine G_icmp_ge (pc := 6) (tgt := 38) (by decide) dX1_goRest_6 (fun _ => ?_) (fun z => absurd (by decide) z)
  refine G_iload_n (pc := 38) rfl dX1_goRest_38 ?_
  exact G_iret (pc := 39) (Nat.le_of_ble_eq_true rfl) (Nat.le_of_ble_eq_true rfl) rfl dX1_goRest_39 ⟨rfl, rfl⟩
set_option maxRecDepth 100000 in
set_option maxHeartbeats 4000000 in
theorem s408_X1_goRest  (d : Nat)   : G (d + 2) mX1_goRest 0 0 0 0 0 (gent 4 [.ref 19, .int 1]) [] SH0 RF0 (gup (gup (gcp I0 24 34 (0 : Int32).toNatClampNeg (0 : Int32).toNatClampNeg (6 : Int32).toNatClampNeg) 34 6 0) 34 7 0) (fun r h => r = some (.int 0) ∧ h = (SH0, RF0, (gup (gup (gup (gcp I0 24 34 (0 : Int32).toNatClampNeg (0 : Int32).toNatClampNeg (6 : Int32).toNatClampNeg) 34 6 0) 34 7 0) 19 1 1))) := by
  refine G_iconst (pc := 0) (v := 0) (by decide) dX1_goRest_0 ?_
  refine G_istore_n (pc := 1) (L1 := [some (.ref 19), some (.int 1), some (.int 0), none]) rfl rfl (by decide) dX1_goRest_1 ?_
  refine G_iconst (pc := 2) (v := 0) (by decide) dX1_goRest_2 ?_
  refine G_istore_n (pc := 3) (L1 := [some (.ref 19), some (.int 1), some (.int 0), some (.int 0)]) rfl rfl (by decide) dX1_goRest_3 ?_
  refine G_iload_n (pc := 4) rfl dX1_goRest_4 ?_
  refine G_iload_n (pc := 5) rfl dX1_goRest_5 ?_
  refine G_icmp_ge (pc := 6) (tgt := 38) (by decide) dX1_goRest_6 (fun z => absurd z (by decide)) (fun _ => ?_)
  refine G_aload_n (pc := 9) rfl dX1_goRest_9 ?_
  refine G_callV (pc := 10) (mc1 := 0) (ms1 := 0) (ci := 1) (mj := mX1_isOver) (vs := []) dX1_goRest_10 rfl rfl cm_X1_isOver wf_172 wf_17 wf_18 rfl (Nat.le_of_ble_eq_true rfl) (Nat.le_of_ble_eq_true rfl) (Nat.le_of_ble_eq_true rfl) (Nat.le_of_ble_eq_true rfl) (s350_X1_isOver  (d + 1)  ) ?_
  rintro _ _ ⟨rfl, rfl⟩
  dsimp only [Option.toList, List.cons_append, List.nil_append]
  refine G_if_ne (pc := 13) (tgt := 38) (by decide) dX1_goRest_13 (fun z => absurd (by decide) z) (fun _ => ?_)
  refine G_iload_n (pc := 16) rfl dX1_goRest_16 ?_
  refine G_aload_n (pc := 17) rfl dX1_goRest_17 ?_
  refine G_aload_n (pc := 18) rfl dX1_goRest_18 ?_
  refine G_callV (pc := 19) (mc1 := 0) (ms1 := 0) (ci := 1) (mj := mX1_restAct) (vs := []) dX1_goRest_19 rfl rfl cm_X1_restAct wf_173 wf_66 wf_67 rfl (Nat.le_of_ble_eq_true rfl) (Nat.le_of_ble_eq_true rfl) (Nat.le_of_ble_eq_true rfl) (Nat.le_of_ble_eq_true rfl) (s351_X1_restAct  (d + 1)  ) ?_
  rintro _ _ ⟨rfl, rfl⟩
  dsimp only [Option.toList, List.cons_append, List.nil_append]
  refine G_callV (pc := 22) (mc1 := 0) (ms1 := 0) (ci := 1) (mj := mX1_tell) (vs := [_]) dX1_goRest_22 rfl rfl cm_X1_tell wf_69 wf_71 wf_72 rfl (Nat.le_of_ble_eq_true rfl) (Nat.le_of_ble_eq_true rfl) (Nat.le_of_ble_eq_true rfl) (Nat.le_of_ble_eq_true rfl) (s145_X1_tell  d  ) ?_
  rintro _ _ ⟨rfl, rfl⟩
  dsimp only [Option.toList, List.cons_append, List.nil_append]
  refine G_aload_n (pc := 25) rfl dX1_goRest_25 ?_
  refine G_callV (pc := 26) (mc1 := 0) (ms1 := 0) (ci := 1) (mj := mX1_melt) (vs := []) dX1_goRest_26 rfl rfl cm_X1_melt wf_73 wf_75 wf_76 rfl (Nat.le_of_ble_eq_true rfl) (Nat.le_of_ble_eq_true rfl) (Nat.le_of_ble_eq_true rfl) (Nat.le_of_ble_eq_true rfl) (s147_X1_melt  (d + 1)  ) ?_
  rintro _ _ ⟨rfl, rfl⟩
  dsimp only [Option.toList, List.cons_append, List.nil_append]
  refine G_iadd (pc := 29) (z := 0) (by decide) dX1_goRest_29 ?_
  refine G_iadd (pc := 30) (z := 0) (by decide) dX1_goRest_30 ?_
  refine G_istore_n (pc := 31) (L1 := [some (.ref 19), some (.int 1), some (.int 0), some (.int 0)]) rfl rfl (by decide) dX1_goRest_31 ?_
  refine G_iinc (pc := 32) (v := 1) (w := 1) (L1 := [some (.ref 19), some (.int 1), some (.int 0), some (.int 1)]) (by decide) rfl rfl (by decide) rfl (by decide) dX1_goRest_32 ?_
  refine G_goto (pc := 35) (tgt := 4) (by decide) dX1_goRest_35 ?_
  refine G_iload_n (pc := 4) rfl dX1_goRest_4 ?_
  refine G_iload_n (pc := 5) rfl dX1_goRest_5 ?_
  refine G_icmp_ge (pc := 6) (tgt := 38) (by decide) dX1_goRest_6 (fun _ => ?_) (fun z => absurd (by decide) z)
  refine G_iload_n (pc := 38) rfl dX1_goRest_38 ?_
  exact G_iret (pc := 39) (Nat.le_of_ble_eq_true rfl) (Nat.le_of_ble_eq_true rfl) rfl dX1_goRest_39 ⟨rfl, rfl⟩
set_option maxRecDepth 100000 in
set_option maxHeartbeats 4000000 in
theorem s409_X1_goRest  (d : Nat)   : G (d + 2) mX1_goRest 0 0 0 0 0 (gent 4 [.ref 19, .int 2]) [] SH0 RF0 (gup (gup (gcp I0 24 34 (0 : Int32).toNatClampNeg (0 : Int32).toNatClampNeg (6 : Int32).toNatClampNeg) 34 6 0) 34 7 0) (fun r h => r = some (.int 0) ∧ h = (SH0, RF0, (gup (gup (gup (gup (gcp I0 24 34 (0 : Int32).toNatClampNeg (0 : Int32).toNatClampNeg (6 : Int32).toNatClampNeg) 34 6 0) 34 7 0) 19 1 1) 19 1 2))) := by
  refine G_iconst (pc := 0) (v := 0) (by decide) dX1_goRest_0 ?_
  refine G_istore_n (pc := 1) (L1 := [some (.ref 19), some (.int 2), some (.int 0), none]) rfl rfl (by decide) dX1_goRest_1 ?_
  refine G_iconst (pc := 2) (v := 0) (by decide) dX1_goRest_2 ?_
  refine G_istore_n (pc := 3) (L1 := [some (.ref 19), some (.int 2), some (.int 0), some (.int 0)]) rfl rfl (by decide) dX1_goRest_3 ?_
  refine G_iload_n (pc := 4) rfl dX1_goRest_4 ?_
  refine G_iload_n (pc := 5) rfl dX1_goRest_5 ?_
  refine G_icmp_ge (pc := 6) (tgt := 38) (by decide) dX1_goRest_6 (fun z => absurd z (by decide)) (fun _ => ?_)
  refine G_aload_n (pc := 9) rfl dX1_goRest_9 ?_
  refine G_callV (pc := 10) (mc1 := 0) (ms1 := 0) (ci := 1) (mj := mX1_isOver) (vs := []) dX1_goRest_10 rfl rfl cm_X1_isOver wf_172 wf_17 wf_18 rfl (Nat.le_of_ble_eq_true rfl) (Nat.le_of_ble_eq_true rfl) (Nat.le_of_ble_eq_true rfl) (Nat.le_of_ble_eq_true rfl) (s350_X1_isOver  (d + 1)  ) ?_
  rintro _ _ ⟨rfl, rfl⟩
  dsimp only [Option.toList, List.cons_append, List.nil_append]
  refine G_if_ne (pc := 13) (tgt := 38) (by decide) dX1_goRest_13 (fun z => absurd (by decide) z) (fun _ => ?_)
  refine G_iload_n (pc := 16) rfl dX1_goRest_16 ?_
  refine G_aload_n (pc := 17) rfl dX1_goRest_17 ?_
  refine G_aload_n (pc := 18) rfl dX1_goRest_18 ?_
  refine G_callV (pc := 19) (mc1 := 0) (ms1 := 0) (ci := 1) (mj := mX1_restAct) (vs := []) dX1_goRest_19 rfl rfl cm_X1_restAct wf_173 wf_66 wf_67 rfl (Nat.le_of_ble_eq_true rfl) (Nat.le_of_ble_eq_true rfl) (Nat.le_of_ble_eq_true rfl) (Nat.le_of_ble_eq_true rfl) (s351_X1_restAct  (d + 1)  ) ?_
  rintro _ _ ⟨rfl, rfl⟩
  dsimp only [Option.toList, List.cons_append, List.nil_append]
  refine G_callV (pc := 22) (mc1 := 0) (ms1 := 0) (ci := 1) (mj := mX1_tell) (vs := [_]) dX1_goRest_22 rfl rfl cm_X1_tell wf_69 wf_71 wf_72 rfl (Nat.le_of_ble_eq_true rfl) (Nat.le_of_ble_eq_true rfl) (Nat.le_of_ble_eq_true rfl) (Nat.le_of_ble_eq_true rfl) (s145_X1_tell  d  ) ?_
  rintro _ _ ⟨rfl, rfl⟩
  dsimp only [Option.toList, List.cons_append, List.nil_append]
  refine G_aload_n (pc := 25) rfl dX1_goRest_25 ?_
  refine G_callV (pc := 26) (mc1 := 0) (ms1 := 0) (ci := 1) (mj := mX1_melt) (vs := []) dX1_goRest_26 rfl rfl cm_X1_melt wf_73 wf_75 wf_76 rfl (Nat.le_of_ble_eq_true rfl) (Nat.le_of_ble_eq_true rfl) (Nat.le_of_ble_eq_true rfl) (Nat.le_of_ble_eq_true rfl) (s147_X1_melt  (d + 1)  ) ?_
  rintro _ _ ⟨rfl, rfl⟩
  dsimp only [Option.toList, List.cons_append, List.nil_append]
  refine G_iadd (pc := 29) (z := 0) (by decide) dX1_goRest_29 ?_
  refine G_iadd (pc := 30) (z := 0) (by decide) dX1_goRest_30 ?_
  refine G_istore_n (pc := 31) (L1 := [some (.ref 19), some (.int 2), some (.int 0), some (.int 0)]) rfl rfl (by decide) dX1_goRest_31 ?_
  refine G_iinc (pc := 32) (v := 1) (w := 1) (L1 := [some (.ref 19), some (.int 2), some (.int 0), some (.int 1)]) (by decide) rfl rfl (by decide) rfl (by decide) dX1_goRest_32 ?_
  refine G_goto (pc := 35) (tgt := 4) (by decide) dX1_goRest_35 ?_
  refine G_iload_n (pc := 4) rfl dX1_goRest_4 ?_
  refine G_iload_n (pc := 5) rfl dX1_goRest_5 ?_
  refine G_icmp_ge (pc := 6) (tgt := 38) (by decide) dX1_goRest_6 (fun z => absurd z (by decide)) (fun _ => ?_)
  refine G_aload_n (pc := 9) rfl dX1_goRest_9 ?_
  refine G_callV (pc := 10) (mc1 := 0) (ms1 := 0) (ci := 1) (mj := mX1_isOver) (vs := []) dX1_goRest_10 rfl rfl cm_X1_isOver wf_172 wf_17 wf_18 rfl (Nat.le_of_ble_eq_true rfl) (Nat.le_of_ble_eq_true rfl) (Nat.le_of_ble_eq_true rfl) (Nat.le_of_ble_eq_true rfl) (s155_X1_isOver  (d + 1)  ) ?_
  rintro _ _ ⟨rfl, rfl⟩
  dsimp only [Option.toList, List.cons_append, List.nil_append]
  refine G_if_ne (pc := 13) (tgt := 38) (by decide) dX1_goRest_13 (fun z => absurd (by decide) z) (fun _ => ?_)
  refine G_iload_n (pc := 16) rfl dX1_goRest_16 ?_
  refine G_aload_n (pc := 17) rfl dX1_goRest_17 ?_
  refine G_aload_n (pc := 18) rfl dX1_goRest_18 ?_
  refine G_callV (pc := 19) (mc1 := 0) (ms1 := 0) (ci := 1) (mj := mX1_restAct) (vs := []) dX1_goRest_19 rfl rfl cm_X1_restAct wf_173 wf_66 wf_67 rfl (Nat.le_of_ble_eq_true rfl) (Nat.le_of_ble_eq_true rfl) (Nat.le_of_ble_eq_true rfl) (Nat.le_of_ble_eq_true rfl) (s352_X1_restAct  (d + 1)  ) ?_
  rintro _ _ ⟨rfl, rfl⟩
  dsimp only [Option.toList, List.cons_append, List.nil_append]
  refine G_callV (pc := 22) (mc1 := 0) (ms1 := 0) (ci := 1) (mj := mX1_tell) (vs := [_]) dX1_goRest_22 rfl rfl cm_X1_tell wf_69 wf_71 wf_72 rfl (Nat.le_of_ble_eq_true rfl) (Nat.le_of_ble_eq_true rfl) (Nat.le_of_ble_eq_true rfl) (Nat.le_of_ble_eq_true rfl) (s353_X1_tell  d  ) ?_
  rintro _ _ ⟨rfl, rfl⟩
  dsimp only [Option.toList, List.cons_append, List.nil_append]
  refine G_aload_n (pc := 25) rfl dX1_goRest_25 ?_
  refine G_callV (pc := 26) (mc1 := 0) (ms1 := 0) (ci := 1) (mj := mX1_melt) (vs := []) dX1_goRest_26 rfl rfl cm_X1_melt wf_73 wf_75 wf_76 rfl (Nat.le_of_ble_eq_true rfl) (Nat.le_of_ble_eq_true rfl) (Nat.le_of_ble_eq_true rfl) (Nat.le_of_ble_eq_true rfl) (s355_X1_melt  (d + 1)  ) ?_
  rintro _ _ ⟨rfl, rfl⟩
  dsimp only [Option.toList, List.cons_append, List.nil_append]
  refine G_iadd (pc := 29) (z := 0) (by decide) dX1_goRest_29 ?_
  refine G_iadd (pc := 30) (z := 0) (by decide) dX1_goRest_30 ?_
  refine G_istore_n (pc := 31) (L1 := [some (.ref 19), some (.int 2), some (.int 0), some (.int 1)]) rfl rfl (by decide) dX1_goRest_31 ?_
  refine G_iinc (pc := 32) (v := 1) (w := 2) (L1 := [some (.ref 19), some (.int 2), some (.int 0), some (.int 2)]) (by decide) rfl rfl (by decide) rfl (by decide) dX1_goRest_32 ?_
  refine G_goto (pc := 35) (tgt := 4) (by decide) dX1_goRest_35 ?_
  refine G_iload_n (pc := 4) rfl dX1_goRest_4 ?_
  refine G_iload_n (pc := 5) rfl dX1_goRest_5 ?_
  refine G_icmp_ge (pc := 6) (tgt := 38) (by decide) dX1_goRest_6 (fun _ => ?_) (fun z => absurd (by decide) z)
  refine G_iload_n (pc := 38) rfl dX1_goRest_38 ?_
  exact G_iret (pc := 39) (Nat.le_of_ble_eq_true rfl) (Nat.le_of_ble_eq_true rfl) rfl dX1_goRest_39 ⟨rfl, rfl⟩
set_option maxRecDepth 100000 in
set_option maxHeartbeats 4000000 in
theorem s410_X1_restore  (d : Nat)   : G (d + 1) mX1_restore 0 0 0 0 0 (gent 3 [.ref 19, .int 0]) [] SH0 RF0 (gup (gup (gup (gup (gcp I0 24 34 (0 : Int32).toNatClampNeg (0 : Int32).toNatClampNeg (6 : Int32).toNatClampNeg) 34 6 0) 34 7 0) 19 1 1) 19 1 2) (fun r h => r = none ∧ h = (SH0, RF0, (gup (gup (gcp (gup (gup (gup (gup (gcp I0 24 34 (0 : Int32).toNatClampNeg (0 : Int32).toNatClampNeg (6 : Int32).toNatClampNeg) 34 6 0) 34 7 0) 19 1 1) 19 1 2) 34 24 (0 : Int32).toNatClampNeg (0 : Int32).toNatClampNeg (6 : Int32).toNatClampNeg) 19 9 0) 19 1 0))) := by
  refine G_iload_n (pc := 0) rfl dX1_restore_0 ?_
  refine G_bipush (pc := 1) (v := 8) (by decide) dX1_restore_1 ?_
  refine G_imul (pc := 3) (z := 0) (by decide) dX1_restore_3 ?_
  refine G_istore_n (pc := 4) (L1 := [some (.ref 19), some (.int 0), some (.int 0)]) rfl rfl (by decide) dX1_restore_4 ?_
  refine G_aload_n (pc := 5) rfl dX1_restore_5 ?_
  refine G_getR (pc := 6) (r := 34) (ci := 1) (j := 18) rfl lk_RX1_53 rfl rfl rfl dX1_restore_6 ?_
  refine G_iload_n (pc := 9) rfl dX1_restore_9 ?_
  refine G_aload_n (pc := 10) rfl dX1_restore_10 ?_
  refine G_getR (pc := 11) (r := 24) (ci := 1) (j := 11) rfl lk_RX1_31 rfl rfl rfl dX1_restore_11 ?_
  refine G_iconst (pc := 14) (v := 0) (by decide) dX1_restore_14 ?_
  refine G_bipush (pc := 15) (v := 6) (by decide) dX1_restore_15 ?_
  refine G_copy (pc := 17) (x := 34) (y := 24) rfl rfl (by decide) (by decide) (by decide) (by decide) (by decide) wf_50 wf_51 wf_52 wf_53 (Nat.le_of_ble_eq_true rfl) dX1_restore_17 ?_
  refine G_aload_n (pc := 20) rfl dX1_restore_20 ?_
  refine G_aload_n (pc := 21) rfl dX1_restore_21 ?_
  refine G_getR (pc := 22) (r := 34) (ci := 1) (j := 18) rfl lk_RX1_53 rfl rfl rfl dX1_restore_22 ?_
  refine G_iload_n (pc := 25) rfl dX1_restore_25 ?_
  refine G_bipush (pc := 26) (v := 6) (by decide) dX1_restore_26 ?_
  refine G_iadd (pc := 28) (z := 6) (by decide) dX1_restore_28 ?_
  refine G_iald (pc := 29) (jj := 6) (v := 0) (by decide) rfl rfl (by unfold vp_in; decide) dX1_restore_29 ?_
  refine G_putI (pc := 30) (ci := 1) (j := 9) rfl lk_RX1_75 rfl rfl rfl trivial dX1_restore_30 ?_
  refine G_aload_n (pc := 33) rfl dX1_restore_33 ?_
  refine G_aload_n (pc := 34) rfl dX1_restore_34 ?_
  refine G_getR (pc := 35) (r := 34) (ci := 1) (j := 18) rfl lk_RX1_53 rfl rfl rfl dX1_restore_35 ?_
  refine G_iload_n (pc := 38) rfl dX1_restore_38 ?_
  refine G_bipush (pc := 39) (v := 6) (by decide) dX1_restore_39 ?_
  refine G_iadd (pc := 41) (z := 6) (by decide) dX1_restore_41 ?_
  refine G_iconst (pc := 42) (v := 1) (by decide) dX1_restore_42 ?_
  refine G_iadd (pc := 43) (z := 7) (by decide) dX1_restore_43 ?_
  refine G_iald (pc := 44) (jj := 7) (v := 0) (by decide) rfl rfl (by unfold vp_in; decide) dX1_restore_44 ?_
  refine G_putI (pc := 45) (ci := 1) (j := 1) rfl lk_RX1_60 rfl rfl rfl trivial dX1_restore_45 ?_
  exact G_vret (pc := 48) (Nat.le_of_ble_eq_true rfl) (Nat.le_of_ble_eq_true rfl) rfl dX1_restore_48 ⟨rfl, rfl⟩
set_option maxRecDepth 100000 in
set_option maxHeartbeats 4000000 in
theorem s411_X1_goRest  (d : Nat)   : G (d + 2) mX1_goRest 0 0 0 0 0 (gent 4 [.ref 19, .int 3]) [] SH0 RF0 (gup (gup (gcp I0 24 34 (0 : Int32).toNatClampNeg (0 : Int32).toNatClampNeg (6 : Int32).toNatClampNeg) 34 6 0) 34 7 0) (fun r h => r = some (.int 0) ∧ h = (SH0, RF0, (gup (gup (gup (gup (gup (gcp I0 24 34 (0 : Int32).toNatClampNeg (0 : Int32).toNatClampNeg (6 : Int32).toNatClampNeg) 34 6 0) 34 7 0) 19 1 1) 19 1 2) 19 1 3))) := by
  refine G_iconst (pc := 0) (v := 0) (by decide) dX1_goRest_0 ?_
  refine G_istore_n (pc := 1) (L1 := [some (.ref 19), some (.int 3), some (.int 0), none]) rfl rfl (by decide) dX1_goRest_1 ?_
  refine G_iconst (pc := 2) (v := 0) (by decide) dX1_goRest_2 ?_
  refine G_istore_n (pc := 3) (L1 := [some (.ref 19), some (.int 3), some (.int 0), some (.int 0)]) rfl rfl (by decide) dX1_goRest_3 ?_
  refine G_iload_n (pc := 4) rfl dX1_goRest_4 ?_
  refine G_iload_n (pc := 5) rfl dX1_goRest_5 ?_
  refine G_icmp_ge (pc := 6) (tgt := 38) (by decide) dX1_goRest_6 (fun z => absurd z (by decide)) (fun _ => ?_)
  refine G_aload_n (pc := 9) rfl dX1_goRest_9 ?_
  refine G_callV (pc := 10) (mc1 := 0) (ms1 := 0) (ci := 1) (mj := mX1_isOver) (vs := []) dX1_goRest_10 rfl rfl cm_X1_isOver wf_172 wf_17 wf_18 rfl (Nat.le_of_ble_eq_true rfl) (Nat.le_of_ble_eq_true rfl) (Nat.le_of_ble_eq_true rfl) (Nat.le_of_ble_eq_true rfl) (s350_X1_isOver  (d + 1)  ) ?_
  rintro _ _ ⟨rfl, rfl⟩
  dsimp only [Option.toList, List.cons_append, List.nil_append]
  refine G_if_ne (pc := 13) (tgt := 38) (by decide) dX1_goRest_13 (fun z => absurd (by decide) z) (fun _ => ?_)
  refine G_iload_n (pc := 16) rfl dX1_goRest_16 ?_
  refine G_aload_n (pc := 17) rfl dX1_goRest_17 ?_
  refine G_aload_n (pc := 18) rfl dX1_goRest_18 ?_
  refine G_callV (pc := 19) (mc1 := 0) (ms1 := 0) (ci := 1) (mj := mX1_restAct) (vs := []) dX1_goRest_19 rfl rfl cm_X1_restAct wf_173 wf_66 wf_67 rfl (Nat.le_of_ble_eq_true rfl) (Nat.le_of_ble_eq_true rfl) (Nat.le_of_ble_eq_true rfl) (Nat.le_of_ble_eq_true rfl) (s351_X1_restAct  (d + 1)  ) ?_
  rintro _ _ ⟨rfl, rfl⟩
  dsimp only [Option.toList, List.cons_append, List.nil_append]
  refine G_callV (pc := 22) (mc1 := 0) (ms1 := 0) (ci := 1) (mj := mX1_tell) (vs := [_]) dX1_goRest_22 rfl rfl cm_X1_tell wf_69 wf_71 wf_72 rfl (Nat.le_of_ble_eq_true rfl) (Nat.le_of_ble_eq_true rfl) (Nat.le_of_ble_eq_true rfl) (Nat.le_of_ble_eq_true rfl) (s145_X1_tell  d  ) ?_
  rintro _ _ ⟨rfl, rfl⟩
  dsimp only [Option.toList, List.cons_append, List.nil_append]
  refine G_aload_n (pc := 25) rfl dX1_goRest_25 ?_
  refine G_callV (pc := 26) (mc1 := 0) (ms1 := 0) (ci := 1) (mj := mX1_melt) (vs := []) dX1_goRest_26 rfl rfl cm_X1_melt wf_73 wf_75 wf_76 rfl (Nat.le_of_ble_eq_true rfl) (Nat.le_of_ble_eq_true rfl) (Nat.le_of_ble_eq_true rfl) (Nat.le_of_ble_eq_true rfl) (s147_X1_melt  (d + 1)  ) ?_
  rintro _ _ ⟨rfl, rfl⟩
  dsimp only [Option.toList, List.cons_append, List.nil_append]
  refine G_iadd (pc := 29) (z := 0) (by decide) dX1_goRest_29 ?_
  refine G_iadd (pc := 30) (z := 0) (by decide) dX1_goRest_30 ?_
  refine G_istore_n (pc := 31) (L1 := [some (.ref 19), some (.int 3), some (.int 0), some (.int 0)]) rfl rfl (by decide) dX1_goRest_31 ?_
  refine G_iinc (pc := 32) (v := 1) (w := 1) (L1 := [some (.ref 19), some (.int 3), some (.int 0), some (.int 1)]) (by decide) rfl rfl (by decide) rfl (by decide) dX1_goRest_32 ?_
  refine G_goto (pc := 35) (tgt := 4) (by decide) dX1_goRest_35 ?_
  refine G_iload_n (pc := 4) rfl dX1_goRest_4 ?_
  refine G_iload_n (pc := 5) rfl dX1_goRest_5 ?_
  refine G_icmp_ge (pc := 6) (tgt := 38) (by decide) dX1_goRest_6 (fun z => absurd z (by decide)) (fun _ => ?_)
  refine G_aload_n (pc := 9) rfl dX1_goRest_9 ?_
  refine G_callV (pc := 10) (mc1 := 0) (ms1 := 0) (ci := 1) (mj := mX1_isOver) (vs := []) dX1_goRest_10 rfl rfl cm_X1_isOver wf_172 wf_17 wf_18 rfl (Nat.le_of_ble_eq_true rfl) (Nat.le_of_ble_eq_true rfl) (Nat.le_of_ble_eq_true rfl) (Nat.le_of_ble_eq_true rfl) (s155_X1_isOver  (d + 1)  ) ?_
  rintro _ _ ⟨rfl, rfl⟩
  dsimp only [Option.toList, List.cons_append, List.nil_append]
  refine G_if_ne (pc := 13) (tgt := 38) (by decide) dX1_goRest_13 (fun z => absurd (by decide) z) (fun _ => ?_)
  refine G_iload_n (pc := 16) rfl dX1_goRest_16 ?_
  refine G_aload_n (pc := 17) rfl dX1_goRest_17 ?_
  refine G_aload_n (pc := 18) rfl dX1_goRest_18 ?_
  refine G_callV (pc := 19) (mc1 := 0) (ms1 := 0) (ci := 1) (mj := mX1_restAct) (vs := []) dX1_goRest_19 rfl rfl cm_X1_restAct wf_173 wf_66 wf_67 rfl (Nat.le_of_ble_eq_true rfl) (Nat.le_of_ble_eq_true rfl) (Nat.le_of_ble_eq_true rfl) (Nat.le_of_ble_eq_true rfl) (s352_X1_restAct  (d + 1)  ) ?_
  rintro _ _ ⟨rfl, rfl⟩
  dsimp only [Option.toList, List.cons_append, List.nil_append]
  refine G_callV (pc := 22) (mc1 := 0) (ms1 := 0) (ci := 1) (mj := mX1_tell) (vs := [_]) dX1_goRest_22 rfl rfl cm_X1_tell wf_69 wf_71 wf_72 rfl (Nat.le_of_ble_eq_true rfl) (Nat.le_of_ble_eq_true rfl) (Nat.le_of_ble_eq_true rfl) (Nat.le_of_ble_eq_true rfl) (s353_X1_tell  d  ) ?_
  rintro _ _ ⟨rfl, rfl⟩
  dsimp only [Option.toList, List.cons_append, List.nil_append]
  refine G_aload_n (pc := 25) rfl dX1_goRest_25 ?_
  refine G_callV (pc := 26) (mc1 := 0) (ms1 := 0) (ci := 1) (mj := mX1_melt) (vs := []) dX1_goRest_26 rfl rfl cm_X1_melt wf_73 wf_75 wf_76 rfl (Nat.le_of_ble_eq_true rfl) (Nat.le_of_ble_eq_true rfl) (Nat.le_of_ble_eq_true rfl) (Nat.le_of_ble_eq_true rfl) (s355_X1_melt  (d + 1)  ) ?_
  rintro _ _ ⟨rfl, rfl⟩
  dsimp only [Option.toList, List.cons_append, List.nil_append]
  refine G_iadd (pc := 29) (z := 0) (by decide) dX1_goRest_29 ?_
  refine G_iadd (pc := 30) (z := 0) (by decide) dX1_goRest_30 ?_
  refine G_istore_n (pc := 31) (L1 := [some (.ref 19), some (.int 3), some (.int 0), some (.int 1)]) rfl rfl (by decide) dX1_goRest_31 ?_
  refine G_iinc (pc := 32) (v := 1) (w := 2) (L1 := [some (.ref 19), some (.int 3), some (.int 0), some (.int 2)]) (by decide) rfl rfl (by decide) rfl (by decide) dX1_goRest_32 ?_
  refine G_goto (pc := 35) (tgt := 4) (by decide) dX1_goRest_35 ?_
  refine G_iload_n (pc := 4) rfl dX1_goRest_4 ?_
  refine G_iload_n (pc := 5) rfl dX1_goRest_5 ?_
  refine G_icmp_ge (pc := 6) (tgt := 38) (by decide) dX1_goRest_6 (fun z => absurd z (by decide)) (fun _ => ?_)
  refine G_aload_n (pc := 9) rfl dX1_goRest_9 ?_
  refine G_callV (pc := 10) (mc1 := 0) (ms1 := 0) (ci := 1) (mj := mX1_isOver) (vs := []) dX1_goRest_10 rfl rfl cm_X1_isOver wf_172 wf_17 wf_18 rfl (Nat.le_of_ble_eq_true rfl) (Nat.le_of_ble_eq_true rfl) (Nat.le_of_ble_eq_true rfl) (Nat.le_of_ble_eq_true rfl) (s356_X1_isOver  (d + 1)  ) ?_
  rintro _ _ ⟨rfl, rfl⟩
  dsimp only [Option.toList, List.cons_append, List.nil_append]
  refine G_if_ne (pc := 13) (tgt := 38) (by decide) dX1_goRest_13 (fun z => absurd (by decide) z) (fun _ => ?_)
  refine G_iload_n (pc := 16) rfl dX1_goRest_16 ?_
  refine G_aload_n (pc := 17) rfl dX1_goRest_17 ?_
  refine G_aload_n (pc := 18) rfl dX1_goRest_18 ?_
  refine G_callV (pc := 19) (mc1 := 0) (ms1 := 0) (ci := 1) (mj := mX1_restAct) (vs := []) dX1_goRest_19 rfl rfl cm_X1_restAct wf_173 wf_66 wf_67 rfl (Nat.le_of_ble_eq_true rfl) (Nat.le_of_ble_eq_true rfl) (Nat.le_of_ble_eq_true rfl) (Nat.le_of_ble_eq_true rfl) (s357_X1_restAct  (d + 1)  ) ?_
  rintro _ _ ⟨rfl, rfl⟩
  dsimp only [Option.toList, List.cons_append, List.nil_append]
  refine G_callV (pc := 22) (mc1 := 0) (ms1 := 0) (ci := 1) (mj := mX1_tell) (vs := [_]) dX1_goRest_22 rfl rfl cm_X1_tell wf_69 wf_71 wf_72 rfl (Nat.le_of_ble_eq_true rfl) (Nat.le_of_ble_eq_true rfl) (Nat.le_of_ble_eq_true rfl) (Nat.le_of_ble_eq_true rfl) (s358_X1_tell  d  ) ?_
  rintro _ _ ⟨rfl, rfl⟩
  dsimp only [Option.toList, List.cons_append, List.nil_append]
  refine G_aload_n (pc := 25) rfl dX1_goRest_25 ?_
  refine G_callV (pc := 26) (mc1 := 0) (ms1 := 0) (ci := 1) (mj := mX1_melt) (vs := []) dX1_goRest_26 rfl rfl cm_X1_melt wf_73 wf_75 wf_76 rfl (Nat.le_of_ble_eq_true rfl) (Nat.le_of_ble_eq_true rfl) (Nat.le_of_ble_eq_true rfl) (Nat.le_of_ble_eq_true rfl) (s360_X1_melt  (d + 1)  ) ?_
  rintro _ _ ⟨rfl, rfl⟩
  dsimp only [Option.toList, List.cons_append, List.nil_append]
  refine G_iadd (pc := 29) (z := 0) (by decide) dX1_goRest_29 ?_
  refine G_iadd (pc := 30) (z := 0) (by decide) dX1_goRest_30 ?_
  refine G_istore_n (pc := 31) (L1 := [some (.ref 19), some (.int 3), some (.int 0), some (.int 2)]) rfl rfl (by decide) dX1_goRest_31 ?_
  refine G_iinc (pc := 32) (v := 1) (w := 3) (L1 := [some (.ref 19), some (.int 3), some (.int 0), some (.int 3)]) (by decide) rfl rfl (by decide) rfl (by decide) dX1_goRest_32 ?_
  refine G_goto (pc := 35) (tgt := 4) (by decide) dX1_goRest_35 ?_
  refine G_iload_n (pc := 4) rfl dX1_goRest_4 ?_
  refine G_iload_n (pc := 5) rfl dX1_goRest_5 ?_
  refine G_icmp_ge (pc := 6) (tgt := 38) (by decide) dX1_goRest_6 (fun _ => ?_) (fun z => absurd (by decide) z)
  refine G_iload_n (pc := 38) rfl dX1_goRest_38 ?_
  exact G_iret (pc := 39) (Nat.le_of_ble_eq_true rfl) (Nat.le_of_ble_eq_true rfl) rfl dX1_goRest_39 ⟨rfl, rfl⟩
set_option maxRecDepth 100000 in
set_option maxHeartbeats 4000000 in
theorem s412_X1_restore  (d : Nat)   : G (d + 1) mX1_restore 0 0 0 0 0 (gent 3 [.ref 19, .int 0]) [] SH0 RF0 (gup (gup (gup (gup (gup (gcp I0 24 34 (0 : Int32).toNatClampNeg (0 : Int32).toNatClampNeg (6 : Int32).toNatClampNeg) 34 6 0) 34 7 0) 19 1 1) 19 1 2) 19 1 3) (fun r h => r = none ∧ h = (SH0, RF0, (gup (gup (gcp (gup (gup (gup (gup (gup (gcp I0 24 34 (0 : Int32).toNatClampNeg (0 : Int32).toNatClampNeg (6 : Int32).toNatClampNeg) 34 6 0) 34 7 0) 19 1 1) 19 1 2) 19 1 3) 34 24 (0 : Int32).toNatClampNeg (0 : Int32).toNatClampNeg (6 : Int32).toNatClampNeg) 19 9 0) 19 1 0))) := by
  refine G_iload_n (pc := 0) rfl dX1_restore_0 ?_
  refine G_bipush (pc := 1) (v := 8) (by decide) dX1_restore_1 ?_
  refine G_imul (pc := 3) (z := 0) (by decide) dX1_restore_3 ?_
  refine G_istore_n (pc := 4) (L1 := [some (.ref 19), some (.int 0), some (.int 0)]) rfl rfl (by decide) dX1_restore_4 ?_
  refine G_aload_n (pc := 5) rfl dX1_restore_5 ?_
  refine G_getR (pc := 6) (r := 34) (ci := 1) (j := 18) rfl lk_RX1_53 rfl rfl rfl dX1_restore_6 ?_
  refine G_iload_n (pc := 9) rfl dX1_restore_9 ?_
  refine G_aload_n (pc := 10) rfl dX1_restore_10 ?_
  refine G_getR (pc := 11) (r := 24) (ci := 1) (j := 11) rfl lk_RX1_31 rfl rfl rfl dX1_restore_11 ?_
  refine G_iconst (pc := 14) (v := 0) (by decide) dX1_restore_14 ?_
  refine G_bipush (pc := 15) (v := 6) (by decide) dX1_restore_15 ?_
  refine G_copy (pc := 17) (x := 34) (y := 24) rfl rfl (by decide) (by decide) (by decide) (by decide) (by decide) wf_50 wf_51 wf_52 wf_53 (Nat.le_of_ble_eq_true rfl) dX1_restore_17 ?_
  refine G_aload_n (pc := 20) rfl dX1_restore_20 ?_
  refine G_aload_n (pc := 21) rfl dX1_restore_21 ?_
  refine G_getR (pc := 22) (r := 34) (ci := 1) (j := 18) rfl lk_RX1_53 rfl rfl rfl dX1_restore_22 ?_
  refine G_iload_n (pc := 25) rfl dX1_restore_25 ?_
  refine G_bipush (pc := 26) (v := 6) (by decide) dX1_restore_26 ?_
  refine G_iadd (pc := 28) (z := 6) (by decide) dX1_restore_28 ?_
  refine G_iald (pc := 29) (jj := 6) (v := 0) (by decide) rfl rfl (by unfold vp_in; decide) dX1_restore_29 ?_
  refine G_putI (pc := 30) (ci := 1) (j := 9) rfl lk_RX1_75 rfl rfl rfl trivial dX1_restore_30 ?_
  refine G_aload_n (pc := 33) rfl dX1_restore_33 ?_
  refine G_aload_n (pc := 34) rfl dX1_restore_34 ?_
  refine G_getR (pc := 35) (r := 34) (ci := 1) (j := 18) rfl lk_RX1_53 rfl rfl rfl dX1_restore_35 ?_
  refine G_iload_n (pc := 38) rfl dX1_restore_38 ?_
  refine G_bipush (pc := 39) (v := 6) (by decide) dX1_restore_39 ?_
  refine G_iadd (pc := 41) (z := 6) (by decide) dX1_restore_41 ?_
  refine G_iconst (pc := 42) (v := 1) (by decide) dX1_restore_42 ?_
  refine G_iadd (pc := 43) (z := 7) (by decide) dX1_restore_43 ?_
  refine G_iald (pc := 44) (jj := 7) (v := 0) (by decide) rfl rfl (by unfold vp_in; decide) dX1_restore_44 ?_
  refine G_putI (pc := 45) (ci := 1) (j := 1) rfl lk_RX1_60 rfl rfl rfl trivial dX1_restore_45 ?_
  exact G_vret (pc := 48) (Nat.le_of_ble_eq_true rfl) (Nat.le_of_ble_eq_true rfl) rfl dX1_restore_48 ⟨rfl, rfl⟩
set_option maxRecDepth 100000 in
set_option maxHeartbeats 4000000 in
theorem s413_X1_goRest  (d : Nat)   : G (d + 2) mX1_goRest 0 0 0 0 0 (gent 4 [.ref 19, .int 4]) [] SH0 RF0 (gup (gup (gcp I0 24 34 (0 : Int32).toNatClampNeg (0 : Int32).toNatClampNeg (6 : Int32).toNatClampNeg) 34 6 0) 34 7 0) (fun r h => r = some (.int 0) ∧ h = (SH0, RF0, (gup (gup (gup (gup (gup (gup (gcp I0 24 34 (0 : Int32).toNatClampNeg (0 : Int32).toNatClampNeg (6 : Int32).toNatClampNeg) 34 6 0) 34 7 0) 19 1 1) 19 1 2) 19 1 3) 19 1 4))) := by
  refine G_iconst (pc := 0) (v := 0) (by decide) dX1_goRest_0 ?_
  refine G_istore_n (pc := 1) (L1 := [some (.ref 19), some (.int 4), some (.int 0), none]) rfl rfl (by decide) dX1_goRest_1 ?_
  refine G_iconst (pc := 2) (v := 0) (by decide) dX1_goRest_2 ?_
  refine G_istore_n (pc := 3) (L1 := [some (.ref 19), some (.int 4), some (.int 0), some (.int 0)]) rfl rfl (by decide) dX1_goRest_3 ?_
  refine G_iload_n (pc := 4) rfl dX1_goRest_4 ?_
  refine G_iload_n (pc := 5) rfl dX1_goRest_5 ?_
  refine G_icmp_ge (pc := 6) (tgt := 38) (by decide) dX1_goRest_6 (fun z => absurd z (by decide)) (fun _ => ?_)
  refine G_aload_n (pc := 9) rfl dX1_goRest_9 ?_
  refine G_callV (pc := 10) (mc1 := 0) (ms1 := 0) (ci := 1) (mj := mX1_isOver) (vs := []) dX1_goRest_10 rfl rfl cm_X1_isOver wf_172 wf_17 wf_18 rfl (Nat.le_of_ble_eq_true rfl) (Nat.le_of_ble_eq_true rfl) (Nat.le_of_ble_eq_true rfl) (Nat.le_of_ble_eq_true rfl) (s350_X1_isOver  (d + 1)  ) ?_
  rintro _ _ ⟨rfl, rfl⟩
  dsimp only [Option.toList, List.cons_append, List.nil_append]
  refine G_if_ne (pc := 13) (tgt := 38) (by decide) dX1_goRest_13 (fun z => absurd (by decide) z) (fun _ => ?_)
  refine G_iload_n (pc := 16) rfl dX1_goRest_16 ?_
  refine G_aload_n (pc := 17) rfl dX1_goRest_17 ?_
  refine G_aload_n (pc := 18) rfl dX1_goRest_18 ?_
  refine G_callV (pc := 19) (mc1 := 0) (ms1 := 0) (ci := 1) (mj := mX1_restAct) (vs := []) dX1_goRest_19 rfl rfl cm_X1_restAct wf_173 wf_66 wf_67 rfl (Nat.le_of_ble_eq_true rfl) (Nat.le_of_ble_eq_true rfl) (Nat.le_of_ble_eq_true rfl) (Nat.le_of_ble_eq_true rfl) (s351_X1_restAct  (d + 1)  ) ?_
  rintro _ _ ⟨rfl, rfl⟩
  dsimp only [Option.toList, List.cons_append, List.nil_append]
  refine G_callV (pc := 22) (mc1 := 0) (ms1 := 0) (ci := 1) (mj := mX1_tell) (vs := [_]) dX1_goRest_22 rfl rfl cm_X1_tell wf_69 wf_71 wf_72 rfl (Nat.le_of_ble_eq_true rfl) (Nat.le_of_ble_eq_true rfl) (Nat.le_of_ble_eq_true rfl) (Nat.le_of_ble_eq_true rfl) (s145_X1_tell  d  ) ?_
  rintro _ _ ⟨rfl, rfl⟩
  dsimp only [Option.toList, List.cons_append, List.nil_append]
  refine G_aload_n (pc := 25) rfl dX1_goRest_25 ?_
  refine G_callV (pc := 26) (mc1 := 0) (ms1 := 0) (ci := 1) (mj := mX1_melt) (vs := []) dX1_goRest_26 rfl rfl cm_X1_melt wf_73 wf_75 wf_76 rfl (Nat.le_of_ble_eq_true rfl) (Nat.le_of_ble_eq_true rfl) (Nat.le_of_ble_eq_true rfl) (Nat.le_of_ble_eq_true rfl) (s147_X1_melt  (d + 1)  ) ?_
  rintro _ _ ⟨rfl, rfl⟩
  dsimp only [Option.toList, List.cons_append, List.nil_append]
  refine G_iadd (pc := 29) (z := 0) (by decide) dX1_goRest_29 ?_
  refine G_iadd (pc := 30) (z := 0) (by decide) dX1_goRest_30 ?_
  refine G_istore_n (pc := 31) (L1 := [some (.ref 19), some (.int 4), some (.int 0), some (.int 0)]) rfl rfl (by decide) dX1_goRest_31 ?_
  refine G_iinc (pc := 32) (v := 1) (w := 1) (L1 := [some (.ref 19), some (.int 4), some (.int 0), some (.int 1)]) (by decide) rfl rfl (by decide) rfl (by decide) dX1_goRest_32 ?_
  refine G_goto (pc := 35) (tgt := 4) (by decide) dX1_goRest_35 ?_
  refine G_iload_n (pc := 4) rfl dX1_goRest_4 ?_
  refine G_iload_n (pc := 5) rfl dX1_goRest_5 ?_
  refine G_icmp_ge (pc := 6) (tgt := 38) (by decide) dX1_goRest_6 (fun z => absurd z (by decide)) (fun _ => ?_)
  refine G_aload_n (pc := 9) rfl dX1_goRest_9 ?_
  refine G_callV (pc := 10) (mc1 := 0) (ms1 := 0) (ci := 1) (mj := mX1_isOver) (vs := []) dX1_goRest_10 rfl rfl cm_X1_isOver wf_172 wf_17 wf_18 rfl (Nat.le_of_ble_eq_true rfl) (Nat.le_of_ble_eq_true rfl) (Nat.le_of_ble_eq_true rfl) (Nat.le_of_ble_eq_true rfl) (s155_X1_isOver  (d + 1)  ) ?_
  rintro _ _ ⟨rfl, rfl⟩
  dsimp only [Option.toList, List.cons_append, List.nil_append]
  refine G_if_ne (pc := 13) (tgt := 38) (by decide) dX1_goRest_13 (fun z => absurd (by decide) z) (fun _ => ?_)
  refine G_iload_n (pc := 16) rfl dX1_goRest_16 ?_
  refine G_aload_n (pc := 17) rfl dX1_goRest_17 ?_
  refine G_aload_n (pc := 18) rfl dX1_goRest_18 ?_
  refine G_callV (pc := 19) (mc1 := 0) (ms1 := 0) (ci := 1) (mj := mX1_restAct) (vs := []) dX1_goRest_19 rfl rfl cm_X1_restAct wf_173 wf_66 wf_67 rfl (Nat.le_of_ble_eq_true rfl) (Nat.le_of_ble_eq_true rfl) (Nat.le_of_ble_eq_true rfl) (Nat.le_of_ble_eq_true rfl) (s352_X1_restAct  (d + 1)  ) ?_
  rintro _ _ ⟨rfl, rfl⟩
  dsimp only [Option.toList, List.cons_append, List.nil_append]
  refine G_callV (pc := 22) (mc1 := 0) (ms1 := 0) (ci := 1) (mj := mX1_tell) (vs := [_]) dX1_goRest_22 rfl rfl cm_X1_tell wf_69 wf_71 wf_72 rfl (Nat.le_of_ble_eq_true rfl) (Nat.le_of_ble_eq_true rfl) (Nat.le_of_ble_eq_true rfl) (Nat.le_of_ble_eq_true rfl) (s353_X1_tell  d  ) ?_
  rintro _ _ ⟨rfl, rfl⟩
  dsimp only [Option.toList, List.cons_append, List.nil_append]
  refine G_aload_n (pc := 25) rfl dX1_goRest_25 ?_
  refine G_callV (pc := 26) (mc1 := 0) (ms1 := 0) (ci := 1) (mj := mX1_melt) (vs := []) dX1_goRest_26 rfl rfl cm_X1_melt wf_73 wf_75 wf_76 rfl (Nat.le_of_ble_eq_true rfl) (Nat.le_of_ble_eq_true rfl) (Nat.le_of_ble_eq_true rfl) (Nat.le_of_ble_eq_true rfl) (s355_X1_melt  (d + 1)  ) ?_
  rintro _ _ ⟨rfl, rfl⟩
  dsimp only [Option.toList, List.cons_append, List.nil_append]
  refine G_iadd (pc := 29) (z := 0) (by decide) dX1_goRest_29 ?_
  refine G_iadd (pc := 30) (z := 0) (by decide) dX1_goRest_30 ?_
  refine G_istore_n (pc := 31) (L1 := [some (.ref 19), some (.int 4), some (.int 0), some (.int 1)]) rfl rfl (by decide) dX1_goRest_31 ?_
  refine G_iinc (pc := 32) (v := 1) (w := 2) (L1 := [some (.ref 19), some (.int 4), some (.int 0), some (.int 2)]) (by decide) rfl rfl (by decide) rfl (by decide) dX1_goRest_32 ?_
  refine G_goto (pc := 35) (tgt := 4) (by decide) dX1_goRest_35 ?_
  refine G_iload_n (pc := 4) rfl dX1_goRest_4 ?_
  refine G_iload_n (pc := 5) rfl dX1_goRest_5 ?_
  refine G_icmp_ge (pc := 6) (tgt := 38) (by decide) dX1_goRest_6 (fun z => absurd z (by decide)) (fun _ => ?_)
  refine G_aload_n (pc := 9) rfl dX1_goRest_9 ?_
  refine G_callV (pc := 10) (mc1 := 0) (ms1 := 0) (ci := 1) (mj := mX1_isOver) (vs := []) dX1_goRest_10 rfl rfl cm_X1_isOver wf_172 wf_17 wf_18 rfl (Nat.le_of_ble_eq_true rfl) (Nat.le_of_ble_eq_true rfl) (Nat.le_of_ble_eq_true rfl) (Nat.le_of_ble_eq_true rfl) (s356_X1_isOver  (d + 1)  ) ?_
  rintro _ _ ⟨rfl, rfl⟩
  dsimp only [Option.toList, List.cons_append, List.nil_append]
  refine G_if_ne (pc := 13) (tgt := 38) (by decide) dX1_goRest_13 (fun z => absurd (by decide) z) (fun _ => ?_)
  refine G_iload_n (pc := 16) rfl dX1_goRest_16 ?_
  refine G_aload_n (pc := 17) rfl dX1_goRest_17 ?_
  refine G_aload_n (pc := 18) rfl dX1_goRest_18 ?_
  refine G_callV (pc := 19) (mc1 := 0) (ms1 := 0) (ci := 1) (mj := mX1_restAct) (vs := []) dX1_goRest_19 rfl rfl cm_X1_restAct wf_173 wf_66 wf_67 rfl (Nat.le_of_ble_eq_true rfl) (Nat.le_of_ble_eq_true rfl) (Nat.le_of_ble_eq_true rfl) (Nat.le_of_ble_eq_true rfl) (s357_X1_restAct  (d + 1)  ) ?_
  rintro _ _ ⟨rfl, rfl⟩
  dsimp only [Option.toList, List.cons_append, List.nil_append]
  refine G_callV (pc := 22) (mc1 := 0) (ms1 := 0) (ci := 1) (mj := mX1_tell) (vs := [_]) dX1_goRest_22 rfl rfl cm_X1_tell wf_69 wf_71 wf_72 rfl (Nat.le_of_ble_eq_true rfl) (Nat.le_of_ble_eq_true rfl) (Nat.le_of_ble_eq_true rfl) (Nat.le_of_ble_eq_true rfl) (s358_X1_tell  d  ) ?_
  rintro _ _ ⟨rfl, rfl⟩
  dsimp only [Option.toList, List.cons_append, List.nil_append]
  refine G_aload_n (pc := 25) rfl dX1_goRest_25 ?_
  refine G_callV (pc := 26) (mc1 := 0) (ms1 := 0) (ci := 1) (mj := mX1_melt) (vs := []) dX1_goRest_26 rfl rfl cm_X1_melt wf_73 wf_75 wf_76 rfl (Nat.le_of_ble_eq_true rfl) (Nat.le_of_ble_eq_true rfl) (Nat.le_of_ble_eq_true rfl) (Nat.le_of_ble_eq_true rfl) (s360_X1_melt  (d + 1)  ) ?_
  rintro _ _ ⟨rfl, rfl⟩
  dsimp only [Option.toList, List.cons_append, List.nil_append]
  refine G_iadd (pc := 29) (z := 0) (by decide) dX1_goRest_29 ?_
  refine G_iadd (pc := 30) (z := 0) (by decide) dX1_goRest_30 ?_
  refine G_istore_n (pc := 31) (L1 := [some (.ref 19), some (.int 4), some (.int 0), some (.int 2)]) rfl rfl (by decide) dX1_goRest_31 ?_
  refine G_iinc (pc := 32) (v := 1) (w := 3) (L1 := [some (.ref 19), some (.int 4), some (.int 0), some (.int 3)]) (by decide) rfl rfl (by decide) rfl (by decide) dX1_goRest_32 ?_
  refine G_goto (pc := 35) (tgt := 4) (by decide) dX1_goRest_35 ?_
  refine G_iload_n (pc := 4) rfl dX1_goRest_4 ?_
  refine G_iload_n (pc := 5) rfl dX1_goRest_5 ?_
  refine G_icmp_ge (pc := 6) (tgt := 38) (by decide) dX1_goRest_6 (fun z => absurd z (by decide)) (fun _ => ?_)
  refine G_aload_n (pc := 9) rfl dX1_goRest_9 ?_
  refine G_callV (pc := 10) (mc1 := 0) (ms1 := 0) (ci := 1) (mj := mX1_isOver) (vs := []) dX1_goRest_10 rfl rfl cm_X1_isOver wf_172 wf_17 wf_18 rfl (Nat.le_of_ble_eq_true rfl) (Nat.le_of_ble_eq_true rfl) (Nat.le_of_ble_eq_true rfl) (Nat.le_of_ble_eq_true rfl) (s361_X1_isOver  (d + 1)  ) ?_
  rintro _ _ ⟨rfl, rfl⟩
  dsimp only [Option.toList, List.cons_append, List.nil_append]
  refine G_if_ne (pc := 13) (tgt := 38) (by decide) dX1_goRest_13 (fun z => absurd (by decide) z) (fun _ => ?_)
  refine G_iload_n (pc := 16) rfl dX1_goRest_16 ?_
  refine G_aload_n (pc := 17) rfl dX1_goRest_17 ?_
  refine G_aload_n (pc := 18) rfl dX1_goRest_18 ?_
  refine G_callV (pc := 19) (mc1 := 0) (ms1 := 0) (ci := 1) (mj := mX1_restAct) (vs := []) dX1_goRest_19 rfl rfl cm_X1_restAct wf_173 wf_66 wf_67 rfl (Nat.le_of_ble_eq_true rfl) (Nat.le_of_ble_eq_true rfl) (Nat.le_of_ble_eq_true rfl) (Nat.le_of_ble_eq_true rfl) (s362_X1_restAct  (d + 1)  ) ?_
  rintro _ _ ⟨rfl, rfl⟩
  dsimp only [Option.toList, List.cons_append, List.nil_append]
  refine G_callV (pc := 22) (mc1 := 0) (ms1 := 0) (ci := 1) (mj := mX1_tell) (vs := [_]) dX1_goRest_22 rfl rfl cm_X1_tell wf_69 wf_71 wf_72 rfl (Nat.le_of_ble_eq_true rfl) (Nat.le_of_ble_eq_true rfl) (Nat.le_of_ble_eq_true rfl) (Nat.le_of_ble_eq_true rfl) (s363_X1_tell  d  ) ?_
  rintro _ _ ⟨rfl, rfl⟩
  dsimp only [Option.toList, List.cons_append, List.nil_append]
  refine G_aload_n (pc := 25) rfl dX1_goRest_25 ?_
  refine G_callV (pc := 26) (mc1 := 0) (ms1 := 0) (ci := 1) (mj := mX1_melt) (vs := []) dX1_goRest_26 rfl rfl cm_X1_melt wf_73 wf_75 wf_76 rfl (Nat.le_of_ble_eq_true rfl) (Nat.le_of_ble_eq_true rfl) (Nat.le_of_ble_eq_true rfl) (Nat.le_of_ble_eq_true rfl) (s365_X1_melt  (d + 1)  ) ?_
  rintro _ _ ⟨rfl, rfl⟩
  dsimp only [Option.toList, List.cons_append, List.nil_append]
  refine G_iadd (pc := 29) (z := 0) (by decide) dX1_goRest_29 ?_
  refine G_iadd (pc := 30) (z := 0) (by decide) dX1_goRest_30 ?_
  refine G_istore_n (pc := 31) (L1 := [some (.ref 19), some (.int 4), some (.int 0), some (.int 3)]) rfl rfl (by decide) dX1_goRest_31 ?_
  refine G_iinc (pc := 32) (v := 1) (w := 4) (L1 := [some (.ref 19), some (.int 4), some (.int 0), some (.int 4)]) (by decide) rfl rfl (by decide) rfl (by decide) dX1_goRest_32 ?_
  refine G_goto (pc := 35) (tgt := 4) (by decide) dX1_goRest_35 ?_
  refine G_iload_n (pc := 4) rfl dX1_goRest_4 ?_
  refine G_iload_n (pc := 5) rfl dX1_goRest_5 ?_
  refine G_icmp_ge (pc := 6) (tgt := 38) (by decide) dX1_goRest_6 (fun _ => ?_) (fun z => absurd (by decide) z)
  refine G_iload_n (pc := 38) rfl dX1_goRest_38 ?_
  exact G_iret (pc := 39) (Nat.le_of_ble_eq_true rfl) (Nat.le_of_ble_eq_true rfl) rfl dX1_goRest_39 ⟨rfl, rfl⟩
set_option maxRecDepth 100000 in
set_option maxHeartbeats 4000000 in
theorem s414_X1_restore  (d : Nat)   : G (d + 1) mX1_restore 0 0 0 0 0 (gent 3 [.ref 19, .int 0]) [] SH0 RF0 (gup (gup (gup (gup (gup (gup (gcp I0 24 34 (0 : Int32).toNatClampNeg (0 : Int32).toNatClampNeg (6 : Int32).toNatClampNeg) 34 6 0) 34 7 0) 19 1 1) 19 1 2) 19 1 3) 19 1 4) (fun r h => r = none ∧ h = (SH0, RF0, (gup (gup (gcp (gup (gup (gup (gup (gup (gup (gcp I0 24 34 (0 : Int32).toNatClampNeg (0 : Int32).toNatClampNeg (6 : Int32).toNatClampNeg) 34 6 0) 34 7 0) 19 1 1) 19 1 2) 19 1 3) 19 1 4) 34 24 (0 : Int32).toNatClampNeg (0 : Int32).toNatClampNeg (6 : Int32).toNatClampNeg) 19 9 0) 19 1 0))) := by
  refine G_iload_n (pc := 0) rfl dX1_restore_0 ?_
  refine G_bipush (pc := 1) (v := 8) (by decide) dX1_restore_1 ?_
  refine G_imul (pc := 3) (z := 0) (by decide) dX1_restore_3 ?_
  refine G_istore_n (pc := 4) (L1 := [some (.ref 19), some (.int 0), some (.int 0)]) rfl rfl (by decide) dX1_restore_4 ?_
  refine G_aload_n (pc := 5) rfl dX1_restore_5 ?_
  refine G_getR (pc := 6) (r := 34) (ci := 1) (j := 18) rfl lk_RX1_53 rfl rfl rfl dX1_restore_6 ?_
  refine G_iload_n (pc := 9) rfl dX1_restore_9 ?_
  refine G_aload_n (pc := 10) rfl dX1_restore_10 ?_
  refine G_getR (pc := 11) (r := 24) (ci := 1) (j := 11) rfl lk_RX1_31 rfl rfl rfl dX1_restore_11 ?_
  refine G_iconst (pc := 14) (v := 0) (by decide) dX1_restore_14 ?_
  refine G_bipush (pc := 15) (v := 6) (by decide) dX1_restore_15 ?_
  refine G_copy (pc := 17) (x := 34) (y := 24) rfl rfl (by decide) (by decide) (by decide) (by decide) (by decide) wf_50 wf_51 wf_52 wf_53 (Nat.le_of_ble_eq_true rfl) dX1_restore_17 ?_
  refine G_aload_n (pc := 20) rfl dX1_restore_20 ?_
  refine G_aload_n (pc := 21) rfl dX1_restore_21 ?_
  refine G_getR (pc := 22) (r := 34) (ci := 1) (j := 18) rfl lk_RX1_53 rfl rfl rfl dX1_restore_22 ?_
  refine G_iload_n (pc := 25) rfl dX1_restore_25 ?_
  refine G_bipush (pc := 26) (v := 6) (by decide) dX1_restore_26 ?_
  refine G_iadd (pc := 28) (z := 6) (by decide) dX1_restore_28 ?_
  refine G_iald (pc := 29) (jj := 6) (v := 0) (by decide) rfl rfl (by unfold vp_in; decide) dX1_restore_29 ?_
  refine G_putI (pc := 30) (ci := 1) (j := 9) rfl lk_RX1_75 rfl rfl rfl trivial dX1_restore_30 ?_
  refine G_aload_n (pc := 33) rfl dX1_restore_33 ?_
  refine G_aload_n (pc := 34) rfl dX1_restore_34 ?_
  refine G_getR (pc := 35) (r := 34) (ci := 1) (j := 18) rfl lk_RX1_53 rfl rfl rfl dX1_restore_35 ?_
  refine G_iload_n (pc := 38) rfl dX1_restore_38 ?_
  refine G_bipush (pc := 39) (v := 6) (by decide) dX1_restore_39 ?_
  refine G_iadd (pc := 41) (z := 6) (by decide) dX1_restore_41 ?_
  refine G_iconst (pc := 42) (v := 1) (by decide) dX1_restore_42 ?_
  refine G_iadd (pc := 43) (z := 7) (by decide) dX1_restore_43 ?_
  refine G_iald (pc := 44) (jj := 7) (v := 0) (by decide) rfl rfl (by unfold vp_in; decide) dX1_restore_44 ?_
  refine G_putI (pc := 45) (ci := 1) (j := 1) rfl lk_RX1_60 rfl rfl rfl trivial dX1_restore_45 ?_
  exact G_vret (pc := 48) (Nat.le_of_ble_eq_true rfl) (Nat.le_of_ble_eq_true rfl) rfl dX1_restore_48 ⟨rfl, rfl⟩
set_option maxRecDepth 100000 in
set_option maxHeartbeats 4000000 in
theorem s415_X1_goRest  (d : Nat)   : G (d + 2) mX1_goRest 0 0 0 0 0 (gent 4 [.ref 19, .int 5]) [] SH0 RF0 (gup (gup (gcp I0 24 34 (0 : Int32).toNatClampNeg (0 : Int32).toNatClampNeg (6 : Int32).toNatClampNeg) 34 6 0) 34 7 0) (fun r h => r = some (.int 0) ∧ h = (SH0, RF0, (gup (gup (gup (gup (gup (gup (gup (gcp I0 24 34 (0 : Int32).toNatClampNeg (0 : Int32).toNatClampNeg (6 : Int32).toNatClampNeg) 34 6 0) 34 7 0) 19 1 1) 19 1 2) 19 1 3) 19 1 4) 19 1 5))) := by
  refine G_iconst (pc := 0) (v := 0) (by decide) dX1_goRest_0 ?_
  refine G_istore_n (pc := 1) (L1 := [some (.ref 19), some (.int 5), some (.int 0), none]) rfl rfl (by decide) dX1_goRest_1 ?_
  refine G_iconst (pc := 2) (v := 0) (by decide) dX1_goRest_2 ?_
  refine G_istore_n (pc := 3) (L1 := [some (.ref 19), some (.int 5), some (.int 0), some (.int 0)]) rfl rfl (by decide) dX1_goRest_3 ?_
  refine G_iload_n (pc := 4) rfl dX1_goRest_4 ?_
  refine G_iload_n (pc := 5) rfl dX1_goRest_5 ?_
  refine G_icmp_ge (pc := 6) (tgt := 38) (by decide) dX1_goRest_6 (fun z => absurd z (by decide)) (fun _ => ?_)
  refine G_aload_n (pc := 9) rfl dX1_goRest_9 ?_
  refine G_callV (pc := 10) (mc1 := 0) (ms1 := 0) (ci := 1) (mj := mX1_isOver) (vs := []) dX1_goRest_10 rfl rfl cm_X1_isOver wf_172 wf_17 wf_18 rfl (Nat.le_of_ble_eq_true rfl) (Nat.le_of_ble_eq_true rfl) (Nat.le_of_ble_eq_true rfl) (Nat.le_of_ble_eq_true rfl) (s350_X1_isOver  (d + 1)  ) ?_
  rintro _ _ ⟨rfl, rfl⟩
  dsimp only [Option.toList, List.cons_append, List.nil_append]
  refine G_if_ne (pc := 13) (tgt := 38) (by decide) dX1_goRest_13 (fun z => absurd (by decide) z) (fun _ => ?_)
  refine G_iload_n (pc := 16) rfl dX1_goRest_16 ?_
  refine G_aload_n (pc := 17) rfl dX1_goRest_17 ?_
  refine G_aload_n (pc := 18) rfl dX1_goRest_18 ?_
  refine G_callV (pc := 19) (mc1 := 0) (ms1 := 0) (ci := 1) (mj := mX1_restAct) (vs := []) dX1_goRest_19 rfl rfl cm_X1_restAct wf_173 wf_66 wf_67 rfl (Nat.le_of_ble_eq_true rfl) (Nat.le_of_ble_eq_true rfl) (Nat.le_of_ble_eq_true rfl) (Nat.le_of_ble_eq_true rfl) (s351_X1_restAct  (d + 1)  ) ?_
  rintro _ _ ⟨rfl, rfl⟩
  dsimp only [Option.toList, List.cons_append, List.nil_append]
  refine G_callV (pc := 22) (mc1 := 0) (ms1 := 0) (ci := 1) (mj := mX1_tell) (vs := [_]) dX1_goRest_22 rfl rfl cm_X1_tell wf_69 wf_71 wf_72 rfl (Nat.le_of_ble_eq_true rfl) (Nat.le_of_ble_eq_true rfl) (Nat.le_of_ble_eq_true rfl) (Nat.le_of_ble_eq_true rfl) (s145_X1_tell  d  ) ?_
  rintro _ _ ⟨rfl, rfl⟩
  dsimp only [Option.toList, List.cons_append, List.nil_append]
  refine G_aload_n (pc := 25) rfl dX1_goRest_25 ?_
  refine G_callV (pc := 26) (mc1 := 0) (ms1 := 0) (ci := 1) (mj := mX1_melt) (vs := []) dX1_goRest_26 rfl rfl cm_X1_melt wf_73 wf_75 wf_76 rfl (Nat.le_of_ble_eq_true rfl) (Nat.le_of_ble_eq_true rfl) (Nat.le_of_ble_eq_true rfl) (Nat.le_of_ble_eq_true rfl) (s147_X1_melt  (d + 1)  ) ?_
  rintro _ _ ⟨rfl, rfl⟩
  dsimp only [Option.toList, List.cons_append, List.nil_append]
  refine G_iadd (pc := 29) (z := 0) (by decide) dX1_goRest_29 ?_
  refine G_iadd (pc := 30) (z := 0) (by decide) dX1_goRest_30 ?_
  refine G_istore_n (pc := 31) (L1 := [some (.ref 19), some (.int 5), some (.int 0), some (.int 0)]) rfl rfl (by decide) dX1_goRest_31 ?_
  refine G_iinc (pc := 32) (v := 1) (w := 1) (L1 := [some (.ref 19), some (.int 5), some (.int 0), some (.int 1)]) (by decide) rfl rfl (by decide) rfl (by decide) dX1_goRest_32 ?_
  refine G_goto (pc := 35) (tgt := 4) (by decide) dX1_goRest_35 ?_
  refine G_iload_n (pc := 4) rfl dX1_goRest_4 ?_
  refine G_iload_n (pc := 5) rfl dX1_goRest_5 ?_
  refine G_icmp_ge (pc := 6) (tgt := 38) (by decide) dX1_goRest_6 (fun z => absurd z (by decide)) (fun _ => ?_)
  refine G_aload_n (pc := 9) rfl dX1_goRest_9 ?_
  refine G_callV (pc := 10) (mc1 := 0) (ms1 := 0) (ci := 1) (mj := mX1_isOver) (vs := []) dX1_goRest_10 rfl rfl cm_X1_isOver wf_172 wf_17 wf_18 rfl (Nat.le_of_ble_eq_true rfl) (Nat.le_of_ble_eq_true rfl) (Nat.le_of_ble_eq_true rfl) (Nat.le_of_ble_eq_true rfl) (s155_X1_isOver  (d + 1)  ) ?_
  rintro _ _ ⟨rfl, rfl⟩
  dsimp only [Option.toList, List.cons_append, List.nil_append]
  refine G_if_ne (pc := 13) (tgt := 38) (by decide) dX1_goRest_13 (fun z => absurd (by decide) z) (fun _ => ?_)
  refine G_iload_n (pc := 16) rfl dX1_goRest_16 ?_
  refine G_aload_n (pc := 17) rfl dX1_goRest_17 ?_
  refine G_aload_n (pc := 18) rfl dX1_goRest_18 ?_
  refine G_callV (pc := 19) (mc1 := 0) (ms1 := 0) (ci := 1) (mj := mX1_restAct) (vs := []) dX1_goRest_19 rfl rfl cm_X1_restAct wf_173 wf_66 wf_67 rfl (Nat.le_of_ble_eq_true rfl) (Nat.le_of_ble_eq_true rfl) (Nat.le_of_ble_eq_true rfl) (Nat.le_of_ble_eq_true rfl) (s352_X1_restAct  (d + 1)  ) ?_
  rintro _ _ ⟨rfl, rfl⟩
  dsimp only [Option.toList, List.cons_append, List.nil_append]
  refine G_callV (pc := 22) (mc1 := 0) (ms1 := 0) (ci := 1) (mj := mX1_tell) (vs := [_]) dX1_goRest_22 rfl rfl cm_X1_tell wf_69 wf_71 wf_72 rfl (Nat.le_of_ble_eq_true rfl) (Nat.le_of_ble_eq_true rfl) (Nat.le_of_ble_eq_true rfl) (Nat.le_of_ble_eq_true rfl) (s353_X1_tell  d  ) ?_
  rintro _ _ ⟨rfl, rfl⟩
  dsimp only [Option.toList, List.cons_append, List.nil_append]
  refine G_aload_n (pc := 25) rfl dX1_goRest_25 ?_
  refine G_callV (pc := 26) (mc1 := 0) (ms1 := 0) (ci := 1) (mj := mX1_melt) (vs := []) dX1_goRest_26 rfl rfl cm_X1_melt wf_73 wf_75 wf_76 rfl (Nat.le_of_ble_eq_true rfl) (Nat.le_of_ble_eq_true rfl) (Nat.le_of_ble_eq_true rfl) (Nat.le_of_ble_eq_true rfl) (s355_X1_melt  (d + 1)  ) ?_
  rintro _ _ ⟨rfl, rfl⟩
  dsimp only [Option.toList, List.cons_append, List.nil_append]
  refine G_iadd (pc := 29) (z := 0) (by decide) dX1_goRest_29 ?_
  refine G_iadd (pc := 30) (z := 0) (by decide) dX1_goRest_30 ?_
  refine G_istore_n (pc := 31) (L1 := [some (.ref 19), some (.int 5), some (.int 0), some (.int 1)]) rfl rfl (by decide) dX1_goRest_31 ?_
  refine G_iinc (pc := 32) (v := 1) (w := 2) (L1 := [some (.ref 19), some (.int 5), some (.int 0), some (.int 2)]) (by decide) rfl rfl (by decide) rfl (by decide) dX1_goRest_32 ?_
  refine G_goto (pc := 35) (tgt := 4) (by decide) dX1_goRest_35 ?_
  refine G_iload_n (pc := 4) rfl dX1_goRest_4 ?_
  refine G_iload_n (pc := 5) rfl dX1_goRest_5 ?_
  refine G_icmp_ge (pc := 6) (tgt := 38) (by decide) dX1_goRest_6 (fun z => absurd z (by decide)) (fun _ => ?_)
  refine G_aload_n (pc := 9) rfl dX1_goRest_9 ?_
  refine G_callV (pc := 10) (mc1 := 0) (ms1 := 0) (ci := 1) (mj := mX1_isOver) (vs := []) dX1_goRest_10 rfl rfl cm_X1_isOver wf_172 wf_17 wf_18 rfl (Nat.le_of_ble_eq_true rfl) (Nat.le_of_ble_eq_true rfl) (Nat.le_of_ble_eq_true rfl) (Nat.le_of_ble_eq_true rfl) (s356_X1_isOver  (d + 1)  ) ?_
  rintro _ _ ⟨rfl, rfl⟩
  dsimp only [Option.toList, List.cons_append, List.nil_append]
  refine G_if_ne (pc := 13) (tgt := 38) (by decide) dX1_goRest_13 (fun z => absurd (by decide) z) (fun _ => ?_)
  refine G_iload_n (pc := 16) rfl dX1_goRest_16 ?_
  refine G_aload_n (pc := 17) rfl dX1_goRest_17 ?_
  refine G_aload_n (pc := 18) rfl dX1_goRest_18 ?_
  refine G_callV (pc := 19) (mc1 := 0) (ms1 := 0) (ci := 1) (mj := mX1_restAct) (vs := []) dX1_goRest_19 rfl rfl cm_X1_restAct wf_173 wf_66 wf_67 rfl (Nat.le_of_ble_eq_true rfl) (Nat.le_of_ble_eq_true rfl) (Nat.le_of_ble_eq_true rfl) (Nat.le_of_ble_eq_true rfl) (s357_X1_restAct  (d + 1)  ) ?_
  rintro _ _ ⟨rfl, rfl⟩
  dsimp only [Option.toList, List.cons_append, List.nil_append]
  refine G_callV (pc := 22) (mc1 := 0) (ms1 := 0) (ci := 1) (mj := mX1_tell) (vs := [_]) dX1_goRest_22 rfl rfl cm_X1_tell wf_69 wf_71 wf_72 rfl (Nat.le_of_ble_eq_true rfl) (Nat.le_of_ble_eq_true rfl) (Nat.le_of_ble_eq_true rfl) (Nat.le_of_ble_eq_true rfl) (s358_X1_tell  d  ) ?_
  rintro _ _ ⟨rfl, rfl⟩
  dsimp only [Option.toList, List.cons_append, List.nil_append]
  refine G_aload_n (pc := 25) rfl dX1_goRest_25 ?_
  refine G_callV (pc := 26) (mc1 := 0) (ms1 := 0) (ci := 1) (mj := mX1_melt) (vs := []) dX1_goRest_26 rfl rfl cm_X1_melt wf_73 wf_75 wf_76 rfl (Nat.le_of_ble_eq_true rfl) (Nat.le_of_ble_eq_true rfl) (Nat.le_of_ble_eq_true rfl) (Nat.le_of_ble_eq_true rfl) (s360_X1_melt  (d + 1)  ) ?_
  rintro _ _ ⟨rfl, rfl⟩
  dsimp only [Option.toList, List.cons_append, List.nil_append]
  refine G_iadd (pc := 29) (z := 0) (by decide) dX1_goRest_29 ?_
  refine G_iadd (pc := 30) (z := 0) (by decide) dX1_goRest_30 ?_
  refine G_istore_n (pc := 31) (L1 := [some (.ref 19), some (.int 5), some (.int 0), some (.int 2)]) rfl rfl (by decide) dX1_goRest_31 ?_
  refine G_iinc (pc := 32) (v := 1) (w := 3) (L1 := [some (.ref 19), some (.int 5), some (.int 0), some (.int 3)]) (by decide) rfl rfl (by decide) rfl (by decide) dX1_goRest_32 ?_
  refine G_goto (pc := 35) (tgt := 4) (by decide) dX1_goRest_35 ?_
  refine G_iload_n (pc := 4) rfl dX1_goRest_4 ?_
  refine G_iload_n (pc := 5) rfl dX1_goRest_5 ?_
  refine G_icmp_ge (pc := 6) (tgt := 38) (by decide) dX1_goRest_6 (fun z => absurd z (by decide)) (fun _ => ?_)
  refine G_aload_n (pc := 9) rfl dX1_goRest_9 ?_
  refine G_callV (pc := 10) (mc1 := 0) (ms1 := 0) (ci := 1) (mj := mX1_isOver) (vs := []) dX1_goRest_10 rfl rfl cm_X1_isOver wf_172 wf_17 wf_18 rfl (Nat.le_of_ble_eq_true rfl) (Nat.le_of_ble_eq_true rfl) (Nat.le_of_ble_eq_true rfl) (Nat.le_of_ble_eq_true rfl) (s361_X1_isOver  (d + 1)  ) ?_
  rintro _ _ ⟨rfl, rfl⟩
  dsimp only [Option.toList, List.cons_append, List.nil_append]
  refine G_if_ne (pc := 13) (tgt := 38) (by decide) dX1_goRest_13 (fun z => absurd (by decide) z) (fun _ => ?_)
  refine G_iload_n (pc := 16) rfl dX1_goRest_16 ?_
  refine G_aload_n (pc := 17) rfl dX1_goRest_17 ?_
  refine G_aload_n (pc := 18) rfl dX1_goRest_18 ?_
  refine G_callV (pc := 19) (mc1 := 0) (ms1 := 0) (ci := 1) (mj := mX1_restAct) (vs := []) dX1_goRest_19 rfl rfl cm_X1_restAct wf_173 wf_66 wf_67 rfl (Nat.le_of_ble_eq_true rfl) (Nat.le_of_ble_eq_true rfl) (Nat.le_of_ble_eq_true rfl) (Nat.le_of_ble_eq_true rfl) (s362_X1_restAct  (d + 1)  ) ?_
  rintro _ _ ⟨rfl, rfl⟩
  dsimp only [Option.toList, List.cons_append, List.nil_append]
  refine G_callV (pc := 22) (mc1 := 0) (ms1 := 0) (ci := 1) (mj := mX1_tell) (vs := [_]) dX1_goRest_22 rfl rfl cm_X1_tell wf_69 wf_71 wf_72 rfl (Nat.le_of_ble_eq_true rfl) (Nat.le_of_ble_eq_true rfl) (Nat.le_of_ble_eq_true rfl) (Nat.le_of_ble_eq_true rfl) (s363_X1_tell  d  ) ?_
  rintro _ _ ⟨rfl, rfl⟩
  dsimp only [Option.toList, List.cons_append, List.nil_append]
  refine G_aload_n (pc := 25) rfl dX1_goRest_25 ?_
  refine G_callV (pc := 26) (mc1 := 0) (ms1 := 0) (ci := 1) (mj := mX1_melt) (vs := []) dX1_goRest_26 rfl rfl cm_X1_melt wf_73 wf_75 wf_76 rfl (Nat.le_of_ble_eq_true rfl) (Nat.le_of_ble_eq_true rfl) (Nat.le_of_ble_eq_true rfl) (Nat.le_of_ble_eq_true rfl) (s365_X1_melt  (d + 1)  ) ?_
  rintro _ _ ⟨rfl, rfl⟩
  dsimp only [Option.toList, List.cons_append, List.nil_append]
  refine G_iadd (pc := 29) (z := 0) (by decide) dX1_goRest_29 ?_
  refine G_iadd (pc := 30) (z := 0) (by decide) dX1_goRest_30 ?_
  refine G_istore_n (pc := 31) (L1 := [some (.ref 19), some (.int 5), some (.int 0), some (.int 3)]) rfl rfl (by decide) dX1_goRest_31 ?_
  refine G_iinc (pc := 32) (v := 1) (w := 4) (L1 := [some (.ref 19), some (.int 5), some (.int 0), some (.int 4)]) (by decide) rfl rfl (by decide) rfl (by decide) dX1_goRest_32 ?_
  refine G_goto (pc := 35) (tgt := 4) (by decide) dX1_goRest_35 ?_
  refine G_iload_n (pc := 4) rfl dX1_goRest_4 ?_
  refine G_iload_n (pc := 5) rfl dX1_goRest_5 ?_
  refine G_icmp_ge (pc := 6) (tgt := 38) (by decide) dX1_goRest_6 (fun z => absurd z (by decide)) (fun _ => ?_)
  refine G_aload_n (pc := 9) rfl dX1_goRest_9 ?_
  refine G_callV (pc := 10) (mc1 := 0) (ms1 := 0) (ci := 1) (mj := mX1_isOver) (vs := []) dX1_goRest_10 rfl rfl cm_X1_isOver wf_172 wf_17 wf_18 rfl (Nat.le_of_ble_eq_true rfl) (Nat.le_of_ble_eq_true rfl) (Nat.le_of_ble_eq_true rfl) (Nat.le_of_ble_eq_true rfl) (s366_X1_isOver  (d + 1)  ) ?_
  rintro _ _ ⟨rfl, rfl⟩
  dsimp only [Option.toList, List.cons_append, List.nil_append]
  refine G_if_ne (pc := 13) (tgt := 38) (by decide) dX1_goRest_13 (fun z => absurd (by decide) z) (fun _ => ?_)
  refine G_iload_n (pc := 16) rfl dX1_goRest_16 ?_
  refine G_aload_n (pc := 17) rfl dX1_goRest_17 ?_
  refine G_aload_n (pc := 18) rfl dX1_goRest_18 ?_
  refine G_callV (pc := 19) (mc1 := 0) (ms1 := 0) (ci := 1) (mj := mX1_restAct) (vs := []) dX1_goRest_19 rfl rfl cm_X1_restAct wf_173 wf_66 wf_67 rfl (Nat.le_of_ble_eq_true rfl) (Nat.le_of_ble_eq_true rfl) (Nat.le_of_ble_eq_true rfl) (Nat.le_of_ble_eq_true rfl) (s367_X1_restAct  (d + 1)  ) ?_
  rintro _ _ ⟨rfl, rfl⟩
  dsimp only [Option.toList, List.cons_append, List.nil_append]
  refine G_callV (pc := 22) (mc1 := 0) (ms1 := 0) (ci := 1) (mj := mX1_tell) (vs := [_]) dX1_goRest_22 rfl rfl cm_X1_tell wf_69 wf_71 wf_72 rfl (Nat.le_of_ble_eq_true rfl) (Nat.le_of_ble_eq_true rfl) (Nat.le_of_ble_eq_true rfl) (Nat.le_of_ble_eq_true rfl) (s368_X1_tell  d  ) ?_
  rintro _ _ ⟨rfl, rfl⟩
  dsimp only [Option.toList, List.cons_append, List.nil_append]
  refine G_aload_n (pc := 25) rfl dX1_goRest_25 ?_
  refine G_callV (pc := 26) (mc1 := 0) (ms1 := 0) (ci := 1) (mj := mX1_melt) (vs := []) dX1_goRest_26 rfl rfl cm_X1_melt wf_73 wf_75 wf_76 rfl (Nat.le_of_ble_eq_true rfl) (Nat.le_of_ble_eq_true rfl) (Nat.le_of_ble_eq_true rfl) (Nat.le_of_ble_eq_true rfl) (s370_X1_melt  (d + 1)  ) ?_
  rintro _ _ ⟨rfl, rfl⟩
  dsimp only [Option.toList, List.cons_append, List.nil_append]
  refine G_iadd (pc := 29) (z := 0) (by decide) dX1_goRest_29 ?_
  refine G_iadd (pc := 30) (z := 0) (by decide) dX1_goRest_30 ?_
  refine G_istore_n (pc := 31) (L1 := [some (.ref 19), some (.int 5), some (.int 0), some (.int 4)]) rfl rfl (by decide) dX1_goRest_31 ?_
  refine G_iinc (pc := 32) (v := 1) (w := 5) (L1 := [some (.ref 19), some (.int 5), some (.int 0), some (.int 5)]) (by decide) rfl rfl (by decide) rfl (by decide) dX1_goRest_32 ?_
  refine G_goto (pc := 35) (tgt := 4) (by decide) dX1_goRest_35 ?_
  refine G_iload_n (pc := 4) rfl dX1_goRest_4 ?_
  refine G_iload_n (pc := 5) rfl dX1_goRest_5 ?_
  refine G_icmp_ge (pc := 6) (tgt := 38) (by decide) dX1_goRest_6 (fun _ => ?_) (fun z => absurd (by decide) z)
  refine G_iload_n (pc := 38) rfl dX1_goRest_38 ?_
  exact G_iret (pc := 39) (Nat.le_of_ble_eq_true rfl) (Nat.le_of_ble_eq_true rfl) rfl dX1_goRest_39 ⟨rfl, rfl⟩
set_option maxRecDepth 100000 in
set_option maxHeartbeats 4000000 in
theorem s416_X1_restore  (d : Nat)   : G (d + 1) mX1_restore 0 0 0 0 0 (gent 3 [.ref 19, .int 0]) [] SH0 RF0 (gup (gup (gup (gup (gup (gup (gup (gcp I0 24 34 (0 : Int32).toNatClampNeg (0 : Int32).toNatClampNeg (6 : Int32).toNatClampNeg) 34 6 0) 34 7 0) 19 1 1) 19 1 2) 19 1 3) 19 1 4) 19 1 5) (fun r h => r = none ∧ h = (SH0, RF0, (gup (gup (gcp (gup (gup (gup (gup (gup (gup (gup (gcp I0 24 34 (0 : Int32).toNatClampNeg (0 : Int32).toNatClampNeg (6 : Int32).toNatClampNeg) 34 6 0) 34 7 0) 19 1 1) 19 1 2) 19 1 3) 19 1 4) 19 1 5) 34 24 (0 : Int32).toNatClampNeg (0 : Int32).toNatClampNeg (6 : Int32).toNatClampNeg) 19 9 0) 19 1 0))) := by
  refine G_iload_n (pc := 0) rfl dX1_restore_0 ?_
  refine G_bipush (pc := 1) (v := 8) (by decide) dX1_restore_1 ?_
  refine G_imul (pc := 3) (z := 0) (by decide) dX1_restore_3 ?_
  refine G_istore_n (pc := 4) (L1 := [some (.ref 19), some (.int 0), some (.int 0)]) rfl rfl (by decide) dX1_restore_4 ?_
  refine G_aload_n (pc := 5) rfl dX1_restore_5 ?_
  refine G_getR (pc := 6) (r := 34) (ci := 1) (j := 18) rfl lk_RX1_53 rfl rfl rfl dX1_restore_6 ?_
  refine G_iload_n (pc := 9) rfl dX1_restore_9 ?_
  refine G_aload_n (pc := 10) rfl dX1_restore_10 ?_
  refine G_getR (pc := 11) (r := 24) (ci := 1) (j := 11) rfl lk_RX1_31 rfl rfl rfl dX1_restore_11 ?_
  refine G_iconst (pc := 14) (v := 0) (by decide) dX1_restore_14 ?_
  refine G_bipush (pc := 15) (v := 6) (by decide) dX1_restore_15 ?_
  refine G_copy (pc := 17) (x := 34) (y := 24) rfl rfl (by decide) (by decide) (by decide) (by decide) (by decide) wf_50 wf_51 wf_52 wf_53 (Nat.le_of_ble_eq_true rfl) dX1_restore_17 ?_
  refine G_aload_n (pc := 20) rfl dX1_restore_20 ?_
  refine G_aload_n (pc := 21) rfl dX1_restore_21 ?_
  refine G_getR (pc := 22) (r := 34) (ci := 1) (j := 18) rfl lk_RX1_53 rfl rfl rfl dX1_restore_22 ?_
  refine G_iload_n (pc := 25) rfl dX1_restore_25 ?_
  refine G_bipush (pc := 26) (v := 6) (by decide) dX1_restore_26 ?_
  refine G_iadd (pc := 28) (z := 6) (by decide) dX1_restore_28 ?_
  refine G_iald (pc := 29) (jj := 6) (v := 0) (by decide) rfl rfl (by unfold vp_in; decide) dX1_restore_29 ?_
  refine G_putI (pc := 30) (ci := 1) (j := 9) rfl lk_RX1_75 rfl rfl rfl trivial dX1_restore_30 ?_
  refine G_aload_n (pc := 33) rfl dX1_restore_33 ?_
  refine G_aload_n (pc := 34) rfl dX1_restore_34 ?_
  refine G_getR (pc := 35) (r := 34) (ci := 1) (j := 18) rfl lk_RX1_53 rfl rfl rfl dX1_restore_35 ?_
  refine G_iload_n (pc := 38) rfl dX1_restore_38 ?_
  refine G_bipush (pc := 39) (v := 6) (by decide) dX1_restore_39 ?_
  refine G_iadd (pc := 41) (z := 6) (by decide) dX1_restore_41 ?_
  refine G_iconst (pc := 42) (v := 1) (by decide) dX1_restore_42 ?_
  refine G_iadd (pc := 43) (z := 7) (by decide) dX1_restore_43 ?_
  refine G_iald (pc := 44) (jj := 7) (v := 0) (by decide) rfl rfl (by unfold vp_in; decide) dX1_restore_44 ?_
  refine G_putI (pc := 45) (ci := 1) (j := 1) rfl lk_RX1_60 rfl rfl rfl trivial dX1_restore_45 ?_
  exact G_vret (pc := 48) (Nat.le_of_ble_eq_true rfl) (Nat.le_of_ble_eq_true rfl) rfl dX1_restore_48 ⟨rfl, rfl⟩
set_option maxRecDepth 100000 in
set_option maxHeartbeats 4000000 in
theorem s417_X1_goRest  (d : Nat)   : G (d + 2) mX1_goRest 0 0 0 0 0 (gent 4 [.ref 19, .int 6]) [] SH0 RF0 (gup (gup (gcp I0 24 34 (0 : Int32).toNatClampNeg (0 : Int32).toNatClampNeg (6 : Int32).toNatClampNeg) 34 6 0) 34 7 0) (fun r h => r = some (.int 0) ∧ h = (SH0, RF0, (gup (gup (gup (gup (gup (gup (gup (gup (gcp I0 24 34 (0 : Int32).toNatClampNeg (0 : Int32).toNatClampNeg (6 : Int32).toNatClampNeg) 34 6 0) 34 7 0) 19 1 1) 19 1 2) 19 1 3) 19 1 4) 19 1 5) 19 1 6))) := by
  refine G_iconst (pc := 0) (v := 0) (by decide) dX1_goRest_0 ?_
  refine G_istore_n (pc := 1) (L1 := [some (.ref 19), some (.int 6), some (.int 0), none]) rfl rfl (by decide) dX1_goRest_1 ?_
  refine G_iconst (pc := 2) (v := 0) (by decide) dX1_goRest_2 ?_
  refine G_istore_n (pc := 3) (L1 := [some (.ref 19), some (.int 6), some (.int 0), some (.int 0)]) rfl rfl (by decide) dX1_goRest_3 ?_
  refine G_iload_n (pc := 4) rfl dX1_goRest_4 ?_
  refine G_iload_n (pc := 5) rfl dX1_goRest_5 ?_
  refine G_icmp_ge (pc := 6) (tgt := 38) (by decide) dX1_goRest_6 (fun z => absurd z (by decide)) (fun _ => ?_)
  refine G_aload_n (pc := 9) rfl dX1_goRest_9 ?_
  refine G_callV (pc := 10) (mc1 := 0) (ms1 := 0) (ci := 1) (mj := mX1_isOver) (vs := []) dX1_goRest_10 rfl rfl cm_X1_isOver wf_172 wf_17 wf_18 rfl (Nat.le_of_ble_eq_true rfl) (Nat.le_of_ble_eq_true rfl) (Nat.le_of_ble_eq_true rfl) (Nat.le_of_ble_eq_true rfl) (s350_X1_isOver  (d + 1)  ) ?_
  rintro _ _ ⟨rfl, rfl⟩
  dsimp only [Option.toList, List.cons_append, List.nil_append]
  refine G_if_ne (pc := 13) (tgt := 38) (by decide) dX1_goRest_13 (fun z => absurd (by decide) z) (fun _ => ?_)
  refine G_iload_n (pc := 16) rfl dX1_goRest_16 ?_
  refine G_aload_n (pc := 17) rfl dX1_goRest_17 ?_
  refine G_aload_n (pc := 18) rfl dX1_goRest_18 ?_
  refine G_callV (pc := 19) (mc1 := 0) (ms1 := 0) (ci := 1) (mj := mX1_restAct) (vs := []) dX1_goRest_19 rfl rfl cm_X1_restAct wf_173 wf_66 wf_67 rfl (Nat.le_of_ble_eq_true rfl) (Nat.le_of_ble_eq_true rfl) (Nat.le_of_ble_eq_true rfl) (Nat.le_of_ble_eq_true rfl) (s351_X1_restAct  (d + 1)  ) ?_
  rintro _ _ ⟨rfl, rfl⟩
  dsimp only [Option.toList, List.cons_append, List.nil_append]
  refine G_callV (pc := 22) (mc1 := 0) (ms1 := 0) (ci := 1) (mj := mX1_tell) (vs := [_]) dX1_goRest_22 rfl rfl cm_X1_tell wf_69 wf_71 wf_72 rfl (Nat.le_of_ble_eq_true rfl) (Nat.le_of_ble_eq_true rfl) (Nat.le_of_ble_eq_true rfl) (Nat.le_of_ble_eq_true rfl) (s145_X1_tell  d  ) ?_
  rintro _ _ ⟨rfl, rfl⟩
  dsimp only [Option.toList, List.cons_append, List.nil_append]
  refine G_aload_n (pc := 25) rfl dX1_goRest_25 ?_
  refine G_callV (pc := 26) (mc1 := 0) (ms1 := 0) (ci := 1) (mj := mX1_melt) (vs := []) dX1_goRest_26 rfl rfl cm_X1_melt wf_73 wf_75 wf_76 rfl (Nat.le_of_ble_eq_true rfl) (Nat.le_of_ble_eq_true rfl) (Nat.le_of_ble_eq_true rfl) (Nat.le_of_ble_eq_true rfl) (s147_X1_melt  (d + 1)  ) ?_
  rintro _ _ ⟨rfl, rfl⟩
  dsimp only [Option.toList, List.cons_append, List.nil_append]
  refine G_iadd (pc := 29) (z := 0) (by decide) dX1_goRest_29 ?_
  refine G_iadd (pc := 30) (z := 0) (by decide) dX1_goRest_30 ?_
  refine G_istore_n (pc := 31) (L1 := [some (.ref 19), some (.int 6), some (.int 0), some (.int 0)]) rfl rfl (by decide) dX1_goRest_31 ?_
  refine G_iinc (pc := 32) (v := 1) (w := 1) (L1 := [some (.ref 19), some (.int 6), some (.int 0), some (.int 1)]) (by decide) rfl rfl (by decide) rfl (by decide) dX1_goRest_32 ?_
  refine G_goto (pc := 35) (tgt := 4) (by decide) dX1_goRest_35 ?_
  refine G_iload_n (pc := 4) rfl dX1_goRest_4 ?_
  refine G_iload_n (pc := 5) rfl dX1_goRest_5 ?_
  refine G_icmp_ge (pc := 6) (tgt := 38) (by decide) dX1_goRest_6 (fun z => absurd z (by decide)) (fun _ => ?_)
  refine G_aload_n (pc := 9) rfl dX1_goRest_9 ?_
  refine G_callV (pc := 10) (mc1 := 0) (ms1 := 0) (ci := 1) (mj := mX1_isOver) (vs := []) dX1_goRest_10 rfl rfl cm_X1_isOver wf_172 wf_17 wf_18 rfl (Nat.le_of_ble_eq_true rfl) (Nat.le_of_ble_eq_true rfl) (Nat.le_of_ble_eq_true rfl) (Nat.le_of_ble_eq_true rfl) (s155_X1_isOver  (d + 1)  ) ?_
  rintro _ _ ⟨rfl, rfl⟩
  dsimp only [Option.toList, List.cons_append, List.nil_append]
  refine G_if_ne (pc := 13) (tgt := 38) (by decide) dX1_goRest_13 (fun z => absurd (by decide) z) (fun _ => ?_)
  refine G_iload_n (pc := 16) rfl dX1_goRest_16 ?_
  refine G_aload_n (pc := 17) rfl dX1_goRest_17 ?_
  refine G_aload_n (pc := 18) rfl dX1_goRest_18 ?_
  refine G_callV (pc := 19) (mc1 := 0) (ms1 := 0) (ci := 1) (mj := mX1_restAct) (vs := []) dX1_goRest_19 rfl rfl cm_X1_restAct wf_173 wf_66 wf_67 rfl (Nat.le_of_ble_eq_true rfl) (Nat.le_of_ble_eq_true rfl) (Nat.le_of_ble_eq_true rfl) (Nat.le_of_ble_eq_true rfl) (s352_X1_restAct  (d + 1)  ) ?_
  rintro _ _ ⟨rfl, rfl⟩
  dsimp only [Option.toList, List.cons_append, List.nil_append]
  refine G_callV (pc := 22) (mc1 := 0) (ms1 := 0) (ci := 1) (mj := mX1_tell) (vs := [_]) dX1_goRest_22 rfl rfl cm_X1_tell wf_69 wf_71 wf_72 rfl (Nat.le_of_ble_eq_true rfl) (Nat.le_of_ble_eq_true rfl) (Nat.le_of_ble_eq_true rfl) (Nat.le_of_ble_eq_true rfl) (s353_X1_tell  d  ) ?_
  rintro _ _ ⟨rfl, rfl⟩
  dsimp only [Option.toList, List.cons_append, List.nil_append]
  refine G_aload_n (pc := 25) rfl dX1_goRest_25 ?_
  refine G_callV (pc := 26) (mc1 := 0) (ms1 := 0) (ci := 1) (mj := mX1_melt) (vs := []) dX1_goRest_26 rfl rfl cm_X1_melt wf_73 wf_75 wf_76 rfl (Nat.le_of_ble_eq_true rfl) (Nat.le_of_ble_eq_true rfl) (Nat.le_of_ble_eq_true rfl) (Nat.le_of_ble_eq_true rfl) (s355_X1_melt  (d + 1)  ) ?_
  rintro _ _ ⟨rfl, rfl⟩
  dsimp only [Option.toList, List.cons_append, List.nil_append]
  refine G_iadd (pc := 29) (z := 0) (by decide) dX1_goRest_29 ?_
  refine G_iadd (pc := 30) (z := 0) (by decide) dX1_goRest_30 ?_
  refine G_istore_n (pc := 31) (L1 := [some (.ref 19), some (.int 6), some (.int 0), some (.int 1)]) rfl rfl (by decide) dX1_goRest_31 ?_
  refine G_iinc (pc := 32) (v := 1) (w := 2) (L1 := [some (.ref 19), some (.int 6), some (.int 0), some (.int 2)]) (by decide) rfl rfl (by decide) rfl (by decide) dX1_goRest_32 ?_
  refine G_goto (pc := 35) (tgt := 4) (by decide) dX1_goRest_35 ?_
  refine G_iload_n (pc := 4) rfl dX1_goRest_4 ?_
  refine G_iload_n (pc := 5) rfl dX1_goRest_5 ?_
  refine G_icmp_ge (pc := 6) (tgt := 38) (by decide) dX1_goRest_6 (fun z => absurd z (by decide)) (fun _ => ?_)
  refine G_aload_n (pc := 9) rfl dX1_goRest_9 ?_
  refine G_callV (pc := 10) (mc1 := 0) (ms1 := 0) (ci := 1) (mj := mX1_isOver) (vs := []) dX1_goRest_10 rfl rfl cm_X1_isOver wf_172 wf_17 wf_18 rfl (Nat.le_of_ble_eq_true rfl) (Nat.le_of_ble_eq_true rfl) (Nat.le_of_ble_eq_true rfl) (Nat.le_of_ble_eq_true rfl) (s356_X1_isOver  (d + 1)  ) ?_
  rintro _ _ ⟨rfl, rfl⟩
  dsimp only [Option.toList, List.cons_append, List.nil_append]
  refine G_if_ne (pc := 13) (tgt := 38) (by decide) dX1_goRest_13 (fun z => absurd (by decide) z) (fun _ => ?_)
  refine G_iload_n (pc := 16) rfl dX1_goRest_16 ?_
  refine G_aload_n (pc := 17) rfl dX1_goRest_17 ?_
  refine G_aload_n (pc := 18) rfl dX1_goRest_18 ?_
  refine G_callV (pc := 19) (mc1 := 0) (ms1 := 0) (ci := 1) (mj := mX1_restAct) (vs := []) dX1_goRest_19 rfl rfl cm_X1_restAct wf_173 wf_66 wf_67 rfl (Nat.le_of_ble_eq_true rfl) (Nat.le_of_ble_eq_true rfl) (Nat.le_of_ble_eq_true rfl) (Nat.le_of_ble_eq_true rfl) (s357_X1_restAct  (d + 1)  ) ?_
  rintro _ _ ⟨rfl, rfl⟩
  dsimp only [Option.toList, List.cons_append, List.nil_append]
  refine G_callV (pc := 22) (mc1 := 0) (ms1 := 0) (ci := 1) (mj := mX1_tell) (vs := [_]) dX1_goRest_22 rfl rfl cm_X1_tell wf_69 wf_71 wf_72 rfl (Nat.le_of_ble_eq_true rfl) (Nat.le_of_ble_eq_true rfl) (Nat.le_of_ble_eq_true rfl) (Nat.le_of_ble_eq_true rfl) (s358_X1_tell  d  ) ?_
  rintro _ _ ⟨rfl, rfl⟩
  dsimp only [Option.toList, List.cons_append, List.nil_append]
  refine G_aload_n (pc := 25) rfl dX1_goRest_25 ?_
  refine G_callV (pc := 26) (mc1 := 0) (ms1 := 0) (ci := 1) (mj := mX1_melt) (vs := []) dX1_goRest_26 rfl rfl cm_X1_melt wf_73 wf_75 wf_76 rfl (Nat.le_of_ble_eq_true rfl) (Nat.le_of_ble_eq_true rfl) (Nat.le_of_ble_eq_true rfl) (Nat.le_of_ble_eq_true rfl) (s360_X1_melt  (d + 1)  ) ?_
  rintro _ _ ⟨rfl, rfl⟩
  dsimp only [Option.toList, List.cons_append, List.nil_append]
  refine G_iadd (pc := 29) (z := 0) (by decide) dX1_goRest_29 ?_
  refine G_iadd (pc := 30) (z := 0) (by decide) dX1_goRest_30 ?_
  refine G_istore_n (pc := 31) (L1 := [some (.ref 19), some (.int 6), some (.int 0), some (.int 2)]) rfl rfl (by decide) dX1_goRest_31 ?_
  refine G_iinc (pc := 32) (v := 1) (w := 3) (L1 := [some (.ref 19), some (.int 6), some (.int 0), some (.int 3)]) (by decide) rfl rfl (by decide) rfl (by decide) dX1_goRest_32 ?_
  refine G_goto (pc := 35) (tgt := 4) (by decide) dX1_goRest_35 ?_
  refine G_iload_n (pc := 4) rfl dX1_goRest_4 ?_
  refine G_iload_n (pc := 5) rfl dX1_goRest_5 ?_
  refine G_icmp_ge (pc := 6) (tgt := 38) (by decide) dX1_goRest_6 (fun z => absurd z (by decide)) (fun _ => ?_)
  refine G_aload_n (pc := 9) rfl dX1_goRest_9 ?_
  refine G_callV (pc := 10) (mc1 := 0) (ms1 := 0) (ci := 1) (mj := mX1_isOver) (vs := []) dX1_goRest_10 rfl rfl cm_X1_isOver wf_172 wf_17 wf_18 rfl (Nat.le_of_ble_eq_true rfl) (Nat.le_of_ble_eq_true rfl) (Nat.le_of_ble_eq_true rfl) (Nat.le_of_ble_eq_true rfl) (s361_X1_isOver  (d + 1)  ) ?_
  rintro _ _ ⟨rfl, rfl⟩
  dsimp only [Option.toList, List.cons_append, List.nil_append]
  refine G_if_ne (pc := 13) (tgt := 38) (by decide) dX1_goRest_13 (fun z => absurd (by decide) z) (fun _ => ?_)
  refine G_iload_n (pc := 16) rfl dX1_goRest_16 ?_
  refine G_aload_n (pc := 17) rfl dX1_goRest_17 ?_
  refine G_aload_n (pc := 18) rfl dX1_goRest_18 ?_
  refine G_callV (pc := 19) (mc1 := 0) (ms1 := 0) (ci := 1) (mj := mX1_restAct) (vs := []) dX1_goRest_19 rfl rfl cm_X1_restAct wf_173 wf_66 wf_67 rfl (Nat.le_of_ble_eq_true rfl) (Nat.le_of_ble_eq_true rfl) (Nat.le_of_ble_eq_true rfl) (Nat.le_of_ble_eq_true rfl) (s362_X1_restAct  (d + 1)  ) ?_
  rintro _ _ ⟨rfl, rfl⟩
  dsimp only [Option.toList, List.cons_append, List.nil_append]
  refine G_callV (pc := 22) (mc1 := 0) (ms1 := 0) (ci := 1) (mj := mX1_tell) (vs := [_]) dX1_goRest_22 rfl rfl cm_X1_tell wf_69 wf_71 wf_72 rfl (Nat.le_of_ble_eq_true rfl) (Nat.le_of_ble_eq_true rfl) (Nat.le_of_ble_eq_true rfl) (Nat.le_of_ble_eq_true rfl) (s363_X1_tell  d  ) ?_
  rintro _ _ ⟨rfl, rfl⟩
  dsimp only [Option.toList, List.cons_append, List.nil_append]
  refine G_aload_n (pc := 25) rfl dX1_goRest_25 ?_
  refine G_callV (pc := 26) (mc1 := 0) (ms1 := 0) (ci := 1) (mj := mX1_melt) (vs := []) dX1_goRest_26 rfl rfl cm_X1_melt wf_73 wf_75 wf_76 rfl (Nat.le_of_ble_eq_true rfl) (Nat.le_of_ble_eq_true rfl) (Nat.le_of_ble_eq_true rfl) (Nat.le_of_ble_eq_true rfl) (s365_X1_melt  (d + 1)  ) ?_
  rintro _ _ ⟨rfl, rfl⟩
  dsimp only [Option.toList, List.cons_append, List.nil_append]
  refine G_iadd (pc := 29) (z := 0) (by decide) dX1_goRest_29 ?_
  refine G_iadd (pc := 30) (z := 0) (by decide) dX1_goRest_30 ?_
  refine G_istore_n (pc := 31) (L1 := [some (.ref 19), some (.int 6), some (.int 0), some (.int 3)]) rfl rfl (by decide) dX1_goRest_31 ?_
  refine G_iinc (pc := 32) (v := 1) (w := 4) (L1 := [some (.ref 19), some (.int 6), some (.int 0), some (.int 4)]) (by decide) rfl rfl (by decide) rfl (by decide) dX1_goRest_32 ?_
  refine G_goto (pc := 35) (tgt := 4) (by decide) dX1_goRest_35 ?_
  refine G_iload_n (pc := 4) rfl dX1_goRest_4 ?_
  refine G_iload_n (pc := 5) rfl dX1_goRest_5 ?_
  refine G_icmp_ge (pc := 6) (tgt := 38) (by decide) dX1_goRest_6 (fun z => absurd z (by decide)) (fun _ => ?_)
  refine G_aload_n (pc := 9) rfl dX1_goRest_9 ?_
  refine G_callV (pc := 10) (mc1 := 0) (ms1 := 0) (ci := 1) (mj := mX1_isOver) (vs := []) dX1_goRest_10 rfl rfl cm_X1_isOver wf_172 wf_17 wf_18 rfl (Nat.le_of_ble_eq_true rfl) (Nat.le_of_ble_eq_true rfl) (Nat.le_of_ble_eq_true rfl) (Nat.le_of_ble_eq_true rfl) (s366_X1_isOver  (d + 1)  ) ?_
  rintro _ _ ⟨rfl, rfl⟩
  dsimp only [Option.toList, List.cons_append, List.nil_append]
  refine G_if_ne (pc := 13) (tgt := 38) (by decide) dX1_goRest_13 (fun z => absurd (by decide) z) (fun _ => ?_)
  refine G_iload_n (pc := 16) rfl dX1_goRest_16 ?_
  refine G_aload_n (pc := 17) rfl dX1_goRest_17 ?_
  refine G_aload_n (pc := 18) rfl dX1_goRest_18 ?_
  refine G_callV (pc := 19) (mc1 := 0) (ms1 := 0) (ci := 1) (mj := mX1_restAct) (vs := []) dX1_goRest_19 rfl rfl cm_X1_restAct wf_173 wf_66 wf_67 rfl (Nat.le_of_ble_eq_true rfl) (Nat.le_of_ble_eq_true rfl) (Nat.le_of_ble_eq_true rfl) (Nat.le_of_ble_eq_true rfl) (s367_X1_restAct  (d + 1)  ) ?_
  rintro _ _ ⟨rfl, rfl⟩
  dsimp only [Option.toList, List.cons_append, List.nil_append]
  refine G_callV (pc := 22) (mc1 := 0) (ms1 := 0) (ci := 1) (mj := mX1_tell) (vs := [_]) dX1_goRest_22 rfl rfl cm_X1_tell wf_69 wf_71 wf_72 rfl (Nat.le_of_ble_eq_true rfl) (Nat.le_of_ble_eq_true rfl) (Nat.le_of_ble_eq_true rfl) (Nat.le_of_ble_eq_true rfl) (s368_X1_tell  d  ) ?_
  rintro _ _ ⟨rfl, rfl⟩
  dsimp only [Option.toList, List.cons_append, List.nil_append]
  refine G_aload_n (pc := 25) rfl dX1_goRest_25 ?_
  refine G_callV (pc := 26) (mc1 := 0) (ms1 := 0) (ci := 1) (mj := mX1_melt) (vs := []) dX1_goRest_26 rfl rfl cm_X1_melt wf_73 wf_75 wf_76 rfl (Nat.le_of_ble_eq_true rfl) (Nat.le_of_ble_eq_true rfl) (Nat.le_of_ble_eq_true rfl) (Nat.le_of_ble_eq_true rfl) (s370_X1_melt  (d + 1)  ) ?_
  rintro _ _ ⟨rfl, rfl⟩
  dsimp only [Option.toList, List.cons_append, List.nil_append]
  refine G_iadd (pc := 29) (z := 0) (by decide) dX1_goRest_29 ?_
  refine G_iadd (pc := 30) (z := 0) (by decide) dX1_goRest_30 ?_
  refine G_istore_n (pc := 31) (L1 := [some (.ref 19), some (.int 6), some (.int 0), some (.int 4)]) rfl rfl (by decide) dX1_goRest_31 ?_
  refine G_iinc (pc := 32) (v := 1) (w := 5) (L1 := [some (.ref 19), some (.int 6), some (.int 0), some (.int 5)]) (by decide) rfl rfl (by decide) rfl (by decide) dX1_goRest_32 ?_
  refine G_goto (pc := 35) (tgt := 4) (by decide) dX1_goRest_35 ?_
  refine G_iload_n (pc := 4) rfl dX1_goRest_4 ?_
  refine G_iload_n (pc := 5) rfl dX1_goRest_5 ?_
  refine G_icmp_ge (pc := 6) (tgt := 38) (by decide) dX1_goRest_6 (fun z => absurd z (by decide)) (fun _ => ?_)
  refine G_aload_n (pc := 9) rfl dX1_goRest_9 ?_
  refine G_callV (pc := 10) (mc1 := 0) (ms1 := 0) (ci := 1) (mj := mX1_isOver) (vs := []) dX1_goRest_10 rfl rfl cm_X1_isOver wf_172 wf_17 wf_18 rfl (Nat.le_of_ble_eq_true rfl) (Nat.le_of_ble_eq_true rfl) (Nat.le_of_ble_eq_true rfl) (Nat.le_of_ble_eq_true rfl) (s371_X1_isOver  (d + 1)  ) ?_
  rintro _ _ ⟨rfl, rfl⟩
  dsimp only [Option.toList, List.cons_append, List.nil_append]
  refine G_if_ne (pc := 13) (tgt := 38) (by decide) dX1_goRest_13 (fun z => absurd (by decide) z) (fun _ => ?_)
  refine G_iload_n (pc := 16) rfl dX1_goRest_16 ?_
  refine G_aload_n (pc := 17) rfl dX1_goRest_17 ?_
  refine G_aload_n (pc := 18) rfl dX1_goRest_18 ?_
  refine G_callV (pc := 19) (mc1 := 0) (ms1 := 0) (ci := 1) (mj := mX1_restAct) (vs := []) dX1_goRest_19 rfl rfl cm_X1_restAct wf_173 wf_66 wf_67 rfl (Nat.le_of_ble_eq_true rfl) (Nat.le_of_ble_eq_true rfl) (Nat.le_of_ble_eq_true rfl) (Nat.le_of_ble_eq_true rfl) (s372_X1_restAct  (d + 1)  ) ?_
  rintro _ _ ⟨rfl, rfl⟩
  dsimp only [Option.toList, List.cons_append, List.nil_append]
  refine G_callV (pc := 22) (mc1 := 0) (ms1 := 0) (ci := 1) (mj := mX1_tell) (vs := [_]) dX1_goRest_22 rfl rfl cm_X1_tell wf_69 wf_71 wf_72 rfl (Nat.le_of_ble_eq_true rfl) (Nat.le_of_ble_eq_true rfl) (Nat.le_of_ble_eq_true rfl) (Nat.le_of_ble_eq_true rfl) (s373_X1_tell  d  ) ?_
  rintro _ _ ⟨rfl, rfl⟩
  dsimp only [Option.toList, List.cons_append, List.nil_append]
  refine G_aload_n (pc := 25) rfl dX1_goRest_25 ?_
  refine G_callV (pc := 26) (mc1 := 0) (ms1 := 0) (ci := 1) (mj := mX1_melt) (vs := []) dX1_goRest_26 rfl rfl cm_X1_melt wf_73 wf_75 wf_76 rfl (Nat.le_of_ble_eq_true rfl) (Nat.le_of_ble_eq_true rfl) (Nat.le_of_ble_eq_true rfl) (Nat.le_of_ble_eq_true rfl) (s375_X1_melt  (d + 1)  ) ?_
  rintro _ _ ⟨rfl, rfl⟩
  dsimp only [Option.toList, List.cons_append, List.nil_append]
  refine G_iadd (pc := 29) (z := 0) (by decide) dX1_goRest_29 ?_
  refine G_iadd (pc := 30) (z := 0) (by decide) dX1_goRest_30 ?_
  refine G_istore_n (pc := 31) (L1 := [some (.ref 19), some (.int 6), some (.int 0), some (.int 5)]) rfl rfl (by decide) dX1_goRest_31 ?_
  refine G_iinc (pc := 32) (v := 1) (w := 6) (L1 := [some (.ref 19), some (.int 6), some (.int 0), some (.int 6)]) (by decide) rfl rfl (by decide) rfl (by decide) dX1_goRest_32 ?_
  refine G_goto (pc := 35) (tgt := 4) (by decide) dX1_goRest_35 ?_
  refine G_iload_n (pc := 4) rfl dX1_goRest_4 ?_
  refine G_iload_n (pc := 5) rfl dX1_goRest_5 ?_
  refine G_icmp_ge (pc := 6) (tgt := 38) (by decide) dX1_goRest_6 (fun _ => ?_) (fun z => absurd (by decide) z)
  refine G_iload_n (pc := 38) rfl dX1_goRest_38 ?_
  exact G_iret (pc := 39) (Nat.le_of_ble_eq_true rfl) (Nat.le_of_ble_eq_true rfl) rfl dX1_goRest_39 ⟨rfl, rfl⟩
set_option maxRecDepth 100000 in
set_option maxHeartbeats 4000000 in
theorem s418_X1_restore  (d : Nat)   : G (d + 1) mX1_restore 0 0 0 0 0 (gent 3 [.ref 19, .int 0]) [] SH0 RF0 (gup (gup (gup (gup (gup (gup (gup (gup (gcp I0 24 34 (0 : Int32).toNatClampNeg (0 : Int32).toNatClampNeg (6 : Int32).toNatClampNeg) 34 6 0) 34 7 0) 19 1 1) 19 1 2) 19 1 3) 19 1 4) 19 1 5) 19 1 6) (fun r h => r = none ∧ h = (SH0, RF0, (gup (gup (gcp (gup (gup (gup (gup (gup (gup (gup (gup (gcp I0 24 34 (0 : Int32).toNatClampNeg (0 : Int32).toNatClampNeg (6 : Int32).toNatClampNeg) 34 6 0) 34 7 0) 19 1 1) 19 1 2) 19 1 3) 19 1 4) 19 1 5) 19 1 6) 34 24 (0 : Int32).toNatClampNeg (0 : Int32).toNatClampNeg (6 : Int32).toNatClampNeg) 19 9 0) 19 1 0))) := by
  refine G_iload_n (pc := 0) rfl dX1_restore_0 ?_
  refine G_bipush (pc := 1) (v := 8) (by decide) dX1_restore_1 ?_
  refine G_imul (pc := 3) (z := 0) (by decide) dX1_restore_3 ?_
  refine G_istore_n (pc := 4) (L1 := [some (.ref 19), some (.int 0), some (.int 0)]) rfl rfl (by decide) dX1_restore_4 ?_
  refine G_aload_n (pc := 5) rfl dX1_restore_5 ?_
  refine G_getR (pc := 6) (r := 34) (ci := 1) (j := 18) rfl lk_RX1_53 rfl rfl rfl dX1_restore_6 ?_
  refine G_iload_n (pc := 9) rfl dX1_restore_9 ?_
  refine G_aload_n (pc := 10) rfl dX1_restore_10 ?_
  refine G_getR (pc := 11) (r := 24) (ci := 1) (j := 11) rfl lk_RX1_31 rfl rfl rfl dX1_restore_11 ?_
  refine G_iconst (pc := 14) (v := 0) (by decide) dX1_restore_14 ?_
  refine G_bipush (pc := 15) (v := 6) (by decide) dX1_restore_15 ?_
  refine G_copy (pc := 17) (x := 34) (y := 24) rfl rfl (by decide) (by decide) (by decide) (by decide) (by decide) wf_50 wf_51 wf_52 wf_53 (Nat.le_of_ble_eq_true rfl) dX1_restore_17 ?_
  refine G_aload_n (pc := 20) rfl dX1_restore_20 ?_
  refine G_aload_n (pc := 21) rfl dX1_restore_21 ?_
  refine G_getR (pc := 22) (r := 34) (ci := 1) (j := 18) rfl lk_RX1_53 rfl rfl rfl dX1_restore_22 ?_
  refine G_iload_n (pc := 25) rfl dX1_restore_25 ?_
  refine G_bipush (pc := 26) (v := 6) (by decide) dX1_restore_26 ?_
  refine G_iadd (pc := 28) (z := 6) (by decide) dX1_restore_28 ?_
  refine G_iald (pc := 29) (jj := 6) (v := 0) (by decide) rfl rfl (by unfold vp_in; decide) dX1_restore_29 ?_
  refine G_putI (pc := 30) (ci := 1) (j := 9) rfl lk_RX1_75 rfl rfl rfl trivial dX1_restore_30 ?_
  refine G_aload_n (pc := 33) rfl dX1_restore_33 ?_
  refine G_aload_n (pc := 34) rfl dX1_restore_34 ?_
  refine G_getR (pc := 35) (r := 34) (ci := 1) (j := 18) rfl lk_RX1_53 rfl rfl rfl dX1_restore_35 ?_
  refine G_iload_n (pc := 38) rfl dX1_restore_38 ?_
  refine G_bipush (pc := 39) (v := 6) (by decide) dX1_restore_39 ?_
  refine G_iadd (pc := 41) (z := 6) (by decide) dX1_restore_41 ?_
  refine G_iconst (pc := 42) (v := 1) (by decide) dX1_restore_42 ?_
  refine G_iadd (pc := 43) (z := 7) (by decide) dX1_restore_43 ?_
  refine G_iald (pc := 44) (jj := 7) (v := 0) (by decide) rfl rfl (by unfold vp_in; decide) dX1_restore_44 ?_
  refine G_putI (pc := 45) (ci := 1) (j := 1) rfl lk_RX1_60 rfl rfl rfl trivial dX1_restore_45 ?_
  exact G_vret (pc := 48) (Nat.le_of_ble_eq_true rfl) (Nat.le_of_ble_eq_true rfl) rfl dX1_restore_48 ⟨rfl, rfl⟩
set_option maxRecDepth 100000 in
set_option maxHeartbeats 4000000 in
theorem s419_X1_goRest  (d : Nat)   : G (d + 2) mX1_goRest 0 0 0 0 0 (gent 4 [.ref 19, .int 7]) [] SH0 RF0 (gup (gup (gcp I0 24 34 (0 : Int32).toNatClampNeg (0 : Int32).toNatClampNeg (6 : Int32).toNatClampNeg) 34 6 0) 34 7 0) (fun r h => r = some (.int 0) ∧ h = (SH0, RF0, (gup (gup (gup (gup (gup (gup (gup (gup (gup (gcp I0 24 34 (0 : Int32).toNatClampNeg (0 : Int32).toNatClampNeg (6 : Int32).toNatClampNeg) 34 6 0) 34 7 0) 19 1 1) 19 1 2) 19 1 3) 19 1 4) 19 1 5) 19 1 6) 19 1 7))) := by
  refine G_iconst (pc := 0) (v := 0) (by decide) dX1_goRest_0 ?_
  refine G_istore_n (pc := 1) (L1 := [some (.ref 19), some (.int 7), some (.int 0), none]) rfl rfl (by decide) dX1_goRest_1 ?_
  refine G_iconst (pc := 2) (v := 0) (by decide) dX1_goRest_2 ?_
  refine G_istore_n (pc := 3) (L1 := [some (.ref 19), some (.int 7), some (.int 0), some (.int 0)]) rfl rfl (by decide) dX1_goRest_3 ?_
  refine G_iload_n (pc := 4) rfl dX1_goRest_4 ?_
  refine G_iload_n (pc := 5) rfl dX1_goRest_5 ?_
  refine G_icmp_ge (pc := 6) (tgt := 38) (by decide) dX1_goRest_6 (fun z => absurd z (by decide)) (fun _ => ?_)
  refine G_aload_n (pc := 9) rfl dX1_goRest_9 ?_
  refine G_callV (pc := 10) (mc1 := 0) (ms1 := 0) (ci := 1) (mj := mX1_isOver) (vs := []) dX1_goRest_10 rfl rfl cm_X1_isOver wf_172 wf_17 wf_18 rfl (Nat.le_of_ble_eq_true rfl) (Nat.le_of_ble_eq_true rfl) (Nat.le_of_ble_eq_true rfl) (Nat.le_of_ble_eq_true rfl) (s350_X1_isOver  (d + 1)  ) ?_
  rintro _ _ ⟨rfl, rfl⟩
  dsimp only [Option.toList, List.cons_append, List.nil_append]
  refine G_if_ne (pc := 13) (tgt := 38) (by decide) dX1_goRest_13 (fun z => absurd (by decide) z) (fun _ => ?_)
  refine G_iload_n (pc := 16) rfl dX1_goRest_16 ?_
  refine G_aload_n (pc := 17) rfl dX1_goRest_17 ?_
  refine G_aload_n (pc := 18) rfl dX1_goRest_18 ?_
  refine G_callV (pc := 19) (mc1 := 0) (ms1 := 0) (ci := 1) (mj := mX1_restAct) (vs := []) dX1_goRest_19 rfl rfl cm_X1_restAct wf_173 wf_66 wf_67 rfl (Nat.le_of_ble_eq_true rfl) (Nat.le_of_ble_eq_true rfl) (Nat.le_of_ble_eq_true rfl) (Nat.le_of_ble_eq_true rfl) (s351_X1_restAct  (d + 1)  ) ?_
  rintro _ _ ⟨rfl, rfl⟩
  dsimp only [Option.toList, List.cons_append, List.nil_append]
  refine G_callV (pc := 22) (mc1 := 0) (ms1 := 0) (ci := 1) (mj := mX1_tell) (vs := [_]) dX1_goRest_22 rfl rfl cm_X1_tell wf_69 wf_71 wf_72 rfl (Nat.le_of_ble_eq_true rfl) (Nat.le_of_ble_eq_true rfl) (Nat.le_of_ble_eq_true rfl) (Nat.le_of_ble_eq_true rfl) (s145_X1_tell  d  ) ?_
  rintro _ _ ⟨rfl, rfl⟩
  dsimp only [Option.toList, List.cons_append, List.nil_append]
  refine G_aload_n (pc := 25) rfl dX1_goRest_25 ?_
  refine G_callV (pc := 26) (mc1 := 0) (ms1 := 0) (ci := 1) (mj := mX1_melt) (vs := []) dX1_goRest_26 rfl rfl cm_X1_melt wf_73 wf_75 wf_76 rfl (Nat.le_of_ble_eq_true rfl) (Nat.le_of_ble_eq_true rfl) (Nat.le_of_ble_eq_true rfl) (Nat.le_of_ble_eq_true rfl) (s147_X1_melt  (d + 1)  ) ?_
  rintro _ _ ⟨rfl, rfl⟩
  dsimp only [Option.toList, List.cons_append, List.nil_append]
  refine G_iadd (pc := 29) (z := 0) (by decide) dX1_goRest_29 ?_
  refine G_iadd (pc := 30) (z := 0) (by decide) dX1_goRest_30 ?_
  refine G_istore_n (pc := 31) (L1 := [some (.ref 19), some (.int 7), some (.int 0), some (.int 0)]) rfl rfl (by decide) dX1_goRest_31 ?_
  refine G_iinc (pc := 32) (v := 1) (w := 1) (L1 := [some (.ref 19), some (.int 7), some (.int 0), some (.int 1)]) (by decide) rfl rfl (by decide) rfl (by decide) dX1_goRest_32 ?_
  refine G_goto (pc := 35) (tgt := 4) (by decide) dX1_goRest_35 ?_
  refine G_iload_n (pc := 4) rfl dX1_goRest_4 ?_
  refine G_iload_n (pc := 5) rfl dX1_goRest_5 ?_
  refine G_icmp_ge (pc := 6) (tgt := 38) (by decide) dX1_goRest_6 (fun z => absurd z (by decide)) (fun _ => ?_)
  refine G_aload_n (pc := 9) rfl dX1_goRest_9 ?_
  refine G_callV (pc := 10) (mc1 := 0) (ms1 := 0) (ci := 1) (mj := mX1_isOver) (vs := []) dX1_goRest_10 rfl rfl cm_X1_isOver wf_172 wf_17 wf_18 rfl (Nat.le_of_ble_eq_true rfl) (Nat.le_of_ble_eq_true rfl) (Nat.le_of_ble_eq_true rfl) (Nat.le_of_ble_eq_true rfl) (s155_X1_isOver  (d + 1)  ) ?_
  rintro _ _ ⟨rfl, rfl⟩
  dsimp only [Option.toList, List.cons_append, List.nil_append]
  refine G_if_ne (pc := 13) (tgt := 38) (by decide) dX1_goRest_13 (fun z => absurd (by decide) z) (fun _ => ?_)
  refine G_iload_n (pc := 16) rfl dX1_goRest_16 ?_
  refine G_aload_n (pc := 17) rfl dX1_goRest_17 ?_
  refine G_aload_n (pc := 18) rfl dX1_goRest_18 ?_
  refine G_callV (pc := 19) (mc1 := 0) (ms1 := 0) (ci := 1) (mj := mX1_restAct) (vs := []) dX1_goRest_19 rfl rfl cm_X1_restAct wf_173 wf_66 wf_67 rfl (Nat.le_of_ble_eq_true rfl) (Nat.le_of_ble_eq_true rfl) (Nat.le_of_ble_eq_true rfl) (Nat.le_of_ble_eq_true rfl) (s352_X1_restAct  (d + 1)  ) ?_
  rintro _ _ ⟨rfl, rfl⟩
  dsimp only [Option.toList, List.cons_append, List.nil_append]
  refine G_callV (pc := 22) (mc1 := 0) (ms1 := 0) (ci := 1) (mj := mX1_tell) (vs := [_]) dX1_goRest_22 rfl rfl cm_X1_tell wf_69 wf_71 wf_72 rfl (Nat.le_of_ble_eq_true rfl) (Nat.le_of_ble_eq_true rfl) (Nat.le_of_ble_eq_true rfl) (Nat.le_of_ble_eq_true rfl) (s353_X1_tell  d  ) ?_
  rintro _ _ ⟨rfl, rfl⟩
  dsimp only [Option.toList, List.cons_append, List.nil_append]
  refine G_aload_n (pc := 25) rfl dX1_goRest_25 ?_
  refine G_callV (pc := 26) (mc1 := 0) (ms1 := 0) (ci := 1) (mj := mX1_melt) (vs := []) dX1_goRest_26 rfl rfl cm_X1_melt wf_73 wf_75 wf_76 rfl (Nat.le_of_ble_eq_true rfl) (Nat.le_of_ble_eq_true rfl) (Nat.le_of_ble_eq_true rfl) (Nat.le_of_ble_eq_true rfl) (s355_X1_melt  (d + 1)  ) ?_
  rintro _ _ ⟨rfl, rfl⟩
  dsimp only [Option.toList, List.cons_append, List.nil_append]
  refine G_iadd (pc := 29) (z := 0) (by decide) dX1_goRest_29 ?_
  refine G_iadd (pc := 30) (z := 0) (by decide) dX1_goRest_30 ?_
  refine G_istore_n (pc := 31) (L1 := [some (.ref 19), some (.int 7), some (.int 0), some (.int 1)]) rfl rfl (by decide) dX1_goRest_31 ?_
  refine G_iinc (pc := 32) (v := 1) (w := 2) (L1 := [some (.ref 19), some (.int 7), some (.int 0), some (.int 2)]) (by decide) rfl rfl (by decide) rfl (by decide) dX1_goRest_32 ?_
  refine G_goto (pc := 35) (tgt := 4) (by decide) dX1_goRest_35 ?_
  refine G_iload_n (pc := 4) rfl dX1_goRest_4 ?_
  refine G_iload_n (pc := 5) rfl dX1_goRest_5 ?_
  refine G_icmp_ge (pc := 6) (tgt := 38) (by decide) dX1_goRest_6 (fun z => absurd z (by decide)) (fun _ => ?_)
  refine G_aload_n (pc := 9) rfl dX1_goRest_9 ?_
  refine G_callV (pc := 10) (mc1 := 0) (ms1 := 0) (ci := 1) (mj := mX1_isOver) (vs := []) dX1_goRest_10 rfl rfl cm_X1_isOver wf_172 wf_17 wf_18 rfl (Nat.le_of_ble_eq_true rfl) (Nat.le_of_ble_eq_true rfl) (Nat.le_of_ble_eq_true rfl) (Nat.le_of_ble_eq_true rfl) (s356_X1_isOver  (d + 1)  ) ?_
  rintro _ _ ⟨rfl, rfl⟩
  dsimp only [Option.toList, List.cons_append, List.nil_append]
  refine G_if_ne (pc := 13) (tgt := 38) (by decide) dX1_goRest_13 (fun z => absurd (by decide) z) (fun _ => ?_)
  refine G_iload_n (pc := 16) rfl dX1_goRest_16 ?_
  refine G_aload_n (pc := 17) rfl dX1_goRest_17 ?_
  refine G_aload_n (pc := 18) rfl dX1_goRest_18 ?_
  refine G_callV (pc := 19) (mc1 := 0) (ms1 := 0) (ci := 1) (mj := mX1_restAct) (vs := []) dX1_goRest_19 rfl rfl cm_X1_restAct wf_173 wf_66 wf_67 rfl (Nat.le_of_ble_eq_true rfl) (Nat.le_of_ble_eq_true rfl) (Nat.le_of_ble_eq_true rfl) (Nat.le_of_ble_eq_true rfl) (s357_X1_restAct  (d + 1)  ) ?_
  rintro _ _ ⟨rfl, rfl⟩
  dsimp only [Option.toList, List.cons_append, List.nil_append]
  refine G_callV (pc := 22) (mc1 := 0) (ms1 := 0) (ci := 1) (mj := mX1_tell) (vs := [_]) dX1_goRest_22 rfl rfl cm_X1_tell wf_69 wf_71 wf_72 rfl (Nat.le_of_ble_eq_true rfl) (Nat.le_of_ble_eq_true rfl) (Nat.le_of_ble_eq_true rfl) (Nat.le_of_ble_eq_true rfl) (s358_X1_tell  d  ) ?_
  rintro _ _ ⟨rfl, rfl⟩
  dsimp only [Option.toList, List.cons_append, List.nil_append]
  refine G_aload_n (pc := 25) rfl dX1_goRest_25 ?_
  refine G_callV (pc := 26) (mc1 := 0) (ms1 := 0) (ci := 1) (mj := mX1_melt) (vs := []) dX1_goRest_26 rfl rfl cm_X1_melt wf_73 wf_75 wf_76 rfl (Nat.le_of_ble_eq_true rfl) (Nat.le_of_ble_eq_true rfl) (Nat.le_of_ble_eq_true rfl) (Nat.le_of_ble_eq_true rfl) (s360_X1_melt  (d + 1)  ) ?_
  rintro _ _ ⟨rfl, rfl⟩
  dsimp only [Option.toList, List.cons_append, List.nil_append]
  refine G_iadd (pc := 29) (z := 0) (by decide) dX1_goRest_29 ?_
  refine G_iadd (pc := 30) (z := 0) (by decide) dX1_goRest_30 ?_
  refine G_istore_n (pc := 31) (L1 := [some (.ref 19), some (.int 7), some (.int 0), some (.int 2)]) rfl rfl (by decide) dX1_goRest_31 ?_
  refine G_iinc (pc := 32) (v := 1) (w := 3) (L1 := [some (.ref 19), some (.int 7), some (.int 0), some (.int 3)]) (by decide) rfl rfl (by decide) rfl (by decide) dX1_goRest_32 ?_
  refine G_goto (pc := 35) (tgt := 4) (by decide) dX1_goRest_35 ?_
  refine G_iload_n (pc := 4) rfl dX1_goRest_4 ?_
  refine G_iload_n (pc := 5) rfl dX1_goRest_5 ?_
  refine G_icmp_ge (pc := 6) (tgt := 38) (by decide) dX1_goRest_6 (fun z => absurd z (by decide)) (fun _ => ?_)
  refine G_aload_n (pc := 9) rfl dX1_goRest_9 ?_
  refine G_callV (pc := 10) (mc1 := 0) (ms1 := 0) (ci := 1) (mj := mX1_isOver) (vs := []) dX1_goRest_10 rfl rfl cm_X1_isOver wf_172 wf_17 wf_18 rfl (Nat.le_of_ble_eq_true rfl) (Nat.le_of_ble_eq_true rfl) (Nat.le_of_ble_eq_true rfl) (Nat.le_of_ble_eq_true rfl) (s361_X1_isOver  (d + 1)  ) ?_
  rintro _ _ ⟨rfl, rfl⟩
  dsimp only [Option.toList, List.cons_append, List.nil_append]
  refine G_if_ne (pc := 13) (tgt := 38) (by decide) dX1_goRest_13 (fun z => absurd (by decide) z) (fun _ => ?_)
  refine G_iload_n (pc := 16) rfl dX1_goRest_16 ?_
  refine G_aload_n (pc := 17) rfl dX1_goRest_17 ?_
  refine G_aload_n (pc := 18) rfl dX1_goRest_18 ?_
  refine G_callV (pc := 19) (mc1 := 0) (ms1 := 0) (ci := 1) (mj := mX1_restAct) (vs := []) dX1_goRest_19 rfl rfl cm_X1_restAct wf_173 wf_66 wf_67 rfl (Nat.le_of_ble_eq_true rfl) (Nat.le_of_ble_eq_true rfl) (Nat.le_of_ble_eq_true rfl) (Nat.le_of_ble_eq_true rfl) (s362_X1_restAct  (d + 1)  ) ?_
  rintro _ _ ⟨rfl, rfl⟩
  dsimp only [Option.toList, List.cons_append, List.nil_append]
  refine G_callV (pc := 22) (mc1 := 0) (ms1 := 0) (ci := 1) (mj := mX1_tell) (vs := [_]) dX1_goRest_22 rfl rfl cm_X1_tell wf_69 wf_71 wf_72 rfl (Nat.le_of_ble_eq_true rfl) (Nat.le_of_ble_eq_true rfl) (Nat.le_of_ble_eq_true rfl) (Nat.le_of_ble_eq_true rfl) (s363_X1_tell  d  ) ?_
  rintro _ _ ⟨rfl, rfl⟩
  dsimp only [Option.toList, List.cons_append, List.nil_append]
  refine G_aload_n (pc := 25) rfl dX1_goRest_25 ?_
  refine G_callV (pc := 26) (mc1 := 0) (ms1 := 0) (ci := 1) (mj := mX1_melt) (vs := []) dX1_goRest_26 rfl rfl cm_X1_melt wf_73 wf_75 wf_76 rfl (Nat.le_of_ble_eq_true rfl) (Nat.le_of_ble_eq_true rfl) (Nat.le_of_ble_eq_true rfl) (Nat.le_of_ble_eq_true rfl) (s365_X1_melt  (d + 1)  ) ?_
  rintro _ _ ⟨rfl, rfl⟩
  dsimp only [Option.toList, List.cons_append, List.nil_append]
  refine G_iadd (pc := 29) (z := 0) (by decide) dX1_goRest_29 ?_
  refine G_iadd (pc := 30) (z := 0) (by decide) dX1_goRest_30 ?_
  refine G_istore_n (pc := 31) (L1 := [some (.ref 19), some (.int 7), some (.int 0), some (.int 3)]) rfl rfl (by decide) dX1_goRest_31 ?_
  refine G_iinc (pc := 32) (v := 1) (w := 4) (L1 := [some (.ref 19), some (.int 7), some (.int 0), some (.int 4)]) (by decide) rfl rfl (by decide) rfl (by decide) dX1_goRest_32 ?_
  refine G_goto (pc := 35) (tgt := 4) (by decide) dX1_goRest_35 ?_
  refine G_iload_n (pc := 4) rfl dX1_goRest_4 ?_
  refine G_iload_n (pc := 5) rfl dX1_goRest_5 ?_
  refine G_icmp_ge (pc := 6) (tgt := 38) (by decide) dX1_goRest_6 (fun z => absurd z (by decide)) (fun _ => ?_)
  refine G_aload_n (pc := 9) rfl dX1_goRest_9 ?_
  refine G_callV (pc := 10) (mc1 := 0) (ms1 := 0) (ci := 1) (mj := mX1_isOver) (vs := []) dX1_goRest_10 rfl rfl cm_X1_isOver wf_172 wf_17 wf_18 rfl (Nat.le_of_ble_eq_true rfl) (Nat.le_of_ble_eq_true rfl) (Nat.le_of_ble_eq_true rfl) (Nat.le_of_ble_eq_true rfl) (s366_X1_isOver  (d + 1)  ) ?_
  rintro _ _ ⟨rfl, rfl⟩
  dsimp only [Option.toList, List.cons_append, List.nil_append]
  refine G_if_ne (pc := 13) (tgt := 38) (by decide) dX1_goRest_13 (fun z => absurd (by decide) z) (fun _ => ?_)
  refine G_iload_n (pc := 16) rfl dX1_goRest_16 ?_
  refine G_aload_n (pc := 17) rfl dX1_goRest_17 ?_
  refine G_aload_n (pc := 18) rfl dX1_goRest_18 ?_
  refine G_callV (pc := 19) (mc1 := 0) (ms1 := 0) (ci := 1) (mj := mX1_restAct) (vs := []) dX1_goRest_19 rfl rfl cm_X1_restAct wf_173 wf_66 wf_67 rfl (Nat.le_of_ble_eq_true rfl) (Nat.le_of_ble_eq_true rfl) (Nat.le_of_ble_eq_true rfl) (Nat.le_of_ble_eq_true rfl) (s367_X1_restAct  (d + 1)  ) ?_
  rintro _ _ ⟨rfl, rfl⟩
  dsimp only [Option.toList, List.cons_append, List.nil_append]
  refine G_callV (pc := 22) (mc1 := 0) (ms1 := 0) (ci := 1) (mj := mX1_tell) (vs := [_]) dX1_goRest_22 rfl rfl cm_X1_tell wf_69 wf_71 wf_72 rfl (Nat.le_of_ble_eq_true rfl) (Nat.le_of_ble_eq_true rfl) (Nat.le_of_ble_eq_true rfl) (Nat.le_of_ble_eq_true rfl) (s368_X1_tell  d  ) ?_
  rintro _ _ ⟨rfl, rfl⟩
  dsimp only [Option.toList, List.cons_append, List.nil_append]
  refine G_aload_n (pc := 25) rfl dX1_goRest_25 ?_
  refine G_callV (pc := 26) (mc1 := 0) (ms1 := 0) (ci := 1) (mj := mX1_melt) (vs := []) dX1_goRest_26 rfl rfl cm_X1_melt wf_73 wf_75 wf_76 rfl (Nat.le_of_ble_eq_true rfl) (Nat.le_of_ble_eq_true rfl) (Nat.le_of_ble_eq_true rfl) (Nat.le_of_ble_eq_true rfl) (s370_X1_melt  (d + 1)  ) ?_
  rintro _ _ ⟨rfl, rfl⟩
  dsimp only [Option.toList, List.cons_append, List.nil_append]
  refine G_iadd (pc := 29) (z := 0) (by decide) dX1_goRest_29 ?_
  refine G_iadd (pc := 30) (z := 0) (by decide) dX1_goRest_30 ?_
  refine G_istore_n (pc := 31) (L1 := [some (.ref 19), some (.int 7), some (.int 0), some (.int 4)]) rfl rfl (by decide) dX1_goRest_31 ?_
  refine G_iinc (pc := 32) (v := 1) (w := 5) (L1 := [some (.ref 19), some (.int 7), some (.int 0), some (.int 5)]) (by decide) rfl rfl (by decide) rfl (by decide) dX1_goRest_32 ?_
  refine G_goto (pc := 35) (tgt := 4) (by decide) dX1_goRest_35 ?_
  refine G_iload_n (pc := 4) rfl dX1_goRest_4 ?_
  refine G_iload_n (pc := 5) rfl dX1_goRest_5 ?_
  refine G_icmp_ge (pc := 6) (tgt := 38) (by decide) dX1_goRest_6 (fun z => absurd z (by decide)) (fun _ => ?_)
  refine G_aload_n (pc := 9) rfl dX1_goRest_9 ?_
  refine G_callV (pc := 10) (mc1 := 0) (ms1 := 0) (ci := 1) (mj := mX1_isOver) (vs := []) dX1_goRest_10 rfl rfl cm_X1_isOver wf_172 wf_17 wf_18 rfl (Nat.le_of_ble_eq_true rfl) (Nat.le_of_ble_eq_true rfl) (Nat.le_of_ble_eq_true rfl) (Nat.le_of_ble_eq_true rfl) (s371_X1_isOver  (d + 1)  ) ?_
  rintro _ _ ⟨rfl, rfl⟩
  dsimp only [Option.toList, List.cons_append, List.nil_append]
  refine G_if_ne (pc := 13) (tgt := 38) (by decide) dX1_goRest_13 (fun z => absurd (by decide) z) (fun _ => ?_)
  refine G_iload_n (pc := 16) rfl dX1_goRest_16 ?_
  refine G_aload_n (pc := 17) rfl dX1_goRest_17 ?_
  refine G_aload_n (pc := 18) rfl dX1_goRest_18 ?_
  refine G_callV (pc := 19) (mc1 := 0) (ms1 := 0) (ci := 1) (mj := mX1_restAct) (vs := []) dX1_goRest_19 rfl rfl cm_X1_restAct wf_173 wf_66 wf_67 rfl (Nat.le_of_ble_eq_true rfl) (Nat.le_of_ble_eq_true rfl) (Nat.le_of_ble_eq_true rfl) (Nat.le_of_ble_eq_true rfl) (s372_X1_restAct  (d + 1)  ) ?_
  rintro _ _ ⟨rfl, rfl⟩
  dsimp only [Option.toList, List.cons_append, List.nil_append]
  refine G_callV (pc := 22) (mc1 := 0) (ms1 := 0) (ci := 1) (mj := mX1_tell) (vs := [_]) dX1_goRest_22 rfl rfl cm_X1_tell wf_69 wf_71 wf_72 rfl (Nat.le_of_ble_eq_true rfl) (Nat.le_of_ble_eq_true rfl) (Nat.le_of_ble_eq_true rfl) (Nat.le_of_ble_eq_true rfl) (s373_X1_tell  d  ) ?_
  rintro _ _ ⟨rfl, rfl⟩
  dsimp only [Option.toList, List.cons_append, List.nil_append]
  refine G_aload_n (pc := 25) rfl dX1_goRest_25 ?_
  refine G_callV (pc := 26) (mc1 := 0) (ms1 := 0) (ci := 1) (mj := mX1_melt) (vs := []) dX1_goRest_26 rfl rfl cm_X1_melt wf_73 wf_75 wf_76 rfl (Nat.le_of_ble_eq_true rfl) (Nat.le_of_ble_eq_true rfl) (Nat.le_of_ble_eq_true rfl) (Nat.le_of_ble_eq_true rfl) (s375_X1_melt  (d + 1)  ) ?_
  rintro _ _ ⟨rfl, rfl⟩
  dsimp only [Option.toList, List.cons_append, List.nil_append]
  refine G_iadd (pc := 29) (z := 0) (by decide) dX1_goRest_29 ?_
  refine G_iadd (pc := 30) (z := 0) (by decide) dX1_goRest_30 ?_
  refine G_istore_n (pc := 31) (L1 := [some (.ref 19), some (.int 7), some (.int 0), some (.int 5)]) rfl rfl (by decide) dX1_goRest_31 ?_
  refine G_iinc (pc := 32) (v := 1) (w := 6) (L1 := [some (.ref 19), some (.int 7), some (.int 0), some (.int 6)]) (by decide) rfl rfl (by decide) rfl (by decide) dX1_goRest_32 ?_
  refine G_goto (pc := 35) (tgt := 4) (by decide) dX1_goRest_35 ?_
  refine G_iload_n (pc := 4) rfl dX1_goRest_4 ?_
  refine G_iload_n (pc := 5) rfl dX1_goRest_5 ?_
  refine G_icmp_ge (pc := 6) (tgt := 38) (by decide) dX1_goRest_6 (fun z => absurd z (by decide)) (fun _ => ?_)
  refine G_aload_n (pc := 9) rfl dX1_goRest_9 ?_
  refine G_callV (pc := 10) (mc1 := 0) (ms1 := 0) (ci := 1) (mj := mX1_isOver) (vs := []) dX1_goRest_10 rfl rfl cm_X1_isOver wf_172 wf_17 wf_18 rfl (Nat.le_of_ble_eq_true rfl) (Nat.le_of_ble_eq_true rfl) (Nat.le_of_ble_eq_true rfl) (Nat.le_of_ble_eq_true rfl) (s376_X1_isOver  (d + 1)  ) ?_
  rintro _ _ ⟨rfl, rfl⟩
  dsimp only [Option.toList, List.cons_append, List.nil_append]
  refine G_if_ne (pc := 13) (tgt := 38) (by decide) dX1_goRest_13 (fun z => absurd (by decide) z) (fun _ => ?_)
  refine G_iload_n (pc := 16) rfl dX1_goRest_16 ?_
  refine G_aload_n (pc := 17) rfl dX1_goRest_17 ?_
  refine G_aload_n (pc := 18) rfl dX1_goRest_18 ?_
  refine G_callV (pc := 19) (mc1 := 0) (ms1 := 0) (ci := 1) (mj := mX1_restAct) (vs := []) dX1_goRest_19 rfl rfl cm_X1_restAct wf_173 wf_66 wf_67 rfl (Nat.le_of_ble_eq_true rfl) (Nat.le_of_ble_eq_true rfl) (Nat.le_of_ble_eq_true rfl) (Nat.le_of_ble_eq_true rfl) (s377_X1_restAct  (d + 1)  ) ?_
  rintro _ _ ⟨rfl, rfl⟩
  dsimp only [Option.toList, List.cons_append, List.nil_append]
  refine G_callV (pc := 22) (mc1 := 0) (ms1 := 0) (ci := 1) (mj := mX1_tell) (vs := [_]) dX1_goRest_22 rfl rfl cm_X1_tell wf_69 wf_71 wf_72 rfl (Nat.le_of_ble_eq_true rfl) (Nat.le_of_ble_eq_true rfl) (Nat.le_of_ble_eq_true rfl) (Nat.le_of_ble_eq_true rfl) (s378_X1_tell  d  ) ?_
  rintro _ _ ⟨rfl, rfl⟩
  dsimp only [Option.toList, List.cons_append, List.nil_append]
  refine G_aload_n (pc := 25) rfl dX1_goRest_25 ?_
  refine G_callV (pc := 26) (mc1 := 0) (ms1 := 0) (ci := 1) (mj := mX1_melt) (vs := []) dX1_goRest_26 rfl rfl cm_X1_melt wf_73 wf_75 wf_76 rfl (Nat.le_of_ble_eq_true rfl) (Nat.le_of_ble_eq_true rfl) (Nat.le_of_ble_eq_true rfl) (Nat.le_of_ble_eq_true rfl) (s380_X1_melt  (d + 1)  ) ?_
  rintro _ _ ⟨rfl, rfl⟩
  dsimp only [Option.toList, List.cons_append, List.nil_append]
  refine G_iadd (pc := 29) (z := 0) (by decide) dX1_goRest_29 ?_
  refine G_iadd (pc := 30) (z := 0) (by decide) dX1_goRest_30 ?_
  refine G_istore_n (pc := 31) (L1 := [some (.ref 19), some (.int 7), some (.int 0), some (.int 6)]) rfl rfl (by decide) dX1_goRest_31 ?_
  refine G_iinc (pc := 32) (v := 1) (w := 7) (L1 := [some (.ref 19), some (.int 7), some (.int 0), some (.int 7)]) (by decide) rfl rfl (by decide) rfl (by decide) dX1_goRest_32 ?_
  refine G_goto (pc := 35) (tgt := 4) (by decide) dX1_goRest_35 ?_
  refine G_iload_n (pc := 4) rfl dX1_goRest_4 ?_
  refine G_iload_n (pc := 5) rfl dX1_goRest_5 ?_
  refine G_icmp_ge (pc := 6) (tgt := 38) (by decide) dX1_goRest_6 (fun _ => ?_) (fun z => absurd (by decide) z)
  refine G_iload_n (pc := 38) rfl dX1_goRest_38 ?_
  exact G_iret (pc := 39) (Nat.le_of_ble_eq_true rfl) (Nat.le_of_ble_eq_true rfl) rfl dX1_goRest_39 ⟨rfl, rfl⟩
set_option maxRecDepth 100000 in
set_option maxHeartbeats 4000000 in
theorem s420_X1_restore  (d : Nat)   : G (d + 1) mX1_restore 0 0 0 0 0 (gent 3 [.ref 19, .int 0]) [] SH0 RF0 (gup (gup (gup (gup (gup (gup (gup (gup (gup (gcp I0 24 34 (0 : Int32).toNatClampNeg (0 : Int32).toNatClampNeg (6 : Int32).toNatClampNeg) 34 6 0) 34 7 0) 19 1 1) 19 1 2) 19 1 3) 19 1 4) 19 1 5) 19 1 6) 19 1 7) (fun r h => r = none ∧ h = (SH0, RF0, (gup (gup (gcp (gup (gup (gup (gup (gup (gup (gup (gup (gup (gcp I0 24 34 (0 : Int32).toNatClampNeg (0 : Int32).toNatClampNeg (6 : Int32).toNatClampNeg) 34 6 0) 34 7 0) 19 1 1) 19 1 2) 19 1 3) 19 1 4) 19 1 5) 19 1 6) 19 1 7) 34 24 (0 : Int32).toNatClampNeg (0 : Int32).toNatClampNeg (6 : Int32).toNatClampNeg) 19 9 0) 19 1 0))) := by
  refine G_iload_n (pc := 0) rfl dX1_restore_0 ?_
  refine G_bipush (pc := 1) (v := 8) (by decide) dX1_restore_1 ?_
  refine G_imul (pc := 3) (z := 0) (by decide) dX1_restore_3 ?_
  refine G_istore_n (pc := 4) (L1 := [some (.ref 19), some (.int 0), some (.int 0)]) rfl rfl (by decide) dX1_restore_4 ?_
  refine G_aload_n (pc := 5) rfl dX1_restore_5 ?_
  refine G_getR (pc := 6) (r := 34) (ci := 1) (j := 18) rfl lk_RX1_53 rfl rfl rfl dX1_restore_6 ?_
  refine G_iload_n (pc := 9) rfl dX1_restore_9 ?_
  refine G_aload_n (pc := 10) rfl dX1_restore_10 ?_
  refine G_getR (pc := 11) (r := 24) (ci := 1) (j := 11) rfl lk_RX1_31 rfl rfl rfl dX1_restore_11 ?_
  refine G_iconst (pc := 14) (v := 0) (by decide) dX1_restore_14 ?_
  refine G_bipush (pc := 15) (v := 6) (by decide) dX1_restore_15 ?_
  refine G_copy (pc := 17) (x := 34) (y := 24) rfl rfl (by decide) (by decide) (by decide) (by decide) (by decide) wf_50 wf_51 wf_52 wf_53 (Nat.le_of_ble_eq_true rfl) dX1_restore_17 ?_
  refine G_aload_n (pc := 20) rfl dX1_restore_20 ?_
  refine G_aload_n (pc := 21) rfl dX1_restore_21 ?_
  refine G_getR (pc := 22) (r := 34) (ci := 1) (j := 18) rfl lk_RX1_53 rfl rfl rfl dX1_restore_22 ?_
  refine G_iload_n (pc := 25) rfl dX1_restore_25 ?_
  refine G_bipush (pc := 26) (v := 6) (by decide) dX1_restore_26 ?_
  refine G_iadd (pc := 28) (z := 6) (by decide) dX1_restore_28 ?_
  refine G_iald (pc := 29) (jj := 6) (v := 0) (by decide) rfl rfl (by unfold vp_in; decide) dX1_restore_29 ?_
  refine G_putI (pc := 30) (ci := 1) (j := 9) rfl lk_RX1_75 rfl rfl rfl trivial dX1_restore_30 ?_
  refine G_aload_n (pc := 33) rfl dX1_restore_33 ?_
  refine G_aload_n (pc := 34) rfl dX1_restore_34 ?_
  refine G_getR (pc := 35) (r := 34) (ci := 1) (j := 18) rfl lk_RX1_53 rfl rfl rfl dX1_restore_35 ?_
  refine G_iload_n (pc := 38) rfl dX1_restore_38 ?_
  refine G_bipush (pc := 39) (v := 6) (by decide) dX1_restore_39 ?_
  refine G_iadd (pc := 41) (z := 6) (by decide) dX1_restore_41 ?_
  refine G_iconst (pc := 42) (v := 1) (by decide) dX1_restore_42 ?_
  refine G_iadd (pc := 43) (z := 7) (by decide) dX1_restore_43 ?_
  refine G_iald (pc := 44) (jj := 7) (v := 0) (by decide) rfl rfl (by unfold vp_in; decide) dX1_restore_44 ?_
  refine G_putI (pc := 45) (ci := 1) (j := 1) rfl lk_RX1_60 rfl rfl rfl trivial dX1_restore_45 ?_
  exact G_vret (pc := 48) (Nat.le_of_ble_eq_true rfl) (Nat.le_of_ble_eq_true rfl) rfl dX1_restore_48 ⟨rfl, rfl⟩
set_option maxRecDepth 100000 in
set_option maxHeartbeats 4000000 in
theorem s421_X1_goRest  (d : Nat)   : G (d + 2) mX1_goRest 0 0 0 0 0 (gent 4 [.ref 19, .int 8]) [] SH0 RF0 (gup (gup (gcp I0 24 34 (0 : Int32).toNatClampNeg (0 : Int32).toNatClampNeg (6 : Int32).toNatClampNeg) 34 6 0) 34 7 0) (fun r h => r = some (.int 0) ∧ h = (SH0, RF0, (gup (gup (gup (gup (gup (gup (gup (gup (gup (gup (gcp I0 24 34 (0 : Int32).toNatClampNeg (0 : Int32).toNatClampNeg (6 : Int32).toNatClampNeg) 34 6 0) 34 7 0) 19 1 1) 19 1 2) 19 1 3) 19 1 4) 19 1 5) 19 1 6) 19 1 7) 19 1 8))) := by
  refine G_iconst (pc := 0) (v := 0) (by decide) dX1_goRest_0 ?_
  refine G_istore_n (pc := 1) (L1 := [some (.ref 19), some (.int 8), some (.int 0), none]) rfl rfl (by decide) dX1_goRest_1 ?_
  refine G_iconst (pc := 2) (v := 0) (by decide) dX1_goRest_2 ?_
  refine G_istore_n (pc := 3) (L1 := [some (.ref 19), some (.int 8), some (.int 0), some (.int 0)]) rfl rfl (by decide) dX1_goRest_3 ?_
  refine G_iload_n (pc := 4) rfl dX1_goRest_4 ?_
  refine G_iload_n (pc := 5) rfl dX1_goRest_5 ?_
  refine G_icmp_ge (pc := 6) (tgt := 38) (by decide) dX1_goRest_6 (fun z => absurd z (by decide)) (fun _ => ?_)
  refine G_aload_n (pc := 9) rfl dX1_goRest_9 ?_
  refine G_callV (pc := 10) (mc1 := 0) (ms1 := 0) (ci := 1) (mj := mX1_isOver) (vs := []) dX1_goRest_10 rfl rfl cm_X1_isOver wf_172 wf_17 wf_18 rfl (Nat.le_of_ble_eq_true rfl) (Nat.le_of_ble_eq_true rfl) (Nat.le_of_ble_eq_true rfl) (Nat.le_of_ble_eq_true rfl) (s350_X1_isOver  (d + 1)  ) ?_
  rintro _ _ ⟨rfl, rfl⟩
  dsimp only [Option.toList, List.cons_append, List.nil_append]
  refine G_if_ne (pc := 13) (tgt := 38) (by decide) dX1_goRest_13 (fun z => absurd (by decide) z) (fun _ => ?_)
  refine G_iload_n (pc := 16) rfl dX1_goRest_16 ?_
  refine G_aload_n (pc := 17) rfl dX1_goRest_17 ?_
  refine G_aload_n (pc := 18) rfl dX1_goRest_18 ?_
  refine G_callV (pc := 19) (mc1 := 0) (ms1 := 0) (ci := 1) (mj := mX1_restAct) (vs := []) dX1_goRest_19 rfl rfl cm_X1_restAct wf_173 wf_66 wf_67 rfl (Nat.le_of_ble_eq_true rfl) (Nat.le_of_ble_eq_true rfl) (Nat.le_of_ble_eq_true rfl) (Nat.le_of_ble_eq_true rfl) (s351_X1_restAct  (d + 1)  ) ?_
  rintro _ _ ⟨rfl, rfl⟩
  dsimp only [Option.toList, List.cons_append, List.nil_append]
  refine G_callV (pc := 22) (mc1 := 0) (ms1 := 0) (ci := 1) (mj := mX1_tell) (vs := [_]) dX1_goRest_22 rfl rfl cm_X1_tell wf_69 wf_71 wf_72 rfl (Nat.le_of_ble_eq_true rfl) (Nat.le_of_ble_eq_true rfl) (Nat.le_of_ble_eq_true rfl) (Nat.le_of_ble_eq_true rfl) (s145_X1_tell  d  ) ?_
  rintro _ _ ⟨rfl, rfl⟩
  dsimp only [Option.toList, List.cons_append, List.nil_append]
  refine G_aload_n (pc := 25) rfl dX1_goRest_25 ?_
  refine G_callV (pc := 26) (mc1 := 0) (ms1 := 0) (ci := 1) (mj := mX1_melt) (vs := []) dX1_goRest_26 rfl rfl cm_X1_melt wf_73 wf_75 wf_76 rfl (Nat.le_of_ble_eq_true rfl) (Nat.le_of_ble_eq_true rfl) (Nat.le_of_ble_eq_true rfl) (Nat.le_of_ble_eq_true rfl) (s147_X1_melt  (d + 1)  ) ?_
  rintro _ _ ⟨rfl, rfl⟩
  dsimp only [Option.toList, List.cons_append, List.nil_append]
  refine G_iadd (pc := 29) (z := 0) (by decide) dX1_goRest_29 ?_
  refine G_iadd (pc := 30) (z := 0) (by decide) dX1_goRest_30 ?_
  refine G_istore_n (pc := 31) (L1 := [some (.ref 19), some (.int 8), some (.int 0), some (.int 0)]) rfl rfl (by decide) dX1_goRest_31 ?_
  refine G_iinc (pc := 32) (v := 1) (w := 1) (L1 := [some (.ref 19), some (.int 8), some (.int 0), some (.int 1)]) (by decide) rfl rfl (by decide) rfl (by decide) dX1_goRest_32 ?_
  refine G_goto (pc := 35) (tgt := 4) (by decide) dX1_goRest_35 ?_
  refine G_iload_n (pc := 4) rfl dX1_goRest_4 ?_
  refine G_iload_n (pc := 5) rfl dX1_goRest_5 ?_
  refine G_icmp_ge (pc := 6) (tgt := 38) (by decide) dX1_goRest_6 (fun z => absurd z (by decide)) (fun _ => ?_)
  refine G_aload_n (pc := 9) rfl dX1_goRest_9 ?_
  refine G_callV (pc := 10) (mc1 := 0) (ms1 := 0) (ci := 1) (mj := mX1_isOver) (vs := []) dX1_goRest_10 rfl rfl cm_X1_isOver wf_172 wf_17 wf_18 rfl (Nat.le_of_ble_eq_true rfl) (Nat.le_of_ble_eq_true rfl) (Nat.le_of_ble_eq_true rfl) (Nat.le_of_ble_eq_true rfl) (s155_X1_isOver  (d + 1)  ) ?_
  rintro _ _ ⟨rfl, rfl⟩
  dsimp only [Option.toList, List.cons_append, List.nil_append]
  refine G_if_ne (pc := 13) (tgt := 38) (by decide) dX1_goRest_13 (fun z => absurd (by decide) z) (fun _ => ?_)
  refine G_iload_n (pc := 16) rfl dX1_goRest_16 ?_
  refine G_aload_n (pc := 17) rfl dX1_goRest_17 ?_
  refine G_aload_n (pc := 18) rfl dX1_goRest_18 ?_
  refine G_callV (pc := 19) (mc1 := 0) (ms1 := 0) (ci := 1) (mj := mX1_restAct) (vs := []) dX1_goRest_19 rfl rfl cm_X1_restAct wf_173 wf_66 wf_67 rfl (Nat.le_of_ble_eq_true rfl) (Nat.le_of_ble_eq_true rfl) (Nat.le_of_ble_eq_true rfl) (Nat.le_of_ble_eq_true rfl) (s352_X1_restAct  (d + 1)  ) ?_
  rintro _ _ ⟨rfl, rfl⟩
  dsimp only [Option.toList, List.cons_append, List.nil_append]
  refine G_callV (pc := 22) (mc1 := 0) (ms1 := 0) (ci := 1) (mj := mX1_tell) (vs := [_]) dX1_goRest_22 rfl rfl cm_X1_tell wf_69 wf_71 wf_72 rfl (Nat.le_of_ble_eq_true rfl) (Nat.le_of_ble_eq_true rfl) (Nat.le_of_ble_eq_true rfl) (Nat.le_of_ble_eq_true rfl) (s353_X1_tell  d  ) ?_
  rintro _ _ ⟨rfl, rfl⟩
  dsimp only [Option.toList, List.cons_append, List.nil_append]
  refine G_aload_n (pc := 25) rfl dX1_goRest_25 ?_
  refine G_callV (pc := 26) (mc1 := 0) (ms1 := 0) (ci := 1) (mj := mX1_melt) (vs := []) dX1_goRest_26 rfl rfl cm_X1_melt wf_73 wf_75 wf_76 rfl (Nat.le_of_ble_eq_true rfl) (Nat.le_of_ble_eq_true rfl) (Nat.le_of_ble_eq_true rfl) (Nat.le_of_ble_eq_true rfl) (s355_X1_melt  (d + 1)  ) ?_
  rintro _ _ ⟨rfl, rfl⟩
  dsimp only [Option.toList, List.cons_append, List.nil_append]
  refine G_iadd (pc := 29) (z := 0) (by decide) dX1_goRest_29 ?_
  refine G_iadd (pc := 30) (z := 0) (by decide) dX1_goRest_30 ?_
  refine G_istore_n (pc := 31) (L1 := [some (.ref 19), some (.int 8), some (.int 0), some (.int 1)]) rfl rfl (by decide) dX1_goRest_31 ?_
  refine G_iinc (pc := 32) (v := 1) (w := 2) (L1 := [some (.ref 19), some (.int 8), some (.int 0), some (.int 2)]) (by decide) rfl rfl (by decide) rfl (by decide) dX1_goRest_32 ?_
  refine G_goto (pc := 35) (tgt := 4) (by decide) dX1_goRest_35 ?_
  refine G_iload_n (pc := 4) rfl dX1_goRest_4 ?_
  refine G_iload_n (pc := 5) rfl dX1_goRest_5 ?_
  refine G_icmp_ge (pc := 6) (tgt := 38) (by decide) dX1_goRest_6 (fun z => absurd z (by decide)) (fun _ => ?_)
  refine G_aload_n (pc := 9) rfl dX1_goRest_9 ?_
  refine G_callV (pc := 10) (mc1 := 0) (ms1 := 0) (ci := 1) (mj := mX1_isOver) (vs := []) dX1_goRest_10 rfl rfl cm_X1_isOver wf_172 wf_17 wf_18 rfl (Nat.le_of_ble_eq_true rfl) (Nat.le_of_ble_eq_true rfl) (Nat.le_of_ble_eq_true rfl) (Nat.le_of_ble_eq_true rfl) (s356_X1_isOver  (d + 1)  ) ?_
  rintro _ _ ⟨rfl, rfl⟩
  dsimp only [Option.toList, List.cons_append, List.nil_append]
  refine G_if_ne (pc := 13) (tgt := 38) (by decide) dX1_goRest_13 (fun z => absurd (by decide) z) (fun _ => ?_)
  refine G_iload_n (pc := 16) rfl dX1_goRest_16 ?_
  refine G_aload_n (pc := 17) rfl dX1_goRest_17 ?_
  refine G_aload_n (pc := 18) rfl dX1_goRest_18 ?_
  refine G_callV (pc := 19) (mc1 := 0) (ms1 := 0) (ci := 1) (mj := mX1_restAct) (vs := []) dX1_goRest_19 rfl rfl cm_X1_restAct wf_173 wf_66 wf_67 rfl (Nat.le_of_ble_eq_true rfl) (Nat.le_of_ble_eq_true rfl) (Nat.le_of_ble_eq_true rfl) (Nat.le_of_ble_eq_true rfl) (s357_X1_restAct  (d + 1)  ) ?_
  rintro _ _ ⟨rfl, rfl⟩
  dsimp only [Option.toList, List.cons_append, List.nil_append]
  refine G_callV (pc := 22) (mc1 := 0) (ms1 := 0) (ci := 1) (mj := mX1_tell) (vs := [_]) dX1_goRest_22 rfl rfl cm_X1_tell wf_69 wf_71 wf_72 rfl (Nat.le_of_ble_eq_true rfl) (Nat.le_of_ble_eq_true rfl) (Nat.le_of_ble_eq_true rfl) (Nat.le_of_ble_eq_true rfl) (s358_X1_tell  d  ) ?_
  rintro _ _ ⟨rfl, rfl⟩
  dsimp only [Option.toList, List.cons_append, List.nil_append]
  refine G_aload_n (pc := 25) rfl dX1_goRest_25 ?_
  refine G_callV (pc := 26) (mc1 := 0) (ms1 := 0) (ci := 1) (mj := mX1_melt) (vs := []) dX1_goRest_26 rfl rfl cm_X1_melt wf_73 wf_75 wf_76 rfl (Nat.le_of_ble_eq_true rfl) (Nat.le_of_ble_eq_true rfl) (Nat.le_of_ble_eq_true rfl) (Nat.le_of_ble_eq_true rfl) (s360_X1_melt  (d + 1)  ) ?_
  rintro _ _ ⟨rfl, rfl⟩
  dsimp only [Option.toList, List.cons_append, List.nil_append]
  refine G_iadd (pc := 29) (z := 0) (by decide) dX1_goRest_29 ?_
  refine G_iadd (pc := 30) (z := 0) (by decide) dX1_goRest_30 ?_
  refine G_istore_n (pc := 31) (L1 := [some (.ref 19), some (.int 8), some (.int 0), some (.int 2)]) rfl rfl (by decide) dX1_goRest_31 ?_
  refine G_iinc (pc := 32) (v := 1) (w := 3) (L1 := [some (.ref 19), some (.int 8), some (.int 0), some (.int 3)]) (by decide) rfl rfl (by decide) rfl (by decide) dX1_goRest_32 ?_
  refine G_goto (pc := 35) (tgt := 4) (by decide) dX1_goRest_35 ?_
  refine G_iload_n (pc := 4) rfl dX1_goRest_4 ?_
  refine G_iload_n (pc := 5) rfl dX1_goRest_5 ?_
  refine G_icmp_ge (pc := 6) (tgt := 38) (by decide) dX1_goRest_6 (fun z => absurd z (by decide)) (fun _ => ?_)
  refine G_aload_n (pc := 9) rfl dX1_goRest_9 ?_
  refine G_callV (pc := 10) (mc1 := 0) (ms1 := 0) (ci := 1) (mj := mX1_isOver) (vs := []) dX1_goRest_10 rfl rfl cm_X1_isOver wf_172 wf_17 wf_18 rfl (Nat.le_of_ble_eq_true rfl) (Nat.le_of_ble_eq_true rfl) (Nat.le_of_ble_eq_true rfl) (Nat.le_of_ble_eq_true rfl) (s361_X1_isOver  (d + 1)  ) ?_
  rintro _ _ ⟨rfl, rfl⟩
  dsimp only [Option.toList, List.cons_append, List.nil_append]
  refine G_if_ne (pc := 13) (tgt := 38) (by decide) dX1_goRest_13 (fun z => absurd (by decide) z) (fun _ => ?_)
  refine G_iload_n (pc := 16) rfl dX1_goRest_16 ?_
  refine G_aload_n (pc := 17) rfl dX1_goRest_17 ?_
  refine G_aload_n (pc := 18) rfl dX1_goRest_18 ?_
  refine G_callV (pc := 19) (mc1 := 0) (ms1 := 0) (ci := 1) (mj := mX1_restAct) (vs := []) dX1_goRest_19 rfl rfl cm_X1_restAct wf_173 wf_66 wf_67 rfl (Nat.le_of_ble_eq_true rfl) (Nat.le_of_ble_eq_true rfl) (Nat.le_of_ble_eq_true rfl) (Nat.le_of_ble_eq_true rfl) (s362_X1_restAct  (d + 1)  ) ?_
  rintro _ _ ⟨rfl, rfl⟩
  dsimp only [Option.toList, List.cons_append, List.nil_append]
  refine G_callV (pc := 22) (mc1 := 0) (ms1 := 0) (ci := 1) (mj := mX1_tell) (vs := [_]) dX1_goRest_22 rfl rfl cm_X1_tell wf_69 wf_71 wf_72 rfl (Nat.le_of_ble_eq_true rfl) (Nat.le_of_ble_eq_true rfl) (Nat.le_of_ble_eq_true rfl) (Nat.le_of_ble_eq_true rfl) (s363_X1_tell  d  ) ?_
  rintro _ _ ⟨rfl, rfl⟩
  dsimp only [Option.toList, List.cons_append, List.nil_append]
  refine G_aload_n (pc := 25) rfl dX1_goRest_25 ?_
  refine G_callV (pc := 26) (mc1 := 0) (ms1 := 0) (ci := 1) (mj := mX1_melt) (vs := []) dX1_goRest_26 rfl rfl cm_X1_melt wf_73 wf_75 wf_76 rfl (Nat.le_of_ble_eq_true rfl) (Nat.le_of_ble_eq_true rfl) (Nat.le_of_ble_eq_true rfl) (Nat.le_of_ble_eq_true rfl) (s365_X1_melt  (d + 1)  ) ?_
  rintro _ _ ⟨rfl, rfl⟩
  dsimp only [Option.toList, List.cons_append, List.nil_append]
  refine G_iadd (pc := 29) (z := 0) (by decide) dX1_goRest_29 ?_
  refine G_iadd (pc := 30) (z := 0) (by decide) dX1_goRest_30 ?_
  refine G_istore_n (pc := 31) (L1 := [some (.ref 19), some (.int 8), some (.int 0), some (.int 3)]) rfl rfl (by decide) dX1_goRest_31 ?_
  refine G_iinc (pc := 32) (v := 1) (w := 4) (L1 := [some (.ref 19), some (.int 8), some (.int 0), some (.int 4)]) (by decide) rfl rfl (by decide) rfl (by decide) dX1_goRest_32 ?_
  refine G_goto (pc := 35) (tgt := 4) (by decide) dX1_goRest_35 ?_
  refine G_iload_n (pc := 4) rfl dX1_goRest_4 ?_
  refine G_iload_n (pc := 5) rfl dX1_goRest_5 ?_
  refine G_icmp_ge (pc := 6) (tgt := 38) (by decide) dX1_goRest_6 (fun z => absurd z (by decide)) (fun _ => ?_)
  refine G_aload_n (pc := 9) rfl dX1_goRest_9 ?_
  refine G_callV (pc := 10) (mc1 := 0) (ms1 := 0) (ci := 1) (mj := mX1_isOver) (vs := []) dX1_goRest_10 rfl rfl cm_X1_isOver wf_172 wf_17 wf_18 rfl (Nat.le_of_ble_eq_true rfl) (Nat.le_of_ble_eq_true rfl) (Nat.le_of_ble_eq_true rfl) (Nat.le_of_ble_eq_true rfl) (s366_X1_isOver  (d + 1)  ) ?_
  rintro _ _ ⟨rfl, rfl⟩
  dsimp only [Option.toList, List.cons_append, List.nil_append]
  refine G_if_ne (pc := 13) (tgt := 38) (by decide) dX1_goRest_13 (fun z => absurd (by decide) z) (fun _ => ?_)
  refine G_iload_n (pc := 16) rfl dX1_goRest_16 ?_
  refine G_aload_n (pc := 17) rfl dX1_goRest_17 ?_
  refine G_aload_n (pc := 18) rfl dX1_goRest_18 ?_
  refine G_callV (pc := 19) (mc1 := 0) (ms1 := 0) (ci := 1) (mj := mX1_restAct) (vs := []) dX1_goRest_19 rfl rfl cm_X1_restAct wf_173 wf_66 wf_67 rfl (Nat.le_of_ble_eq_true rfl) (Nat.le_of_ble_eq_true rfl) (Nat.le_of_ble_eq_true rfl) (Nat.le_of_ble_eq_true rfl) (s367_X1_restAct  (d + 1)  ) ?_
  rintro _ _ ⟨rfl, rfl⟩
  dsimp only [Option.toList, List.cons_append, List.nil_append]
  refine G_callV (pc := 22) (mc1 := 0) (ms1 := 0) (ci := 1) (mj := mX1_tell) (vs := [_]) dX1_goRest_22 rfl rfl cm_X1_tell wf_69 wf_71 wf_72 rfl (Nat.le_of_ble_eq_true rfl) (Nat.le_of_ble_eq_true rfl) (Nat.le_of_ble_eq_true rfl) (Nat.le_of_ble_eq_true rfl) (s368_X1_tell  d  ) ?_
  rintro _ _ ⟨rfl, rfl⟩
  dsimp only [Option.toList, List.cons_append, List.nil_append]
  refine G_aload_n (pc := 25) rfl dX1_goRest_25 ?_
  refine G_callV (pc := 26) (mc1 := 0) (ms1 := 0) (ci := 1) (mj := mX1_melt) (vs := []) dX1_goRest_26 rfl rfl cm_X1_melt wf_73 wf_75 wf_76 rfl (Nat.le_of_ble_eq_true rfl) (Nat.le_of_ble_eq_true rfl) (Nat.le_of_ble_eq_true rfl) (Nat.le_of_ble_eq_true rfl) (s370_X1_melt  (d + 1)  ) ?_
  rintro _ _ ⟨rfl, rfl⟩
  dsimp only [Option.toList, List.cons_append, List.nil_append]
  refine G_iadd (pc := 29) (z := 0) (by decide) dX1_goRest_29 ?_
  refine G_iadd (pc := 30) (z := 0) (by decide) dX1_goRest_30 ?_
  refine G_istore_n (pc := 31) (L1 := [some (.ref 19), some (.int 8), some (.int 0), some (.int 4)]) rfl rfl (by decide) dX1_goRest_31 ?_
  refine G_iinc (pc := 32) (v := 1) (w := 5) (L1 := [some (.ref 19), some (.int 8), some (.int 0), some (.int 5)]) (by decide) rfl rfl (by decide) rfl (by decide) dX1_goRest_32 ?_
  refine G_goto (pc := 35) (tgt := 4) (by decide) dX1_goRest_35 ?_
  refine G_iload_n (pc := 4) rfl dX1_goRest_4 ?_
  refine G_iload_n (pc := 5) rfl dX1_goRest_5 ?_
  refine G_icmp_ge (pc := 6) (tgt := 38) (by decide) dX1_goRest_6 (fun z => absurd z (by decide)) (fun _ => ?_)
  refine G_aload_n (pc := 9) rfl dX1_goRest_9 ?_
  refine G_callV (pc := 10) (mc1 := 0) (ms1 := 0) (ci := 1) (mj := mX1_isOver) (vs := []) dX1_goRest_10 rfl rfl cm_X1_isOver wf_172 wf_17 wf_18 rfl (Nat.le_of_ble_eq_true rfl) (Nat.le_of_ble_eq_true rfl) (Nat.le_of_ble_eq_true rfl) (Nat.le_of_ble_eq_true rfl) (s371_X1_isOver  (d + 1)  ) ?_
  rintro _ _ ⟨rfl, rfl⟩
  dsimp only [Option.toList, List.cons_append, List.nil_append]
  refine G_if_ne (pc := 13) (tgt := 38) (by decide) dX1_goRest_13 (fun z => absurd (by decide) z) (fun _ => ?_)
  refine G_iload_n (pc := 16) rfl dX1_goRest_16 ?_
  refine G_aload_n (pc := 17) rfl dX1_goRest_17 ?_
  refine G_aload_n (pc := 18) rfl dX1_goRest_18 ?_
  refine G_callV (pc := 19) (mc1 := 0) (ms1 := 0) (ci := 1) (mj := mX1_restAct) (vs := []) dX1_goRest_19 rfl rfl cm_X1_restAct wf_173 wf_66 wf_67 rfl (Nat.le_of_ble_eq_true rfl) (Nat.le_of_ble_eq_true rfl) (Nat.le_of_ble_eq_true rfl) (Nat.le_of_ble_eq_true rfl) (s372_X1_restAct  (d + 1)  ) ?_
  rintro _ _ ⟨rfl, rfl⟩
  dsimp only [Option.toList, List.cons_append, List.nil_append]
  refine G_callV (pc := 22) (mc1 := 0) (ms1 := 0) (ci := 1) (mj := mX1_tell) (vs := [_]) dX1_goRest_22 rfl rfl cm_X1_tell wf_69 wf_71 wf_72 rfl (Nat.le_of_ble_eq_true rfl) (Nat.le_of_ble_eq_true rfl) (Nat.le_of_ble_eq_true rfl) (Nat.le_of_ble_eq_true rfl) (s373_X1_tell  d  ) ?_
  rintro _ _ ⟨rfl, rfl⟩
  dsimp only [Option.toList, List.cons_append, List.nil_append]
  refine G_aload_n (pc := 25) rfl dX1_goRest_25 ?_
  refine G_callV (pc := 26) (mc1 := 0) (ms1 := 0) (ci := 1) (mj := mX1_melt) (vs := []) dX1_goRest_26 rfl rfl cm_X1_melt wf_73 wf_75 wf_76 rfl (Nat.le_of_ble_eq_true rfl) (Nat.le_of_ble_eq_true rfl) (Nat.le_of_ble_eq_true rfl) (Nat.le_of_ble_eq_true rfl) (s375_X1_melt  (d + 1)  ) ?_
  rintro _ _ ⟨rfl, rfl⟩
  dsimp only [Option.toList, List.cons_append, List.nil_append]
  refine G_iadd (pc := 29) (z := 0) (by decide) dX1_goRest_29 ?_
  refine G_iadd (pc := 30) (z := 0) (by decide) dX1_goRest_30 ?_
  refine G_istore_n (pc := 31) (L1 := [some (.ref 19), some (.int 8), some (.int 0), some (.int 5)]) rfl rfl (by decide) dX1_goRest_31 ?_
  refine G_iinc (pc := 32) (v := 1) (w := 6) (L1 := [some (.ref 19), some (.int 8), some (.int 0), some (.int 6)]) (by decide) rfl rfl (by decide) rfl (by decide) dX1_goRest_32 ?_
  refine G_goto (pc := 35) (tgt := 4) (by decide) dX1_goRest_35 ?_
  refine G_iload_n (pc := 4) rfl dX1_goRest_4 ?_
  refine G_iload_n (pc := 5) rfl dX1_goRest_5 ?_
  refine G_icmp_ge (pc := 6) (tgt := 38) (by decide) dX1_goRest_6 (fun z => absurd z (by decide)) (fun _ => ?_)
  refine G_aload_n (pc := 9) rfl dX1_goRest_9 ?_
  refine G_callV (pc := 10) (mc1 := 0) (ms1 := 0) (ci := 1) (mj := mX1_isOver) (vs := []) dX1_goRest_10 rfl rfl cm_X1_isOver wf_172 wf_17 wf_18 rfl (Nat.le_of_ble_eq_true rfl) (Nat.le_of_ble_eq_true rfl) (Nat.le_of_ble_eq_true rfl) (Nat.le_of_ble_eq_true rfl) (s376_X1_isOver  (d + 1)  ) ?_
  rintro _ _ ⟨rfl, rfl⟩
  dsimp only [Option.toList, List.cons_append, List.nil_append]
  refine G_if_ne (pc := 13) (tgt := 38) (by decide) dX1_goRest_13 (fun z => absurd (by decide) z) (fun _ => ?_)
  refine G_iload_n (pc := 16) rfl dX1_goRest_16 ?_
  refine G_aload_n (pc := 17) rfl dX1_goRest_17 ?_
  refine G_aload_n (pc := 18) rfl dX1_goRest_18 ?_
  refine G_callV (pc := 19) (mc1 := 0) (ms1 := 0) (ci := 1) (mj := mX1_restAct) (vs := []) dX1_goRest_19 rfl rfl cm_X1_restAct wf_173 wf_66 wf_67 rfl (Nat.le_of_ble_eq_true rfl) (Nat.le_of_ble_eq_true rfl) (Nat.le_of_ble_eq_true rfl) (Nat.le_of_ble_eq_true rfl) (s377_X1_restAct  (d + 1)  ) ?_
  rintro _ _ ⟨rfl, rfl⟩
  dsimp only [Option.toList, List.cons_append, List.nil_append]
  refine G_callV (pc := 22) (mc1 := 0) (ms1 := 0) (ci := 1) (mj := mX1_tell) (vs := [_]) dX1_goRest_22 rfl rfl cm_X1_tell wf_69 wf_71 wf_72 rfl (Nat.le_of_ble_eq_true rfl) (Nat.le_of_ble_eq_true rfl) (Nat.le_of_ble_eq_true rfl) (Nat.le_of_ble_eq_true rfl) (s378_X1_tell  d  ) ?_
  rintro _ _ ⟨rfl, rfl⟩
  dsimp only [Option.toList, List.cons_append, List.nil_append]
  refine G_aload_n (pc := 25) rfl dX1_goRest_25 ?_
  refine G_callV (pc := 26) (mc1 := 0) (ms1 := 0) (ci := 1) (mj := mX1_melt) (vs := []) dX1_goRest_26 rfl rfl cm_X1_melt wf_73 wf_75 wf_76 rfl (Nat.le_of_ble_eq_true rfl) (Nat.le_of_ble_eq_true rfl) (Nat.le_of_ble_eq_true rfl) (Nat.le_of_ble_eq_true rfl) (s380_X1_melt  (d + 1)  ) ?_
  rintro _ _ ⟨rfl, rfl⟩
  dsimp only [Option.toList, List.cons_append, List.nil_append]
  refine G_iadd (pc := 29) (z := 0) (by decide) dX1_goRest_29 ?_
  refine G_iadd (pc := 30) (z := 0) (by decide) dX1_goRest_30 ?_
  refine G_istore_n (pc := 31) (L1 := [some (.ref 19), some (.int 8), some (.int 0), some (.int 6)]) rfl rfl (by decide) dX1_goRest_31 ?_
  refine G_iinc (pc := 32) (v := 1) (w := 7) (L1 := [some (.ref 19), some (.int 8), some (.int 0), some (.int 7)]) (by decide) rfl rfl (by decide) rfl (by decide) dX1_goRest_32 ?_
  refine G_goto (pc := 35) (tgt := 4) (by decide) dX1_goRest_35 ?_
  refine G_iload_n (pc := 4) rfl dX1_goRest_4 ?_
  refine G_iload_n (pc := 5) rfl dX1_goRest_5 ?_
  refine G_icmp_ge (pc := 6) (tgt := 38) (by decide) dX1_goRest_6 (fun z => absurd z (by decide)) (fun _ => ?_)
  refine G_aload_n (pc := 9) rfl dX1_goRest_9 ?_
  refine G_callV (pc := 10) (mc1 := 0) (ms1 := 0) (ci := 1) (mj := mX1_isOver) (vs := []) dX1_goRest_10 rfl rfl cm_X1_isOver wf_172 wf_17 wf_18 rfl (Nat.le_of_ble_eq_true rfl) (Nat.le_of_ble_eq_true rfl) (Nat.le_of_ble_eq_true rfl) (Nat.le_of_ble_eq_true rfl) (s381_X1_isOver  (d + 1)  ) ?_
  rintro _ _ ⟨rfl, rfl⟩
  dsimp only [Option.toList, List.cons_append, List.nil_append]
  refine G_if_ne (pc := 13) (tgt := 38) (by decide) dX1_goRest_13 (fun z => absurd (by decide) z) (fun _ => ?_)
  refine G_iload_n (pc := 16) rfl dX1_goRest_16 ?_
  refine G_aload_n (pc := 17) rfl dX1_goRest_17 ?_
  refine G_aload_n (pc := 18) rfl dX1_goRest_18 ?_
  refine G_callV (pc := 19) (mc1 := 0) (ms1 := 0) (ci := 1) (mj := mX1_restAct) (vs := []) dX1_goRest_19 rfl rfl cm_X1_restAct wf_173 wf_66 wf_67 rfl (Nat.le_of_ble_eq_true rfl) (Nat.le_of_ble_eq_true rfl) (Nat.le_of_ble_eq_true rfl) (Nat.le_of_ble_eq_true rfl) (s382_X1_restAct  (d + 1)  ) ?_
  rintro _ _ ⟨rfl, rfl⟩
  dsimp only [Option.toList, List.cons_append, List.nil_append]
  refine G_callV (pc := 22) (mc1 := 0) (ms1 := 0) (ci := 1) (mj := mX1_tell) (vs := [_]) dX1_goRest_22 rfl rfl cm_X1_tell wf_69 wf_71 wf_72 rfl (Nat.le_of_ble_eq_true rfl) (Nat.le_of_ble_eq_true rfl) (Nat.le_of_ble_eq_true rfl) (Nat.le_of_ble_eq_true rfl) (s383_X1_tell  d  ) ?_
  rintro _ _ ⟨rfl, rfl⟩
  dsimp only [Option.toList, List.cons_append, List.nil_append]
  refine G_aload_n (pc := 25) rfl dX1_goRest_25 ?_
  refine G_callV (pc := 26) (mc1 := 0) (ms1 := 0) (ci := 1) (mj := mX1_melt) (vs := []) dX1_goRest_26 rfl rfl cm_X1_melt wf_73 wf_75 wf_76 rfl (Nat.le_of_ble_eq_true rfl) (Nat.le_of_ble_eq_true rfl) (Nat.le_of_ble_eq_true rfl) (Nat.le_of_ble_eq_true rfl) (s385_X1_melt  (d + 1)  ) ?_
  rintro _ _ ⟨rfl, rfl⟩
  dsimp only [Option.toList, List.cons_append, List.nil_append]
  refine G_iadd (pc := 29) (z := 0) (by decide) dX1_goRest_29 ?_
  refine G_iadd (pc := 30) (z := 0) (by decide) dX1_goRest_30 ?_
  refine G_istore_n (pc := 31) (L1 := [some (.ref 19), some (.int 8), some (.int 0), some (.int 7)]) rfl rfl (by decide) dX1_goRest_31 ?_
  refine G_iinc (pc := 32) (v := 1) (w := 8) (L1 := [some (.ref 19), some (.int 8), some (.int 0), some (.int 8)]) (by decide) rfl rfl (by decide) rfl (by decide) dX1_goRest_32 ?_
  refine G_goto (pc := 35) (tgt := 4) (by decide) dX1_goRest_35 ?_
  refine G_iload_n (pc := 4) rfl dX1_goRest_4 ?_
  refine G_iload_n (pc := 5) rfl dX1_goRest_5 ?_
  refine G_icmp_ge (pc := 6) (tgt := 38) (by decide) dX1_goRest_6 (fun _ => ?_) (fun z => absurd (by decide) z)
  refine G_iload_n (pc := 38) rfl dX1_goRest_38 ?_
  exact G_iret (pc := 39) (Nat.le_of_ble_eq_true rfl) (Nat.le_of_ble_eq_true rfl) rfl dX1_goRest_39 ⟨rfl, rfl⟩
set_option maxRecDepth 100000 in
set_option maxHeartbeats 4000000 in
theorem s422_X1_restore  (d : Nat)   : G (d + 1) mX1_restore 0 0 0 0 0 (gent 3 [.ref 19, .int 0]) [] SH0 RF0 (gup (gup (gup (gup (gup (gup (gup (gup (gup (gup (gcp I0 24 34 (0 : Int32).toNatClampNeg (0 : Int32).toNatClampNeg (6 : Int32).toNatClampNeg) 34 6 0) 34 7 0) 19 1 1) 19 1 2) 19 1 3) 19 1 4) 19 1 5) 19 1 6) 19 1 7) 19 1 8) (fun r h => r = none ∧ h = (SH0, RF0, (gup (gup (gcp (gup (gup (gup (gup (gup (gup (gup (gup (gup (gup (gcp I0 24 34 (0 : Int32).toNatClampNeg (0 : Int32).toNatClampNeg (6 : Int32).toNatClampNeg) 34 6 0) 34 7 0) 19 1 1) 19 1 2) 19 1 3) 19 1 4) 19 1 5) 19 1 6) 19 1 7) 19 1 8) 34 24 (0 : Int32).toNatClampNeg (0 : Int32).toNatClampNeg (6 : Int32).toNatClampNeg) 19 9 0) 19 1 0))) := by
  refine G_iload_n (pc := 0) rfl dX1_restore_0 ?_
  refine G_bipush (pc := 1) (v := 8) (by decide) dX1_restore_1 ?_
  refine G_imul (pc := 3) (z := 0) (by decide) dX1_restore_3 ?_
  refine G_istore_n (pc := 4) (L1 := [some (.ref 19), some (.int 0), some (.int 0)]) rfl rfl (by decide) dX1_restore_4 ?_
  refine G_aload_n (pc := 5) rfl dX1_restore_5 ?_
  refine G_getR (pc := 6) (r := 34) (ci := 1) (j := 18) rfl lk_RX1_53 rfl rfl rfl dX1_restore_6 ?_
  refine G_iload_n (pc := 9) rfl dX1_restore_9 ?_
  refine G_aload_n (pc := 10) rfl dX1_restore_10 ?_
  refine G_getR (pc := 11) (r := 24) (ci := 1) (j := 11) rfl lk_RX1_31 rfl rfl rfl dX1_restore_11 ?_
  refine G_iconst (pc := 14) (v := 0) (by decide) dX1_restore_14 ?_
  refine G_bipush (pc := 15) (v := 6) (by decide) dX1_restore_15 ?_
  refine G_copy (pc := 17) (x := 34) (y := 24) rfl rfl (by decide) (by decide) (by decide) (by decide) (by decide) wf_50 wf_51 wf_52 wf_53 (Nat.le_of_ble_eq_true rfl) dX1_restore_17 ?_
  refine G_aload_n (pc := 20) rfl dX1_restore_20 ?_
  refine G_aload_n (pc := 21) rfl dX1_restore_21 ?_
  refine G_getR (pc := 22) (r := 34) (ci := 1) (j := 18) rfl lk_RX1_53 rfl rfl rfl dX1_restore_22 ?_
  refine G_iload_n (pc := 25) rfl dX1_restore_25 ?_
  refine G_bipush (pc := 26) (v := 6) (by decide) dX1_restore_26 ?_
  refine G_iadd (pc := 28) (z := 6) (by decide) dX1_restore_28 ?_
  refine G_iald (pc := 29) (jj := 6) (v := 0) (by decide) rfl rfl (by unfold vp_in; decide) dX1_restore_29 ?_
  refine G_putI (pc := 30) (ci := 1) (j := 9) rfl lk_RX1_75 rfl rfl rfl trivial dX1_restore_30 ?_
  refine G_aload_n (pc := 33) rfl dX1_restore_33 ?_
  refine G_aload_n (pc := 34) rfl dX1_restore_34 ?_
  refine G_getR (pc := 35) (r := 34) (ci := 1) (j := 18) rfl lk_RX1_53 rfl rfl rfl dX1_restore_35 ?_
  refine G_iload_n (pc := 38) rfl dX1_restore_38 ?_
  refine G_bipush (pc := 39) (v := 6) (by decide) dX1_restore_39 ?_
  refine G_iadd (pc := 41) (z := 6) (by decide) dX1_restore_41 ?_
  refine G_iconst (pc := 42) (v := 1) (by decide) dX1_restore_42 ?_
  refine G_iadd (pc := 43) (z := 7) (by decide) dX1_restore_43 ?_
  refine G_iald (pc := 44) (jj := 7) (v := 0) (by decide) rfl rfl (by unfold vp_in; decide) dX1_restore_44 ?_
  refine G_putI (pc := 45) (ci := 1) (j := 1) rfl lk_RX1_60 rfl rfl rfl trivial dX1_restore_45 ?_
  exact G_vret (pc := 48) (Nat.le_of_ble_eq_true rfl) (Nat.le_of_ble_eq_true rfl) rfl dX1_restore_48 ⟨rfl, rfl⟩
set_option maxRecDepth 100000 in
set_option maxHeartbeats 4000000 in
theorem s423_X1_goRest  (d : Nat)   : G (d + 2) mX1_goRest 0 0 0 0 0 (gent 4 [.ref 19, .int 9]) [] SH0 RF0 (gup (gup (gcp I0 24 34 (0 : Int32).toNatClampNeg (0 : Int32).toNatClampNeg (6 : Int32).toNatClampNeg) 34 6 0) 34 7 0) (fun r h => r = some (.int 0) ∧ h = (SH0, RF0, (gup (gup (gup (gup (gup (gup (gup (gup (gup (gup (gup (gcp I0 24 34 (0 : Int32).toNatClampNeg (0 : Int32).toNatClampNeg (6 : Int32).toNatClampNeg) 34 6 0) 34 7 0) 19 1 1) 19 1 2) 19 1 3) 19 1 4) 19 1 5) 19 1 6) 19 1 7) 19 1 8) 19 1 9))) := by
  refine G_iconst (pc := 0) (v := 0) (by decide) dX1_goRest_0 ?_
  refine G_istore_n (pc := 1) (L1 := [some (.ref 19), some (.int 9), some (.int 0), none]) rfl rfl (by decide) dX1_goRest_1 ?_
  refine G_iconst (pc := 2) (v := 0) (by decide) dX1_goRest_2 ?_
  refine G_istore_n (pc := 3) (L1 := [some (.ref 19), some (.int 9), some (.int 0), some (.int 0)]) rfl rfl (by decide) dX1_goRest_3 ?_
  refine G_iload_n (pc := 4) rfl dX1_goRest_4 ?_
  refine G_iload_n (pc := 5) rfl dX1_goRest_5 ?_
  refine G_icmp_ge (pc := 6) (tgt := 38) (by decide) dX1_goRest_6 (fun z => absurd z (by decide)) (fun _ => ?_)
  refine G_aload_n (pc := 9) rfl dX1_goRest_9 ?_
  refine G_callV (pc := 10) (mc1 := 0) (ms1 := 0) (ci := 1) (mj := mX1_isOver) (vs := []) dX1_goRest_10 rfl rfl cm_X1_isOver wf_172 wf_17 wf_18 rfl (Nat.le_of_ble_eq_true rfl) (Nat.le_of_ble_eq_true rfl) (Nat.le_of_ble_eq_true rfl) (Nat.le_of_ble_eq_true rfl) (s350_X1_isOver  (d + 1)  ) ?_
  rintro _ _ ⟨rfl, rfl⟩
  dsimp only [Option.toList, List.cons_append, List.nil_append]
  refine G_if_ne (pc := 13) (tgt := 38) (by decide) dX1_goRest_13 (fun z => absurd (by decide) z) (fun _ => ?_)
  refine G_iload_n (pc := 16) rfl dX1_goRest_16 ?_
  refine G_aload_n (pc := 17) rfl dX1_goRest_17 ?_
  refine G_aload_n (pc := 18) rfl dX1_goRest_18 ?_
  refine G_callV (pc := 19) (mc1 := 0) (ms1 := 0) (ci := 1) (mj := mX1_restAct) (vs := []) dX1_goRest_19 rfl rfl cm_X1_restAct wf_173 wf_66 wf_67 rfl (Nat.le_of_ble_eq_true rfl) (Nat.le_of_ble_eq_true rfl) (Nat.le_of_ble_eq_true rfl) (Nat.le_of_ble_eq_true rfl) (s351_X1_restAct  (d + 1)  ) ?_
  rintro _ _ ⟨rfl, rfl⟩
  dsimp only [Option.toList, List.cons_append, List.nil_append]
  refine G_callV (pc := 22) (mc1 := 0) (ms1 := 0) (ci := 1) (mj := mX1_tell) (vs := [_]) dX1_goRest_22 rfl rfl cm_X1_tell wf_69 wf_71 wf_72 rfl (Nat.le_of_ble_eq_true rfl) (Nat.le_of_ble_eq_true rfl) (Nat.le_of_ble_eq_true rfl) (Nat.le_of_ble_eq_true rfl) (s145_X1_tell  d  ) ?_
  rintro _ _ ⟨rfl, rfl⟩
  dsimp only [Option.toList, List.cons_append, List.nil_append]
  refine G_aload_n (pc := 25) rfl dX1_goRest_25 ?_
  refine G_callV (pc := 26) (mc1 := 0) (ms1 := 0) (ci := 1) (mj := mX1_melt) (vs := []) dX1_goRest_26 rfl rfl cm_X1_melt wf_73 wf_75 wf_76 rfl (Nat.le_of_ble_eq_true rfl) (Nat.le_of_ble_eq_true rfl) (Nat.le_of_ble_eq_true rfl) (Nat.le_of_ble_eq_true rfl) (s147_X1_melt  (d + 1)  ) ?_
  rintro _ _ ⟨rfl, rfl⟩
  dsimp only [Option.toList, List.cons_append, List.nil_append]
  refine G_iadd (pc := 29) (z := 0) (by decide) dX1_goRest_29 ?_
  refine G_iadd (pc := 30) (z := 0) (by decide) dX1_goRest_30 ?_
  refine G_istore_n (pc := 31) (L1 := [some (.ref 19), some (.int 9), some (.int 0), some (.int 0)]) rfl rfl (by decide) dX1_goRest_31 ?_
  refine G_iinc (pc := 32) (v := 1) (w := 1) (L1 := [some (.ref 19), some (.int 9), some (.int 0), some (.int 1)]) (by decide) rfl rfl (by decide) rfl (by decide) dX1_goRest_32 ?_
  refine G_goto (pc := 35) (tgt := 4) (by decide) dX1_goRest_35 ?_
  refine G_iload_n (pc := 4) rfl dX1_goRest_4 ?_
  refine G_iload_n (pc := 5) rfl dX1_goRest_5 ?_
  refine G_icmp_ge (pc := 6) (tgt := 38) (by decide) dX1_goRest_6 (fun z => absurd z (by decide)) (fun _ => ?_)
  refine G_aload_n (pc := 9) rfl dX1_goRest_9 ?_
  refine G_callV (pc := 10) (mc1 := 0) (ms1 := 0) (ci := 1) (mj := mX1_isOver) (vs := []) dX1_goRest_10 rfl rfl cm_X1_isOver wf_172 wf_17 wf_18 rfl (Nat.le_of_ble_eq_true rfl) (Nat.le_of_ble_eq_true rfl) (Nat.le_of_ble_eq_true rfl) (Nat.le_of_ble_eq_true rfl) (s155_X1_isOver  (d + 1)  ) ?_
  rintro _ _ ⟨rfl, rfl⟩
  dsimp only [Option.toList, List.cons_append, List.nil_append]
  refine G_if_ne (pc := 13) (tgt := 38) (by decide) dX1_goRest_13 (fun z => absurd (by decide) z) (fun _ => ?_)
  refine G_iload_n (pc := 16) rfl dX1_goRest_16 ?_
  refine G_aload_n (pc := 17) rfl dX1_goRest_17 ?_
  refine G_aload_n (pc := 18) rfl dX1_goRest_18 ?_
  refine G_callV (pc := 19) (mc1 := 0) (ms1 := 0) (ci := 1) (mj := mX1_restAct) (vs := []) dX1_goRest_19 rfl rfl cm_X1_restAct wf_173 wf_66 wf_67 rfl (Nat.le_of_ble_eq_true rfl) (Nat.le_of_ble_eq_true rfl) (Nat.le_of_ble_eq_true rfl) (Nat.le_of_ble_eq_true rfl) (s352_X1_restAct  (d + 1)  ) ?_
  rintro _ _ ⟨rfl, rfl⟩
  dsimp only [Option.toList, List.cons_append, List.nil_append]
  refine G_callV (pc := 22) (mc1 := 0) (ms1 := 0) (ci := 1) (mj := mX1_tell) (vs := [_]) dX1_goRest_22 rfl rfl cm_X1_tell wf_69 wf_71 wf_72 rfl (Nat.le_of_ble_eq_true rfl) (Nat.le_of_ble_eq_true rfl) (Nat.le_of_ble_eq_true rfl) (Nat.le_of_ble_eq_true rfl) (s353_X1_tell  d  ) ?_
  rintro _ _ ⟨rfl, rfl⟩
  dsimp only [Option.toList, List.cons_append, List.nil_append]
  refine G_aload_n (pc := 25) rfl dX1_goRest_25 ?_
  refine G_callV (pc := 26) (mc1 := 0) (ms1 := 0) (ci := 1) (mj := mX1_melt) (vs := []) dX1_goRest_26 rfl rfl cm_X1_melt wf_73 wf_75 wf_76 rfl (Nat.le_of_ble_eq_true rfl) (Nat.le_of_ble_eq_true rfl) (Nat.le_of_ble_eq_true rfl) (Nat.le_of_ble_eq_true rfl) (s355_X1_melt  (d + 1)  ) ?_
  rintro _ _ ⟨rfl, rfl⟩
  dsimp only [Option.toList, List.cons_append, List.nil_append]
  refine G_iadd (pc := 29) (z := 0) (by decide) dX1_goRest_29 ?_
  refine G_iadd (pc := 30) (z := 0) (by decide) dX1_goRest_30 ?_
  refine G_istore_n (pc := 31) (L1 := [some (.ref 19), some (.int 9), some (.int 0), some (.int 1)]) rfl rfl (by decide) dX1_goRest_31 ?_
  refine G_iinc (pc := 32) (v := 1) (w := 2) (L1 := [some (.ref 19), some (.int 9), some (.int 0), some (.int 2)]) (by decide) rfl rfl (by decide) rfl (by decide) dX1_goRest_32 ?_
  refine G_goto (pc := 35) (tgt := 4) (by decide) dX1_goRest_35 ?_
  refine G_iload_n (pc := 4) rfl dX1_goRest_4 ?_
  refine G_iload_n (pc := 5) rfl dX1_goRest_5 ?_
  refine G_icmp_ge (pc := 6) (tgt := 38) (by decide) dX1_goRest_6 (fun z => absurd z (by decide)) (fun _ => ?_)
  refine G_aload_n (pc := 9) rfl dX1_goRest_9 ?_
  refine G_callV (pc := 10) (mc1 := 0) (ms1 := 0) (ci := 1) (mj := mX1_isOver) (vs := []) dX1_goRest_10 rfl rfl cm_X1_isOver wf_172 wf_17 wf_18 rfl (Nat.le_of_ble_eq_true rfl) (Nat.le_of_ble_eq_true rfl) (Nat.le_of_ble_eq_true rfl) (Nat.le_of_ble_eq_true rfl) (s356_X1_isOver  (d + 1)  ) ?_
  rintro _ _ ⟨rfl, rfl⟩
  dsimp only [Option.toList, List.cons_append, List.nil_append]
  refine G_if_ne (pc := 13) (tgt := 38) (by decide) dX1_goRest_13 (fun z => absurd (by decide) z) (fun _ => ?_)
  refine G_iload_n (pc := 16) rfl dX1_goRest_16 ?_
  refine G_aload_n (pc := 17) rfl dX1_goRest_17 ?_
  refine G_aload_n (pc := 18) rfl dX1_goRest_18 ?_
  refine G_callV (pc := 19) (mc1 := 0) (ms1 := 0) (ci := 1) (mj := mX1_restAct) (vs := []) dX1_goRest_19 rfl rfl cm_X1_restAct wf_173 wf_66 wf_67 rfl (Nat.le_of_ble_eq_true rfl) (Nat.le_of_ble_eq_true rfl) (Nat.le_of_ble_eq_true rfl) (Nat.le_of_ble_eq_true rfl) (s357_X1_restAct  (d + 1)  ) ?_
  rintro _ _ ⟨rfl, rfl⟩
  dsimp only [Option.toList, List.cons_append, List.nil_append]
  refine G_callV (pc := 22) (mc1 := 0) (ms1 := 0) (ci := 1) (mj := mX1_tell) (vs := [_]) dX1_goRest_22 rfl rfl cm_X1_tell wf_69 wf_71 wf_72 rfl (Nat.le_of_ble_eq_true rfl) (Nat.le_of_ble_eq_true rfl) (Nat.le_of_ble_eq_true rfl) (Nat.le_of_ble_eq_true rfl) (s358_X1_tell  d  ) ?_
  rintro _ _ ⟨rfl, rfl⟩
  dsimp only [Option.toList, List.cons_append, List.nil_append]
  refine G_aload_n (pc := 25) rfl dX1_goRest_25 ?_
  refine G_callV (pc := 26) (mc1 := 0) (ms1 := 0) (ci := 1) (mj := mX1_melt) (vs := []) dX1_goRest_26 rfl rfl cm_X1_melt wf_73 wf_75 wf_76 rfl (Nat.le_of_ble_eq_true rfl) (Nat.le_of_ble_eq_true rfl) (Nat.le_of_ble_eq_true rfl) (Nat.le_of_ble_eq_true rfl) (s360_X1_melt  (d + 1)  ) ?_
  rintro _ _ ⟨rfl, rfl⟩
  dsimp only [Option.toList, List.cons_append, List.nil_append]
  refine G_iadd (pc := 29) (z := 0) (by decide) dX1_goRest_29 ?_
  refine G_iadd (pc := 30) (z := 0) (by decide) dX1_goRest_30 ?_
  refine G_istore_n (pc := 31) (L1 := [some (.ref 19), some (.int 9), some (.int 0), some (.int 2)]) rfl rfl (by decide) dX1_goRest_31 ?_
  refine G_iinc (pc := 32) (v := 1) (w := 3) (L1 := [some (.ref 19), some (.int 9), some (.int 0), some (.int 3)]) (by decide) rfl rfl (by decide) rfl (by decide) dX1_goRest_32 ?_
  refine G_goto (pc := 35) (tgt := 4) (by decide) dX1_goRest_35 ?_
  refine G_iload_n (pc := 4) rfl dX1_goRest_4 ?_
  refine G_iload_n (pc := 5) rfl dX1_goRest_5 ?_
  refine G_icmp_ge (pc := 6) (tgt := 38) (by decide) dX1_goRest_6 (fun z => absurd z (by decide)) (fun _ => ?_)
  refine G_aload_n (pc := 9) rfl dX1_goRest_9 ?_
  refine G_callV (pc := 10) (mc1 := 0) (ms1 := 0) (ci := 1) (mj := mX1_isOver) (vs := []) dX1_goRest_10 rfl rfl cm_X1_isOver wf_172 wf_17 wf_18 rfl (Nat.le_of_ble_eq_true rfl) (Nat.le_of_ble_eq_true rfl) (Nat.le_of_ble_eq_true rfl) (Nat.le_of_ble_eq_true rfl) (s361_X1_isOver  (d + 1)  ) ?_
  rintro _ _ ⟨rfl, rfl⟩
  dsimp only [Option.toList, List.cons_append, List.nil_append]
  refine G_if_ne (pc := 13) (tgt := 38) (by decide) dX1_goRest_13 (fun z => absurd (by decide) z) (fun _ => ?_)
  refine G_iload_n (pc := 16) rfl dX1_goRest_16 ?_
  refine G_aload_n (pc := 17) rfl dX1_goRest_17 ?_
  refine G_aload_n (pc := 18) rfl dX1_goRest_18 ?_
  refine G_callV (pc := 19) (mc1 := 0) (ms1 := 0) (ci := 1) (mj := mX1_restAct) (vs := []) dX1_goRest_19 rfl rfl cm_X1_restAct wf_173 wf_66 wf_67 rfl (Nat.le_of_ble_eq_true rfl) (Nat.le_of_ble_eq_true rfl) (Nat.le_of_ble_eq_true rfl) (Nat.le_of_ble_eq_true rfl) (s362_X1_restAct  (d + 1)  ) ?_
  rintro _ _ ⟨rfl, rfl⟩
  dsimp only [Option.toList, List.cons_append, List.nil_append]
  refine G_callV (pc := 22) (mc1 := 0) (ms1 := 0) (ci := 1) (mj := mX1_tell) (vs := [_]) dX1_goRest_22 rfl rfl cm_X1_tell wf_69 wf_71 wf_72 rfl (Nat.le_of_ble_eq_true rfl) (Nat.le_of_ble_eq_true rfl) (Nat.le_of_ble_eq_true rfl) (Nat.le_of_ble_eq_true rfl) (s363_X1_tell  d  ) ?_
  rintro _ _ ⟨rfl, rfl⟩
  dsimp only [Option.toList, List.cons_append, List.nil_append]
  refine G_aload_n (pc := 25) rfl dX1_goRest_25 ?_
  refine G_callV (pc := 26) (mc1 := 0) (ms1 := 0) (ci := 1) (mj := mX1_melt) (vs := []) dX1_goRest_26 rfl rfl cm_X1_melt wf_73 wf_75 wf_76 rfl (Nat.le_of_ble_eq_true rfl) (Nat.le_of_ble_eq_true rfl) (Nat.le_of_ble_eq_true rfl) (Nat.le_of_ble_eq_true rfl) (s365_X1_melt  (d + 1)  ) ?_
  rintro _ _ ⟨rfl, rfl⟩
  dsimp only [Option.toList, List.cons_append, List.nil_append]
  refine G_iadd (pc := 29) (z := 0) (by decide) dX1_goRest_29 ?_
  refine G_iadd (pc := 30) (z := 0) (by decide) dX1_goRest_30 ?_
  refine G_istore_n (pc := 31) (L1 := [some (.ref 19), some (.int 9), some (.int 0), some (.int 3)]) rfl rfl (by decide) dX1_goRest_31 ?_
  refine G_iinc (pc := 32) (v := 1) (w := 4) (L1 := [some (.ref 19), some (.int 9), some (.int 0), some (.int 4)]) (by decide) rfl rfl (by decide) rfl (by decide) dX1_goRest_32 ?_
  refine G_goto (pc := 35) (tgt := 4) (by decide) dX1_goRest_35 ?_
  refine G_iload_n (pc := 4) rfl dX1_goRest_4 ?_
  refine G_iload_n (pc := 5) rfl dX1_goRest_5 ?_
  refine G_icmp_ge (pc := 6) (tgt := 38) (by decide) dX1_goRest_6 (fun z => absurd z (by decide)) (fun _ => ?_)
  refine G_aload_n (pc := 9) rfl dX1_goRest_9 ?_
  refine G_callV (pc := 10) (mc1 := 0) (ms1 := 0) (ci := 1) (mj := mX1_isOver) (vs := []) dX1_goRest_10 rfl rfl cm_X1_isOver wf_172 wf_17 wf_18 rfl (Nat.le_of_ble_eq_true rfl) (Nat.le_of_ble_eq_true rfl) (Nat.le_of_ble_eq_true rfl) (Nat.le_of_ble_eq_true rfl) (s366_X1_isOver  (d + 1)  ) ?_
  rintro _ _ ⟨rfl, rfl⟩
  dsimp only [Option.toList, List.cons_append, List.nil_append]
  refine G_if_ne (pc := 13) (tgt := 38) (by decide) dX1_goRest_13 (fun z => absurd (by decide) z) (fun _ => ?_)
  refine G_iload_n (pc := 16) rfl dX1_goRest_16 ?_
  refine G_aload_n (pc := 17) rfl dX1_goRest_17 ?_
  refine G_aload_n (pc := 18) rfl dX1_goRest_18 ?_
  refine G_callV (pc := 19) (mc1 := 0) (ms1 := 0) (ci := 1) (mj := mX1_restAct) (vs := []) dX1_goRest_19 rfl rfl cm_X1_restAct wf_173 wf_66 wf_67 rfl (Nat.le_of_ble_eq_true rfl) (Nat.le_of_ble_eq_true rfl) (Nat.le_of_ble_eq_true rfl) (Nat.le_of_ble_eq_true rfl) (s367_X1_restAct  (d + 1)  ) ?_
  rintro _ _ ⟨rfl, rfl⟩
  dsimp only [Option.toList, List.cons_append, List.nil_append]
  refine G_callV (pc := 22) (mc1 := 0) (ms1 := 0) (ci := 1) (mj := mX1_tell) (vs := [_]) dX1_goRest_22 rfl rfl cm_X1_tell wf_69 wf_71 wf_72 rfl (Nat.le_of_ble_eq_true rfl) (Nat.le_of_ble_eq_true rfl) (Nat.le_of_ble_eq_true rfl) (Nat.le_of_ble_eq_true rfl) (s368_X1_tell  d  ) ?_
  rintro _ _ ⟨rfl, rfl⟩
  dsimp only [Option.toList, List.cons_append, List.nil_append]
  refine G_aload_n (pc := 25) rfl dX1_goRest_25 ?_
  refine G_callV (pc := 26) (mc1 := 0) (ms1 := 0) (ci := 1) (mj := mX1_melt) (vs := []) dX1_goRest_26 rfl rfl cm_X1_melt wf_73 wf_75 wf_76 rfl (Nat.le_of_ble_eq_true rfl) (Nat.le_of_ble_eq_true rfl) (Nat.le_of_ble_eq_true rfl) (Nat.le_of_ble_eq_true rfl) (s370_X1_melt  (d + 1)  ) ?_
  rintro _ _ ⟨rfl, rfl⟩
  dsimp only [Option.toList, List.cons_append, List.nil_append]
  refine G_iadd (pc := 29) (z := 0) (by decide) dX1_goRest_29 ?_
  refine G_iadd (pc := 30) (z := 0) (by decide) dX1_goRest_30 ?_
  refine G_istore_n (pc := 31) (L1 := [some (.ref 19), some (.int 9), some (.int 0), some (.int 4)]) rfl rfl (by decide) dX1_goRest_31 ?_
  refine G_iinc (pc := 32) (v := 1) (w := 5) (L1 := [some (.ref 19), some (.int 9), some (.int 0), some (.int 5)]) (by decide) rfl rfl (by decide) rfl (by decide) dX1_goRest_32 ?_
  refine G_goto (pc := 35) (tgt := 4) (by decide) dX1_goRest_35 ?_
  refine G_iload_n (pc := 4) rfl dX1_goRest_4 ?_
  refine G_iload_n (pc := 5) rfl dX1_goRest_5 ?_
  refine G_icmp_ge (pc := 6) (tgt := 38) (by decide) dX1_goRest_6 (fun z => absurd z (by decide)) (fun _ => ?_)
  refine G_aload_n (pc := 9) rfl dX1_goRest_9 ?_
  refine G_callV (pc := 10) (mc1 := 0) (ms1 := 0) (ci := 1) (mj := mX1_isOver) (vs := []) dX1_goRest_10 rfl rfl cm_X1_isOver wf_172 wf_17 wf_18 rfl (Nat.le_of_ble_eq_true rfl) (Nat.le_of_ble_eq_true rfl) (Nat.le_of_ble_eq_true rfl) (Nat.le_of_ble_eq_true rfl) (s371_X1_isOver  (d + 1)  ) ?_
  rintro _ _ ⟨rfl, rfl⟩
  dsimp only [Option.toList, List.cons_append, List.nil_append]
  refine G_if_ne (pc := 13) (tgt := 38) (by decide) dX1_goRest_13 (fun z => absurd (by decide) z) (fun _ => ?_)
  refine G_iload_n (pc := 16) rfl dX1_goRest_16 ?_
  refine G_aload_n (pc := 17) rfl dX1_goRest_17 ?_
  refine G_aload_n (pc := 18) rfl dX1_goRest_18 ?_
  refine G_callV (pc := 19) (mc1 := 0) (ms1 := 0) (ci := 1) (mj := mX1_restAct) (vs := []) dX1_goRest_19 rfl rfl cm_X1_restAct wf_173 wf_66 wf_67 rfl (Nat.le_of_ble_eq_true rfl) (Nat.le_of_ble_eq_true rfl) (Nat.le_of_ble_eq_true rfl) (Nat.le_of_ble_eq_true rfl) (s372_X1_restAct  (d + 1)  ) ?_
  rintro _ _ ⟨rfl, rfl⟩
  dsimp only [Option.toList, List.cons_append, List.nil_append]
  refine G_callV (pc := 22) (mc1 := 0) (ms1 := 0) (ci := 1) (mj := mX1_tell) (vs := [_]) dX1_goRest_22 rfl rfl cm_X1_tell wf_69 wf_71 wf_72 rfl (Nat.le_of_ble_eq_true rfl) (Nat.le_of_ble_eq_true rfl) (Nat.le_of_ble_eq_true rfl) (Nat.le_of_ble_eq_true rfl) (s373_X1_tell  d  ) ?_
  rintro _ _ ⟨rfl, rfl⟩
  dsimp only [Option.toList, List.cons_append, List.nil_append]
  refine G_aload_n (pc := 25) rfl dX1_goRest_25 ?_
  refine G_callV (pc := 26) (mc1 := 0) (ms1 := 0) (ci := 1) (mj := mX1_melt) (vs := []) dX1_goRest_26 rfl rfl cm_X1_melt wf_73 wf_75 wf_76 rfl (Nat.le_of_ble_eq_true rfl) (Nat.le_of_ble_eq_true rfl) (Nat.le_of_ble_eq_true rfl) (Nat.le_of_ble_eq_true rfl) (s375_X1_melt  (d + 1)  ) ?_
  rintro _ _ ⟨rfl, rfl⟩
  dsimp only [Option.toList, List.cons_append, List.nil_append]
  refine G_iadd (pc := 29) (z := 0) (by decide) dX1_goRest_29 ?_
  refine G_iadd (pc := 30) (z := 0) (by decide) dX1_goRest_30 ?_
  refine G_istore_n (pc := 31) (L1 := [some (.ref 19), some (.int 9), some (.int 0), some (.int 5)]) rfl rfl (by decide) dX1_goRest_31 ?_
  refine G_iinc (pc := 32) (v := 1) (w := 6) (L1 := [some (.ref 19), some (.int 9), some (.int 0), some (.int 6)]) (by decide) rfl rfl (by decide) rfl (by decide) dX1_goRest_32 ?_
  refine G_goto (pc := 35) (tgt := 4) (by decide) dX1_goRest_35 ?_
  refine G_iload_n (pc := 4) rfl dX1_goRest_4 ?_
  refine G_iload_n (pc := 5) rfl dX1_goRest_5 ?_
  refine G_icmp_ge (pc := 6) (tgt := 38) (by decide) dX1_goRest_6 (fun z => absurd z (by decide)) (fun _ => ?_)
  refine G_aload_n (pc := 9) rfl dX1_goRest_9 ?_
  refine G_callV (pc := 10) (mc1 := 0) (ms1 := 0) (ci := 1) (mj := mX1_isOver) (vs := []) dX1_goRest_10 rfl rfl cm_X1_isOver wf_172 wf_17 wf_18 rfl (Nat.le_of_ble_eq_true rfl) (Nat.le_of_ble_eq_true rfl) (Nat.le_of_ble_eq_true rfl) (Nat.le_of_ble_eq_true rfl) (s376_X1_isOver  (d + 1)  ) ?_
  rintro _ _ ⟨rfl, rfl⟩
  dsimp only [Option.toList, List.cons_append, List.nil_append]
  refine G_if_ne (pc := 13) (tgt := 38) (by decide) dX1_goRest_13 (fun z => absurd (by decide) z) (fun _ => ?_)
  refine G_iload_n (pc := 16) rfl dX1_goRest_16 ?_
  refine G_aload_n (pc := 17) rfl dX1_goRest_17 ?_
  refine G_aload_n (pc := 18) rfl dX1_goRest_18 ?_
  refine G_callV (pc := 19) (mc1 := 0) (ms1 := 0) (ci := 1) (mj := mX1_restAct) (vs := []) dX1_goRest_19 rfl rfl cm_X1_restAct wf_173 wf_66 wf_67 rfl (Nat.le_of_ble_eq_true rfl) (Nat.le_of_ble_eq_true rfl) (Nat.le_of_ble_eq_true rfl) (Nat.le_of_ble_eq_true rfl) (s377_X1_restAct  (d + 1)  ) ?_
  rintro _ _ ⟨rfl, rfl⟩
  dsimp only [Option.toList, List.cons_append, List.nil_append]
  refine G_callV (pc := 22) (mc1 := 0) (ms1 := 0) (ci := 1) (mj := mX1_tell) (vs := [_]) dX1_goRest_22 rfl rfl cm_X1_tell wf_69 wf_71 wf_72 rfl (Nat.le_of_ble_eq_true rfl) (Nat.le_of_ble_eq_true rfl) (Nat.le_of_ble_eq_true rfl) (Nat.le_of_ble_eq_true rfl) (s378_X1_tell  d  ) ?_
  rintro _ _ ⟨rfl, rfl⟩
  dsimp only [Option.toList, List.cons_append, List.nil_append]
  refine G_aload_n (pc := 25) rfl dX1_goRest_25 ?_
  refine G_callV (pc := 26) (mc1 := 0) (ms1 := 0) (ci := 1) (mj := mX1_melt) (vs := []) dX1_goRest_26 rfl rfl cm_X1_melt wf_73 wf_75 wf_76 rfl (Nat.le_of_ble_eq_true rfl) (Nat.le_of_ble_eq_true rfl) (Nat.le_of_ble_eq_true rfl) (Nat.le_of_ble_eq_true rfl) (s380_X1_melt  (d + 1)  ) ?_
  rintro _ _ ⟨rfl, rfl⟩
  dsimp only [Option.toList, List.cons_append, List.nil_append]
  refine G_iadd (pc := 29) (z := 0) (by decide) dX1_goRest_29 ?_
  refine G_iadd (pc := 30) (z := 0) (by decide) dX1_goRest_30 ?_
  refine G_istore_n (pc := 31) (L1 := [some (.ref 19), some (.int 9), some (.int 0), some (.int 6)]) rfl rfl (by decide) dX1_goRest_31 ?_
  refine G_iinc (pc := 32) (v := 1) (w := 7) (L1 := [some (.ref 19), some (.int 9), some (.int 0), some (.int 7)]) (by decide) rfl rfl (by decide) rfl (by decide) dX1_goRest_32 ?_
  refine G_goto (pc := 35) (tgt := 4) (by decide) dX1_goRest_35 ?_
  refine G_iload_n (pc := 4) rfl dX1_goRest_4 ?_
  refine G_iload_n (pc := 5) rfl dX1_goRest_5 ?_
  refine G_icmp_ge (pc := 6) (tgt := 38) (by decide) dX1_goRest_6 (fun z => absurd z (by decide)) (fun _ => ?_)
  refine G_aload_n (pc := 9) rfl dX1_goRest_9 ?_
  refine G_callV (pc := 10) (mc1 := 0) (ms1 := 0) (ci := 1) (mj := mX1_isOver) (vs := []) dX1_goRest_10 rfl rfl cm_X1_isOver wf_172 wf_17 wf_18 rfl (Nat.le_of_ble_eq_true rfl) (Nat.le_of_ble_eq_true rfl) (Nat.le_of_ble_eq_true rfl) (Nat.le_of_ble_eq_true rfl) (s381_X1_isOver  (d + 1)  ) ?_
  rintro _ _ ⟨rfl, rfl⟩
  dsimp only [Option.toList, List.cons_append, List.nil_append]
  refine G_if_ne (pc := 13) (tgt := 38) (by decide) dX1_goRest_13 (fun z => absurd (by decide) z) (fun _ => ?_)
  refine G_iload_n (pc := 16) rfl dX1_goRest_16 ?_
  refine G_aload_n (pc := 17) rfl dX1_goRest_17 ?_
  refine G_aload_n (pc := 18) rfl dX1_goRest_18 ?_
  refine G_callV (pc := 19) (mc1 := 0) (ms1 := 0) (ci := 1) (mj := mX1_restAct) (vs := []) dX1_goRest_19 rfl rfl cm_X1_restAct wf_173 wf_66 wf_67 rfl (Nat.le_of_ble_eq_true rfl) (Nat.le_of_ble_eq_true rfl) (Nat.le_of_ble_eq_true rfl) (Nat.le_of_ble_eq_true rfl) (s382_X1_restAct  (d + 1)  ) ?_
  rintro _ _ ⟨rfl, rfl⟩
  dsimp only [Option.toList, List.cons_append, List.nil_append]
  refine G_callV (pc := 22) (mc1 := 0) (ms1 := 0) (ci := 1) (mj := mX1_tell) (vs := [_]) dX1_goRest_22 rfl rfl cm_X1_tell wf_69 wf_71 wf_72 rfl (Nat.le_of_ble_eq_true rfl) (Nat.le_of_ble_eq_true rfl) (Nat.le_of_ble_eq_true rfl) (Nat.le_of_ble_eq_true rfl) (s383_X1_tell  d  ) ?_
  rintro _ _ ⟨rfl, rfl⟩
  dsimp only [Option.toList, List.cons_append, List.nil_append]
  refine G_aload_n (pc := 25) rfl dX1_goRest_25 ?_
  refine G_callV (pc := 26) (mc1 := 0) (ms1 := 0) (ci := 1) (mj := mX1_melt) (vs := []) dX1_goRest_26 rfl rfl cm_X1_melt wf_73 wf_75 wf_76 rfl (Nat.le_of_ble_eq_true rfl) (Nat.le_of_ble_eq_true rfl) (Nat.le_of_ble_eq_true rfl) (Nat.le_of_ble_eq_true rfl) (s385_X1_melt  (d + 1)  ) ?_
  rintro _ _ ⟨rfl, rfl⟩
  dsimp only [Option.toList, List.cons_append, List.nil_append]
  refine G_iadd (pc := 29) (z := 0) (by decide) dX1_goRest_29 ?_
  refine G_iadd (pc := 30) (z := 0) (by decide) dX1_goRest_30 ?_
  refine G_istore_n (pc := 31) (L1 := [some (.ref 19), some (.int 9), some (.int 0), some (.int 7)]) rfl rfl (by decide) dX1_goRest_31 ?_
  refine G_iinc (pc := 32) (v := 1) (w := 8) (L1 := [some (.ref 19), some (.int 9), some (.int 0), some (.int 8)]) (by decide) rfl rfl (by decide) rfl (by decide) dX1_goRest_32 ?_
  refine G_goto (pc := 35) (tgt := 4) (by decide) dX1_goRest_35 ?_
  refine G_iload_n (pc := 4) rfl dX1_goRest_4 ?_
  refine G_iload_n (pc := 5) rfl dX1_goRest_5 ?_
  refine G_icmp_ge (pc := 6) (tgt := 38) (by decide) dX1_goRest_6 (fun z => absurd z (by decide)) (fun _ => ?_)
  refine G_aload_n (pc := 9) rfl dX1_goRest_9 ?_
  refine G_callV (pc := 10) (mc1 := 0) (ms1 := 0) (ci := 1) (mj := mX1_isOver) (vs := []) dX1_goRest_10 rfl rfl cm_X1_isOver wf_172 wf_17 wf_18 rfl (Nat.le_of_ble_eq_true rfl) (Nat.le_of_ble_eq_true rfl) (Nat.le_of_ble_eq_true rfl) (Nat.le_of_ble_eq_true rfl) (s386_X1_isOver  (d + 1)  ) ?_
  rintro _ _ ⟨rfl, rfl⟩
  dsimp only [Option.toList, List.cons_append, List.nil_append]
  refine G_if_ne (pc := 13) (tgt := 38) (by decide) dX1_goRest_13 (fun z => absurd (by decide) z) (fun _ => ?_)
  refine G_iload_n (pc := 16) rfl dX1_goRest_16 ?_
  refine G_aload_n (pc := 17) rfl dX1_goRest_17 ?_
  refine G_aload_n (pc := 18) rfl dX1_goRest_18 ?_
  refine G_callV (pc := 19) (mc1 := 0) (ms1 := 0) (ci := 1) (mj := mX1_restAct) (vs := []) dX1_goRest_19 rfl rfl cm_X1_restAct wf_173 wf_66 wf_67 rfl (Nat.le_of_ble_eq_true rfl) (Nat.le_of_ble_eq_true rfl) (Nat.le_of_ble_eq_true rfl) (Nat.le_of_ble_eq_true rfl) (s387_X1_restAct  (d + 1)  ) ?_
  rintro _ _ ⟨rfl, rfl⟩
  dsimp only [Option.toList, List.cons_append, List.nil_append]
  refine G_callV (pc := 22) (mc1 := 0) (ms1 := 0) (ci := 1) (mj := mX1_tell) (vs := [_]) dX1_goRest_22 rfl rfl cm_X1_tell wf_69 wf_71 wf_72 rfl (Nat.le_of_ble_eq_true rfl) (Nat.le_of_ble_eq_true rfl) (Nat.le_of_ble_eq_true rfl) (Nat.le_of_ble_eq_true rfl) (s388_X1_tell  d  ) ?_
  rintro _ _ ⟨rfl, rfl⟩
  dsimp only [Option.toList, List.cons_append, List.nil_append]
  refine G_aload_n (pc := 25) rfl dX1_goRest_25 ?_
  refine G_callV (pc := 26) (mc1 := 0) (ms1 := 0) (ci := 1) (mj := mX1_melt) (vs := []) dX1_goRest_26 rfl rfl cm_X1_melt wf_73 wf_75 wf_76 rfl (Nat.le_of_ble_eq_true rfl) (Nat.le_of_ble_eq_true rfl) (Nat.le_of_ble_eq_true rfl) (Nat.le_of_ble_eq_true rfl) (s390_X1_melt  (d + 1)  ) ?_
  rintro _ _ ⟨rfl, rfl⟩
  dsimp only [Option.toList, List.cons_append, List.nil_append]
  refine G_iadd (pc := 29) (z := 0) (by decide) dX1_goRest_29 ?_
  refine G_iadd (pc := 30) (z := 0) (by decide) dX1_goRest_30 ?_
  refine G_istore_n (pc := 31) (L1 := [some (.ref 19), some (.int 9), some (.int 0), some (.int 8)]) rfl rfl (by decide) dX1_goRest_31 ?_
  refine G_iinc (pc := 32) (v := 1) (w := 9) (L1 := [some (.ref 19), some (.int 9), some (.int 0), some (.int 9)]) (by decide) rfl rfl (by decide) rfl (by decide) dX1_goRest_32 ?_
  refine G_goto (pc := 35) (tgt := 4) (by decide) dX1_goRest_35 ?_
  refine G_iload_n (pc := 4) rfl dX1_goRest_4 ?_
  refine G_iload_n (pc := 5) rfl dX1_goRest_5 ?_
  refine G_icmp_ge (pc := 6) (tgt := 38) (by decide) dX1_goRest_6 (fun _ => ?_) (fun z => absurd (by decide) z)
  refine G_iload_n (pc := 38) rfl dX1_goRest_38 ?_
  exact G_iret (pc := 39) (Nat.le_of_ble_eq_true rfl) (Nat.le_of_ble_eq_true rfl) rfl dX1_goRest_39 ⟨rfl, rfl⟩
set_option maxRecDepth 100000 in
set_option maxHeartbeats 4000000 in
theorem s424_X1_restore  (d : Nat)   : G (d + 1) mX1_restore 0 0 0 0 0 (gent 3 [.ref 19, .int 0]) [] SH0 RF0 (gup (gup (gup (gup (gup (gup (gup (gup (gup (gup (gup (gcp I0 24 34 (0 : Int32).toNatClampNeg (0 : Int32).toNatClampNeg (6 : Int32).toNatClampNeg) 34 6 0) 34 7 0) 19 1 1) 19 1 2) 19 1 3) 19 1 4) 19 1 5) 19 1 6) 19 1 7) 19 1 8) 19 1 9) (fun r h => r = none ∧ h = (SH0, RF0, (gup (gup (gcp (gup (gup (gup (gup (gup (gup (gup (gup (gup (gup (gup (gcp I0 24 34 (0 : Int32).toNatClampNeg (0 : Int32).toNatClampNeg (6 : Int32).toNatClampNeg) 34 6 0) 34 7 0) 19 1 1) 19 1 2) 19 1 3) 19 1 4) 19 1 5) 19 1 6) 19 1 7) 19 1 8) 19 1 9) 34 24 (0 : Int32).toNatClampNeg (0 : Int32).toNatClampNeg (6 : Int32).toNatClampNeg) 19 9 0) 19 1 0))) := by
  refine G_iload_n (pc := 0) rfl dX1_restore_0 ?_
  refine G_bipush (pc := 1) (v := 8) (by decide) dX1_restore_1 ?_
  refine G_imul (pc := 3) (z := 0) (by decide) dX1_restore_3 ?_
  refine G_istore_n (pc := 4) (L1 := [some (.ref 19), some (.int 0), some (.int 0)]) rfl rfl (by decide) dX1_restore_4 ?_
  refine G_aload_n (pc := 5) rfl dX1_restore_5 ?_
  refine G_getR (pc := 6) (r := 34) (ci := 1) (j := 18) rfl lk_RX1_53 rfl rfl rfl dX1_restore_6 ?_
  refine G_iload_n (pc := 9) rfl dX1_restore_9 ?_
  refine G_aload_n (pc := 10) rfl dX1_restore_10 ?_
  refine G_getR (pc := 11) (r := 24) (ci := 1) (j := 11) rfl lk_RX1_31 rfl rfl rfl dX1_restore_11 ?_
  refine G_iconst (pc := 14) (v := 0) (by decide) dX1_restore_14 ?_
  refine G_bipush (pc := 15) (v := 6) (by decide) dX1_restore_15 ?_
  refine G_copy (pc := 17) (x := 34) (y := 24) rfl rfl (by decide) (by decide) (by decide) (by decide) (by decide) wf_50 wf_51 wf_52 wf_53 (Nat.le_of_ble_eq_true rfl) dX1_restore_17 ?_
  refine G_aload_n (pc := 20) rfl dX1_restore_20 ?_
  refine G_aload_n (pc := 21) rfl dX1_restore_21 ?_
  refine G_getR (pc := 22) (r := 34) (ci := 1) (j := 18) rfl lk_RX1_53 rfl rfl rfl dX1_restore_22 ?_
  refine G_iload_n (pc := 25) rfl dX1_restore_25 ?_
  refine G_bipush (pc := 26) (v := 6) (by decide) dX1_restore_26 ?_
  refine G_iadd (pc := 28) (z := 6) (by decide) dX1_restore_28 ?_
  refine G_iald (pc := 29) (jj := 6) (v := 0) (by decide) rfl rfl (by unfold vp_in; decide) dX1_restore_29 ?_
  refine G_putI (pc := 30) (ci := 1) (j := 9) rfl lk_RX1_75 rfl rfl rfl trivial dX1_restore_30 ?_
  refine G_aload_n (pc := 33) rfl dX1_restore_33 ?_
  refine G_aload_n (pc := 34) rfl dX1_restore_34 ?_
  refine G_getR (pc := 35) (r := 34) (ci := 1) (j := 18) rfl lk_RX1_53 rfl rfl rfl dX1_restore_35 ?_
  refine G_iload_n (pc := 38) rfl dX1_restore_38 ?_
  refine G_bipush (pc := 39) (v := 6) (by decide) dX1_restore_39 ?_
  refine G_iadd (pc := 41) (z := 6) (by decide) dX1_restore_41 ?_
  refine G_iconst (pc := 42) (v := 1) (by decide) dX1_restore_42 ?_
  refine G_iadd (pc := 43) (z := 7) (by decide) dX1_restore_43 ?_
  refine G_iald (pc := 44) (jj := 7) (v := 0) (by decide) rfl rfl (by unfold vp_in; decide) dX1_restore_44 ?_
  refine G_putI (pc := 45) (ci := 1) (j := 1) rfl lk_RX1_60 rfl rfl rfl trivial dX1_restore_45 ?_
  exact G_vret (pc := 48) (Nat.le_of_ble_eq_true rfl) (Nat.le_of_ble_eq_true rfl) rfl dX1_restore_48 ⟨rfl, rfl⟩
set_option maxRecDepth 100000 in
set_option maxHeartbeats 4000000 in
theorem s425_X1_goRest  (d : Nat)   : G (d + 2) mX1_goRest 0 0 0 0 0 (gent 4 [.ref 19, .int 10]) [] SH0 RF0 (gup (gup (gcp I0 24 34 (0 : Int32).toNatClampNeg (0 : Int32).toNatClampNeg (6 : Int32).toNatClampNeg) 34 6 0) 34 7 0) (fun r h => r = some (.int 0) ∧ h = (SH0, RF0, (gup (gup (gup (gup (gup (gup (gup (gup (gup (gup (gup (gup (gcp I0 24 34 (0 : Int32).toNatClampNeg (0 : Int32).toNatClampNeg (6 : Int32).toNatClampNeg) 34 6 0) 34 7 0) 19 1 1) 19 1 2) 19 1 3) 19 1 4) 19 1 5) 19 1 6) 19 1 7) 19 1 8) 19 1 9) 19 1 10))) := by
  refine G_iconst (pc := 0) (v := 0) (by decide) dX1_goRest_0 ?_
  refine G_istore_n (pc := 1) (L1 := [some (.ref 19), some (.int 10), some (.int 0), none]) rfl rfl (by decide) dX1_goRest_1 ?_
  refine G_iconst (pc := 2) (v := 0) (by decide) dX1_goRest_2 ?_
  refine G_istore_n (pc := 3) (L1 := [some (.ref 19), some (.int 10), some (.int 0), some (.int 0)]) rfl rfl (by decide) dX1_goRest_3 ?_
  refine G_iload_n (pc := 4) rfl dX1_goRest_4 ?_
  refine G_iload_n (pc := 5) rfl dX1_goRest_5 ?_
  refine G_icmp_ge (pc := 6) (tgt := 38) (by decide) dX1_goRest_6 (fun z => absurd z (by decide)) (fun _ => ?_)
  refine G_aload_n (pc := 9) rfl dX1_goRest_9 ?_
  refine G_callV (pc := 10) (mc1 := 0) (ms1 := 0) (ci := 1) (mj := mX1_isOver) (vs := []) dX1_goRest_10 rfl rfl cm_X1_isOver wf_172 wf_17 wf_18 rfl (Nat.le_of_ble_eq_true rfl) (Nat.le_of_ble_eq_true rfl) (Nat.le_of_ble_eq_true rfl) (Nat.le_of_ble_eq_true rfl) (s350_X1_isOver  (d + 1)  ) ?_
  rintro _ _ ⟨rfl, rfl⟩
  dsimp only [Option.toList, List.cons_append, List.nil_append]
  refine G_if_ne (pc := 13) (tgt := 38) (by decide) dX1_goRest_13 (fun z => absurd (by decide) z) (fun _ => ?_)
  refine G_iload_n (pc := 16) rfl dX1_goRest_16 ?_
  refine G_aload_n (pc := 17) rfl dX1_goRest_17 ?_
  refine G_aload_n (pc := 18) rfl dX1_goRest_18 ?_
  refine G_callV (pc := 19) (mc1 := 0) (ms1 := 0) (ci := 1) (mj := mX1_restAct) (vs := []) dX1_goRest_19 rfl rfl cm_X1_restAct wf_173 wf_66 wf_67 rfl (Nat.le_of_ble_eq_true rfl) (Nat.le_of_ble_eq_true rfl) (Nat.le_of_ble_eq_true rfl) (Nat.le_of_ble_eq_true rfl) (s351_X1_restAct  (d + 1)  ) ?_
  rintro _ _ ⟨rfl, rfl⟩
  dsimp only [Option.toList, List.cons_append, List.nil_append]
  refine G_callV (pc := 22) (mc1 := 0) (ms1 := 0) (ci := 1) (mj := mX1_tell) (vs := [_]) dX1_goRest_22 rfl rfl cm_X1_tell wf_69 wf_71 wf_72 rfl (Nat.le_of_ble_eq_true rfl) (Nat.le_of_ble_eq_true rfl) (Nat.le_of_ble_eq_true rfl) (Nat.le_of_ble_eq_true rfl) (s145_X1_tell  d  ) ?_
  rintro _ _ ⟨rfl, rfl⟩
  dsimp only [Option.toList, List.cons_append, List.nil_append]
  refine G_aload_n (pc := 25) rfl dX1_goRest_25 ?_
  refine G_callV (pc := 26) (mc1 := 0) (ms1 := 0) (ci := 1) (mj := mX1_melt) (vs := []) dX1_goRest_26 rfl rfl cm_X1_melt wf_73 wf_75 wf_76 rfl (Nat.le_of_ble_eq_true rfl) (Nat.le_of_ble_eq_true rfl) (Nat.le_of_ble_eq_true rfl) (Nat.le_of_ble_eq_true rfl) (s147_X1_melt  (d + 1)  ) ?_
  rintro _ _ ⟨rfl, rfl⟩
  dsimp only [Option.toList, List.cons_append, List.nil_append]
  refine G_iadd (pc := 29) (z := 0) (by decide) dX1_goRest_29 ?_
  refine G_iadd (pc := 30) (z := 0) (by decide) dX1_goRest_30 ?_
  refine G_istore_n (pc := 31) (L1 := [some (.ref 19), some (.int 10), some (.int 0), some (.int 0)]) rfl rfl (by decide) dX1_goRest_31 ?_
  refine G_iinc (pc := 32) (v := 1) (w := 1) (L1 := [some (.ref 19), some (.int 10), some (.int 0), some (.int 1)]) (by decide) rfl rfl (by decide) rfl (by decide) dX1_goRest_32 ?_
  refine G_goto (pc := 35) (tgt := 4) (by decide) dX1_goRest_35 ?_
  refine G_iload_n (pc := 4) rfl dX1_goRest_4 ?_
  refine G_iload_n (pc := 5) rfl dX1_goRest_5 ?_
  refine G_icmp_ge (pc := 6) (tgt := 38) (by decide) dX1_goRest_6 (fun z => absurd z (by decide)) (fun _ => ?_)
  refine G_aload_n (pc := 9) rfl dX1_goRest_9 ?_
  refine G_callV (pc := 10) (mc1 := 0) (ms1 := 0) (ci := 1) (mj := mX1_isOver) (vs := []) dX1_goRest_10 rfl rfl cm_X1_isOver wf_172 wf_17 wf_18 rfl (Nat.le_of_ble_eq_true rfl) (Nat.le_of_ble_eq_true rfl) (Nat.le_of_ble_eq_true rfl) (Nat.le_of_ble_eq_true rfl) (s155_X1_isOver  (d + 1)  ) ?_
  rintro _ _ ⟨rfl, rfl⟩
  dsimp only [Option.toList, List.cons_append, List.nil_append]
  refine G_if_ne (pc := 13) (tgt := 38) (by decide) dX1_goRest_13 (fun z => absurd (by decide) z) (fun _ => ?_)
  refine G_iload_n (pc := 16) rfl dX1_goRest_16 ?_
  refine G_aload_n (pc := 17) rfl dX1_goRest_17 ?_
  refine G_aload_n (pc := 18) rfl dX1_goRest_18 ?_
  refine G_callV (pc := 19) (mc1 := 0) (ms1 := 0) (ci := 1) (mj := mX1_restAct) (vs := []) dX1_goRest_19 rfl rfl cm_X1_restAct wf_173 wf_66 wf_67 rfl (Nat.le_of_ble_eq_true rfl) (Nat.le_of_ble_eq_true rfl) (Nat.le_of_ble_eq_true rfl) (Nat.le_of_ble_eq_true rfl) (s352_X1_restAct  (d + 1)  ) ?_
  rintro _ _ ⟨rfl, rfl⟩
  dsimp only [Option.toList, List.cons_append, List.nil_append]
  refine G_callV (pc := 22) (mc1 := 0) (ms1 := 0) (ci := 1) (mj := mX1_tell) (vs := [_]) dX1_goRest_22 rfl rfl cm_X1_tell wf_69 wf_71 wf_72 rfl (Nat.le_of_ble_eq_true rfl) (Nat.le_of_ble_eq_true rfl) (Nat.le_of_ble_eq_true rfl) (Nat.le_of_ble_eq_true rfl) (s353_X1_tell  d  ) ?_
  rintro _ _ ⟨rfl, rfl⟩
  dsimp only [Option.toList, List.cons_append, List.nil_append]
  refine G_aload_n (pc := 25) rfl dX1_goRest_25 ?_
  refine G_callV (pc := 26) (mc1 := 0) (ms1 := 0) (ci := 1) (mj := mX1_melt) (vs := []) dX1_goRest_26 rfl rfl cm_X1_melt wf_73 wf_75 wf_76 rfl (Nat.le_of_ble_eq_true rfl) (Nat.le_of_ble_eq_true rfl) (Nat.le_of_ble_eq_true rfl) (Nat.le_of_ble_eq_true rfl) (s355_X1_melt  (d + 1)  ) ?_
  rintro _ _ ⟨rfl, rfl⟩
  dsimp only [Option.toList, List.cons_append, List.nil_append]
  refine G_iadd (pc := 29) (z := 0) (by decide) dX1_goRest_29 ?_
  refine G_iadd (pc := 30) (z := 0) (by decide) dX1_goRest_30 ?_
  refine G_istore_n (pc := 31) (L1 := [some (.ref 19), some (.int 10), some (.int 0), some (.int 1)]) rfl rfl (by decide) dX1_goRest_31 ?_
  refine G_iinc (pc := 32) (v := 1) (w := 2) (L1 := [some (.ref 19), some (.int 10), some (.int 0), some (.int 2)]) (by decide) rfl rfl (by decide) rfl (by decide) dX1_goRest_32 ?_
  refine G_goto (pc := 35) (tgt := 4) (by decide) dX1_goRest_35 ?_
  refine G_iload_n (pc := 4) rfl dX1_goRest_4 ?_
  refine G_iload_n (pc := 5) rfl dX1_goRest_5 ?_
  refine G_icmp_ge (pc := 6) (tgt := 38) (by decide) dX1_goRest_6 (fun z => absurd z (by decide)) (fun _ => ?_)
  refine G_aload_n (pc := 9) rfl dX1_goRest_9 ?_
  refine G_callV (pc := 10) (mc1 := 0) (ms1 := 0) (ci := 1) (mj := mX1_isOver) (vs := []) dX1_goRest_10 rfl rfl cm_X1_isOver wf_172 wf_17 wf_18 rfl (Nat.le_of_ble_eq_true rfl) (Nat.le_of_ble_eq_true rfl) (Nat.le_of_ble_eq_true rfl) (Nat.le_of_ble_eq_true rfl) (s356_X1_isOver  (d + 1)  ) ?_
  rintro _ _ ⟨rfl, rfl⟩
  dsimp only [Option.toList, List.cons_append, List.nil_append]
  refine G_if_ne (pc := 13) (tgt := 38) (by decide) dX1_goRest_13 (fun z => absurd (by decide) z) (fun _ => ?_)
  refine G_iload_n (pc := 16) rfl dX1_goRest_16 ?_
  refine G_aload_n (pc := 17) rfl dX1_goRest_17 ?_
  refine G_aload_n (pc := 18) rfl dX1_goRest_18 ?_
  refine G_callV (pc := 19) (mc1 := 0) (ms1 := 0) (ci := 1) (mj := mX1_restAct) (vs := []) dX1_goRest_19 rfl rfl cm_X1_restAct wf_173 wf_66 wf_67 rfl (Nat.le_of_ble_eq_true rfl) (Nat.le_of_ble_eq_true rfl) (Nat.le_of_ble_eq_true rfl) (Nat.le_of_ble_eq_true rfl) (s357_X1_restAct  (d + 1)  ) ?_
  rintro _ _ ⟨rfl, rfl⟩
  dsimp only [Option.toList, List.cons_append, List.nil_append]
  refine G_callV (pc := 22) (mc1 := 0) (ms1 := 0) (ci := 1) (mj := mX1_tell) (vs := [_]) dX1_goRest_22 rfl rfl cm_X1_tell wf_69 wf_71 wf_72 rfl (Nat.le_of_ble_eq_true rfl) (Nat.le_of_ble_eq_true rfl) (Nat.le_of_ble_eq_true rfl) (Nat.le_of_ble_eq_true rfl) (s358_X1_tell  d  ) ?_
  rintro _ _ ⟨rfl, rfl⟩
  dsimp only [Option.toList, List.cons_append, List.nil_append]
  refine G_aload_n (pc := 25) rfl dX1_goRest_25 ?_
  refine G_callV (pc := 26) (mc1 := 0) (ms1 := 0) (ci := 1) (mj := mX1_melt) (vs := []) dX1_goRest_26 rfl rfl cm_X1_melt wf_73 wf_75 wf_76 rfl (Nat.le_of_ble_eq_true rfl) (Nat.le_of_ble_eq_true rfl) (Nat.le_of_ble_eq_true rfl) (Nat.le_of_ble_eq_true rfl) (s360_X1_melt  (d + 1)  ) ?_
  rintro _ _ ⟨rfl, rfl⟩
  dsimp only [Option.toList, List.cons_append, List.nil_append]
  refine G_iadd (pc := 29) (z := 0) (by decide) dX1_goRest_29 ?_
  refine G_iadd (pc := 30) (z := 0) (by decide) dX1_goRest_30 ?_
  refine G_istore_n (pc := 31) (L1 := [some (.ref 19), some (.int 10), some (.int 0), some (.int 2)]) rfl rfl (by decide) dX1_goRest_31 ?_
  refine G_iinc (pc := 32) (v := 1) (w := 3) (L1 := [some (.ref 19), some (.int 10), some (.int 0), some (.int 3)]) (by decide) rfl rfl (by decide) rfl (by decide) dX1_goRest_32 ?_
  refine G_goto (pc := 35) (tgt := 4) (by decide) dX1_goRest_35 ?_
  refine G_iload_n (pc := 4) rfl dX1_goRest_4 ?_
  refine G_iload_n (pc := 5) rfl dX1_goRest_5 ?_
  refine G_icmp_ge (pc := 6) (tgt := 38) (by decide) dX1_goRest_6 (fun z => absurd z (by decide)) (fun _ => ?_)
  refine G_aload_n (pc := 9) rfl dX1_goRest_9 ?_
  refine G_callV (pc := 10) (mc1 := 0) (ms1 := 0) (ci := 1) (mj := mX1_isOver) (vs := []) dX1_goRest_10 rfl rfl cm_X1_isOver wf_172 wf_17 wf_18 rfl (Nat.le_of_ble_eq_true rfl) (Nat.le_of_ble_eq_true rfl) (Nat.le_of_ble_eq_true rfl) (Nat.le_of_ble_eq_true rfl) (s361_X1_isOver  (d + 1)  ) ?_
  rintro _ _ ⟨rfl, rfl⟩
  dsimp only [Option.toList, List.cons_append, List.nil_append]
  refine G_if_ne (pc := 13) (tgt := 38) (by decide) dX1_goRest_13 (fun z => absurd (by decide) z) (fun _ => ?_)
  refine G_iload_n (pc := 16) rfl dX1_goRest_16 ?_
  refine G_aload_n (pc := 17) rfl dX1_goRest_17 ?_
  refine G_aload_n (pc := 18) rfl dX1_goRest_18 ?_
  refine G_callV (pc := 19) (mc1 := 0) (ms1 := 0) (ci := 1) (mj := mX1_restAct) (vs := []) dX1_goRest_19 rfl rfl cm_X1_restAct wf_173 wf_66 wf_67 rfl (Nat.le_of_ble_eq_true rfl) (Nat.le_of_ble_eq_true rfl) (Nat.le_of_ble_eq_true rfl) (Nat.le_of_ble_eq_true rfl) (s362_X1_restAct  (d + 1)  ) ?_
  rintro _ _ ⟨rfl, rfl⟩
  dsimp only [Option.toList, List.cons_append, List.nil_append]
  refine G_callV (pc := 22) (mc1 := 0) (ms1 := 0) (ci := 1) (mj := mX1_tell) (vs := [_]) dX1_goRest_22 rfl rfl cm_X1_tell wf_69 wf_71 wf_72 rfl (Nat.le_of_ble_eq_true rfl) (Nat.le_of_ble_eq_true rfl) (Nat.le_of_ble_eq_true rfl) (Nat.le_of_ble_eq_true rfl) (s363_X1_tell  d  ) ?_
  rintro _ _ ⟨rfl, rfl⟩
  dsimp only [Option.toList, List.cons_append, List.nil_append]
  refine G_aload_n (pc := 25) rfl dX1_goRest_25 ?_
  refine G_callV (pc := 26) (mc1 := 0) (ms1 := 0) (ci := 1) (mj := mX1_melt) (vs := []) dX1_goRest_26 rfl rfl cm_X1_melt wf_73 wf_75 wf_76 rfl (Nat.le_of_ble_eq_true rfl) (Nat.le_of_ble_eq_true rfl) (Nat.le_of_ble_eq_true rfl) (Nat.le_of_ble_eq_true rfl) (s365_X1_melt  (d + 1)  ) ?_
  rintro _ _ ⟨rfl, rfl⟩
  dsimp only [Option.toList, List.cons_append, List.nil_append]
  refine G_iadd (pc := 29) (z := 0) (by decide) dX1_goRest_29 ?_
  refine G_iadd (pc := 30) (z := 0) (by decide) dX1_goRest_30 ?_
  refine G_istore_n (pc := 31) (L1 := [some (.ref 19), some (.int 10), some (.int 0), some (.int 3)]) rfl rfl (by decide) dX1_goRest_31 ?_
  refine G_iinc (pc := 32) (v := 1) (w := 4) (L1 := [some (.ref 19), some (.int 10), some (.int 0), some (.int 4)]) (by decide) rfl rfl (by decide) rfl (by decide) dX1_goRest_32 ?_
  refine G_goto (pc := 35) (tgt := 4) (by decide) dX1_goRest_35 ?_
  refine G_iload_n (pc := 4) rfl dX1_goRest_4 ?_
  refine G_iload_n (pc := 5) rfl dX1_goRest_5 ?_
  refine G_icmp_ge (pc := 6) (tgt := 38) (by decide) dX1_goRest_6 (fun z => absurd z (by decide)) (fun _ => ?_)
  refine G_aload_n (pc := 9) rfl dX1_goRest_9 ?_
  refine G_callV (pc := 10) (mc1 := 0) (ms1 := 0) (ci := 1) (mj := mX1_isOver) (vs := []) dX1_goRest_10 rfl rfl cm_X1_isOver wf_172 wf_17 wf_18 rfl (Nat.le_of_ble_eq_true rfl) (Nat.le_of_ble_eq_true rfl) (Nat.le_of_ble_eq_true rfl) (Nat.le_of_ble_eq_true rfl) (s366_X1_isOver  (d + 1)  ) ?_
  rintro _ _ ⟨rfl, rfl⟩
  dsimp only [Option.toList, List.cons_append, List.nil_append]
  refine G_if_ne (pc := 13) (tgt := 38) (by decide) dX1_goRest_13 (fun z => absurd (by decide) z) (fun _ => ?_)
  refine G_iload_n (pc := 16) rfl dX1_goRest_16 ?_
  refine G_aload_n (pc := 17) rfl dX1_goRest_17 ?_
  refine G_aload_n (pc := 18) rfl dX1_goRest_18 ?_
  refine G_callV (pc := 19) (mc1 := 0) (ms1 := 0) (ci := 1) (mj := mX1_restAct) (vs := []) dX1_goRest_19 rfl rfl cm_X1_restAct wf_173 wf_66 wf_67 rfl (Nat.le_of_ble_eq_true rfl) (Nat.le_of_ble_eq_true rfl) (Nat.le_of_ble_eq_true rfl) (Nat.le_of_ble_eq_true rfl) (s367_X1_restAct  (d + 1)  ) ?_
  rintro _ _ ⟨rfl, rfl⟩
  dsimp only [Option.toList, List.cons_append, List.nil_append]
  refine G_callV (pc := 22) (mc1 := 0) (ms1 := 0) (ci := 1) (mj := mX1_tell) (vs := [_]) dX1_goRest_22 rfl rfl cm_X1_tell wf_69 wf_71 wf_72 rfl (Nat.le_of_ble_eq_true rfl) (Nat.le_of_ble_eq_true rfl) (Nat.le_of_ble_eq_true rfl) (Nat.le_of_ble_eq_true rfl) (s368_X1_tell  d  ) ?_
  rintro _ _ ⟨rfl, rfl⟩
  dsimp only [Option.toList, List.cons_append, List.nil_append]
  refine G_aload_n (pc := 25) rfl dX1_goRest_25 ?_
  refine G_callV (pc := 26) (mc1 := 0) (ms1 := 0) (ci := 1) (mj := mX1_melt) (vs := []) dX1_goRest_26 rfl rfl cm_X1_melt wf_73 wf_75 wf_76 rfl (Nat.le_of_ble_eq_true rfl) (Nat.le_of_ble_eq_true rfl) (Nat.le_of_ble_eq_true rfl) (Nat.le_of_ble_eq_true rfl) (s370_X1_melt  (d + 1)  ) ?_
  rintro _ _ ⟨rfl, rfl⟩
  dsimp only [Option.toList, List.cons_append, List.nil_append]
  refine G_iadd (pc := 29) (z := 0) (by decide) dX1_goRest_29 ?_
  refine G_iadd (pc := 30) (z := 0) (by decide) dX1_goRest_30 ?_
  refine G_istore_n (pc := 31) (L1 := [some (.ref 19), some (.int 10), some (.int 0), some (.int 4)]) rfl rfl (by decide) dX1_goRest_31 ?_
  refine G_iinc (pc := 32) (v := 1) (w := 5) (L1 := [some (.ref 19), some (.int 10), some (.int 0), some (.int 5)]) (by decide) rfl rfl (by decide) rfl (by decide) dX1_goRest_32 ?_
  refine G_goto (pc := 35) (tgt := 4) (by decide) dX1_goRest_35 ?_
  refine G_iload_n (pc := 4) rfl dX1_goRest_4 ?_
  refine G_iload_n (pc := 5) rfl dX1_goRest_5 ?_
  refine G_icmp_ge (pc := 6) (tgt := 38) (by decide) dX1_goRest_6 (fun z => absurd z (by decide)) (fun _ => ?_)
  refine G_aload_n (pc := 9) rfl dX1_goRest_9 ?_
  refine G_callV (pc := 10) (mc1 := 0) (ms1 := 0) (ci := 1) (mj := mX1_isOver) (vs := []) dX1_goRest_10 rfl rfl cm_X1_isOver wf_172 wf_17 wf_18 rfl (Nat.le_of_ble_eq_true rfl) (Nat.le_of_ble_eq_true rfl) (Nat.le_of_ble_eq_true rfl) (Nat.le_of_ble_eq_true rfl) (s371_X1_isOver  (d + 1)  ) ?_
  rintro _ _ ⟨rfl, rfl⟩
  dsimp only [Option.toList, List.cons_append, List.nil_append]
  refine G_if_ne (pc := 13) (tgt := 38) (by decide) dX1_goRest_13 (fun z => absurd (by decide) z) (fun _ => ?_)
  refine G_iload_n (pc := 16) rfl dX1_goRest_16 ?_
  refine G_aload_n (pc := 17) rfl dX1_goRest_17 ?_
  refine G_aload_n (pc := 18) rfl dX1_goRest_18 ?_
  refine G_callV (pc := 19) (mc1 := 0) (ms1 := 0) (ci := 1) (mj := mX1_restAct) (vs := []) dX1_goRest_19 rfl rfl cm_X1_restAct wf_173 wf_66 wf_67 rfl (Nat.le_of_ble_eq_true rfl) (Nat.le_of_ble_eq_true rfl) (Nat.le_of_ble_eq_true rfl) (Nat.le_of_ble_eq_true rfl) (s372_X1_restAct  (d + 1)  ) ?_
  rintro _ _ ⟨rfl, rfl⟩
  dsimp only [Option.toList, List.cons_append, List.nil_append]
  refine G_callV (pc := 22) (mc1 := 0) (ms1 := 0) (ci := 1) (mj := mX1_tell) (vs := [_]) dX1_goRest_22 rfl rfl cm_X1_tell wf_69 wf_71 wf_72 rfl (Nat.le_of_ble_eq_true rfl) (Nat.le_of_ble_eq_true rfl) (Nat.le_of_ble_eq_true rfl) (Nat.le_of_ble_eq_true rfl) (s373_X1_tell  d  ) ?_
  rintro _ _ ⟨rfl, rfl⟩
  dsimp only [Option.toList, List.cons_append, List.nil_append]
  refine G_aload_n (pc := 25) rfl dX1_goRest_25 ?_
  refine G_callV (pc := 26) (mc1 := 0) (ms1 := 0) (ci := 1) (mj := mX1_melt) (vs := []) dX1_goRest_26 rfl rfl cm_X1_melt wf_73 wf_75 wf_76 rfl (Nat.le_of_ble_eq_true rfl) (Nat.le_of_ble_eq_true rfl) (Nat.le_of_ble_eq_true rfl) (Nat.le_of_ble_eq_true rfl) (s375_X1_melt  (d + 1)  ) ?_
  rintro _ _ ⟨rfl, rfl⟩
  dsimp only [Option.toList, List.cons_append, List.nil_append]
  refine G_iadd (pc := 29) (z := 0) (by decide) dX1_goRest_29 ?_
  refine G_iadd (pc := 30) (z := 0) (by decide) dX1_goRest_30 ?_
  refine G_istore_n (pc := 31) (L1 := [some (.ref 19), some (.int 10), some (.int 0), some (.int 5)]) rfl rfl (by decide) dX1_goRest_31 ?_
  refine G_iinc (pc := 32) (v := 1) (w := 6) (L1 := [some (.ref 19), some (.int 10), some (.int 0), some (.int 6)]) (by decide) rfl rfl (by decide) rfl (by decide) dX1_goRest_32 ?_
  refine G_goto (pc := 35) (tgt := 4) (by decide) dX1_goRest_35 ?_
  refine G_iload_n (pc := 4) rfl dX1_goRest_4 ?_
  refine G_iload_n (pc := 5) rfl dX1_goRest_5 ?_
  refine G_icmp_ge (pc := 6) (tgt := 38) (by decide) dX1_goRest_6 (fun z => absurd z (by decide)) (fun _ => ?_)
  refine G_aload_n (pc := 9) rfl dX1_goRest_9 ?_
  refine G_callV (pc := 10) (mc1 := 0) (ms1 := 0) (ci := 1) (mj := mX1_isOver) (vs := []) dX1_goRest_10 rfl rfl cm_X1_isOver wf_172 wf_17 wf_18 rfl (Nat.le_of_ble_eq_true rfl) (Nat.le_of_ble_eq_true rfl) (Nat.le_of_ble_eq_true rfl) (Nat.le_of_ble_eq_true rfl) (s376_X1_isOver  (d + 1)  ) ?_
  rintro _ _ ⟨rfl, rfl⟩
  dsimp only [Option.toList, List.cons_append, List.nil_append]
  refine G_if_ne (pc := 13) (tgt := 38) (by decide) dX1_goRest_13 (fun z => absurd (by decide) z) (fun _ => ?_)
  refine G_iload_n (pc := 16) rfl dX1_goRest_16 ?_
  refine G_aload_n (pc := 17) rfl dX1_goRest_17 ?_
  refine G_aload_n (pc := 18) rfl dX1_goRest_18 ?_
  refine G_callV (pc := 19) (mc1 := 0) (ms1 := 0) (ci := 1) (mj := mX1_restAct) (vs := []) dX1_goRest_19 rfl rfl cm_X1_restAct wf_173 wf_66 wf_67 rfl (Nat.le_of_ble_eq_true rfl) (Nat.le_of_ble_eq_true rfl) (Nat.le_of_ble_eq_true rfl) (Nat.le_of_ble_eq_true rfl) (s377_X1_restAct  (d + 1)  ) ?_
  rintro _ _ ⟨rfl, rfl⟩
  dsimp only [Option.toList, List.cons_append, List.nil_append]
  refine G_callV (pc := 22) (mc1 := 0) (ms1 := 0) (ci := 1) (mj := mX1_tell) (vs := [_]) dX1_goRest_22 rfl rfl cm_X1_tell wf_69 wf_71 wf_72 rfl (Nat.le_of_ble_eq_true rfl) (Nat.le_of_ble_eq_true rfl) (Nat.le_of_ble_eq_true rfl) (Nat.le_of_ble_eq_true rfl) (s378_X1_tell  d  ) ?_
  rintro _ _ ⟨rfl, rfl⟩
  dsimp only [Option.toList, List.cons_append, List.nil_append]
  refine G_aload_n (pc := 25) rfl dX1_goRest_25 ?_
  refine G_callV (pc := 26) (mc1 := 0) (ms1 := 0) (ci := 1) (mj := mX1_melt) (vs := []) dX1_goRest_26 rfl rfl cm_X1_melt wf_73 wf_75 wf_76 rfl (Nat.le_of_ble_eq_true rfl) (Nat.le_of_ble_eq_true rfl) (Nat.le_of_ble_eq_true rfl) (Nat.le_of_ble_eq_true rfl) (s380_X1_melt  (d + 1)  ) ?_
  rintro _ _ ⟨rfl, rfl⟩
  dsimp only [Option.toList, List.cons_append, List.nil_append]
  refine G_iadd (pc := 29) (z := 0) (by decide) dX1_goRest_29 ?_
  refine G_iadd (pc := 30) (z := 0) (by decide) dX1_goRest_30 ?_
  refine G_istore_n (pc := 31) (L1 := [some (.ref 19), some (.int 10), some (.int 0), some (.int 6)]) rfl rfl (by decide) dX1_goRest_31 ?_
  refine G_iinc (pc := 32) (v := 1) (w := 7) (L1 := [some (.ref 19), some (.int 10), some (.int 0), some (.int 7)]) (by decide) rfl rfl (by decide) rfl (by decide) dX1_goRest_32 ?_
  refine G_goto (pc := 35) (tgt := 4) (by decide) dX1_goRest_35 ?_
  refine G_iload_n (pc := 4) rfl dX1_goRest_4 ?_
  refine G_iload_n (pc := 5) rfl dX1_goRest_5 ?_
  refine G_icmp_ge (pc := 6) (tgt := 38) (by decide) dX1_goRest_6 (fun z => absurd z (by decide)) (fun _ => ?_)
  refine G_aload_n (pc := 9) rfl dX1_goRest_9 ?_
  refine G_callV (pc := 10) (mc1 := 0) (ms1 := 0) (ci := 1) (mj := mX1_isOver) (vs := []) dX1_goRest_10 rfl rfl cm_X1_isOver wf_172 wf_17 wf_18 rfl (Nat.le_of_ble_eq_true rfl) (Nat.le_of_ble_eq_true rfl) (Nat.le_of_ble_eq_true rfl) (Nat.le_of_ble_eq_true rfl) (s381_X1_isOver  (d + 1)  ) ?_
  rintro _ _ ⟨rfl, rfl⟩
  dsimp only [Option.toList, List.cons_append, List.nil_append]
  refine G_if_ne (pc := 13) (tgt := 38) (by decide) dX1_goRest_13 (fun z => absurd (by decide) z) (fun _ => ?_)
  refine G_iload_n (pc := 16) rfl dX1_goRest_16 ?_
  refine G_aload_n (pc := 17) rfl dX1_goRest_17 ?_
  refine G_aload_n (pc := 18) rfl dX1_goRest_18 ?_
  refine G_callV (pc := 19) (mc1 := 0) (ms1 := 0) (ci := 1) (mj := mX1_restAct) (vs := []) dX1_goRest_19 rfl rfl cm_X1_restAct wf_173 wf_66 wf_67 rfl (Nat.le_of_ble_eq_true rfl) (Nat.le_of_ble_eq_true rfl) (Nat.le_of_ble_eq_true rfl) (Nat.le_of_ble_eq_true rfl) (s382_X1_restAct  (d + 1)  ) ?_
  rintro _ _ ⟨rfl, rfl⟩
  dsimp only [Option.toList, List.cons_append, List.nil_append]
  refine G_callV (pc := 22) (mc1 := 0) (ms1 := 0) (ci := 1) (mj := mX1_tell) (vs := [_]) dX1_goRest_22 rfl rfl cm_X1_tell wf_69 wf_71 wf_72 rfl (Nat.le_of_ble_eq_true rfl) (Nat.le_of_ble_eq_true rfl) (Nat.le_of_ble_eq_true rfl) (Nat.le_of_ble_eq_true rfl) (s383_X1_tell  d  ) ?_
  rintro _ _ ⟨rfl, rfl⟩
  dsimp only [Option.toList, List.cons_append, List.nil_append]
  refine G_aload_n (pc := 25) rfl dX1_goRest_25 ?_
  refine G_callV (pc := 26) (mc1 := 0) (ms1 := 0) (ci := 1) (mj := mX1_melt) (vs := []) dX1_goRest_26 rfl rfl cm_X1_melt wf_73 wf_75 wf_76 rfl (Nat.le_of_ble_eq_true rfl) (Nat.le_of_ble_eq_true rfl) (Nat.le_of_ble_eq_true rfl) (Nat.le_of_ble_eq_true rfl) (s385_X1_melt  (d + 1)  ) ?_
  rintro _ _ ⟨rfl, rfl⟩
  dsimp only [Option.toList, List.cons_append, List.nil_append]
  refine G_iadd (pc := 29) (z := 0) (by decide) dX1_goRest_29 ?_
  refine G_iadd (pc := 30) (z := 0) (by decide) dX1_goRest_30 ?_
  refine G_istore_n (pc := 31) (L1 := [some (.ref 19), some (.int 10), some (.int 0), some (.int 7)]) rfl rfl (by decide) dX1_goRest_31 ?_
  refine G_iinc (pc := 32) (v := 1) (w := 8) (L1 := [some (.ref 19), some (.int 10), some (.int 0), some (.int 8)]) (by decide) rfl rfl (by decide) rfl (by decide) dX1_goRest_32 ?_
  refine G_goto (pc := 35) (tgt := 4) (by decide) dX1_goRest_35 ?_
  refine G_iload_n (pc := 4) rfl dX1_goRest_4 ?_
  refine G_iload_n (pc := 5) rfl dX1_goRest_5 ?_
  refine G_icmp_ge (pc := 6) (tgt := 38) (by decide) dX1_goRest_6 (fun z => absurd z (by decide)) (fun _ => ?_)
  refine G_aload_n (pc := 9) rfl dX1_goRest_9 ?_
  refine G_callV (pc := 10) (mc1 := 0) (ms1 := 0) (ci := 1) (mj := mX1_isOver) (vs := []) dX1_goRest_10 rfl rfl cm_X1_isOver wf_172 wf_17 wf_18 rfl (Nat.le_of_ble_eq_true rfl) (Nat.le_of_ble_eq_true rfl) (Nat.le_of_ble_eq_true rfl) (Nat.le_of_ble_eq_true rfl) (s386_X1_isOver  (d + 1)  ) ?_
  rintro _ _ ⟨rfl, rfl⟩
  dsimp only [Option.toList, List.cons_append, List.nil_append]
  refine G_if_ne (pc := 13) (tgt := 38) (by decide) dX1_goRest_13 (fun z => absurd (by decide) z) (fun _ => ?_)
  refine G_iload_n (pc := 16) rfl dX1_goRest_16 ?_
  refine G_aload_n (pc := 17) rfl dX1_goRest_17 ?_
  refine G_aload_n (pc := 18) rfl dX1_goRest_18 ?_
  refine G_callV (pc := 19) (mc1 := 0) (ms1 := 0) (ci := 1) (mj := mX1_restAct) (vs := []) dX1_goRest_19 rfl rfl cm_X1_restAct wf_173 wf_66 wf_67 rfl (Nat.le_of_ble_eq_true rfl) (Nat.le_of_ble_eq_true rfl) (Nat.le_of_ble_eq_true rfl) (Nat.le_of_ble_eq_true rfl) (s387_X1_restAct  (d + 1)  ) ?_
  rintro _ _ ⟨rfl, rfl⟩
  dsimp only [Option.toList, List.cons_append, List.nil_append]
  refine G_callV (pc := 22) (mc1 := 0) (ms1 := 0) (ci := 1) (mj := mX1_tell) (vs := [_]) dX1_goRest_22 rfl rfl cm_X1_tell wf_69 wf_71 wf_72 rfl (Nat.le_of_ble_eq_true rfl) (Nat.le_of_ble_eq_true rfl) (Nat.le_of_ble_eq_true rfl) (Nat.le_of_ble_eq_true rfl) (s388_X1_tell  d  ) ?_
  rintro _ _ ⟨rfl, rfl⟩
  dsimp only [Option.toList, List.cons_append, List.nil_append]
  refine G_aload_n (pc := 25) rfl dX1_goRest_25 ?_
  refine G_callV (pc := 26) (mc1 := 0) (ms1 := 0) (ci := 1) (mj := mX1_melt) (vs := []) dX1_goRest_26 rfl rfl cm_X1_melt wf_73 wf_75 wf_76 rfl (Nat.le_of_ble_eq_true rfl) (Nat.le_of_ble_eq_true rfl) (Nat.le_of_ble_eq_true rfl) (Nat.le_of_ble_eq_true rfl) (s390_X1_melt  (d + 1)  ) ?_
  rintro _ _ ⟨rfl, rfl⟩
  dsimp only [Option.toList, List.cons_append, List.nil_append]
  refine G_iadd (pc := 29) (z := 0) (by decide) dX1_goRest_29 ?_
  refine G_iadd (pc := 30) (z := 0) (by decide) dX1_goRest_30 ?_
  refine G_istore_n (pc := 31) (L1 := [some (.ref 19), some (.int 10), some (.int 0), some (.int 8)]) rfl rfl (by decide) dX1_goRest_31 ?_
  refine G_iinc (pc := 32) (v := 1) (w := 9) (L1 := [some (.ref 19), some (.int 10), some (.int 0), some (.int 9)]) (by decide) rfl rfl (by decide) rfl (by decide) dX1_goRest_32 ?_
  refine G_goto (pc := 35) (tgt := 4) (by decide) dX1_goRest_35 ?_
  refine G_iload_n (pc := 4) rfl dX1_goRest_4 ?_
  refine G_iload_n (pc := 5) rfl dX1_goRest_5 ?_
  refine G_icmp_ge (pc := 6) (tgt := 38) (by decide) dX1_goRest_6 (fun z => absurd z (by decide)) (fun _ => ?_)
  refine G_aload_n (pc := 9) rfl dX1_goRest_9 ?_
  refine G_callV (pc := 10) (mc1 := 0) (ms1 := 0) (ci := 1) (mj := mX1_isOver) (vs := []) dX1_goRest_10 rfl rfl cm_X1_isOver wf_172 wf_17 wf_18 rfl (Nat.le_of_ble_eq_true rfl) (Nat.le_of_ble_eq_true rfl) (Nat.le_of_ble_eq_true rfl) (Nat.le_of_ble_eq_true rfl) (s391_X1_isOver  (d + 1)  ) ?_
  rintro _ _ ⟨rfl, rfl⟩
  dsimp only [Option.toList, List.cons_append, List.nil_append]
  refine G_if_ne (pc := 13) (tgt := 38) (by decide) dX1_goRest_13 (fun z => absurd (by decide) z) (fun _ => ?_)
  refine G_iload_n (pc := 16) rfl dX1_goRest_16 ?_
  refine G_aload_n (pc := 17) rfl dX1_goRest_17 ?_
  refine G_aload_n (pc := 18) rfl dX1_goRest_18 ?_
  refine G_callV (pc := 19) (mc1 := 0) (ms1 := 0) (ci := 1) (mj := mX1_restAct) (vs := []) dX1_goRest_19 rfl rfl cm_X1_restAct wf_173 wf_66 wf_67 rfl (Nat.le_of_ble_eq_true rfl) (Nat.le_of_ble_eq_true rfl) (Nat.le_of_ble_eq_true rfl) (Nat.le_of_ble_eq_true rfl) (s392_X1_restAct  (d + 1)  ) ?_
  rintro _ _ ⟨rfl, rfl⟩
  dsimp only [Option.toList, List.cons_append, List.nil_append]
  refine G_callV (pc := 22) (mc1 := 0) (ms1 := 0) (ci := 1) (mj := mX1_tell) (vs := [_]) dX1_goRest_22 rfl rfl cm_X1_tell wf_69 wf_71 wf_72 rfl (Nat.le_of_ble_eq_true rfl) (Nat.le_of_ble_eq_true rfl) (Nat.le_of_ble_eq_true rfl) (Nat.le_of_ble_eq_true rfl) (s393_X1_tell  d  ) ?_
  rintro _ _ ⟨rfl, rfl⟩
  dsimp only [Option.toList, List.cons_append, List.nil_append]
  refine G_aload_n (pc := 25) rfl dX1_goRest_25 ?_
  refine G_callV (pc := 26) (mc1 := 0) (ms1 := 0) (ci := 1) (mj := mX1_melt) (vs := []) dX1_goRest_26 rfl rfl cm_X1_melt wf_73 wf_75 wf_76 rfl (Nat.le_of_ble_eq_true rfl) (Nat.le_of_ble_eq_true rfl) (Nat.le_of_ble_eq_true rfl) (Nat.le_of_ble_eq_true rfl) (s395_X1_melt  (d + 1)  ) ?_
  rintro _ _ ⟨rfl, rfl⟩
  dsimp only [Option.toList, List.cons_append, List.nil_append]
  refine G_iadd (pc := 29) (z := 0) (by decide) dX1_goRest_29 ?_
  refine G_iadd (pc := 30) (z := 0) (by decide) dX1_goRest_30 ?_
  refine G_istore_n (pc := 31) (L1 := [some (.ref 19), some (.int 10), some (.int 0), some (.int 9)]) rfl rfl (by decide) dX1_goRest_31 ?_
  refine G_iinc (pc := 32) (v := 1) (w := 10) (L1 := [some (.ref 19), some (.int 10), some (.int 0), some (.int 10)]) (by decide) rfl rfl (by decide) rfl (by decide) dX1_goRest_32 ?_
  refine G_goto (pc := 35) (tgt := 4) (by decide) dX1_goRest_35 ?_
  refine G_iload_n (pc := 4) rfl dX1_goRest_4 ?_
  refine G_iload_n (pc := 5) rfl dX1_goRest_5 ?_
  refine G_icmp_ge (pc := 6) (tgt := 38) (by decide) dX1_goRest_6 (fun _ => ?_) (fun z => absurd (by decide) z)
  refine G_iload_n (pc := 38) rfl dX1_goRest_38 ?_
  exact G_iret (pc := 39) (Nat.le_of_ble_eq_true rfl) (Nat.le_of_ble_eq_true rfl) rfl dX1_goRest_39 ⟨rfl, rfl⟩
set_option maxRecDepth 100000 in
set_option maxHeartbeats 4000000 in
theorem s426_X1_restore  (d : Nat)   : G (d + 1) mX1_restore 0 0 0 0 0 (gent 3 [.ref 19, .int 0]) [] SH0 RF0 (gup (gup (gup (gup (gup (gup (gup (gup (gup (gup (gup (gup (gcp I0 24 34 (0 : Int32).toNatClampNeg (0 : Int32).toNatClampNeg (6 : Int32).toNatClampNeg) 34 6 0) 34 7 0) 19 1 1) 19 1 2) 19 1 3) 19 1 4) 19 1 5) 19 1 6) 19 1 7) 19 1 8) 19 1 9) 19 1 10) (fun r h => r = none ∧ h = (SH0, RF0, (gup (gup (gcp (gup (gup (gup (gup (gup (gup (gup (gup (gup (gup (gup (gup (gcp I0 24 34 (0 : Int32).toNatClampNeg (0 : Int32).toNatClampNeg (6 : Int32).toNatClampNeg) 34 6 0) 34 7 0) 19 1 1) 19 1 2) 19 1 3) 19 1 4) 19 1 5) 19 1 6) 19 1 7) 19 1 8) 19 1 9) 19 1 10) 34 24 (0 : Int32).toNatClampNeg (0 : Int32).toNatClampNeg (6 : Int32).toNatClampNeg) 19 9 0) 19 1 0))) := by
  refine G_iload_n (pc := 0) rfl dX1_restore_0 ?_
  refine G_bipush (pc := 1) (v := 8) (by decide) dX1_restore_1 ?_
  refine G_imul (pc := 3) (z := 0) (by decide) dX1_restore_3 ?_
  refine G_istore_n (pc := 4) (L1 := [some (.ref 19), some (.int 0), some (.int 0)]) rfl rfl (by decide) dX1_restore_4 ?_
  refine G_aload_n (pc := 5) rfl dX1_restore_5 ?_
  refine G_getR (pc := 6) (r := 34) (ci := 1) (j := 18) rfl lk_RX1_53 rfl rfl rfl dX1_restore_6 ?_
  refine G_iload_n (pc := 9) rfl dX1_restore_9 ?_
  refine G_aload_n (pc := 10) rfl dX1_restore_10 ?_
  refine G_getR (pc := 11) (r := 24) (ci := 1) (j := 11) rfl lk_RX1_31 rfl rfl rfl dX1_restore_11 ?_
  refine G_iconst (pc := 14) (v := 0) (by decide) dX1_restore_14 ?_
  refine G_bipush (pc := 15) (v := 6) (by decide) dX1_restore_15 ?_
  refine G_copy (pc := 17) (x := 34) (y := 24) rfl rfl (by decide) (by decide) (by decide) (by decide) (by decide) wf_50 wf_51 wf_52 wf_53 (Nat.le_of_ble_eq_true rfl) dX1_restore_17 ?_
  refine G_aload_n (pc := 20) rfl dX1_restore_20 ?_
  refine G_aload_n (pc := 21) rfl dX1_restore_21 ?_
  refine G_getR (pc := 22) (r := 34) (ci := 1) (j := 18) rfl lk_RX1_53 rfl rfl rfl dX1_restore_22 ?_
  refine G_iload_n (pc := 25) rfl dX1_restore_25 ?_
  refine G_bipush (pc := 26) (v := 6) (by decide) dX1_restore_26 ?_
  refine G_iadd (pc := 28) (z := 6) (by decide) dX1_restore_28 ?_
  refine G_iald (pc := 29) (jj := 6) (v := 0) (by decide) rfl rfl (by unfold vp_in; decide) dX1_restore_29 ?_
  refine G_putI (pc := 30) (ci := 1) (j := 9) rfl lk_RX1_75 rfl rfl rfl trivial dX1_restore_30 ?_
  refine G_aload_n (pc := 33) rfl dX1_restore_33 ?_
  refine G_aload_n (pc := 34) rfl dX1_restore_34 ?_
  refine G_getR (pc := 35) (r := 34) (ci := 1) (j := 18) rfl lk_RX1_53 rfl rfl rfl dX1_restore_35 ?_
  refine G_iload_n (pc := 38) rfl dX1_restore_38 ?_
  refine G_bipush (pc := 39) (v := 6) (by decide) dX1_restore_39 ?_
  refine G_iadd (pc := 41) (z := 6) (by decide) dX1_restore_41 ?_
  refine G_iconst (pc := 42) (v := 1) (by decide) dX1_restore_42 ?_
  refine G_iadd (pc := 43) (z := 7) (by decide) dX1_restore_43 ?_
  refine G_iald (pc := 44) (jj := 7) (v := 0) (by decide) rfl rfl (by unfold vp_in; decide) dX1_restore_44 ?_
  refine G_putI (pc := 45) (ci := 1) (j := 1) rfl lk_RX1_60 rfl rfl rfl trivial dX1_restore_45 ?_
  exact G_vret (pc := 48) (Nat.le_of_ble_eq_true rfl) (Nat.le_of_ble_eq_true rfl) rfl dX1_restore_48 ⟨rfl, rfl⟩
set_option maxRecDepth 100000 in
set_option maxHeartbeats 4000000 in
theorem s427_X1_goRest  (d : Nat)   : G (d + 2) mX1_goRest 0 0 0 0 0 (gent 4 [.ref 19, .int 11]) [] SH0 RF0 (gup (gup (gcp I0 24 34 (0 : Int32).toNatClampNeg (0 : Int32).toNatClampNeg (6 : Int32).toNatClampNeg) 34 6 0) 34 7 0) (fun r h => r = some (.int 0) ∧ h = (SH0, RF0, (gup (gup (gup (gup (gup (gup (gup (gup (gup (gup (gup (gup (gup (gcp I0 24 34 (0 : Int32).toNatClampNeg (0 : Int32).toNatClampNeg (6 : Int32).toNatClampNeg) 34 6 0) 34 7 0) 19 1 1) 19 1 2) 19 1 3) 19 1 4) 19 1 5) 19 1 6) 19 1 7) 19 1 8) 19 1 9) 19 1 10) 19 1 11))) := by
  refine G_iconst (pc := 0) (v := 0) (by decide) dX1_goRest_0 ?_
  refine G_istore_n (pc := 1) (L1 := [some (.ref 19), some (.int 11), some (.int 0), none]) rfl rfl (by decide) dX1_goRest_1 ?_
  refine G_iconst (pc := 2) (v := 0) (by decide) dX1_goRest_2 ?_
  refine G_istore_n (pc := 3) (L1 := [some (.ref 19), some (.int 11), some (.int 0), some (.int 0)]) rfl rfl (by decide) dX1_goRest_3 ?_
  refine G_iload_n (pc := 4) rfl dX1_goRest_4 ?_
  refine G_iload_n (pc := 5) rfl dX1_goRest_5 ?_
  refine G_icmp_ge (pc := 6) (tgt := 38) (by decide) dX1_goRest_6 (fun z => absurd z (by decide)) (fun _ => ?_)
  refine G_aload_n (pc := 9) rfl dX1_goRest_9 ?_
  refine G_callV (pc := 10) (mc1 := 0) (ms1 := 0) (ci := 1) (mj := mX1_isOver) (vs := []) dX1_goRest_10 rfl rfl cm_X1_isOver wf_172 wf_17 wf_18 rfl (Nat.le_of_ble_eq_true rfl) (Nat.le_of_ble_eq_true rfl) (Nat.le_of_ble_eq_true rfl) (Nat.le_of_ble_eq_true rfl) (s350_X1_isOver  (d + 1)  ) ?_
  rintro _ _ ⟨rfl, rfl⟩
  dsimp only [Option.toList, List.cons_append, List.nil_append]
  refine G_if_ne (pc := 13) (tgt := 38) (by decide) dX1_goRest_13 (fun z => absurd (by decide) z) (fun _ => ?_)
  refine G_iload_n (pc := 16) rfl dX1_goRest_16 ?_
  refine G_aload_n (pc := 17) rfl dX1_goRest_17 ?_
  refine G_aload_n (pc := 18) rfl dX1_goRest_18 ?_
  refine G_callV (pc := 19) (mc1 := 0) (ms1 := 0) (ci := 1) (mj := mX1_restAct) (vs := []) dX1_goRest_19 rfl rfl cm_X1_restAct wf_173 wf_66 wf_67 rfl (Nat.le_of_ble_eq_true rfl) (Nat.le_of_ble_eq_true rfl) (Nat.le_of_ble_eq_true rfl) (Nat.le_of_ble_eq_true rfl) (s351_X1_restAct  (d + 1)  ) ?_
  rintro _ _ ⟨rfl, rfl⟩
  dsimp only [Option.toList, List.cons_append, List.nil_append]
  refine G_callV (pc := 22) (mc1 := 0) (ms1 := 0) (ci := 1) (mj := mX1_tell) (vs := [_]) dX1_goRest_22 rfl rfl cm_X1_tell wf_69 wf_71 wf_72 rfl (Nat.le_of_ble_eq_true rfl) (Nat.le_of_ble_eq_true rfl) (Nat.le_of_ble_eq_true rfl) (Nat.le_of_ble_eq_true rfl) (s145_X1_tell  d  ) ?_
  rintro _ _ ⟨rfl, rfl⟩
  dsimp only [Option.toList, List.cons_append, List.nil_append]
  refine G_aload_n (pc := 25) rfl dX1_goRest_25 ?_
  refine G_callV (pc := 26) (mc1 := 0) (ms1 := 0) (ci := 1) (mj := mX1_melt) (vs := []) dX1_goRest_26 rfl rfl cm_X1_melt wf_73 wf_75 wf_76 rfl (Nat.le_of_ble_eq_true rfl) (Nat.le_of_ble_eq_true rfl) (Nat.le_of_ble_eq_true rfl) (Nat.le_of_ble_eq_true rfl) (s147_X1_melt  (d + 1)  ) ?_
  rintro _ _ ⟨rfl, rfl⟩
  dsimp only [Option.toList, List.cons_append, List.nil_append]
  refine G_iadd (pc := 29) (z := 0) (by decide) dX1_goRest_29 ?_
  refine G_iadd (pc := 30) (z := 0) (by decide) dX1_goRest_30 ?_
  refine G_istore_n (pc := 31) (L1 := [some (.ref 19), some (.int 11), some (.int 0), some (.int 0)]) rfl rfl (by decide) dX1_goRest_31 ?_
  refine G_iinc (pc := 32) (v := 1) (w := 1) (L1 := [some (.ref 19), some (.int 11), some (.int 0), some (.int 1)]) (by decide) rfl rfl (by decide) rfl (by decide) dX1_goRest_32 ?_
  refine G_goto (pc := 35) (tgt := 4) (by decide) dX1_goRest_35 ?_
  refine G_iload_n (pc := 4) rfl dX1_goRest_4 ?_
  refine G_iload_n (pc := 5) rfl dX1_goRest_5 ?_
  refine G_icmp_ge (pc := 6) (tgt := 38) (by decide) dX1_goRest_6 (fun z => absurd z (by decide)) (fun _ => ?_)
  refine G_aload_n (pc := 9) rfl dX1_goRest_9 ?_
  refine G_callV (pc := 10) (mc1 := 0) (ms1 := 0) (ci := 1) (mj := mX1_isOver) (vs := []) dX1_goRest_10 rfl rfl cm_X1_isOver wf_172 wf_17 wf_18 rfl (Nat.le_of_ble_eq_true rfl) (Nat.le_of_ble_eq_true rfl) (Nat.le_of_ble_eq_true rfl) (Nat.le_of_ble_eq_true rfl) (s155_X1_isOver  (d + 1)  ) ?_
  rintro _ _ ⟨rfl, rfl⟩
  dsimp only [Option.toList, List.cons_append, List.nil_append]
  refine G_if_ne (pc := 13) (tgt := 38) (by decide) dX1_goRest_13 (fun z => absurd (by decide) z) (fun _ => ?_)
  refine G_iload_n (pc := 16) rfl dX1_goRest_16 ?_
  refine G_aload_n (pc := 17) rfl dX1_goRest_17 ?_
  refine G_aload_n (pc := 18) rfl dX1_goRest_18 ?_
  refine G_callV (pc := 19) (mc1 := 0) (ms1 := 0) (ci := 1) (mj := mX1_restAct) (vs := []) dX1_goRest_19 rfl rfl cm_X1_restAct wf_173 wf_66 wf_67 rfl (Nat.le_of_ble_eq_true rfl) (Nat.le_of_ble_eq_true rfl) (Nat.le_of_ble_eq_true rfl) (Nat.le_of_ble_eq_true rfl) (s352_X1_restAct  (d + 1)  ) ?_
  rintro _ _ ⟨rfl, rfl⟩
  dsimp only [Option.toList, List.cons_append, List.nil_append]
  refine G_callV (pc := 22) (mc1 := 0) (ms1 := 0) (ci := 1) (mj := mX1_tell) (vs := [_]) dX1_goRest_22 rfl rfl cm_X1_tell wf_69 wf_71 wf_72 rfl (Nat.le_of_ble_eq_true rfl) (Nat.le_of_ble_eq_true rfl) (Nat.le_of_ble_eq_true rfl) (Nat.le_of_ble_eq_true rfl) (s353_X1_tell  d  ) ?_
  rintro _ _ ⟨rfl, rfl⟩
  dsimp only [Option.toList, List.cons_append, List.nil_append]
  refine G_aload_n (pc := 25) rfl dX1_goRest_25 ?_
  refine G_callV (pc := 26) (mc1 := 0) (ms1 := 0) (ci := 1) (mj := mX1_melt) (vs := []) dX1_goRest_26 rfl rfl cm_X1_melt wf_73 wf_75 wf_76 rfl (Nat.le_of_ble_eq_true rfl) (Nat.le_of_ble_eq_true rfl) (Nat.le_of_ble_eq_true rfl) (Nat.le_of_ble_eq_true rfl) (s355_X1_melt  (d + 1)  ) ?_
  rintro _ _ ⟨rfl, rfl⟩
  dsimp only [Option.toList, List.cons_append, List.nil_append]
  refine G_iadd (pc := 29) (z := 0) (by decide) dX1_goRest_29 ?_
  refine G_iadd (pc := 30) (z := 0) (by decide) dX1_goRest_30 ?_
  refine G_istore_n (pc := 31) (L1 := [some (.ref 19), some (.int 11), some (.int 0), some (.int 1)]) rfl rfl (by decide) dX1_goRest_31 ?_
  refine G_iinc (pc := 32) (v := 1) (w := 2) (L1 := [some (.ref 19), some (.int 11), some (.int 0), some (.int 2)]) (by decide) rfl rfl (by decide) rfl (by decide) dX1_goRest_32 ?_
  refine G_goto (pc := 35) (tgt := 4) (by decide) dX1_goRest_35 ?_
  refine G_iload_n (pc := 4) rfl dX1_goRest_4 ?_
  refine G_iload_n (pc := 5) rfl dX1_goRest_5 ?_
  refine G_icmp_ge (pc := 6) (tgt := 38) (by decide) dX1_goRest_6 (fun z => absurd z (by decide)) (fun _ => ?_)
  refine G_aload_n (pc := 9) rfl dX1_goRest_9 ?_
  refine G_callV (pc := 10) (mc1 := 0) (ms1 := 0) (ci := 1) (mj := mX1_isOver) (vs := []) dX1_goRest_10 rfl rfl cm_X1_isOver wf_172 wf_17 wf_18 rfl (Nat.le_of_ble_eq_true rfl) (Nat.le_of_ble_eq_true rfl) (Nat.le_of_ble_eq_true rfl) (Nat.le_of_ble_eq_true rfl) (s356_X1_isOver  (d + 1)  ) ?_
  rintro _ _ ⟨rfl, rfl⟩
  dsimp only [Option.toList, List.cons_append, List.nil_append]
  refine G_if_ne (pc := 13) (tgt := 38) (by decide) dX1_goRest_13 (fun z => absurd (by decide) z) (fun _ => ?_)
  refine G_iload_n (pc := 16) rfl dX1_goRest_16 ?_
  refine G_aload_n (pc := 17) rfl dX1_goRest_17 ?_
  refine G_aload_n (pc := 18) rfl dX1_goRest_18 ?_
  refine G_callV (pc := 19) (mc1 := 0) (ms1 := 0) (ci := 1) (mj := mX1_restAct) (vs := []) dX1_goRest_19 rfl rfl cm_X1_restAct wf_173 wf_66 wf_67 rfl (Nat.le_of_ble_eq_true rfl) (Nat.le_of_ble_eq_true rfl) (Nat.le_of_ble_eq_true rfl) (Nat.le_of_ble_eq_true rfl) (s357_X1_restAct  (d + 1)  ) ?_
  rintro _ _ ⟨rfl, rfl⟩
  dsimp only [Option.toList, List.cons_append, List.nil_append]
  refine G_callV (pc := 22) (mc1 := 0) (ms1 := 0) (ci := 1) (mj := mX1_tell) (vs := [_]) dX1_goRest_22 rfl rfl cm_X1_tell wf_69 wf_71 wf_72 rfl (Nat.le_of_ble_eq_true rfl) (Nat.le_of_ble_eq_true rfl) (Nat.le_of_ble_eq_true rfl) (Nat.le_of_ble_eq_true rfl) (s358_X1_tell  d  ) ?_
  rintro _ _ ⟨rfl, rfl⟩
  dsimp only [Option.toList, List.cons_append, List.nil_append]
  refine G_aload_n (pc := 25) rfl dX1_goRest_25 ?_
  refine G_callV (pc := 26) (mc1 := 0) (ms1 := 0) (ci := 1) (mj := mX1_melt) (vs := []) dX1_goRest_26 rfl rfl cm_X1_melt wf_73 wf_75 wf_76 rfl (Nat.le_of_ble_eq_true rfl) (Nat.le_of_ble_eq_true rfl) (Nat.le_of_ble_eq_true rfl) (Nat.le_of_ble_eq_true rfl) (s360_X1_melt  (d + 1)  ) ?_
  rintro _ _ ⟨rfl, rfl⟩
  dsimp only [Option.toList, List.cons_append, List.nil_append]
  refine G_iadd (pc := 29) (z := 0) (by decide) dX1_goRest_29 ?_
  refine G_iadd (pc := 30) (z := 0) (by decide) dX1_goRest_30 ?_
  refine G_istore_n (pc := 31) (L1 := [some (.ref 19), some (.int 11), some (.int 0), some (.int 2)]) rfl rfl (by decide) dX1_goRest_31 ?_
  refine G_iinc (pc := 32) (v := 1) (w := 3) (L1 := [some (.ref 19), some (.int 11), some (.int 0), some (.int 3)]) (by decide) rfl rfl (by decide) rfl (by decide) dX1_goRest_32 ?_
  refine G_goto (pc := 35) (tgt := 4) (by decide) dX1_goRest_35 ?_
  refine G_iload_n (pc := 4) rfl dX1_goRest_4 ?_
  refine G_iload_n (pc := 5) rfl dX1_goRest_5 ?_
  refine G_icmp_ge (pc := 6) (tgt := 38) (by decide) dX1_goRest_6 (fun z => absurd z (by decide)) (fun _ => ?_)
  refine G_aload_n (pc := 9) rfl dX1_goRest_9 ?_
  refine G_callV (pc := 10) (mc1 := 0) (ms1 := 0) (ci := 1) (mj := mX1_isOver) (vs := []) dX1_goRest_10 rfl rfl cm_X1_isOver wf_172 wf_17 wf_18 rfl (Nat.le_of_ble_eq_true rfl) (Nat.le_of_ble_eq_true rfl) (Nat.le_of_ble_eq_true rfl) (Nat.le_of_ble_eq_true rfl) (s361_X1_isOver  (d + 1)  ) ?_
  rintro _ _ ⟨rfl, rfl⟩
  dsimp only [Option.toList, List.cons_append, List.nil_append]
  refine G_if_ne (pc := 13) (tgt := 38) (by decide) dX1_goRest_13 (fun z => absurd (by decide) z) (fun _ => ?_)
  refine G_iload_n (pc := 16) rfl dX1_goRest_16 ?_
  refine G_aload_n (pc := 17) rfl dX1_goRest_17 ?_
  refine G_aload_n (pc := 18) rfl dX1_goRest_18 ?_
  refine G_callV (pc := 19) (mc1 := 0) (ms1 := 0) (ci := 1) (mj := mX1_restAct) (vs := []) dX1_goRest_19 rfl rfl cm_X1_restAct wf_173 wf_66 wf_67 rfl (Nat.le_of_ble_eq_true rfl) (Nat.le_of_ble_eq_true rfl) (Nat.le_of_ble_eq_true rfl) (Nat.le_of_ble_eq_true rfl) (s362_X1_restAct  (d + 1)  ) ?_
  rintro _ _ ⟨rfl, rfl⟩
  dsimp only [Option.toList, List.cons_append, List.nil_append]
  refine G_callV (pc := 22) (mc1 := 0) (ms1 := 0) (ci := 1) (mj := mX1_tell) (vs := [_]) dX1_goRest_22 rfl rfl cm_X1_tell wf_69 wf_71 wf_72 rfl (Nat.le_of_ble_eq_true rfl) (Nat.le_of_ble_eq_true rfl) (Nat.le_of_ble_eq_true rfl) (Nat.le_of_ble_eq_true rfl) (s363_X1_tell  d  ) ?_
  rintro _ _ ⟨rfl, rfl⟩
  dsimp only [Option.toList, List.cons_append, List.nil_append]
  refine G_aload_n (pc := 25) rfl dX1_goRest_25 ?_
  refine G_callV (pc := 26) (mc1 := 0) (ms1 := 0) (ci := 1) (mj := mX1_melt) (vs := []) dX1_goRest_26 rfl rfl cm_X1_melt wf_73 wf_75 wf_76 rfl (Nat.le_of_ble_eq_true rfl) (Nat.le_of_ble_eq_true rfl) (Nat.le_of_ble_eq_true rfl) (Nat.le_of_ble_eq_true rfl) (s365_X1_melt  (d + 1)  ) ?_
  rintro _ _ ⟨rfl, rfl⟩
  dsimp only [Option.toList, List.cons_append, List.nil_append]
  refine G_iadd (pc := 29) (z := 0) (by decide) dX1_goRest_29 ?_
  refine G_iadd (pc := 30) (z := 0) (by decide) dX1_goRest_30 ?_
  refine G_istore_n (pc := 31) (L1 := [some (.ref 19), some (.int 11), some (.int 0), some (.int 3)]) rfl rfl (by decide) dX1_goRest_31 ?_
  refine G_iinc (pc := 32) (v := 1) (w := 4) (L1 := [some (.ref 19), some (.int 11), some (.int 0), some (.int 4)]) (by decide) rfl rfl (by decide) rfl (by decide) dX1_goRest_32 ?_
  refine G_goto (pc := 35) (tgt := 4) (by decide) dX1_goRest_35 ?_
  refine G_iload_n (pc := 4) rfl dX1_goRest_4 ?_
  refine G_iload_n (pc := 5) rfl dX1_goRest_5 ?_
  refine G_icmp_ge (pc := 6) (tgt := 38) (by decide) dX1_goRest_6 (fun z => absurd z (by decide)) (fun _ => ?_)
  refine G_aload_n (pc := 9) rfl dX1_goRest_9 ?_
  refine G_callV (pc := 10) (mc1 := 0) (ms1 := 0) (ci := 1) (mj := mX1_isOver) (vs := []) dX1_goRest_10 rfl rfl cm_X1_isOver wf_172 wf_17 wf_18 rfl (Nat.le_of_ble_eq_true rfl) (Nat.le_of_ble_eq_true rfl) (Nat.le_of_ble_eq_true rfl) (Nat.le_of_ble_eq_true rfl) (s366_X1_isOver  (d + 1)  ) ?_
  rintro _ _ ⟨rfl, rfl⟩
  dsimp only [Option.toList, List.cons_append, List.nil_append]
  refine G_if_ne (pc := 13) (tgt := 38) (by decide) dX1_goRest_13 (fun z => absurd (by decide) z) (fun _ => ?_)
  refine G_iload_n (pc := 16) rfl dX1_goRest_16 ?_
  refine G_aload_n (pc := 17) rfl dX1_goRest_17 ?_
  refine G_aload_n (pc := 18) rfl dX1_goRest_18 ?_
  refine G_callV (pc := 19) (mc1 := 0) (ms1 := 0) (ci := 1) (mj := mX1_restAct) (vs := []) dX1_goRest_19 rfl rfl cm_X1_restAct wf_173 wf_66 wf_67 rfl (Nat.le_of_ble_eq_true rfl) (Nat.le_of_ble_eq_true rfl) (Nat.le_of_ble_eq_true rfl) (Nat.le_of_ble_eq_true rfl) (s367_X1_restAct  (d + 1)  ) ?_
  rintro _ _ ⟨rfl, rfl⟩
  dsimp only [Option.toList, List.cons_append, List.nil_append]
  refine G_callV (pc := 22) (mc1 := 0) (ms1 := 0) (ci := 1) (mj := mX1_tell) (vs := [_]) dX1_goRest_22 rfl rfl cm_X1_tell wf_69 wf_71 wf_72 rfl (Nat.le_of_ble_eq_true rfl) (Nat.le_of_ble_eq_true rfl) (Nat.le_of_ble_eq_true rfl) (Nat.le_of_ble_eq_true rfl) (s368_X1_tell  d  ) ?_
  rintro _ _ ⟨rfl, rfl⟩
  dsimp only [Option.toList, List.cons_append, List.nil_append]
  refine G_aload_n (pc := 25) rfl dX1_goRest_25 ?_
  refine G_callV (pc := 26) (mc1 := 0) (ms1 := 0) (ci := 1) (mj := mX1_melt) (vs := []) dX1_goRest_26 rfl rfl cm_X1_melt wf_73 wf_75 wf_76 rfl (Nat.le_of_ble_eq_true rfl) (Nat.le_of_ble_eq_true rfl) (Nat.le_of_ble_eq_true rfl) (Nat.le_of_ble_eq_true rfl) (s370_X1_melt  (d + 1)  ) ?_
  rintro _ _ ⟨rfl, rfl⟩
  dsimp only [Option.toList, List.cons_append, List.nil_append]
  refine G_iadd (pc := 29) (z := 0) (by decide) dX1_goRest_29 ?_
  refine G_iadd (pc := 30) (z := 0) (by decide) dX1_goRest_30 ?_
  refine G_istore_n (pc := 31) (L1 := [some (.ref 19), some (.int 11), some (.int 0), some (.int 4)]) rfl rfl (by decide) dX1_goRest_31 ?_
  refine G_iinc (pc := 32) (v := 1) (w := 5) (L1 := [some (.ref 19), some (.int 11), some (.int 0), some (.int 5)]) (by decide) rfl rfl (by decide) rfl (by decide) dX1_goRest_32 ?_
  refine G_goto (pc := 35) (tgt := 4) (by decide) dX1_goRest_35 ?_
  refine G_iload_n (pc := 4) rfl dX1_goRest_4 ?_
  refine G_iload_n (pc := 5) rfl dX1_goRest_5 ?_
  refine G_icmp_ge (pc := 6) (tgt := 38) (by decide) dX1_goRest_6 (fun z => absurd z (by decide)) (fun _ => ?_)
  refine G_aload_n (pc := 9) rfl dX1_goRest_9 ?_
  refine G_callV (pc := 10) (mc1 := 0) (ms1 := 0) (ci := 1) (mj := mX1_isOver) (vs := []) dX1_goRest_10 rfl rfl cm_X1_isOver wf_172 wf_17 wf_18 rfl (Nat.le_of_ble_eq_true rfl) (Nat.le_of_ble_eq_true rfl) (Nat.le_of_ble_eq_true rfl) (Nat.le_of_ble_eq_true rfl) (s371_X1_isOver  (d + 1)  ) ?_
  rintro _ _ ⟨rfl, rfl⟩
  dsimp only [Option.toList, List.cons_append, List.nil_append]
  refine G_if_ne (pc := 13) (tgt := 38) (by decide) dX1_goRest_13 (fun z => absurd (by decide) z) (fun _ => ?_)
  refine G_iload_n (pc := 16) rfl dX1_goRest_16 ?_
  refine G_aload_n (pc := 17) rfl dX1_goRest_17 ?_
  refine G_aload_n (pc := 18) rfl dX1_goRest_18 ?_
  refine G_callV (pc := 19) (mc1 := 0) (ms1 := 0) (ci := 1) (mj := mX1_restAct) (vs := []) dX1_goRest_19 rfl rfl cm_X1_restAct wf_173 wf_66 wf_67 rfl (Nat.le_of_ble_eq_true rfl) (Nat.le_of_ble_eq_true rfl) (Nat.le_of_ble_eq_true rfl) (Nat.le_of_ble_eq_true rfl) (s372_X1_restAct  (d + 1)  ) ?_
  rintro _ _ ⟨rfl, rfl⟩
  dsimp only [Option.toList, List.cons_append, List.nil_append]
  refine G_callV (pc := 22) (mc1 := 0) (ms1 := 0) (ci := 1) (mj := mX1_tell) (vs := [_]) dX1_goRest_22 rfl rfl cm_X1_tell wf_69 wf_71 wf_72 rfl (Nat.le_of_ble_eq_true rfl) (Nat.le_of_ble_eq_true rfl) (Nat.le_of_ble_eq_true rfl) (Nat.le_of_ble_eq_true rfl) (s373_X1_tell  d  ) ?_
  rintro _ _ ⟨rfl, rfl⟩
  dsimp only [Option.toList, List.cons_append, List.nil_append]
  refine G_aload_n (pc := 25) rfl dX1_goRest_25 ?_
  refine G_callV (pc := 26) (mc1 := 0) (ms1 := 0) (ci := 1) (mj := mX1_melt) (vs := []) dX1_goRest_26 rfl rfl cm_X1_melt wf_73 wf_75 wf_76 rfl (Nat.le_of_ble_eq_true rfl) (Nat.le_of_ble_eq_true rfl) (Nat.le_of_ble_eq_true rfl) (Nat.le_of_ble_eq_true rfl) (s375_X1_melt  (d + 1)  ) ?_
  rintro _ _ ⟨rfl, rfl⟩
  dsimp only [Option.toList, List.cons_append, List.nil_append]
  refine G_iadd (pc := 29) (z := 0) (by decide) dX1_goRest_29 ?_
  refine G_iadd (pc := 30) (z := 0) (by decide) dX1_goRest_30 ?_
  refine G_istore_n (pc := 31) (L1 := [some (.ref 19), some (.int 11), some (.int 0), some (.int 5)]) rfl rfl (by decide) dX1_goRest_31 ?_
  refine G_iinc (pc := 32) (v := 1) (w := 6) (L1 := [some (.ref 19), some (.int 11), some (.int 0), some (.int 6)]) (by decide) rfl rfl (by decide) rfl (by decide) dX1_goRest_32 ?_
  refine G_goto (pc := 35) (tgt := 4) (by decide) dX1_goRest_35 ?_
  refine G_iload_n (pc := 4) rfl dX1_goRest_4 ?_
  refine G_iload_n (pc := 5) rfl dX1_goRest_5 ?_
  refine G_icmp_ge (pc := 6) (tgt := 38) (by decide) dX1_goRest_6 (fun z => absurd z (by decide)) (fun _ => ?_)
  refine G_aload_n (pc := 9) rfl dX1_goRest_9 ?_
  refine G_callV (pc := 10) (mc1 := 0) (ms1 := 0) (ci := 1) (mj := mX1_isOver) (vs := []) dX1_goRest_10 rfl rfl cm_X1_isOver wf_172 wf_17 wf_18 rfl (Nat.le_of_ble_eq_true rfl) (Nat.le_of_ble_eq_true rfl) (Nat.le_of_ble_eq_true rfl) (Nat.le_of_ble_eq_true rfl) (s376_X1_isOver  (d + 1)  ) ?_
  rintro _ _ ⟨rfl, rfl⟩
  dsimp only [Option.toList, List.cons_append, List.nil_append]
  refine G_if_ne (pc := 13) (tgt := 38) (by decide) dX1_goRest_13 (fun z => absurd (by decide) z) (fun _ => ?_)
  refine G_iload_n (pc := 16) rfl dX1_goRest_16 ?_
  refine G_aload_n (pc := 17) rfl dX1_goRest_17 ?_
  refine G_aload_n (pc := 18) rfl dX1_goRest_18 ?_
  refine G_callV (pc := 19) (mc1 := 0) (ms1 := 0) (ci := 1) (mj := mX1_restAct) (vs := []) dX1_goRest_19 rfl rfl cm_X1_restAct wf_173 wf_66 wf_67 rfl (Nat.le_of_ble_eq_true rfl) (Nat.le_of_ble_eq_true rfl) (Nat.le_of_ble_eq_true rfl) (Nat.le_of_ble_eq_true rfl) (s377_X1_restAct  (d + 1)  ) ?_
  rintro _ _ ⟨rfl, rfl⟩
  dsimp only [Option.toList, List.cons_append, List.nil_append]
  refine G_callV (pc := 22) (mc1 := 0) (ms1 := 0) (ci := 1) (mj := mX1_tell) (vs := [_]) dX1_goRest_22 rfl rfl cm_X1_tell wf_69 wf_71 wf_72 rfl (Nat.le_of_ble_eq_true rfl) (Nat.le_of_ble_eq_true rfl) (Nat.le_of_ble_eq_true rfl) (Nat.le_of_ble_eq_true rfl) (s378_X1_tell  d  ) ?_
  rintro _ _ ⟨rfl, rfl⟩
  dsimp only [Option.toList, List.cons_append, List.nil_append]
  refine G_aload_n (pc := 25) rfl dX1_goRest_25 ?_
  refine G_callV (pc := 26) (mc1 := 0) (ms1 := 0) (ci := 1) (mj := mX1_melt) (vs := []) dX1_goRest_26 rfl rfl cm_X1_melt wf_73 wf_75 wf_76 rfl (Nat.le_of_ble_eq_true rfl) (Nat.le_of_ble_eq_true rfl) (Nat.le_of_ble_eq_true rfl) (Nat.le_of_ble_eq_true rfl) (s380_X1_melt  (d + 1)  ) ?_
  rintro _ _ ⟨rfl, rfl⟩
  dsimp only [Option.toList, List.cons_append, List.nil_append]
  refine G_iadd (pc := 29) (z := 0) (by decide) dX1_goRest_29 ?_
  refine G_iadd (pc := 30) (z := 0) (by decide) dX1_goRest_30 ?_
  refine G_istore_n (pc := 31) (L1 := [some (.ref 19), some (.int 11), some (.int 0), some (.int 6)]) rfl rfl (by decide) dX1_goRest_31 ?_
  refine G_iinc (pc := 32) (v := 1) (w := 7) (L1 := [some (.ref 19), some (.int 11), some (.int 0), some (.int 7)]) (by decide) rfl rfl (by decide) rfl (by decide) dX1_goRest_32 ?_
  refine G_goto (pc := 35) (tgt := 4) (by decide) dX1_goRest_35 ?_
  refine G_iload_n (pc := 4) rfl dX1_goRest_4 ?_
  refine G_iload_n (pc := 5) rfl dX1_goRest_5 ?_
  refine G_icmp_ge (pc := 6) (tgt := 38) (by decide) dX1_goRest_6 (fun z => absurd z (by decide)) (fun _ => ?_)
  refine G_aload_n (pc := 9) rfl dX1_goRest_9 ?_
  refine G_callV (pc := 10) (mc1 := 0) (ms1 := 0) (ci := 1) (mj := mX1_isOver) (vs := []) dX1_goRest_10 rfl rfl cm_X1_isOver wf_172 wf_17 wf_18 rfl (Nat.le_of_ble_eq_true rfl) (Nat.le_of_ble_eq_true rfl) (Nat.le_of_ble_eq_true rfl) (Nat.le_of_ble_eq_true rfl) (s381_X1_isOver  (d + 1)  ) ?_
  rintro _ _ ⟨rfl, rfl⟩
  dsimp only [Option.toList, List.cons_append, List.nil_append]
  refine G_if_ne (pc := 13) (tgt := 38) (by decide) dX1_goRest_13 (fun z => absurd (by decide) z) (fun _ => ?_)
  refine G_iload_n (pc := 16) rfl dX1_goRest_16 ?_
  refine G_aload_n (pc := 17) rfl dX1_goRest_17 ?_
  refine G_aload_n (pc := 18) rfl dX1_goRest_18 ?_
  refine G_callV (pc := 19) (mc1 := 0) (ms1 := 0) (ci := 1) (mj := mX1_restAct) (vs := []) dX1_goRest_19 rfl rfl cm_X1_restAct wf_173 wf_66 wf_67 rfl (Nat.le_of_ble_eq_true rfl) (Nat.le_of_ble_eq_true rfl) (Nat.le_of_ble_eq_true rfl) (Nat.le_of_ble_eq_true rfl) (s382_X1_restAct  (d + 1)  ) ?_
  rintro _ _ ⟨rfl, rfl⟩
  dsimp only [Option.toList, List.cons_append, List.nil_append]
  refine G_callV (pc := 22) (mc1 := 0) (ms1 := 0) (ci := 1) (mj := mX1_tell) (vs := [_]) dX1_goRest_22 rfl rfl cm_X1_tell wf_69 wf_71 wf_72 rfl (Nat.le_of_ble_eq_true rfl) (Nat.le_of_ble_eq_true rfl) (Nat.le_of_ble_eq_true rfl) (Nat.le_of_ble_eq_true rfl) (s383_X1_tell  d  ) ?_
  rintro _ _ ⟨rfl, rfl⟩
  dsimp only [Option.toList, List.cons_append, List.nil_append]
  refine G_aload_n (pc := 25) rfl dX1_goRest_25 ?_
  refine G_callV (pc := 26) (mc1 := 0) (ms1 := 0) (ci := 1) (mj := mX1_melt) (vs := []) dX1_goRest_26 rfl rfl cm_X1_melt wf_73 wf_75 wf_76 rfl (Nat.le_of_ble_eq_true rfl) (Nat.le_of_ble_eq_true rfl) (Nat.le_of_ble_eq_true rfl) (Nat.le_of_ble_eq_true rfl) (s385_X1_melt  (d + 1)  ) ?_
  rintro _ _ ⟨rfl, rfl⟩
  dsimp only [Option.toList, List.cons_append, List.nil_append]
  refine G_iadd (pc := 29) (z := 0) (by decide) dX1_goRest_29 ?_
  refine G_iadd (pc := 30) (z := 0) (by decide) dX1_goRest_30 ?_
  refine G_istore_n (pc := 31) (L1 := [some (.ref 19), some (.int 11), some (.int 0), some (.int 7)]) rfl rfl (by decide) dX1_goRest_31 ?_
  refine G_iinc (pc := 32) (v := 1) (w := 8) (L1 := [some (.ref 19), some (.int 11), some (.int 0), some (.int 8)]) (by decide) rfl rfl (by decide) rfl (by decide) dX1_goRest_32 ?_
  refine G_goto (pc := 35) (tgt := 4) (by decide) dX1_goRest_35 ?_
  refine G_iload_n (pc := 4) rfl dX1_goRest_4 ?_
  refine G_iload_n (pc := 5) rfl dX1_goRest_5 ?_
  refine G_icmp_ge (pc := 6) (tgt := 38) (by decide) dX1_goRest_6 (fun z => absurd z (by decide)) (fun _ => ?_)
  refine G_aload_n (pc := 9) rfl dX1_goRest_9 ?_
  refine G_callV (pc := 10) (mc1 := 0) (ms1 := 0) (ci := 1) (mj := mX1_isOver) (vs := []) dX1_goRest_10 rfl rfl cm_X1_isOver wf_172 wf_17 wf_18 rfl (Nat.le_of_ble_eq_true rfl) (Nat.le_of_ble_eq_true rfl) (Nat.le_of_ble_eq_true rfl) (Nat.le_of_ble_eq_true rfl) (s386_X1_isOver  (d + 1)  ) ?_
  rintro _ _ ⟨rfl, rfl⟩
  dsimp only [Option.toList, List.cons_append, List.nil_append]
  refine G_if_ne (pc := 13) (tgt := 38) (by decide) dX1_goRest_13 (fun z => absurd (by decide) z) (fun _ => ?_)
  refine G_iload_n (pc := 16) rfl dX1_goRest_16 ?_
  refine G_aload_n (pc := 17) rfl dX1_goRest_17 ?_
  refine G_aload_n (pc := 18) rfl dX1_goRest_18 ?_
  refine G_callV (pc := 19) (mc1 := 0) (ms1 := 0) (ci := 1) (mj := mX1_restAct) (vs := []) dX1_goRest_19 rfl rfl cm_X1_restAct wf_173 wf_66 wf_67 rfl (Nat.le_of_ble_eq_true rfl) (Nat.le_of_ble_eq_true rfl) (Nat.le_of_ble_eq_true rfl) (Nat.le_of_ble_eq_true rfl) (s387_X1_restAct  (d + 1)  ) ?_
  rintro _ _ ⟨rfl, rfl⟩
  dsimp only [Option.toList, List.cons_append, List.nil_append]
  refine G_callV (pc := 22) (mc1 := 0) (ms1 := 0) (ci := 1) (mj := mX1_tell) (vs := [_]) dX1_goRest_22 rfl rfl cm_X1_tell wf_69 wf_71 wf_72 rfl (Nat.le_of_ble_eq_true rfl) (Nat.le_of_ble_eq_true rfl) (Nat.le_of_ble_eq_true rfl) (Nat.le_of_ble_eq_true rfl) (s388_X1_tell  d  ) ?_
  rintro _ _ ⟨rfl, rfl⟩
  dsimp only [Option.toList, List.cons_append, List.nil_append]
  refine G_aload_n (pc := 25) rfl dX1_goRest_25 ?_
  refine G_callV (pc := 26) (mc1 := 0) (ms1 := 0) (ci := 1) (mj := mX1_melt) (vs := []) dX1_goRest_26 rfl rfl cm_X1_melt wf_73 wf_75 wf_76 rfl (Nat.le_of_ble_eq_true rfl) (Nat.le_of_ble_eq_true rfl) (Nat.le_of_ble_eq_true rfl) (Nat.le_of_ble_eq_true rfl) (s390_X1_melt  (d + 1)  ) ?_
  rintro _ _ ⟨rfl, rfl⟩
  dsimp only [Option.toList, List.cons_append, List.nil_append]
  refine G_iadd (pc := 29) (z := 0) (by decide) dX1_goRest_29 ?_
  refine G_iadd (pc := 30) (z := 0) (by decide) dX1_goRest_30 ?_
  refine G_istore_n (pc := 31) (L1 := [some (.ref 19), some (.int 11), some (.int 0), some (.int 8)]) rfl rfl (by decide) dX1_goRest_31 ?_
  refine G_iinc (pc := 32) (v := 1) (w := 9) (L1 := [some (.ref 19), some (.int 11), some (.int 0), some (.int 9)]) (by decide) rfl rfl (by decide) rfl (by decide) dX1_goRest_32 ?_
  refine G_goto (pc := 35) (tgt := 4) (by decide) dX1_goRest_35 ?_
  refine G_iload_n (pc := 4) rfl dX1_goRest_4 ?_
  refine G_iload_n (pc := 5) rfl dX1_goRest_5 ?_
  refine G_icmp_ge (pc := 6) (tgt := 38) (by decide) dX1_goRest_6 (fun z => absurd z (by decide)) (fun _ => ?_)
  refine G_aload_n (pc := 9) rfl dX1_goRest_9 ?_
  refine G_callV (pc := 10) (mc1 := 0) (ms1 := 0) (ci := 1) (mj := mX1_isOver) (vs := []) dX1_goRest_10 rfl rfl cm_X1_isOver wf_172 wf_17 wf_18 rfl (Nat.le_of_ble_eq_true rfl) (Nat.le_of_ble_eq_true rfl) (Nat.le_of_ble_eq_true rfl) (Nat.le_of_ble_eq_true rfl) (s391_X1_isOver  (d + 1)  ) ?_
  rintro _ _ ⟨rfl, rfl⟩
  dsimp only [Option.toList, List.cons_append, List.nil_append]
  refine G_if_ne (pc := 13) (tgt := 38) (by decide) dX1_goRest_13 (fun z => absurd (by decide) z) (fun _ => ?_)
  refine G_iload_n (pc := 16) rfl dX1_goRest_16 ?_
  refine G_aload_n (pc := 17) rfl dX1_goRest_17 ?_
  refine G_aload_n (pc := 18) rfl dX1_goRest_18 ?_
  refine G_callV (pc := 19) (mc1 := 0) (ms1 := 0) (ci := 1) (mj := mX1_restAct) (vs := []) dX1_goRest_19 rfl rfl cm_X1_restAct wf_173 wf_66 wf_67 rfl (Nat.le_of_ble_eq_true rfl) (Nat.le_of_ble_eq_true rfl) (Nat.le_of_ble_eq_true rfl) (Nat.le_of_ble_eq_true rfl) (s392_X1_restAct  (d + 1)  ) ?_
  rintro _ _ ⟨rfl, rfl⟩
  dsimp only [Option.toList, List.cons_append, List.nil_append]
  refine G_callV (pc := 22) (mc1 := 0) (ms1 := 0) (ci := 1) (mj := mX1_tell) (vs := [_]) dX1_goRest_22 rfl rfl cm_X1_tell wf_69 wf_71 wf_72 rfl (Nat.le_of_ble_eq_true rfl) (Nat.le_of_ble_eq_true rfl) (Nat.le_of_ble_eq_true rfl) (Nat.le_of_ble_eq_true rfl) (s393_X1_tell  d  ) ?_
  rintro _ _ ⟨rfl, rfl⟩
  dsimp only [Option.toList, List.cons_append, List.nil_append]
  refine G_aload_n (pc := 25) rfl dX1_goRest_25 ?_
  refine G_callV (pc := 26) (mc1 := 0) (ms1 := 0) (ci := 1) (mj := mX1_melt) (vs := []) dX1_goRest_26 rfl rfl cm_X1_melt wf_73 wf_75 wf_76 rfl (Nat.le_of_ble_eq_true rfl) (Nat.le_of_ble_eq_true rfl) (Nat.le_of_ble_eq_true rfl) (Nat.le_of_ble_eq_true rfl) (s395_X1_melt  (d + 1)  ) ?_
  rintro _ _ ⟨rfl, rfl⟩
  dsimp only [Option.toList, List.cons_append, List.nil_append]
  refine G_iadd (pc := 29) (z := 0) (by decide) dX1_goRest_29 ?_
  refine G_iadd (pc := 30) (z := 0) (by decide) dX1_goRest_30 ?_
  refine G_istore_n (pc := 31) (L1 := [some (.ref 19), some (.int 11), some (.int 0), some (.int 9)]) rfl rfl (by decide) dX1_goRest_31 ?_
  refine G_iinc (pc := 32) (v := 1) (w := 10) (L1 := [some (.ref 19), some (.int 11), some (.int 0), some (.int 10)]) (by decide) rfl rfl (by decide) rfl (by decide) dX1_goRest_32 ?_
  refine G_goto (pc := 35) (tgt := 4) (by decide) dX1_goRest_35 ?_
  refine G_iload_n (pc := 4) rfl dX1_goRest_4 ?_
  refine G_iload_n (pc := 5) rfl dX1_goRest_5 ?_
  refine G_icmp_ge (pc := 6) (tgt := 38) (by decide) dX1_goRest_6 (fun z => absurd z (by decide)) (fun _ => ?_)
  refine G_aload_n (pc := 9) rfl dX1_goRest_9 ?_
  refine G_callV (pc := 10) (mc1 := 0) (ms1 := 0) (ci := 1) (mj := mX1_isOver) (vs := []) dX1_goRest_10 rfl rfl cm_X1_isOver wf_172 wf_17 wf_18 rfl (Nat.le_of_ble_eq_true rfl) (Nat.le_of_ble_eq_true rfl) (Nat.le_of_ble_eq_true rfl) (Nat.le_of_ble_eq_true rfl) (s396_X1_isOver  (d + 1)  ) ?_
  rintro _ _ ⟨rfl, rfl⟩
  dsimp only [Option.toList, List.cons_append, List.nil_append]
  refine G_if_ne (pc := 13) (tgt := 38) (by decide) dX1_goRest_13 (fun z => absurd (by decide) z) (fun _ => ?_)
  refine G_iload_n (pc := 16) rfl dX1_goRest_16 ?_
  refine G_aload_n (pc := 17) rfl dX1_goRest_17 ?_
  refine G_aload_n (pc := 18) rfl dX1_goRest_18 ?_
  refine G_callV (pc := 19) (mc1 := 0) (ms1 := 0) (ci := 1) (mj := mX1_restAct) (vs := []) dX1_goRest_19 rfl rfl cm_X1_restAct wf_173 wf_66 wf_67 rfl (Nat.le_of_ble_eq_true rfl) (Nat.le_of_ble_eq_true rfl) (Nat.le_of_ble_eq_true rfl) (Nat.le_of_ble_eq_true rfl) (s397_X1_restAct  (d + 1)  ) ?_
  rintro _ _ ⟨rfl, rfl⟩
  dsimp only [Option.toList, List.cons_append, List.nil_append]
  refine G_callV (pc := 22) (mc1 := 0) (ms1 := 0) (ci := 1) (mj := mX1_tell) (vs := [_]) dX1_goRest_22 rfl rfl cm_X1_tell wf_69 wf_71 wf_72 rfl (Nat.le_of_ble_eq_true rfl) (Nat.le_of_ble_eq_true rfl) (Nat.le_of_ble_eq_true rfl) (Nat.le_of_ble_eq_true rfl) (s398_X1_tell  d  ) ?_
  rintro _ _ ⟨rfl, rfl⟩
  dsimp only [Option.toList, List.cons_append, List.nil_append]
  refine G_aload_n (pc := 25) rfl dX1_goRest_25 ?_
  refine G_callV (pc := 26) (mc1 := 0) (ms1 := 0) (ci := 1) (mj := mX1_melt) (vs := []) dX1_goRest_26 rfl rfl cm_X1_melt wf_73 wf_75 wf_76 rfl (Nat.le_of_ble_eq_true rfl) (Nat.le_of_ble_eq_true rfl) (Nat.le_of_ble_eq_true rfl) (Nat.le_of_ble_eq_true rfl) (s400_X1_melt  (d + 1)  ) ?_
  rintro _ _ ⟨rfl, rfl⟩
  dsimp only [Option.toList, List.cons_append, List.nil_append]
  refine G_iadd (pc := 29) (z := 0) (by decide) dX1_goRest_29 ?_
  refine G_iadd (pc := 30) (z := 0) (by decide) dX1_goRest_30 ?_
  refine G_istore_n (pc := 31) (L1 := [some (.ref 19), some (.int 11), some (.int 0), some (.int 10)]) rfl rfl (by decide) dX1_goRest_31 ?_
  refine G_iinc (pc := 32) (v := 1) (w := 11) (L1 := [some (.ref 19), some (.int 11), some (.int 0), some (.int 11)]) (by decide) rfl rfl (by decide) rfl (by decide) dX1_goRest_32 ?_
  refine G_goto (pc := 35) (tgt := 4) (by decide) dX1_goRest_35 ?_
  refine G_iload_n (pc := 4) rfl dX1_goRest_4 ?_
  refine G_iload_n (pc := 5) rfl dX1_goRest_5 ?_
  refine G_icmp_ge (pc := 6) (tgt := 38) (by decide) dX1_goRest_6 (fun _ => ?_) (fun z => absurd (by decide) z)
  refine G_iload_n (pc := 38) rfl dX1_goRest_38 ?_
  exact G_iret (pc := 39) (Nat.le_of_ble_eq_true rfl) (Nat.le_of_ble_eq_true rfl) rfl dX1_goRest_39 ⟨rfl, rfl⟩
