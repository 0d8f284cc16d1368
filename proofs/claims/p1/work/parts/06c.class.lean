set_option maxRecDepth 100000 in
set_option maxHeartbeats 4000000 in
theorem s195_X4_reach  (d : Nat)   : G (d + 1) mX4_reach 0 0 0 0 0 (gent 6 [.ref 51, .int 0, .int 0]) [] SH0 RF0 I0 (fun r h => r = some (.int 0) ∧ h = (SH0, RF0, I0)) := by
  refine G_aload_n (pc := 0) rfl dX4_reach_0 ?_
  refine G_getR (pc := 1) (r := 19) (ci := 4) (j := 0) rfl lk_RX4_21 rfl rfl rfl dX4_reach_1 ?_
  refine G_getI (pc := 4) (v := 0) (ci := 1) (j := 9) rfl rfl lk_RX4_62 rfl rfl dX4_reach_4 ?_
  refine G_istore_n (pc := 7) (L1 := [some (.ref 51), some (.int 0), some (.int 0), some (.int 0), none, none]) rfl rfl (by decide) dX4_reach_7 ?_
  refine G_aload_n (pc := 8) rfl dX4_reach_8 ?_
  refine G_iload_n (pc := 9) rfl dX4_reach_9 ?_
  refine G_iload_n (pc := 10) rfl dX4_reach_10 ?_
  refine G_callV (pc := 11) (mc1 := 0) (ms1 := 0) (ci := 4) (mj := mX4_isLast) (vs := [_, _]) dX4_reach_11 rfl rfl cm_X4_isLast wf_126 wf_129 wf_130 rfl (Nat.le_of_ble_eq_true rfl) (Nat.le_of_ble_eq_true rfl) (Nat.le_of_ble_eq_true rfl) (Nat.le_of_ble_eq_true rfl) (s141_X4_isLast  d  ) ?_
  rintro _ _ ⟨rfl, rfl⟩
  dsimp only [Option.toList, List.cons_append, List.nil_append]
  refine G_if_eq (pc := 14) (tgt := 19) (by decide) dX4_reach_14 (fun z => absurd z (by decide)) (fun _ => ?_)
  refine G_iload_n (pc := 17) rfl dX4_reach_17 ?_
  exact G_iret (pc := 18) (Nat.le_of_ble_eq_true rfl) (Nat.le_of_ble_eq_true rfl) rfl dX4_reach_18 ⟨rfl, rfl⟩
set_option maxRecDepth 100000 in
set_option maxHeartbeats 4000000 in
theorem s197_J6_bitCount_0f7a4  (d : Nat)  (a0 : Int32) : G (d) mJ6_bitCount_0f7a4 0 0 0 0 0 (gent 1 [.int a0]) [] SH0 RF0 I0 (fun r h => r = some (.int ((((((((a0 - (((a0).toUInt32 >>> ((1 : Int32).toUInt32 &&& Int32.toUInt32 31)).toInt32 &&& 1431655765)) &&& 858993459) + ((((a0 - (((a0).toUInt32 >>> ((1 : Int32).toUInt32 &&& Int32.toUInt32 31)).toInt32 &&& 1431655765))).toUInt32 >>> ((2 : Int32).toUInt32 &&& Int32.toUInt32 31)).toInt32 &&& 858993459)) + (((((a0 - (((a0).toUInt32 >>> ((1 : Int32).toUInt32 &&& Int32.toUInt32 31)).toInt32 &&& 1431655765)) &&& 858993459) + ((((a0 - (((a0).toUInt32 >>> ((1 : Int32).toUInt32 &&& Int32.toUInt32 31)).toInt32 &&& 1431655765))).toUInt32 >>> ((2 : Int32).toUInt32 &&& Int32.toUInt32 31)).toInt32 &&& 858993459))).toUInt32 >>> ((4 : Int32).toUInt32 &&& Int32.toUInt32 31)).toInt32) &&& 252645135) + (((((((a0 - (((a0).toUInt32 >>> ((1 : Int32).toUInt32 &&& Int32.toUInt32 31)).toInt32 &&& 1431655765)) &&& 858993459) + ((((a0 - (((a0).toUInt32 >>> ((1 : Int32).toUInt32 &&& Int32.toUInt32 31)).toInt32 &&& 1431655765))).toUInt32 >>> ((2 : Int32).toUInt32 &&& Int32.toUInt32 31)).toInt32 &&& 858993459)) + (((((a0 - (((a0).toUInt32 >>> ((1 : Int32).toUInt32 &&& Int32.toUInt32 31)).toInt32 &&& 1431655765)) &&& 858993459) + ((((a0 - (((a0).toUInt32 >>> ((1 : Int32).toUInt32 &&& Int32.toUInt32 31)).toInt32 &&& 1431655765))).toUInt32 >>> ((2 : Int32).toUInt32 &&& Int32.toUInt32 31)).toInt32 &&& 858993459))).toUInt32 >>> ((4 : Int32).toUInt32 &&& Int32.toUInt32 31)).toInt32) &&& 252645135)).toUInt32 >>> ((8 : Int32).toUInt32 &&& Int32.toUInt32 31)).toInt32) + ((((((((a0 - (((a0).toUInt32 >>> ((1 : Int32).toUInt32 &&& Int32.toUInt32 31)).toInt32 &&& 1431655765)) &&& 858993459) + ((((a0 - (((a0).toUInt32 >>> ((1 : Int32).toUInt32 &&& Int32.toUInt32 31)).toInt32 &&& 1431655765))).toUInt32 >>> ((2 : Int32).toUInt32 &&& Int32.toUInt32 31)).toInt32 &&& 858993459)) + (((((a0 - (((a0).toUInt32 >>> ((1 : Int32).toUInt32 &&& Int32.toUInt32 31)).toInt32 &&& 1431655765)) &&& 858993459) + ((((a0 - (((a0).toUInt32 >>> ((1 : Int32).toUInt32 &&& Int32.toUInt32 31)).toInt32 &&& 1431655765))).toUInt32 >>> ((2 : Int32).toUInt32 &&& Int32.toUInt32 31)).toInt32 &&& 858993459))).toUInt32 >>> ((4 : Int32).toUInt32 &&& Int32.toUInt32 31)).toInt32) &&& 252645135) + (((((((a0 - (((a0).toUInt32 >>> ((1 : Int32).toUInt32 &&& Int32.toUInt32 31)).toInt32 &&& 1431655765)) &&& 858993459) + ((((a0 - (((a0).toUInt32 >>> ((1 : Int32).toUInt32 &&& Int32.toUInt32 31)).toInt32 &&& 1431655765))).toUInt32 >>> ((2 : Int32).toUInt32 &&& Int32.toUInt32 31)).toInt32 &&& 858993459)) + (((((a0 - (((a0).toUInt32 >>> ((1 : Int32).toUInt32 &&& Int32.toUInt32 31)).toInt32 &&& 1431655765)) &&& 858993459) + ((((a0 - (((a0).toUInt32 >>> ((1 : Int32).toUInt32 &&& Int32.toUInt32 31)).toInt32 &&& 1431655765))).toUInt32 >>> ((2 : Int32).toUInt32 &&& Int32.toUInt32 31)).toInt32 &&& 858993459))).toUInt32 >>> ((4 : Int32).toUInt32 &&& Int32.toUInt32 31)).toInt32) &&& 252645135)).toUInt32 >>> ((8 : Int32).toUInt32 &&& Int32.toUInt32 31)).toInt32)).toUInt32 >>> ((16 : Int32).toUInt32 &&& Int32.toUInt32 31)).toInt32) &&& 63)) ∧ h = (SH0, RF0, I0)) := by
  refine G_iload_n (pc := 0) rfl dJ6_bitCount_0f7a4_0 ?_
  refine G_iload_n (pc := 1) rfl dJ6_bitCount_0f7a4_1 ?_
  refine G_iconst (pc := 2) (v := 1) (by decide) dJ6_bitCount_0f7a4_2 ?_
  refine G_iushr (pc := 3) rfl dJ6_bitCount_0f7a4_3 ?_
  refine G_ldcw (pc := 4) (v := 1431655765) ck_RJ6_265 dJ6_bitCount_0f7a4_4 ?_
  refine G_iand (pc := 7) rfl dJ6_bitCount_0f7a4_7 ?_
  refine G_isub (pc := 8) rfl dJ6_bitCount_0f7a4_8 ?_
  refine G_istore_n (pc := 9) (L1 := [some (.int (a0 - (((a0).toUInt32 >>> ((1 : Int32).toUInt32 &&& Int32.toUInt32 31)).toInt32 &&& 1431655765)))]) rfl rfl (by decide) dJ6_bitCount_0f7a4_9 ?_
  refine G_iload_n (pc := 10) rfl dJ6_bitCount_0f7a4_10 ?_
  refine G_ldcw (pc := 11) (v := 858993459) ck_RJ6_266 dJ6_bitCount_0f7a4_11 ?_
  refine G_iand (pc := 14) rfl dJ6_bitCount_0f7a4_14 ?_
  refine G_iload_n (pc := 15) rfl dJ6_bitCount_0f7a4_15 ?_
  refine G_iconst (pc := 16) (v := 2) (by decide) dJ6_bitCount_0f7a4_16 ?_
  refine G_iushr (pc := 17) rfl dJ6_bitCount_0f7a4_17 ?_
  refine G_ldcw (pc := 18) (v := 858993459) ck_RJ6_266 dJ6_bitCount_0f7a4_18 ?_
  refine G_iand (pc := 21) rfl dJ6_bitCount_0f7a4_21 ?_
  refine G_iadd (pc := 22) rfl dJ6_bitCount_0f7a4_22 ?_
  refine G_istore_n (pc := 23) (L1 := [some (.int (((a0 - (((a0).toUInt32 >>> ((1 : Int32).toUInt32 &&& Int32.toUInt32 31)).toInt32 &&& 1431655765)) &&& 858993459) + ((((a0 - (((a0).toUInt32 >>> ((1 : Int32).toUInt32 &&& Int32.toUInt32 31)).toInt32 &&& 1431655765))).toUInt32 >>> ((2 : Int32).toUInt32 &&& Int32.toUInt32 31)).toInt32 &&& 858993459)))]) rfl rfl (by decide) dJ6_bitCount_0f7a4_23 ?_
  refine G_iload_n (pc := 24) rfl dJ6_bitCount_0f7a4_24 ?_
  refine G_iload_n (pc := 25) rfl dJ6_bitCount_0f7a4_25 ?_
  refine G_iconst (pc := 26) (v := 4) (by decide) dJ6_bitCount_0f7a4_26 ?_
  refine G_iushr (pc := 27) rfl dJ6_bitCount_0f7a4_27 ?_
  refine G_iadd (pc := 28) rfl dJ6_bitCount_0f7a4_28 ?_
  refine G_ldcw (pc := 29) (v := 252645135) ck_RJ6_267 dJ6_bitCount_0f7a4_29 ?_
  refine G_iand (pc := 32) rfl dJ6_bitCount_0f7a4_32 ?_
  refine G_istore_n (pc := 33) (L1 := [some (.int (((((a0 - (((a0).toUInt32 >>> ((1 : Int32).toUInt32 &&& Int32.toUInt32 31)).toInt32 &&& 1431655765)) &&& 858993459) + ((((a0 - (((a0).toUInt32 >>> ((1 : Int32).toUInt32 &&& Int32.toUInt32 31)).toInt32 &&& 1431655765))).toUInt32 >>> ((2 : Int32).toUInt32 &&& Int32.toUInt32 31)).toInt32 &&& 858993459)) + (((((a0 - (((a0).toUInt32 >>> ((1 : Int32).toUInt32 &&& Int32.toUInt32 31)).toInt32 &&& 1431655765)) &&& 858993459) + ((((a0 - (((a0).toUInt32 >>> ((1 : Int32).toUInt32 &&& Int32.toUInt32 31)).toInt32 &&& 1431655765))).toUInt32 >>> ((2 : Int32).toUInt32 &&& Int32.toUInt32 31)).toInt32 &&& 858993459))).toUInt32 >>> ((4 : Int32).toUInt32 &&& Int32.toUInt32 31)).toInt32) &&& 252645135))]) rfl rfl (by decide) dJ6_bitCount_0f7a4_33 ?_
  refine G_iload_n (pc := 34) rfl dJ6_bitCount_0f7a4_34 ?_
  refine G_iload_n (pc := 35) rfl dJ6_bitCount_0f7a4_35 ?_
  refine G_bipush (pc := 36) (v := 8) (by decide) dJ6_bitCount_0f7a4_36 ?_
  refine G_iushr (pc := 38) rfl dJ6_bitCount_0f7a4_38 ?_
  refine G_iadd (pc := 39) rfl dJ6_bitCount_0f7a4_39 ?_
  refine G_istore_n (pc := 40) (L1 := [some (.int ((((((a0 - (((a0).toUInt32 >>> ((1 : Int32).toUInt32 &&& Int32.toUInt32 31)).toInt32 &&& 1431655765)) &&& 858993459) + ((((a0 - (((a0).toUInt32 >>> ((1 : Int32).toUInt32 &&& Int32.toUInt32 31)).toInt32 &&& 1431655765))).toUInt32 >>> ((2 : Int32).toUInt32 &&& Int32.toUInt32 31)).toInt32 &&& 858993459)) + (((((a0 - (((a0).toUInt32 >>> ((1 : Int32).toUInt32 &&& Int32.toUInt32 31)).toInt32 &&& 1431655765)) &&& 858993459) + ((((a0 - (((a0).toUInt32 >>> ((1 : Int32).toUInt32 &&& Int32.toUInt32 31)).toInt32 &&& 1431655765))).toUInt32 >>> ((2 : Int32).toUInt32 &&& Int32.toUInt32 31)).toInt32 &&& 858993459))).toUInt32 >>> ((4 : Int32).toUInt32 &&& Int32.toUInt32 31)).toInt32) &&& 252645135) + (((((((a0 - (((a0).toUInt32 >>> ((1 : Int32).toUInt32 &&& Int32.toUInt32 31)).toInt32 &&& 1431655765)) &&& 858993459) + ((((a0 - (((a0).toUInt32 >>> ((1 : Int32).toUInt32 &&& Int32.toUInt32 31)).toInt32 &&& 1431655765))).toUInt32 >>> ((2 : Int32).toUInt32 &&& Int32.toUInt32 31)).toInt32 &&& 858993459)) + (((((a0 - (((a0).toUInt32 >>> ((1 : Int32).toUInt32 &&& Int32.toUInt32 31)).toInt32 &&& 1431655765)) &&& 858993459) + ((((a0 - (((a0).toUInt32 >>> ((1 : Int32).toUInt32 &&& Int32.toUInt32 31)).toInt32 &&& 1431655765))).toUInt32 >>> ((2 : Int32).toUInt32 &&& Int32.toUInt32 31)).toInt32 &&& 858993459))).toUInt32 >>> ((4 : Int32).toUInt32 &&& Int32.toUInt32 31)).toInt32) &&& 252645135)).toUInt32 >>> ((8 : Int32).toUInt32 &&& Int32.toUInt32 31)).toInt32))]) rfl rfl (by decide) dJ6_bitCount_0f7a4_40 ?_
  refine G_iload_n (pc := 41) rfl dJ6_bitCount_0f7a4_41 ?_
  refine G_iload_n (pc := 42) rfl dJ6_bitCount_0f7a4_42 ?_
  refine G_bipush (pc := 43) (v := 16) (by decide) dJ6_bitCount_0f7a4_43 ?_
  refine G_iushr (pc := 45) rfl dJ6_bitCount_0f7a4_45 ?_
  refine G_iadd (pc := 46) rfl dJ6_bitCount_0f7a4_46 ?_
  refine G_istore_n (pc := 47) (L1 := [some (.int (((((((a0 - (((a0).toUInt32 >>> ((1 : Int32).toUInt32 &&& Int32.toUInt32 31)).toInt32 &&& 1431655765)) &&& 858993459) + ((((a0 - (((a0).toUInt32 >>> ((1 : Int32).toUInt32 &&& Int32.toUInt32 31)).toInt32 &&& 1431655765))).toUInt32 >>> ((2 : Int32).toUInt32 &&& Int32.toUInt32 31)).toInt32 &&& 858993459)) + (((((a0 - (((a0).toUInt32 >>> ((1 : Int32).toUInt32 &&& Int32.toUInt32 31)).toInt32 &&& 1431655765)) &&& 858993459) + ((((a0 - (((a0).toUInt32 >>> ((1 : Int32).toUInt32 &&& Int32.toUInt32 31)).toInt32 &&& 1431655765))).toUInt32 >>> ((2 : Int32).toUInt32 &&& Int32.toUInt32 31)).toInt32 &&& 858993459))).toUInt32 >>> ((4 : Int32).toUInt32 &&& Int32.toUInt32 31)).toInt32) &&& 252645135) + (((((((a0 - (((a0).toUInt32 >>> ((1 : Int32).toUInt32 &&& Int32.toUInt32 31)).toInt32 &&& 1431655765)) &&& 858993459) + ((((a0 - (((a0).toUInt32 >>> ((1 : Int32).toUInt32 &&& Int32.toUInt32 31)).toInt32 &&& 1431655765))).toUInt32 >>> ((2 : Int32).toUInt32 &&& Int32.toUInt32 31)).toInt32 &&& 858993459)) + (((((a0 - (((a0).toUInt32 >>> ((1 : Int32).toUInt32 &&& Int32.toUInt32 31)).toInt32 &&& 1431655765)) &&& 858993459) + ((((a0 - (((a0).toUInt32 >>> ((1 : Int32).toUInt32 &&& Int32.toUInt32 31)).toInt32 &&& 1431655765))).toUInt32 >>> ((2 : Int32).toUInt32 &&& Int32.toUInt32 31)).toInt32 &&& 858993459))).toUInt32 >>> ((4 : Int32).toUInt32 &&& Int32.toUInt32 31)).toInt32) &&& 252645135)).toUInt32 >>> ((8 : Int32).toUInt32 &&& Int32.toUInt32 31)).toInt32) + ((((((((a0 - (((a0).toUInt32 >>> ((1 : Int32).toUInt32 &&& Int32.toUInt32 31)).toInt32 &&& 1431655765)) &&& 858993459) + ((((a0 - (((a0).toUInt32 >>> ((1 : Int32).toUInt32 &&& Int32.toUInt32 31)).toInt32 &&& 1431655765))).toUInt32 >>> ((2 : Int32).toUInt32 &&& Int32.toUInt32 31)).toInt32 &&& 858993459)) + (((((a0 - (((a0).toUInt32 >>> ((1 : Int32).toUInt32 &&& Int32.toUInt32 31)).toInt32 &&& 1431655765)) &&& 858993459) + ((((a0 - (((a0).toUInt32 >>> ((1 : Int32).toUInt32 &&& Int32.toUInt32 31)).toInt32 &&& 1431655765))).toUInt32 >>> ((2 : Int32).toUInt32 &&& Int32.toUInt32 31)).toInt32 &&& 858993459))).toUInt32 >>> ((4 : Int32).toUInt32 &&& Int32.toUInt32 31)).toInt32) &&& 252645135) + (((((((a0 - (((a0).toUInt32 >>> ((1 : Int32).toUInt32 &&& Int32.toUInt32 31)).toInt32 &&& 1431655765)) &&& 858993459) + ((((a0 - (((a0).toUInt32 >>> ((1 : Int32).toUInt32 &&& Int32.toUInt32 31)).toInt32 &&& 1431655765))).toUInt32 >>> ((2 : Int32).toUInt32 &&& Int32.toUInt32 31)).toInt32 &&& 858993459)) + (((((a0 - (((a0).toUInt32 >>> ((1 : Int32).toUInt32 &&& Int32.toUInt32 31)).toInt32 &&& 1431655765)) &&& 858993459) + ((((a0 - (((a0).toUInt32 >>> ((1 : Int32).toUInt32 &&& Int32.toUInt32 31)).toInt32 &&& 1431655765))).toUInt32 >>> ((2 : Int32).toUInt32 &&& Int32.toUInt32 31)).toInt32 &&& 858993459))).toUInt32 >>> ((4 : Int32).toUInt32 &&& Int32.toUInt32 31)).toInt32) &&& 252645135)).toUInt32 >>> ((8 : Int32).toUInt32 &&& Int32.toUInt32 31)).toInt32)).toUInt32 >>> ((16 : Int32).toUInt32 &&& Int32.toUInt32 31)).toInt32))]) rfl rfl (by decide) dJ6_bitCount_0f7a4_47 ?_
  refine G_iload_n (pc := 48) rfl dJ6_bitCount_0f7a4_48 ?_
  refine G_bipush (pc := 49) (v := 63) (by decide) dJ6_bitCount_0f7a4_49 ?_
  refine G_iand (pc := 51) rfl dJ6_bitCount_0f7a4_51 ?_
  exact G_iret (pc := 52) (Nat.le_of_ble_eq_true rfl) (Nat.le_of_ble_eq_true rfl) rfl dJ6_bitCount_0f7a4_52 ⟨rfl, rfl⟩
set_option maxRecDepth 100000 in
set_option maxHeartbeats 4000000 in
theorem s196_X11_leastOf  (d : Nat)  (a0 : Int32) : G (d + 1) mX11_leastOf 0 0 0 0 0 (gent 1 [.int a0]) [] SH0 RF0 I0 (fun r h => r = some (.int (((((((((((a0 &&& (-a0)) - 1)) - ((((((a0 &&& (-a0)) - 1))).toUInt32 >>> ((1 : Int32).toUInt32 &&& Int32.toUInt32 31)).toInt32 &&& 1431655765)) &&& 858993459) + (((((((a0 &&& (-a0)) - 1)) - ((((((a0 &&& (-a0)) - 1))).toUInt32 >>> ((1 : Int32).toUInt32 &&& Int32.toUInt32 31)).toInt32 &&& 1431655765))).toUInt32 >>> ((2 : Int32).toUInt32 &&& Int32.toUInt32 31)).toInt32 &&& 858993459)) + ((((((((a0 &&& (-a0)) - 1)) - ((((((a0 &&& (-a0)) - 1))).toUInt32 >>> ((1 : Int32).toUInt32 &&& Int32.toUInt32 31)).toInt32 &&& 1431655765)) &&& 858993459) + (((((((a0 &&& (-a0)) - 1)) - ((((((a0 &&& (-a0)) - 1))).toUInt32 >>> ((1 : Int32).toUInt32 &&& Int32.toUInt32 31)).toInt32 &&& 1431655765))).toUInt32 >>> ((2 : Int32).toUInt32 &&& Int32.toUInt32 31)).toInt32 &&& 858993459))).toUInt32 >>> ((4 : Int32).toUInt32 &&& Int32.toUInt32 31)).toInt32) &&& 252645135) + ((((((((((a0 &&& (-a0)) - 1)) - ((((((a0 &&& (-a0)) - 1))).toUInt32 >>> ((1 : Int32).toUInt32 &&& Int32.toUInt32 31)).toInt32 &&& 1431655765)) &&& 858993459) + (((((((a0 &&& (-a0)) - 1)) - ((((((a0 &&& (-a0)) - 1))).toUInt32 >>> ((1 : Int32).toUInt32 &&& Int32.toUInt32 31)).toInt32 &&& 1431655765))).toUInt32 >>> ((2 : Int32).toUInt32 &&& Int32.toUInt32 31)).toInt32 &&& 858993459)) + ((((((((a0 &&& (-a0)) - 1)) - ((((((a0 &&& (-a0)) - 1))).toUInt32 >>> ((1 : Int32).toUInt32 &&& Int32.toUInt32 31)).toInt32 &&& 1431655765)) &&& 858993459) + (((((((a0 &&& (-a0)) - 1)) - ((((((a0 &&& (-a0)) - 1))).toUInt32 >>> ((1 : Int32).toUInt32 &&& Int32.toUInt32 31)).toInt32 &&& 1431655765))).toUInt32 >>> ((2 : Int32).toUInt32 &&& Int32.toUInt32 31)).toInt32 &&& 858993459))).toUInt32 >>> ((4 : Int32).toUInt32 &&& Int32.toUInt32 31)).toInt32) &&& 252645135)).toUInt32 >>> ((8 : Int32).toUInt32 &&& Int32.toUInt32 31)).toInt32) + (((((((((((a0 &&& (-a0)) - 1)) - ((((((a0 &&& (-a0)) - 1))).toUInt32 >>> ((1 : Int32).toUInt32 &&& Int32.toUInt32 31)).toInt32 &&& 1431655765)) &&& 858993459) + (((((((a0 &&& (-a0)) - 1)) - ((((((a0 &&& (-a0)) - 1))).toUInt32 >>> ((1 : Int32).toUInt32 &&& Int32.toUInt32 31)).toInt32 &&& 1431655765))).toUInt32 >>> ((2 : Int32).toUInt32 &&& Int32.toUInt32 31)).toInt32 &&& 858993459)) + ((((((((a0 &&& (-a0)) - 1)) - ((((((a0 &&& (-a0)) - 1))).toUInt32 >>> ((1 : Int32).toUInt32 &&& Int32.toUInt32 31)).toInt32 &&& 1431655765)) &&& 858993459) + (((((((a0 &&& (-a0)) - 1)) - ((((((a0 &&& (-a0)) - 1))).toUInt32 >>> ((1 : Int32).toUInt32 &&& Int32.toUInt32 31)).toInt32 &&& 1431655765))).toUInt32 >>> ((2 : Int32).toUInt32 &&& Int32.toUInt32 31)).toInt32 &&& 858993459))).toUInt32 >>> ((4 : Int32).toUInt32 &&& Int32.toUInt32 31)).toInt32) &&& 252645135) + ((((((((((a0 &&& (-a0)) - 1)) - ((((((a0 &&& (-a0)) - 1))).toUInt32 >>> ((1 : Int32).toUInt32 &&& Int32.toUInt32 31)).toInt32 &&& 1431655765)) &&& 858993459) + (((((((a0 &&& (-a0)) - 1)) - ((((((a0 &&& (-a0)) - 1))).toUInt32 >>> ((1 : Int32).toUInt32 &&& Int32.toUInt32 31)).toInt32 &&& 1431655765))).toUInt32 >>> ((2 : Int32).toUInt32 &&& Int32.toUInt32 31)).toInt32 &&& 858993459)) + ((((((((a0 &&& (-a0)) - 1)) - ((((((a0 &&& (-a0)) - 1))).toUInt32 >>> ((1 : Int32).toUInt32 &&& Int32.toUInt32 31)).toInt32 &&& 1431655765)) &&& 858993459) + (((((((a0 &&& (-a0)) - 1)) - ((((((a0 &&& (-a0)) - 1))).toUInt32 >>> ((1 : Int32).toUInt32 &&& Int32.toUInt32 31)).toInt32 &&& 1431655765))).toUInt32 >>> ((2 : Int32).toUInt32 &&& Int32.toUInt32 31)).toInt32 &&& 858993459))).toUInt32 >>> ((4 : Int32).toUInt32 &&& Int32.toUInt32 31)).toInt32) &&& 252645135)).toUInt32 >>> ((8 : Int32).toUInt32 &&& Int32.toUInt32 31)).toInt32)).toUInt32 >>> ((16 : Int32).toUInt32 &&& Int32.toUInt32 31)).toInt32) &&& 63)) ∧ h = (SH0, RF0, I0)) := by
  refine G_iload_n (pc := 0) rfl dX11_leastOf_0 ?_
  refine G_iload_n (pc := 1) rfl dX11_leastOf_1 ?_
  refine G_ineg (pc := 2) rfl dX11_leastOf_2 ?_
  refine G_iand (pc := 3) rfl dX11_leastOf_3 ?_
  refine G_iconst (pc := 4) (v := 1) (by decide) dX11_leastOf_4 ?_
  refine G_isub (pc := 5) rfl dX11_leastOf_5 ?_
  refine G_callS (pc := 6) (mc1 := 0) (ms1 := 0) (mj := mJ6_bitCount_0f7a4) (vs := [_]) dX11_leastOf_6 cm_J6_bitCount_0f7a4 wf_46 wf_49 rfl (Nat.le_of_ble_eq_true rfl) (Nat.le_of_ble_eq_true rfl) (Nat.le_of_ble_eq_true rfl) (Nat.le_of_ble_eq_true rfl) (s197_J6_bitCount_0f7a4  d  _) ?_
  rintro _ _ ⟨rfl, rfl⟩
  dsimp only [Option.toList, List.cons_append, List.nil_append]
  exact G_iret (pc := 9) (Nat.le_of_ble_eq_true rfl) (Nat.le_of_ble_eq_true rfl) rfl dX11_leastOf_9 ⟨rfl, rfl⟩
set_option maxRecDepth 100000 in
set_option maxHeartbeats 4000000 in
theorem s199_X4_reach  (d : Nat)   : G (d + 1) mX4_reach 0 0 0 0 0 (gent 6 [.ref 51, .int 1, .int 0]) [] SH0 RF0 (gup (gup (gup (gcp I0 24 34 (0 : Int32).toNatClampNeg (0 : Int32).toNatClampNeg (6 : Int32).toNatClampNeg) 34 6 0) 34 7 0) 19 1 1) (fun r h => r = some (.int 0) ∧ h = (SH0, RF0, (gup (gup (gup (gcp I0 24 34 (0 : Int32).toNatClampNeg (0 : Int32).toNatClampNeg (6 : Int32).toNatClampNeg) 34 6 0) 34 7 0) 19 1 1))) := by
  refine G_aload_n (pc := 0) rfl dX4_reach_0 ?_
  refine G_getR (pc := 1) (r := 19) (ci := 4) (j := 0) rfl lk_RX4_21 rfl rfl rfl dX4_reach_1 ?_
  refine G_getI (pc := 4) (v := 0) (ci := 1) (j := 9) rfl rfl lk_RX4_62 rfl rfl dX4_reach_4 ?_
  refine G_istore_n (pc := 7) (L1 := [some (.ref 51), some (.int 1), some (.int 0), some (.int 0), none, none]) rfl rfl (by decide) dX4_reach_7 ?_
  refine G_aload_n (pc := 8) rfl dX4_reach_8 ?_
  refine G_iload_n (pc := 9) rfl dX4_reach_9 ?_
  refine G_iload_n (pc := 10) rfl dX4_reach_10 ?_
  refine G_callV (pc := 11) (mc1 := 0) (ms1 := 0) (ci := 4) (mj := mX4_isLast) (vs := [_, _]) dX4_reach_11 rfl rfl cm_X4_isLast wf_126 wf_129 wf_130 rfl (Nat.le_of_ble_eq_true rfl) (Nat.le_of_ble_eq_true rfl) (Nat.le_of_ble_eq_true rfl) (Nat.le_of_ble_eq_true rfl) (s149_X4_isLast  d  ) ?_
  rintro _ _ ⟨rfl, rfl⟩
  dsimp only [Option.toList, List.cons_append, List.nil_append]
  refine G_if_eq (pc := 14) (tgt := 19) (by decide) dX4_reach_14 (fun z => absurd z (by decide)) (fun _ => ?_)
  refine G_iload_n (pc := 17) rfl dX4_reach_17 ?_
  exact G_iret (pc := 18) (Nat.le_of_ble_eq_true rfl) (Nat.le_of_ble_eq_true rfl) rfl dX4_reach_18 ⟨rfl, rfl⟩
set_option maxRecDepth 100000 in
set_option maxHeartbeats 4000000 in
theorem s200_X1_restore  (d : Nat)   : G (d + 1) mX1_restore 0 0 0 0 0 (gent 3 [.ref 19, .int 0]) [] SH0 RF0 (gup (gup (gup (gcp I0 24 34 (0 : Int32).toNatClampNeg (0 : Int32).toNatClampNeg (6 : Int32).toNatClampNeg) 34 6 0) 34 7 0) 19 1 1) (fun r h => r = none ∧ h = (SH0, RF0, (gup (gup (gcp (gup (gup (gup (gcp I0 24 34 (0 : Int32).toNatClampNeg (0 : Int32).toNatClampNeg (6 : Int32).toNatClampNeg) 34 6 0) 34 7 0) 19 1 1) 34 24 (0 : Int32).toNatClampNeg (0 : Int32).toNatClampNeg (6 : Int32).toNatClampNeg) 19 9 0) 19 1 0))) := by
  refine G_iload_n (pc := 0) rfl dX1_restore_0 ?_
  refine G_bipush (pc := 1) (v := 8) (by decide) dX1_restore_1 ?_
  refine G_imul (pc := 3) (z := 0) (by decide) dX1_restore_3 ?_
  refine G_istore_n (pc := 4) (L1 := [some (.ref 19), some (.int 0), some (.int 0)]) rfl rfl (by decide) dX1_restore_4 ?_
  refine G_aload_n (pc := 5) rfl dX1_restore_5 ?_
  refine G_getR (pc := 6) (r := 34) (ci := 1) (j := 18) rfl lk_RX1_53 rfl rfl rfl dX1_restore_6 ?_
  refine G_iload_n (pc := 9) rfl dX1_restore_9 ?_
  refine G_aload_n (pc := 10) rfl dX1_restore_10 ?_
  refine G_getR (pc := 11) (r := 24) (ci := 1) (j := 11) rfl lk_RX1_31 rfl rfl rfl dX1_restore_11 ?_
  refine G_iconst (pc := 14) (v := 0) (by decide) dX1_restore_14 ?_
  refine G_bipush (pc := 15) (v := 6) (by decide) dX1_restore_15 ?_
  refine G_copy (pc := 17) (x := 34) (y := 24) rfl rfl (by decide) (by decide) (by decide) (by decide) (by decide) wf_50 wf_51 wf_52 wf_53 (Nat.le_of_ble_eq_true rfl) dX1_restore_17 ?_
  refine G_aload_n (pc := 20) rfl dX1_restore_20 ?_
  refine G_aload_n (pc := 21) rfl dX1_restore_21 ?_
  refine G_getR (pc := 22) (r := 34) (ci := 1) (j := 18) rfl lk_RX1_53 rfl rfl rfl dX1_restore_22 ?_
  refine G_iload_n (pc := 25) rfl dX1_restore_25 ?_
  refine G_bipush (pc := 26) (v := 6) (by decide) dX1_restore_26 ?_
  refine G_iadd (pc := 28) (z := 6) (by decide) dX1_restore_28 ?_
  refine G_iald (pc := 29) (jj := 6) (v := 0) (by decide) rfl rfl (by unfold vp_in; decide) dX1_restore_29 ?_
  refine G_putI (pc := 30) (ci := 1) (j := 9) rfl lk_RX1_75 rfl rfl rfl trivial dX1_restore_30 ?_
  refine G_aload_n (pc := 33) rfl dX1_restore_33 ?_
  refine G_aload_n (pc := 34) rfl dX1_restore_34 ?_
  refine G_getR (pc := 35) (r := 34) (ci := 1) (j := 18) rfl lk_RX1_53 rfl rfl rfl dX1_restore_35 ?_
  refine G_iload_n (pc := 38) rfl dX1_restore_38 ?_
  refine G_bipush (pc := 39) (v := 6) (by decide) dX1_restore_39 ?_
  refine G_iadd (pc := 41) (z := 6) (by decide) dX1_restore_41 ?_
  refine G_iconst (pc := 42) (v := 1) (by decide) dX1_restore_42 ?_
  refine G_iadd (pc := 43) (z := 7) (by decide) dX1_restore_43 ?_
  refine G_iald (pc := 44) (jj := 7) (v := 0) (by decide) rfl rfl (by unfold vp_in; decide) dX1_restore_44 ?_
  refine G_putI (pc := 45) (ci := 1) (j := 1) rfl lk_RX1_60 rfl rfl rfl trivial dX1_restore_45 ?_
  exact G_vret (pc := 48) (Nat.le_of_ble_eq_true rfl) (Nat.le_of_ble_eq_true rfl) rfl dX1_restore_48 ⟨rfl, rfl⟩
set_option maxRecDepth 100000 in
set_option maxHeartbeats 4000000 in
theorem s198_X4_reach  (d : Nat)   : G (d + 2) mX4_reach 0 0 0 0 0 (gent 6 [.ref 51, .int 0, .int 1]) [] SH0 RF0 I0 (fun r h => r = some (.int 0) ∧ h = (SH0, RF0, (gup (gup (gcp (gup (gup (gup (gcp I0 24 34 (0 : Int32).toNatClampNeg (0 : Int32).toNatClampNeg (6 : Int32).toNatClampNeg) 34 6 0) 34 7 0) 19 1 1) 34 24 (0 : Int32).toNatClampNeg (0 : Int32).toNatClampNeg (6 : Int32).toNatClampNeg) 19 9 0) 19 1 0))) := by
  refine G_aload_n (pc := 0) rfl dX4_reach_0 ?_
  refine G_getR (pc := 1) (r := 19) (ci := 4) (j := 0) rfl lk_RX4_21 rfl rfl rfl dX4_reach_1 ?_
  refine G_getI (pc := 4) (v := 0) (ci := 1) (j := 9) rfl rfl lk_RX4_62 rfl rfl dX4_reach_4 ?_
  refine G_istore_n (pc := 7) (L1 := [some (.ref 51), some (.int 0), some (.int 1), some (.int 0), none, none]) rfl rfl (by decide) dX4_reach_7 ?_
  refine G_aload_n (pc := 8) rfl dX4_reach_8 ?_
  refine G_iload_n (pc := 9) rfl dX4_reach_9 ?_
  refine G_iload_n (pc := 10) rfl dX4_reach_10 ?_
  refine G_callV (pc := 11) (mc1 := 0) (ms1 := 0) (ci := 4) (mj := mX4_isLast) (vs := [_, _]) dX4_reach_11 rfl rfl cm_X4_isLast wf_126 wf_129 wf_130 rfl (Nat.le_of_ble_eq_true rfl) (Nat.le_of_ble_eq_true rfl) (Nat.le_of_ble_eq_true rfl) (Nat.le_of_ble_eq_true rfl) (s144_X4_isLast  d  ) ?_
  rintro _ _ ⟨rfl, rfl⟩
  dsimp only [Option.toList, List.cons_append, List.nil_append]
  refine G_if_eq (pc := 14) (tgt := 19) (by decide) dX4_reach_14 (fun _ => ?_) (fun z => absurd (by decide) z)
  refine G_aload_n (pc := 19) rfl dX4_reach_19 ?_
  refine G_getR (pc := 20) (r := 19) (ci := 4) (j := 0) rfl lk_RX4_21 rfl rfl rfl dX4_reach_20 ?_
  refine G_iload_n (pc := 23) rfl dX4_reach_23 ?_
  refine G_callV (pc := 24) (mc1 := 0) (ms1 := 0) (ci := 1) (mj := mX1_save) (vs := [_]) dX4_reach_24 rfl rfl cm_X1_save wf_134 wf_105 wf_106 rfl (Nat.le_of_ble_eq_true rfl) (Nat.le_of_ble_eq_true rfl) (Nat.le_of_ble_eq_true rfl) (Nat.le_of_ble_eq_true rfl) (s39_X1_save  d  ) ?_
  rintro _ _ ⟨rfl, rfl⟩
  dsimp only [Option.toList, List.cons_append, List.nil_append]
  refine G_iconst (pc := 27) (v := 0) (by decide) dX4_reach_27 ?_
  refine G_istore (pc := 28) (L1 := [some (.ref 51), some (.int 0), some (.int 1), some (.int 0), some (.int 0), none]) rfl rfl (by decide) dX4_reach_28 ?_
  refine G_iload (pc := 30) rfl dX4_reach_30 ?_
  refine G_aload_n (pc := 32) rfl dX4_reach_32 ?_
  refine G_getR (pc := 33) (r := 19) (ci := 4) (j := 0) rfl lk_RX4_21 rfl rfl rfl dX4_reach_33 ?_
  refine G_getI (pc := 36) (v := 0) (ci := 1) (j := 8) rfl rfl lk_RX4_39 rfl rfl dX4_reach_36 ?_
  refine G_icmp_gt (pc := 39) (tgt := 98) (by decide) dX4_reach_39 (fun z => absurd z (by decide)) (fun _ => ?_)
  refine G_aload_n (pc := 42) rfl dX4_reach_42 ?_
  refine G_getR (pc := 43) (r := 19) (ci := 4) (j := 0) rfl lk_RX4_21 rfl rfl rfl dX4_reach_43 ?_
  refine G_iload (pc := 46) rfl dX4_reach_46 ?_
  refine G_callV (pc := 48) (mc1 := 0) (ms1 := 0) (ci := 1) (mj := mX1_tell) (vs := [_]) dX4_reach_48 rfl rfl cm_X1_tell wf_135 wf_71 wf_72 rfl (Nat.le_of_ble_eq_true rfl) (Nat.le_of_ble_eq_true rfl) (Nat.le_of_ble_eq_true rfl) (Nat.le_of_ble_eq_true rfl) (s145_X1_tell  d  ) ?_
  rintro _ _ ⟨rfl, rfl⟩
  dsimp only [Option.toList, List.cons_append, List.nil_append]
  refine G_istore (pc := 51) (L1 := [some (.ref 51), some (.int 0), some (.int 1), some (.int 0), some (.int 0), some (.int 0)]) rfl rfl (by decide) dX4_reach_51 ?_
  refine G_iload (pc := 53) rfl dX4_reach_53 ?_
  refine G_if_eq (pc := 55) (tgt := 63) (by decide) dX4_reach_55 (fun _ => ?_) (fun z => absurd (by decide) z)
  refine G_aload_n (pc := 63) rfl dX4_reach_63 ?_
  refine G_getR (pc := 64) (r := 19) (ci := 4) (j := 0) rfl lk_RX4_21 rfl rfl rfl dX4_reach_64 ?_
  refine G_callV (pc := 67) (mc1 := 0) (ms1 := 0) (ci := 1) (mj := mX1_melt) (vs := []) dX4_reach_67 rfl rfl cm_X1_melt wf_136 wf_75 wf_76 rfl (Nat.le_of_ble_eq_true rfl) (Nat.le_of_ble_eq_true rfl) (Nat.le_of_ble_eq_true rfl) (Nat.le_of_ble_eq_true rfl) (s147_X1_melt  (d + 1)  ) ?_
  rintro _ _ ⟨rfl, rfl⟩
  dsimp only [Option.toList, List.cons_append, List.nil_append]
  refine G_pop (pc := 70) rfl dX4_reach_70 ?_
  refine G_iload_n (pc := 71) rfl dX4_reach_71 ?_
  refine G_aload_n (pc := 72) rfl dX4_reach_72 ?_
  refine G_iload_n (pc := 73) rfl dX4_reach_73 ?_
  refine G_iconst (pc := 74) (v := 1) (by decide) dX4_reach_74 ?_
  refine G_iadd (pc := 75) (z := 1) (by decide) dX4_reach_75 ?_
  refine G_iload_n (pc := 76) rfl dX4_reach_76 ?_
  refine G_iconst (pc := 77) (v := 1) (by decide) dX4_reach_77 ?_
  refine G_isub (pc := 78) (z := 0) (by decide) dX4_reach_78 ?_
  refine G_callV (pc := 79) (mc1 := 0) (ms1 := 0) (ci := 4) (mj := mX4_reach) (vs := [_, _]) dX4_reach_79 rfl rfl cm_X4_reach wf_167 wf_162 wf_163 rfl (Nat.le_of_ble_eq_true rfl) (Nat.le_of_ble_eq_true rfl) (Nat.le_of_ble_eq_true rfl) (Nat.le_of_ble_eq_true rfl) (s199_X4_reach  d  ) ?_
  rintro _ _ ⟨rfl, rfl⟩
  dsimp only [Option.toList, List.cons_append, List.nil_append]
  refine G_ior (pc := 82) (z := 0) (by decide) dX4_reach_82 ?_
  refine G_istore_n (pc := 83) (L1 := [some (.ref 51), some (.int 0), some (.int 1), some (.int 0), some (.int 0), some (.int 0)]) rfl rfl (by decide) dX4_reach_83 ?_
  refine G_aload_n (pc := 84) rfl dX4_reach_84 ?_
  refine G_getR (pc := 85) (r := 19) (ci := 4) (j := 0) rfl lk_RX4_21 rfl rfl rfl dX4_reach_85 ?_
  refine G_iload_n (pc := 88) rfl dX4_reach_88 ?_
  refine G_callV (pc := 89) (mc1 := 0) (ms1 := 0) (ci := 1) (mj := mX1_restore) (vs := [_]) dX4_reach_89 rfl rfl cm_X1_restore wf_138 wf_109 wf_110 rfl (Nat.le_of_ble_eq_true rfl) (Nat.le_of_ble_eq_true rfl) (Nat.le_of_ble_eq_true rfl) (Nat.le_of_ble_eq_true rfl) (s200_X1_restore  d  ) ?_
  rintro _ _ ⟨rfl, rfl⟩
  dsimp only [Option.toList, List.cons_append, List.nil_append]
  refine G_iinc (pc := 92) (v := 1) (w := 1) (L1 := [some (.ref 51), some (.int 0), some (.int 1), some (.int 0), some (.int 1), some (.int 0)]) (by decide) rfl rfl (by decide) rfl (by decide) dX4_reach_92 ?_
  refine G_goto (pc := 95) (tgt := 30) (by decide) dX4_reach_95 ?_
  refine G_iload (pc := 30) rfl dX4_reach_30 ?_
  refine G_aload_n (pc := 32) rfl dX4_reach_32 ?_
  refine G_getR (pc := 33) (r := 19) (ci := 4) (j := 0) rfl lk_RX4_21 rfl rfl rfl dX4_reach_33 ?_
  refine G_getI (pc := 36) (v := 0) (ci := 1) (j := 8) rfl rfl lk_RX4_39 rfl rfl dX4_reach_36 ?_
  refine G_icmp_gt (pc := 39) (tgt := 98) (by decide) dX4_reach_39 (fun _ => ?_) (fun z => absurd (by decide) z)
  refine G_iload_n (pc := 98) rfl dX4_reach_98 ?_
  exact G_iret (pc := 99) (Nat.le_of_ble_eq_true rfl) (Nat.le_of_ble_eq_true rfl) rfl dX4_reach_99 ⟨rfl, rfl⟩
set_option maxRecDepth 100000 in
set_option maxHeartbeats 4000000 in
theorem s202_J6_bitCount_0f7a4  (d : Nat)  (a0 : Int32) : G (d) mJ6_bitCount_0f7a4 0 0 0 0 0 (gent 1 [.int a0]) [] SH0 RF0 (gup (gup (gcp (gup (gup (gup (gcp I0 24 34 (0 : Int32).toNatClampNeg (0 : Int32).toNatClampNeg (6 : Int32).toNatClampNeg) 34 6 0) 34 7 0) 19 1 1) 34 24 (0 : Int32).toNatClampNeg (0 : Int32).toNatClampNeg (6 : Int32).toNatClampNeg) 19 9 0) 19 1 0) (fun r h => r = some (.int ((((((((a0 - (((a0).toUInt32 >>> ((1 : Int32).toUInt32 &&& Int32.toUInt32 31)).toInt32 &&& 1431655765)) &&& 858993459) + ((((a0 - (((a0).toUInt32 >>> ((1 : Int32).toUInt32 &&& Int32.toUInt32 31)).toInt32 &&& 1431655765))).toUInt32 >>> ((2 : Int32).toUInt32 &&& Int32.toUInt32 31)).toInt32 &&& 858993459)) + (((((a0 - (((a0).toUInt32 >>> ((1 : Int32).toUInt32 &&& Int32.toUInt32 31)).toInt32 &&& 1431655765)) &&& 858993459) + ((((a0 - (((a0).toUInt32 >>> ((1 : Int32).toUInt32 &&& Int32.toUInt32 31)).toInt32 &&& 1431655765))).toUInt32 >>> ((2 : Int32).toUInt32 &&& Int32.toUInt32 31)).toInt32 &&& 858993459))).toUInt32 >>> ((4 : Int32).toUInt32 &&& Int32.toUInt32 31)).toInt32) &&& 252645135) + (((((((a0 - (((a0).toUInt32 >>> ((1 : Int32).toUInt32 &&& Int32.toUInt32 31)).toInt32 &&& 1431655765)) &&& 858993459) + ((((a0 - (((a0).toUInt32 >>> ((1 : Int32).toUInt32 &&& Int32.toUInt32 31)).toInt32 &&& 1431655765))).toUInt32 >>> ((2 : Int32).toUInt32 &&& Int32.toUInt32 31)).toInt32 &&& 858993459)) + (((((a0 - (((a0).toUInt32 >>> ((1 : Int32).toUInt32 &&& Int32.toUInt32 31)).toInt32 &&& 1431655765)) &&& 858993459) + ((((a0 - (((a0).toUInt32 >>> ((1 : Int32).toUInt32 &&& Int32.toUInt32 31)).toInt32 &&& 1431655765))).toUInt32 >>> ((2 : Int32).toUInt32 &&& Int32.toUInt32 31)).toInt32 &&& 858993459))).toUInt32 >>> ((4 : Int32).toUInt32 &&& Int32.toUInt32 31)).toInt32) &&& 252645135)).toUInt32 >>> ((8 : Int32).toUInt32 &&& Int32.toUInt32 31)).toInt32) + ((((((((a0 - (((a0).toUInt32 >>> ((1 : Int32).toUInt32 &&& Int32.toUInt32 31)).toInt32 &&& 1431655765)) &&& 858993459) + ((((a0 - (((a0).toUInt32 >>> ((1 : Int32).toUInt32 &&& Int32.toUInt32 31)).toInt32 &&& 1431655765))).toUInt32 >>> ((2 : Int32).toUInt32 &&& Int32.toUInt32 31)).toInt32 &&& 858993459)) + (((((a0 - (((a0).toUInt32 >>> ((1 : Int32).toUInt32 &&& Int32.toUInt32 31)).toInt32 &&& 1431655765)) &&& 858993459) + ((((a0 - (((a0).toUInt32 >>> ((1 : Int32).toUInt32 &&& Int32.toUInt32 31)).toInt32 &&& 1431655765))).toUInt32 >>> ((2 : Int32).toUInt32 &&& Int32.toUInt32 31)).toInt32 &&& 858993459))).toUInt32 >>> ((4 : Int32).toUInt32 &&& Int32.toUInt32 31)).toInt32) &&& 252645135) + (((((((a0 - (((a0).toUInt32 >>> ((1 : Int32).toUInt32 &&& Int32.toUInt32 31)).toInt32 &&& 1431655765)) &&& 858993459) + ((((a0 - (((a0).toUInt32 >>> ((1 : Int32).toUInt32 &&& Int32.toUInt32 31)).toInt32 &&& 1431655765))).toUInt32 >>> ((2 : Int32).toUInt32 &&& Int32.toUInt32 31)).toInt32 &&& 858993459)) + (((((a0 - (((a0).toUInt32 >>> ((1 : Int32).toUInt32 &&& Int32.toUInt32 31)).toInt32 &&& 1431655765)) &&& 858993459) + ((((a0 - (((a0).toUInt32 >>> ((1 : Int32).toUInt32 &&& Int32.toUInt32 31)).toInt32 &&& 1431655765))).toUInt32 >>> ((2 : Int32).toUInt32 &&& Int32.toUInt32 31)).toInt32 &&& 858993459))).toUInt32 >>> ((4 : Int32).toUInt32 &&& Int32.toUInt32 31)).toInt32) &&& 252645135)).toUInt32 >>> ((8 : Int32).toUInt32 &&& Int32.toUInt32 31)).toInt32)).toUInt32 >>> ((16 : Int32).toUInt32 &&& Int32.toUInt32 31)).toInt32) &&& 63)) ∧ h = (SH0, RF0, (gup (gup (gcp (gup (gup (gup (gcp I0 24 34 (0 : Int32).toNatClampNeg (0 : Int32).toNatClampNeg (6 : Int32).toNatClampNeg) 34 6 0) 34 7 0) 19 1 1) 34 24 (0 : Int32).toNatClampNeg (0 : Int32).toNatClampNeg (6 : Int32).toNatClampNeg) 19 9 0) 19 1 0))) := by
  refine G_iload_n (pc := 0) rfl dJ6_bitCount_0f7a4_0 ?_
  refine G_iload_n (pc := 1) rfl dJ6_bitCount_0f7a4_1 ?_
  refine G_iconst (pc := 2) (v := 1) (by decide) dJ6_bitCount_0f7a4_2 ?_
  refine G_iushr (pc := 3) rfl dJ6_bitCount_0f7a4_3 ?_
  refine G_ldcw (pc := 4) (v := 1431655765) ck_RJ6_265 dJ6_bitCount_0f7a4_4 ?_
  refine G_iand (pc := 7) rfl dJ6_bitCount_0f7a4_7 ?_
  refine G_isub (pc := 8) rfl dJ6_bitCount_0f7a4_8 ?_
  refine G_istore_n (pc := 9) (L1 := [some (.int (a0 - (((a0).toUInt32 >>> ((1 : Int32).toUInt32 &&& Int32.toUInt32 31)).toInt32 &&& 1431655765)))]) rfl rfl (by decide) dJ6_bitCount_0f7a4_9 ?_
  refine G_iload_n (pc := 10) rfl dJ6_bitCount_0f7a4_10 ?_
  refine G_ldcw (pc := 11) (v := 858993459) ck_RJ6_266 dJ6_bitCount_0f7a4_11 ?_
  refine G_iand (pc := 14) rfl dJ6_bitCount_0f7a4_14 ?_
  refine G_iload_n (pc := 15) rfl dJ6_bitCount_0f7a4_15 ?_
  refine G_iconst (pc := 16) (v := 2) (by decide) dJ6_bitCount_0f7a4_16 ?_
  refine G_iushr (pc := 17) rfl dJ6_bitCount_0f7a4_17 ?_
  refine G_ldcw (pc := 18) (v := 858993459) ck_RJ6_266 dJ6_bitCount_0f7a4_18 ?_
  refine G_iand (pc := 21) rfl dJ6_bitCount_0f7a4_21 ?_
  refine G_iadd (pc := 22) rfl dJ6_bitCount_0f7a4_22 ?_
  refine G_istore_n (pc := 23) (L1 := [some (.int (((a0 - (((a0).toUInt32 >>> ((1 : Int32).toUInt32 &&& Int32.toUInt32 31)).toInt32 &&& 1431655765)) &&& 858993459) + ((((a0 - (((a0).toUInt32 >>> ((1 : Int32).toUInt32 &&& Int32.toUInt32 31)).toInt32 &&& 1431655765))).toUInt32 >>> ((2 : Int32).toUInt32 &&& Int32.toUInt32 31)).toInt32 &&& 858993459)))]) rfl rfl (by decide) dJ6_bitCount_0f7a4_23 ?_
  refine G_iload_n (pc := 24) rfl dJ6_bitCount_0f7a4_24 ?_
  refine G_iload_n (pc := 25) rfl dJ6_bitCount_0f7a4_25 ?_
  refine G_iconst (pc := 26) (v := 4) (by decide) dJ6_bitCount_0f7a4_26 ?_
  refine G_iushr (pc := 27) rfl dJ6_bitCount_0f7a4_27 ?_
  refine G_iadd (pc := 28) rfl dJ6_bitCount_0f7a4_28 ?_
  refine G_ldcw (pc := 29) (v := 252645135) ck_RJ6_267 dJ6_bitCount_0f7a4_29 ?_
  refine G_iand (pc := 32) rfl dJ6_bitCount_0f7a4_32 ?_
  refine G_istore_n (pc := 33) (L1 := [some (.int (((((a0 - (((a0).toUInt32 >>> ((1 : Int32).toUInt32 &&& Int32.toUInt32 31)).toInt32 &&& 1431655765)) &&& 858993459) + ((((a0 - (((a0).toUInt32 >>> ((1 : Int32).toUInt32 &&& Int32.toUInt32 31)).toInt32 &&& 1431655765))).toUInt32 >>> ((2 : Int32).toUInt32 &&& Int32.toUInt32 31)).toInt32 &&& 858993459)) + (((((a0 - (((a0).toUInt32 >>> ((1 : Int32).toUInt32 &&& Int32.toUInt32 31)).toInt32 &&& 1431655765)) &&& 858993459) + ((((a0 - (((a0).toUInt32 >>> ((1 : Int32).toUInt32 &&& Int32.toUInt32 31)).toInt32 &&& 1431655765))).toUInt32 >>> ((2 : Int32).toUInt32 &&& Int32.toUInt32 31)).toInt32 &&& 858993459))).toUInt32 >>> ((4 : Int32).toUInt32 &&& Int32.toUInt32 31)).toInt32) &&& 252645135))]) rfl rfl (by decide) dJ6_bitCount_0f7a4_33 ?_
  refine G_iload_n (pc := 34) rfl dJ6_bitCount_0f7a4_34 ?_
  refine G_iload_n (pc := 35) rfl dJ6_bitCount_0f7a4_35 ?_
  refine G_bipush (pc := 36) (v := 8) (by decide) dJ6_bitCount_0f7a4_36 ?_
  refine G_iushr (pc := 38) rfl dJ6_bitCount_0f7a4_38 ?_
  refine G_iadd (pc := 39) rfl dJ6_bitCount_0f7a4_39 ?_
  refine G_istore_n (pc := 40) (L1 := [some (.int ((((((a0 - (((a0).toUInt32 >>> ((1 : Int32).toUInt32 &&& Int32.toUInt32 31)).toInt32 &&& 1431655765)) &&& 858993459) + ((((a0 - (((a0).toUInt32 >>> ((1 : Int32).toUInt32 &&& Int32.toUInt32 31)).toInt32 &&& 1431655765))).toUInt32 >>> ((2 : Int32).toUInt32 &&& Int32.toUInt32 31)).toInt32 &&& 858993459)) + (((((a0 - (((a0).toUInt32 >>> ((1 : Int32).toUInt32 &&& Int32.toUInt32 31)).toInt32 &&& 1431655765)) &&& 858993459) + ((((a0 - (((a0).toUInt32 >>> ((1 : Int32).toUInt32 &&& Int32.toUInt32 31)).toInt32 &&& 1431655765))).toUInt32 >>> ((2 : Int32).toUInt32 &&& Int32.toUInt32 31)).toInt32 &&& 858993459))).toUInt32 >>> ((4 : Int32).toUInt32 &&& Int32.toUInt32 31)).toInt32) &&& 252645135) + (((((((a0 - (((a0).toUInt32 >>> ((1 : Int32).toUInt32 &&& Int32.toUInt32 31)).toInt32 &&& 1431655765)) &&& 858993459) + ((((a0 - (((a0).toUInt32 >>> ((1 : Int32).toUInt32 &&& Int32.toUInt32 31)).toInt32 &&& 1431655765))).toUInt32 >>> ((2 : Int32).toUInt32 &&& Int32.toUInt32 31)).toInt32 &&& 858993459)) + (((((a0 - (((a0).toUInt32 >>> ((1 : Int32).toUInt32 &&& Int32.toUInt32 31)).toInt32 &&& 1431655765)) &&& 858993459) + ((((a0 - (((a0).toUInt32 >>> ((1 : Int32).toUInt32 &&& Int32.toUInt32 31)).toInt32 &&& 1431655765))).toUInt32 >>> ((2 : Int32).toUInt32 &&& Int32.toUInt32 31)).toInt32 &&& 858993459))).toUInt32 >>> ((4 : Int32).toUInt32 &&& Int32.toUInt32 31)).toInt32) &&& 252645135)).toUInt32 >>> ((8 : Int32).toUInt32 &&& Int32.toUInt32 31)).toInt32))]) rfl rfl (by decide) dJ6_bitCount_0f7a4_40 ?_
  refine G_iload_n (pc := 41) rfl dJ6_bitCount_0f7a4_41 ?_
  refine G_iload_n (pc := 42) rfl dJ6_bitCount_0f7a4_42 ?_
  refine G_bipush (pc := 43) (v := 16) (by decide) dJ6_bitCount_0f7a4_43 ?_
  refine G_iushr (pc := 45) rfl dJ6_bitCount_0f7a4_45 ?_
  refine G_iadd (pc := 46) rfl dJ6_bitCount_0f7a4_46 ?_
  refine G_istore_n (pc := 47) (L1 := [some (.int (((((((a0 - (((a0).toUInt32 >>> ((1 : Int32).toUInt32 &&& Int32.toUInt32 31)).toInt32 &&& 1431655765)) &&& 858993459) + ((((a0 - (((a0).toUInt32 >>> ((1 : Int32).toUInt32 &&& Int32.toUInt32 31)).toInt32 &&& 1431655765))).toUInt32 >>> ((2 : Int32).toUInt32 &&& Int32.toUInt32 31)).toInt32 &&& 858993459)) + (((((a0 - (((a0).toUInt32 >>> ((1 : Int32).toUInt32 &&& Int32.toUInt32 31)).toInt32 &&& 1431655765)) &&& 858993459) + ((((a0 - (((a0).toUInt32 >>> ((1 : Int32).toUInt32 &&& Int32.toUInt32 31)).toInt32 &&& 1431655765))).toUInt32 >>> ((2 : Int32).toUInt32 &&& Int32.toUInt32 31)).toInt32 &&& 858993459))).toUInt32 >>> ((4 : Int32).toUInt32 &&& Int32.toUInt32 31)).toInt32) &&& 252645135) + (((((((a0 - (((a0).toUInt32 >>> ((1 : Int32).toUInt32 &&& Int32.toUInt32 31)).toInt32 &&& 1431655765)) &&& 858993459) + ((((a0 - (((a0).toUInt32 >>> ((1 : Int32).toUInt32 &&& Int32.toUInt32 31)).toInt32 &&& 1431655765))).toUInt32 >>> ((2 : Int32).toUInt32 &&& Int32.toUInt32 31)).toInt32 &&& 858993459)) + (((((a0 - (((a0).toUInt32 >>> ((1 : Int32).toUInt32 &&& Int32.toUInt32 31)).toInt32 &&& 1431655765)) &&& 858993459) + ((((a0 - (((a0).toUInt32 >>> ((1 : Int32).toUInt32 &&& Int32.toUInt32 31)).toInt32 &&& 1431655765))).toUInt32 >>> ((2 : Int32).toUInt32 &&& Int32.toUInt32 31)).toInt32 &&& 858993459))).toUInt32 >>> ((4 : Int32).toUInt32 &&& Int32.toUInt32 31)).toInt32) &&& 252645135)).toUInt32 >>> ((8 : Int32).toUInt32 &&& Int32.toUInt32 31)).toInt32) + ((((((((a0 - (((a0).toUInt32 >>> ((1 : Int32).toUInt32 &&& Int32.toUInt32 31)).toInt32 &&& 1431655765)) &&& 858993459) + ((((a0 - (((a0).toUInt32 >>> ((1 : Int32).toUInt32 &&& Int32.toUInt32 31)).toInt32 &&& 1431655765))).toUInt32 >>> ((2 : Int32).toUInt32 &&& Int32.toUInt32 31)).toInt32 &&& 858993459)) + (((((a0 - (((a0).toUInt32 >>> ((1 : Int32).toUInt32 &&& Int32.toUInt32 31)).toInt32 &&& 1431655765)) &&& 858993459) + ((((a0 - (((a0).toUInt32 >>> ((1 : Int32).toUInt32 &&& Int32.toUInt32 31)).toInt32 &&& 1431655765))).toUInt32 >>> ((2 : Int32).toUInt32 &&& Int32.toUInt32 31)).toInt32 &&& 858993459))).toUInt32 >>> ((4 : Int32).toUInt32 &&& Int32.toUInt32 31)).toInt32) &&& 252645135) + (((((((a0 - (((a0).toUInt32 >>> ((1 : Int32).toUInt32 &&& Int32.toUInt32 31)).toInt32 &&& 1431655765)) &&& 858993459) + ((((a0 - (((a0).toUInt32 >>> ((1 : Int32).toUInt32 &&& Int32.toUInt32 31)).toInt32 &&& 1431655765))).toUInt32 >>> ((2 : Int32).toUInt32 &&& Int32.toUInt32 31)).toInt32 &&& 858993459)) + (((((a0 - (((a0).toUInt32 >>> ((1 : Int32).toUInt32 &&& Int32.toUInt32 31)).toInt32 &&& 1431655765)) &&& 858993459) + ((((a0 - (((a0).toUInt32 >>> ((1 : Int32).toUInt32 &&& Int32.toUInt32 31)).toInt32 &&& 1431655765))).toUInt32 >>> ((2 : Int32).toUInt32 &&& Int32.toUInt32 31)).toInt32 &&& 858993459))).toUInt32 >>> ((4 : Int32).toUInt32 &&& Int32.toUInt32 31)).toInt32) &&& 252645135)).toUInt32 >>> ((8 : Int32).toUInt32 &&& Int32.toUInt32 31)).toInt32)).toUInt32 >>> ((16 : Int32).toUInt32 &&& Int32.toUInt32 31)).toInt32))]) rfl rfl (by decide) dJ6_bitCount_0f7a4_47 ?_
  refine G_iload_n (pc := 48) rfl dJ6_bitCount_0f7a4_48 ?_
  refine G_bipush (pc := 49) (v := 63) (by decide) dJ6_bitCount_0f7a4_49 ?_
  refine G_iand (pc := 51) rfl dJ6_bitCount_0f7a4_51 ?_
  exact G_iret (pc := 52) (Nat.le_of_ble_eq_true rfl) (Nat.le_of_ble_eq_true rfl) rfl dJ6_bitCount_0f7a4_52 ⟨rfl, rfl⟩
set_option maxRecDepth 100000 in
set_option maxHeartbeats 4000000 in
theorem s201_X11_leastOf  (d : Nat)  (a0 : Int32) : G (d + 1) mX11_leastOf 0 0 0 0 0 (gent 1 [.int a0]) [] SH0 RF0 (gup (gup (gcp (gup (gup (gup (gcp I0 24 34 (0 : Int32).toNatClampNeg (0 : Int32).toNatClampNeg (6 : Int32).toNatClampNeg) 34 6 0) 34 7 0) 19 1 1) 34 24 (0 : Int32).toNatClampNeg (0 : Int32).toNatClampNeg (6 : Int32).toNatClampNeg) 19 9 0) 19 1 0) (fun r h => r = some (.int (((((((((((a0 &&& (-a0)) - 1)) - ((((((a0 &&& (-a0)) - 1))).toUInt32 >>> ((1 : Int32).toUInt32 &&& Int32.toUInt32 31)).toInt32 &&& 1431655765)) &&& 858993459) + (((((((a0 &&& (-a0)) - 1)) - ((((((a0 &&& (-a0)) - 1))).toUInt32 >>> ((1 : Int32).toUInt32 &&& Int32.toUInt32 31)).toInt32 &&& 1431655765))).toUInt32 >>> ((2 : Int32).toUInt32 &&& Int32.toUInt32 31)).toInt32 &&& 858993459)) + ((((((((a0 &&& (-a0)) - 1)) - ((((((a0 &&& (-a0)) - 1))).toUInt32 >>> ((1 : Int32).toUInt32 &&& Int32.toUInt32 31)).toInt32 &&& 1431655765)) &&& 858993459) + (((((((a0 &&& (-a0)) - 1)) - ((((((a0 &&& (-a0)) - 1))).toUInt32 >>> ((1 : Int32).toUInt32 &&& Int32.toUInt32 31)).toInt32 &&& 1431655765))).toUInt32 >>> ((2 : Int32).toUInt32 &&& Int32.toUInt32 31)).toInt32 &&& 858993459))).toUInt32 >>> ((4 : Int32).toUInt32 &&& Int32.toUInt32 31)).toInt32) &&& 252645135) + ((((((((((a0 &&& (-a0)) - 1)) - ((((((a0 &&& (-a0)) - 1))).toUInt32 >>> ((1 : Int32).toUInt32 &&& Int32.toUInt32 31)).toInt32 &&& 1431655765)) &&& 858993459) + (((((((a0 &&& (-a0)) - 1)) - ((((((a0 &&& (-a0)) - 1))).toUInt32 >>> ((1 : Int32).toUInt32 &&& Int32.toUInt32 31)).toInt32 &&& 1431655765))).toUInt32 >>> ((2 : Int32).toUInt32 &&& Int32.toUInt32 31)).toInt32 &&& 858993459)) + ((((((((a0 &&& (-a0)) - 1)) - ((((((a0 &&& (-a0)) - 1))).toUInt32 >>> ((1 : Int32).toUInt32 &&& Int32.toUInt32 31)).toInt32 &&& 1431655765)) &&& 858993459) + (((((((a0 &&& (-a0)) - 1)) - ((((((a0 &&& (-a0)) - 1))).toUInt32 >>> ((1 : Int32).toUInt32 &&& Int32.toUInt32 31)).toInt32 &&& 1431655765))).toUInt32 >>> ((2 : Int32).toUInt32 &&& Int32.toUInt32 31)).toInt32 &&& 858993459))).toUInt32 >>> ((4 : Int32).toUInt32 &&& Int32.toUInt32 31)).toInt32) &&& 252645135)).toUInt32 >>> ((8 : Int32).toUInt32 &&& Int32.toUInt32 31)).toInt32) + (((((((((((a0 &&& (-a0)) - 1)) - ((((((a0 &&& (-a0)) - 1))).toUInt32 >>> ((1 : Int32).toUInt32 &&& Int32.toUInt32 31)).toInt32 &&& 1431655765)) &&& 858993459) + (((((((a0 &&& (-a0)) - 1)) - ((((((a0 &&& (-a0)) - 1))).toUInt32 >>> ((1 : Int32).toUInt32 &&& Int32.toUInt32 31)).toInt32 &&& 1431655765))).toUInt32 >>> ((2 : Int32).toUInt32 &&& Int32.toUInt32 31)).toInt32 &&& 858993459)) + ((((((((a0 &&& (-a0)) - 1)) - ((((((a0 &&& (-a0)) - 1))).toUInt32 >>> ((1 : Int32).toUInt32 &&& Int32.toUInt32 31)).toInt32 &&& 1431655765)) &&& 858993459) + (((((((a0 &&& (-a0)) - 1)) - ((((((a0 &&& (-a0)) - 1))).toUInt32 >>> ((1 : Int32).toUInt32 &&& Int32.toUInt32 31)).toInt32 &&& 1431655765))).toUInt32 >>> ((2 : Int32).toUInt32 &&& Int32.toUInt32 31)).toInt32 &&& 858993459))).toUInt32 >>> ((4 : Int32).toUInt32 &&& Int32.toUInt32 31)).toInt32) &&& 252645135) + ((((((((((a0 &&& (-a0)) - 1)) - ((((((a0 &&& (-a0)) - 1))).toUInt32 >>> ((1 : Int32).toUInt32 &&& Int32.toUInt32 31)).toInt32 &&& 1431655765)) &&& 858993459) + (((((((a0 &&& (-a0)) - 1)) - ((((((a0 &&& (-a0)) - 1))).toUInt32 >>> ((1 : Int32).toUInt32 &&& Int32.toUInt32 31)).toInt32 &&& 1431655765))).toUInt32 >>> ((2 : Int32).toUInt32 &&& Int32.toUInt32 31)).toInt32 &&& 858993459)) + ((((((((a0 &&& (-a0)) - 1)) - ((((((a0 &&& (-a0)) - 1))).toUInt32 >>> ((1 : Int32).toUInt32 &&& Int32.toUInt32 31)).toInt32 &&& 1431655765)) &&& 858993459) + (((((((a0 &&& (-a0)) - 1)) - ((((((a0 &&& (-a0)) - 1))).toUInt32 >>> ((1 : Int32).toUInt32 &&& Int32.toUInt32 31)).toInt32 &&& 1431655765))).toUInt32 >>> ((2 : Int32).toUInt32 &&& Int32.toUInt32 31)).toInt32 &&& 858993459))).toUInt32 >>> ((4 : Int32).toUInt32 &&& Int32.toUInt32 31)).toInt32) &&& 252645135)).toUInt32 >>> ((8 : Int32).toUInt32 &&& Int32.toUInt32 31)).toInt32)).toUInt32 >>> ((16 : Int32).toUInt32 &&& Int32.toUInt32 31)).toInt32) &&& 63)) ∧ h = (SH0, RF0, (gup (gup (gcp (gup (gup (gup (gcp I0 24 34 (0 : Int32).toNatClampNeg (0 : Int32).toNatClampNeg (6 : Int32).toNatClampNeg) 34 6 0) 34 7 0) 19 1 1) 34 24 (0 : Int32).toNatClampNeg (0 : Int32).toNatClampNeg (6 : Int32).toNatClampNeg) 19 9 0) 19 1 0))) := by
  refine G_iload_n (pc := 0) rfl dX11_leastOf_0 ?_
  refine G_iload_n (pc := 1) rfl dX11_leastOf_1 ?_
  refine G_ineg (pc := 2) rfl dX11_leastOf_2 ?_
  refine G_iand (pc := 3) rfl dX11_leastOf_3 ?_
  refine G_iconst (pc := 4) (v := 1) (by decide) dX11_leastOf_4 ?_
  refine G_isub (pc := 5) rfl dX11_leastOf_5 ?_
  refine G_callS (pc := 6) (mc1 := 0) (ms1 := 0) (mj := mJ6_bitCount_0f7a4) (vs := [_]) dX11_leastOf_6 cm_J6_bitCount_0f7a4 wf_46 wf_49 rfl (Nat.le_of_ble_eq_true rfl) (Nat.le_of_ble_eq_true rfl) (Nat.le_of_ble_eq_true rfl) (Nat.le_of_ble_eq_true rfl) (s202_J6_bitCount_0f7a4  d  _) ?_
  rintro _ _ ⟨rfl, rfl⟩
  dsimp only [Option.toList, List.cons_append, List.nil_append]
  exact G_iret (pc := 9) (Nat.le_of_ble_eq_true rfl) (Nat.le_of_ble_eq_true rfl) rfl dX11_leastOf_9 ⟨rfl, rfl⟩
set_option maxRecDepth 100000 in
set_option maxHeartbeats 4000000 in
theorem s205_X4_reach  (d : Nat)   : G (d + 1) mX4_reach 0 0 0 0 0 (gent 6 [.ref 51, .int 2, .int 0]) [] SH0 RF0 (gup (gup (gup (gcp (gup (gup (gup (gcp I0 24 34 (0 : Int32).toNatClampNeg (0 : Int32).toNatClampNeg (6 : Int32).toNatClampNeg) 34 6 0) 34 7 0) 19 1 1) 24 34 (0 : Int32).toNatClampNeg (8 : Int32).toNatClampNeg (6 : Int32).toNatClampNeg) 34 14 0) 34 15 1) 19 1 2) (fun r h => r = some (.int 0) ∧ h = (SH0, RF0, (gup (gup (gup (gcp (gup (gup (gup (gcp I0 24 34 (0 : Int32).toNatClampNeg (0 : Int32).toNatClampNeg (6 : Int32).toNatClampNeg) 34 6 0) 34 7 0) 19 1 1) 24 34 (0 : Int32).toNatClampNeg (8 : Int32).toNatClampNeg (6 : Int32).toNatClampNeg) 34 14 0) 34 15 1) 19 1 2))) := by
  refine G_aload_n (pc := 0) rfl dX4_reach_0 ?_
  refine G_getR (pc := 1) (r := 19) (ci := 4) (j := 0) rfl lk_RX4_21 rfl rfl rfl dX4_reach_1 ?_
  refine G_getI (pc := 4) (v := 0) (ci := 1) (j := 9) rfl rfl lk_RX4_62 rfl rfl dX4_reach_4 ?_
  refine G_istore_n (pc := 7) (L1 := [some (.ref 51), some (.int 2), some (.int 0), some (.int 0), none, none]) rfl rfl (by decide) dX4_reach_7 ?_
  refine G_aload_n (pc := 8) rfl dX4_reach_8 ?_
  refine G_iload_n (pc := 9) rfl dX4_reach_9 ?_
  refine G_iload_n (pc := 10) rfl dX4_reach_10 ?_
  refine G_callV (pc := 11) (mc1 := 0) (ms1 := 0) (ci := 4) (mj := mX4_isLast) (vs := [_, _]) dX4_reach_11 rfl rfl cm_X4_isLast wf_126 wf_129 wf_130 rfl (Nat.le_of_ble_eq_true rfl) (Nat.le_of_ble_eq_true rfl) (Nat.le_of_ble_eq_true rfl) (Nat.le_of_ble_eq_true rfl) (s161_X4_isLast  d  ) ?_
  rintro _ _ ⟨rfl, rfl⟩
  dsimp only [Option.toList, List.cons_append, List.nil_append]
  refine G_if_eq (pc := 14) (tgt := 19) (by decide) dX4_reach_14 (fun z => absurd z (by decide)) (fun _ => ?_)
  refine G_iload_n (pc := 17) rfl dX4_reach_17 ?_
  exact G_iret (pc := 18) (Nat.le_of_ble_eq_true rfl) (Nat.le_of_ble_eq_true rfl) rfl dX4_reach_18 ⟨rfl, rfl⟩
set_option maxRecDepth 100000 in
set_option maxHeartbeats 4000000 in
theorem s206_X1_restore  (d : Nat)   : G (d + 1) mX1_restore 0 0 0 0 0 (gent 3 [.ref 19, .int 1]) [] SH0 RF0 (gup (gup (gup (gcp (gup (gup (gup (gcp I0 24 34 (0 : Int32).toNatClampNeg (0 : Int32).toNatClampNeg (6 : Int32).toNatClampNeg) 34 6 0) 34 7 0) 19 1 1) 24 34 (0 : Int32).toNatClampNeg (8 : Int32).toNatClampNeg (6 : Int32).toNatClampNeg) 34 14 0) 34 15 1) 19 1 2) (fun r h => r = none ∧ h = (SH0, RF0, (gup (gup (gcp (gup (gup (gup (gcp (gup (gup (gup (gcp I0 24 34 (0 : Int32).toNatClampNeg (0 : Int32).toNatClampNeg (6 : Int32).toNatClampNeg) 34 6 0) 34 7 0) 19 1 1) 24 34 (0 : Int32).toNatClampNeg (8 : Int32).toNatClampNeg (6 : Int32).toNatClampNeg) 34 14 0) 34 15 1) 19 1 2) 34 24 (8 : Int32).toNatClampNeg (0 : Int32).toNatClampNeg (6 : Int32).toNatClampNeg) 19 9 0) 19 1 1))) := by
  refine G_iload_n (pc := 0) rfl dX1_restore_0 ?_
  refine G_bipush (pc := 1) (v := 8) (by decide) dX1_restore_1 ?_
  refine G_imul (pc := 3) (z := 8) (by decide) dX1_restore_3 ?_
  refine G_istore_n (pc := 4) (L1 := [some (.ref 19), some (.int 1), some (.int 8)]) rfl rfl (by decide) dX1_restore_4 ?_
  refine G_aload_n (pc := 5) rfl dX1_restore_5 ?_
  refine G_getR (pc := 6) (r := 34) (ci := 1) (j := 18) rfl lk_RX1_53 rfl rfl rfl dX1_restore_6 ?_
  refine G_iload_n (pc := 9) rfl dX1_restore_9 ?_
  refine G_aload_n (pc := 10) rfl dX1_restore_10 ?_
  refine G_getR (pc := 11) (r := 24) (ci := 1) (j := 11) rfl lk_RX1_31 rfl rfl rfl dX1_restore_11 ?_
  refine G_iconst (pc := 14) (v := 0) (by decide) dX1_restore_14 ?_
  refine G_bipush (pc := 15) (v := 6) (by decide) dX1_restore_15 ?_
  refine G_copy (pc := 17) (x := 34) (y := 24) rfl rfl (by decide) (by decide) (by decide) (by decide) (by decide) wf_50 wf_51 wf_52 wf_53 (Nat.le_of_ble_eq_true rfl) dX1_restore_17 ?_
  refine G_aload_n (pc := 20) rfl dX1_restore_20 ?_
  refine G_aload_n (pc := 21) rfl dX1_restore_21 ?_
  refine G_getR (pc := 22) (r := 34) (ci := 1) (j := 18) rfl lk_RX1_53 rfl rfl rfl dX1_restore_22 ?_
  refine G_iload_n (pc := 25) rfl dX1_restore_25 ?_
  refine G_bipush (pc := 26) (v := 6) (by decide) dX1_restore_26 ?_
  refine G_iadd (pc := 28) (z := 14) (by decide) dX1_restore_28 ?_
  refine G_iald (pc := 29) (jj := 14) (v := 0) (by decide) rfl rfl (by unfold vp_in; decide) dX1_restore_29 ?_
  refine G_putI (pc := 30) (ci := 1) (j := 9) rfl lk_RX1_75 rfl rfl rfl trivial dX1_restore_30 ?_
  refine G_aload_n (pc := 33) rfl dX1_restore_33 ?_
  refine G_aload_n (pc := 34) rfl dX1_restore_34 ?_
  refine G_getR (pc := 35) (r := 34) (ci := 1) (j := 18) rfl lk_RX1_53 rfl rfl rfl dX1_restore_35 ?_
  refine G_iload_n (pc := 38) rfl dX1_restore_38 ?_
  refine G_bipush (pc := 39) (v := 6) (by decide) dX1_restore_39 ?_
  refine G_iadd (pc := 41) (z := 14) (by decide) dX1_restore_41 ?_
  refine G_iconst (pc := 42) (v := 1) (by decide) dX1_restore_42 ?_
  refine G_iadd (pc := 43) (z := 15) (by decide) dX1_restore_43 ?_
  refine G_iald (pc := 44) (jj := 15) (v := 1) (by decide) rfl rfl (by unfold vp_in; decide) dX1_restore_44 ?_
  refine G_putI (pc := 45) (ci := 1) (j := 1) rfl lk_RX1_60 rfl rfl rfl trivial dX1_restore_45 ?_
  exact G_vret (pc := 48) (Nat.le_of_ble_eq_true rfl) (Nat.le_of_ble_eq_true rfl) rfl dX1_restore_48 ⟨rfl, rfl⟩
set_option maxRecDepth 100000 in
set_option maxHeartbeats 4000000 in
theorem s204_X4_reach  (d : Nat)   : G (d + 2) mX4_reach 0 0 0 0 0 (gent 6 [.ref 51, .int 1, .int 1]) [] SH0 RF0 (gup (gup (gup (gcp I0 24 34 (0 : Int32).toNatClampNeg (0 : Int32).toNatClampNeg (6 : Int32).toNatClampNeg) 34 6 0) 34 7 0) 19 1 1) (fun r h => r = some (.int 0) ∧ h = (SH0, RF0, (gup (gup (gcp (gup (gup (gup (gcp (gup (gup (gup (gcp I0 24 34 (0 : Int32).toNatClampNeg (0 : Int32).toNatClampNeg (6 : Int32).toNatClampNeg) 34 6 0) 34 7 0) 19 1 1) 24 34 (0 : Int32).toNatClampNeg (8 : Int32).toNatClampNeg (6 : Int32).toNatClampNeg) 34 14 0) 34 15 1) 19 1 2) 34 24 (8 : Int32).toNatClampNeg (0 : Int32).toNatClampNeg (6 : Int32).toNatClampNeg) 19 9 0) 19 1 1))) := by
  refine G_aload_n (pc := 0) rfl dX4_reach_0 ?_
  refine G_getR (pc := 1) (r := 19) (ci := 4) (j := 0) rfl lk_RX4_21 rfl rfl rfl dX4_reach_1 ?_
  refine G_getI (pc := 4) (v := 0) (ci := 1) (j := 9) rfl rfl lk_RX4_62 rfl rfl dX4_reach_4 ?_
  refine G_istore_n (pc := 7) (L1 := [some (.ref 51), some (.int 1), some (.int 1), some (.int 0), none, none]) rfl rfl (by decide) dX4_reach_7 ?_
  refine G_aload_n (pc := 8) rfl dX4_reach_8 ?_
  refine G_iload_n (pc := 9) rfl dX4_reach_9 ?_
  refine G_iload_n (pc := 10) rfl dX4_reach_10 ?_
  refine G_callV (pc := 11) (mc1 := 0) (ms1 := 0) (ci := 4) (mj := mX4_isLast) (vs := [_, _]) dX4_reach_11 rfl rfl cm_X4_isLast wf_126 wf_129 wf_130 rfl (Nat.le_of_ble_eq_true rfl) (Nat.le_of_ble_eq_true rfl) (Nat.le_of_ble_eq_true rfl) (Nat.le_of_ble_eq_true rfl) (s154_X4_isLast  d  ) ?_
  rintro _ _ ⟨rfl, rfl⟩
  dsimp only [Option.toList, List.cons_append, List.nil_append]
  refine G_if_eq (pc := 14) (tgt := 19) (by decide) dX4_reach_14 (fun _ => ?_) (fun z => absurd (by decide) z)
  refine G_aload_n (pc := 19) rfl dX4_reach_19 ?_
  refine G_getR (pc := 20) (r := 19) (ci := 4) (j := 0) rfl lk_RX4_21 rfl rfl rfl dX4_reach_20 ?_
  refine G_iload_n (pc := 23) rfl dX4_reach_23 ?_
  refine G_callV (pc := 24) (mc1 := 0) (ms1 := 0) (ci := 1) (mj := mX1_save) (vs := [_]) dX4_reach_24 rfl rfl cm_X1_save wf_134 wf_105 wf_106 rfl (Nat.le_of_ble_eq_true rfl) (Nat.le_of_ble_eq_true rfl) (Nat.le_of_ble_eq_true rfl) (Nat.le_of_ble_eq_true rfl) (s156_X1_save  d  ) ?_
  rintro _ _ ⟨rfl, rfl⟩
  dsimp only [Option.toList, List.cons_append, List.nil_append]
  refine G_iconst (pc := 27) (v := 0) (by decide) dX4_reach_27 ?_
  refine G_istore (pc := 28) (L1 := [some (.ref 51), some (.int 1), some (.int 1), some (.int 0), some (.int 0), none]) rfl rfl (by decide) dX4_reach_28 ?_
  refine G_iload (pc := 30) rfl dX4_reach_30 ?_
  refine G_aload_n (pc := 32) rfl dX4_reach_32 ?_
  refine G_getR (pc := 33) (r := 19) (ci := 4) (j := 0) rfl lk_RX4_21 rfl rfl rfl dX4_reach_33 ?_
  refine G_getI (pc := 36) (v := 0) (ci := 1) (j := 8) rfl rfl lk_RX4_39 rfl rfl dX4_reach_36 ?_
  refine G_icmp_gt (pc := 39) (tgt := 98) (by decide) dX4_reach_39 (fun z => absurd z (by decide)) (fun _ => ?_)
  refine G_aload_n (pc := 42) rfl dX4_reach_42 ?_
  refine G_getR (pc := 43) (r := 19) (ci := 4) (j := 0) rfl lk_RX4_21 rfl rfl rfl dX4_reach_43 ?_
  refine G_iload (pc := 46) rfl dX4_reach_46 ?_
  refine G_callV (pc := 48) (mc1 := 0) (ms1 := 0) (ci := 1) (mj := mX1_tell) (vs := [_]) dX4_reach_48 rfl rfl cm_X1_tell wf_135 wf_71 wf_72 rfl (Nat.le_of_ble_eq_true rfl) (Nat.le_of_ble_eq_true rfl) (Nat.le_of_ble_eq_true rfl) (Nat.le_of_ble_eq_true rfl) (s157_X1_tell  d  ) ?_
  rintro _ _ ⟨rfl, rfl⟩
  dsimp only [Option.toList, List.cons_append, List.nil_append]
  refine G_istore (pc := 51) (L1 := [some (.ref 51), some (.int 1), some (.int 1), some (.int 0), some (.int 0), some (.int 0)]) rfl rfl (by decide) dX4_reach_51 ?_
  refine G_iload (pc := 53) rfl dX4_reach_53 ?_
  refine G_if_eq (pc := 55) (tgt := 63) (by decide) dX4_reach_55 (fun _ => ?_) (fun z => absurd (by decide) z)
  refine G_aload_n (pc := 63) rfl dX4_reach_63 ?_
  refine G_getR (pc := 64) (r := 19) (ci := 4) (j := 0) rfl lk_RX4_21 rfl rfl rfl dX4_reach_64 ?_
  refine G_callV (pc := 67) (mc1 := 0) (ms1 := 0) (ci := 1) (mj := mX1_melt) (vs := []) dX4_reach_67 rfl rfl cm_X1_melt wf_136 wf_75 wf_76 rfl (Nat.le_of_ble_eq_true rfl) (Nat.le_of_ble_eq_true rfl) (Nat.le_of_ble_eq_true rfl) (Nat.le_of_ble_eq_true rfl) (s159_X1_melt  (d + 1)  ) ?_
  rintro _ _ ⟨rfl, rfl⟩
  dsimp only [Option.toList, List.cons_append, List.nil_append]
  refine G_pop (pc := 70) rfl dX4_reach_70 ?_
  refine G_iload_n (pc := 71) rfl dX4_reach_71 ?_
  refine G_aload_n (pc := 72) rfl dX4_reach_72 ?_
  refine G_iload_n (pc := 73) rfl dX4_reach_73 ?_
  refine G_iconst (pc := 74) (v := 1) (by decide) dX4_reach_74 ?_
  refine G_iadd (pc := 75) (z := 2) (by decide) dX4_reach_75 ?_
  refine G_iload_n (pc := 76) rfl dX4_reach_76 ?_
  refine G_iconst (pc := 77) (v := 1) (by decide) dX4_reach_77 ?_
  refine G_isub (pc := 78) (z := 0) (by decide) dX4_reach_78 ?_
  refine G_callV (pc := 79) (mc1 := 0) (ms1 := 0) (ci := 4) (mj := mX4_reach) (vs := [_, _]) dX4_reach_79 rfl rfl cm_X4_reach wf_167 wf_162 wf_163 rfl (Nat.le_of_ble_eq_true rfl) (Nat.le_of_ble_eq_true rfl) (Nat.le_of_ble_eq_true rfl) (Nat.le_of_ble_eq_true rfl) (s205_X4_reach  d  ) ?_
  rintro _ _ ⟨rfl, rfl⟩
  dsimp only [Option.toList, List.cons_append, List.nil_append]
  refine G_ior (pc := 82) (z := 0) (by decide) dX4_reach_82 ?_
  refine G_istore_n (pc := 83) (L1 := [some (.ref 51), some (.int 1), some (.int 1), some (.int 0), some (.int 0), some (.int 0)]) rfl rfl (by decide) dX4_reach_83 ?_
  refine G_aload_n (pc := 84) rfl dX4_reach_84 ?_
  refine G_getR (pc := 85) (r := 19) (ci := 4) (j := 0) rfl lk_RX4_21 rfl rfl rfl dX4_reach_85 ?_
  refine G_iload_n (pc := 88) rfl dX4_reach_88 ?_
  refine G_callV (pc := 89) (mc1 := 0) (ms1 := 0) (ci := 1) (mj := mX1_restore) (vs := [_]) dX4_reach_89 rfl rfl cm_X1_restore wf_138 wf_109 wf_110 rfl (Nat.le_of_ble_eq_true rfl) (Nat.le_of_ble_eq_true rfl) (Nat.le_of_ble_eq_true rfl) (Nat.le_of_ble_eq_true rfl) (s206_X1_restore  d  ) ?_
  rintro _ _ ⟨rfl, rfl⟩
  dsimp only [Option.toList, List.cons_append, List.nil_append]
  refine G_iinc (pc := 92) (v := 1) (w := 1) (L1 := [some (.ref 51), some (.int 1), some (.int 1), some (.int 0), some (.int 1), some (.int 0)]) (by decide) rfl rfl (by decide) rfl (by decide) dX4_reach_92 ?_
  refine G_goto (pc := 95) (tgt := 30) (by decide) dX4_reach_95 ?_
  refine G_iload (pc := 30) rfl dX4_reach_30 ?_
  refine G_aload_n (pc := 32) rfl dX4_reach_32 ?_
  refine G_getR (pc := 33) (r := 19) (ci := 4) (j := 0) rfl lk_RX4_21 rfl rfl rfl dX4_reach_33 ?_
  refine G_getI (pc := 36) (v := 0) (ci := 1) (j := 8) rfl rfl lk_RX4_39 rfl rfl dX4_reach_36 ?_
  refine G_icmp_gt (pc := 39) (tgt := 98) (by decide) dX4_reach_39 (fun _ => ?_) (fun z => absurd (by decide) z)
  refine G_iload_n (pc := 98) rfl dX4_reach_98 ?_
  exact G_iret (pc := 99) (Nat.le_of_ble_eq_true rfl) (Nat.le_of_ble_eq_true rfl) rfl dX4_reach_99 ⟨rfl, rfl⟩
set_option maxRecDepth 100000 in
set_option maxHeartbeats 4000000 in
theorem s207_X1_restore  (d : Nat)   : G (d + 1) mX1_restore 0 0 0 0 0 (gent 3 [.ref 19, .int 0]) [] SH0 RF0 (gup (gup (gcp (gup (gup (gup (gcp (gup (gup (gup (gcp I0 24 34 (0 : Int32).toNatClampNeg (0 : Int32).toNatClampNeg (6 : Int32).toNatClampNeg) 34 6 0) 34 7 0) 19 1 1) 24 34 (0 : Int32).toNatClampNeg (8 : Int32).toNatClampNeg (6 : Int32).toNatClampNeg) 34 14 0) 34 15 1) 19 1 2) 34 24 (8 : Int32).toNatClampNeg (0 : Int32).toNatClampNeg (6 : Int32).toNatClampNeg) 19 9 0) 19 1 1) (fun r h => r = none ∧ h = (SH0, RF0, (gup (gup (gcp (gup (gup (gcp (gup (gup (gup (gcp (gup (gup (gup (gcp I0 24 34 (0 : Int32).toNatClampNeg (0 : Int32).toNatClampNeg (6 : Int32).toNatClampNeg) 34 6 0) 34 7 0) 19 1 1) 24 34 (0 : Int32).toNatClampNeg (8 : Int32).toNatClampNeg (6 : Int32).toNatClampNeg) 34 14 0) 34 15 1) 19 1 2) 34 24 (8 : Int32).toNatClampNeg (0 : Int32).toNatClampNeg (6 : Int32).toNatClampNeg) 19 9 0) 19 1 1) 34 24 (0 : Int32).toNatClampNeg (0 : Int32).toNatClampNeg (6 : Int32).toNatClampNeg) 19 9 0) 19 1 0))) := by
  refine G_iload_n (pc := 0) rfl dX1_restore_0 ?_
  refine G_bipush (pc := 1) (v := 8) (by decide) dX1_restore_1 ?_
  refine G_imul (pc := 3) (z := 0) (by decide) dX1_restore_3 ?_
  refine G_istore_n (pc := 4) (L1 := [some (.ref 19), some (.int 0), some (.int 0)]) rfl rfl (by decide) dX1_restore_4 ?_
  refine G_aload_n (pc := 5) rfl dX1_restore_5 ?_
  refine G_getR (pc := 6) (r := 34) (ci := 1) (j := 18) rfl lk_RX1_53 rfl rfl rfl dX1_restore_6 ?_
  refine G_iload_n (pc := 9) rfl dX1_restore_9 ?_
  refine G_aload_n (pc := 10) rfl dX1_restore_10 ?_
  refine G_getR (pc := 11) (r := 24) (ci := 1) (j := 11) rfl lk_RX1_31 rfl rfl rfl dX1_restore_11 ?_
  refine G_iconst (pc := 14) (v := 0) (by decide) dX1_restore_14 ?_
  refine G_bipush (pc := 15) (v := 6) (by decide) dX1_restore_15 ?_
  refine G_copy (pc := 17) (x := 34) (y := 24) rfl rfl (by decide) (by decide) (by decide) (by decide) (by decide) wf_50 wf_51 wf_52 wf_53 (Nat.le_of_ble_eq_true rfl) dX1_restore_17 ?_
  refine G_aload_n (pc := 20) rfl dX1_restore_20 ?_
  refine G_aload_n (pc := 21) rfl dX1_restore_21 ?_
  refine G_getR (pc := 22) (r := 34) (ci := 1) (j := 18) rfl lk_RX1_53 rfl rfl rfl dX1_restore_22 ?_
  refine G_iload_n (pc := 25) rfl dX1_restore_25 ?_
  refine G_bipush (pc := 26) (v := 6) (by decide) dX1_restore_26 ?_
  refine G_iadd (pc := 28) (z := 6) (by decide) dX1_restore_28 ?_
  refine G_iald (pc := 29) (jj := 6) (v := 0) (by decide) rfl rfl (by unfold vp_in; decide) dX1_restore_29 ?_
  refine G_putI (pc := 30) (ci := 1) (j := 9) rfl lk_RX1_75 rfl rfl rfl trivial dX1_restore_30 ?_
  refine G_aload_n (pc := 33) rfl dX1_restore_33 ?_
  refine G_aload_n (pc := 34) rfl dX1_restore_34 ?_
  refine G_getR (pc := 35) (r := 34) (ci := 1) (j := 18) rfl lk_RX1_53 rfl rfl rfl dX1_restore_35 ?_
  refine G_iload_n (pc := 38) rfl dX1_restore_38 ?_
  refine G_bipush (pc := 39) (v := 6) (by decide) dX1_restore_39 ?_
  refine G_iadd (pc := 41) (z := 6) (by decide) dX1_restore_41 ?_
  refine G_iconst (pc := 42) (v := 1) (by decide) dX1_restore_42 ?_
  refine G_iadd (pc := 43) (z := 7) (by decide) dX1_restore_43 ?_
  refine G_iald (pc := 44) (jj := 7) (v := 0) (by decide) rfl rfl (by unfold vp_in; decide) dX1_restore_44 ?_
  refine G_putI (pc := 45) (ci := 1) (j := 1) rfl lk_RX1_60 rfl rfl rfl trivial dX1_restore_45 ?_
  exact G_vret (pc := 48) (Nat.le_of_ble_eq_true rfl) (Nat.le_of_ble_eq_true rfl) rfl dX1_restore_48 ⟨rfl, rfl⟩
set_option maxRecDepth 100000 in
set_option maxHeartbeats 4000000 in
theorem s203_X4_reach  (d : Nat)   : G (d + 3) mX4_reach 0 0 0 0 0 (gent 6 [.ref 51, .int 0, .int 2]) [] SH0 RF0 I0 (fun r h => r = some (.int 0) ∧ h = (SH0, RF0, (gup (gup (gcp (gup (gup (gcp (gup (gup (gup (gcp (gup (gup (gup (gcp I0 24 34 (0 : Int32).toNatClampNeg (0 : Int32).toNatClampNeg (6 : Int32).toNatClampNeg) 34 6 0) 34 7 0) 19 1 1) 24 34 (0 : Int32).toNatClampNeg (8 : Int32).toNatClampNeg (6 : Int32).toNatClampNeg) 34 14 0) 34 15 1) 19 1 2) 34 24 (8 : Int32).toNatClampNeg (0 : Int32).toNatClampNeg (6 : Int32).toNatClampNeg) 19 9 0) 19 1 1) 34 24 (0 : Int32).toNatClampNeg (0 : Int32).toNatClampNeg (6 : Int32).toNatClampNeg) 19 9 0) 19 1 0))) := by
  refine G_aload_n (pc := 0) rfl dX4_reach_0 ?_
  refine G_getR (pc := 1) (r := 19) (ci := 4) (j := 0) rfl lk_RX4_21 rfl rfl rfl dX4_reach_1 ?_
  refine G_getI (pc := 4) (v := 0) (ci := 1) (j := 9) rfl rfl lk_RX4_62 rfl rfl dX4_reach_4 ?_
  refine G_istore_n (pc := 7) (L1 := [some (.ref 51), some (.int 0), some (.int 2), some (.int 0), none, none]) rfl rfl (by decide) dX4_reach_7 ?_
  refine G_aload_n (pc := 8) rfl dX4_reach_8 ?_
  refine G_iload_n (pc := 9) rfl dX4_reach_9 ?_
  refine G_iload_n (pc := 10) rfl dX4_reach_10 ?_
  refine G_callV (pc := 11) (mc1 := 0) (ms1 := 0) (ci := 4) (mj := mX4_isLast) (vs := [_, _]) dX4_reach_11 rfl rfl cm_X4_isLast wf_126 wf_129 wf_130 rfl (Nat.le_of_ble_eq_true rfl) (Nat.le_of_ble_eq_true rfl) (Nat.le_of_ble_eq_true rfl) (Nat.le_of_ble_eq_true rfl) (s152_X4_isLast  (d + 1)  ) ?_
  rintro _ _ ⟨rfl, rfl⟩
  dsimp only [Option.toList, List.cons_append, List.nil_append]
  refine G_if_eq (pc := 14) (tgt := 19) (by decide) dX4_reach_14 (fun _ => ?_) (fun z => absurd (by decide) z)
  refine G_aload_n (pc := 19) rfl dX4_reach_19 ?_
  refine G_getR (pc := 20) (r := 19) (ci := 4) (j := 0) rfl lk_RX4_21 rfl rfl rfl dX4_reach_20 ?_
  refine G_iload_n (pc := 23) rfl dX4_reach_23 ?_
  refine G_callV (pc := 24) (mc1 := 0) (ms1 := 0) (ci := 1) (mj := mX1_save) (vs := [_]) dX4_reach_24 rfl rfl cm_X1_save wf_134 wf_105 wf_106 rfl (Nat.le_of_ble_eq_true rfl) (Nat.le_of_ble_eq_true rfl) (Nat.le_of_ble_eq_true rfl) (Nat.le_of_ble_eq_true rfl) (s39_X1_save  (d + 1)  ) ?_
  rintro _ _ ⟨rfl, rfl⟩
  dsimp only [Option.toList, List.cons_append, List.nil_append]
  refine G_iconst (pc := 27) (v := 0) (by decide) dX4_reach_27 ?_
  refine G_istore (pc := 28) (L1 := [some (.ref 51), some (.int 0), some (.int 2), some (.int 0), some (.int 0), none]) rfl rfl (by decide) dX4_reach_28 ?_
  refine G_iload (pc := 30) rfl dX4_reach_30 ?_
  refine G_aload_n (pc := 32) rfl dX4_reach_32 ?_
  refine G_getR (pc := 33) (r := 19) (ci := 4) (j := 0) rfl lk_RX4_21 rfl rfl rfl dX4_reach_33 ?_
  refine G_getI (pc := 36) (v := 0) (ci := 1) (j := 8) rfl rfl lk_RX4_39 rfl rfl dX4_reach_36 ?_
  refine G_icmp_gt (pc := 39) (tgt := 98) (by decide) dX4_reach_39 (fun z => absurd z (by decide)) (fun _ => ?_)
  refine G_aload_n (pc := 42) rfl dX4_reach_42 ?_
  refine G_getR (pc := 43) (r := 19) (ci := 4) (j := 0) rfl lk_RX4_21 rfl rfl rfl dX4_reach_43 ?_
  refine G_iload (pc := 46) rfl dX4_reach_46 ?_
  refine G_callV (pc := 48) (mc1 := 0) (ms1 := 0) (ci := 1) (mj := mX1_tell) (vs := [_]) dX4_reach_48 rfl rfl cm_X1_tell wf_135 wf_71 wf_72 rfl (Nat.le_of_ble_eq_true rfl) (Nat.le_of_ble_eq_true rfl) (Nat.le_of_ble_eq_true rfl) (Nat.le_of_ble_eq_true rfl) (s145_X1_tell  (d + 1)  ) ?_
  rintro _ _ ⟨rfl, rfl⟩
  dsimp only [Option.toList, List.cons_append, List.nil_append]
  refine G_istore (pc := 51) (L1 := [some (.ref 51), some (.int 0), some (.int 2), some (.int 0), some (.int 0), some (.int 0)]) rfl rfl (by decide) dX4_reach_51 ?_
  refine G_iload (pc := 53) rfl dX4_reach_53 ?_
  refine G_if_eq (pc := 55) (tgt := 63) (by decide) dX4_reach_55 (fun _ => ?_) (fun z => absurd (by decide) z)
  refine G_aload_n (pc := 63) rfl dX4_reach_63 ?_
  refine G_getR (pc := 64) (r := 19) (ci := 4) (j := 0) rfl lk_RX4_21 rfl rfl rfl dX4_reach_64 ?_
  refine G_callV (pc := 67) (mc1 := 0) (ms1 := 0) (ci := 1) (mj := mX1_melt) (vs := []) dX4_reach_67 rfl rfl cm_X1_melt wf_136 wf_75 wf_76 rfl (Nat.le_of_ble_eq_true rfl) (Nat.le_of_ble_eq_true rfl) (Nat.le_of_ble_eq_true rfl) (Nat.le_of_ble_eq_true rfl) (s147_X1_melt  (d + 2)  ) ?_
  rintro _ _ ⟨rfl, rfl⟩
  dsimp only [Option.toList, List.cons_append, List.nil_append]
  refine G_pop (pc := 70) rfl dX4_reach_70 ?_
  refine G_iload_n (pc := 71) rfl dX4_reach_71 ?_
  refine G_aload_n (pc := 72) rfl dX4_reach_72 ?_
  refine G_iload_n (pc := 73) rfl dX4_reach_73 ?_
  refine G_iconst (pc := 74) (v := 1) (by decide) dX4_reach_74 ?_
  refine G_iadd (pc := 75) (z := 1) (by decide) dX4_reach_75 ?_
  refine G_iload_n (pc := 76) rfl dX4_reach_76 ?_
  refine G_iconst (pc := 77) (v := 1) (by decide) dX4_reach_77 ?_
  refine G_isub (pc := 78) (z := 1) (by decide) dX4_reach_78 ?_
  refine G_callV (pc := 79) (mc1 := 0) (ms1 := 0) (ci := 4) (mj := mX4_reach) (vs := [_, _]) dX4_reach_79 rfl rfl cm_X4_reach wf_167 wf_162 wf_163 rfl (Nat.le_of_ble_eq_true rfl) (Nat.le_of_ble_eq_true rfl) (Nat.le_of_ble_eq_true rfl) (Nat.le_of_ble_eq_true rfl) (s204_X4_reach  d  ) ?_
  rintro _ _ ⟨rfl, rfl⟩
  dsimp only [Option.toList, List.cons_append, List.nil_append]
  refine G_ior (pc := 82) (z := 0) (by decide) dX4_reach_82 ?_
  refine G_istore_n (pc := 83) (L1 := [some (.ref 51), some (.int 0), some (.int 2), some (.int 0), some (.int 0), some (.int 0)]) rfl rfl (by decide) dX4_reach_83 ?_
  refine G_aload_n (pc := 84) rfl dX4_reach_84 ?_
  refine G_getR (pc := 85) (r := 19) (ci := 4) (j := 0) rfl lk_RX4_21 rfl rfl rfl dX4_reach_85 ?_
  refine G_iload_n (pc := 88) rfl dX4_reach_88 ?_
  refine G_callV (pc := 89) (mc1 := 0) (ms1 := 0) (ci := 1) (mj := mX1_restore) (vs := [_]) dX4_reach_89 rfl rfl cm_X1_restore wf_138 wf_109 wf_110 rfl (Nat.le_of_ble_eq_true rfl) (Nat.le_of_ble_eq_true rfl) (Nat.le_of_ble_eq_true rfl) (Nat.le_of_ble_eq_true rfl) (s207_X1_restore  (d + 1)  ) ?_
  rintro _ _ ⟨rfl, rfl⟩
  dsimp only [Option.toList, List.cons_append, List.nil_append]
  refine G_iinc (pc := 92) (v := 1) (w := 1) (L1 := [some (.ref 51), some (.int 0), some (.int 2), some (.int 0), some (.int 1), some (.int 0)]) (by decide) rfl rfl (by decide) rfl (by decide) dX4_reach_92 ?_
  refine G_goto (pc := 95) (tgt := 30) (by decide) dX4_reach_95 ?_
  refine G_iload (pc := 30) rfl dX4_reach_30 ?_
  refine G_aload_n (pc := 32) rfl dX4_reach_32 ?_
  refine G_getR (pc := 33) (r := 19) (ci := 4) (j := 0) rfl lk_RX4_21 rfl rfl rfl dX4_reach_33 ?_
  refine G_getI (pc := 36) (v := 0) (ci := 1) (j := 8) rfl rfl lk_RX4_39 rfl rfl dX4_reach_36 ?_
  refine G_icmp_gt (pc := 39) (tgt := 98) (by decide) dX4_reach_39 (fun _ => ?_) (fun z => absurd (by decide) z)
  refine G_iload_n (pc := 98) rfl dX4_reach_98 ?_
  exact G_iret (pc := 99) (Nat.le_of_ble_eq_true rfl) (Nat.le_of_ble_eq_true rfl) rfl dX4_reach_99 ⟨rfl, rfl⟩
set_option maxRecDepth 100000 in
set_option maxHeartbeats 4000000 in
theorem s209_J6_bitCount_0f7a4  (d : Nat)  (a0 : Int32) : G (d) mJ6_bitCount_0f7a4 0 0 0 0 0 (gent 1 [.int a0]) [] SH0 RF0 (gup (gup (gcp (gup (gup (gcp (gup (gup (gup (gcp (gup (gup (gup (gcp I0 24 34 (0 : Int32).toNatClampNeg (0 : Int32).toNatClampNeg (6 : Int32).toNatClampNeg) 34 6 0) 34 7 0) 19 1 1) 24 34 (0 : Int32).toNatClampNeg (8 : Int32).toNatClampNeg (6 : Int32).toNatClampNeg) 34 14 0) 34 15 1) 19 1 2) 34 24 (8 : Int32).toNatClampNeg (0 : Int32).toNatClampNeg (6 : Int32).toNatClampNeg) 19 9 0) 19 1 1) 34 24 (0 : Int32).toNatClampNeg (0 : Int32).toNatClampNeg (6 : Int32).toNatClampNeg) 19 9 0) 19 1 0) (fun r h => r = some (.int ((((((((a0 - (((a0).toUInt32 >>> ((1 : Int32).toUInt32 &&& Int32.toUInt32 31)).toInt32 &&& 1431655765)) &&& 858993459) + ((((a0 - (((a0).toUInt32 >>> ((1 : Int32).toUInt32 &&& Int32.toUInt32 31)).toInt32 &&& 1431655765))).toUInt32 >>> ((2 : Int32).toUInt32 &&& Int32.toUInt32 31)).toInt32 &&& 858993459)) + (((((a0 - (((a0).toUInt32 >>> ((1 : Int32).toUInt32 &&& Int32.toUInt32 31)).toInt32 &&& 1431655765)) &&& 858993459) + ((((a0 - (((a0).toUInt32 >>> ((1 : Int32).toUInt32 &&& Int32.toUInt32 31)).toInt32 &&& 1431655765))).toUInt32 >>> ((2 : Int32).toUInt32 &&& Int32.toUInt32 31)).toInt32 &&& 858993459))).toUInt32 >>> ((4 : Int32).toUInt32 &&& Int32.toUInt32 31)).toInt32) &&& 252645135) + (((((((a0 - (((a0).toUInt32 >>> ((1 : Int32).toUInt32 &&& Int32.toUInt32 31)).toInt32 &&& 1431655765)) &&& 858993459) + ((((a0 - (((a0).toUInt32 >>> ((1 : Int32).toUInt32 &&& Int32.toUInt32 31)).toInt32 &&& 1431655765))).toUInt32 >>> ((2 : Int32).toUInt32 &&& Int32.toUInt32 31)).toInt32 &&& 858993459)) + (((((a0 - (((a0).toUInt32 >>> ((1 : Int32).toUInt32 &&& Int32.toUInt32 31)).toInt32 &&& 1431655765)) &&& 858993459) + ((((a0 - (((a0).toUInt32 >>> ((1 : Int32).toUInt32 &&& Int32.toUInt32 31)).toInt32 &&& 1431655765))).toUInt32 >>> ((2 : Int32).toUInt32 &&& Int32.toUInt32 31)).toInt32 &&& 858993459))).toUInt32 >>> ((4 : Int32).toUInt32 &&& Int32.toUInt32 31)).toInt32) &&& 252645135)).toUInt32 >>> ((8 : Int32).toUInt32 &&& Int32.toUInt32 31)).toInt32) + ((((((((a0 - (((a0).toUInt32 >>> ((1 : Int32).toUInt32 &&& Int32.toUInt32 31)).toInt32 &&& 1431655765)) &&& 858993459) + ((((a0 - (((a0).toUInt32 >>> ((1 : Int32).toUInt32 &&& Int32.toUInt32 31)).toInt32 &&& 1431655765))).toUInt32 >>> ((2 : Int32).toUInt32 &&& Int32.toUInt32 31)).toInt32 &&& 858993459)) + (((((a0 - (((a0).toUInt32 >>> ((1 : Int32).toUInt32 &&& Int32.toUInt32 31)).toInt32 &&& 1431655765)) &&& 858993459) + ((((a0 - (((a0).toUInt32 >>> ((1 : Int32).toUInt32 &&& Int32.toUInt32 31)).toInt32 &&& 1431655765))).toUInt32 >>> ((2 : Int32).toUInt32 &&& Int32.toUInt32 31)).toInt32 &&& 858993459))).toUInt32 >>> ((4 : Int32).toUInt32 &&& Int32.toUInt32 31)).toInt32) &&& 252645135) + (((((((a0 - (((a0).toUInt32 >>> ((1 : Int32).toUInt32 &&& Int32.toUInt32 31)).toInt32 &&& 1431655765)) &&& 858993459) + ((((a0 - (((a0).toUInt32 >>> ((1 : Int32).toUInt32 &&& Int32.toUInt32 31)).toInt32 &&& 1431655765))).toUInt32 >>> ((2 : Int32).toUInt32 &&& Int32.toUInt32 31)).toInt32 &&& 858993459)) + (((((a0 - (((a0).toUInt32 >>> ((1 : Int32).toUInt32 &&& Int32.toUInt32 31)).toInt32 &&& 1431655765)) &&& 858993459) + ((((a0 - (((a0).toUInt32 >>> ((1 : Int32).toUInt32 &&& Int32.toUInt32 31)).toInt32 &&& 1431655765))).toUInt32 >>> ((2 : Int32).toUInt32 &&& Int32.toUInt32 31)).toInt32 &&& 858993459))).toUInt32 >>> ((4 : Int32).toUInt32 &&& Int32.toUInt32 31)).toInt32) &&& 252645135)).toUInt32 >>> ((8 : Int32).toUInt32 &&& Int32.toUInt32 31)).toInt32)).toUInt32 >>> ((16 : Int32).toUInt32 &&& Int32.toUInt32 31)).toInt32) &&& 63)) ∧ h = (SH0, RF0, (gup (gup (gcp (gup (gup (gcp (gup (gup (gup (gcp (gup (gup (gup (gcp I0 24 34 (0 : Int32).toNatClampNeg (0 : Int32).toNatClampNeg (6 : Int32).toNatClampNeg) 34 6 0) 34 7 0) 19 1 1) 24 34 (0 : Int32).toNatClampNeg (8 : Int32).toNatClampNeg (6 : Int32).toNatClampNeg) 34 14 0) 34 15 1) 19 1 2) 34 24 (8 : Int32).toNatClampNeg (0 : Int32).toNatClampNeg (6 : Int32).toNatClampNeg) 19 9 0) 19 1 1) 34 24 (0 : Int32).toNatClampNeg (0 : Int32).toNatClampNeg (6 : Int32).toNatClampNeg) 19 9 0) 19 1 0))) := by
  refine G_iload_n (pc := 0) rfl dJ6_bitCount_0f7a4_0 ?_
  refine G_iload_n (pc := 1) rfl dJ6_bitCount_0f7a4_1 ?_
  refine G_iconst (pc := 2) (v := 1) (by decide) dJ6_bitCount_0f7a4_2 ?_
  refine G_iushr (pc := 3) rfl dJ6_bitCount_0f7a4_3 ?_
  refine G_ldcw (pc := 4) (v := 1431655765) ck_RJ6_265 dJ6_bitCount_0f7a4_4 ?_
  refine G_iand (pc := 7) rfl dJ6_bitCount_0f7a4_7 ?_
  refine G_isub (pc := 8) rfl dJ6_bitCount_0f7a4_8 ?_
  refine G_istore_n (pc := 9) (L1 := [some (.int (a0 - (((a0).toUInt32 >>> ((1 : Int32).toUInt32 &&& Int32.toUInt32 31)).toInt32 &&& 1431655765)))]) rfl rfl (by decide) dJ6_bitCount_0f7a4_9 ?_
  refine G_iload_n (pc := 10) rfl dJ6_bitCount_0f7a4_10 ?_
  refine G_ldcw (pc := 11) (v := 858993459) ck_RJ6_266 dJ6_bitCount_0f7a4_11 ?_
  refine G_iand (pc := 14) rfl dJ6_bitCount_0f7a4_14 ?_
  refine G_iload_n (pc := 15) rfl dJ6_bitCount_0f7a4_15 ?_
  refine G_iconst (pc := 16) (v := 2) (by decide) dJ6_bitCount_0f7a4_16 ?_
  refine G_iushr (pc := 17) rfl dJ6_bitCount_0f7a4_17 ?_
  refine G_ldcw (pc := 18) (v := 858993459) ck_RJ6_266 dJ6_bitCount_0f7a4_18 ?_
  refine G_iand (pc := 21) rfl dJ6_bitCount_0f7a4_21 ?_
  refine G_iadd (pc := 22) rfl dJ6_bitCount_0f7a4_22 ?_
  refine G_istore_n (pc := 23) (L1 := [some (.int (((a0 - (((a0).toUInt32 >>> ((1 : Int32).toUInt32 &&& Int32.toUInt32 31)).toInt32 &&& 1431655765)) &&& 858993459) + ((((a0 - (((a0).toUInt32 >>> ((1 : Int32).toUInt32 &&& Int32.toUInt32 31)).toInt32 &&& 1431655765))).toUInt32 >>> ((2 : Int32).toUInt32 &&& Int32.toUInt32 31)).toInt32 &&& 858993459)))]) rfl rfl (by decide) dJ6_bitCount_0f7a4_23 ?_
  refine G_iload_n (pc := 24) rfl dJ6_bitCount_0f7a4_24 ?_
  refine G_iload_n (pc := 25) rfl dJ6_bitCount_0f7a4_25 ?_
  refine G_iconst (pc := 26) (v := 4) (by decide) dJ6_bitCount_0f7a4_26 ?_
  refine G_iushr (pc := 27) rfl dJ6_bitCount_0f7a4_27 ?_
  refine G_iadd (pc := 28) rfl dJ6_bitCount_0f7a4_28 ?_
  refine G_ldcw (pc := 29) (v := 252645135) ck_RJ6_267 dJ6_bitCount_0f7a4_29 ?_
  refine G_iand (pc := 32) rfl dJ6_bitCount_0f7a4_32 ?_
  refine G_istore_n (pc := 33) (L1 := [some (.int (((((a0 - (((a0).toUInt32 >>> ((1 : Int32).toUInt32 &&& Int32.toUInt32 31)).toInt32 &&& 1431655765)) &&& 858993459) + ((((a0 - (((a0).toUInt32 >>> ((1 : Int32).toUInt32 &&& Int32.toUInt32 31)).toInt32 &&& 1431655765))).toUInt32 >>> ((2 : Int32).toUInt32 &&& Int32.toUInt32 31)).toInt32 &&& 858993459)) + (((((a0 - (((a0).toUInt32 >>> ((1 : Int32).toUInt32 &&& Int32.toUInt32 31)).toInt32 &&& 1431655765)) &&& 858993459) + ((((a0 - (((a0).toUInt32 >>> ((1 : Int32).toUInt32 &&& Int32.toUInt32 31)).toInt32 &&& 1431655765))).toUInt32 >>> ((2 : Int32).toUInt32 &&& Int32.toUInt32 31)).toInt32 &&& 858993459))).toUInt32 >>> ((4 : Int32).toUInt32 &&& Int32.toUInt32 31)).toInt32) &&& 252645135))]) rfl rfl (by decide) dJ6_bitCount_0f7a4_33 ?_
  refine G_iload_n (pc := 34) rfl dJ6_bitCount_0f7a4_34 ?_
  refine G_iload_n (pc := 35) rfl dJ6_bitCount_0f7a4_35 ?_
  refine G_bipush (pc := 36) (v := 8) (by decide) dJ6_bitCount_0f7a4_36 ?_
  refine G_iushr (pc := 38) rfl dJ6_bitCount_0f7a4_38 ?_
  refine G_iadd (pc := 39) rfl dJ6_bitCount_0f7a4_39 ?_
  refine G_istore_n (pc := 40) (L1 := [some (.int ((((((a0 - (((a0).toUInt32 >>> ((1 : Int32).toUInt32 &&& Int32.toUInt32 31)).toInt32 &&& 1431655765)) &&& 858993459) + ((((a0 - (((a0).toUInt32 >>> ((1 : Int32).toUInt32 &&& Int32.toUInt32 31)).toInt32 &&& 1431655765))).toUInt32 >>> ((2 : Int32).toUInt32 &&& Int32.toUInt32 31)).toInt32 &&& 858993459)) + (((((a0 - (((a0).toUInt32 >>> ((1 : Int32).toUInt32 &&& Int32.toUInt32 31)).toInt32 &&& 1431655765)) &&& 858993459) + ((((a0 - (((a0).toUInt32 >>> ((1 : Int32).toUInt32 &&& Int32.toUInt32 31)).toInt32 &&& 1431655765))).toUInt32 >>> ((2 : Int32).toUInt32 &&& Int32.toUInt32 31)).toInt32 &&& 858993459))).toUInt32 >>> ((4 : Int32).toUInt32 &&& Int32.toUInt32 31)).toInt32) &&& 252645135) + (((((((a0 - (((a0).toUInt32 >>> ((1 : Int32).toUInt32 &&& Int32.toUInt32 31)).toInt32 &&& 1431655765)) &&& 858993459) + ((((a0 - (((a0).toUInt32 >>> ((1 : Int32).toUInt32 &&& Int32.toUInt32 31)).toInt32 &&& 1431655765))).toUInt32 >>> ((2 : Int32).toUInt32 &&& Int32.toUInt32 31)).toInt32 &&& 858993459)) + (((((a0 - (((a0).toUInt32 >>> ((1 : Int32).toUInt32 &&& Int32.toUInt32 31)).toInt32 &&& 1431655765)) &&& 858993459) + ((((a0 - (((a0).toUInt32 >>> ((1 : Int32).toUInt32 &&& Int32.toUInt32 31)).toInt32 &&& 1431655765))).toUInt32 >>> ((2 : Int32).toUInt32 &&& Int32.toUInt32 31)).toInt32 &&& 858993459))).toUInt32 >>> ((4 : Int32).toUInt32 &&& Int32.toUInt32 31)).toInt32) &&& 252645135)).toUInt32 >>> ((8 : Int32).toUInt32 &&& Int32.toUInt32 31)).toInt32))]) rfl rfl (by decide) dJ6_bitCount_0f7a4_40 ?_
  refine G_iload_n (pc := 41) rfl dJ6_bitCount_0f7a4_41 ?_
  refine G_iload_n (pc := 42) rfl dJ6_bitCount_0f7a4_42 ?_
  refine G_bipush (pc := 43) (v := 16) (by decide) dJ6_bitCount_0f7a4_43 ?_
  refine G_iushr (pc := 45) rfl dJ6_bitCount_0f7a4_45 ?_
  refine G_iadd (pc := 46) rfl dJ6_bitCount_0f7a4_46 ?_
  refine G_istore_n (pc := 47) (L1 := [some (.int (((((((a0 - (((a0).toUInt32 >>> ((1 : Int32).toUInt32 &&& Int32.toUInt32 31)).toInt32 &&& 1431655765)) &&& 858993459) + ((((a0 - (((a0).toUInt32 >>> ((1 : Int32).toUInt32 &&& Int32.toUInt32 31)).toInt32 &&& 1431655765))).toUInt32 >>> ((2 : Int32).toUInt32 &&& Int32.toUInt32 31)).toInt32 &&& 858993459)) + (((((a0 - (((a0).toUInt32 >>> ((1 : Int32).toUInt32 &&& Int32.toUInt32 31)).toInt32 &&& 1431655765)) &&& 858993459) + ((((a0 - (((a0).toUInt32 >>> ((1 : Int32).toUInt32 &&& Int32.toUInt32 31)).toInt32 &&& 1431655765))).toUInt32 >>> ((2 : Int32).toUInt32 &&& Int32.toUInt32 31)).toInt32 &&& 858993459))).toUInt32 >>> ((4 : Int32).toUInt32 &&& Int32.toUInt32 31)).toInt32) &&& 252645135) + (((((((a0 - (((a0).toUInt32 >>> ((1 : Int32).toUInt32 &&& Int32.toUInt32 31)).toInt32 &&& 1431655765)) &&& 858993459) + ((((a0 - (((a0).toUInt32 >>> ((1 : Int32).toUInt32 &&& Int32.toUInt32 31)).toInt32 &&& 1431655765))).toUInt32 >>> ((2 : Int32).toUInt32 &&& Int32.toUInt32 31)).toInt32 &&& 858993459)) + (((((a0 - (((a0).toUInt32 >>> ((1 : Int32).toUInt32 &&& Int32.toUInt32 31)).toInt32 &&& 1431655765)) &&& 858993459) + ((((a0 - (((a0).toUInt32 >>> ((1 : Int32).toUInt32 &&& Int32.toUInt32 31)).toInt32 &&& 1431655765))).toUInt32 >>> ((2 : Int32).toUInt32 &&& Int32.toUInt32 31)).toInt32 &&& 858993459))).toUInt32 >>> ((4 : Int32).toUInt32 &&& Int32.toUInt32 31)).toInt32) &&& 252645135)).toUInt32 >>> ((8 : Int32).toUInt32 &&& Int32.toUInt32 31)).toInt32) + ((((((((a0 - (((a0).toUInt32 >>> ((1 : Int32).toUInt32 &&& Int32.toUInt32 31)).toInt32 &&& 1431655765)) &&& 858993459) + ((((a0 - (((a0).toUInt32 >>> ((1 : Int32).toUInt32 &&& Int32.toUInt32 31)).toInt32 &&& 1431655765))).toUInt32 >>> ((2 : Int32).toUInt32 &&& Int32.toUInt32 31)).toInt32 &&& 858993459)) + (((((a0 - (((a0).toUInt32 >>> ((1 : Int32).toUInt32 &&& Int32.toUInt32 31)).toInt32 &&& 1431655765)) &&& 858993459) + ((((a0 - (((a0).toUInt32 >>> ((1 : Int32).toUInt32 &&& Int32.toUInt32 31)).toInt32 &&& 1431655765))).toUInt32 >>> ((2 : Int32).toUInt32 &&& Int32.toUInt32 31)).toInt32 &&& 858993459))).toUInt32 >>> ((4 : Int32).toUInt32 &&& Int32.toUInt32 31)).toInt32) &&& 252645135) + (((((((a0 - (((a0).toUInt32 >>> ((1 : Int32).toUInt32 &&& Int32.toUInt32 31)).toInt32 &&& 1431655765)) &&& 858993459) + ((((a0 - (((a0).toUInt32 >>> ((1 : Int32).toUInt32 &&& Int32.toUInt32 31)).toInt32 &&& 1431655765))).toUInt32 >>> ((2 : Int32).toUInt32 &&& Int32.toUInt32 31)).toInt32 &&& 858993459)) + (((((a0 - (((a0).toUInt32 >>> ((1 : Int32).toUInt32 &&& Int32.toUInt32 31)).toInt32 &&& 1431655765)) &&& 858993459) + ((((a0 - (((a0).toUInt32 >>> ((1 : Int32).toUInt32 &&& Int32.toUInt32 31)).toInt32 &&& 1431655765))).toUInt32 >>> ((2 : Int32).toUInt32 &&& Int32.toUInt32 31)).toInt32 &&& 858993459))).toUInt32 >>> ((4 : Int32).toUInt32 &&& Int32.toUInt32 31)).toInt32) &&& 252645135)).toUInt32 >>> ((8 : Int32).toUInt32 &&& Int32.toUInt32 31)).toInt32)).toUInt32 >>> ((16 : Int32).toUInt32 &&& Int32.toUInt32 31)).toInt32))]) rfl rfl (by decide) dJ6_bitCount_0f7a4_47 ?_
  refine G_iload_n (pc := 48) rfl dJ6_bitCount_0f7a4_48 ?_
  refine G_bipush (pc := 49) (v := 63) (by decide) dJ6_bitCount_0f7a4_49 ?_
  refine G_iand (pc := 51) rfl dJ6_bitCount_0f7a4_51 ?_
  exact G_iret (pc := 52) (Nat.le_of_ble_eq_true rfl) (Nat.le_of_ble_eq_true rfl) rfl dJ6_bitCount_0f7a4_52 ⟨rfl, rfl⟩
set_option maxRecDepth 100000 in
set_option maxHeartbeats 4000000 in
theorem s208_X11_leastOf  (d : Nat)  (a0 : Int32) : G (d + 1) mX11_leastOf 0 0 0 0 0 (gent 1 [.int a0]) [] SH0 RF0 (gup (gup (gcp (gup (gup (gcp (gup (gup (gup (gcp (gup (gup (gup (gcp I0 24 34 (0 : Int32).toNatClampNeg (0 : Int32).toNatClampNeg (6 : Int32).toNatClampNeg) 34 6 0) 34 7 0) 19 1 1) 24 34 (0 : Int32).toNatClampNeg (8 : Int32).toNatClampNeg (6 : Int32).toNatClampNeg) 34 14 0) 34 15 1) 19 1 2) 34 24 (8 : Int32).toNatClampNeg (0 : Int32).toNatClampNeg (6 : Int32).toNatClampNeg) 19 9 0) 19 1 1) 34 24 (0 : Int32).toNatClampNeg (0 : Int32).toNatClampNeg (6 : Int32).toNatClampNeg) 19 9 0) 19 1 0) (fun r h => r = some (.int (((((((((((a0 &&& (-a0)) - 1)) - ((((((a0 &&& (-a0)) - 1))).toUInt32 >>> ((1 : Int32).toUInt32 &&& Int32.toUInt32 31)).toInt32 &&& 1431655765)) &&& 858993459) + (((((((a0 &&& (-a0)) - 1)) - ((((((a0 &&& (-a0)) - 1))).toUInt32 >>> ((1 : Int32).toUInt32 &&& Int32.toUInt32 31)).toInt32 &&& 1431655765))).toUInt32 >>> ((2 : Int32).toUInt32 &&& Int32.toUInt32 31)).toInt32 &&& 858993459)) + ((((((((a0 &&& (-a0)) - 1)) - ((((((a0 &&& (-a0)) - 1))).toUInt32 >>> ((1 : Int32).toUInt32 &&& Int32.toUInt32 31)).toInt32 &&& 1431655765)) &&& 858993459) + (((((((a0 &&& (-a0)) - 1)) - ((((((a0 &&& (-a0)) - 1))).toUInt32 >>> ((1 : Int32).toUInt32 &&& Int32.toUInt32 31)).toInt32 &&& 1431655765))).toUInt32 >>> ((2 : Int32).toUInt32 &&& Int32.toUInt32 31)).toInt32 &&& 858993459))).toUInt32 >>> ((4 : Int32).toUInt32 &&& Int32.toUInt32 31)).toInt32) &&& 252645135) + ((((((((((a0 &&& (-a0)) - 1)) - ((((((a0 &&& (-a0)) - 1))).toUInt32 >>> ((1 : Int32).toUInt32 &&& Int32.toUInt32 31)).toInt32 &&& 1431655765)) &&& 858993459) + (((((((a0 &&& (-a0)) - 1)) - ((((((a0 &&& (-a0)) - 1))).toUInt32 >>> ((1 : Int32).toUInt32 &&& Int32.toUInt32 31)).toInt32 &&& 1431655765))).toUInt32 >>> ((2 : Int32).toUInt32 &&& Int32.toUInt32 31)).toInt32 &&& 858993459)) + ((((((((a0 &&& (-a0)) - 1)) - ((((((a0 &&& (-a0)) - 1))).toUInt32 >>> ((1 : Int32).toUInt32 &&& Int32.toUInt32 31)).toInt32 &&& 1431655765)) &&& 858993459) + (((((((a0 &&& (-a0)) - 1)) - ((((((a0 &&& (-a0)) - 1))).toUInt32 >>> ((1 : Int32).toUInt32 &&& Int32.toUInt32 31)).toInt32 &&& 1431655765))).toUInt32 >>> ((2 : Int32).toUInt32 &&& Int32.toUInt32 31)).toInt32 &&& 858993459))).toUInt32 >>> ((4 : Int32).toUInt32 &&& Int32.toUInt32 31)).toInt32) &&& 252645135)).toUInt32 >>> ((8 : Int32).toUInt32 &&& Int32.toUInt32 31)).toInt32) + (((((((((((a0 &&& (-a0)) - 1)) - ((((((a0 &&& (-a0)) - 1))).toUInt32 >>> ((1 : Int32).toUInt32 &&& Int32.toUInt32 31)).toInt32 &&& 1431655765)) &&& 858993459) + (((((((a0 &&& (-a0)) - 1)) - ((((((a0 &&& (-a0)) - 1))).toUInt32 >>> ((1 : Int32).toUInt32 &&& Int32.toUInt32 31)).toInt32 &&& 1431655765))).toUInt32 >>> ((2 : Int32).toUInt32 &&& Int32.toUInt32 31)).toInt32 &&& 858993459)) + ((((((((a0 &&& (-a0)) - 1)) - ((((((a0 &&& (-a0)) - 1))).toUInt32 >>> ((1 : Int32).toUInt32 &&& Int32.toUInt32 31)).toInt32 &&& 1431655765)) &&& 858993459) + (((((((a0 &&& (-a0)) - 1)) - ((((((a0 &&& (-a0)) - 1))).toUInt32 >>> ((1 : Int32).toUInt32 &&& Int32.toUInt32 31)).toInt32 &&& 1431655765))).toUInt32 >>> ((2 : Int32).toUInt32 &&& Int32.toUInt32 31)).toInt32 &&& 858993459))).toUInt32 >>> ((4 : Int32).toUInt32 &&& Int32.toUInt32 31)).toInt32) &&& 252645135) + ((((((((((a0 &&& (-a0)) - 1)) - ((((((a0 &&& (-a0)) - 1))).toUInt32 >>> ((1 : Int32).toUInt32 &&& Int32.toUInt32 31)).toInt32 &&& 1431655765)) &&& 858993459) + (((((((a0 &&& (-a0)) - 1)) - ((((((a0 &&& (-a0)) - 1))).toUInt32 >>> ((1 : Int32).toUInt32 &&& Int32.toUInt32 31)).toInt32 &&& 1431655765))).toUInt32 >>> ((2 : Int32).toUInt32 &&& Int32.toUInt32 31)).toInt32 &&& 858993459)) + ((((((((a0 &&& (-a0)) - 1)) - ((((((a0 &&& (-a0)) - 1))).toUInt32 >>> ((1 : Int32).toUInt32 &&& Int32.toUInt32 31)).toInt32 &&& 1431655765)) &&& 858993459) + (((((((a0 &&& (-a0)) - 1)) - ((((((a0 &&& (-a0)) - 1))).toUInt32 >>> ((1 : Int32).toUInt32 &&& Int32.toUInt32 31)).toInt32 &&& 1431655765))).toUInt32 >>> ((2 : Int32).toUInt32 &&& Int32.toUInt32 31)).toInt32 &&& 858993459))).toUInt32 >>> ((4 : Int32).toUInt32 &&& Int32.toUInt32 31)).toInt32) &&& 252645135)).toUInt32 >>> ((8 : Int32).toUInt32 &&& Int32.toUInt32 31)).toInt32)).toUInt32 >>> ((16 : Int32).toUInt32 &&& Int32.toUInt32 31)).toInt32) &&& 63)) ∧ h = (SH0, RF0, (gup (gup (gcp (gup (gup (gcp (gup (gup (gup (gcp (gup (gup (gup (gcp I0 24 34 (0 : Int32).toNatClampNeg (0 : Int32).toNatClampNeg (6 : Int32).toNatClampNeg) 34 6 0) 34 7 0) 19 1 1) 24 34 (0 : Int32).toNatClampNeg (8 : Int32).toNatClampNeg (6 : Int32).toNatClampNeg) 34 14 0) 34 15 1) 19 1 2) 34 24 (8 : Int32).toNatClampNeg (0 : Int32).toNatClampNeg (6 : Int32).toNatClampNeg) 19 9 0) 19 1 1) 34 24 (0 : Int32).toNatClampNeg (0 : Int32).toNatClampNeg (6 : Int32).toNatClampNeg) 19 9 0) 19 1 0))) := by
  refine G_iload_n (pc := 0) rfl dX11_leastOf_0 ?_
  refine G_iload_n (pc := 1) rfl dX11_leastOf_1 ?_
  refine G_ineg (pc := 2) rfl dX11_leastOf_2 ?_
  refine G_iand (pc := 3) rfl dX11_leastOf_3 ?_
  refine G_iconst (pc := 4) (v := 1) (by decide) dX11_leastOf_4 ?_
  refine G_isub (pc := 5) rfl dX11_leastOf_5 ?_
  refine G_callS (pc := 6) (mc1 := 0) (ms1 := 0) (mj := mJ6_bitCount_0f7a4) (vs := [_]) dX11_leastOf_6 cm_J6_bitCount_0f7a4 wf_46 wf_49 rfl (Nat.le_of_ble_eq_true rfl) (Nat.le_of_ble_eq_true rfl) (Nat.le_of_ble_eq_true rfl) (Nat.le_of_ble_eq_true rfl) (s209_J6_bitCount_0f7a4  d  _) ?_
  rintro _ _ ⟨rfl, rfl⟩
  dsimp only [Option.toList, List.cons_append, List.nil_append]
  exact G_iret (pc := 9) (Nat.le_of_ble_eq_true rfl) (Nat.le_of_ble_eq_true rfl) rfl dX11_leastOf_9 ⟨rfl, rfl⟩
set_option maxRecDepth 100000 in
set_option maxHeartbeats 4000000 in
theorem s213_X4_reach  (d : Nat)   : G (d + 1) mX4_reach 0 0 0 0 0 (gent 6 [.ref 51, .int 3, .int 0]) [] SH0 RF0 (gup (gup (gup (gcp (gup (gup (gup (gcp (gup (gup (gup (gcp I0 24 34 (0 : Int32).toNatClampNeg (0 : Int32).toNatClampNeg (6 : Int32).toNatClampNeg) 34 6 0) 34 7 0) 19 1 1) 24 34 (0 : Int32).toNatClampNeg (8 : Int32).toNatClampNeg (6 : Int32).toNatClampNeg) 34 14 0) 34 15 1) 19 1 2) 24 34 (0 : Int32).toNatClampNeg (16 : Int32).toNatClampNeg (6 : Int32).toNatClampNeg) 34 22 0) 34 23 2) 19 1 3) (fun r h => r = some (.int 0) ∧ h = (SH0, RF0, (gup (gup (gup (gcp (gup (gup (gup (gcp (gup (gup (gup (gcp I0 24 34 (0 : Int32).toNatClampNeg (0 : Int32).toNatClampNeg (6 : Int32).toNatClampNeg) 34 6 0) 34 7 0) 19 1 1) 24 34 (0 : Int32).toNatClampNeg (8 : Int32).toNatClampNeg (6 : Int32).toNatClampNeg) 34 14 0) 34 15 1) 19 1 2) 24 34 (0 : Int32).toNatClampNeg (16 : Int32).toNatClampNeg (6 : Int32).toNatClampNeg) 34 22 0) 34 23 2) 19 1 3))) := by
  refine G_aload_n (pc := 0) rfl dX4_reach_0 ?_
  refine G_getR (pc := 1) (r := 19) (ci := 4) (j := 0) rfl lk_RX4_21 rfl rfl rfl dX4_reach_1 ?_
  refine G_getI (pc := 4) (v := 0) (ci := 1) (j := 9) rfl rfl lk_RX4_62 rfl rfl dX4_reach_4 ?_
  refine G_istore_n (pc := 7) (L1 := [some (.ref 51), some (.int 3), some (.int 0), some (.int 0), none, none]) rfl rfl (by decide) dX4_reach_7 ?_
  refine G_aload_n (pc := 8) rfl dX4_reach_8 ?_
  refine G_iload_n (pc := 9) rfl dX4_reach_9 ?_
  refine G_iload_n (pc := 10) rfl dX4_reach_10 ?_
  refine G_callV (pc := 11) (mc1 := 0) (ms1 := 0) (ci := 4) (mj := mX4_isLast) (vs := [_, _]) dX4_reach_11 rfl rfl cm_X4_isLast wf_126 wf_129 wf_130 rfl (Nat.le_of_ble_eq_true rfl) (Nat.le_of_ble_eq_true rfl) (Nat.le_of_ble_eq_true rfl) (Nat.le_of_ble_eq_true rfl) (s175_X4_isLast  d  ) ?_
  rintro _ _ ⟨rfl, rfl⟩
  dsimp only [Option.toList, List.cons_append, List.nil_append]
  refine G_if_eq (pc := 14) (tgt := 19) (by decide) dX4_reach_14 (fun z => absurd z (by decide)) (fun _ => ?_)
  refine G_iload_n (pc := 17) rfl dX4_reach_17 ?_
  exact G_iret (pc := 18) (Nat.le_of_ble_eq_true rfl) (Nat.le_of_ble_eq_true rfl) rfl dX4_reach_18 ⟨rfl, rfl⟩
set_option maxRecDepth 100000 in
set_option maxHeartbeats 4000000 in
theorem s214_X1_restore  (d : Nat)   : G (d + 1) mX1_restore 0 0 0 0 0 (gent 3 [.ref 19, .int 2]) [] SH0 RF0 (gup (gup (gup (gcp (gup (gup (gup (gcp (gup (gup (gup (gcp I0 24 34 (0 : Int32).toNatClampNeg (0 : Int32).toNatClampNeg (6 : Int32).toNatClampNeg) 34 6 0) 34 7 0) 19 1 1) 24 34 (0 : Int32).toNatClampNeg (8 : Int32).toNatClampNeg (6 : Int32).toNatClampNeg) 34 14 0) 34 15 1) 19 1 2) 24 34 (0 : Int32).toNatClampNeg (16 : Int32).toNatClampNeg (6 : Int32).toNatClampNeg) 34 22 0) 34 23 2) 19 1 3) (fun r h => r = none ∧ h = (SH0, RF0, (gup (gup (gcp (gup (gup (gup (gcp (gup (gup (gup (gcp (gup (gup (gup (gcp I0 24 34 (0 : Int32).toNatClampNeg (0 : Int32).toNatClampNeg (6 : Int32).toNatClampNeg) 34 6 0) 34 7 0) 19 1 1) 24 34 (0 : Int32).toNatClampNeg (8 : Int32).toNatClampNeg (6 : Int32).toNatClampNeg) 34 14 0) 34 15 1) 19 1 2) 24 34 (0 : Int32).toNatClampNeg (16 : Int32).toNatClampNeg (6 : Int32).toNatClampNeg) 34 22 0) 34 23 2) 19 1 3) 34 24 (16 : Int32).toNatClampNeg (0 : Int32).toNatClampNeg (6 : Int32).toNatClampNeg) 19 9 0) 19 1 2))) := by
  refine G_iload_n (pc := 0) rfl dX1_restore_0 ?_
  refine G_bipush (pc := 1) (v := 8) (by decide) dX1_restore_1 ?_
  refine G_imul (pc := 3) (z := 16) (by decide) dX1_restore_3 ?_
  refine G_istore_n (pc := 4) (L1 := [some (.ref 19), some (.int 2), some (.int 16)]) rfl rfl (by decide) dX1_restore_4 ?_
  refine G_aload_n (pc := 5) rfl dX1_restore_5 ?_
  refine G_getR (pc := 6) (r := 34) (ci := 1) (j := 18) rfl lk_RX1_53 rfl rfl rfl dX1_restore_6 ?_
  refine G_iload_n (pc := 9) rfl dX1_restore_9 ?_
  refine G_aload_n (pc := 10) rfl dX1_restore_10 ?_
  refine G_getR (pc := 11) (r := 24) (ci := 1) (j := 11) rfl lk_RX1_31 rfl rfl rfl dX1_restore_11 ?_
  refine G_iconst (pc := 14) (v := 0) (by decide) dX1_restore_14 ?_
  refine G_bipush (pc := 15) (v := 6) (by decide) dX1_restore_15 ?_
  refine G_copy (pc := 17) (x := 34) (y := 24) rfl rfl (by decide) (by decide) (by decide) (by decide) (by decide) wf_50 wf_51 wf_52 wf_53 (Nat.le_of_ble_eq_true rfl) dX1_restore_17 ?_
  refine G_aload_n (pc := 20) rfl dX1_restore_20 ?_
  refine G_aload_n (pc := 21) rfl dX1_restore_21 ?_
  refine G_getR (pc := 22) (r := 34) (ci := 1) (j := 18) rfl lk_RX1_53 rfl rfl rfl dX1_restore_22 ?_
  refine G_iload_n (pc := 25) rfl dX1_restore_25 ?_
  refine G_bipush (pc := 26) (v := 6) (by decide) dX1_restore_26 ?_
  refine G_iadd (pc := 28) (z := 22) (by decide) dX1_restore_28 ?_
  refine G_iald (pc := 29) (jj := 22) (v := 0) (by decide) rfl rfl (by unfold vp_in; decide) dX1_restore_29 ?_
  refine G_putI (pc := 30) (ci := 1) (j := 9) rfl lk_RX1_75 rfl rfl rfl trivial dX1_restore_30 ?_
  refine G_aload_n (pc := 33) rfl dX1_restore_33 ?_
  refine G_aload_n (pc := 34) rfl dX1_restore_34 ?_
  refine G_getR (pc := 35) (r := 34) (ci := 1) (j := 18) rfl lk_RX1_53 rfl rfl rfl dX1_restore_35 ?_
  refine G_iload_n (pc := 38) rfl dX1_restore_38 ?_
  refine G_bipush (pc := 39) (v := 6) (by decide) dX1_restore_39 ?_
  refine G_iadd (pc := 41) (z := 22) (by decide) dX1_restore_41 ?_
  refine G_iconst (pc := 42) (v := 1) (by decide) dX1_restore_42 ?_
  refine G_iadd (pc := 43) (z := 23) (by decide) dX1_restore_43 ?_
  refine G_iald (pc := 44) (jj := 23) (v := 2) (by decide) rfl rfl (by unfold vp_in; decide) dX1_restore_44 ?_
  refine G_putI (pc := 45) (ci := 1) (j := 1) rfl lk_RX1_60 rfl rfl rfl trivial dX1_restore_45 ?_
  exact G_vret (pc := 48) (Nat.le_of_ble_eq_true rfl) (Nat.le_of_ble_eq_true rfl) rfl dX1_restore_48 ⟨rfl, rfl⟩
set_option maxRecDepth 100000 in
set_option maxHeartbeats 4000000 in
theorem s212_X4_reach  (d : Nat)   : G (d + 2) mX4_reach 0 0 0 0 0 (gent 6 [.ref 51, .int 2, .int 1]) [] SH0 RF0 (gup (gup (gup (gcp (gup (gup (gup (gcp I0 24 34 (0 : Int32).toNatClampNeg (0 : Int32).toNatClampNeg (6 : Int32).toNatClampNeg) 34 6 0) 34 7 0) 19 1 1) 24 34 (0 : Int32).toNatClampNeg (8 : Int32).toNatClampNeg (6 : Int32).toNatClampNeg) 34 14 0) 34 15 1) 19 1 2) (fun r h => r = some (.int 0) ∧ h = (SH0, RF0, (gup (gup (gcp (gup (gup (gup (gcp (gup (gup (gup (gcp (gup (gup (gup (gcp I0 24 34 (0 : Int32).toNatClampNeg (0 : Int32).toNatClampNeg (6 : Int32).toNatClampNeg) 34 6 0) 34 7 0) 19 1 1) 24 34 (0 : Int32).toNatClampNeg (8 : Int32).toNatClampNeg (6 : Int32).toNatClampNeg) 34 14 0) 34 15 1) 19 1 2) 24 34 (0 : Int32).toNatClampNeg (16 : Int32).toNatClampNeg (6 : Int32).toNatClampNeg) 34 22 0) 34 23 2) 19 1 3) 34 24 (16 : Int32).toNatClampNeg (0 : Int32).toNatClampNeg (6 : Int32).toNatClampNeg) 19 9 0) 19 1 2))) := by
  refine G_aload_n (pc := 0) rfl dX4_reach_0 ?_
  refine G_getR (pc := 1) (r := 19) (ci := 4) (j := 0) rfl lk_RX4_21 rfl rfl rfl dX4_reach_1 ?_
  refine G_getI (pc := 4) (v := 0) (ci := 1) (j := 9) rfl rfl lk_RX4_62 rfl rfl dX4_reach_4 ?_
  refine G_istore_n (pc := 7) (L1 := [some (.ref 51), some (.int 2), some (.int 1), some (.int 0), none, none]) rfl rfl (by decide) dX4_reach_7 ?_
  refine G_aload_n (pc := 8) rfl dX4_reach_8 ?_
  refine G_iload_n (pc := 9) rfl dX4_reach_9 ?_
  refine G_iload_n (pc := 10) rfl dX4_reach_10 ?_
  refine G_callV (pc := 11) (mc1 := 0) (ms1 := 0) (ci := 4) (mj := mX4_isLast) (vs := [_, _]) dX4_reach_11 rfl rfl cm_X4_isLast wf_126 wf_129 wf_130 rfl (Nat.le_of_ble_eq_true rfl) (Nat.le_of_ble_eq_true rfl) (Nat.le_of_ble_eq_true rfl) (Nat.le_of_ble_eq_true rfl) (s168_X4_isLast  d  ) ?_
  rintro _ _ ⟨rfl, rfl⟩
  dsimp only [Option.toList, List.cons_append, List.nil_append]
  refine G_if_eq (pc := 14) (tgt := 19) (by decide) dX4_reach_14 (fun _ => ?_) (fun z => absurd (by decide) z)
  refine G_aload_n (pc := 19) rfl dX4_reach_19 ?_
  refine G_getR (pc := 20) (r := 19) (ci := 4) (j := 0) rfl lk_RX4_21 rfl rfl rfl dX4_reach_20 ?_
  refine G_iload_n (pc := 23) rfl dX4_reach_23 ?_
  refine G_callV (pc := 24) (mc1 := 0) (ms1 := 0) (ci := 1) (mj := mX1_save) (vs := [_]) dX4_reach_24 rfl rfl cm_X1_save wf_134 wf_105 wf_106 rfl (Nat.le_of_ble_eq_true rfl) (Nat.le_of_ble_eq_true rfl) (Nat.le_of_ble_eq_true rfl) (Nat.le_of_ble_eq_true rfl) (s170_X1_save  d  ) ?_
  rintro _ _ ⟨rfl, rfl⟩
  dsimp only [Option.toList, List.cons_append, List.nil_append]
  refine G_iconst (pc := 27) (v := 0) (by decide) dX4_reach_27 ?_
  refine G_istore (pc := 28) (L1 := [some (.ref 51), some (.int 2), some (.int 1), some (.int 0), some (.int 0), none]) rfl rfl (by decide) dX4_reach_28 ?_
  refine G_iload (pc := 30) rfl dX4_reach_30 ?_
  refine G_aload_n (pc := 32) rfl dX4_reach_32 ?_
  refine G_getR (pc := 33) (r := 19) (ci := 4) (j := 0) rfl lk_RX4_21 rfl rfl rfl dX4_reach_33 ?_
  refine G_getI (pc := 36) (v := 0) (ci := 1) (j := 8) rfl rfl lk_RX4_39 rfl rfl dX4_reach_36 ?_
  refine G_icmp_gt (pc := 39) (tgt := 98) (by decide) dX4_reach_39 (fun z => absurd z (by decide)) (fun _ => ?_)
  refine G_aload_n (pc := 42) rfl dX4_reach_42 ?_
  refine G_getR (pc := 43) (r := 19) (ci := 4) (j := 0) rfl lk_RX4_21 rfl rfl rfl dX4_reach_43 ?_
  refine G_iload (pc := 46) rfl dX4_reach_46 ?_
  refine G_callV (pc := 48) (mc1 := 0) (ms1 := 0) (ci := 1) (mj := mX1_tell) (vs := [_]) dX4_reach_48 rfl rfl cm_X1_tell wf_135 wf_71 wf_72 rfl (Nat.le_of_ble_eq_true rfl) (Nat.le_of_ble_eq_true rfl) (Nat.le_of_ble_eq_true rfl) (Nat.le_of_ble_eq_true rfl) (s171_X1_tell  d  ) ?_
  rintro _ _ ⟨rfl, rfl⟩
  dsimp only [Option.toList, List.cons_append, List.nil_append]
  refine G_istore (pc := 51) (L1 := [some (.ref 51), some (.int 2), some (.int 1), some (.int 0), some (.int 0), some (.int 0)]) rfl rfl (by decide) dX4_reach_51 ?_
  refine G_iload (pc := 53) rfl dX4_reach_53 ?_
  refine G_if_eq (pc := 55) (tgt := 63) (by decide) dX4_reach_55 (fun _ => ?_) (fun z => absurd (by decide) z)
  refine G_aload_n (pc := 63) rfl dX4_reach_63 ?_
  refine G_getR (pc := 64) (r := 19) (ci := 4) (j := 0) rfl lk_RX4_21 rfl rfl rfl dX4_reach_64 ?_
  refine G_callV (pc := 67) (mc1 := 0) (ms1 := 0) (ci := 1) (mj := mX1_melt) (vs := []) dX4_reach_67 rfl rfl cm_X1_melt wf_136 wf_75 wf_76 rfl (Nat.le_of_ble_eq_true rfl) (Nat.le_of_ble_eq_true rfl) (Nat.le_of_ble_eq_true rfl) (Nat.le_of_ble_eq_true rfl) (s173_X1_melt  (d + 1)  ) ?_
  rintro _ _ ⟨rfl, rfl⟩
  dsimp only [Option.toList, List.cons_append, List.nil_append]
  refine G_pop (pc := 70) rfl dX4_reach_70 ?_
  refine G_iload_n (pc := 71) rfl dX4_reach_71 ?_
  refine G_aload_n (pc := 72) rfl dX4_reach_72 ?_
  refine G_iload_n (pc := 73) rfl dX4_reach_73 ?_
  refine G_iconst (pc := 74) (v := 1) (by decide) dX4_reach_74 ?_
  refine G_iadd (pc := 75) (z := 3) (by decide) dX4_reach_75 ?_
  refine G_iload_n (pc := 76) rfl dX4_reach_76 ?_
  refine G_iconst (pc := 77) (v := 1) (by decide) dX4_reach_77 ?_
  refine G_isub (pc := 78) (z := 0) (by decide) dX4_reach_78 ?_
  refine G_callV (pc := 79) (mc1 := 0) (ms1 := 0) (ci := 4) (mj := mX4_reach) (vs := [_, _]) dX4_reach_79 rfl rfl cm_X4_reach wf_167 wf_162 wf_163 rfl (Nat.le_of_ble_eq_true rfl) (Nat.le_of_ble_eq_true rfl) (Nat.le_of_ble_eq_true rfl) (Nat.le_of_ble_eq_true rfl) (s213_X4_reach  d  ) ?_
  rintro _ _ ⟨rfl, rfl⟩
  dsimp only [Option.toList, List.cons_append, List.nil_append]
  refine G_ior (pc := 82) (z := 0) (by decide) dX4_reach_82 ?_
  refine G_istore_n (pc := 83) (L1 := [some (.ref 51), some (.int 2), some (.int 1), some (.int 0), some (.int 0), some (.int 0)]) rfl rfl (by decide) dX4_reach_83 ?_
  refine G_aload_n (pc := 84) rfl dX4_reach_84 ?_
  refine G_getR (pc := 85) (r := 19) (ci := 4) (j := 0) rfl lk_RX4_21 rfl rfl rfl dX4_reach_85 ?_
  refine G_iload_n (pc := 88) rfl dX4_reach_88 ?_
  refine G_callV (pc := 89) (mc1 := 0) (ms1 := 0) (ci := 1) (mj := mX1_restore) (vs := [_]) dX4_reach_89 rfl rfl cm_X1_restore wf_138 wf_109 wf_110 rfl (Nat.le_of_ble_eq_true rfl) (Nat.le_of_ble_eq_true rfl) (Nat.le_of_ble_eq_true rfl) (Nat.le_of_ble_eq_true rfl) (s214_X1_restore  d  ) ?_
  rintro _ _ ⟨rfl, rfl⟩
  dsimp only [Option.toList, List.cons_append, List.nil_append]
  refine G_iinc (pc := 92) (v := 1) (w := 1) (L1 := [some (.ref 51), some (.int 2), some (.int 1), some (.int 0), some (.int 1), some (.int 0)]) (by decide) rfl rfl (by decide) rfl (by decide) dX4_reach_92 ?_
  refine G_goto (pc := 95) (tgt := 30) (by decide) dX4_reach_95 ?_
  refine G_iload (pc := 30) rfl dX4_reach_30 ?_
  refine G_aload_n (pc := 32) rfl dX4_reach_32 ?_
  refine G_getR (pc := 33) (r := 19) (ci := 4) (j := 0) rfl lk_RX4_21 rfl rfl rfl dX4_reach_33 ?_
  refine G_getI (pc := 36) (v := 0) (ci := 1) (j := 8) rfl rfl lk_RX4_39 rfl rfl dX4_reach_36 ?_
  refine G_icmp_gt (pc := 39) (tgt := 98) (by decide) dX4_reach_39 (fun _ => ?_) (fun z => absurd (by decide) z)
  refine G_iload_n (pc := 98) rfl dX4_reach_98 ?_
  exact G_iret (pc := 99) (Nat.le_of_ble_eq_true rfl) (Nat.le_of_ble_eq_true rfl) rfl dX4_reach_99 ⟨rfl, rfl⟩
set_option maxRecDepth 100000 in
set_option maxHeartbeats 4000000 in
theorem s215_X1_restore  (d : Nat)   : G (d + 1) mX1_restore 0 0 0 0 0 (gent 3 [.ref 19, .int 1]) [] SH0 RF0 (gup (gup (gcp (gup (gup (gup (gcp (gup (gup (gup (gcp (gup (gup (gup (gcp I0 24 34 (0 : Int32).toNatClampNeg (0 : Int32).toNatClampNeg (6 : Int32).toNatClampNeg) 34 6 0) 34 7 0) 19 1 1) 24 34 (0 : Int32).toNatClampNeg (8 : Int32).toNatClampNeg (6 : Int32).toNatClampNeg) 34 14 0) 34 15 1) 19 1 2) 24 34 (0 : Int32).toNatClampNeg (16 : Int32).toNatClampNeg (6 : Int32).toNatClampNeg) 34 22 0) 34 23 2) 19 1 3) 34 24 (16 : Int32).toNatClampNeg (0 : Int32).toNatClampNeg (6 : Int32).toNatClampNeg) 19 9 0) 19 1 2) (fun r h => r = none ∧ h = (SH0, RF0, (gup (gup (gcp (gup (gup (gcp (gup (gup (gup (gcp (gup (gup (gup (gcp (gup (gup (gup (gcp I0 24 34 (0 : Int32).toNatClampNeg (0 : Int32).toNatClampNeg (6 : Int32).toNatClampNeg) 34 6 0) 34 7 0) 19 1 1) 24 34 (0 : Int32).toNatClampNeg (8 : Int32).toNatClampNeg (6 : Int32).toNatClampNeg) 34 14 0) 34 15 1) 19 1 2) 24 34 (0 : Int32).toNatClampNeg (16 : Int32).toNatClampNeg (6 : Int32).toNatClampNeg) 34 22 0) 34 23 2) 19 1 3) 34 24 (16 : Int32).toNatClampNeg (0 : Int32).toNatClampNeg (6 : Int32).toNatClampNeg) 19 9 0) 19 1 2) 34 24 (8 : Int32).toNatClampNeg (0 : Int32).toNatClampNeg (6 : Int32).toNatClampNeg) 19 9 0) 19 1 1))) := by
  refine G_iload_n (pc := 0) rfl dX1_restore_0 ?_
  refine G_bipush (pc := 1) (v := 8) (by decide) dX1_restore_1 ?_
  refine G_imul (pc := 3) (z := 8) (by decide) dX1_restore_3 ?_
  refine G_istore_n (pc := 4) (L1 := [some (.ref 19), some (.int 1), some (.int 8)]) rfl rfl (by decide) dX1_restore_4 ?_
  refine G_aload_n (pc := 5) rfl dX1_restore_5 ?_
  refine G_getR (pc := 6) (r := 34) (ci := 1) (j := 18) rfl lk_RX1_53 rfl rfl rfl dX1_restore_6 ?_
  refine G_iload_n (pc := 9) rfl dX1_restore_9 ?_
  refine G_aload_n (pc := 10) rfl dX1_restore_10 ?_
  refine G_getR (pc := 11) (r := 24) (ci := 1) (j := 11) rfl lk_RX1_31 rfl rfl rfl dX1_restore_11 ?_
  refine G_iconst (pc := 14) (v := 0) (by decide) dX1_restore_14 ?_
  refine G_bipush (pc := 15) (v := 6) (by decide) dX1_restore_15 ?_
  refine G_copy (pc := 17) (x := 34) (y := 24) rfl rfl (by decide) (by decide) (by decide) (by decide) (by decide) wf_50 wf_51 wf_52 wf_53 (Nat.le_of_ble_eq_true rfl) dX1_restore_17 ?_
  refine G_aload_n (pc := 20) rfl dX1_restore_20 ?_
  refine G_aload_n (pc := 21) rfl dX1_restore_21 ?_
  refine G_getR (pc := 22) (r := 34) (ci := 1) (j := 18) rfl lk_RX1_53 rfl rfl rfl dX1_restore_22 ?_
  refine G_iload_n (pc := 25) rfl dX1_restore_25 ?_
  refine G_bipush (pc := 26) (v := 6) (by decide) dX1_restore_26 ?_
  refine G_iadd (pc := 28) (z := 14) (by decide) dX1_restore_28 ?_
  refine G_iald (pc := 29) (jj := 14) (v := 0) (by decide) rfl rfl (by unfold vp_in; decide) dX1_restore_29 ?_
  refine G_putI (pc := 30) (ci := 1) (j := 9) rfl lk_RX1_75 rfl rfl rfl trivial dX1_restore_30 ?_
  refine G_aload_n (pc := 33) rfl dX1_restore_33 ?_
  refine G_aload_n (pc := 34) rfl dX1_restore_34 ?_
  refine G_getR (pc := 35) (r := 34) (ci := 1) (j := 18) rfl lk_RX1_53 rfl rfl rfl dX1_restore_35 ?_
  refine G_iload_n (pc := 38) rfl dX1_restore_38 ?_
  refine G_bipush (pc := 39) (v := 6) (by decide) dX1_restore_39 ?_
  refine G_iadd (pc := 41) (z := 14) (by decide) dX1_restore_41 ?_
  refine G_iconst (pc := 42) (v := 1) (by decide) dX1_restore_42 ?_
  refine G_iadd (pc := 43) (z := 15) (by decide) dX1_restore_43 ?_
  refine G_iald (pc := 44) (jj := 15) (v := 1) (by decide) rfl rfl (by unfold vp_in; decide) dX1_restore_44 ?_
  refine G_putI (pc := 45) (ci := 1) (j := 1) rfl lk_RX1_60 rfl rfl rfl trivial dX1_restore_45 ?_
  exact G_vret (pc := 48) (Nat.le_of_ble_eq_true rfl) (Nat.le_of_ble_eq_true rfl) rfl dX1_restore_48 ⟨rfl, rfl⟩
set_option maxRecDepth 100000 in
set_option maxHeartbeats 4000000 in
theorem s211_X4_reach  (d : Nat)   : G (d + 3) mX4_reach 0 0 0 0 0 (gent 6 [.ref 51, .int 1, .int 2]) [] SH0 RF0 (gup (gup (gup (gcp I0 24 34 (0 : Int32).toNatClampNeg (0 : Int32).toNatClampNeg (6 : Int32).toNatClampNeg) 34 6 0) 34 7 0) 19 1 1) (fun r h => r = some (.int 0) ∧ h = (SH0, RF0, (gup (gup (gcp (gup (gup (gcp (gup (gup (gup (gcp (gup (gup (gup (gcp (gup (gup (gup (gcp I0 24 34 (0 : Int32).toNatClampNeg (0 : Int32).toNatClampNeg (6 : Int32).toNatClampNeg) 34 6 0) 34 7 0) 19 1 1) 24 34 (0 : Int32).toNatClampNeg (8 : Int32).toNatClampNeg (6 : Int32).toNatClampNeg) 34 14 0) 34 15 1) 19 1 2) 24 34 (0 : Int32).toNatClampNeg (16 : Int32).toNatClampNeg (6 : Int32).toNatClampNeg) 34 22 0) 34 23 2) 19 1 3) 34 24 (16 : Int32).toNatClampNeg (0 : Int32).toNatClampNeg (6 : Int32).toNatClampNeg) 19 9 0) 19 1 2) 34 24 (8 : Int32).toNatClampNeg (0 : Int32).toNatClampNeg (6 : Int32).toNatClampNeg) 19 9 0) 19 1 1))) := by
  refine G_aload_n (pc := 0) rfl dX4_reach_0 ?_
  refine G_getR (pc := 1) (r := 19) (ci := 4) (j := 0) rfl lk_RX4_21 rfl rfl rfl dX4_reach_1 ?_
  refine G_getI (pc := 4) (v := 0) (ci := 1) (j := 9) rfl rfl lk_RX4_62 rfl rfl dX4_reach_4 ?_
  refine G_istore_n (pc := 7) (L1 := [some (.ref 51), some (.int 1), some (.int 2), some (.int 0), none, none]) rfl rfl (by decide) dX4_reach_7 ?_
  refine G_aload_n (pc := 8) rfl dX4_reach_8 ?_
  refine G_iload_n (pc := 9) rfl dX4_reach_9 ?_
  refine G_iload_n (pc := 10) rfl dX4_reach_10 ?_
  refine G_callV (pc := 11) (mc1 := 0) (ms1 := 0) (ci := 4) (mj := mX4_isLast) (vs := [_, _]) dX4_reach_11 rfl rfl cm_X4_isLast wf_126 wf_129 wf_130 rfl (Nat.le_of_ble_eq_true rfl) (Nat.le_of_ble_eq_true rfl) (Nat.le_of_ble_eq_true rfl) (Nat.le_of_ble_eq_true rfl) (s166_X4_isLast  (d + 1)  ) ?_
  rintro _ _ ⟨rfl, rfl⟩
  dsimp only [Option.toList, List.cons_append, List.nil_append]
  refine G_if_eq (pc := 14) (tgt := 19) (by decide) dX4_reach_14 (fun _ => ?_) (fun z => absurd (by decide) z)
  refine G_aload_n (pc := 19) rfl dX4_reach_19 ?_
  refine G_getR (pc := 20) (r := 19) (ci := 4) (j := 0) rfl lk_RX4_21 rfl rfl rfl dX4_reach_20 ?_
  refine G_iload_n (pc := 23) rfl dX4_reach_23 ?_
  refine G_callV (pc := 24) (mc1 := 0) (ms1 := 0) (ci := 1) (mj := mX1_save) (vs := [_]) dX4_reach_24 rfl rfl cm_X1_save wf_134 wf_105 wf_106 rfl (Nat.le_of_ble_eq_true rfl) (Nat.le_of_ble_eq_true rfl) (Nat.le_of_ble_eq_true rfl) (Nat.le_of_ble_eq_true rfl) (s156_X1_save  (d + 1)  ) ?_
  rintro _ _ ⟨rfl, rfl⟩
  dsimp only [Option.toList, List.cons_append, List.nil_append]
  refine G_iconst (pc := 27) (v := 0) (by decide) dX4_reach_27 ?_
  refine G_istore (pc := 28) (L1 := [some (.ref 51), some (.int 1), some (.int 2), some (.int 0), some (.int 0), none]) rfl rfl (by decide) dX4_reach_28 ?_
  refine G_iload (pc := 30) rfl dX4_reach_30 ?_
  refine G_aload_n (pc := 32) rfl dX4_reach_32 ?_
  refine G_getR (pc := 33) (r := 19) (ci := 4) (j := 0) rfl lk_RX4_21 rfl rfl rfl dX4_reach_33 ?_
  refine G_getI (pc := 36) (v := 0) (ci := 1) (j := 8) rfl rfl lk_RX4_39 rfl rfl dX4_reach_36 ?_
  refine G_icmp_gt (pc := 39) (tgt := 98) (by decide) dX4_reach_39 (fun z => absurd z (by decide)) (fun _ => ?_)
  refine G_aload_n (pc := 42) rfl dX4_reach_42 ?_
  refine G_getR (pc := 43) (r := 19) (ci := 4) (j := 0) rfl lk_RX4_21 rfl rfl rfl dX4_reach_43 ?_
  refine G_iload (pc := 46) rfl dX4_reach_46 ?_
  refine G_callV (pc := 48) (mc1 := 0) (ms1 := 0) (ci := 1) (mj := mX1_tell) (vs := [_]) dX4_reach_48 rfl rfl cm_X1_tell wf_135 wf_71 wf_72 rfl (Nat.le_of_ble_eq_true rfl) (Nat.le_of_ble_eq_true rfl) (Nat.le_of_ble_eq_true rfl) (Nat.le_of_ble_eq_true rfl) (s157_X1_tell  (d + 1)  ) ?_
  rintro _ _ ⟨rfl, rfl⟩
  dsimp only [Option.toList, List.cons_append, List.nil_append]
  refine G_istore (pc := 51) (L1 := [some (.ref 51), some (.int 1), some (.int 2), some (.int 0), some (.int 0), some (.int 0)]) rfl rfl (by decide) dX4_reach_51 ?_
  refine G_iload (pc := 53) rfl dX4_reach_53 ?_
  refine G_if_eq (pc := 55) (tgt := 63) (by decide) dX4_reach_55 (fun _ => ?_) (fun z => absurd (by decide) z)
  refine G_aload_n (pc := 63) rfl dX4_reach_63 ?_
  refine G_getR (pc := 64) (r := 19) (ci := 4) (j := 0) rfl lk_RX4_21 rfl rfl rfl dX4_reach_64 ?_
  refine G_callV (pc := 67) (mc1 := 0) (ms1 := 0) (ci := 1) (mj := mX1_melt) (vs := []) dX4_reach_67 rfl rfl cm_X1_melt wf_136 wf_75 wf_76 rfl (Nat.le_of_ble_eq_true rfl) (Nat.le_of_ble_eq_true rfl) (Nat.le_of_ble_eq_true rfl) (Nat.le_of_ble_eq_true rfl) (s159_X1_melt  (d + 2)  ) ?_
  rintro _ _ ⟨rfl, rfl⟩
  dsimp only [Option.toList, List.cons_append, List.nil_append]
  refine G_pop (pc := 70) rfl dX4_reach_70 ?_
  refine G_iload_n (pc := 71) rfl dX4_reach_71 ?_
  refine G_aload_n (pc := 72) rfl dX4_reach_72 ?_
  refine G_iload_n (pc := 73) rfl dX4_reach_73 ?_
  refine G_iconst (pc := 74) (v := 1) (by decide) dX4_reach_74 ?_
  refine G_iadd (pc := 75) (z := 2) (by decide) dX4_reach_75 ?_
  refine G_iload_n (pc := 76) rfl dX4_reach_76 ?_
  refine G_iconst (pc := 77) (v := 1) (by decide) dX4_reach_77 ?_
  refine G_isub (pc := 78) (z := 1) (by decide) dX4_reach_78 ?_
  refine G_callV (pc := 79) (mc1 := 0) (ms1 := 0) (ci := 4) (mj := mX4_reach) (vs := [_, _]) dX4_reach_79 rfl rfl cm_X4_reach wf_167 wf_162 wf_163 rfl (Nat.le_of_ble_eq_true rfl) (Nat.le_of_ble_eq_true rfl) (Nat.le_of_ble_eq_true rfl) (Nat.le_of_ble_eq_true rfl) (s212_X4_reach  d  ) ?_
  rintro _ _ ⟨rfl, rfl⟩
  dsimp only [Option.toList, List.cons_append, List.nil_append]
  refine G_ior (pc := 82) (z := 0) (by decide) dX4_reach_82 ?_
  refine G_istore_n (pc := 83) (L1 := [some (.ref 51), some (.int 1), some (.int 2), some (.int 0), some (.int 0), some (.int 0)]) rfl rfl (by decide) dX4_reach_83 ?_
  refine G_aload_n (pc := 84) rfl dX4_reach_84 ?_
  refine G_getR (pc := 85) (r := 19) (ci := 4) (j := 0) rfl lk_RX4_21 rfl rfl rfl dX4_reach_85 ?_
  refine G_iload_n (pc := 88) rfl dX4_reach_88 ?_
  refine G_callV (pc := 89) (mc1 := 0) (ms1 := 0) (ci := 1) (mj := mX1_restore) (vs := [_]) dX4_reach_89 rfl rfl cm_X1_restore wf_138 wf_109 wf_110 rfl (Nat.le_of_ble_eq_true rfl) (Nat.le_of_ble_eq_true rfl) (Nat.le_of_ble_eq_true rfl) (Nat.le_of_ble_eq_true rfl) (s215_X1_restore  (d + 1)  ) ?_
  rintro _ _ ⟨rfl, rfl⟩
  dsimp only [Option.toList, List.cons_append, List.nil_append]
  refine G_iinc (pc := 92) (v := 1) (w := 1) (L1 := [some (.ref 51), some (.int 1), some (.int 2), some (.int 0), some (.int 1), some (.int 0)]) (by decide) rfl rfl (by decide) rfl (by decide) dX4_reach_92 ?_
  refine G_goto (pc := 95) (tgt := 30) (by decide) dX4_reach_95 ?_
  refine G_iload (pc := 30) rfl dX4_reach_30 ?_
  refine G_aload_n (pc := 32) rfl dX4_reach_32 ?_
  refine G_getR (pc := 33) (r := 19) (ci := 4) (j := 0) rfl lk_RX4_21 rfl rfl rfl dX4_reach_33 ?_
  refine G_getI (pc := 36) (v := 0) (ci := 1) (j := 8) rfl rfl lk_RX4_39 rfl rfl dX4_reach_36 ?_
  refine G_icmp_gt (pc := 39) (tgt := 98) (by decide) dX4_reach_39 (fun _ => ?_) (fun z => absurd (by decide) z)
  refine G_iload_n (pc := 98) rfl dX4_reach_98 ?_
  exact G_iret (pc := 99) (Nat.le_of_ble_eq_true rfl) (Nat.le_of_ble_eq_true rfl) rfl dX4_reach_99 ⟨rfl, rfl⟩
set_option maxRecDepth 100000 in
set_option maxHeartbeats 4000000 in
theorem s216_X1_restore  (d : Nat)   : G (d + 1) mX1_restore 0 0 0 0 0 (gent 3 [.ref 19, .int 0]) [] SH0 RF0 (gup (gup (gcp (gup (gup (gcp (gup (gup (gup (gcp (gup (gup (gup (gcp (gup (gup (gup (gcp I0 24 34 (0 : Int32).toNatClampNeg (0 : Int32).toNatClampNeg (6 : Int32).toNatClampNeg) 34 6 0) 34 7 0) 19 1 1) 24 34 (0 : Int32).toNatClampNeg (8 : Int32).toNatClampNeg (6 : Int32).toNatClampNeg) 34 14 0) 34 15 1) 19 1 2) 24 34 (0 : Int32).toNatClampNeg (16 : Int32).toNatClampNeg (6 : Int32).toNatClampNeg) 34 22 0) 34 23 2) 19 1 3) 34 24 (16 : Int32).toNatClampNeg (0 : Int32).toNatClampNeg (6 : Int32).toNatClampNeg) 19 9 0) 19 1 2) 34 24 (8 : Int32).toNatClampNeg (0 : Int32).toNatClampNeg (6 : Int32).toNatClampNeg) 19 9 0) 19 1 1) (fun r h => r = none ∧ h = (SH0, RF0, (gup (gup (gcp (gup (gup (gcp (gup (gup (gcp (gup (gup (gup (gcp (gup (gup (gup (gcp (gup (gup (gup (gcp I0 24 34 (0 : Int32).toNatClampNeg (0 : Int32).toNatClampNeg (6 : Int32).toNatClampNeg) 34 6 0) 34 7 0) 19 1 1) 24 34 (0 : Int32).toNatClampNeg (8 : Int32).toNatClampNeg (6 : Int32).toNatClampNeg) 34 14 0) 34 15 1) 19 1 2) 24 34 (0 : Int32).toNatClampNeg (16 : Int32).toNatClampNeg (6 : Int32).toNatClampNeg) 34 22 0) 34 23 2) 19 1 3) 34 24 (16 : Int32).toNatClampNeg (0 : Int32).toNatClampNeg (6 : Int32).toNatClampNeg) 19 9 0) 19 1 2) 34 24 (8 : Int32).toNatClampNeg (0 : Int32).toNatClampNeg (6 : Int32).toNatClampNeg) 19 9 0) 19 1 1) 34 24 (0 : Int32).toNatClampNeg (0 : Int32).toNatClampNeg (6 : Int32).toNatClampNeg) 19 9 0) 19 1 0))) := by
  refine G_iload_n (pc := 0) rfl dX1_restore_0 ?_
  refine G_bipush (pc := 1) (v := 8) (by decide) dX1_restore_1 ?_
  refine G_imul (pc := 3) (z := 0) (by decide) dX1_restore_3 ?_
  refine G_istore_n (pc := 4) (L1 := [some (.ref 19), some (.int 0), some (.int 0)]) rfl rfl (by decide) dX1_restore_4 ?_
  refine G_aload_n (pc := 5) rfl dX1_restore_5 ?_
  refine G_getR (pc := 6) (r := 34) (ci := 1) (j := 18) rfl lk_RX1_53 rfl rfl rfl dX1_restore_6 ?_
  refine G_iload_n (pc := 9) rfl dX1_restore_9 ?_
  refine G_aload_n (pc := 10) rfl dX1_restore_10 ?_
  refine G_getR (pc := 11) (r := 24) (ci := 1) (j := 11) rfl lk_RX1_31 rfl rfl rfl dX1_restore_11 ?_
  refine G_iconst (pc := 14) (v := 0) (by decide) dX1_restore_14 ?_
  refine G_bipush (pc := 15) (v := 6) (by decide) dX1_restore_15 ?_
  refine G_copy (pc := 17) (x := 34) (y := 24) rfl rfl (by decide) (by decide) (by decide) (by decide) (by decide) wf_50 wf_51 wf_52 wf_53 (Nat.le_of_ble_eq_true rfl) dX1_restore_17 ?_
  refine G_aload_n (pc := 20) rfl dX1_restore_20 ?_
  refine G_aload_n (pc := 21) rfl dX1_restore_21 ?_
  refine G_getR (pc := 22) (r := 34) (ci := 1) (j := 18) rfl lk_RX1_53 rfl rfl rfl dX1_restore_22 ?_
  refine G_iload_n (pc := 25) rfl dX1_restore_25 ?_
  refine G_bipush (pc := 26) (v := 6) (by decide) dX1_restore_26 ?_
  refine G_iadd (pc := 28) (z := 6) (by decide) dX1_restore_28 ?_
  refine G_iald (pc := 29) (jj := 6) (v := 0) (by decide) rfl rfl (by unfold vp_in; decide) dX1_restore_29 ?_
  refine G_putI (pc := 30) (ci := 1) (j := 9) rfl lk_RX1_75 rfl rfl rfl trivial dX1_restore_30 ?_
  refine G_aload_n (pc := 33) rfl dX1_restore_33 ?_
  refine G_aload_n (pc := 34) rfl dX1_restore_34 ?_
  refine G_getR (pc := 35) (r := 34) (ci := 1) (j := 18) rfl lk_RX1_53 rfl rfl rfl dX1_restore_35 ?_
  refine G_iload_n (pc := 38) rfl dX1_restore_38 ?_
  refine G_bipush (pc := 39) (v := 6) (by decide) dX1_restore_39 ?_
  refine G_iadd (pc := 41) (z := 6) (by decide) dX1_restore_41 ?_
  refine G_iconst (pc := 42) (v := 1) (by decide) dX1_restore_42 ?_
  refine G_iadd (pc := 43) (z := 7) (by decide) dX1_restore_43 ?_
  refine G_iald (pc := 44) (jj := 7) (v := 0) (by decide) rfl rfl (by unfold vp_in; decide) dX1_restore_44 ?_
  refine G_putI (pc := 45) (ci := 1) (j := 1) rfl lk_RX1_60 rfl rfl rfl trivial dX1_restore_45 ?_
  exact G_vret (pc := 48) (Nat.le_of_ble_eq_true rfl) (Nat.le_of_ble_eq_true rfl) rfl dX1_restore_48 ⟨rfl, rfl⟩
set_option maxRecDepth 100000 in
set_option maxHeartbeats 4000000 in
theorem s210_X4_reach  (d : Nat)   : G (d + 4) mX4_reach 0 0 0 0 0 (gent 6 [.ref 51, .int 0, .int 3]) [] SH0 RF0 I0 (fun r h => r = some (.int 0) ∧ h = (SH0, RF0, (gup (gup (gcp (gup (gup (gcp (gup (gup (gcp (gup (gup (gup (gcp (gup (gup (gup (gcp (gup (gup (gup (gcp I0 24 34 (0 : Int32).toNatClampNeg (0 : Int32).toNatClampNeg (6 : Int32).toNatClampNeg) 34 6 0) 34 7 0) 19 1 1) 24 34 (0 : Int32).toNatClampNeg (8 : Int32).toNatClampNeg (6 : Int32).toNatClampNeg) 34 14 0) 34 15 1) 19 1 2) 24 34 (0 : Int32).toNatClampNeg (16 : Int32).toNatClampNeg (6 : Int32).toNatClampNeg) 34 22 0) 34 23 2) 19 1 3) 34 24 (16 : Int32).toNatClampNeg (0 : Int32).toNatClampNeg (6 : Int32).toNatClampNeg) 19 9 0) 19 1 2) 34 24 (8 : Int32).toNatClampNeg (0 : Int32).toNatClampNeg (6 : Int32).toNatClampNeg) 19 9 0) 19 1 1) 34 24 (0 : Int32).toNatClampNeg (0 : Int32).toNatClampNeg (6 : Int32).toNatClampNeg) 19 9 0) 19 1 0))) := by
  refine G_aload_n (pc := 0) rfl dX4_reach_0 ?_
  refine G_getR (pc := 1) (r := 19) (ci := 4) (j := 0) rfl lk_RX4_21 rfl rfl rfl dX4_reach_1 ?_
  refine G_getI (pc := 4) (v := 0) (ci := 1) (j := 9) rfl rfl lk_RX4_62 rfl rfl dX4_reach_4 ?_
  refine G_istore_n (pc := 7) (L1 := [some (.ref 51), some (.int 0), some (.int 3), some (.int 0), none, none]) rfl rfl (by decide) dX4_reach_7 ?_
  refine G_aload_n (pc := 8) rfl dX4_reach_8 ?_
  refine G_iload_n (pc := 9) rfl dX4_reach_9 ?_
  refine G_iload_n (pc := 10) rfl dX4_reach_10 ?_
  refine G_callV (pc := 11) (mc1 := 0) (ms1 := 0) (ci := 4) (mj := mX4_isLast) (vs := [_, _]) dX4_reach_11 rfl rfl cm_X4_isLast wf_126 wf_129 wf_130 rfl (Nat.le_of_ble_eq_true rfl) (Nat.le_of_ble_eq_true rfl) (Nat.le_of_ble_eq_true rfl) (Nat.le_of_ble_eq_true rfl) (s164_X4_isLast  (d + 2)  ) ?_
  rintro _ _ ⟨rfl, rfl⟩
  dsimp only [Option.toList, List.cons_append, List.nil_append]
  refine G_if_eq (pc := 14) (tgt := 19) (by decide) dX4_reach_14 (fun _ => ?_) (fun z => absurd (by decide) z)
  refine G_aload_n (pc := 19) rfl dX4_reach_19 ?_
  refine G_getR (pc := 20) (r := 19) (ci := 4) (j := 0) rfl lk_RX4_21 rfl rfl rfl dX4_reach_20 ?_
  refine G_iload_n (pc := 23) rfl dX4_reach_23 ?_
  refine G_callV (pc := 24) (mc1 := 0) (ms1 := 0) (ci := 1) (mj := mX1_save) (vs := [_]) dX4_reach_24 rfl rfl cm_X1_save wf_134 wf_105 wf_106 rfl (Nat.le_of_ble_eq_true rfl) (Nat.le_of_ble_eq_true rfl) (Nat.le_of_ble_eq_true rfl) (Nat.le_of_ble_eq_true rfl) (s39_X1_save  (d + 2)  ) ?_
  rintro _ _ ⟨rfl, rfl⟩
  dsimp only [Option.toList, List.cons_append, List.nil_append]
  refine G_iconst (pc := 27) (v := 0) (by decide) dX4_reach_27 ?_
  refine G_istore (pc := 28) (L1 := [some (.ref 51), some (.int 0), some (.int 3), some (.int 0), some (.int 0), none]) rfl rfl (by decide) dX4_reach_28 ?_
  refine G_iload (pc := 30) rfl dX4_reach_30 ?_
  refine G_aload_n (pc := 32) rfl dX4_reach_32 ?_
  refine G_getR (pc := 33) (r := 19) (ci := 4) (j := 0) rfl lk_RX4_21 rfl rfl rfl dX4_reach_33 ?_
  refine G_getI (pc := 36) (v := 0) (ci := 1) (j := 8) rfl rfl lk_RX4_39 rfl rfl dX4_reach_36 ?_
  refine G_icmp_gt (pc := 39) (tgt := 98) (by decide) dX4_reach_39 (fun z => absurd z (by decide)) (fun _ => ?_)
  refine G_aload_n (pc := 42) rfl dX4_reach_42 ?_
  refine G_getR (pc := 43) (r := 19) (ci := 4) (j := 0) rfl lk_RX4_21 rfl rfl rfl dX4_reach_43 ?_
  refine G_iload (pc := 46) rfl dX4_reach_46 ?_
  refine G_callV (pc := 48) (mc1 := 0) (ms1 := 0) (ci := 1) (mj := mX1_tell) (vs := [_]) dX4_reach_48 rfl rfl cm_X1_tell wf_135 wf_71 wf_72 rfl (Nat.le_of_ble_eq_true rfl) (Nat.le_of_ble_eq_true rfl) (Nat.le_of_ble_eq_true rfl) (Nat.le_of_ble_eq_true rfl) (s145_X1_tell  (d + 2)  ) ?_
  rintro _ _ ⟨rfl, rfl⟩
  dsimp only [Option.toList, List.cons_append, List.nil_append]
  refine G_istore (pc := 51) (L1 := [some (.ref 51), some (.int 0), some (.int 3), some (.int 0), some (.int 0), some (.int 0)]) rfl rfl (by decide) dX4_reach_51 ?_
  refine G_iload (pc := 53) rfl dX4_reach_53 ?_
  refine G_if_eq (pc := 55) (tgt := 63) (by decide) dX4_reach_55 (fun _ => ?_) (fun z => absurd (by decide) z)
  refine G_aload_n (pc := 63) rfl dX4_reach_63 ?_
  refine G_getR (pc := 64) (r := 19) (ci := 4) (j := 0) rfl lk_RX4_21 rfl rfl rfl dX4_reach_64 ?_
  refine G_callV (pc := 67) (mc1 := 0) (ms1 := 0) (ci := 1) (mj := mX1_melt) (vs := []) dX4_reach_67 rfl rfl cm_X1_melt wf_136 wf_75 wf_76 rfl (Nat.le_of_ble_eq_true rfl) (Nat.le_of_ble_eq_true rfl) (Nat.le_of_ble_eq_true rfl) (Nat.le_of_ble_eq_true rfl) (s147_X1_melt  (d + 3)  ) ?_
  rintro _ _ ⟨rfl, rfl⟩
  dsimp only [Option.toList, List.cons_append, List.nil_append]
  refine G_pop (pc := 70) rfl dX4_reach_70 ?_
  refine G_iload_n (pc := 71) rfl dX4_reach_71 ?_
  refine G_aload_n (pc := 72) rfl dX4_reach_72 ?_
  refine G_iload_n (pc := 73) rfl dX4_reach_73 ?_
  refine G_iconst (pc := 74) (v := 1) (by decide) dX4_reach_74 ?_
  refine G_iadd (pc := 75) (z := 1) (by decide) dX4_reach_75 ?_
  refine G_iload_n (pc := 76) rfl dX4_reach_76 ?_
  refine G_iconst (pc := 77) (v := 1) (by decide) dX4_reach_77 ?_
  refine G_isub (pc := 78) (z := 2) (by decide) dX4_reach_78 ?_
  refine G_callV (pc := 79) (mc1 := 0) (ms1 := 0) (ci := 4) (mj := mX4_reach) (vs := [_, _]) dX4_reach_79 rfl rfl cm_X4_reach wf_167 wf_162 wf_163 rfl (Nat.le_of_ble_eq_true rfl) (Nat.le_of_ble_eq_true rfl) (Nat.le_of_ble_eq_true rfl) (Nat.le_of_ble_eq_true rfl) (s211_X4_reach  d  ) ?_
  rintro _ _ ⟨rfl, rfl⟩
  dsimp only [Option.toList, List.cons_append, List.nil_append]
  refine G_ior (pc := 82) (z := 0) (by decide) dX4_reach_82 ?_
  refine G_istore_n (pc := 83) (L1 := [some (.ref 51), some (.int 0), some (.int 3), some (.int 0), some (.int 0), some (.int 0)]) rfl rfl (by decide) dX4_reach_83 ?_
  refine G_aload_n (pc := 84) rfl dX4_reach_84 ?_
  refine G_getR (pc := 85) (r := 19) (ci := 4) (j := 0) rfl lk_RX4_21 rfl rfl rfl dX4_reach_85 ?_
  refine G_iload_n (pc := 88) rfl dX4_reach_88 ?_
  refine G_callV (pc := 89) (mc1 := 0) (ms1 := 0) (ci := 1) (mj := mX1_restore) (vs := [_]) dX4_reach_89 rfl rfl cm_X1_restore wf_138 wf_109 wf_110 rfl (Nat.le_of_ble_eq_true rfl) (Nat.le_of_ble_eq_true rfl) (Nat.le_of_ble_eq_true rfl) (Nat.le_of_ble_eq_true rfl) (s216_X1_restore  (d + 2)  ) ?_
  rintro _ _ ⟨rfl, rfl⟩
  dsimp only [Option.toList, List.cons_append, List.nil_append]
  refine G_iinc (pc := 92) (v := 1) (w := 1) (L1 := [some (.ref 51), some (.int 0), some (.int 3), some (.int 0), some (.int 1), some (.int 0)]) (by decide) rfl rfl (by decide) rfl (by decide) dX4_reach_92 ?_
  refine G_goto (pc := 95) (tgt := 30) (by decide) dX4_reach_95 ?_
  refine G_iload (pc := 30) rfl dX4_reach_30 ?_
  refine G_aload_n (pc := 32) rfl dX4_reach_32 ?_
  refine G_getR (pc := 33) (r := 19) (ci := 4) (j := 0) rfl lk_RX4_21 rfl rfl rfl dX4_reach_33 ?_
  refine G_getI (pc := 36) (v := 0) (ci := 1) (j := 8) rfl rfl lk_RX4_39 rfl rfl dX4_reach_36 ?_
  refine G_icmp_gt (pc := 39) (tgt := 98) (by decide) dX4_reach_39 (fun _ => ?_) (fun z => absurd (by decide) z)
  refine G_iload_n (pc := 98) rfl dX4_reach_98 ?_
  exact G_iret (pc := 99) (Nat.le_of_ble_eq_true rfl) (Nat.le_of_ble_eq_true rfl) rfl dX4_reach_99 ⟨rfl, rfl⟩
set_option maxRecDepth 100000 in
set_option maxHeartbeats 4000000 in
theorem s218_J6_bitCount_0f7a4  (d : Nat)  (a0 : Int32) : G (d) mJ6_bitCount_0f7a4 0 0 0 0 0 (gent 1 [.int a0]) [] SH0 RF0 (gup (gup (gcp (gup (gup (gcp (gup (gup (gcp (gup (gup (gup (gcp (gup (gup (gup (gcp (gup (gup (gup (gcp I0 24 34 (0 : Int32).toNatClampNeg (0 : Int32).toNatClampNeg (6 : Int32).toNatClampNeg) 34 6 0) 34 7 0) 19 1 1) 24 34 (0 : Int32).toNatClampNeg (8 : Int32).toNatClampNeg (6 : Int32).toNatClampNeg) 34 14 0) 34 15 1) 19 1 2) 24 34 (0 : Int32).toNatClampNeg (16 : Int32).toNatClampNeg (6 : Int32).toNatClampNeg) 34 22 0) 34 23 2) 19 1 3) 34 24 (16 : Int32).toNatClampNeg (0 : Int32).toNatClampNeg (6 : Int32).toNatClampNeg) 19 9 0) 19 1 2) 34 24 (8 : Int32).toNatClampNeg (0 : Int32).toNatClampNeg (6 : Int32).toNatClampNeg) 19 9 0) 19 1 1) 34 24 (0 : Int32).toNatClampNeg (0 : Int32).toNatClampNeg (6 : Int32).toNatClampNeg) 19 9 0) 19 1 0) (fun r h => r = some (.int ((((((((a0 - (((a0).toUInt32 >>> ((1 : Int32).toUInt32 &&& Int32.toUInt32 31)).toInt32 &&& 1431655765)) &&& 858993459) + ((((a0 - (((a0).toUInt32 >>> ((1 : Int32).toUInt32 &&& Int32.toUInt32 31)).toInt32 &&& 1431655765))).toUInt32 >>> ((2 : Int32).toUInt32 &&& Int32.toUInt32 31)).toInt32 &&& 858993459)) + (((((a0 - (((a0).toUInt32 >>> ((1 : Int32).toUInt32 &&& Int32.toUInt32 31)).toInt32 &&& 1431655765)) &&& 858993459) + ((((a0 - (((a0).toUInt32 >>> ((1 : Int32).toUInt32 &&& Int32.toUInt32 31)).toInt32 &&& 1431655765))).toUInt32 >>> ((2 : Int32).toUInt32 &&& Int32.toUInt32 31)).toInt32 &&& 858993459))).toUInt32 >>> ((4 : Int32).toUInt32 &&& Int32.toUInt32 31)).toInt32) &&& 252645135) + (((((((a0 - (((a0).toUInt32 >>> ((1 : Int32).toUInt32 &&& Int32.toUInt32 31)).toInt32 &&& 1431655765)) &&& 858993459) + ((((a0 - (((a0).toUInt32 >>> ((1 : Int32).toUInt32 &&& Int32.toUInt32 31)).toInt32 &&& 1431655765))).toUInt32 >>> ((2 : Int32).toUInt32 &&& Int32.toUInt32 31)).toInt32 &&& 858993459)) + (((((a0 - (((a0).toUInt32 >>> ((1 : Int32).toUInt32 &&& Int32.toUInt32 31)).toInt32 &&& 1431655765)) &&& 858993459) + ((((a0 - (((a0).toUInt32 >>> ((1 : Int32).toUInt32 &&& Int32.toUInt32 31)).toInt32 &&& 1431655765))).toUInt32 >>> ((2 : Int32).toUInt32 &&& Int32.toUInt32 31)).toInt32 &&& 858993459))).toUInt32 >>> ((4 : Int32).toUInt32 &&& Int32.toUInt32 31)).toInt32) &&& 252645135)).toUInt32 >>> ((8 : Int32).toUInt32 &&& Int32.toUInt32 31)).toInt32) + ((((((((a0 - (((a0).toUInt32 >>> ((1 : Int32).toUInt32 &&& Int32.toUInt32 31)).toInt32 &&& 1431655765)) &&& 858993459) + ((((a0 - (((a0).toUInt32 >>> ((1 : Int32).toUInt32 &&& Int32.toUInt32 31)).toInt32 &&& 1431655765))).toUInt32 >>> ((2 : Int32).toUInt32 &&& Int32.toUInt32 31)).toInt32 &&& 858993459)) + (((((a0 - (((a0).toUInt32 >>> ((1 : Int32).toUInt32 &&& Int32.toUInt32 31)).toInt32 &&& 1431655765)) &&& 858993459) + ((((a0 - (((a0).toUInt32 >>> ((1 : Int32).toUInt32 &&& Int32.toUInt32 31)).toInt32 &&& 1431655765))).toUInt32 >>> ((2 : Int32).toUInt32 &&& Int32.toUInt32 31)).toInt32 &&& 858993459))).toUInt32 >>> ((4 : Int32).toUInt32 &&& Int32.toUInt32 31)).toInt32) &&& 252645135) + (((((((a0 - (((a0).toUInt32 >>> ((1 : Int32).toUInt32 &&& Int32.toUInt32 31)).toInt32 &&& 1431655765)) &&& 858993459) + ((((a0 - (((a0).toUInt32 >>> ((1 : Int32).toUInt32 &&& Int32.toUInt32 31)).toInt32 &&& 1431655765))).toUInt32 >>> ((2 : Int32).toUInt32 &&& Int32.toUInt32 31)).toInt32 &&& 858993459)) + (((((a0 - (((a0).toUInt32 >>> ((1 : Int32).toUInt32 &&& Int32.toUInt32 31)).toInt32 &&& 1431655765)) &&& 858993459) + ((((a0 - (((a0).toUInt32 >>> ((1 : Int32).toUInt32 &&& Int32.toUInt32 31)).toInt32 &&& 1431655765))).toUInt32 >>> ((2 : Int32).toUInt32 &&& Int32.toUInt32 31)).toInt32 &&& 858993459))).toUInt32 >>> ((4 : Int32).toUInt32 &&& Int32.toUInt32 31)).toInt32) &&& 252645135)).toUInt32 >>> ((8 : Int32).toUInt32 &&& Int32.toUInt32 31)).toInt32)).toUInt32 >>> ((16 : Int32).toUInt32 &&& Int32.toUInt32 31)).toInt32) &&& 63)) ∧ h = (SH0, RF0, (gup (gup (gcp (gup (gup (gcp (gup (gup (gcp (gup (gup (gup (gcp (gup (gup (gup (gcp (gup (gup (gup (gcp I0 24 34 (0 : Int32).toNatClampNeg (0 : Int32).toNatClampNeg (6 : Int32).toNatClampNeg) 34 6 0) 34 7 0) 19 1 1) 24 34 (0 : Int32).toNatClampNeg (8 : Int32).toNatClampNeg (6 : Int32).toNatClampNeg) 34 14 0) 34 15 1) 19 1 2) 24 34 (0 : Int32).toNatClampNeg (16 : Int32).toNatClampNeg (6 : Int32).toNatClampNeg) 34 22 0) 34 23 2) 19 1 3) 34 24 (16 : Int32).toNatClampNeg (0 : Int32).toNatClampNeg (6 : Int32).toNatClampNeg) 19 9 0) 19 1 2) 34 24 (8 : Int32).toNatClampNeg (0 : Int32).toNatClampNeg (6 : Int32).toNatClampNeg) 19 9 0) 19 1 1) 34 24 (0 : Int32).toNatClampNeg (0 : Int32).toNatClampNeg (6 : Int32).toNatClampNeg) 19 9 0) 19 1 0))) := by
  refine G_iload_n (pc := 0) rfl dJ6_bitCount_0f7a4_0 ?_
  refine G_iload_n (pc := 1) rfl dJ6_bitCount_0f7a4_1 ?_
  refine G_iconst (pc := 2) (v := 1) (by decide) dJ6_bitCount_0f7a4_2 ?_
  refine G_iushr (pc := 3) rfl dJ6_bitCount_0f7a4_3 ?_
  refine G_ldcw (pc := 4) (v := 1431655765) ck_RJ6_265 dJ6_bitCount_0f7a4_4 ?_
  refine G_iand (pc := 7) rfl dJ6_bitCount_0f7a4_7 ?_
  refine G_isub (pc := 8) rfl dJ6_bitCount_0f7a4_8 ?_
  refine G_istore_n (pc := 9) (L1 := [some (.int (a0 - (((a0).toUInt32 >>> ((1 : Int32).toUInt32 &&& Int32.toUInt32 31)).toInt32 &&& 1431655765)))]) rfl rfl (by decide) dJ6_bitCount_0f7a4_9 ?_
  refine G_iload_n (pc := 10) rfl dJ6_bitCount_0f7a4_10 ?_
  refine G_ldcw (pc := 11) (v := 858993459) ck_RJ6_266 dJ6_bitCount_0f7a4_11 ?_
  refine G_iand (pc := 14) rfl dJ6_bitCount_0f7a4_14 ?_
  refine G_iload_n (pc := 15) rfl dJ6_bitCount_0f7a4_15 ?_
  refine G_iconst (pc := 16) (v := 2) (by decide) dJ6_bitCount_0f7a4_16 ?_
  refine G_iushr (pc := 17) rfl dJ6_bitCount_0f7a4_17 ?_
  refine G_ldcw (pc := 18) (v := 858993459) ck_RJ6_266 dJ6_bitCount_0f7a4_18 ?_
  refine G_iand (pc := 21) rfl dJ6_bitCount_0f7a4_21 ?_
  refine G_iadd (pc := 22) rfl dJ6_bitCount_0f7a4_22 ?_
  refine G_istore_n (pc := 23) (L1 := [some (.int (((a0 - (((a0).toUInt32 >>> ((1 : Int32).toUInt32 &&& Int32.toUInt32 31)).toInt32 &&& 1431655765)) &&& 858993459) + ((((a0 - (((a0).toUInt32 >>> ((1 : Int32).toUInt32 &&& Int32.toUInt32 31)).toInt32 &&& 1431655765))).toUInt32 >>> ((2 : Int32).toUInt32 &&& Int32.toUInt32 31)).toInt32 &&& 858993459)))]) rfl rfl (by decide) dJ6_bitCount_0f7a4_23 ?_
  refine G_iload_n (pc := 24) rfl dJ6_bitCount_0f7a4_24 ?_
  refine G_iload_n (pc := 25) rfl dJ6_bitCount_0f7a4_25 ?_
  refine G_iconst (pc := 26) (v := 4) (by decide) dJ6_bitCount_0f7a4_26 ?_
  refine G_iushr (pc := 27) rfl dJ6_bitCount_0f7a4_27 ?_
  refine G_iadd (pc := 28) rfl dJ6_bitCount_0f7a4_28 ?_
  refine G_ldcw (pc := 29) (v := 252645135) ck_RJ6_267 dJ6_bitCount_0f7a4_29 ?_
  refine G_iand (pc := 32) rfl dJ6_bitCount_0f7a4_32 ?_
  refine G_istore_n (pc := 33) (L1 := [some (.int (((((a0 - (((a0).toUInt32 >>> ((1 : Int32).toUInt32 &&& Int32.toUInt32 31)).toInt32 &&& 1431655765)) &&& 858993459) + ((((a0 - (((a0).toUInt32 >>> ((1 : Int32).toUInt32 &&& Int32.toUInt32 31)).toInt32 &&& 1431655765))).toUInt32 >>> ((2 : Int32).toUInt32 &&& Int32.toUInt32 31)).toInt32 &&& 858993459)) + (((((a0 - (((a0).toUInt32 >>> ((1 : Int32).toUInt32 &&& Int32.toUInt32 31)).toInt32 &&& 1431655765)) &&& 858993459) + ((((a0 - (((a0).toUInt32 >>> ((1 : Int32).toUInt32 &&& Int32.toUInt32 31)).toInt32 &&& 1431655765))).toUInt32 >>> ((2 : Int32).toUInt32 &&& Int32.toUInt32 31)).toInt32 &&& 858993459))).toUInt32 >>> ((4 : Int32).toUInt32 &&& Int32.toUInt32 31)).toInt32) &&& 252645135))]) rfl rfl (by decide) dJ6_bitCount_0f7a4_33 ?_
  refine G_iload_n (pc := 34) rfl dJ6_bitCount_0f7a4_34 ?_
  refine G_iload_n (pc := 35) rfl dJ6_bitCount_0f7a4_35 ?_
  refine G_bipush (pc := 36) (v := 8) (by decide) dJ6_bitCount_0f7a4_36 ?_
  refine G_iushr (pc := 38) rfl dJ6_bitCount_0f7a4_38 ?_
  refine G_iadd (pc := 39) rfl dJ6_bitCount_0f7a4_39 ?_
  refine G_istore_n (pc := 40) (L1 := [some (.int ((((((a0 - (((a0).toUInt32 >>> ((1 : Int32).toUInt32 &&& Int32.toUInt32 31)).toInt32 &&& 1431655765)) &&& 858993459) + ((((a0 - (((a0).toUInt32 >>> ((1 : Int32).toUInt32 &&& Int32.toUInt32 31)).toInt32 &&& 1431655765))).toUInt32 >>> ((2 : Int32).toUInt32 &&& Int32.toUInt32 31)).toInt32 &&& 858993459)) + (((((a0 - (((a0).toUInt32 >>> ((1 : Int32).toUInt32 &&& Int32.toUInt32 31)).toInt32 &&& 1431655765)) &&& 858993459) + ((((a0 - (((a0).toUInt32 >>> ((1 : Int32).toUInt32 &&& Int32.toUInt32 31)).toInt32 &&& 1431655765))).toUInt32 >>> ((2 : Int32).toUInt32 &&& Int32.toUInt32 31)).toInt32 &&& 858993459))).toUInt32 >>> ((4 : Int32).toUInt32 &&& Int32.toUInt32 31)).toInt32) &&& 252645135) + (((((((a0 - (((a0).toUInt32 >>> ((1 : Int32).toUInt32 &&& Int32.toUInt32 31)).toInt32 &&& 1431655765)) &&& 858993459) + ((((a0 - (((a0).toUInt32 >>> ((1 : Int32).toUInt32 &&& Int32.toUInt32 31)).toInt32 &&& 1431655765))).toUInt32 >>> ((2 : Int32).toUInt32 &&& Int32.toUInt32 31)).toInt32 &&& 858993459)) + (((((a0 - (((a0).toUInt32 >>> ((1 : Int32).toUInt32 &&& Int32.toUInt32 31)).toInt32 &&& 1431655765)) &&& 858993459) + ((((a0 - (((a0).toUInt32 >>> ((1 : Int32).toUInt32 &&& Int32.toUInt32 31)).toInt32 &&& 1431655765))).toUInt32 >>> ((2 : Int32).toUInt32 &&& Int32.toUInt32 31)).toInt32 &&& 858993459))).toUInt32 >>> ((4 : Int32).toUInt32 &&& Int32.toUInt32 31)).toInt32) &&& 252645135)).toUInt32 >>> ((8 : Int32).toUInt32 &&& Int32.toUInt32 31)).toInt32))]) rfl rfl (by decide) dJ6_bitCount_0f7a4_40 ?_
  refine G_iload_n (pc := 41) rfl dJ6_bitCount_0f7a4_41 ?_
  refine G_iload_n (pc := 42) rfl dJ6_bitCount_0f7a4_42 ?_
  refine G_bipush (pc := 43) (v := 16) (by decide) dJ6_bitCount_0f7a4_43 ?_
  refine G_iushr (pc := 45) rfl dJ6_bitCount_0f7a4_45 ?_
  refine G_iadd (pc := 46) rfl dJ6_bitCount_0f7a4_46 ?_
  refine G_istore_n (pc := 47) (L1 := [some (.int (((((((a0 - (((a0).toUInt32 >>> ((1 : Int32).toUInt32 &&& Int32.toUInt32 31)).toInt32 &&& 1431655765)) &&& 858993459) + ((((a0 - (((a0).toUInt32 >>> ((1 : Int32).toUInt32 &&& Int32.toUInt32 31)).toInt32 &&& 1431655765))).toUInt32 >>> ((2 : Int32).toUInt32 &&& Int32.toUInt32 31)).toInt32 &&& 858993459)) + (((((a0 - (((a0).toUInt32 >>> ((1 : Int32).toUInt32 &&& Int32.toUInt32 31)).toInt32 &&& 1431655765)) &&& 858993459) + ((((a0 - (((a0).toUInt32 >>> ((1 : Int32).toUInt32 &&& Int32.toUInt32 31)).toInt32 &&& 1431655765))).toUInt32 >>> ((2 : Int32).toUInt32 &&& Int32.toUInt32 31)).toInt32 &&& 858993459))).toUInt32 >>> ((4 : Int32).toUInt32 &&& Int32.toUInt32 31)).toInt32) &&& 252645135) + (((((((a0 - (((a0).toUInt32 >>> ((1 : Int32).toUInt32 &&& Int32.toUInt32 31)).toInt32 &&& 1431655765)) &&& 858993459) + ((((a0 - (((a0).toUInt32 >>> ((1 : Int32).toUInt32 &&& Int32.toUInt32 31)).toInt32 &&& 1431655765))).toUInt32 >>> ((2 : Int32).toUInt32 &&& Int32.toUInt32 31)).toInt32 &&& 858993459)) + (((((a0 - (((a0).toUInt32 >>> ((1 : Int32).toUInt32 &&& Int32.toUInt32 31)).toInt32 &&& 1431655765)) &&& 858993459) + ((((a0 - (((a0).toUInt32 >>> ((1 : Int32).toUInt32 &&& Int32.toUInt32 31)).toInt32 &&& 1431655765))).toUInt32 >>> ((2 : Int32).toUInt32 &&& Int32.toUInt32 31)).toInt32 &&& 858993459))).toUInt32 >>> ((4 : Int32).toUInt32 &&& Int32.toUInt32 31)).toInt32) &&& 252645135)).toUInt32 >>> ((8 : Int32).toUInt32 &&& Int32.toUInt32 31)).toInt32) + ((((((((a0 - (((a0).toUInt32 >>> ((1 : Int32).toUInt32 &&& Int32.toUInt32 31)).toInt32 &&& 1431655765)) &&& 858993459) + ((((a0 - (((a0).toUInt32 >>> ((1 : Int32).toUInt32 &&& Int32.toUInt32 31)).toInt32 &&& 1431655765))).toUInt32 >>> ((2 : Int32).toUInt32 &&& Int32.toUInt32 31)).toInt32 &&& 858993459)) + (((((a0 - (((a0).toUInt32 >>> ((1 : Int32).toUInt32 &&& Int32.toUInt32 31)).toInt32 &&& 1431655765)) &&& 858993459) + ((((a0 - (((a0).toUInt32 >>> ((1 : Int32).toUInt32 &&& Int32.toUInt32 31)).toInt32 &&& 1431655765))).toUInt32 >>> ((2 : Int32).toUInt32 &&& Int32.toUInt32 31)).toInt32 &&& 858993459))).toUInt32 >>> ((4 : Int32).toUInt32 &&& Int32.toUInt32 31)).toInt32) &&& 252645135) + (((((((a0 - (((a0).toUInt32 >>> ((1 : Int32).toUInt32 &&& Int32.toUInt32 31)).toInt32 &&& 1431655765)) &&& 858993459) + ((((a0 - (((a0).toUInt32 >>> ((1 : Int32).toUInt32 &&& Int32.toUInt32 31)).toInt32 &&& 1431655765))).toUInt32 >>> ((2 : Int32).toUInt32 &&& Int32.toUInt32 31)).toInt32 &&& 858993459)) + (((((a0 - (((a0).toUInt32 >>> ((1 : Int32).toUInt32 &&& Int32.toUInt32 31)).toInt32 &&& 1431655765)) &&& 858993459) + ((((a0 - (((a0).toUInt32 >>> ((1 : Int32).toUInt32 &&& Int32.toUInt32 31)).toInt32 &&& 1431655765))).toUInt32 >>> ((2 : Int32).toUInt32 &&& Int32.toUInt32 31)).toInt32 &&& 858993459))).toUInt32 >>> ((4 : Int32).toUInt32 &&& Int32.toUInt32 31)).toInt32) &&& 252645135)).toUInt32 >>> ((8 : Int32).toUInt32 &&& Int32.toUInt32 31)).toInt32)).toUInt32 >>> ((16 : Int32).toUInt32 &&& Int32.toUInt32 31)).toInt32))]) rfl rfl (by decide) dJ6_bitCount_0f7a4_47 ?_
  refine G_iload_n (pc := 48) rfl dJ6_bitCount_0f7a4_48 ?_
  refine G_bipush (pc := 49) (v := 63) (by decide) dJ6_bitCount_0f7a4_49 ?_
  refine G_iand (pc := 51) rfl dJ6_bitCount_0f7a4_51 ?_
  exact G_iret (pc := 52) (Nat.le_of_ble_eq_true rfl) (Nat.le_of_ble_eq_true rfl) rfl dJ6_bitCount_0f7a4_52 ⟨rfl, rfl⟩
set_option maxRecDepth 100000 in
set_option maxHeartbeats 4000000 in
theorem s217_X11_leastOf  (d : Nat)  (a0 : Int32) : G (d + 1) mX11_leastOf 0 0 0 0 0 (gent 1 [.int a0]) [] SH0 RF0 (gup (gup (gcp (gup (gup (gcp (gup (gup (gcp (gup (gup (gup (gcp (gup (gup (gup (gcp (gup (gup (gup (gcp I0 24 34 (0 : Int32).toNatClampNeg (0 : Int32).toNatClampNeg (6 : Int32).toNatClampNeg) 34 6 0) 34 7 0) 19 1 1) 24 34 (0 : Int32).toNatClampNeg (8 : Int32).toNatClampNeg (6 : Int32).toNatClampNeg) 34 14 0) 34 15 1) 19 1 2) 24 34 (0 : Int32).toNatClampNeg (16 : Int32).toNatClampNeg (6 : Int32).toNatClampNeg) 34 22 0) 34 23 2) 19 1 3) 34 24 (16 : Int32).toNatClampNeg (0 : Int32).toNatClampNeg (6 : Int32).toNatClampNeg) 19 9 0) 19 1 2) 34 24 (8 : Int32).toNatClampNeg (0 : Int32).toNatClampNeg (6 : Int32).toNatClampNeg) 19 9 0) 19 1 1) 34 24 (0 : Int32).toNatClampNeg (0 : Int32).toNatClampNeg (6 : Int32).toNatClampNeg) 19 9 0) 19 1 0) (fun r h => r = some (.int (((((((((((a0 &&& (-a0)) - 1)) - ((((((a0 &&& (-a0)) - 1))).toUInt32 >>> ((1 : Int32).toUInt32 &&& Int32.toUInt32 31)).toInt32 &&& 1431655765)) &&& 858993459) + (((((((a0 &&& (-a0)) - 1)) - ((((((a0 &&& (-a0)) - 1))).toUInt32 >>> ((1 : Int32).toUInt32 &&& Int32.toUInt32 31)).toInt32 &&& 1431655765))).toUInt32 >>> ((2 : Int32).toUInt32 &&& Int32.toUInt32 31)).toInt32 &&& 858993459)) + ((((((((a0 &&& (-a0)) - 1)) - ((((((a0 &&& (-a0)) - 1))).toUInt32 >>> ((1 : Int32).toUInt32 &&& Int32.toUInt32 31)).toInt32 &&& 1431655765)) &&& 858993459) + (((((((a0 &&& (-a0)) - 1)) - ((((((a0 &&& (-a0)) - 1))).toUInt32 >>> ((1 : Int32).toUInt32 &&& Int32.toUInt32 31)).toInt32 &&& 1431655765))).toUInt32 >>> ((2 : Int32).toUInt32 &&& Int32.toUInt32 31)).toInt32 &&& 858993459))).toUInt32 >>> ((4 : Int32).toUInt32 &&& Int32.toUInt32 31)).toInt32) &&& 252645135) + ((((((((((a0 &&& (-a0)) - 1)) - ((((((a0 &&& (-a0)) - 1))).toUInt32 >>> ((1 : Int32).toUInt32 &&& Int32.toUInt32 31)).toInt32 &&& 1431655765)) &&& 858993459) + (((((((a0 &&& (-a0)) - 1)) - ((((((a0 &&& (-a0)) - 1))).toUInt32 >>> ((1 : Int32).toUInt32 &&& Int32.toUInt32 31)).toInt32 &&& 1431655765))).toUInt32 >>> ((2 : Int32).toUInt32 &&& Int32.toUInt32 31)).toInt32 &&& 858993459)) + ((((((((a0 &&& (-a0)) - 1)) - ((((((a0 &&& (-a0)) - 1))).toUInt32 >>> ((1 : Int32).toUInt32 &&& Int32.toUInt32 31)).toInt32 &&& 1431655765)) &&& 858993459) + (((((((a0 &&& (-a0)) - 1)) - ((((((a0 &&& (-a0)) - 1))).toUInt32 >>> ((1 : Int32).toUInt32 &&& Int32.toUInt32 31)).toInt32 &&& 1431655765))).toUInt32 >>> ((2 : Int32).toUInt32 &&& Int32.toUInt32 31)).toInt32 &&& 858993459))).toUInt32 >>> ((4 : Int32).toUInt32 &&& Int32.toUInt32 31)).toInt32) &&& 252645135)).toUInt32 >>> ((8 : Int32).toUInt32 &&& Int32.toUInt32 31)).toInt32) + (((((((((((a0 &&& (-a0)) - 1)) - ((((((a0 &&& (-a0)) - 1))).toUInt32 >>> ((1 : Int32).toUInt32 &&& Int32.toUInt32 31)).toInt32 &&& 1431655765)) &&& 858993459) + (((((((a0 &&& (-a0)) - 1)) - ((((((a0 &&& (-a0)) - 1))).toUInt32 >>> ((1 : Int32).toUInt32 &&& Int32.toUInt32 31)).toInt32 &&& 1431655765))).toUInt32 >>> ((2 : Int32).toUInt32 &&& Int32.toUInt32 31)).toInt32 &&& 858993459)) + ((((((((a0 &&& (-a0)) - 1)) - ((((((a0 &&& (-a0)) - 1))).toUInt32 >>> ((1 : Int32).toUInt32 &&& Int32.toUInt32 31)).toInt32 &&& 1431655765)) &&& 858993459) + (((((((a0 &&& (-a0)) - 1)) - ((((((a0 &&& (-a0)) - 1))).toUInt32 >>> ((1 : Int32).toUInt32 &&& Int32.toUInt32 31)).toInt32 &&& 1431655765))).toUInt32 >>> ((2 : Int32).toUInt32 &&& Int32.toUInt32 31)).toInt32 &&& 858993459))).toUInt32 >>> ((4 : Int32).toUInt32 &&& Int32.toUInt32 31)).toInt32) &&& 252645135) + ((((((((((a0 &&& (-a0)) - 1)) - ((((((a0 &&& (-a0)) - 1))).toUInt32 >>> ((1 : Int32).toUInt32 &&& Int32.toUInt32 31)).toInt32 &&& 1431655765)) &&& 858993459) + (((((((a0 &&& (-a0)) - 1)) - ((((((a0 &&& (-a0)) - 1))).toUInt32 >>> ((1 : Int32).toUInt32 &&& Int32.toUInt32 31)).toInt32 &&& 1431655765))).toUInt32 >>> ((2 : Int32).toUInt32 &&& Int32.toUInt32 31)).toInt32 &&& 858993459)) + ((((((((a0 &&& (-a0)) - 1)) - ((((((a0 &&& (-a0)) - 1))).toUInt32 >>> ((1 : Int32).toUInt32 &&& Int32.toUInt32 31)).toInt32 &&& 1431655765)) &&& 858993459) + (((((((a0 &&& (-a0)) - 1)) - ((((((a0 &&& (-a0)) - 1))).toUInt32 >>> ((1 : Int32).toUInt32 &&& Int32.toUInt32 31)).toInt32 &&& 1431655765))).toUInt32 >>> ((2 : Int32).toUInt32 &&& Int32.toUInt32 31)).toInt32 &&& 858993459))).toUInt32 >>> ((4 : Int32).toUInt32 &&& Int32.toUInt32 31)).toInt32) &&& 252645135)).toUInt32 >>> ((8 : Int32).toUInt32 &&& Int32.toUInt32 31)).toInt32)).toUInt32 >>> ((16 : Int32).toUInt32 &&& Int32.toUInt32 31)).toInt32) &&& 63)) ∧ h = (SH0, RF0, (gup (gup (gcp (gup (gup (gcp (gup (gup (gcp (gup (gup (gup (gcp (gup (gup (gup (gcp (gup (gup (gup (gcp I0 24 34 (0 : Int32).toNatClampNeg (0 : Int32).toNatClampNeg (6 : Int32).toNatClampNeg) 34 6 0) 34 7 0) 19 1 1) 24 34 (0 : Int32).toNatClampNeg (8 : Int32).toNatClampNeg (6 : Int32).toNatClampNeg) 34 14 0) 34 15 1) 19 1 2) 24 34 (0 : Int32).toNatClampNeg (16 : Int32).toNatClampNeg (6 : Int32).toNatClampNeg) 34 22 0) 34 23 2) 19 1 3) 34 24 (16 : Int32).toNatClampNeg (0 : Int32).toNatClampNeg (6 : Int32).toNatClampNeg) 19 9 0) 19 1 2) 34 24 (8 : Int32).toNatClampNeg (0 : Int32).toNatClampNeg (6 : Int32).toNatClampNeg) 19 9 0) 19 1 1) 34 24 (0 : Int32).toNatClampNeg (0 : Int32).toNatClampNeg (6 : Int32).toNatClampNeg) 19 9 0) 19 1 0))) := by
  refine G_iload_n (pc := 0) rfl dX11_leastOf_0 ?_
  refine G_iload_n (pc := 1) rfl dX11_leastOf_1 ?_
  refine G_ineg (pc := 2) rfl dX11_leastOf_2 ?_
  refine G_iand (pc := 3) rfl dX11_leastOf_3 ?_
  refine G_iconst (pc := 4) (v := 1) (by decide) dX11_leastOf_4 ?_
  refine G_isub (pc := 5) rfl dX11_leastOf_5 ?_
  refine G_callS (pc := 6) (mc1 := 0) (ms1 := 0) (mj := mJ6_bitCount_0f7a4) (vs := [_]) dX11_leastOf_6 cm_J6_bitCount_0f7a4 wf_46 wf_49 rfl (Nat.le_of_ble_eq_true rfl) (Nat.le_of_ble_eq_true rfl) (Nat.le_of_ble_eq_true rfl) (Nat.le_of_ble_eq_true rfl) (s218_J6_bitCount_0f7a4  d  _) ?_
  rintro _ _ ⟨rfl, rfl⟩
  dsimp only [Option.toList, List.cons_append, List.nil_append]
  exact G_iret (pc := 9) (Nat.le_of_ble_eq_true rfl) (Nat.le_of_ble_eq_true rfl) rfl dX11_leastOf_9 ⟨rfl, rfl⟩
set_option maxRecDepth 100000 in
set_option maxHeartbeats 4000000 in
theorem s223_X4_reach  (d : Nat)   : G (d + 1) mX4_reach 0 0 0 0 0 (gent 6 [.ref 51, .int 4, .int 0]) [] SH0 RF0 (gup (gup (gup (gcp (gup (gup (gup (gcp (gup (gup (gup (gcp (gup (gup (gup (gcp I0 24 34 (0 : Int32).toNatClampNeg (0 : Int32).toNatClampNeg (6 : Int32).toNatClampNeg) 34 6 0) 34 7 0) 19 1 1) 24 34 (0 : Int32).toNatClampNeg (8 : Int32).toNatClampNeg (6 : Int32).toNatClampNeg) 34 14 0) 34 15 1) 19 1 2) 24 34 (0 : Int32).toNatClampNeg (16 : Int32).toNatClampNeg (6 : Int32).toNatClampNeg) 34 22 0) 34 23 2) 19 1 3) 24 34 (0 : Int32).toNatClampNeg (24 : Int32).toNatClampNeg (6 : Int32).toNatClampNeg) 34 30 0) 34 31 3) 19 1 4) (fun r h => r = some (.int 0) ∧ h = (SH0, RF0, (gup (gup (gup (gcp (gup (gup (gup (gcp (gup (gup (gup (gcp (gup (gup (gup (gcp I0 24 34 (0 : Int32).toNatClampNeg (0 : Int32).toNatClampNeg (6 : Int32).toNatClampNeg) 34 6 0) 34 7 0) 19 1 1) 24 34 (0 : Int32).toNatClampNeg (8 : Int32).toNatClampNeg (6 : Int32).toNatClampNeg) 34 14 0) 34 15 1) 19 1 2) 24 34 (0 : Int32).toNatClampNeg (16 : Int32).toNatClampNeg (6 : Int32).toNatClampNeg) 34 22 0) 34 23 2) 19 1 3) 24 34 (0 : Int32).toNatClampNeg (24 : Int32).toNatClampNeg (6 : Int32).toNatClampNeg) 34 30 0) 34 31 3) 19 1 4))) := by
  refine G_aload_n (pc := 0) rfl dX4_reach_0 ?_
  refine G_getR (pc := 1) (r := 19) (ci := 4) (j := 0) rfl lk_RX4_21 rfl rfl rfl dX4_reach_1 ?_
  refine G_getI (pc := 4) (v := 0) (ci := 1) (j := 9) rfl rfl lk_RX4_62 rfl rfl dX4_reach_4 ?_
  refine G_istore_n (pc := 7) (L1 := [some (.ref 51), some (.int 4), some (.int 0), some (.int 0), none, none]) rfl rfl (by decide) dX4_reach_7 ?_
  refine G_aload_n (pc := 8) rfl dX4_reach_8 ?_
  refine G_iload_n (pc := 9) rfl dX4_reach_9 ?_
  refine G_iload_n (pc := 10) rfl dX4_reach_10 ?_
  refine G_callV (pc := 11) (mc1 := 0) (ms1 := 0) (ci := 4) (mj := mX4_isLast) (vs := [_, _]) dX4_reach_11 rfl rfl cm_X4_isLast wf_126 wf_129 wf_130 rfl (Nat.le_of_ble_eq_true rfl) (Nat.le_of_ble_eq_true rfl) (Nat.le_of_ble_eq_true rfl) (Nat.le_of_ble_eq_true rfl) (s191_X4_isLast  d  ) ?_
  rintro _ _ ⟨rfl, rfl⟩
  dsimp only [Option.toList, List.cons_append, List.nil_append]
  refine G_if_eq (pc := 14) (tgt := 19) (by decide) dX4_reach_14 (fun z => absurd z (by decide)) (fun _ => ?_)
  refine G_iload_n (pc := 17) rfl dX4_reach_17 ?_
  exact G_iret (pc := 18) (Nat.le_of_ble_eq_true rfl) (Nat.le_of_ble_eq_true rfl) rfl dX4_reach_18 ⟨rfl, rfl⟩
set_option maxRecDepth 100000 in
set_option maxHeartbeats 4000000 in
theorem s224_X1_restore  (d : Nat)   : G (d + 1) mX1_restore 0 0 0 0 0 (gent 3 [.ref 19, .int 3]) [] SH0 RF0 (gup (gup (gup (gcp (gup (gup (gup (gcp (gup (gup (gup (gcp (gup (gup (gup (gcp I0 24 34 (0 : Int32).toNatClampNeg (0 : Int32).toNatClampNeg (6 : Int32).toNatClampNeg) 34 6 0) 34 7 0) 19 1 1) 24 34 (0 : Int32).toNatClampNeg (8 : Int32).toNatClampNeg (6 : Int32).toNatClampNeg) 34 14 0) 34 15 1) 19 1 2) 24 34 (0 : Int32).toNatClampNeg (16 : Int32).toNatClampNeg (6 : Int32).toNatClampNeg) 34 22 0) 34 23 2) 19 1 3) 24 34 (0 : Int32).toNatClampNeg (24 : Int32).toNatClampNeg (6 : Int32).toNatClampNeg) 34 30 0) 34 31 3) 19 1 4) (fun r h => r = none ∧ h = (SH0, RF0, (gup (gup (gcp (gup (gup (gup (gcp (gup (gup (gup (gcp (gup (gup (gup (gcp (gup (gup (gup (gcp I0 24 34 (0 : Int32).toNatClampNeg (0 : Int32).toNatClampNeg (6 : Int32).toNatClampNeg) 34 6 0) 34 7 0) 19 1 1) 24 34 (0 : Int32).toNatClampNeg (8 : Int32).toNatClampNeg (6 : Int32).toNatClampNeg) 34 14 0) 34 15 1) 19 1 2) 24 34 (0 : Int32).toNatClampNeg (16 : Int32).toNatClampNeg (6 : Int32).toNatClampNeg) 34 22 0) 34 23 2) 19 1 3) 24 34 (0 : Int32).toNatClampNeg (24 : Int32).toNatClampNeg (6 : Int32).toNatClampNeg) 34 30 0) 34 31 3) 19 1 4) 34 24 (24 : Int32).toNatClampNeg (0 : Int32).toNatClampNeg (6 : Int32).toNatClampNeg) 19 9 0) 19 1 3))) := by
  refine G_iload_n (pc := 0) rfl dX1_restore_0 ?_
  refine G_bipush (pc := 1) (v := 8) (by decide) dX1_restore_1 ?_
  refine G_imul (pc := 3) (z := 24) (by decide) dX1_restore_3 ?_
  refine G_istore_n (pc := 4) (L1 := [some (.ref 19), some (.int 3), some (.int 24)]) rfl rfl (by decide) dX1_restore_4 ?_
  refine G_aload_n (pc := 5) rfl dX1_restore_5 ?_
  refine G_getR (pc := 6) (r := 34) (ci := 1) (j := 18) rfl lk_RX1_53 rfl rfl rfl dX1_restore_6 ?_
  refine G_iload_n (pc := 9) rfl dX1_restore_9 ?_
  refine G_aload_n (pc := 10) rfl dX1_restore_10 ?_
  refine G_getR (pc := 11) (r := 24) (ci := 1) (j := 11) rfl lk_RX1_31 rfl rfl rfl dX1_restore_11 ?_
  refine G_iconst (pc := 14) (v := 0) (by decide) dX1_restore_14 ?_
  refine G_bipush (pc := 15) (v := 6) (by decide) dX1_restore_15 ?_
  refine G_copy (pc := 17) (x := 34) (y := 24) rfl rfl (by decide) (by decide) (by decide) (by decide) (by decide) wf_50 wf_51 wf_52 wf_53 (Nat.le_of_ble_eq_true rfl) dX1_restore_17 ?_
  refine G_aload_n (pc := 20) rfl dX1_restore_20 ?_
  refine G_aload_n (pc := 21) rfl dX1_restore_21 ?_
  refine G_getR (pc := 22) (r := 34) (ci := 1) (j := 18) rfl lk_RX1_53 rfl rfl rfl dX1_restore_22 ?_
  refine G_iload_n (pc := 25) rfl dX1_restore_25 ?_
  refine G_bipush (pc := 26) (v := 6) (by decide) dX1_restore_26 ?_
  refine G_iadd (pc := 28) (z := 30) (by decide) dX1_restore_28 ?_
  refine G_iald (pc := 29) (jj := 30) (v := 0) (by decide) rfl rfl (by unfold vp_in; decide) dX1_restore_29 ?_
  refine G_putI (pc := 30) (ci := 1) (j := 9) rfl lk_RX1_75 rfl rfl rfl trivial dX1_restore_30 ?_
  refine G_aload_n (pc := 33) rfl dX1_restore_33 ?_
  refine G_aload_n (pc := 34) rfl dX1_restore_34 ?_
  refine G_getR (pc := 35) (r := 34) (ci := 1) (j := 18) rfl lk_RX1_53 rfl rfl rfl dX1_restore_35 ?_
  refine G_iload_n (pc := 38) rfl dX1_restore_38 ?_
  refine G_bipush (pc := 39) (v := 6) (by decide) dX1_restore_39 ?_
  refine G_iadd (pc := 41) (z := 30) (by decide) dX1_restore_41 ?_
  refine G_iconst (pc := 42) (v := 1) (by decide) dX1_restore_42 ?_
  refine G_iadd (pc := 43) (z := 31) (by decide) dX1_restore_43 ?_
  refine G_iald (pc := 44) (jj := 31) (v := 3) (by decide) rfl rfl (by unfold vp_in; decide) dX1_restore_44 ?_
  refine G_putI (pc := 45) (ci := 1) (j := 1) rfl lk_RX1_60 rfl rfl rfl trivial dX1_restore_45 ?_
  exact G_vret (pc := 48) (Nat.le_of_ble_eq_true rfl) (Nat.le_of_ble_eq_true rfl) rfl dX1_restore_48 ⟨rfl, rfl⟩
set_option maxRecDepth 100000 in
set_option maxHeartbeats 4000000 in
theorem s222_X4_reach  (d : Nat)   : G (d + 2) mX4_reach 0 0 0 0 0 (gent 6 [.ref 51, .int 3, .int 1]) [] SH0 RF0 (gup (gup (gup (gcp (gup (gup (gup (gcp (gup (gup (gup (gcp I0 24 34 (0 : Int32).toNatClampNeg (0 : Int32).toNatClampNeg (6 : Int32).toNatClampNeg) 34 6 0) 34 7 0) 19 1 1) 24 34 (0 : Int32).toNatClampNeg (8 : Int32).toNatClampNeg (6 : Int32).toNatClampNeg) 34 14 0) 34 15 1) 19 1 2) 24 34 (0 : Int32).toNatClampNeg (16 : Int32).toNatClampNeg (6 : Int32).toNatClampNeg) 34 22 0) 34 23 2) 19 1 3) (fun r h => r = some (.int 0) ∧ h = (SH0, RF0, (gup (gup (gcp (gup (gup (gup (gcp (gup (gup (gup (gcp (gup (gup (gup (gcp (gup (gup (gup (gcp I0 24 34 (0 : Int32).toNatClampNeg (0 : Int32).toNatClampNeg (6 : Int32).toNatClampNeg) 34 6 0) 34 7 0) 19 1 1) 24 34 (0 : Int32).toNatClampNeg (8 : Int32).toNatClampNeg (6 : Int32).toNatClampNeg) 34 14 0) 34 15 1) 19 1 2) 24 34 (0 : Int32).toNatClampNeg (16 : Int32).toNatClampNeg (6 : Int32).toNatClampNeg) 34 22 0) 34 23 2) 19 1 3) 24 34 (0 : Int32).toNatClampNeg (24 : Int32).toNatClampNeg (6 : Int32).toNatClampNeg) 34 30 0) 34 31 3) 19 1 4) 34 24 (24 : Int32).toNatClampNeg (0 : Int32).toNatClampNeg (6 : Int32).toNatClampNeg) 19 9 0) 19 1 3))) := by
  refine G_aload_n (pc := 0) rfl dX4_reach_0 ?_
  refine G_getR (pc := 1) (r := 19) (ci := 4) (j := 0) rfl lk_RX4_21 rfl rfl rfl dX4_reach_1 ?_
  refine G_getI (pc := 4) (v := 0) (ci := 1) (j := 9) rfl rfl lk_RX4_62 rfl rfl dX4_reach_4 ?_
  refine G_istore_n (pc := 7) (L1 := [some (.ref 51), some (.int 3), some (.int 1), some (.int 0), none, none]) rfl rfl (by decide) dX4_reach_7 ?_
  refine G_aload_n (pc := 8) rfl dX4_reach_8 ?_
  refine G_iload_n (pc := 9) rfl dX4_reach_9 ?_
  refine G_iload_n (pc := 10) rfl dX4_reach_10 ?_
  refine G_callV (pc := 11) (mc1 := 0) (ms1 := 0) (ci := 4) (mj := mX4_isLast) (vs := [_, _]) dX4_reach_11 rfl rfl cm_X4_isLast wf_126 wf_129 wf_130 rfl (Nat.le_of_ble_eq_true rfl) (Nat.le_of_ble_eq_true rfl) (Nat.le_of_ble_eq_true rfl) (Nat.le_of_ble_eq_true rfl) (s184_X4_isLast  d  ) ?_
  rintro _ _ ⟨rfl, rfl⟩
  dsimp only [Option.toList, List.cons_append, List.nil_append]
  refine G_if_eq (pc := 14) (tgt := 19) (by decide) dX4_reach_14 (fun _ => ?_) (fun z => absurd (by decide) z)
  refine G_aload_n (pc := 19) rfl dX4_reach_19 ?_
  refine G_getR (pc := 20) (r := 19) (ci := 4) (j := 0) rfl lk_RX4_21 rfl rfl rfl dX4_reach_20 ?_
  refine G_iload_n (pc := 23) rfl dX4_reach_23 ?_
  refine G_callV (pc := 24) (mc1 := 0) (ms1 := 0) (ci := 1) (mj := mX1_save) (vs := [_]) dX4_reach_24 rfl rfl cm_X1_save wf_134 wf_105 wf_106 rfl (Nat.le_of_ble_eq_true rfl) (Nat.le_of_ble_eq_true rfl) (Nat.le_of_ble_eq_true rfl) (Nat.le_of_ble_eq_true rfl) (s186_X1_save  d  ) ?_
  rintro _ _ ⟨rfl, rfl⟩
  dsimp only [Option.toList, List.cons_append, List.nil_append]
  refine G_iconst (pc := 27) (v := 0) (by decide) dX4_reach_27 ?_
  refine G_istore (pc := 28) (L1 := [some (.ref 51), some (.int 3), some (.int 1), some (.int 0), some (.int 0), none]) rfl rfl (by decide) dX4_reach_28 ?_
  refine G_iload (pc := 30) rfl dX4_reach_30 ?_
  refine G_aload_n (pc := 32) rfl dX4_reach_32 ?_
  refine G_getR (pc := 33) (r := 19) (ci := 4) (j := 0) rfl lk_RX4_21 rfl rfl rfl dX4_reach_33 ?_
  refine G_getI (pc := 36) (v := 0) (ci := 1) (j := 8) rfl rfl lk_RX4_39 rfl rfl dX4_reach_36 ?_
  refine G_icmp_gt (pc := 39) (tgt := 98) (by decide) dX4_reach_39 (fun z => absurd z (by decide)) (fun _ => ?_)
  refine G_aload_n (pc := 42) rfl dX4_reach_42 ?_
  refine G_getR (pc := 43) (r := 19) (ci := 4) (j := 0) rfl lk_RX4_21 rfl rfl rfl dX4_reach_43 ?_
  refine G_iload (pc := 46) rfl dX4_reach_46 ?_
  refine G_callV (pc := 48) (mc1 := 0) (ms1 := 0) (ci := 1) (mj := mX1_tell) (vs := [_]) dX4_reach_48 rfl rfl cm_X1_tell wf_135 wf_71 wf_72 rfl (Nat.le_of_ble_eq_true rfl) (Nat.le_of_ble_eq_true rfl) (Nat.le_of_ble_eq_true rfl) (Nat.le_of_ble_eq_true rfl) (s187_X1_tell  d  ) ?_
  rintro _ _ ⟨rfl, rfl⟩
  dsimp only [Option.toList, List.cons_append, List.nil_append]
  refine G_istore (pc := 51) (L1 := [some (.ref 51), some (.int 3), some (.int 1), some (.int 0), some (.int 0), some (.int 0)]) rfl rfl (by decide) dX4_reach_51 ?_
  refine G_iload (pc := 53) rfl dX4_reach_53 ?_
  refine G_if_eq (pc := 55) (tgt := 63) (by decide) dX4_reach_55 (fun _ => ?_) (fun z => absurd (by decide) z)
  refine G_aload_n (pc := 63) rfl dX4_reach_63 ?_
  refine G_getR (pc := 64) (r := 19) (ci := 4) (j := 0) rfl lk_RX4_21 rfl rfl rfl dX4_reach_64 ?_
  refine G_callV (pc := 67) (mc1 := 0) (ms1 := 0) (ci := 1) (mj := mX1_melt) (vs := []) dX4_reach_67 rfl rfl cm_X1_melt wf_136 wf_75 wf_76 rfl (Nat.le_of_ble_eq_true rfl) (Nat.le_of_ble_eq_true rfl) (Nat.le_of_ble_eq_true rfl) (Nat.le_of_ble_eq_true rfl) (s189_X1_melt  (d + 1)  ) ?_
  rintro _ _ ⟨rfl, rfl⟩
  dsimp only [Option.toList, List.cons_append, List.nil_append]
  refine G_pop (pc := 70) rfl dX4_reach_70 ?_
  refine G_iload_n (pc := 71) rfl dX4_reach_71 ?_
  refine G_aload_n (pc := 72) rfl dX4_reach_72 ?_
  refine G_iload_n (pc := 73) rfl dX4_reach_73 ?_
  refine G_iconst (pc := 74) (v := 1) (by decide) dX4_reach_74 ?_
  refine G_iadd (pc := 75) (z := 4) (by decide) dX4_reach_75 ?_
  refine G_iload_n (pc := 76) rfl dX4_reach_76 ?_
  refine G_iconst (pc := 77) (v := 1) (by decide) dX4_reach_77 ?_
  refine G_isub (pc := 78) (z := 0) (by decide) dX4_reach_78 ?_
  refine G_callV (pc := 79) (mc1 := 0) (ms1 := 0) (ci := 4) (mj := mX4_reach) (vs := [_, _]) dX4_reach_79 rfl rfl cm_X4_reach wf_167 wf_162 wf_163 rfl (Nat.le_of_ble_eq_true rfl) (Nat.le_of_ble_eq_true rfl) (Nat.le_of_ble_eq_true rfl) (Nat.le_of_ble_eq_true rfl) (s223_X4_reach  d  ) ?_
  rintro _ _ ⟨rfl, rfl⟩
  dsimp only [Option.toList, List.cons_append, List.nil_append]
  refine G_ior (pc := 82) (z := 0) (by decide) dX4_reach_82 ?_
  refine G_istore_n (pc := 83) (L1 := [some (.ref 51), some (.int 3), some (.int 1), some (.int 0), some (.int 0), some (.int 0)]) rfl rfl (by decide) dX4_reach_83 ?_
  refine G_aload_n (pc := 84) rfl dX4_reach_84 ?_
  refine G_getR (pc := 85) (r := 19) (ci := 4) (j := 0) rfl lk_RX4_21 rfl rfl rfl dX4_reach_85 ?_
  refine G_iload_n (pc := 88) rfl dX4_reach_88 ?_
  refine G_callV (pc := 89) (mc1 := 0) (ms1 := 0) (ci := 1) (mj := mX1_restore) (vs := [_]) dX4_reach_89 rfl rfl cm_X1_restore wf_138 wf_109 wf_110 rfl (Nat.le_of_ble_eq_true rfl) (Nat.le_of_ble_eq_true rfl) (Nat.le_of_ble_eq_true rfl) (Nat.le_of_ble_eq_true rfl) (s224_X1_restore  d  ) ?_
  rintro _ _ ⟨rfl, rfl⟩
  dsimp only [Option.toList, List.cons_append, List.nil_append]
  refine G_iinc (pc := 92) (v := 1) (w := 1) (L1 := [some (.ref 51), some (.int 3), some (.int 1), some (.int 0), some (.int 1), some (.int 0)]) (by decide) rfl rfl (by decide) rfl (by decide) dX4_reach_92 ?_
  refine G_goto (pc := 95) (tgt := 30) (by decide) dX4_reach_95 ?_
  refine G_iload (pc := 30) rfl dX4_reach_30 ?_
  refine G_aload_n (pc := 32) rfl dX4_reach_32 ?_
  refine G_getR (pc := 33) (r := 19) (ci := 4) (j := 0) rfl lk_RX4_21 rfl rfl rfl dX4_reach_33 ?_
  refine G_getI (pc := 36) (v := 0) (ci := 1) (j := 8) rfl rfl lk_RX4_39 rfl rfl dX4_reach_36 ?_
  refine G_icmp_gt (pc := 39) (tgt := 98) (by decide) dX4_reach_39 (fun _ => ?_) (fun z => absurd (by decide) z)
  refine G_iload_n (pc := 98) rfl dX4_reach_98 ?_
  exact G_iret (pc := 99) (Nat.le_of_ble_eq_true rfl) (Nat.le_of_ble_eq_true rfl) rfl dX4_reach_99 ⟨rfl, rfl⟩
set_option maxRecDepth 100000 in
set_option maxHeartbeats 4000000 in
theorem s225_X1_restore  (d : Nat)   : G (d + 1) mX1_restore 0 0 0 0 0 (gent 3 [.ref 19, .int 2]) [] SH0 RF0 (gup (gup (gcp (gup (gup (gup (gcp (gup (gup (gup (gcp (gup (gup (gup (gcp (gup (gup (gup (gcp I0 24 34 (0 : Int32).toNatClampNeg (0 : Int32).toNatClampNeg (6 : Int32).toNatClampNeg) 34 6 0) 34 7 0) 19 1 1) 24 34 (0 : Int32).toNatClampNeg (8 : Int32).toNatClampNeg (6 : Int32).toNatClampNeg) 34 14 0) 34 15 1) 19 1 2) 24 34 (0 : Int32).toNatClampNeg (16 : Int32).toNatClampNeg (6 : Int32).toNatClampNeg) 34 22 0) 34 23 2) 19 1 3) 24 34 (0 : Int32).toNatClampNeg (24 : Int32).toNatClampNeg (6 : Int32).toNatClampNeg) 34 30 0) 34 31 3) 19 1 4) 34 24 (24 : Int32).toNatClampNeg (0 : Int32).toNatClampNeg (6 : Int32).toNatClampNeg) 19 9 0) 19 1 3) (fun r h => r = none ∧ h = (SH0, RF0, (gup (gup (gcp (gup (gup (gcp (gup (gup (gup (gcp (gup (gup (gup (gcp (gup (gup (gup (gcp (gup (gup (gup (gcp I0 24 34 (0 : Int32).toNatClampNeg (0 : Int32).toNatClampNeg (6 : Int32).toNatClampNeg) 34 6 0) 34 7 0) 19 1 1) 24 34 (0 : Int32).toNatClampNeg (8 : Int32).toNatClampNeg (6 : Int32).toNatClampNeg) 34 14 0) 34 15 1) 19 1 2) 24 34 (0 : Int32).toNatClampNeg (16 : Int32).toNatClampNeg (6 : Int32).toNatClampNeg) 34 22 0) 34 23 2) 19 1 3) 24 34 (0 : Int32).toNatClampNeg (24 : Int32).toNatClampNeg (6 : Int32).toNatClampNeg) 34 30 0) 34 31 3) 19 1 4) 34 24 (24 : Int32).toNatClampNeg (0 : Int32).toNatClampNeg (6 : Int32).toNatClampNeg) 19 9 0) 19 1 3) 34 24 (16 : Int32).toNatClampNeg (0 : Int32).toNatClampNeg (6 : Int32).toNatClampNeg) 19 9 0) 19 1 2))) := by
  refine G_iload_n (pc := 0) rfl dX1_restore_0 ?_
  refine G_bipush (pc := 1) (v := 8) (by decide) dX1_restore_1 ?_
  refine G_imul (pc := 3) (z := 16) (by decide) dX1_restore_3 ?_
  refine G_istore_n (pc := 4) (L1 := [some (.ref 19), some (.int 2), some (.int 16)]) rfl rfl (by decide) dX1_restore_4 ?_
  refine G_aload_n (pc := 5) rfl dX1_restore_5 ?_
  refine G_getR (pc := 6) (r := 34) (ci := 1) (j := 18) rfl lk_RX1_53 rfl rfl rfl dX1_restore_6 ?_
  refine G_iload_n (pc := 9) rfl dX1_restore_9 ?_
  refine G_aload_n (pc := 10) rfl dX1_restore_10 ?_
  refine G_getR (pc := 11) (r := 24) (ci := 1) (j := 11) rfl lk_RX1_31 rfl rfl rfl dX1_restore_11 ?_
  refine G_iconst (pc := 14) (v := 0) (by decide) dX1_restore_14 ?_
  refine G_bipush (pc := 15) (v := 6) (by decide) dX1_restore_15 ?_
  refine G_copy (pc := 17) (x := 34) (y := 24) rfl rfl (by decide) (by decide) (by decide) (by decide) (by decide) wf_50 wf_51 wf_52 wf_53 (Nat.le_of_ble_eq_true rfl) dX1_restore_17 ?_
  refine G_aload_n (pc := 20) rfl dX1_restore_20 ?_
  refine G_aload_n (pc := 21) rfl dX1_restore_21 ?_
  refine G_getR (pc := 22) (r := 34) (ci := 1) (j := 18) rfl lk_RX1_53 rfl rfl rfl dX1_restore_22 ?_
  refine G_iload_n (pc := 25) rfl dX1_restore_25 ?_
  refine G_bipush (pc := 26) (v := 6) (by decide) dX1_restore_26 ?_
  refine G_iadd (pc := 28) (z := 22) (by decide) dX1_restore_28 ?_
  refine G_iald (pc := 29) (jj := 22) (v := 0) (by decide) rfl rfl (by unfold vp_in; decide) dX1_restore_29 ?_
  refine G_putI (pc := 30) (ci := 1) (j := 9) rfl lk_RX1_75 rfl rfl rfl trivial dX1_restore_30 ?_
  refine G_aload_n (pc := 33) rfl dX1_restore_33 ?_
  refine G_aload_n (pc := 34) rfl dX1_restore_34 ?_
  refine G_getR (pc := 35) (r := 34) (ci := 1) (j := 18) rfl lk_RX1_53 rfl rfl rfl dX1_restore_35 ?_
  refine G_iload_n (pc := 38) rfl dX1_restore_38 ?_
  refine G_bipush (pc := 39) (v := 6) (by decide) dX1_restore_39 ?_
  refine G_iadd (pc := 41) (z := 22) (by decide) dX1_restore_41 ?_
  refine G_iconst (pc := 42) (v := 1) (by decide) dX1_restore_42 ?_
  refine G_iadd (pc := 43) (z := 23) (by decide) dX1_restore_43 ?_
  refine G_iald (pc := 44) (jj := 23) (v := 2) (by decide) rfl rfl (by unfold vp_in; decide) dX1_restore_44 ?_
  refine G_putI (pc := 45) (ci := 1) (j := 1) rfl lk_RX1_60 rfl rfl rfl trivial dX1_restore_45 ?_
  exact G_vret (pc := 48) (Nat.le_of_ble_eq_true rfl) (Nat.le_of_ble_eq_true rfl) rfl dX1_restore_48 ⟨rfl, rfl⟩
set_option maxRecDepth 100000 in
set_option maxHeartbeats 4000000 in
theorem s221_X4_reach  (d : Nat)   : G (d + 3) mX4_reach 0 0 0 0 0 (gent 6 [.ref 51, .int 2, .int 2]) [] SH0 RF0 (gup (gup (gup (gcp (gup (gup (gup (gcp I0 24 34 (0 : Int32).toNatClampNeg (0 : Int32).toNatClampNeg (6 : Int32).toNatClampNeg) 34 6 0) 34 7 0) 19 1 1) 24 34 (0 : Int32).toNatClampNeg (8 : Int32).toNatClampNeg (6 : Int32).toNatClampNeg) 34 14 0) 34 15 1) 19 1 2) (fun r h => r = some (.int 0) ∧ h = (SH0, RF0, (gup (gup (gcp (gup (gup (gcp (gup (gup (gup (gcp (gup (gup (gup (gcp (gup (gup (gup (gcp (gup (gup (gup (gcp I0 24 34 (0 : Int32).toNatClampNeg (0 : Int32).toNatClampNeg (6 : Int32).toNatClampNeg) 34 6 0) 34 7 0) 19 1 1) 24 34 (0 : Int32).toNatClampNeg (8 : Int32).toNatClampNeg (6 : Int32).toNatClampNeg) 34 14 0) 34 15 1) 19 1 2) 24 34 (0 : Int32).toNatClampNeg (16 : Int32).toNatClampNeg (6 : Int32).toNatClampNeg) 34 22 0) 34 23 2) 19 1 3) 24 34 (0 : Int32).toNatClampNeg (24 : Int32).toNatClampNeg (6 : Int32).toNatClampNeg) 34 30 0) 34 31 3) 19 1 4) 34 24 (24 : Int32).toNatClampNeg (0 : Int32).toNatClampNeg (6 : Int32).toNatClampNeg) 19 9 0) 19 1 3) 34 24 (16 : Int32).toNatClampNeg (0 : Int32).toNatClampNeg (6 : Int32).toNatClampNeg) 19 9 0) 19 1 2))) := by
  refine G_aload_n (pc := 0) rfl dX4_reach_0 ?_
  refine G_getR (pc := 1) (r := 19) (ci := 4) (j := 0) rfl lk_RX4_21 rfl rfl rfl dX4_reach_1 ?_
  refine G_getI (pc := 4) (v := 0) (ci := 1) (j := 9) rfl rfl lk_RX4_62 rfl rfl dX4_reach_4 ?_
  refine G_istore_n (pc := 7) (L1 := [some (.ref 51), some (.int 2), some (.int 2), some (.int 0), none, none]) rfl rfl (by decide) dX4_reach_7 ?_
  refine G_aload_n (pc := 8) rfl dX4_reach_8 ?_
  refine G_iload_n (pc := 9) rfl dX4_reach_9 ?_
  refine G_iload_n (pc := 10) rfl dX4_reach_10 ?_
  refine G_callV (pc := 11) (mc1 := 0) (ms1 := 0) (ci := 4) (mj := mX4_isLast) (vs := [_, _]) dX4_reach_11 rfl rfl cm_X4_isLast wf_126 wf_129 wf_130 rfl (Nat.le_of_ble_eq_true rfl) (Nat.le_of_ble_eq_true rfl) (Nat.le_of_ble_eq_true rfl) (Nat.le_of_ble_eq_true rfl) (s182_X4_isLast  (d + 1)  ) ?_
  rintro _ _ ⟨rfl, rfl⟩
  dsimp only [Option.toList, List.cons_append, List.nil_append]
  refine G_if_eq (pc := 14) (tgt := 19) (by decide) dX4_reach_14 (fun _ => ?_) (fun z => absurd (by decide) z)
  refine G_aload_n (pc := 19) rfl dX4_reach_19 ?_
  refine G_getR (pc := 20) (r := 19) (ci := 4) (j := 0) rfl lk_RX4_21 rfl rfl rfl dX4_reach_20 ?_
  refine G_iload_n (pc := 23) rfl dX4_reach_23 ?_
  refine G_callV (pc := 24) (mc1 := 0) (ms1 := 0) (ci := 1) (mj := mX1_save) (vs := [_]) dX4_reach_24 rfl rfl cm_X1_save wf_134 wf_105 wf_106 rfl (Nat.le_of_ble_eq_true rfl) (Nat.le_of_ble_eq_true rfl) (Nat.le_of_ble_eq_true rfl) (Nat.le_of_ble_eq_true rfl) (s170_X1_save  (d + 1)  ) ?_
  rintro _ _ ⟨rfl, rfl⟩
  dsimp only [Option.toList, List.cons_append, List.nil_append]
  refine G_iconst (pc := 27) (v := 0) (by decide) dX4_reach_27 ?_
  refine G_istore (pc := 28) (L1 := [some (.ref 51), some (.int 2), some (.int 2), some (.int 0), some (.int 0), none]) rfl rfl (by decide) dX4_reach_28 ?_
  refine G_iload (pc := 30) rfl dX4_reach_30 ?_
  refine G_aload_n (pc := 32) rfl dX4_reach_32 ?_
  refine G_getR (pc := 33) (r := 19) (ci := 4) (j := 0) rfl lk_RX4_21 rfl rfl rfl dX4_reach_33 ?_
  refine G_getI (pc := 36) (v := 0) (ci := 1) (j := 8) rfl rfl lk_RX4_39 rfl rfl dX4_reach_36 ?_
  refine G_icmp_gt (pc := 39) (tgt := 98) (by decide) dX4_reach_39 (fun z => absurd z (by decide)) (fun _ => ?_)
  refine G_aload_n (pc := 42) rfl dX4_reach_42 ?_
  refine G_getR (pc := 43) (r := 19) (ci := 4) (j := 0) rfl lk_RX4_21 rfl rfl rfl dX4_reach_43 ?_
  refine G_iload (pc := 46) rfl dX4_reach_46 ?_
  refine G_callV (pc := 48) (mc1 := 0) (ms1 := 0) (ci := 1) (mj := mX1_tell) (vs := [_]) dX4_reach_48 rfl rfl cm_X1_tell wf_135 wf_71 wf_72 rfl (Nat.le_of_ble_eq_true rfl) (Nat.le_of_ble_eq_true rfl) (Nat.le_of_ble_eq_true rfl) (Nat.le_of_ble_eq_true rfl) (s171_X1_tell  (d + 1)  ) ?_
  rintro _ _ ⟨rfl, rfl⟩
  dsimp only [Option.toList, List.cons_append, List.nil_append]
  refine G_istore (pc := 51) (L1 := [some (.ref 51), some (.int 2), some (.int 2), some (.int 0), some (.int 0), some (.int 0)]) rfl rfl (by decide) dX4_reach_51 ?_
  refine G_iload (pc := 53) rfl dX4_reach_53 ?_
  refine G_if_eq (pc := 55) (tgt := 63) (by decide) dX4_reach_55 (fun _ => ?_) (fun z => absurd (by decide) z)
  refine G_aload_n (pc := 63) rfl dX4_reach_63 ?_
  refine G_getR (pc := 64) (r := 19) (ci := 4) (j := 0) rfl lk_RX4_21 rfl rfl rfl dX4_reach_64 ?_
  refine G_callV (pc := 67) (mc1 := 0) (ms1 := 0) (ci := 1) (mj := mX1_melt) (vs := []) dX4_reach_67 rfl rfl cm_X1_melt wf_136 wf_75 wf_76 rfl (Nat.le_of_ble_eq_true rfl) (Nat.le_of_ble_eq_true rfl) (Nat.le_of_ble_eq_true rfl) (Nat.le_of_ble_eq_true rfl) (s173_X1_melt  (d + 2)  ) ?_
  rintro _ _ ⟨rfl, rfl⟩
  dsimp only [Option.toList, List.cons_append, List.nil_append]
  refine G_pop (pc := 70) rfl dX4_reach_70 ?_
  refine G_iload_n (pc := 71) rfl dX4_reach_71 ?_
  refine G_aload_n (pc := 72) rfl dX4_reach_72 ?_
  refine G_iload_n (pc := 73) rfl dX4_reach_73 ?_
  refine G_iconst (pc := 74) (v := 1) (by decide) dX4_reach_74 ?_
  refine G_iadd (pc := 75) (z := 3) (by decide) dX4_reach_75 ?_
  refine G_iload_n (pc := 76) rfl dX4_reach_76 ?_
  refine G_iconst (pc := 77) (v := 1) (by decide) dX4_reach_77 ?_
  refine G_isub (pc := 78) (z := 1) (by decide) dX4_reach_78 ?_
  refine G_callV (pc := 79) (mc1 := 0) (ms1 := 0) (ci := 4) (mj := mX4_reach) (vs := [_, _]) dX4_reach_79 rfl rfl cm_X4_reach wf_167 wf_162 wf_163 rfl (Nat.le_of_ble_eq_true rfl) (Nat.le_of_ble_eq_true rfl) (Nat.le_of_ble_eq_true rfl) (Nat.le_of_ble_eq_true rfl) (s222_X4_reach  d  ) ?_
  rintro _ _ ⟨rfl, rfl⟩
  dsimp only [Option.toList, List.cons_append, List.nil_append]
  refine G_ior (pc := 82) (z := 0) (by decide) dX4_reach_82 ?_
  refine G_istore_n (pc := 83) (L1 := [some (.ref 51), some (.int 2), some (.int 2), some (.int 0), some (.int 0), some (.int 0)]) rfl rfl (by decide) dX4_reach_83 ?_
  refine G_aload_n (pc := 84) rfl dX4_reach_84 ?_
  refine G_getR (pc := 85) (r := 19) (ci := 4) (j := 0) rfl lk_RX4_21 rfl rfl rfl dX4_reach_85 ?_
  refine G_iload_n (pc := 88) rfl dX4_reach_88 ?_
  refine G_callV (pc := 89) (mc1 := 0) (ms1 := 0) (ci := 1) (mj := mX1_restore) (vs := [_]) dX4_reach_89 rfl rfl cm_X1_restore wf_138 wf_109 wf_110 rfl (Nat.le_of_ble_eq_true rfl) (Nat.le_of_ble_eq_true rfl) (Nat.le_of_ble_eq_true rfl) (Nat.le_of_ble_eq_true rfl) (s225_X1_restore  (d + 1)  ) ?_
  rintro _ _ ⟨rfl, rfl⟩
  dsimp only [Option.toList, List.cons_append, List.nil_append]
  refine G_iinc (pc := 92) (v := 1) (w := 1) (L1 := [some (.ref 51), some (.int 2), some (.int 2), some (.int 0), some (.int 1), some (.int 0)]) (by decide) rfl rfl (by decide) rfl (by decide) dX4_reach_92 ?_
  refine G_goto (pc := 95) (tgt := 30) (by decide) dX4_reach_95 ?_
  refine G_iload (pc := 30) rfl dX4_reach_30 ?_
  refine G_aload_n (pc := 32) rfl dX4_reach_32 ?_
  refine G_getR (pc := 33) (r := 19) (ci := 4) (j := 0) rfl lk_RX4_21 rfl rfl rfl dX4_reach_33 ?_
  refine G_getI (pc := 36) (v := 0) (ci := 1) (j := 8) rfl rfl lk_RX4_39 rfl rfl dX4_reach_36 ?_
  refine G_icmp_gt (pc := 39) (tgt := 98) (by decide) dX4_reach_39 (fun _ => ?_) (fun z => absurd (by decide) z)
  refine G_iload_n (pc := 98) rfl dX4_reach_98 ?_
  exact G_iret (pc := 99) (Nat.le_of_ble_eq_true rfl) (Nat.le_of_ble_eq_true rfl) rfl dX4_reach_99 ⟨rfl, rfl⟩
set_option maxRecDepth 100000 in
set_option maxHeartbeats 4000000 in
theorem s226_X1_restore  (d : Nat)   : G (d + 1) mX1_restore 0 0 0 0 0 (gent 3 [.ref 19, .int 1]) [] SH0 RF0 (gup (gup (gcp (gup (gup (gcp (gup (gup (gup (gcp (gup (gup (gup (gcp (gup (gup (gup (gcp (gup (gup (gup (gcp I0 24 34 (0 : Int32).toNatClampNeg (0 : Int32).toNatClampNeg (6 : Int32).toNatClampNeg) 34 6 0) 34 7 0) 19 1 1) 24 34 (0 : Int32).toNatClampNeg (8 : Int32).toNatClampNeg (6 : Int32).toNatClampNeg) 34 14 0) 34 15 1) 19 1 2) 24 34 (0 : Int32).toNatClampNeg (16 : Int32).toNatClampNeg (6 : Int32).toNatClampNeg) 34 22 0) 34 23 2) 19 1 3) 24 34 (0 : Int32).toNatClampNeg (24 : Int32).toNatClampNeg (6 : Int32).toNatClampNeg) 34 30 0) 34 31 3) 19 1 4) 34 24 (24 : Int32).toNatClampNeg (0 : Int32).toNatClampNeg (6 : Int32).toNatClampNeg) 19 9 0) 19 1 3) 34 24 (16 : Int32).toNatClampNeg (0 : Int32).toNatClampNeg (6 : Int32).toNatClampNeg) 19 9 0) 19 1 2) (fun r h => r = none ∧ h = (SH0, RF0, (gup (gup (gcp (gup (gup (gcp (gup (gup (gcp (gup (gup (gup (gcp (gup (gup (gup (gcp (gup (gup (gup (gcp (gup (gup (gup (gcp I0 24 34 (0 : Int32).toNatClampNeg (0 : Int32).toNatClampNeg (6 : Int32).toNatClampNeg) 34 6 0) 34 7 0) 19 1 1) 24 34 (0 : Int32).toNatClampNeg (8 : Int32).toNatClampNeg (6 : Int32).toNatClampNeg) 34 14 0) 34 15 1) 19 1 2) 24 34 (0 : Int32).toNatClampNeg (16 : Int32).toNatClampNeg (6 : Int32).toNatClampNeg) 34 22 0) 34 23 2) 19 1 3) 24 34 (0 : Int32).toNatClampNeg (24 : Int32).toNatClampNeg (6 : Int32).toNatClampNeg) 34 30 0) 34 31 3) 19 1 4) 34 24 (24 : Int32).toNatClampNeg (0 : Int32).toNatClampNeg (6 : Int32).toNatClampNeg) 19 9 0) 19 1 3) 34 24 (16 : Int32).toNatClampNeg (0 : Int32).toNatClampNeg (6 : Int32).toNatClampNeg) 19 9 0) 19 1 2) 34 24 (8 : Int32).toNatClampNeg (0 : Int32).toNatClampNeg (6 : Int32).toNatClampNeg) 19 9 0) 19 1 1))) := by
  refine G_iload_n (pc := 0) rfl dX1_restore_0 ?_
  refine G_bipush (pc := 1) (v := 8) (by decide) dX1_restore_1 ?_
  refine G_imul (pc := 3) (z := 8) (by decide) dX1_restore_3 ?_
  refine G_istore_n (pc := 4) (L1 := [some (.ref 19), some (.int 1), some (.int 8)]) rfl rfl (by decide) dX1_restore_4 ?_
  refine G_aload_n (pc := 5) rfl dX1_restore_5 ?_
  refine G_getR (pc := 6) (r := 34) (ci := 1) (j := 18) rfl lk_RX1_53 rfl rfl rfl dX1_restore_6 ?_
  refine G_iload_n (pc := 9) rfl dX1_restore_9 ?_
  refine G_aload_n (pc := 10) rfl dX1_restore_10 ?_
  refine G_getR (pc := 11) (r := 24) (ci := 1) (j := 11) rfl lk_RX1_31 rfl rfl rfl dX1_restore_11 ?_
  refine G_iconst (pc := 14) (v := 0) (by decide) dX1_restore_14 ?_
  refine G_bipush (pc := 15) (v := 6) (by decide) dX1_restore_15 ?_
  refine G_copy (pc := 17) (x := 34) (y := 24) rfl rfl (by decide) (by decide) (by decide) (by decide) (by decide) wf_50 wf_51 wf_52 wf_53 (Nat.le_of_ble_eq_true rfl) dX1_restore_17 ?_
  refine G_aload_n (pc := 20) rfl dX1_restore_20 ?_
  refine G_aload_n (pc := 21) rfl dX1_restore_21 ?_
  refine G_getR (pc := 22) (r := 34) (ci := 1) (j := 18) rfl lk_RX1_53 rfl rfl rfl dX1_restore_22 ?_
  refine G_iload_n (pc := 25) rfl dX1_restore_25 ?_
  refine G_bipush (pc := 26) (v := 6) (by decide) dX1_restore_26 ?_
  refine G_iadd (pc := 28) (z := 14) (by decide) dX1_restore_28 ?_
  refine G_iald (pc := 29) (jj := 14) (v := 0) (by decide) rfl rfl (by unfold vp_in; decide) dX1_restore_29 ?_
  refine G_putI (pc := 30) (ci := 1) (j := 9) rfl lk_RX1_75 rfl rfl rfl trivial dX1_restore_30 ?_
  refine G_aload_n (pc := 33) rfl dX1_restore_33 ?_
  refine G_aload_n (pc := 34) rfl dX1_restore_34 ?_
  refine G_getR (pc := 35) (r := 34) (ci := 1) (j := 18) rfl lk_RX1_53 rfl rfl rfl dX1_restore_35 ?_
  refine G_iload_n (pc := 38) rfl dX1_restore_38 ?_
  refine G_bipush (pc := 39) (v := 6) (by decide) dX1_restore_39 ?_
  refine G_iadd (pc := 41) (z := 14) (by decide) dX1_restore_41 ?_
  refine G_iconst (pc := 42) (v := 1) (by decide) dX1_restore_42 ?_
  refine G_iadd (pc := 43) (z := 15) (by decide) dX1_restore_43 ?_
  refine G_iald (pc := 44) (jj := 15) (v := 1) (by decide) rfl rfl (by unfold vp_in; decide) dX1_restore_44 ?_
  refine G_putI (pc := 45) (ci := 1) (j := 1) rfl lk_RX1_60 rfl rfl rfl trivial dX1_restore_45 ?_
  exact G_vret (pc := 48) (Nat.le_of_ble_eq_true rfl) (Nat.le_of_ble_eq_true rfl) rfl dX1_restore_48 ⟨rfl, rfl⟩
set_option maxRecDepth 100000 in
set_option maxHeartbeats 4000000 in
theorem s220_X4_reach  (d : Nat)   : G (d + 4) mX4_reach 0 0 0 0 0 (gent 6 [.ref 51, .int 1, .int 3]) [] SH0 RF0 (gup (gup (gup (gcp I0 24 34 (0 : Int32).toNatClampNeg (0 : Int32).toNatClampNeg (6 : Int32).toNatClampNeg) 34 6 0) 34 7 0) 19 1 1) (fun r h => r = some (.int 0) ∧ h = (SH0, RF0, (gup (gup (gcp (gup (gup (gcp (gup (gup (gcp (gup (gup (gup (gcp (gup (gup (gup (gcp (gup (gup (gup (gcp (gup (gup (gup (gcp I0 24 34 (0 : Int32).toNatClampNeg (0 : Int32).toNatClampNeg (6 : Int32).toNatClampNeg) 34 6 0) 34 7 0) 19 1 1) 24 34 (0 : Int32).toNatClampNeg (8 : Int32).toNatClampNeg (6 : Int32).toNatClampNeg) 34 14 0) 34 15 1) 19 1 2) 24 34 (0 : Int32).toNatClampNeg (16 : Int32).toNatClampNeg (6 : Int32).toNatClampNeg) 34 22 0) 34 23 2) 19 1 3) 24 34 (0 : Int32).toNatClampNeg (24 : Int32).toNatClampNeg (6 : Int32).toNatClampNeg) 34 30 0) 34 31 3) 19 1 4) 34 24 (24 : Int32).toNatClampNeg (0 : Int32).toNatClampNeg (6 : Int32).toNatClampNeg) 19 9 0) 19 1 3) 34 24 (16 : Int32).toNatClampNeg (0 : Int32).toNatClampNeg (6 : Int32).toNatClampNeg) 19 9 0) 19 1 2) 34 24 (8 : Int32).toNatClampNeg (0 : Int32).toNatClampNeg (6 : Int32).toNatClampNeg) 19 9 0) 19 1 1))) := by
  refine G_aload_n (pc := 0) rfl dX4_reach_0 ?_
  refine G_getR (pc := 1) (r := 19) (ci := 4) (j := 0) rfl lk_RX4_21 rfl rfl rfl dX4_reach_1 ?_
  refine G_getI (pc := 4) (v := 0) (ci := 1) (j := 9) rfl rfl lk_RX4_62 rfl rfl dX4_reach_4 ?_
  refine G_istore_n (pc := 7) (L1 := [some (.ref 51), some (.int 1), some (.int 3), some (.int 0), none, none]) rfl rfl (by decide) dX4_reach_7 ?_
  refine G_aload_n (pc := 8) rfl dX4_reach_8 ?_
  refine G_iload_n (pc := 9) rfl dX4_reach_9 ?_
  refine G_iload_n (pc := 10) rfl dX4_reach_10 ?_
  refine G_callV (pc := 11) (mc1 := 0) (ms1 := 0) (ci := 4) (mj := mX4_isLast) (vs := [_, _]) dX4_reach_11 rfl rfl cm_X4_isLast wf_126 wf_129 wf_130 rfl (Nat.le_of_ble_eq_true rfl) (Nat.le_of_ble_eq_true rfl) (Nat.le_of_ble_eq_true rfl) (Nat.le_of_ble_eq_true rfl) (s180_X4_isLast  (d + 2)  ) ?_
  rintro _ _ ⟨rfl, rfl⟩
  dsimp only [Option.toList, List.cons_append, List.nil_append]
  refine G_if_eq (pc := 14) (tgt := 19) (by decide) dX4_reach_14 (fun _ => ?_) (fun z => absurd (by decide) z)
  refine G_aload_n (pc := 19) rfl dX4_reach_19 ?_
  refine G_getR (pc := 20) (r := 19) (ci := 4) (j := 0) rfl lk_RX4_21 rfl rfl rfl dX4_reach_20 ?_
  refine G_iload_n (pc := 23) rfl dX4_reach_23 ?_
  refine G_callV (pc := 24) (mc1 := 0) (ms1 := 0) (ci := 1) (mj := mX1_save) (vs := [_]) dX4_reach_24 rfl rfl cm_X1_save wf_134 wf_105 wf_106 rfl (Nat.le_of_ble_eq_true rfl) (Nat.le_of_ble_eq_true rfl) (Nat.le_of_ble_eq_true rfl) (Nat.le_of_ble_eq_true rfl) (s156_X1_save  (d + 2)  ) ?_
  rintro _ _ ⟨rfl, rfl⟩
  dsimp only [Option.toList, List.cons_append, List.nil_append]
  refine G_iconst (pc := 27) (v := 0) (by decide) dX4_reach_27 ?_
  refine G_istore (pc := 28) (L1 := [some (.ref 51), some (.int 1), some (.int 3), some (.int 0), some (.int 0), none]) rfl rfl (by decide) dX4_reach_28 ?_
  refine G_iload (pc := 30) rfl dX4_reach_30 ?_
  refine G_aload_n (pc := 32) rfl dX4_reach_32 ?_
  refine G_getR (pc := 33) (r := 19) (ci := 4) (j := 0) rfl lk_RX4_21 rfl rfl rfl dX4_reach_33 ?_
  refine G_getI (pc := 36) (v := 0) (ci := 1) (j := 8) rfl rfl lk_RX4_39 rfl rfl dX4_reach_36 ?_
  refine G_icmp_gt (pc := 39) (tgt := 98) (by decide) dX4_reach_39 (fun z => absurd z (by decide)) (fun _ => ?_)
  refine G_aload_n (pc := 42) rfl dX4_reach_42 ?_
  refine G_getR (pc := 43) (r := 19) (ci := 4) (j := 0) rfl lk_RX4_21 rfl rfl rfl dX4_reach_43 ?_
  refine G_iload (pc := 46) rfl dX4_reach_46 ?_
  refine G_callV (pc := 48) (mc1 := 0) (ms1 := 0) (ci := 1) (mj := mX1_tell) (vs := [_]) dX4_reach_48 rfl rfl cm_X1_tell wf_135 wf_71 wf_72 rfl (Nat.le_of_ble_eq_true rfl) (Nat.le_of_ble_eq_true rfl) (Nat.le_of_ble_eq_true rfl) (Nat.le_of_ble_eq_true rfl) (s157_X1_tell  (d + 2)  ) ?_
  rintro _ _ ⟨rfl, rfl⟩
  dsimp only [Option.toList, List.cons_append, List.nil_append]
  refine G_istore (pc := 51) (L1 := [some (.ref 51), some (.int 1), some (.int 3), some (.int 0), some (.int 0), some (.int 0)]) rfl rfl (by decide) dX4_reach_51 ?_
  refine G_iload (pc := 53) rfl dX4_reach_53 ?_
  refine G_if_eq (pc := 55) (tgt := 63) (by decide) dX4_reach_55 (fun _ => ?_) (fun z => absurd (by decide) z)
  refine G_aload_n (pc := 63) rfl dX4_reach_63 ?_
  refine G_getR (pc := 64) (r := 19) (ci := 4) (j := 0) rfl lk_RX4_21 rfl rfl rfl dX4_reach_64 ?_
  refine G_callV (pc := 67) (mc1 := 0) (ms1 := 0) (ci := 1) (mj := mX1_melt) (vs := []) dX4_reach_67 rfl rfl cm_X1_melt wf_136 wf_75 wf_76 rfl (Nat.le_of_ble_eq_true rfl) (Nat.le_of_ble_eq_true rfl) (Nat.le_of_ble_eq_true rfl) (Nat.le_of_ble_eq_true rfl) (s159_X1_melt  (d + 3)  ) ?_
  rintro _ _ ⟨rfl, rfl⟩
  dsimp only [Option.toList, List.cons_append, List.nil_append]
  refine G_pop (pc := 70) rfl dX4_reach_70 ?_
  refine G_iload_n (pc := 71) rfl dX4_reach_71 ?_
  refine G_aload_n (pc := 72) rfl dX4_reach_72 ?_
  refine G_iload_n (pc := 73) rfl dX4_reach_73 ?_
  refine G_iconst (pc := 74) (v := 1) (by decide) dX4_reach_74 ?_
  refine G_iadd (pc := 75) (z := 2) (by decide) dX4_reach_75 ?_
  refine G_iload_n (pc := 76) rfl dX4_reach_76 ?_
  refine G_iconst (pc := 77) (v := 1) (by decide) dX4_reach_77 ?_
  refine G_isub (pc := 78) (z := 2) (by decide) dX4_reach_78 ?_
  refine G_callV (pc := 79) (mc1 := 0) (ms1 := 0) (ci := 4) (mj := mX4_reach) (vs := [_, _]) dX4_reach_79 rfl rfl cm_X4_reach wf_167 wf_162 wf_163 rfl (Nat.le_of_ble_eq_true rfl) (Nat.le_of_ble_eq_true rfl) (Nat.le_of_ble_eq_true rfl) (Nat.le_of_ble_eq_true rfl) (s221_X4_reach  d  ) ?_
  rintro _ _ ⟨rfl, rfl⟩
  dsimp only [Option.toList, List.cons_append, List.nil_append]
  refine G_ior (pc := 82) (z := 0) (by decide) dX4_reach_82 ?_
  refine G_istore_n (pc := 83) (L1 := [some (.ref 51), some (.int 1), some (.int 3), some (.int 0), some (.int 0), some (.int 0)]) rfl rfl (by decide) dX4_reach_83 ?_
  refine G_aload_n (pc := 84) rfl dX4_reach_84 ?_
  refine G_getR (pc := 85) (r := 19) (ci := 4) (j := 0) rfl lk_RX4_21 rfl rfl rfl dX4_reach_85 ?_
  refine G_iload_n (pc := 88) rfl dX4_reach_88 ?_
  refine G_callV (pc := 89) (mc1 := 0) (ms1 := 0) (ci := 1) (mj := mX1_restore) (vs := [_]) dX4_reach_89 rfl rfl cm_X1_restore wf_138 wf_109 wf_110 rfl (Nat.le_of_ble_eq_true rfl) (Nat.le_of_ble_eq_true rfl) (Nat.le_of_ble_eq_true rfl) (Nat.le_of_ble_eq_true rfl) (s226_X1_restore  (d + 2)  ) ?_
  rintro _ _ ⟨rfl, rfl⟩
  dsimp only [Option.toList, List.cons_append, List.nil_append]
  refine G_iinc (pc := 92) (v := 1) (w := 1) (L1 := [some (.ref 51), some (.int 1), some (.int 3), some (.int 0), some (.int 1), some (.int 0)]) (by decide) rfl rfl (by decide) rfl (by decide) dX4_reach_92 ?_
  refine G_goto (pc := 95) (tgt := 30) (by decide) dX4_reach_95 ?_
  refine G_iload (pc := 30) rfl dX4_reach_30 ?_
  refine G_aload_n (pc := 32) rfl dX4_reach_32 ?_
  refine G_getR (pc := 33) (r := 19) (ci := 4) (j := 0) rfl lk_RX4_21 rfl rfl rfl dX4_reach_33 ?_
  refine G_getI (pc := 36) (v := 0) (ci := 1) (j := 8) rfl rfl lk_RX4_39 rfl rfl dX4_reach_36 ?_
  refine G_icmp_gt (pc := 39) (tgt := 98) (by decide) dX4_reach_39 (fun _ => ?_) (fun z => absurd (by decide) z)
  refine G_iload_n (pc := 98) rfl dX4_reach_98 ?_
  exact G_iret (pc := 99) (Nat.le_of_ble_eq_true rfl) (Nat.le_of_ble_eq_true rfl) rfl dX4_reach_99 ⟨rfl, rfl⟩
set_option maxRecDepth 100000 in
set_option maxHeartbeats 4000000 in
theorem s227_X1_restore  (d : Nat)   : G (d + 1) mX1_restore 0 0 0 0 0 (gent 3 [.ref 19, .int 0]) [] SH0 RF0 (gup (gup (gcp (gup (gup (gcp (gup (gup (gcp (gup (gup (gup (gcp (gup (gup (gup (gcp (gup (gup (gup (gcp (gup (gup (gup (gcp I0 24 34 (0 : Int32).toNatClampNeg (0 : Int32).toNatClampNeg (6 : Int32).toNatClampNeg) 34 6 0) 34 7 0) 19 1 1) 24 34 (0 : Int32).toNatClampNeg (8 : Int32).toNatClampNeg (6 : Int32).toNatClampNeg) 34 14 0) 34 15 1) 19 1 2) 24 34 (0 : Int32).toNatClampNeg (16 : Int32).toNatClampNeg (6 : Int32).toNatClampNeg) 34 22 0) 34 23 2) 19 1 3) 24 34 (0 : Int32).toNatClampNeg (24 : Int32).toNatClampNeg (6 : Int32).toNatClampNeg) 34 30 0) 34 31 3) 19 1 4) 34 24 (24 : Int32).toNatClampNeg (0 : Int32).toNatClampNeg (6 : Int32).toNatClampNeg) 19 9 0) 19 1 3) 34 24 (16 : Int32).toNatClampNeg (0 : Int32).toNatClampNeg (6 : Int32).toNatClampNeg) 19 9 0) 19 1 2) 34 24 (8 : Int32).toNatClampNeg (0 : Int32).toNatClampNeg (6 : Int32).toNatClampNeg) 19 9 0) 19 1 1) (fun r h => r = none ∧ h = (SH0, RF0, (gup (gup (gcp (gup (gup (gcp (gup (gup (gcp (gup (gup (gcp (gup (gup (gup (gcp (gup (gup (gup (gcp (gup (gup (gup (gcp (gup (gup (gup (gcp I0 24 34 (0 : Int32).toNatClampNeg (0 : Int32).toNatClampNeg (6 : Int32).toNatClampNeg) 34 6 0) 34 7 0) 19 1 1) 24 34 (0 : Int32).toNatClampNeg (8 : Int32).toNatClampNeg (6 : Int32).toNatClampNeg) 34 14 0) 34 15 1) 19 1 2) 24 34 (0 : Int32).toNatClampNeg (16 : Int32).toNatClampNeg (6 : Int32).toNatClampNeg) 34 22 0) 34 23 2) 19 1 3) 24 34 (0 : Int32).toNatClampNeg (24 : Int32).toNatClampNeg (6 : Int32).toNatClampNeg) 34 30 0) 34 31 3) 19 1 4) 34 24 (24 : Int32).toNatClampNeg (0 : Int32).toNatClampNeg (6 : Int32).toNatClampNeg) 19 9 0) 19 1 3) 34 24 (16 : Int32).toNatClampNeg (0 : Int32).toNatClampNeg (6 : Int32).toNatClampNeg) 19 9 0) 19 1 2) 34 24 (8 : Int32).toNatClampNeg (0 : Int32).toNatClampNeg (6 : Int32).toNatClampNeg) 19 9 0) 19 1 1) 34 24 (0 : Int32).toNatClampNeg (0 : Int32).toNatClampNeg (6 : Int32).toNatClampNeg) 19 9 0) 19 1 0))) := by
  refine G_iload_n (pc := 0) rfl dX1_restore_0 ?_
  refine G_bipush (pc := 1) (v := 8) (by decide) dX1_restore_1 ?_
  refine G_imul (pc := 3) (z := 0) (by decide) dX1_restore_3 ?_
  refine G_istore_n (pc := 4) (L1 := [some (.ref 19), some (.int 0), some (.int 0)]) rfl rfl (by decide) dX1_restore_4 ?_
  refine G_aload_n (pc := 5) rfl dX1_restore_5 ?_
  refine G_getR (pc := 6) (r := 34) (ci := 1) (j := 18) rfl lk_RX1_53 rfl rfl rfl dX1_restore_6 ?_
  refine G_iload_n (pc := 9) rfl dX1_restore_9 ?_
  refine G_aload_n (pc := 10) rfl dX1_restore_10 ?_
  refine G_getR (pc := 11) (r := 24) (ci := 1) (j := 11) rfl lk_RX1_31 rfl rfl rfl dX1_restore_11 ?_
  refine G_iconst (pc := 14) (v := 0) (by decide) dX1_restore_14 ?_
  refine G_bipush (pc := 15) (v := 6) (by decide) dX1_restore_15 ?_
  refine G_copy (pc := 17) (x := 34) (y := 24) rfl rfl (by decide) (by decide) (by decide) (by decide) (by decide) wf_50 wf_51 wf_52 wf_53 (Nat.le_of_ble_eq_true rfl) dX1_restore_17 ?_
  refine G_aload_n (pc := 20) rfl dX1_restore_20 ?_
  refine G_aload_n (pc := 21) rfl dX1_restore_21 ?_
  refine G_getR (pc := 22) (r := 34) (ci := 1) (j := 18) rfl lk_RX1_53 rfl rfl rfl dX1_restore_22 ?_
  refine G_iload_n (pc := 25) rfl dX1_restore_25 ?_
  refine G_bipush (pc := 26) (v := 6) (by decide) dX1_restore_26 ?_
  refine G_iadd (pc := 28) (z := 6) (by decide) dX1_restore_28 ?_
  refine G_iald (pc := 29) (jj := 6) (v := 0) (by decide) rfl rfl (by unfold vp_in; decide) dX1_restore_29 ?_
  refine G_putI (pc := 30) (ci := 1) (j := 9) rfl lk_RX1_75 rfl rfl rfl trivial dX1_restore_30 ?_
  refine G_aload_n (pc := 33) rfl dX1_restore_33 ?_
  refine G_aload_n (pc := 34) rfl dX1_restore_34 ?_
  refine G_getR (pc := 35) (r := 34) (ci := 1) (j := 18) rfl lk_RX1_53 rfl rfl rfl dX1_restore_35 ?_
  refine G_iload_n (pc := 38) rfl dX1_restore_38 ?_
  refine G_bipush (pc := 39) (v := 6) (by decide) dX1_restore_39 ?_
  refine G_iadd (pc := 41) (z := 6) (by decide) dX1_restore_41 ?_
  refine G_iconst (pc := 42) (v := 1) (by decide) dX1_restore_42 ?_
  refine G_iadd (pc := 43) (z := 7) (by decide) dX1_restore_43 ?_
  refine G_iald (pc := 44) (jj := 7) (v := 0) (by decide) rfl rfl (by unfold vp_in; decide) dX1_restore_44 ?_
  refine G_putI (pc := 45) (ci := 1) (j := 1) rfl lk_RX1_60 rfl rfl rfl trivial dX1_restore_45 ?_
  exact G_vret (pc := 48) (Nat.le_of_ble_eq_true rfl) (Nat.le_of_ble_eq_true rfl) rfl dX1_restore_48 ⟨rfl, rfl⟩
set_option maxRecDepth 100000 in
set_option maxHeartbeats 4000000 in
theorem s219_X4_reach  (d : Nat)   : G (d + 5) mX4_reach 0 0 0 0 0 (gent 6 [.ref 51, .int 0, .int 4]) [] SH0 RF0 I0 (fun r h => r = some (.int 0) ∧ h = (SH0, RF0, (gup (gup (gcp (gup (gup (gcp (gup (gup (gcp (gup (gup (gcp (gup (gup (gup (gcp (gup (gup (gup (gcp (gup (gup (gup (gcp (gup (gup (gup (gcp I0 24 34 (0 : Int32).toNatClampNeg (0 : Int32).toNatClampNeg (6 : Int32).toNatClampNeg) 34 6 0) 34 7 0) 19 1 1) 24 34 (0 : Int32).toNatClampNeg (8 : Int32).toNatClampNeg (6 : Int32).toNatClampNeg) 34 14 0) 34 15 1) 19 1 2) 24 34 (0 : Int32).toNatClampNeg (16 : Int32).toNatClampNeg (6 : Int32).toNatClampNeg) 34 22 0) 34 23 2) 19 1 3) 24 34 (0 : Int32).toNatClampNeg (24 : Int32).toNatClampNeg (6 : Int32).toNatClampNeg) 34 30 0) 34 31 3) 19 1 4) 34 24 (24 : Int32).toNatClampNeg (0 : Int32).toNatClampNeg (6 : Int32).toNatClampNeg) 19 9 0) 19 1 3) 34 24 (16 : Int32).toNatClampNeg (0 : Int32).toNatClampNeg (6 : Int32).toNatClampNeg) 19 9 0) 19 1 2) 34 24 (8 : Int32).toNatClampNeg (0 : Int32).toNatClampNeg (6 : Int32).toNatClampNeg) 19 9 0) 19 1 1) 34 24 (0 : Int32).toNatClampNeg (0 : Int32).toNatClampNeg (6 : Int32).toNatClampNeg) 19 9 0) 19 1 0))) := by
  refine G_aload_n (pc := 0) rfl dX4_reach_0 ?_
  refine G_getR (pc := 1) (r := 19) (ci := 4) (j := 0) rfl lk_RX4_21 rfl rfl rfl dX4_reach_1 ?_
  refine G_getI (pc := 4) (v := 0) (ci := 1) (j := 9) rfl rfl lk_RX4_62 rfl rfl dX4_reach_4 ?_
  refine G_istore_n (pc := 7) (L1 := [some (.ref 51), some (.int 0), some (.int 4), some (.int 0), none, none]) rfl rfl (by decide) dX4_reach_7 ?_
  refine G_aload_n (pc := 8) rfl dX4_reach_8 ?_
  refine G_iload_n (pc := 9) rfl dX4_reach_9 ?_
  refine G_iload_n (pc := 10) rfl dX4_reach_10 ?_
  refine G_callV (pc := 11) (mc1 := 0) (ms1 := 0) (ci := 4) (mj := mX4_isLast) (vs := [_, _]) dX4_reach_11 rfl rfl cm_X4_isLast wf_126 wf_129 wf_130 rfl (Nat.le_of_ble_eq_true rfl) (Nat.le_of_ble_eq_true rfl) (Nat.le_of_ble_eq_true rfl) (Nat.le_of_ble_eq_true rfl) (s178_X4_isLast  (d + 3)  ) ?_
  rintro _ _ ⟨rfl, rfl⟩
  dsimp only [Option.toList, List.cons_append, List.nil_append]
  refine G_if_eq (pc := 14) (tgt := 19) (by decide) dX4_reach_14 (fun _ => ?_) (fun z => absurd (by decide) z)
  refine G_aload_n (pc := 19) rfl dX4_reach_19 ?_
  refine G_getR (pc := 20) (r := 19) (ci := 4) (j := 0) rfl lk_RX4_21 rfl rfl rfl dX4_reach_20 ?_
  refine G_iload_n (pc := 23) rfl dX4_reach_23 ?_
  refine G_callV (pc := 24) (mc1 := 0) (ms1 := 0) (ci := 1) (mj := mX1_save) (vs := [_]) dX4_reach_24 rfl rfl cm_X1_save wf_134 wf_105 wf_106 rfl (Nat.le_of_ble_eq_true rfl) (Nat.le_of_ble_eq_true rfl) (Nat.le_of_ble_eq_true rfl) (Nat.le_of_ble_eq_true rfl) (s39_X1_save  (d + 3)  ) ?_
  rintro _ _ ⟨rfl, rfl⟩
  dsimp only [Option.toList, List.cons_append, List.nil_append]
  refine G_iconst (pc := 27) (v := 0) (by decide) dX4_reach_27 ?_
  refine G_istore (pc := 28) (L1 := [some (.ref 51), some (.int 0), some (.int 4), some (.int 0), some (.int 0), none]) rfl rfl (by decide) dX4_reach_28 ?_
  refine G_iload (pc := 30) rfl dX4_reach_30 ?_
  refine G_aload_n (pc := 32) rfl dX4_reach_32 ?_
  refine G_getR (pc := 33) (r := 19) (ci := 4) (j := 0) rfl lk_RX4_21 rfl rfl rfl dX4_reach_33 ?_
  refine G_getI (pc := 36) (v := 0) (ci := 1) (j := 8) rfl rfl lk_RX4_39 rfl rfl dX4_reach_36 ?_
  refine G_icmp_gt (pc := 39) (tgt := 98) (by decide) dX4_reach_39 (fun z => absurd z (by decide)) (fun _ => ?_)
  refine G_aload_n (pc := 42) rfl dX4_reach_42 ?_
  refine G_getR (pc := 43) (r := 19) (ci := 4) (j := 0) rfl lk_RX4_21 rfl rfl rfl dX4_reach_43 ?_
  refine G_iload (pc := 46) rfl dX4_reach_46 ?_
  refine G_callV (pc := 48) (mc1 := 0) (ms1 := 0) (ci := 1) (mj := mX1_tell) (vs := [_]) dX4_reach_48 rfl rfl cm_X1_tell wf_135 wf_71 wf_72 rfl (Nat.le_of_ble_eq_true rfl) (Nat.le_of_ble_eq_true rfl) (Nat.le_of_ble_eq_true rfl) (Nat.le_of_ble_eq_true rfl) (s145_X1_tell  (d + 3)  ) ?_
  rintro _ _ ⟨rfl, rfl⟩
  dsimp only [Option.toList, List.cons_append, List.nil_append]
  refine G_istore (pc := 51) (L1 := [some (.ref 51), some (.int 0), some (.int 4), some (.int 0), some (.int 0), some (.int 0)]) rfl rfl (by decide) dX4_reach_51 ?_
  refine G_iload (pc := 53) rfl dX4_reach_53 ?_
  refine G_if_eq (pc := 55) (tgt := 63) (by decide) dX4_reach_55 (fun _ => ?_) (fun z => absurd (by decide) z)
  refine G_aload_n (pc := 63) rfl dX4_reach_63 ?_
  refine G_getR (pc := 64) (r := 19) (ci := 4) (j := 0) rfl lk_RX4_21 rfl rfl rfl dX4_reach_64 ?_
  refine G_callV (pc := 67) (mc1 := 0) (ms1 := 0) (ci := 1) (mj := mX1_melt) (vs := []) dX4_reach_67 rfl rfl cm_X1_melt wf_136 wf_75 wf_76 rfl (Nat.le_of_ble_eq_true rfl) (Nat.le_of_ble_eq_true rfl) (Nat.le_of_ble_eq_true rfl) (Nat.le_of_ble_eq_true rfl) (s147_X1_melt  (d + 4)  ) ?_
  rintro _ _ ⟨rfl, rfl⟩
  dsimp only [Option.toList, List.cons_append, List.nil_append]
  refine G_pop (pc := 70) rfl dX4_reach_70 ?_
  refine G_iload_n (pc := 71) rfl dX4_reach_71 ?_
  refine G_aload_n (pc := 72) rfl dX4_reach_72 ?_
  refine G_iload_n (pc := 73) rfl dX4_reach_73 ?_
  refine G_iconst (pc := 74) (v := 1) (by decide) dX4_reach_74 ?_
  refine G_iadd (pc := 75) (z := 1) (by decide) dX4_reach_75 ?_
  refine G_iload_n (pc := 76) rfl dX4_reach_76 ?_
  refine G_iconst (pc := 77) (v := 1) (by decide) dX4_reach_77 ?_
  refine G_isub (pc := 78) (z := 3) (by decide) dX4_reach_78 ?_
  refine G_callV (pc := 79) (mc1 := 0) (ms1 := 0) (ci := 4) (mj := mX4_reach) (vs := [_, _]) dX4_reach_79 rfl rfl cm_X4_reach wf_167 wf_162 wf_163 rfl (Nat.le_of_ble_eq_true rfl) (Nat.le_of_ble_eq_true rfl) (Nat.le_of_ble_eq_true rfl) (Nat.le_of_ble_eq_true rfl) (s220_X4_reach  d  ) ?_
  rintro _ _ ⟨rfl, rfl⟩
  dsimp only [Option.toList, List.cons_append, List.nil_append]
  refine G_ior (pc := 82) (z := 0) (by decide) dX4_reach_82 ?_
  refine G_istore_n (pc := 83) (L1 := [some (.ref 51), some (.int 0), some (.int 4), some (.int 0), some (.int 0), some (.int 0)]) rfl rfl (by decide) dX4_reach_83 ?_
  refine G_aload_n (pc := 84) rfl dX4_reach_84 ?_
  refine G_getR (pc := 85) (r := 19) (ci := 4) (j := 0) rfl lk_RX4_21 rfl rfl rfl dX4_reach_85 ?_
  refine G_iload_n (pc := 88) rfl dX4_reach_88 ?_
  refine G_callV (pc := 89) (mc1 := 0) (ms1 := 0) (ci := 1) (mj := mX1_restore) (vs := [_]) dX4_reach_89 rfl rfl cm_X1_restore wf_138 wf_109 wf_110 rfl (Nat.le_of_ble_eq_true rfl) (Nat.le_of_ble_eq_true rfl) (Nat.le_of_ble_eq_true rfl) (Nat.le_of_ble_eq_true rfl) (s227_X1_restore  (d + 3)  ) ?_
  rintro _ _ ⟨rfl, rfl⟩
  dsimp only [Option.toList, List.cons_append, List.nil_append]
  refine G_iinc (pc := 92) (v := 1) (w := 1) (L1 := [some (.ref 51), some (.int 0), some (.int 4), some (.int 0), some (.int 1), some (.int 0)]) (by decide) rfl rfl (by decide) rfl (by decide) dX4_reach_92 ?_
  refine G_goto (pc := 95) (tgt := 30) (by decide) dX4_reach_95 ?_
  refine G_iload (pc := 30) rfl dX4_reach_30 ?_
  refine G_aload_n (pc := 32) rfl dX4_reach_32 ?_
  refine G_getR (pc := 33) (r := 19) (ci := 4) (j := 0) rfl lk_RX4_21 rfl rfl rfl dX4_reach_33 ?_
  refine G_getI (pc := 36) (v := 0) (ci := 1) (j := 8) rfl rfl lk_RX4_39 rfl rfl dX4_reach_36 ?_
  refine G_icmp_gt (pc := 39) (tgt := 98) (by decide) dX4_reach_39 (fun _ => ?_) (fun z => absurd (by decide) z)
  refine G_iload_n (pc := 98) rfl dX4_reach_98 ?_
  exact G_iret (pc := 99) (Nat.le_of_ble_eq_true rfl) (Nat.le_of_ble_eq_true rfl) rfl dX4_reach_99 ⟨rfl, rfl⟩
set_option maxRecDepth 100000 in
set_option maxHeartbeats 4000000 in
theorem s229_J6_bitCount_0f7a4  (d : Nat)  (a0 : Int32) : G (d) mJ6_bitCount_0f7a4 0 0 0 0 0 (gent 1 [.int a0]) [] SH0 RF0 (gup (gup (gcp (gup (gup (gcp (gup (gup (gcp (gup (gup (gcp (gup (gup (gup (gcp (gup (gup (gup (gcp (gup (gup (gup (gcp (gup (gup (gup (gcp I0 24 34 (0 : Int32).toNatClampNeg (0 : Int32).toNatClampNeg (6 : Int32).toNatClampNeg) 34 6 0) 34 7 0) 19 1 1) 24 34 (0 : Int32).toNatClampNeg (8 : Int32).toNatClampNeg (6 : Int32).toNatClampNeg) 34 14 0) 34 15 1) 19 1 2) 24 34 (0 : Int32).toNatClampNeg (16 : Int32).toNatClampNeg (6 : Int32).toNatClampNeg) 34 22 0) 34 23 2) 19 1 3) 24 34 (0 : Int32).toNatClampNeg (24 : Int32).toNatClampNeg (6 : Int32).toNatClampNeg) 34 30 0) 34 31 3) 19 1 4) 34 24 (24 : Int32).toNatClampNeg (0 : Int32).toNatClampNeg (6 : Int32).toNatClampNeg) 19 9 0) 19 1 3) 34 24 (16 : Int32).toNatClampNeg (0 : Int32).toNatClampNeg (6 : Int32).toNatClampNeg) 19 9 0) 19 1 2) 34 24 (8 : Int32).toNatClampNeg (0 : Int32).toNatClampNeg (6 : Int32).toNatClampNeg) 19 9 0) 19 1 1) 34 24 (0 : Int32).toNatClampNeg (0 : Int32).toNatClampNeg (6 : Int32).toNatClampNeg) 19 9 0) 19 1 0) (fun r h => r = some (.int ((((((((a0 - (((a0).toUInt32 >>> ((1 : Int32).toUInt32 &&& Int32.toUInt32 31)).toInt32 &&& 1431655765)) &&& 858993459) + ((((a0 - (((a0).toUInt32 >>> ((1 : Int32).toUInt32 &&& Int32.toUInt32 31)).toInt32 &&& 1431655765))).toUInt32 >>> ((2 : Int32).toUInt32 &&& Int32.toUInt32 31)).toInt32 &&& 858993459)) + (((((a0 - (((a0).toUInt32 >>> ((1 : Int32).toUInt32 &&& Int32.toUInt32 31)).toInt32 &&& 1431655765)) &&& 858993459) + ((((a0 - (((a0).toUInt32 >>> ((1 : Int32).toUInt32 &&& Int32.toUInt32 31)).toInt32 &&& 1431655765))).toUInt32 >>> ((2 : Int32).toUInt32 &&& Int32.toUInt32 31)).toInt32 &&& 858993459))).toUInt32 >>> ((4 : Int32).toUInt32 &&& Int32.toUInt32 31)).toInt32) &&& 252645135) + (((((((a0 - (((a0).toUInt32 >>> ((1 : Int32).toUInt32 &&& Int32.toUInt32 31)).toInt32 &&& 1431655765)) &&& 858993459) + ((((a0 - (((a0).toUInt32 >>> ((1 : Int32).toUInt32 &&& Int32.toUInt32 31)).toInt32 &&& 1431655765))).toUInt32 >>> ((2 : Int32).toUInt32 &&& Int32.toUInt32 31)).toInt32 &&& 858993459)) + (((((a0 - (((a0).toUInt32 >>> ((1 : Int32).toUInt32 &&& Int32.toUInt32 31)).toInt32 &&& 1431655765)) &&& 858993459) + ((((a0 - (((a0).toUInt32 >>> ((1 : Int32).toUInt32 &&& Int32.toUInt32 31)).toInt32 &&& 1431655765))).toUInt32 >>> ((2 : Int32).toUInt32 &&& Int32.toUInt32 31)).toInt32 &&& 858993459))).toUInt32 >>> ((4 : Int32).toUInt32 &&& Int32.toUInt32 31)).toInt32) &&& 252645135)).toUInt32 >>> ((8 : Int32).toUInt32 &&& Int32.toUInt32 31)).toInt32) + ((((((((a0 - (((a0).toUInt32 >>> ((1 : Int32).toUInt32 &&& Int32.toUInt32 31)).toInt32 &&& 1431655765)) &&& 858993459) + ((((a0 - (((a0).toUInt32 >>> ((1 : Int32).toUInt32 &&& Int32.toUInt32 31)).toInt32 &&& 1431655765))).toUInt32 >>> ((2 : Int32).toUInt32 &&& Int32.toUInt32 31)).toInt32 &&& 858993459)) + (((((a0 - (((a0).toUInt32 >>> ((1 : Int32).toUInt32 &&& Int32.toUInt32 31)).toInt32 &&& 1431655765)) &&& 858993459) + ((((a0 - (((a0).toUInt32 >>> ((1 : Int32).toUInt32 &&& Int32.toUInt32 31)).toInt32 &&& 1431655765))).toUInt32 >>> ((2 : Int32).toUInt32 &&& Int32.toUInt32 31)).toInt32 &&& 858993459))).toUInt32 >>> ((4 : Int32).toUInt32 &&& Int32.toUInt32 31)).toInt32) &&& 252645135) + (((((((a0 - (((a0).toUInt32 >>> ((1 : Int32).toUInt32 &&& Int32.toUInt32 31)).toInt32 &&& 1431655765)) &&& 858993459) + ((((a0 - (((a0).toUInt32 >>> ((1 : Int32).toUInt32 &&& Int32.toUInt32 31)).toInt32 &&& 1431655765))).toUInt32 >>> ((2 : Int32).toUInt32 &&& Int32.toUInt32 31)).toInt32 &&& 858993459)) + (((((a0 - (((a0).toUInt32 >>> ((1 : Int32).toUInt32 &&& Int32.toUInt32 31)).toInt32 &&& 1431655765)) &&& 858993459) + ((((a0 - (((a0).toUInt32 >>> ((1 : Int32).toUInt32 &&& Int32.toUInt32 31)).toInt32 &&& 1431655765))).toUInt32 >>> ((2 : Int32).toUInt32 &&& Int32.toUInt32 31)).toInt32 &&& 858993459))).toUInt32 >>> ((4 : Int32).toUInt32 &&& Int32.toUInt32 31)).toInt32) &&& 252645135)).toUInt32 >>> ((8 : Int32).toUInt32 &&& Int32.toUInt32 31)).toInt32)).toUInt32 >>> ((16 : Int32).toUInt32 &&& Int32.toUInt32 31)).toInt32) &&& 63)) ∧ h = (SH0, RF0, (gup (gup (gcp (gup (gup (gcp (gup (gup (gcp (gup (gup (gcp (gup (gup (gup (gcp (gup (gup (gup (gcp (gup (gup (gup (gcp (gup (gup (gup (gcp I0 24 34 (0 : Int32).toNatClampNeg (0 : Int32).toNatClampNeg (6 : Int32).toNatClampNeg) 34 6 0) 34 7 0) 19 1 1) 24 34 (0 : Int32).toNatClampNeg (8 : Int32).toNatClampNeg (6 : Int32).toNatClampNeg) 34 14 0) 34 15 1) 19 1 2) 24 34 (0 : Int32).toNatClampNeg (16 : Int32).toNatClampNeg (6 : Int32).toNatClampNeg) 34 22 0) 34 23 2) 19 1 3) 24 34 (0 : Int32).toNatClampNeg (24 : Int32).toNatClampNeg (6 : Int32).toNatClampNeg) 34 30 0) 34 31 3) 19 1 4) 34 24 (24 : Int32).toNatClampNeg (0 : Int32).toNatClampNeg (6 : Int32).toNatClampNeg) 19 9 0) 19 1 3) 34 24 (16 : Int32).toNatClampNeg (0 : Int32).toNatClampNeg (6 : Int32).toNatClampNeg) 19 9 0) 19 1 2) 34 24 (8 : Int32).toNatClampNeg (0 : Int32).toNatClampNeg (6 : Int32).toNatClampNeg) 19 9 0) 19 1 1) 34 24 (0 : Int32).toNatClampNeg (0 : Int32).toNatClampNeg (6 : Int32).toNatClampNeg) 19 9 0) 19 1 0))) := by
  refine G_iload_n (pc := 0) rfl dJ6_bitCount_0f7a4_0 ?_
  refine G_iload_n (pc := 1) rfl dJ6_bitCount_0f7a4_1 ?_
  refine G_iconst (pc := 2) (v := 1) (by decide) dJ6_bitCount_0f7a4_2 ?_
  refine G_iushr (pc := 3) rfl dJ6_bitCount_0f7a4_3 ?_
  refine G_ldcw (pc := 4) (v := 1431655765) ck_RJ6_265 dJ6_bitCount_0f7a4_4 ?_
  refine G_iand (pc := 7) rfl dJ6_bitCount_0f7a4_7 ?_
  refine G_isub (pc := 8) rfl dJ6_bitCount_0f7a4_8 ?_
  refine G_istore_n (pc := 9) (L1 := [some (.int (a0 - (((a0).toUInt32 >>> ((1 : Int32).toUInt32 &&& Int32.toUInt32 31)).toInt32 &&& 1431655765)))]) rfl rfl (by decide) dJ6_bitCount_0f7a4_9 ?_
  refine G_iload_n (pc := 10) rfl dJ6_bitCount_0f7a4_10 ?_
  refine G_ldcw (pc := 11) (v := 858993459) ck_RJ6_266 dJ6_bitCount_0f7a4_11 ?_
  refine G_iand (pc := 14) rfl dJ6_bitCount_0f7a4_14 ?_
  refine G_iload_n (pc := 15) rfl dJ6_bitCount_0f7a4_15 ?_
  refine G_iconst (pc := 16) (v := 2) (by decide) dJ6_bitCount_0f7a4_16 ?_
  refine G_iushr (pc := 17) rfl dJ6_bitCount_0f7a4_17 ?_
  refine G_ldcw (pc := 18) (v := 858993459) ck_RJ6_266 dJ6_bitCount_0f7a4_18 ?_
  refine G_iand (pc := 21) rfl dJ6_bitCount_0f7a4_21 ?_
  refine G_iadd (pc := 22) rfl dJ6_bitCount_0f7a4_22 ?_
  refine G_istore_n (pc := 23) (L1 := [some (.int (((a0 - (((a0).toUInt32 >>> ((1 : Int32).toUInt32 &&& Int32.toUInt32 31)).toInt32 &&& 1431655765)) &&& 858993459) + ((((a0 - (((a0).toUInt32 >>> ((1 : Int32).toUInt32 &&& Int32.toUInt32 31)).toInt32 &&& 1431655765))).toUInt32 >>> ((2 : Int32).toUInt32 &&& Int32.toUInt32 31)).toInt32 &&& 858993459)))]) rfl rfl (by decide) dJ6_bitCount_0f7a4_23 ?_
  refine G_iload_n (pc := 24) rfl dJ6_bitCount_0f7a4_24 ?_
  refine G_iload_n (pc := 25) rfl dJ6_bitCount_0f7a4_25 ?_
  refine G_iconst (pc := 26) (v := 4) (by decide) dJ6_bitCount_0f7a4_26 ?_
  refine G_iushr (pc := 27) rfl dJ6_bitCount_0f7a4_27 ?_
  refine G_iadd (pc := 28) rfl dJ6_bitCount_0f7a4_28 ?_
  refine G_ldcw (pc := 29) (v := 252645135) ck_RJ6_267 dJ6_bitCount_0f7a4_29 ?_
  refine G_iand (pc := 32) rfl dJ6_bitCount_0f7a4_32 ?_
  refine G_istore_n (pc := 33) (L1 := [some (.int (((((a0 - (((a0).toUInt32 >>> ((1 : Int32).toUInt32 &&& Int32.toUInt32 31)).toInt32 &&& 1431655765)) &&& 858993459) + ((((a0 - (((a0).toUInt32 >>> ((1 : Int32).toUInt32 &&& Int32.toUInt32 31)).toInt32 &&& 1431655765))).toUInt32 >>> ((2 : Int32).toUInt32 &&& Int32.toUInt32 31)).toInt32 &&& 858993459)) + (((((a0 - (((a0).toUInt32 >>> ((1 : Int32).toUInt32 &&& Int32.toUInt32 31)).toInt32 &&& 1431655765)) &&& 858993459) + ((((a0 - (((a0).toUInt32 >>> ((1 : Int32).toUInt32 &&& Int32.toUInt32 31)).toInt32 &&& 1431655765))).toUInt32 >>> ((2 : Int32).toUInt32 &&& Int32.toUInt32 31)).toInt32 &&& 858993459))).toUInt32 >>> ((4 : Int32).toUInt32 &&& Int32.toUInt32 31)).toInt32) &&& 252645135))]) rfl rfl (by decide) dJ6_bitCount_0f7a4_33 ?_
  refine G_iload_n (pc := 34) rfl dJ6_bitCount_0f7a4_34 ?_
  refine G_iload_n (pc := 35) rfl dJ6_bitCount_0f7a4_35 ?_
  refine G_bipush (pc := 36) (v := 8) (by decide) dJ6_bitCount_0f7a4_36 ?_
  refine G_iushr (pc := 38) rfl dJ6_bitCount_0f7a4_38 ?_
  refine G_iadd (pc := 39) rfl dJ6_bitCount_0f7a4_39 ?_
  refine G_istore_n (pc := 40) (L1 := [some (.int ((((((a0 - (((a0).toUInt32 >>> ((1 : Int32).toUInt32 &&& Int32.toUInt32 31)).toInt32 &&& 1431655765)) &&& 858993459) + ((((a0 - (((a0).toUInt32 >>> ((1 : Int32).toUInt32 &&& Int32.toUInt32 31)).toInt32 &&& 1431655765))).toUInt32 >>> ((2 : Int32).toUInt32 &&& Int32.toUInt32 31)).toInt32 &&& 858993459)) + (((((a0 - (((a0).toUInt32 >>> ((1 : Int32).toUInt32 &&& Int32.toUInt32 31)).toInt32 &&& 1431655765)) &&& 858993459) + ((((a0 - (((a0).toUInt32 >>> ((1 : Int32).toUInt32 &&& Int32.toUInt32 31)).toInt32 &&& 1431655765))).toUInt32 >>> ((2 : Int32).toUInt32 &&& Int32.toUInt32 31)).toInt32 &&& 858993459))).toUInt32 >>> ((4 : Int32).toUInt32 &&& Int32.toUInt32 31)).toInt32) &&& 252645135) + (((((((a0 - (((a0).toUInt32 >>> ((1 : Int32).toUInt32 &&& Int32.toUInt32 31)).toInt32 &&& 1431655765)) &&& 858993459) + ((((a0 - (((a0).toUInt32 >>> ((1 : Int32).toUInt32 &&& Int32.toUInt32 31)).toInt32 &&& 1431655765))).toUInt32 >>> ((2 : Int32).toUInt32 &&& Int32.toUInt32 31)).toInt32 &&& 858993459)) + (((((a0 - (((a0).toUInt32 >>> ((1 : Int32).toUInt32 &&& Int32.toUInt32 31)).toInt32 &&& 1431655765)) &&& 858993459) + ((((a0 - (((a0).toUInt32 >>> ((1 : Int32).toUInt32 &&& Int32.toUInt32 31)).toInt32 &&& 1431655765))).toUInt32 >>> ((2 : Int32).toUInt32 &&& Int32.toUInt32 31)).toInt32 &&& 858993459))).toUInt32 >>> ((4 : Int32).toUInt32 &&& Int32.toUInt32 31)).toInt32) &&& 252645135)).toUInt32 >>> ((8 : Int32).toUInt32 &&& Int32.toUInt32 31)).toInt32))]) rfl rfl (by decide) dJ6_bitCount_0f7a4_40 ?_
  refine G_iload_n (pc := 41) rfl dJ6_bitCount_0f7a4_41 ?_
  refine G_iload_n (pc := 42) rfl dJ6_bitCount_0f7a4_42 ?_
  refine G_bipush (pc := 43) (v := 16) (by decide) dJ6_bitCount_0f7a4_43 ?_
  refine G_iushr (pc := 45) rfl dJ6_bitCount_0f7a4_45 ?_
  refine G_iadd (pc := 46) rfl dJ6_bitCount_0f7a4_46 ?_
  refine G_istore_n (pc := 47) (L1 := [some (.int (((((((a0 - (((a0).toUInt32 >>> ((1 : Int32).toUInt32 &&& Int32.toUInt32 31)).toInt32 &&& 1431655765)) &&& 858993459) + ((((a0 - (((a0).toUInt32 >>> ((1 : Int32).toUInt32 &&& Int32.toUInt32 31)).toInt32 &&& 1431655765))).toUInt32 >>> ((2 : Int32).toUInt32 &&& Int32.toUInt32 31)).toInt32 &&& 858993459)) + (((((a0 - (((a0).toUInt32 >>> ((1 : Int32).toUInt32 &&& Int32.toUInt32 31)).toInt32 &&& 1431655765)) &&& 858993459) + ((((a0 - (((a0).toUInt32 >>> ((1 : Int32).toUInt32 &&& Int32.toUInt32 31)).toInt32 &&& 1431655765))).toUInt32 >>> ((2 : Int32).toUInt32 &&& Int32.toUInt32 31)).toInt32 &&& 858993459))).toUInt32 >>> ((4 : Int32).toUInt32 &&& Int32.toUInt32 31)).toInt32) &&& 252645135) + (((((((a0 - (((a0).toUInt32 >>> ((1 : Int32).toUInt32 &&& Int32.toUInt32 31)).toInt32 &&& 1431655765)) &&& 858993459) + ((((a0 - (((a0).toUInt32 >>> ((1 : Int32).toUInt32 &&& Int32.toUInt32 31)).toInt32 &&& 1431655765))).toUInt32 >>> ((2 : Int32).toUInt32 &&& Int32.toUInt32 31)).toInt32 &&& 858993459)) + (((((a0 - (((a0).toUInt32 >>> ((1 : Int32).toUInt32 &&& Int32.toUInt32 31)).toInt32 &&& 1431655765)) &&& 858993459) + ((((a0 - (((a0).toUInt32 >>> ((1 : Int32).toUInt32 &&& Int32.toUInt32 31)).toInt32 &&& 1431655765))).toUInt32 >>> ((2 : Int32).toUInt32 &&& Int32.toUInt32 31)).toInt32 &&& 858993459))).toUInt32 >>> ((4 : Int32).toUInt32 &&& Int32.toUInt32 31)).toInt32) &&& 252645135)).toUInt32 >>> ((8 : Int32).toUInt32 &&& Int32.toUInt32 31)).toInt32) + ((((((((a0 - (((a0).toUInt32 >>> ((1 : Int32).toUInt32 &&& Int32.toUInt32 31)).toInt32 &&& 1431655765)) &&& 858993459) + ((((a0 - (((a0).toUInt32 >>> ((1 : Int32).toUInt32 &&& Int32.toUInt32 31)).toInt32 &&& 1431655765))).toUInt32 >>> ((2 : Int32).toUInt32 &&& Int32.toUInt32 31)).toInt32 &&& 858993459)) + (((((a0 - (((a0).toUInt32 >>> ((1 : Int32).toUInt32 &&& Int32.toUInt32 31)).toInt32 &&& 1431655765)) &&& 858993459) + ((((a0 - (((a0).toUInt32 >>> ((1 : Int32).toUInt32 &&& Int32.toUInt32 31)).toInt32 &&& 1431655765))).toUInt32 >>> ((2 : Int32).toUInt32 &&& Int32.toUInt32 31)).toInt32 &&& 858993459))).toUInt32 >>> ((4 : Int32).toUInt32 &&& Int32.toUInt32 31)).toInt32) &&& 252645135) + (((((((a0 - (((a0).toUInt32 >>> ((1 : Int32).toUInt32 &&& Int32.toUInt32 31)).toInt32 &&& 1431655765)) &&& 858993459) + ((((a0 - (((a0).toUInt32 >>> ((1 : Int32).toUInt32 &&& Int32.toUInt32 31)).toInt32 &&& 1431655765))).toUInt32 >>> ((2 : Int32).toUInt32 &&& Int32.toUInt32 31)).toInt32 &&& 858993459)) + (((((a0 - (((a0).toUInt32 >>> ((1 : Int32).toUInt32 &&& Int32.toUInt32 31)).toInt32 &&& 1431655765)) &&& 858993459) + ((((a0 - (((a0).toUInt32 >>> ((1 : Int32).toUInt32 &&& Int32.toUInt32 31)).toInt32 &&& 1431655765))).toUInt32 >>> ((2 : Int32).toUInt32 &&& Int32.toUInt32 31)).toInt32 &&& 858993459))).toUInt32 >>> ((4 : Int32).toUInt32 &&& Int32.toUInt32 31)).toInt32) &&& 252645135)).toUInt32 >>> ((8 : Int32).toUInt32 &&& Int32.toUInt32 31)).toInt32)).toUInt32 >>> ((16 : Int32).toUInt32 &&& Int32.toUInt32 31)).toInt32))]) rfl rfl (by decide) dJ6_bitCount_0f7a4_47 ?_
  refine G_iload_n (pc := 48) rfl dJ6_bitCount_0f7a4_48 ?_
  refine G_bipush (pc := 49) (v := 63) (by decide) dJ6_bitCount_0f7a4_49 ?_
  refine G_iand (pc := 51) rfl dJ6_bitCount_0f7a4_51 ?_
  exact G_iret (pc := 52) (Nat.le_of_ble_eq_true rfl) (Nat.le_of_ble_eq_true rfl) rfl dJ6_bitCount_0f7a4_52 ⟨rfl, rfl⟩
set_option maxRecDepth 100000 in
set_option maxHeartbeats 4000000 in
theorem s228_X11_leastOf  (d : Nat)  (a0 : Int32) : G (d + 1) mX11_leastOf 0 0 0 0 0 (gent 1 [.int a0]) [] SH0 RF0 (gup (gup (gcp (gup (gup (gcp (gup (gup (gcp (gup (gup (gcp (gup (gup (gup (gcp (gup (gup (gup (gcp (gup (gup (gup (gcp (gup (gup (gup (gcp I0 24 34 (0 : Int32).toNatClampNeg (0 : Int32).toNatClampNeg (6 : Int32).toNatClampNeg) 34 6 0) 34 7 0) 19 1 1) 24 34 (0 : Int32).toNatClampNeg (8 : Int32).toNatClampNeg (6 : Int32).toNatClampNeg) 34 14 0) 34 15 1) 19 1 2) 24 34 (0 : Int32).toNatClampNeg (16 : Int32).toNatClampNeg (6 : Int32).toNatClampNeg) 34 22 0) 34 23 2) 19 1 3) 24 34 (0 : Int32).toNatClampNeg (24 : Int32).toNatClampNeg (6 : Int32).toNatClampNeg) 34 30 0) 34 31 3) 19 1 4) 34 24 (24 : Int32).toNatClampNeg (0 : Int32).toNatClampNeg (6 : Int32).toNatClampNeg) 19 9 0) 19 1 3) 34 24 (16 : Int32).toNatClampNeg (0 : Int32).toNatClampNeg (6 : Int32).toNatClampNeg) 19 9 0) 19 1 2) 34 24 (8 : Int32).toNatClampNeg (0 : Int32).toNatClampNeg (6 : Int32).toNatClampNeg) 19 9 0) 19 1 1) 34 24 (0 : Int32).toNatClampNeg (0 : Int32).toNatClampNeg (6 : Int32).toNatClampNeg) 19 9 0) 19 1 0) (fun r h => r = some (.int (((((((((((a0 &&& (-a0)) - 1)) - ((((((a0 &&& (-a0)) - 1))).toUInt32 >>> ((1 : Int32).toUInt32 &&& Int32.toUInt32 31)).toInt32 &&& 1431655765)) &&& 858993459) + (((((((a0 &&& (-a0)) - 1)) - ((((((a0 &&& (-a0)) - 1))).toUInt32 >>> ((1 : Int32).toUInt32 &&& Int32.toUInt32 31)).toInt32 &&& 1431655765))).toUInt32 >>> ((2 : Int32).toUInt32 &&& Int32.toUInt32 31)).toInt32 &&& 858993459)) + ((((((((a0 &&& (-a0)) - 1)) - ((((((a0 &&& (-a0)) - 1))).toUInt32 >>> ((1 : Int32).toUInt32 &&& Int32.toUInt32 31)).toInt32 &&& 1431655765)) &&& 858993459) + (((((((a0 &&& (-a0)) - 1)) - ((((((a0 &&& (-a0)) - 1))).toUInt32 >>> ((1 : Int32).toUInt32 &&& Int32.toUInt32 31)).toInt32 &&& 1431655765))).toUInt32 >>> ((2 : Int32).toUInt32 &&& Int32.toUInt32 31)).toInt32 &&& 858993459))).toUInt32 >>> ((4 : Int32).toUInt32 &&& Int32.toUInt32 31)).toInt32) &&& 252645135) + ((((((((((a0 &&& (-a0)) - 1)) - ((((((a0 &&& (-a0)) - 1))).toUInt32 >>> ((1 : Int32).toUInt32 &&& Int32.toUInt32 31)).toInt32 &&& 1431655765)) &&& 858993459) + (((((((a0 &&& (-a0)) - 1)) - ((((((a0 &&& (-a0)) - 1))).toUInt32 >>> ((1 : Int32).toUInt32 &&& Int32.toUInt32 31)).toInt32 &&& 1431655765))).toUInt32 >>> ((2 : Int32).toUInt32 &&& Int32.toUInt32 31)).toInt32 &&& 858993459)) + ((((((((a0 &&& (-a0)) - 1)) - ((((((a0 &&& (-a0)) - 1))).toUInt32 >>> ((1 : Int32).toUInt32 &&& Int32.toUInt32 31)).toInt32 &&& 1431655765)) &&& 858993459) + (((((((a0 &&& (-a0)) - 1)) - ((((((a0 &&& (-a0)) - 1))).toUInt32 >>> ((1 : Int32).toUInt32 &&& Int32.toUInt32 31)).toInt32 &&& 1431655765))).toUInt32 >>> ((2 : Int32).toUInt32 &&& Int32.toUInt32 31)).toInt32 &&& 858993459))).toUInt32 >>> ((4 : Int32).toUInt32 &&& Int32.toUInt32 31)).toInt32) &&& 252645135)).toUInt32 >>> ((8 : Int32).toUInt32 &&& Int32.toUInt32 31)).toInt32) + (((((((((((a0 &&& (-a0)) - 1)) - ((((((a0 &&& (-a0)) - 1))).toUInt32 >>> ((1 : Int32).toUInt32 &&& Int32.toUInt32 31)).toInt32 &&& 1431655765)) &&& 858993459) + (((((((a0 &&& (-a0)) - 1)) - ((((((a0 &&& (-a0)) - 1))).toUInt32 >>> ((1 : Int32).toUInt32 &&& Int32.toUInt32 31)).toInt32 &&& 1431655765))).toUInt32 >>> ((2 : Int32).toUInt32 &&& Int32.toUInt32 31)).toInt32 &&& 858993459)) + ((((((((a0 &&& (-a0)) - 1)) - ((((((a0 &&& (-a0)) - 1))).toUInt32 >>> ((1 : Int32).toUInt32 &&& Int32.toUInt32 31)).toInt32 &&& 1431655765)) &&& 858993459) + (((((((a0 &&& (-a0)) - 1)) - ((((((a0 &&& (-a0)) - 1))).toUInt32 >>> ((1 : Int32).toUInt32 &&& Int32.toUInt32 31)).toInt32 &&& 1431655765))).toUInt32 >>> ((2 : Int32).toUInt32 &&& Int32.toUInt32 31)).toInt32 &&& 858993459))).toUInt32 >>> ((4 : Int32).toUInt32 &&& Int32.toUInt32 31)).toInt32) &&& 252645135) + ((((((((((a0 &&& (-a0)) - 1)) - ((((((a0 &&& (-a0)) - 1))).toUInt32 >>> ((1 : Int32).toUInt32 &&& Int32.toUInt32 31)).toInt32 &&& 1431655765)) &&& 858993459) + (((((((a0 &&& (-a0)) - 1)) - ((((((a0 &&& (-a0)) - 1))).toUInt32 >>> ((1 : Int32).toUInt32 &&& Int32.toUInt32 31)).toInt32 &&& 1431655765))).toUInt32 >>> ((2 : Int32).toUInt32 &&& Int32.toUInt32 31)).toInt32 &&& 858993459)) + ((((((((a0 &&& (-a0)) - 1)) - ((((((a0 &&& (-a0)) - 1))).toUInt32 >>> ((1 : Int32).toUInt32 &&& Int32.toUInt32 31)).toInt32 &&& 1431655765)) &&& 858993459) + (((((((a0 &&& (-a0)) - 1)) - ((((((a0 &&& (-a0)) - 1))).toUInt32 >>> ((1 : Int32).toUInt32 &&& Int32.toUInt32 31)).toInt32 &&& 1431655765))).toUInt32 >>> ((2 : Int32).toUInt32 &&& Int32.toUInt32 31)).toInt32 &&& 858993459))).toUInt32 >>> ((4 : Int32).toUInt32 &&& Int32.toUInt32 31)).toInt32) &&& 252645135)).toUInt32 >>> ((8 : Int32).toUInt32 &&& Int32.toUInt32 31)).toInt32)).toUInt32 >>> ((16 : Int32).toUInt32 &&& Int32.toUInt32 31)).toInt32) &&& 63)) ∧ h = (SH0, RF0, (gup (gup (gcp (gup (gup (gcp (gup (gup (gcp (gup (gup (gcp (gup (gup (gup (gcp (gup (gup (gup (gcp (gup (gup (gup (gcp (gup (gup (gup (gcp I0 24 34 (0 : Int32).toNatClampNeg (0 : Int32).toNatClampNeg (6 : Int32).toNatClampNeg) 34 6 0) 34 7 0) 19 1 1) 24 34 (0 : Int32).toNatClampNeg (8 : Int32).toNatClampNeg (6 : Int32).toNatClampNeg) 34 14 0) 34 15 1) 19 1 2) 24 34 (0 : Int32).toNatClampNeg (16 : Int32).toNatClampNeg (6 : Int32).toNatClampNeg) 34 22 0) 34 23 2) 19 1 3) 24 34 (0 : Int32).toNatClampNeg (24 : Int32).toNatClampNeg (6 : Int32).toNatClampNeg) 34 30 0) 34 31 3) 19 1 4) 34 24 (24 : Int32).toNatClampNeg (0 : Int32).toNatClampNeg (6 : Int32).toNatClampNeg) 19 9 0) 19 1 3) 34 24 (16 : Int32).toNatClampNeg (0 : Int32).toNatClampNeg (6 : Int32).toNatClampNeg) 19 9 0) 19 1 2) 34 24 (8 : Int32).toNatClampNeg (0 : Int32).toNatClampNeg (6 : Int32).toNatClampNeg) 19 9 0) 19 1 1) 34 24 (0 : Int32).toNatClampNeg (0 : Int32).toNatClampNeg (6 : Int32).toNatClampNeg) 19 9 0) 19 1 0))) := by
  refine G_iload_n (pc := 0) rfl dX11_leastOf_0 ?_
  refine G_iload_n (pc := 1) rfl dX11_leastOf_1 ?_
  refine G_ineg (pc := 2) rfl dX11_leastOf_2 ?_
  refine G_iand (pc := 3) rfl dX11_leastOf_3 ?_
  refine G_iconst (pc := 4) (v := 1) (by decide) dX11_leastOf_4 ?_
  refine G_isub (pc := 5) rfl dX11_leastOf_5 ?_
  refine G_callS (pc := 6) (mc1 := 0) (ms1 := 0) (mj := mJ6_bitCount_0f7a4) (vs := [_]) dX11_leastOf_6 cm_J6_bitCount_0f7a4 wf_46 wf_49 rfl (Nat.le_of_ble_eq_true rfl) (Nat.le_of_ble_eq_true rfl) (Nat.le_of_ble_eq_true rfl) (Nat.le_of_ble_eq_true rfl) (s229_J6_bitCount_0f7a4  d  _) ?_
  rintro _ _ ⟨rfl, rfl⟩
  dsimp only [Option.toList, List.cons_append, List.nil_append]
  exact G_iret (pc := 9) (Nat.le_of_ble_eq_true rfl) (Nat.le_of_ble_eq_true rfl) rfl dX11_leastOf_9 ⟨rfl, rfl⟩
def F_bars (n : Int32) (keys : Int32) : Int32 := if (0 ≤ n ∧ n ≤ 4) ∧ keys = 0 then -3 else -1
set_option maxRecDepth 100000 in
set_option maxHeartbeats 4000000 in
theorem x_bars (d : Nat) (n : Int32) (keys : Int32) : G (d + 6) mX11_bars 0 0 0 0 0 (gent 4 [.ref 0, .int n, .int keys]) [] SH0 RF0 I0 (fun r h => ∃ I1, r = some (.int (F_bars n keys)) ∧ h = (SH0, RF0, I1) ∧ ∀ a, 67 ≤ a → I1 a = I0 a) := by
  refine G_iload_n (pc := 0) rfl dX11_bars_0 ?_
  refine G_callS (pc := 1) (mc1 := 0) (ms1 := 0) (mj := mX11_isPlan) (vs := [_]) dX11_bars_1 cm_X11_isPlan wf_122 wf_124 rfl (Nat.le_of_ble_eq_true rfl) (Nat.le_of_ble_eq_true rfl) (Nat.le_of_ble_eq_true rfl) (Nat.le_of_ble_eq_true rfl) (isPlan_s (d + 4) n) ?_
  rintro _ _ ⟨rfl, rfl⟩
  dsimp only [Option.toList, List.cons_append, List.nil_append]
  refine G_if_eq (pc := 4) (tgt := 15) (by decide) dX11_bars_4 (fun c480 => ?_) (fun c480 => ?_)
  · have c480 := gB_z c480
    refine G_iconst (pc := 15) (v := (-1)) (by decide) dX11_bars_15 ?_
    exact G_iret (pc := 16) (Nat.le_of_ble_eq_true rfl) (Nat.le_of_ble_eq_true rfl) rfl dX11_bars_16 ⟨_, by first | rfl | (simp [F_bars, *]; done) | (have : ¬ (0 ≤ (n).toInt ∧ (n).toInt ≤ 4) := fun z => c480 ⟨Int32.le_iff_toInt_le.mpr z.1, Int32.le_iff_toInt_le.mpr z.2⟩; simp only [F_bars, Int32.le_iff_toInt_le, Int32.lt_iff_toInt_lt, ← Int32.toInt_inj]; simp; omega) | (have : ¬ (0 ≤ (n).toInt ∧ (n).toInt ≤ 4) := fun z => c480 ⟨Int32.le_iff_toInt_le.mpr z.1, Int32.le_iff_toInt_le.mpr z.2⟩; simp only [F_bars, Int32.le_iff_toInt_le, Int32.lt_iff_toInt_lt, ← Int32.toInt_inj]; split <;> first | rfl | (exfalso; simp at *; omega)) | (have : ¬ (0 ≤ (n).toInt ∧ (n).toInt ≤ 4) := fun z => c480 ⟨Int32.le_iff_toInt_le.mpr z.1, Int32.le_iff_toInt_le.mpr z.2⟩; unfold F_bars; (repeat' split) <;> first | rfl | (exfalso; (try simp only [Int32.le_iff_toInt_le, Int32.lt_iff_toInt_lt, ← Int32.toInt_inj] at *); first | omega | (simp at *; done) | (simp at *; omega))), rfl, fun _ _ => rfl⟩
  · have c480 := gB_o c480
    refine G_aload_n (pc := 7) rfl dX11_bars_7 ?_
    refine G_iload_n (pc := 8) rfl dX11_bars_8 ?_
    refine G_callV (pc := 9) (mc1 := 0) (ms1 := 0) (ci := 11) (mj := mX11_isKeySet) (vs := [_]) dX11_bars_9 rfl rfl cm_X11_isKeySet wf_154 wf_156 wf_157 rfl (Nat.le_of_ble_eq_true rfl) (Nat.le_of_ble_eq_true rfl) (Nat.le_of_ble_eq_true rfl) (Nat.le_of_ble_eq_true rfl) (s137_X11_isKeySet  (d + 4)  _) ?_
    rintro _ _ ⟨rfl, rfl⟩
    dsimp only [Option.toList, List.cons_append, List.nil_append]
    refine G_if_ne (pc := 12) (tgt := 17) (by decide) dX11_bars_12 (fun c481 => ?_) (fun c481 => ?_)
    · have c481 := gB_o c481
      refine G_iload_n (pc := 17) rfl dX11_bars_17 ?_
      refine G_aload_n (pc := 18) rfl dX11_bars_18 ?_
      refine G_getR (pc := 19) (r := 51) (ci := 11) (j := 3) rfl lk_RX11_68 rfl rfl rfl dX11_bars_19 ?_
      refine G_iconst (pc := 22) (v := 0) (by decide) dX11_bars_22 ?_
      refine G_iload_n (pc := 23) rfl dX11_bars_23 ?_
      by_cases c483 : n = 0
      · subst c483
        refine G_callVN (host := "IceKeys") (pc := 24) (mc1 := 0) (ms1 := 0) (ci := 4) (mj := mX4_reach) (vs := [_, _]) dX11_bars_24 rfl rfl cm_X4_reach (by decide) wf_162 wf_163 rfl (Nat.le_of_ble_eq_true rfl) (Nat.le_of_ble_eq_true rfl) (Nat.le_of_ble_eq_true rfl) (Nat.le_of_ble_eq_true rfl) (s195_X4_reach  (d + 4)  ) ?_
        rintro _ _ ⟨rfl, rfl⟩
        dsimp only [Option.toList, List.cons_append, List.nil_append]
        refine G_iconst (pc := 27) (v := (-1)) (by decide) dX11_bars_27 ?_
        refine G_ixor (pc := 28) (z := (-1)) (by decide) dX11_bars_28 ?_
        refine G_iand (pc := 29) rfl dX11_bars_29 ?_
        refine G_istore_n (pc := 30) (L1 := [some (.ref 0), some (.int 0), some (.int keys), some (.int (keys &&& (-1)))]) rfl rfl (by decide) dX11_bars_30 ?_
        refine G_iload_n (pc := 31) rfl dX11_bars_31 ?_
        refine G_if_ne (pc := 32) (tgt := 40) (by decide) dX11_bars_32 (fun c484 => ?_) (fun c484 => ?_)
        · refine G_iload_n (pc := 40) rfl dX11_bars_40 ?_
          refine G_callS (pc := 41) (mc1 := 0) (ms1 := 0) (mj := mX11_leastOf) (vs := [_]) dX11_bars_41 cm_X11_leastOf wf_164 wf_166 rfl (Nat.le_of_ble_eq_true rfl) (Nat.le_of_ble_eq_true rfl) (Nat.le_of_ble_eq_true rfl) (Nat.le_of_ble_eq_true rfl) (s196_X11_leastOf  (d + 4)  _) ?_
          rintro _ _ ⟨rfl, rfl⟩
          dsimp only [Option.toList, List.cons_append, List.nil_append]
          exact G_iret (pc := 44) (Nat.le_of_ble_eq_true rfl) (Nat.le_of_ble_eq_true rfl) rfl dX11_bars_44 ⟨_, by first | rfl | (simp [F_bars, *]; done) | (have : 0 ≤ (keys).toInt := Int32.le_iff_toInt_le.mp (c481.1); have : (keys).toInt ≤ 0 := Int32.le_iff_toInt_le.mp (c481.2); simp only [F_bars, Int32.le_iff_toInt_le, Int32.lt_iff_toInt_lt, ← Int32.toInt_inj]; simp; omega) | (have : 0 ≤ (keys).toInt := Int32.le_iff_toInt_le.mp (c481.1); have : (keys).toInt ≤ 0 := Int32.le_iff_toInt_le.mp (c481.2); simp only [F_bars, Int32.le_iff_toInt_le, Int32.lt_iff_toInt_lt, ← Int32.toInt_inj]; split <;> first | rfl | (exfalso; simp at *; omega)) | (have : 0 ≤ (keys).toInt := Int32.le_iff_toInt_le.mp (c481.1); have : (keys).toInt ≤ 0 := Int32.le_iff_toInt_le.mp (c481.2); unfold F_bars; (repeat' split) <;> first | rfl | (exfalso; (try simp only [Int32.le_iff_toInt_le, Int32.lt_iff_toInt_lt, ← Int32.toInt_inj] at *); first | omega | (simp at *; done) | (simp at *; omega))), rfl, fun _ _ => rfl⟩
        · refine G_bipush (pc := 35) (v := (-3)) (by decide) dX11_bars_35 ?_
          refine G_goto (pc := 37) (tgt := 44) (by decide) dX11_bars_37 ?_
          exact G_iret (pc := 44) (Nat.le_of_ble_eq_true rfl) (Nat.le_of_ble_eq_true rfl) rfl dX11_bars_44 ⟨_, by first | rfl | (simp [F_bars, *]; done) | (have : 0 ≤ (keys).toInt := Int32.le_iff_toInt_le.mp (c481.1); have : (keys).toInt ≤ 0 := Int32.le_iff_toInt_le.mp (c481.2); simp only [F_bars, Int32.le_iff_toInt_le, Int32.lt_iff_toInt_lt, ← Int32.toInt_inj]; simp; omega) | (have : 0 ≤ (keys).toInt := Int32.le_iff_toInt_le.mp (c481.1); have : (keys).toInt ≤ 0 := Int32.le_iff_toInt_le.mp (c481.2); simp only [F_bars, Int32.le_iff_toInt_le, Int32.lt_iff_toInt_lt, ← Int32.toInt_inj]; split <;> first | rfl | (exfalso; simp at *; omega)) | (have : 0 ≤ (keys).toInt := Int32.le_iff_toInt_le.mp (c481.1); have : (keys).toInt ≤ 0 := Int32.le_iff_toInt_le.mp (c481.2); unfold F_bars; (repeat' split) <;> first | rfl | (exfalso; (try simp only [Int32.le_iff_toInt_le, Int32.lt_iff_toInt_lt, ← Int32.toInt_inj] at *); first | omega | (simp at *; done) | (simp at *; omega))), rfl, fun _ _ => rfl⟩
      by_cases c485 : n = 1
      · subst c485
        refine G_callVN (host := "IceKeys") (pc := 24) (mc1 := 0) (ms1 := 0) (ci := 4) (mj := mX4_reach) (vs := [_, _]) dX11_bars_24 rfl rfl cm_X4_reach (by decide) wf_162 wf_163 rfl (Nat.le_of_ble_eq_true rfl) (Nat.le_of_ble_eq_true rfl) (Nat.le_of_ble_eq_true rfl) (Nat.le_of_ble_eq_true rfl) (s198_X4_reach  (d + 3)  ) ?_
        rintro _ _ ⟨rfl, rfl⟩
        dsimp only [Option.toList, List.cons_append, List.nil_append]
        refine G_iconst (pc := 27) (v := (-1)) (by decide) dX11_bars_27 ?_
        refine G_ixor (pc := 28) (z := (-1)) (by decide) dX11_bars_28 ?_
        refine G_iand (pc := 29) rfl dX11_bars_29 ?_
        refine G_istore_n (pc := 30) (L1 := [some (.ref 0), some (.int 1), some (.int keys), some (.int (keys &&& (-1)))]) rfl rfl (by decide) dX11_bars_30 ?_
        refine G_iload_n (pc := 31) rfl dX11_bars_31 ?_
        refine G_if_ne (pc := 32) (tgt := 40) (by decide) dX11_bars_32 (fun c486 => ?_) (fun c486 => ?_)
        · refine G_iload_n (pc := 40) rfl dX11_bars_40 ?_
          refine G_callS (pc := 41) (mc1 := 0) (ms1 := 0) (mj := mX11_leastOf) (vs := [_]) dX11_bars_41 cm_X11_leastOf wf_164 wf_166 rfl (Nat.le_of_ble_eq_true rfl) (Nat.le_of_ble_eq_true rfl) (Nat.le_of_ble_eq_true rfl) (Nat.le_of_ble_eq_true rfl) (s201_X11_leastOf  (d + 4)  _) ?_
          rintro _ _ ⟨rfl, rfl⟩
          dsimp only [Option.toList, List.cons_append, List.nil_append]
          exact G_iret (pc := 44) (Nat.le_of_ble_eq_true rfl) (Nat.le_of_ble_eq_true rfl) rfl dX11_bars_44 ⟨_, by first | rfl | (simp [F_bars, *]; done) | (have : 0 ≤ (keys).toInt := Int32.le_iff_toInt_le.mp (c481.1); have : (keys).toInt ≤ 0 := Int32.le_iff_toInt_le.mp (c481.2); simp only [F_bars, Int32.le_iff_toInt_le, Int32.lt_iff_toInt_lt, ← Int32.toInt_inj]; simp; omega) | (have : 0 ≤ (keys).toInt := Int32.le_iff_toInt_le.mp (c481.1); have : (keys).toInt ≤ 0 := Int32.le_iff_toInt_le.mp (c481.2); simp only [F_bars, Int32.le_iff_toInt_le, Int32.lt_iff_toInt_lt, ← Int32.toInt_inj]; split <;> first | rfl | (exfalso; simp at *; omega)) | (have : 0 ≤ (keys).toInt := Int32.le_iff_toInt_le.mp (c481.1); have : (keys).toInt ≤ 0 := Int32.le_iff_toInt_le.mp (c481.2); unfold F_bars; (repeat' split) <;> first | rfl | (exfalso; (try simp only [Int32.le_iff_toInt_le, Int32.lt_iff_toInt_lt, ← Int32.toInt_inj] at *); first | omega | (simp at *; done) | (simp at *; omega))), rfl, fun a ha => by funext j; simp (disch := omega) only [gup_off, gcp_off]⟩
        · refine G_bipush (pc := 35) (v := (-3)) (by decide) dX11_bars_35 ?_
          refine G_goto (pc := 37) (tgt := 44) (by decide) dX11_bars_37 ?_
          exact G_iret (pc := 44) (Nat.le_of_ble_eq_true rfl) (Nat.le_of_ble_eq_true rfl) rfl dX11_bars_44 ⟨_, by first | rfl | (simp [F_bars, *]; done) | (have : 0 ≤ (keys).toInt := Int32.le_iff_toInt_le.mp (c481.1); have : (keys).toInt ≤ 0 := Int32.le_iff_toInt_le.mp (c481.2); simp only [F_bars, Int32.le_iff_toInt_le, Int32.lt_iff_toInt_lt, ← Int32.toInt_inj]; simp; omega) | (have : 0 ≤ (keys).toInt := Int32.le_iff_toInt_le.mp (c481.1); have : (keys).toInt ≤ 0 := Int32.le_iff_toInt_le.mp (c481.2); simp only [F_bars, Int32.le_iff_toInt_le, Int32.lt_iff_toInt_lt, ← Int32.toInt_inj]; split <;> first | rfl | (exfalso; simp at *; omega)) | (have : 0 ≤ (keys).toInt := Int32.le_iff_toInt_le.mp (c481.1); have : (keys).toInt ≤ 0 := Int32.le_iff_toInt_le.mp (c481.2); unfold F_bars; (repeat' split) <;> first | rfl | (exfalso; (try simp only [Int32.le_iff_toInt_le, Int32.lt_iff_toInt_lt, ← Int32.toInt_inj] at *); first | omega | (simp at *; done) | (simp at *; omega))), rfl, fun a ha => by funext j; simp (disch := omega) only [gup_off, gcp_off]⟩
      by_cases c487 : n = 2
      · subst c487
        refine G_callVN (host := "IceKeys") (pc := 24) (mc1 := 0) (ms1 := 0) (ci := 4) (mj := mX4_reach) (vs := [_, _]) dX11_bars_24 rfl rfl cm_X4_reach (by decide) wf_162 wf_163 rfl (Nat.le_of_ble_eq_true rfl) (Nat.le_of_ble_eq_true rfl) (Nat.le_of_ble_eq_true rfl) (Nat.le_of_ble_eq_true rfl) (s203_X4_reach  (d + 2)  ) ?_
        rintro _ _ ⟨rfl, rfl⟩
        dsimp only [Option.toList, List.cons_append, List.nil_append]
        refine G_iconst (pc := 27) (v := (-1)) (by decide) dX11_bars_27 ?_
        refine G_ixor (pc := 28) (z := (-1)) (by decide) dX11_bars_28 ?_
        refine G_iand (pc := 29) rfl dX11_bars_29 ?_
        refine G_istore_n (pc := 30) (L1 := [some (.ref 0), some (.int 2), some (.int keys), some (.int (keys &&& (-1)))]) rfl rfl (by decide) dX11_bars_30 ?_
        refine G_iload_n (pc := 31) rfl dX11_bars_31 ?_
        refine G_if_ne (pc := 32) (tgt := 40) (by decide) dX11_bars_32 (fun c488 => ?_) (fun c488 => ?_)
        · refine G_iload_n (pc := 40) rfl dX11_bars_40 ?_
          refine G_callS (pc := 41) (mc1 := 0) (ms1 := 0) (mj := mX11_leastOf) (vs := [_]) dX11_bars_41 cm_X11_leastOf wf_164 wf_166 rfl (Nat.le_of_ble_eq_true rfl) (Nat.le_of_ble_eq_true rfl) (Nat.le_of_ble_eq_true rfl) (Nat.le_of_ble_eq_true rfl) (s208_X11_leastOf  (d + 4)  _) ?_
          rintro _ _ ⟨rfl, rfl⟩
          dsimp only [Option.toList, List.cons_append, List.nil_append]
          exact G_iret (pc := 44) (Nat.le_of_ble_eq_true rfl) (Nat.le_of_ble_eq_true rfl) rfl dX11_bars_44 ⟨_, by first | rfl | (simp [F_bars, *]; done) | (have : 0 ≤ (keys).toInt := Int32.le_iff_toInt_le.mp (c481.1); have : (keys).toInt ≤ 0 := Int32.le_iff_toInt_le.mp (c481.2); simp only [F_bars, Int32.le_iff_toInt_le, Int32.lt_iff_toInt_lt, ← Int32.toInt_inj]; simp; omega) | (have : 0 ≤ (keys).toInt := Int32.le_iff_toInt_le.mp (c481.1); have : (keys).toInt ≤ 0 := Int32.le_iff_toInt_le.mp (c481.2); simp only [F_bars, Int32.le_iff_toInt_le, Int32.lt_iff_toInt_lt, ← Int32.toInt_inj]; split <;> first | rfl | (exfalso; simp at *; omega)) | (have : 0 ≤ (keys).toInt := Int32.le_iff_toInt_le.mp (c481.1); have : (keys).toInt ≤ 0 := Int32.le_iff_toInt_le.mp (c481.2); unfold F_bars; (repeat' split) <;> first | rfl | (exfalso; (try simp only [Int32.le_iff_toInt_le, Int32.lt_iff_toInt_lt, ← Int32.toInt_inj] at *); first | omega | (simp at *; done) | (simp at *; omega))), rfl, fun a ha => by funext j; simp (disch := omega) only [gup_off, gcp_off]⟩
        · refine G_bipush (pc := 35) (v := (-3)) (by decide) dX11_bars_35 ?_
          refine G_goto (pc := 37) (tgt := 44) (by decide) dX11_bars_37 ?_
          exact G_iret (pc := 44) (Nat.le_of_ble_eq_true rfl) (Nat.le_of_ble_eq_true rfl) rfl dX11_bars_44 ⟨_, by first | rfl | (simp [F_bars, *]; done) | (have : 0 ≤ (keys).toInt := Int32.le_iff_toInt_le.mp (c481.1); have : (keys).toInt ≤ 0 := Int32.le_iff_toInt_le.mp (c481.2); simp only [F_bars, Int32.le_iff_toInt_le, Int32.lt_iff_toInt_lt, ← Int32.toInt_inj]; simp; omega) | (have : 0 ≤ (keys).toInt := Int32.le_iff_toInt_le.mp (c481.1); have : (keys).toInt ≤ 0 := Int32.le_iff_toInt_le.mp (c481.2); simp only [F_bars, Int32.le_iff_toInt_le, Int32.lt_iff_toInt_lt, ← Int32.toInt_inj]; split <;> first | rfl | (exfalso; simp at *; omega)) | (have : 0 ≤ (keys).toInt := Int32.le_iff_toInt_le.mp (c481.1); have : (keys).toInt ≤ 0 := Int32.le_iff_toInt_le.mp (c481.2); unfold F_bars; (repeat' split) <;> first | rfl | (exfalso; (try simp only [Int32.le_iff_toInt_le, Int32.lt_iff_toInt_lt, ← Int32.toInt_inj] at *); first | omega | (simp at *; done) | (simp at *; omega))), rfl, fun a ha => by funext j; simp (disch := omega) only [gup_off, gcp_off]⟩
      by_cases c489 : n = 3
      · subst c489
        refine G_callVN (host := "IceKeys") (pc := 24) (mc1 := 0) (ms1 := 0) (ci := 4) (mj := mX4_reach) (vs := [_, _]) dX11_bars_24 rfl rfl cm_X4_reach (by decide) wf_162 wf_163 rfl (Nat.le_of_ble_eq_true rfl) (Nat.le_of_ble_eq_true rfl) (Nat.le_of_ble_eq_true rfl) (Nat.le_of_ble_eq_true rfl) (s210_X4_reach  (d + 1)  ) ?_
        rintro _ _ ⟨rfl, rfl⟩
        dsimp only [Option.toList, List.cons_append, List.nil_append]
        refine G_iconst (pc := 27) (v := (-1)) (by decide) dX11_bars_27 ?_
        refine G_ixor (pc := 28) (z := (-1)) (by decide) dX11_bars_28 ?_
        refine G_iand (pc := 29) rfl dX11_bars_29 ?_
        refine G_istore_n (pc := 30) (L1 := [some (.ref 0), some (.int 3), some (.int keys), some (.int (keys &&& (-1)))]) rfl rfl (by decide) dX11_bars_30 ?_
        refine G_iload_n (pc := 31) rfl dX11_bars_31 ?_
        refine G_if_ne (pc := 32) (tgt := 40) (by decide) dX11_bars_32 (fun c490 => ?_) (fun c490 => ?_)
        · refine G_iload_n (pc := 40) rfl dX11_bars_40 ?_
          refine G_callS (pc := 41) (mc1 := 0) (ms1 := 0) (mj := mX11_leastOf) (vs := [_]) dX11_bars_41 cm_X11_leastOf wf_164 wf_166 rfl (Nat.le_of_ble_eq_true rfl) (Nat.le_of_ble_eq_true rfl) (Nat.le_of_ble_eq_true rfl) (Nat.le_of_ble_eq_true rfl) (s217_X11_leastOf  (d + 4)  _) ?_
          rintro _ _ ⟨rfl, rfl⟩
          dsimp only [Option.toList, List.cons_append, List.nil_append]
          exact G_iret (pc := 44) (Nat.le_of_ble_eq_true rfl) (Nat.le_of_ble_eq_true rfl) rfl dX11_bars_44 ⟨_, by first | rfl | (simp [F_bars, *]; done) | (have : 0 ≤ (keys).toInt := Int32.le_iff_toInt_le.mp (c481.1); have : (keys).toInt ≤ 0 := Int32.le_iff_toInt_le.mp (c481.2); simp only [F_bars, Int32.le_iff_toInt_le, Int32.lt_iff_toInt_lt, ← Int32.toInt_inj]; simp; omega) | (have : 0 ≤ (keys).toInt := Int32.le_iff_toInt_le.mp (c481.1); have : (keys).toInt ≤ 0 := Int32.le_iff_toInt_le.mp (c481.2); simp only [F_bars, Int32.le_iff_toInt_le, Int32.lt_iff_toInt_lt, ← Int32.toInt_inj]; split <;> first | rfl | (exfalso; simp at *; omega)) | (have : 0 ≤ (keys).toInt := Int32.le_iff_toInt_le.mp (c481.1); have : (keys).toInt ≤ 0 := Int32.le_iff_toInt_le.mp (c481.2); unfold F_bars; (repeat' split) <;> first | rfl | (exfalso; (try simp only [Int32.le_iff_toInt_le, Int32.lt_iff_toInt_lt, ← Int32.toInt_inj] at *); first | omega | (simp at *; done) | (simp at *; omega))), rfl, fun a ha => by funext j; simp (disch := omega) only [gup_off, gcp_off]⟩
        · refine G_bipush (pc := 35) (v := (-3)) (by decide) dX11_bars_35 ?_
          refine G_goto (pc := 37) (tgt := 44) (by decide) dX11_bars_37 ?_
          exact G_iret (pc := 44) (Nat.le_of_ble_eq_true rfl) (Nat.le_of_ble_eq_true rfl) rfl dX11_bars_44 ⟨_, by first | rfl | (simp [F_bars, *]; done) | (have : 0 ≤ (keys).toInt := Int32.le_iff_toInt_le.mp (c481.1); have : (keys).toInt ≤ 0 := Int32.le_iff_toInt_le.mp (c481.2); simp only [F_bars, Int32.le_iff_toInt_le, Int32.lt_iff_toInt_lt, ← Int32.toInt_inj]; simp; omega) | (have : 0 ≤ (keys).toInt := Int32.le_iff_toInt_le.mp (c481.1); have : (keys).toInt ≤ 0 := Int32.le_iff_toInt_le.mp (c481.2); simp only [F_bars, Int32.le_iff_toInt_le, Int32.lt_iff_toInt_lt, ← Int32.toInt_inj]; split <;> first | rfl | (exfalso; simp at *; omega)) | (have : 0 ≤ (keys).toInt := Int32.le_iff_toInt_le.mp (c481.1); have : (keys).toInt ≤ 0 := Int32.le_iff_toInt_le.mp (c481.2); unfold F_bars; (repeat' split) <;> first | rfl | (exfalso; (try simp only [Int32.le_iff_toInt_le, Int32.lt_iff_toInt_lt, ← Int32.toInt_inj] at *); first | omega | (simp at *; done) | (simp at *; omega))), rfl, fun a ha => by funext j; simp (disch := omega) only [gup_off, gcp_off]⟩
      by_cases c491 : n = 4
      · subst c491
        refine G_callVN (host := "IceKeys") (pc := 24) (mc1 := 0) (ms1 := 0) (ci := 4) (mj := mX4_reach) (vs := [_, _]) dX11_bars_24 rfl rfl cm_X4_reach (by decide) wf_162 wf_163 rfl (Nat.le_of_ble_eq_true rfl) (Nat.le_of_ble_eq_true rfl) (Nat.le_of_ble_eq_true rfl) (Nat.le_of_ble_eq_true rfl) (s219_X4_reach  d  ) ?_
        rintro _ _ ⟨rfl, rfl⟩
        dsimp only [Option.toList, List.cons_append, List.nil_append]
        refine G_iconst (pc := 27) (v := (-1)) (by decide) dX11_bars_27 ?_
        refine G_ixor (pc := 28) (z := (-1)) (by decide) dX11_bars_28 ?_
        refine G_iand (pc := 29) rfl dX11_bars_29 ?_
        refine G_istore_n (pc := 30) (L1 := [some (.ref 0), some (.int 4), some (.int keys), some (.int (keys &&& (-1)))]) rfl rfl (by decide) dX11_bars_30 ?_
        refine G_iload_n (pc := 31) rfl dX11_bars_31 ?_
        refine G_if_ne (pc := 32) (tgt := 40) (by decide) dX11_bars_32 (fun c492 => ?_) (fun c492 => ?_)
        · refine G_iload_n (pc := 40) rfl dX11_bars_40 ?_
          refine G_callS (pc := 41) (mc1 := 0) (ms1 := 0) (mj := mX11_leastOf) (vs := [_]) dX11_bars_41 cm_X11_leastOf wf_164 wf_166 rfl (Nat.le_of_ble_eq_true rfl) (Nat.le_of_ble_eq_true rfl) (Nat.le_of_ble_eq_true rfl) (Nat.le_of_ble_eq_true rfl) (s228_X11_leastOf  (d + 4)  _) ?_
          rintro _ _ ⟨rfl, rfl⟩
          dsimp only [Option.toList, List.cons_append, List.nil_append]
          exact G_iret (pc := 44) (Nat.le_of_ble_eq_true rfl) (Nat.le_of_ble_eq_true rfl) rfl dX11_bars_44 ⟨_, by first | rfl | (simp [F_bars, *]; done) | (have : 0 ≤ (keys).toInt := Int32.le_iff_toInt_le.mp (c481.1); have : (keys).toInt ≤ 0 := Int32.le_iff_toInt_le.mp (c481.2); simp only [F_bars, Int32.le_iff_toInt_le, Int32.lt_iff_toInt_lt, ← Int32.toInt_inj]; simp; omega) | (have : 0 ≤ (keys).toInt := Int32.le_iff_toInt_le.mp (c481.1); have : (keys).toInt ≤ 0 := Int32.le_iff_toInt_le.mp (c481.2); simp only [F_bars, Int32.le_iff_toInt_le, Int32.lt_iff_toInt_lt, ← Int32.toInt_inj]; split <;> first | rfl | (exfalso; simp at *; omega)) | (have : 0 ≤ (keys).toInt := Int32.le_iff_toInt_le.mp (c481.1); have : (keys).toInt ≤ 0 := Int32.le_iff_toInt_le.mp (c481.2); unfold F_bars; (repeat' split) <;> first | rfl | (exfalso; (try simp only [Int32.le_iff_toInt_le, Int32.lt_iff_toInt_lt, ← Int32.toInt_inj] at *); first | omega | (simp at *; done) | (simp at *; omega))), rfl, fun a ha => by funext j; simp (disch := omega) only [gup_off, gcp_off]⟩
        · refine G_bipush (pc := 35) (v := (-3)) (by decide) dX11_bars_35 ?_
          refine G_goto (pc := 37) (tgt := 44) (by decide) dX11_bars_37 ?_
          exact G_iret (pc := 44) (Nat.le_of_ble_eq_true rfl) (Nat.le_of_ble_eq_true rfl) rfl dX11_bars_44 ⟨_, by first | rfl | (simp [F_bars, *]; done) | (have : 0 ≤ (keys).toInt := Int32.le_iff_toInt_le.mp (c481.1); have : (keys).toInt ≤ 0 := Int32.le_iff_toInt_le.mp (c481.2); simp only [F_bars, Int32.le_iff_toInt_le, Int32.lt_iff_toInt_lt, ← Int32.toInt_inj]; simp; omega) | (have : 0 ≤ (keys).toInt := Int32.le_iff_toInt_le.mp (c481.1); have : (keys).toInt ≤ 0 := Int32.le_iff_toInt_le.mp (c481.2); simp only [F_bars, Int32.le_iff_toInt_le, Int32.lt_iff_toInt_lt, ← Int32.toInt_inj]; split <;> first | rfl | (exfalso; simp at *; omega)) | (have : 0 ≤ (keys).toInt := Int32.le_iff_toInt_le.mp (c481.1); have : (keys).toInt ≤ 0 := Int32.le_iff_toInt_le.mp (c481.2); unfold F_bars; (repeat' split) <;> first | rfl | (exfalso; (try simp only [Int32.le_iff_toInt_le, Int32.lt_iff_toInt_lt, ← Int32.toInt_inj] at *); first | omega | (simp at *; done) | (simp at *; omega))), rfl, fun a ha => by funext j; simp (disch := omega) only [gup_off, gcp_off]⟩
      exfalso
      have : 0 ≤ (n).toInt := Int32.le_iff_toInt_le.mp (c480.1)
      have : (n).toInt ≤ 4 := Int32.le_iff_toInt_le.mp (c480.2)
      have : (n).toInt ≠ 0 := g_ne (c483)
      have : (n).toInt ≠ 1 := g_ne (c485)
      have : (n).toInt ≠ 2 := g_ne (c487)
      have : (n).toInt ≠ 3 := g_ne (c489)
      have : (n).toInt ≠ 4 := g_ne (c491)
      omega
    · have c481 := gB_z c481
      refine G_iconst (pc := 15) (v := (-1)) (by decide) dX11_bars_15 ?_
      exact G_iret (pc := 16) (Nat.le_of_ble_eq_true rfl) (Nat.le_of_ble_eq_true rfl) rfl dX11_bars_16 ⟨_, by first | rfl | (simp [F_bars, *]; done) | (have : 0 ≤ (n).toInt := Int32.le_iff_toInt_le.mp (c480.1); have : (n).toInt ≤ 4 := Int32.le_iff_toInt_le.mp (c480.2); have : ¬ (0 ≤ (keys).toInt ∧ (keys).toInt ≤ 0) := fun z => c481 ⟨Int32.le_iff_toInt_le.mpr z.1, Int32.le_iff_toInt_le.mpr z.2⟩; simp only [F_bars, Int32.le_iff_toInt_le, Int32.lt_iff_toInt_lt, ← Int32.toInt_inj]; simp; omega) | (have : 0 ≤ (n).toInt := Int32.le_iff_toInt_le.mp (c480.1); have : (n).toInt ≤ 4 := Int32.le_iff_toInt_le.mp (c480.2); have : ¬ (0 ≤ (keys).toInt ∧ (keys).toInt ≤ 0) := fun z => c481 ⟨Int32.le_iff_toInt_le.mpr z.1, Int32.le_iff_toInt_le.mpr z.2⟩; simp only [F_bars, Int32.le_iff_toInt_le, Int32.lt_iff_toInt_lt, ← Int32.toInt_inj]; split <;> first | rfl | (exfalso; simp at *; omega)) | (have : 0 ≤ (n).toInt := Int32.le_iff_toInt_le.mp (c480.1); have : (n).toInt ≤ 4 := Int32.le_iff_toInt_le.mp (c480.2); have : ¬ (0 ≤ (keys).toInt ∧ (keys).toInt ≤ 0) := fun z => c481 ⟨Int32.le_iff_toInt_le.mpr z.1, Int32.le_iff_toInt_le.mpr z.2⟩; unfold F_bars; (repeat' split) <;> first | rfl | (exfalso; (try simp only [Int32.le_iff_toInt_le, Int32.lt_iff_toInt_lt, ← Int32.toInt_inj] at *); first | omega | (simp at *; done) | (simp at *; omega))), rfl, fun _ _ => rfl⟩
set_option maxRecDepth 100000 in
set_option maxHeartbeats 4000000 in
theorem s232_X1_isOver  (d : Nat)   : G (d) mX1_isOver 0 0 0 0 0 (gent 1 [.ref 19]) [] SH0 RF0 (gup I0 54 0 0) (fun r h => r = some (.int 0) ∧ h = (SH0, RF0, (gup I0 54 0 0))) := by
  refine G_aload_n (pc := 0) rfl dX1_isOver_0 ?_
  refine G_getI (pc := 1) (v := 0) (ci := 1) (j := 1) rfl rfl lk_RX1_60 rfl rfl dX1_isOver_1 ?_
  refine G_aload_n (pc := 4) rfl dX1_isOver_4 ?_
  refine G_getI (pc := 5) (v := 12) (ci := 1) (j := 2) rfl rfl lk_RX1_9 rfl rfl dX1_isOver_5 ?_
  refine G_icmp_lt (pc := 8) (tgt := 15) (by decide) dX1_isOver_8 (fun _ => ?_) (fun z => absurd (by decide) z)
  refine G_iconst (pc := 15) (v := 0) (by decide) dX1_isOver_15 ?_
  exact G_zret (pc := 16) (Nat.le_of_ble_eq_true rfl) (Nat.le_of_ble_eq_true rfl) rfl (by decide) dX1_isOver_16 ⟨rfl, rfl⟩
set_option maxRecDepth 100000 in
set_option maxHeartbeats 4000000 in
theorem s234_X4_isLast  (d : Nat)   : G (d + 1) mX4_isLast 0 0 0 0 0 (gent 3 [.ref 51, .int 0, .int 1]) [] SH0 RF0 (gup I0 54 0 0) (fun r h => r = some (.int 0) ∧ h = (SH0, RF0, (gup I0 54 0 0))) := by
  refine G_iload_n (pc := 0) rfl dX4_isLast_0 ?_
  refine G_if_le (pc := 1) (tgt := 19) (by decide) dX4_isLast_1 (fun z => absurd z (by decide)) (fun _ => ?_)
  refine G_iload_n (pc := 4) rfl dX4_isLast_4 ?_
  refine G_iconst (pc := 5) (v := 4) (by decide) dX4_isLast_5 ?_
  refine G_icmp_ge (pc := 6) (tgt := 19) (by decide) dX4_isLast_6 (fun z => absurd z (by decide)) (fun _ => ?_)
  refine G_aload_n (pc := 9) rfl dX4_isLast_9 ?_
  refine G_getR (pc := 10) (r := 19) (ci := 4) (j := 0) rfl lk_RX4_21 rfl rfl rfl dX4_isLast_10 ?_
  refine G_callV (pc := 13) (mc1 := 0) (ms1 := 0) (ci := 1) (mj := mX1_isOver) (vs := []) dX4_isLast_13 rfl rfl cm_X1_isOver wf_125 wf_17 wf_18 rfl (Nat.le_of_ble_eq_true rfl) (Nat.le_of_ble_eq_true rfl) (Nat.le_of_ble_eq_true rfl) (Nat.le_of_ble_eq_true rfl) (s232_X1_isOver  d  ) ?_
  rintro _ _ ⟨rfl, rfl⟩
  dsimp only [Option.toList, List.cons_append, List.nil_append]
  refine G_if_eq (pc := 16) (tgt := 23) (by decide) dX4_isLast_16 (fun _ => ?_) (fun z => absurd (by decide) z)
  refine G_iconst (pc := 23) (v := 0) (by decide) dX4_isLast_23 ?_
  exact G_zret (pc := 24) (Nat.le_of_ble_eq_true rfl) (Nat.le_of_ble_eq_true rfl) rfl (by decide) dX4_isLast_24 ⟨rfl, rfl⟩
set_option maxRecDepth 100000 in
set_option maxHeartbeats 4000000 in
theorem s235_X1_save  (d : Nat)   : G (d + 1) mX1_save 0 0 0 0 0 (gent 3 [.ref 19, .int 0]) [] SH0 RF0 (gup I0 54 0 0) (fun r h => r = none ∧ h = (SH0, RF0, (gup (gup (gcp (gup I0 54 0 0) 24 34 (0 : Int32).toNatClampNeg (0 : Int32).toNatClampNeg (6 : Int32).toNatClampNeg) 34 6 0) 34 7 0))) := by
  refine G_iload_n (pc := 0) rfl dX1_save_0 ?_
  refine G_bipush (pc := 1) (v := 8) (by decide) dX1_save_1 ?_
  refine G_imul (pc := 3) (z := 0) (by decide) dX1_save_3 ?_
  refine G_istore_n (pc := 4) (L1 := [some (.ref 19), some (.int 0), some (.int 0)]) rfl rfl (by decide) dX1_save_4 ?_
  refine G_aload_n (pc := 5) rfl dX1_save_5 ?_
  refine G_getR (pc := 6) (r := 24) (ci := 1) (j := 11) rfl lk_RX1_31 rfl rfl rfl dX1_save_6 ?_
  refine G_iconst (pc := 9) (v := 0) (by decide) dX1_save_9 ?_
  refine G_aload_n (pc := 10) rfl dX1_save_10 ?_
  refine G_getR (pc := 11) (r := 34) (ci := 1) (j := 18) rfl lk_RX1_53 rfl rfl rfl dX1_save_11 ?_
  refine G_iload_n (pc := 14) rfl dX1_save_14 ?_
  refine G_bipush (pc := 15) (v := 6) (by decide) dX1_save_15 ?_
  refine G_copy (pc := 17) (x := 24) (y := 34) rfl rfl (by decide) (by decide) (by decide) (by decide) (by decide) wf_50 wf_51 wf_52 wf_53 (Nat.le_of_ble_eq_true rfl) dX1_save_17 ?_
  refine G_aload_n (pc := 20) rfl dX1_save_20 ?_
  refine G_getR (pc := 21) (r := 34) (ci := 1) (j := 18) rfl lk_RX1_53 rfl rfl rfl dX1_save_21 ?_
  refine G_iload_n (pc := 24) rfl dX1_save_24 ?_
  refine G_bipush (pc := 25) (v := 6) (by decide) dX1_save_25 ?_
  refine G_iadd (pc := 27) (z := 6) (by decide) dX1_save_27 ?_
  refine G_aload_n (pc := 28) rfl dX1_save_28 ?_
  refine G_getI (pc := 29) (v := 0) (ci := 1) (j := 9) rfl rfl lk_RX1_75 rfl rfl dX1_save_29 ?_
  refine G_iast (pc := 32) (jj := 6) (by decide) rfl (by unfold vp_in; decide) dX1_save_32 ?_
  refine G_aload_n (pc := 33) rfl dX1_save_33 ?_
  refine G_getR (pc := 34) (r := 34) (ci := 1) (j := 18) rfl lk_RX1_53 rfl rfl rfl dX1_save_34 ?_
  refine G_iload_n (pc := 37) rfl dX1_save_37 ?_
  refine G_bipush (pc := 38) (v := 6) (by decide) dX1_save_38 ?_
  refine G_iadd (pc := 40) (z := 6) (by decide) dX1_save_40 ?_
  refine G_iconst (pc := 41) (v := 1) (by decide) dX1_save_41 ?_
  refine G_iadd (pc := 42) (z := 7) (by decide) dX1_save_42 ?_
  refine G_aload_n (pc := 43) rfl dX1_save_43 ?_
  refine G_getI (pc := 44) (v := 0) (ci := 1) (j := 1) rfl rfl lk_RX1_60 rfl rfl dX1_save_44 ?_
  refine G_iast (pc := 47) (jj := 7) (by decide) rfl (by unfold vp_in; decide) dX1_save_47 ?_
  exact G_vret (pc := 48) (Nat.le_of_ble_eq_true rfl) (Nat.le_of_ble_eq_true rfl) rfl dX1_save_48 ⟨rfl, rfl⟩
set_option maxRecDepth 100000 in
set_option maxHeartbeats 4000000 in
theorem s237_X1_isKey  (d : Nat)   : G (d) mX1_isKey 0 0 0 0 0 (gent 2 [.ref 19, .int (-1)]) [] SH0 RF0 (gup (gup (gcp (gup I0 54 0 0) 24 34 (0 : Int32).toNatClampNeg (0 : Int32).toNatClampNeg (6 : Int32).toNatClampNeg) 34 6 0) 34 7 0) (fun r h => r = some (.int 0) ∧ h = (SH0, RF0, (gup (gup (gcp (gup I0 54 0 0) 24 34 (0 : Int32).toNatClampNeg (0 : Int32).toNatClampNeg (6 : Int32).toNatClampNeg) 34 6 0) 34 7 0))) := by
  refine G_iload_n (pc := 0) rfl dX1_isKey_0 ?_
  refine G_if_lt (pc := 1) (tgt := 16) (by decide) dX1_isKey_1 (fun _ => ?_) (fun z => absurd (by decide) z)
  refine G_iconst (pc := 16) (v := 0) (by decide) dX1_isKey_16 ?_
  exact G_zret (pc := 17) (Nat.le_of_ble_eq_true rfl) (Nat.le_of_ble_eq_true rfl) rfl (by decide) dX1_isKey_17 ⟨rfl, rfl⟩
set_option maxRecDepth 100000 in
set_option maxHeartbeats 4000000 in
theorem s236_X1_tell  (d : Nat)   : G (d + 1) mX1_tell 0 0 0 0 0 (gent 5 [.ref 19, .int 0]) [] SH0 RF0 (gup (gup (gcp (gup I0 54 0 0) 24 34 (0 : Int32).toNatClampNeg (0 : Int32).toNatClampNeg (6 : Int32).toNatClampNeg) 34 6 0) 34 7 0) (fun r h => r = some (.int 0) ∧ h = (SH0, RF0, (gup (gup (gcp (gup I0 54 0 0) 24 34 (0 : Int32).toNatClampNeg (0 : Int32).toNatClampNeg (6 : Int32).toNatClampNeg) 34 6 0) 34 7 0))) := by
  refine G_iload_n (pc := 0) rfl dX1_tell_0 ?_
  refine G_iconst (pc := 1) (v := 1) (by decide) dX1_tell_1 ?_
  refine G_isub (pc := 2) (z := (-1)) (by decide) dX1_tell_2 ?_
  refine G_istore_n (pc := 3) (L1 := [some (.ref 19), some (.int 0), some (.int (-1)), none, none]) rfl rfl (by decide) dX1_tell_3 ?_
  refine G_aload_n (pc := 4) rfl dX1_tell_4 ?_
  refine G_iload_n (pc := 5) rfl dX1_tell_5 ?_
  refine G_callV (pc := 6) (mc1 := 0) (ms1 := 0) (ci := 1) (mj := mX1_isKey) (vs := [_]) dX1_tell_6 rfl rfl cm_X1_isKey wf_68 wf_13 wf_14 rfl (Nat.le_of_ble_eq_true rfl) (Nat.le_of_ble_eq_true rfl) (Nat.le_of_ble_eq_true rfl) (Nat.le_of_ble_eq_true rfl) (s237_X1_isKey  d  ) ?_
  rintro _ _ ⟨rfl, rfl⟩
  dsimp only [Option.toList, List.cons_append, List.nil_append]
  refine G_if_eq (pc := 9) (tgt := 20) (by decide) dX1_tell_9 (fun _ => ?_) (fun z => absurd (by decide) z)
  refine G_iconst (pc := 20) (v := 0) (by decide) dX1_tell_20 ?_
  exact G_iret (pc := 21) (Nat.le_of_ble_eq_true rfl) (Nat.le_of_ble_eq_true rfl) rfl dX1_tell_21 ⟨rfl, rfl⟩
set_option maxRecDepth 100000 in
set_option maxHeartbeats 4000000 in
theorem s238_X1_melt  (d : Nat)   : G (d) mX1_melt 0 0 0 0 0 (gent 3 [.ref 19]) [] SH0 RF0 (gup (gup (gcp (gup I0 54 0 0) 24 34 (0 : Int32).toNatClampNeg (0 : Int32).toNatClampNeg (6 : Int32).toNatClampNeg) 34 6 0) 34 7 0) (fun r h => r = some (.int 0) ∧ h = (SH0, RF0, (gup (gup (gup (gcp (gup I0 54 0 0) 24 34 (0 : Int32).toNatClampNeg (0 : Int32).toNatClampNeg (6 : Int32).toNatClampNeg) 34 6 0) 34 7 0) 19 1 1))) := by
  refine G_iconst (pc := 0) (v := 0) (by decide) dX1_melt_0 ?_
  refine G_istore_n (pc := 1) (L1 := [some (.ref 19), some (.int 0), none]) rfl rfl (by decide) dX1_melt_1 ?_
  refine G_iconst (pc := 2) (v := 0) (by decide) dX1_melt_2 ?_
  refine G_istore_n (pc := 3) (L1 := [some (.ref 19), some (.int 0), some (.int 0)]) rfl rfl (by decide) dX1_melt_3 ?_
  refine G_iload_n (pc := 4) rfl dX1_melt_4 ?_
  refine G_aload_n (pc := 5) rfl dX1_melt_5 ?_
  refine G_getI (pc := 6) (v := 0) (ci := 1) (j := 8) rfl rfl lk_RX1_72 rfl rfl dX1_melt_6 ?_
  refine G_icmp_ge (pc := 9) (tgt := 60) (by decide) dX1_melt_9 (fun _ => ?_) (fun z => absurd (by decide) z)
  refine G_aload_n (pc := 60) rfl dX1_melt_60 ?_
  refine G_dup (pc := 61) rfl dX1_melt_61 ?_
  refine G_getI (pc := 62) (v := 0) (ci := 1) (j := 1) rfl rfl lk_RX1_60 rfl rfl dX1_melt_62 ?_
  refine G_iconst (pc := 65) (v := 1) (by decide) dX1_melt_65 ?_
  refine G_iadd (pc := 66) (z := 1) (by decide) dX1_melt_66 ?_
  refine G_putI (pc := 67) (ci := 1) (j := 1) rfl lk_RX1_60 rfl rfl rfl trivial dX1_melt_67 ?_
  refine G_iload_n (pc := 70) rfl dX1_melt_70 ?_
  exact G_iret (pc := 71) (Nat.le_of_ble_eq_true rfl) (Nat.le_of_ble_eq_true rfl) rfl dX1_melt_71 ⟨rfl, rfl⟩
set_option maxRecDepth 100000 in
set_option maxHeartbeats 4000000 in
theorem s240_X4_isLast  (d : Nat)   : G (d) mX4_isLast 0 0 0 0 0 (gent 3 [.ref 51, .int 1, .int 0]) [] SH0 RF0 (gup (gup (gup (gup (gcp (gup I0 54 0 0) 24 34 (0 : Int32).toNatClampNeg (0 : Int32).toNatClampNeg (6 : Int32).toNatClampNeg) 34 6 0) 34 7 0) 19 1 1) 54 1 0) (fun r h => r = some (.int 1) ∧ h = (SH0, RF0, (gup (gup (gup (gup (gcp (gup I0 54 0 0) 24 34 (0 : Int32).toNatClampNeg (0 : Int32).toNatClampNeg (6 : Int32).toNatClampNeg) 34 6 0) 34 7 0) 19 1 1) 54 1 0))) := by
  refine G_iload_n (pc := 0) rfl dX4_isLast_0 ?_
  refine G_if_le (pc := 1) (tgt := 19) (by decide) dX4_isLast_1 (fun _ => ?_) (fun z => absurd (by decide) z)
  refine G_iconst (pc := 19) (v := 1) (by decide) dX4_isLast_19 ?_
  refine G_goto (pc := 20) (tgt := 24) (by decide) dX4_isLast_20 ?_
  exact G_zret (pc := 24) (Nat.le_of_ble_eq_true rfl) (Nat.le_of_ble_eq_true rfl) rfl (by decide) dX4_isLast_24 ⟨rfl, rfl⟩
set_option maxRecDepth 100000 in
set_option maxHeartbeats 4000000 in
theorem s239_X4_duel  (d : Nat)   : G (d + 1) mX4_duel 0 0 0 0 0 (gent 8 [.ref 51, .int 1, .int 0]) [] SH0 RF0 (gup (gup (gup (gcp (gup I0 54 0 0) 24 34 (0 : Int32).toNatClampNeg (0 : Int32).toNatClampNeg (6 : Int32).toNatClampNeg) 34 6 0) 34 7 0) 19 1 1) (fun r h => r = some (.int 0) ∧ h = (SH0, RF0, (gup (gup (gup (gup (gcp (gup I0 54 0 0) 24 34 (0 : Int32).toNatClampNeg (0 : Int32).toNatClampNeg (6 : Int32).toNatClampNeg) 34 6 0) 34 7 0) 19 1 1) 54 1 0))) := by
  refine G_aload_n (pc := 0) rfl dX4_duel_0 ?_
  refine G_getR (pc := 1) (r := 54) (ci := 4) (j := 3) rfl lk_RX4_18 rfl rfl rfl dX4_duel_1 ?_
  refine G_iload_n (pc := 4) rfl dX4_duel_4 ?_
  refine G_iconst (pc := 5) (v := 0) (by decide) dX4_duel_5 ?_
  refine G_iast (pc := 6) (jj := 1) (by decide) rfl (by unfold vp_in; decide) dX4_duel_6 ?_
  refine G_aload_n (pc := 7) rfl dX4_duel_7 ?_
  refine G_iload_n (pc := 8) rfl dX4_duel_8 ?_
  refine G_iload_n (pc := 9) rfl dX4_duel_9 ?_
  refine G_callV (pc := 10) (mc1 := 0) (ms1 := 0) (ci := 4) (mj := mX4_isLast) (vs := [_, _]) dX4_duel_10 rfl rfl cm_X4_isLast wf_126 wf_129 wf_130 rfl (Nat.le_of_ble_eq_true rfl) (Nat.le_of_ble_eq_true rfl) (Nat.le_of_ble_eq_true rfl) (Nat.le_of_ble_eq_true rfl) (s240_X4_isLast  d  ) ?_
  rintro _ _ ⟨rfl, rfl⟩
  dsimp only [Option.toList, List.cons_append, List.nil_append]
  refine G_if_eq (pc := 13) (tgt := 18) (by decide) dX4_duel_13 (fun z => absurd z (by decide)) (fun _ => ?_)
  refine G_iconst (pc := 16) (v := 0) (by decide) dX4_duel_16 ?_
  exact G_iret (pc := 17) (Nat.le_of_ble_eq_true rfl) (Nat.le_of_ble_eq_true rfl) rfl dX4_duel_17 ⟨rfl, rfl⟩
set_option maxRecDepth 100000 in
set_option maxHeartbeats 4000000 in
theorem s241_X1_restore  (d : Nat)   : G (d + 1) mX1_restore 0 0 0 0 0 (gent 3 [.ref 19, .int 0]) [] SH0 RF0 (gup (gup (gup (gup (gcp (gup I0 54 0 0) 24 34 (0 : Int32).toNatClampNeg (0 : Int32).toNatClampNeg (6 : Int32).toNatClampNeg) 34 6 0) 34 7 0) 19 1 1) 54 1 0) (fun r h => r = none ∧ h = (SH0, RF0, (gup (gup (gcp (gup (gup (gup (gup (gcp (gup I0 54 0 0) 24 34 (0 : Int32).toNatClampNeg (0 : Int32).toNatClampNeg (6 : Int32).toNatClampNeg) 34 6 0) 34 7 0) 19 1 1) 54 1 0) 34 24 (0 : Int32).toNatClampNeg (0 : Int32).toNatClampNeg (6 : Int32).toNatClampNeg) 19 9 0) 19 1 0))) := by
  refine G_iload_n (pc := 0) rfl dX1_restore_0 ?_
  refine G_bipush (pc := 1) (v := 8) (by decide) dX1_restore_1 ?_
  refine G_imul (pc := 3) (z := 0) (by decide) dX1_restore_3 ?_
  refine G_istore_n (pc := 4) (L1 := [some (.ref 19), some (.int 0), some (.int 0)]) rfl rfl (by decide) dX1_restore_4 ?_
  refine G_aload_n (pc := 5) rfl dX1_restore_5 ?_
  refine G_getR (pc := 6) (r := 34) (ci := 1) (j := 18) rfl lk_RX1_53 rfl rfl rfl dX1_restore_6 ?_
  refine G_iload_n (pc := 9) rfl dX1_restore_9 ?_
  refine G_aload_n (pc := 10) rfl dX1_restore_10 ?_
  refine G_getR (pc := 11) (r := 24) (ci := 1) (j := 11) rfl lk_RX1_31 rfl rfl rfl dX1_restore_11 ?_
  refine G_iconst (pc := 14) (v := 0) (by decide) dX1_restore_14 ?_
  refine G_bipush (pc := 15) (v := 6) (by decide) dX1_restore_15 ?_
  refine G_copy (pc := 17) (x := 34) (y := 24) rfl rfl (by decide) (by decide) (by decide) (by decide) (by decide) wf_50 wf_51 wf_52 wf_53 (Nat.le_of_ble_eq_true rfl) dX1_restore_17 ?_
  refine G_aload_n (pc := 20) rfl dX1_restore_20 ?_
  refine G_aload_n (pc := 21) rfl dX1_restore_21 ?_
  refine G_getR (pc := 22) (r := 34) (ci := 1) (j := 18) rfl lk_RX1_53 rfl rfl rfl dX1_restore_22 ?_
  refine G_iload_n (pc := 25) rfl dX1_restore_25 ?_
  refine G_bipush (pc := 26) (v := 6) (by decide) dX1_restore_26 ?_
  refine G_iadd (pc := 28) (z := 6) (by decide) dX1_restore_28 ?_
  refine G_iald (pc := 29) (jj := 6) (v := 0) (by decide) rfl rfl (by unfold vp_in; decide) dX1_restore_29 ?_
  refine G_putI (pc := 30) (ci := 1) (j := 9) rfl lk_RX1_75 rfl rfl rfl trivial dX1_restore_30 ?_
  refine G_aload_n (pc := 33) rfl dX1_restore_33 ?_
  refine G_aload_n (pc := 34) rfl dX1_restore_34 ?_
  refine G_getR (pc := 35) (r := 34) (ci := 1) (j := 18) rfl lk_RX1_53 rfl rfl rfl dX1_restore_35 ?_
  refine G_iload_n (pc := 38) rfl dX1_restore_38 ?_
  refine G_bipush (pc := 39) (v := 6) (by decide) dX1_restore_39 ?_
  refine G_iadd (pc := 41) (z := 6) (by decide) dX1_restore_41 ?_
  refine G_iconst (pc := 42) (v := 1) (by decide) dX1_restore_42 ?_
  refine G_iadd (pc := 43) (z := 7) (by decide) dX1_restore_43 ?_
  refine G_iald (pc := 44) (jj := 7) (v := 0) (by decide) rfl rfl (by unfold vp_in; decide) dX1_restore_44 ?_
  refine G_putI (pc := 45) (ci := 1) (j := 1) rfl lk_RX1_60 rfl rfl rfl trivial dX1_restore_45 ?_
  exact G_vret (pc := 48) (Nat.le_of_ble_eq_true rfl) (Nat.le_of_ble_eq_true rfl) rfl dX1_restore_48 ⟨rfl, rfl⟩
set_option maxRecDepth 100000 in
set_option maxHeartbeats 4000000 in
theorem s233_X4_duel  (d : Nat)   : G (d + 2) mX4_duel 0 0 0 0 0 (gent 8 [.ref 51, .int 0, .int 1]) [] SH0 RF0 I0 (fun r h => r = some (.int 0) ∧ h = (SH0, RF0, (gup (gup (gup (gcp (gup (gup (gup (gup (gcp (gup I0 54 0 0) 24 34 (0 : Int32).toNatClampNeg (0 : Int32).toNatClampNeg (6 : Int32).toNatClampNeg) 34 6 0) 34 7 0) 19 1 1) 54 1 0) 34 24 (0 : Int32).toNatClampNeg (0 : Int32).toNatClampNeg (6 : Int32).toNatClampNeg) 19 9 0) 19 1 0) 54 0 0))) := by
  refine G_aload_n (pc := 0) rfl dX4_duel_0 ?_
  refine G_getR (pc := 1) (r := 54) (ci := 4) (j := 3) rfl lk_RX4_18 rfl rfl rfl dX4_duel_1 ?_
  refine G_iload_n (pc := 4) rfl dX4_duel_4 ?_
  refine G_iconst (pc := 5) (v := 0) (by decide) dX4_duel_5 ?_
  refine G_iast (pc := 6) (jj := 0) (by decide) rfl (by unfold vp_in; decide) dX4_duel_6 ?_
  refine G_aload_n (pc := 7) rfl dX4_duel_7 ?_
  refine G_iload_n (pc := 8) rfl dX4_duel_8 ?_
  refine G_iload_n (pc := 9) rfl dX4_duel_9 ?_
  refine G_callV (pc := 10) (mc1 := 0) (ms1 := 0) (ci := 4) (mj := mX4_isLast) (vs := [_, _]) dX4_duel_10 rfl rfl cm_X4_isLast wf_126 wf_129 wf_130 rfl (Nat.le_of_ble_eq_true rfl) (Nat.le_of_ble_eq_true rfl) (Nat.le_of_ble_eq_true rfl) (Nat.le_of_ble_eq_true rfl) (s234_X4_isLast  d  ) ?_
  rintro _ _ ⟨rfl, rfl⟩
  dsimp only [Option.toList, List.cons_append, List.nil_append]
  refine G_if_eq (pc := 13) (tgt := 18) (by decide) dX4_duel_13 (fun _ => ?_) (fun z => absurd (by decide) z)
  refine G_iload_n (pc := 18) rfl dX4_duel_18 ?_
  refine G_iconst (pc := 19) (v := 2) (by decide) dX4_duel_19 ?_
  refine G_irem (pc := 20) (z := 0) (by decide) (by decide) dX4_duel_20 ?_
  refine G_if_ne (pc := 21) (tgt := 28) (by decide) dX4_duel_21 (fun z => absurd (by decide) z) (fun _ => ?_)
  refine G_iconst (pc := 24) (v := 1) (by decide) dX4_duel_24 ?_
  refine G_goto (pc := 25) (tgt := 29) (by decide) dX4_duel_25 ?_
  refine G_istore_n (pc := 29) (L1 := [some (.ref 51), some (.int 0), some (.int 1), some (.int 1), none, none, none, none]) rfl rfl (by decide) dX4_duel_29 ?_
  refine G_iconst (pc := 30) (v := 0) (by decide) dX4_duel_30 ?_
  refine G_istore (pc := 31) (L1 := [some (.ref 51), some (.int 0), some (.int 1), some (.int 1), some (.int 0), none, none, none]) rfl rfl (by decide) dX4_duel_31 ?_
  refine G_aload_n (pc := 33) rfl dX4_duel_33 ?_
  refine G_getR (pc := 34) (r := 19) (ci := 4) (j := 0) rfl lk_RX4_21 rfl rfl rfl dX4_duel_34 ?_
  refine G_iload_n (pc := 37) rfl dX4_duel_37 ?_
  refine G_callV (pc := 38) (mc1 := 0) (ms1 := 0) (ci := 1) (mj := mX1_save) (vs := [_]) dX4_duel_38 rfl rfl cm_X1_save wf_134 wf_105 wf_106 rfl (Nat.le_of_ble_eq_true rfl) (Nat.le_of_ble_eq_true rfl) (Nat.le_of_ble_eq_true rfl) (Nat.le_of_ble_eq_true rfl) (s235_X1_save  d  ) ?_
  rintro _ _ ⟨rfl, rfl⟩
  dsimp only [Option.toList, List.cons_append, List.nil_append]
  refine G_iconst (pc := 41) (v := 0) (by decide) dX4_duel_41 ?_
  refine G_istore (pc := 42) (L1 := [some (.ref 51), some (.int 0), some (.int 1), some (.int 1), some (.int 0), some (.int 0), none, none]) rfl rfl (by decide) dX4_duel_42 ?_
  refine G_iload (pc := 44) rfl dX4_duel_44 ?_
  refine G_aload_n (pc := 46) rfl dX4_duel_46 ?_
  refine G_getR (pc := 47) (r := 19) (ci := 4) (j := 0) rfl lk_RX4_21 rfl rfl rfl dX4_duel_47 ?_
  refine G_getI (pc := 50) (v := 0) (ci := 1) (j := 8) rfl rfl lk_RX4_39 rfl rfl dX4_duel_50 ?_
  refine G_icmp_gt (pc := 53) (tgt := 156) (by decide) dX4_duel_53 (fun z => absurd z (by decide)) (fun _ => ?_)
  refine G_aload_n (pc := 56) rfl dX4_duel_56 ?_
  refine G_getR (pc := 57) (r := 19) (ci := 4) (j := 0) rfl lk_RX4_21 rfl rfl rfl dX4_duel_57 ?_
  refine G_iload (pc := 60) rfl dX4_duel_60 ?_
  refine G_callV (pc := 62) (mc1 := 0) (ms1 := 0) (ci := 1) (mj := mX1_tell) (vs := [_]) dX4_duel_62 rfl rfl cm_X1_tell wf_135 wf_71 wf_72 rfl (Nat.le_of_ble_eq_true rfl) (Nat.le_of_ble_eq_true rfl) (Nat.le_of_ble_eq_true rfl) (Nat.le_of_ble_eq_true rfl) (s236_X1_tell  d  ) ?_
  rintro _ _ ⟨rfl, rfl⟩
  dsimp only [Option.toList, List.cons_append, List.nil_append]
  refine G_istore (pc := 65) (L1 := [some (.ref 51), some (.int 0), some (.int 1), some (.int 1), some (.int 0), some (.int 0), some (.int 0), none]) rfl rfl (by decide) dX4_duel_65 ?_
  refine G_iload (pc := 67) rfl dX4_duel_67 ?_
  refine G_if_eq (pc := 69) (tgt := 77) (by decide) dX4_duel_69 (fun _ => ?_) (fun z => absurd (by decide) z)
  refine G_iload (pc := 77) rfl dX4_duel_77 ?_
  refine G_aload_n (pc := 79) rfl dX4_duel_79 ?_
  refine G_getR (pc := 80) (r := 19) (ci := 4) (j := 0) rfl lk_RX4_21 rfl rfl rfl dX4_duel_80 ?_
  refine G_callV (pc := 83) (mc1 := 0) (ms1 := 0) (ci := 1) (mj := mX1_melt) (vs := []) dX4_duel_83 rfl rfl cm_X1_melt wf_136 wf_75 wf_76 rfl (Nat.le_of_ble_eq_true rfl) (Nat.le_of_ble_eq_true rfl) (Nat.le_of_ble_eq_true rfl) (Nat.le_of_ble_eq_true rfl) (s238_X1_melt  (d + 1)  ) ?_
  rintro _ _ ⟨rfl, rfl⟩
  dsimp only [Option.toList, List.cons_append, List.nil_append]
  refine G_iadd (pc := 86) (z := 0) (by decide) dX4_duel_86 ?_
  refine G_istore (pc := 87) (L1 := [some (.ref 51), some (.int 0), some (.int 1), some (.int 1), some (.int 0), some (.int 0), some (.int 0), some (.int 0)]) rfl rfl (by decide) dX4_duel_87 ?_
  refine G_iload (pc := 89) rfl dX4_duel_89 ?_
  refine G_aload_n (pc := 91) rfl dX4_duel_91 ?_
  refine G_iload_n (pc := 92) rfl dX4_duel_92 ?_
  refine G_iconst (pc := 93) (v := 1) (by decide) dX4_duel_93 ?_
  refine G_iadd (pc := 94) (z := 1) (by decide) dX4_duel_94 ?_
  refine G_iload_n (pc := 95) rfl dX4_duel_95 ?_
  refine G_iconst (pc := 96) (v := 1) (by decide) dX4_duel_96 ?_
  refine G_isub (pc := 97) (z := 0) (by decide) dX4_duel_97 ?_
  refine G_callV (pc := 98) (mc1 := 0) (ms1 := 0) (ci := 4) (mj := mX4_duel) (vs := [_, _]) dX4_duel_98 rfl rfl cm_X4_duel wf_168 wf_170 wf_171 rfl (Nat.le_of_ble_eq_true rfl) (Nat.le_of_ble_eq_true rfl) (Nat.le_of_ble_eq_true rfl) (Nat.le_of_ble_eq_true rfl) (s239_X4_duel  d  ) ?_
  rintro _ _ ⟨rfl, rfl⟩
  dsimp only [Option.toList, List.cons_append, List.nil_append]
  refine G_iadd (pc := 101) (z := 0) (by decide) dX4_duel_101 ?_
  refine G_istore (pc := 102) (L1 := [some (.ref 51), some (.int 0), some (.int 1), some (.int 1), some (.int 0), some (.int 0), some (.int 0), some (.int 0)]) rfl rfl (by decide) dX4_duel_102 ?_
  refine G_aload_n (pc := 104) rfl dX4_duel_104 ?_
  refine G_getR (pc := 105) (r := 19) (ci := 4) (j := 0) rfl lk_RX4_21 rfl rfl rfl dX4_duel_105 ?_
  refine G_iload_n (pc := 108) rfl dX4_duel_108 ?_
  refine G_callV (pc := 109) (mc1 := 0) (ms1 := 0) (ci := 1) (mj := mX1_restore) (vs := [_]) dX4_duel_109 rfl rfl cm_X1_restore wf_138 wf_109 wf_110 rfl (Nat.le_of_ble_eq_true rfl) (Nat.le_of_ble_eq_true rfl) (Nat.le_of_ble_eq_true rfl) (Nat.le_of_ble_eq_true rfl) (s241_X1_restore  d  ) ?_
  rintro _ _ ⟨rfl, rfl⟩
  dsimp only [Option.toList, List.cons_append, List.nil_append]
  refine G_iload (pc := 112) rfl dX4_duel_112 ?_
  refine G_if_eq (pc := 114) (tgt := 138) (by decide) dX4_duel_114 (fun _ => ?_) (fun z => absurd (by decide) z)
  refine G_iload (pc := 138) rfl dX4_duel_138 ?_
  refine G_istore (pc := 140) (L1 := [some (.ref 51), some (.int 0), some (.int 1), some (.int 1), some (.int 0), some (.int 0), some (.int 0), some (.int 0)]) rfl rfl (by decide) dX4_duel_140 ?_
  refine G_aload_n (pc := 142) rfl dX4_duel_142 ?_
  refine G_getR (pc := 143) (r := 54) (ci := 4) (j := 3) rfl lk_RX4_18 rfl rfl rfl dX4_duel_143 ?_
  refine G_iload_n (pc := 146) rfl dX4_duel_146 ?_
  refine G_iload (pc := 147) rfl dX4_duel_147 ?_
  refine G_iast (pc := 149) (jj := 0) (by decide) rfl (by unfold vp_in; decide) dX4_duel_149 ?_
  refine G_iinc (pc := 150) (v := 1) (w := 1) (L1 := [some (.ref 51), some (.int 0), some (.int 1), some (.int 1), some (.int 0), some (.int 1), some (.int 0), some (.int 0)]) (by decide) rfl rfl (by decide) rfl (by decide) dX4_duel_150 ?_
  refine G_goto (pc := 153) (tgt := 44) (by decide) dX4_duel_153 ?_
  refine G_iload (pc := 44) rfl dX4_duel_44 ?_
  refine G_aload_n (pc := 46) rfl dX4_duel_46 ?_
  refine G_getR (pc := 47) (r := 19) (ci := 4) (j := 0) rfl lk_RX4_21 rfl rfl rfl dX4_duel_47 ?_
  refine G_getI (pc := 50) (v := 0) (ci := 1) (j := 8) rfl rfl lk_RX4_39 rfl rfl dX4_duel_50 ?_
  refine G_icmp_gt (pc := 53) (tgt := 156) (by decide) dX4_duel_53 (fun _ => ?_) (fun z => absurd (by decide) z)
  refine G_iload (pc := 156) rfl dX4_duel_156 ?_
  exact G_iret (pc := 158) (Nat.le_of_ble_eq_true rfl) (Nat.le_of_ble_eq_true rfl) rfl dX4_duel_158 ⟨rfl, rfl⟩
set_option maxRecDepth 100000 in
set_option maxHeartbeats 4000000 in
theorem s243_X4_isLast  (d : Nat)   : G (d + 1) mX4_isLast 0 0 0 0 0 (gent 3 [.ref 51, .int 0, .int 2]) [] SH0 RF0 (gup I0 54 0 0) (fun r h => r = some (.int 0) ∧ h = (SH0, RF0, (gup I0 54 0 0))) := by
  refine G_iload_n (pc := 0) rfl dX4_isLast_0 ?_
  refine G_if_le (pc := 1) (tgt := 19) (by decide) dX4_isLast_1 (fun z => absurd z (by decide)) (fun _ => ?_)
  refine G_iload_n (pc := 4) rfl dX4_isLast_4 ?_
  refine G_iconst (pc := 5) (v := 4) (by decide) dX4_isLast_5 ?_
  refine G_icmp_ge (pc := 6) (tgt := 19) (by decide) dX4_isLast_6 (fun z => absurd z (by decide)) (fun _ => ?_)
  refine G_aload_n (pc := 9) rfl dX4_isLast_9 ?_
  refine G_getR (pc := 10) (r := 19) (ci := 4) (j := 0) rfl lk_RX4_21 rfl rfl rfl dX4_isLast_10 ?_
  refine G_callV (pc := 13) (mc1 := 0) (ms1 := 0) (ci := 1) (mj := mX1_isOver) (vs := []) dX4_isLast_13 rfl rfl cm_X1_isOver wf_125 wf_17 wf_18 rfl (Nat.le_of_ble_eq_true rfl) (Nat.le_of_ble_eq_true rfl) (Nat.le_of_ble_eq_true rfl) (Nat.le_of_ble_eq_true rfl) (s232_X1_isOver  d  ) ?_
  rintro _ _ ⟨rfl, rfl⟩
  dsimp only [Option.toList, List.cons_append, List.nil_append]
  refine G_if_eq (pc := 16) (tgt := 23) (by decide) dX4_isLast_16 (fun _ => ?_) (fun z => absurd (by decide) z)
  refine G_iconst (pc := 23) (v := 0) (by decide) dX4_isLast_23 ?_
  exact G_zret (pc := 24) (Nat.le_of_ble_eq_true rfl) (Nat.le_of_ble_eq_true rfl) rfl (by decide) dX4_isLast_24 ⟨rfl, rfl⟩
set_option maxRecDepth 100000 in
set_option maxHeartbeats 4000000 in
theorem s246_X1_isOver  (d : Nat)   : G (d) mX1_isOver 0 0 0 0 0 (gent 1 [.ref 19]) [] SH0 RF0 (gup (gup (gup (gup (gcp (gup I0 54 0 0) 24 34 (0 : Int32).toNatClampNeg (0 : Int32).toNatClampNeg (6 : Int32).toNatClampNeg) 34 6 0) 34 7 0) 19 1 1) 54 1 0) (fun r h => r = some (.int 0) ∧ h = (SH0, RF0, (gup (gup (gup (gup (gcp (gup I0 54 0 0) 24 34 (0 : Int32).toNatClampNeg (0 : Int32).toNatClampNeg (6 : Int32).toNatClampNeg) 34 6 0) 34 7 0) 19 1 1) 54 1 0))) := by
  refine G_aload_n (pc := 0) rfl dX1_isOver_0 ?_
  refine G_getI (pc := 1) (v := 1) (ci := 1) (j := 1) rfl rfl lk_RX1_60 rfl rfl dX1_isOver_1 ?_
  refine G_aload_n (pc := 4) rfl dX1_isOver_4 ?_
  refine G_getI (pc := 5) (v := 12) (ci := 1) (j := 2) rfl rfl lk_RX1_9 rfl rfl dX1_isOver_5 ?_
  refine G_icmp_lt (pc := 8) (tgt := 15) (by decide) dX1_isOver_8 (fun _ => ?_) (fun z => absurd (by decide) z)
  refine G_iconst (pc := 15) (v := 0) (by decide) dX1_isOver_15 ?_
  exact G_zret (pc := 16) (Nat.le_of_ble_eq_true rfl) (Nat.le_of_ble_eq_true rfl) rfl (by decide) dX1_isOver_16 ⟨rfl, rfl⟩
set_option maxRecDepth 100000 in
set_option maxHeartbeats 4000000 in
theorem s245_X4_isLast  (d : Nat)   : G (d + 1) mX4_isLast 0 0 0 0 0 (gent 3 [.ref 51, .int 1, .int 1]) [] SH0 RF0 (gup (gup (gup (gup (gcp (gup I0 54 0 0) 24 34 (0 : Int32).toNatClampNeg (0 : Int32).toNatClampNeg (6 : Int32).toNatClampNeg) 34 6 0) 34 7 0) 19 1 1) 54 1 0) (fun r h => r = some (.int 0) ∧ h = (SH0, RF0, (gup (gup (gup (gup (gcp (gup I0 54 0 0) 24 34 (0 : Int32).toNatClampNeg (0 : Int32).toNatClampNeg (6 : Int32).toNatClampNeg) 34 6 0) 34 7 0) 19 1 1) 54 1 0))) := by
  refine G_iload_n (pc := 0) rfl dX4_isLast_0 ?_
  refine G_if_le (pc := 1) (tgt := 19) (by decide) dX4_isLast_1 (fun z => absurd z (by decide)) (fun _ => ?_)
  refine G_iload_n (pc := 4) rfl dX4_isLast_4 ?_
  refine G_iconst (pc := 5) (v := 4) (by decide) dX4_isLast_5 ?_
  refine G_icmp_ge (pc := 6) (tgt := 19) (by decide) dX4_isLast_6 (fun z => absurd z (by decide)) (fun _ => ?_)
  refine G_aload_n (pc := 9) rfl dX4_isLast_9 ?_
  refine G_getR (pc := 10) (r := 19) (ci := 4) (j := 0) rfl lk_RX4_21 rfl rfl rfl dX4_isLast_10 ?_
  refine G_callV (pc := 13) (mc1 := 0) (ms1 := 0) (ci := 1) (mj := mX1_isOver) (vs := []) dX4_isLast_13 rfl rfl cm_X1_isOver wf_125 wf_17 wf_18 rfl (Nat.le_of_ble_eq_true rfl) (Nat.le_of_ble_eq_true rfl) (Nat.le_of_ble_eq_true rfl) (Nat.le_of_ble_eq_true rfl) (s246_X1_isOver  d  ) ?_
  rintro _ _ ⟨rfl, rfl⟩
  dsimp only [Option.toList, List.cons_append, List.nil_append]
  refine G_if_eq (pc := 16) (tgt := 23) (by decide) dX4_isLast_16 (fun _ => ?_) (fun z => absurd (by decide) z)
  refine G_iconst (pc := 23) (v := 0) (by decide) dX4_isLast_23 ?_
  exact G_zret (pc := 24) (Nat.le_of_ble_eq_true rfl) (Nat.le_of_ble_eq_true rfl) rfl (by decide) dX4_isLast_24 ⟨rfl, rfl⟩
set_option maxRecDepth 100000 in
set_option maxHeartbeats 4000000 in
theorem s247_X1_save  (d : Nat)   : G (d + 1) mX1_save 0 0 0 0 0 (gent 3 [.ref 19, .int 1]) [] SH0 RF0 (gup (gup (gup (gup (gcp (gup I0 54 0 0) 24 34 (0 : Int32).toNatClampNeg (0 : Int32).toNatClampNeg (6 : Int32).toNatClampNeg) 34 6 0) 34 7 0) 19 1 1) 54 1 0) (fun r h => r = none ∧ h = (SH0, RF0, (gup (gup (gcp (gup (gup (gup (gup (gcp (gup I0 54 0 0) 24 34 (0 : Int32).toNatClampNeg (0 : Int32).toNatClampNeg (6 : Int32).toNatClampNeg) 34 6 0) 34 7 0) 19 1 1) 54 1 0) 24 34 (0 : Int32).toNatClampNeg (8 : Int32).toNatClampNeg (6 : Int32).toNatClampNeg) 34 14 0) 34 15 1))) := by
  refine G_iload_n (pc := 0) rfl dX1_save_0 ?_
  refine G_bipush (pc := 1) (v := 8) (by decide) dX1_save_1 ?_
  refine G_imul (pc := 3) (z := 8) (by decide) dX1_save_3 ?_
  refine G_istore_n (pc := 4) (L1 := [some (.ref 19), some (.int 1), some (.int 8)]) rfl rfl (by decide) dX1_save_4 ?_
  refine G_aload_n (pc := 5) rfl dX1_save_5 ?_
  refine G_getR (pc := 6) (r := 24) (ci := 1) (j := 11) rfl lk_RX1_31 rfl rfl rfl dX1_save_6 ?_
  refine G_iconst (pc := 9) (v := 0) (by decide) dX1_save_9 ?_
  refine G_aload_n (pc := 10) rfl dX1_save_10 ?_
  refine G_getR (pc := 11) (r := 34) (ci := 1) (j := 18) rfl lk_RX1_53 rfl rfl rfl dX1_save_11 ?_
  refine G_iload_n (pc := 14) rfl dX1_save_14 ?_
  refine G_bipush (pc := 15) (v := 6) (by decide) dX1_save_15 ?_
  refine G_copy (pc := 17) (x := 24) (y := 34) rfl rfl (by decide) (by decide) (by decide) (by decide) (by decide) wf_50 wf_51 wf_52 wf_53 (Nat.le_of_ble_eq_true rfl) dX1_save_17 ?_
  refine G_aload_n (pc := 20) rfl dX1_save_20 ?_
  refine G_getR (pc := 21) (r := 34) (ci := 1) (j := 18) rfl lk_RX1_53 rfl rfl rfl dX1_save_21 ?_
  refine G_iload_n (pc := 24) rfl dX1_save_24 ?_
  refine G_bipush (pc := 25) (v := 6) (by decide) dX1_save_25 ?_
  refine G_iadd (pc := 27) (z := 14) (by decide) dX1_save_27 ?_
  refine G_aload_n (pc := 28) rfl dX1_save_28 ?_
  refine G_getI (pc := 29) (v := 0) (ci := 1) (j := 9) rfl rfl lk_RX1_75 rfl rfl dX1_save_29 ?_
  refine G_iast (pc := 32) (jj := 14) (by decide) rfl (by unfold vp_in; decide) dX1_save_32 ?_
  refine G_aload_n (pc := 33) rfl dX1_save_33 ?_
  refine G_getR (pc := 34) (r := 34) (ci := 1) (j := 18) rfl lk_RX1_53 rfl rfl rfl dX1_save_34 ?_
  refine G_iload_n (pc := 37) rfl dX1_save_37 ?_
  refine G_bipush (pc := 38) (v := 6) (by decide) dX1_save_38 ?_
  refine G_iadd (pc := 40) (z := 14) (by decide) dX1_save_40 ?_
  refine G_iconst (pc := 41) (v := 1) (by decide) dX1_save_41 ?_
  refine G_iadd (pc := 42) (z := 15) (by decide) dX1_save_42 ?_
  refine G_aload_n (pc := 43) rfl dX1_save_43 ?_
  refine G_getI (pc := 44) (v := 1) (ci := 1) (j := 1) rfl rfl lk_RX1_60 rfl rfl dX1_save_44 ?_
  refine G_iast (pc := 47) (jj := 15) (by decide) rfl (by unfold vp_in; decide) dX1_save_47 ?_
  exact G_vret (pc := 48) (Nat.le_of_ble_eq_true rfl) (Nat.le_of_ble_eq_true rfl) rfl dX1_save_48 ⟨rfl, rfl⟩
set_option maxRecDepth 100000 in
set_option maxHeartbeats 4000000 in
theorem s249_X1_isKey  (d : Nat)   : G (d) mX1_isKey 0 0 0 0 0 (gent 2 [.ref 19, .int (-1)]) [] SH0 RF0 (gup (gup (gcp (gup (gup (gup (gup (gcp (gup I0 54 0 0) 24 34 (0 : Int32).toNatClampNeg (0 : Int32).toNatClampNeg (6 : Int32).toNatClampNeg) 34 6 0) 34 7 0) 19 1 1) 54 1 0) 24 34 (0 : Int32).toNatClampNeg (8 : Int32).toNatClampNeg (6 : Int32).toNatClampNeg) 34 14 0) 34 15 1) (fun r h => r = some (.int 0) ∧ h = (SH0, RF0, (gup (gup (gcp (gup (gup (gup (gup (gcp (gup I0 54 0 0) 24 34 (0 : Int32).toNatClampNeg (0 : Int32).toNatClampNeg (6 : Int32).toNatClampNeg) 34 6 0) 34 7 0) 19 1 1) 54 1 0) 24 34 (0 : Int32).toNatClampNeg (8 : Int32).toNatClampNeg (6 : Int32).toNatClampNeg) 34 14 0) 34 15 1))) := by
  refine G_iload_n (pc := 0) rfl dX1_isKey_0 ?_
  refine G_if_lt (pc := 1) (tgt := 16) (by decide) dX1_isKey_1 (fun _ => ?_) (fun z => absurd (by decide) z)
  refine G_iconst (pc := 16) (v := 0) (by decide) dX1_isKey_16 ?_
  exact G_zret (pc := 17) (Nat.le_of_ble_eq_true rfl) (Nat.le_of_ble_eq_true rfl) rfl (by decide) dX1_isKey_17 ⟨rfl, rfl⟩
set_option maxRecDepth 100000 in
set_option maxHeartbeats 4000000 in
theorem s248_X1_tell  (d : Nat)   : G (d + 1) mX1_tell 0 0 0 0 0 (gent 5 [.ref 19, .int 0]) [] SH0 RF0 (gup (gup (gcp (gup (gup (gup (gup (gcp (gup I0 54 0 0) 24 34 (0 : Int32).toNatClampNeg (0 : Int32).toNatClampNeg (6 : Int32).toNatClampNeg) 34 6 0) 34 7 0) 19 1 1) 54 1 0) 24 34 (0 : Int32).toNatClampNeg (8 : Int32).toNatClampNeg (6 : Int32).toNatClampNeg) 34 14 0) 34 15 1) (fun r h => r = some (.int 0) ∧ h = (SH0, RF0, (gup (gup (gcp (gup (gup (gup (gup (gcp (gup I0 54 0 0) 24 34 (0 : Int32).toNatClampNeg (0 : Int32).toNatClampNeg (6 : Int32).toNatClampNeg) 34 6 0) 34 7 0) 19 1 1) 54 1 0) 24 34 (0 : Int32).toNatClampNeg (8 : Int32).toNatClampNeg (6 : Int32).toNatClampNeg) 34 14 0) 34 15 1))) := by
  refine G_iload_n (pc := 0) rfl dX1_tell_0 ?_
  refine G_iconst (pc := 1) (v := 1) (by decide) dX1_tell_1 ?_
  refine G_isub (pc := 2) (z := (-1)) (by decide) dX1_tell_2 ?_
  refine G_istore_n (pc := 3) (L1 := [some (.ref 19), some (.int 0), some (.int (-1)), none, none]) rfl rfl (by decide) dX1_tell_3 ?_
  refine G_aload_n (pc := 4) rfl dX1_tell_4 ?_
  refine G_iload_n (pc := 5) rfl dX1_tell_5 ?_
  refine G_callV (pc := 6) (mc1 := 0) (ms1 := 0) (ci := 1) (mj := mX1_isKey) (vs := [_]) dX1_tell_6 rfl rfl cm_X1_isKey wf_68 wf_13 wf_14 rfl (Nat.le_of_ble_eq_true rfl) (Nat.le_of_ble_eq_true rfl) (Nat.le_of_ble_eq_true rfl) (Nat.le_of_ble_eq_true rfl) (s249_X1_isKey  d  ) ?_
  rintro _ _ ⟨rfl, rfl⟩
  dsimp only [Option.toList, List.cons_append, List.nil_append]
  refine G_if_eq (pc := 9) (tgt := 20) (by decide) dX1_tell_9 (fun _ => ?_) (fun z => absurd (by decide) z)
  refine G_iconst (pc := 20) (v := 0) (by decide) dX1_tell_20 ?_
  exact G_iret (pc := 21) (Nat.le_of_ble_eq_true rfl) (Nat.le_of_ble_eq_true rfl) rfl dX1_tell_21 ⟨rfl, rfl⟩
set_option maxRecDepth 100000 in
set_option maxHeartbeats 4000000 in
theorem s250_X1_melt  (d : Nat)   : G (d) mX1_melt 0 0 0 0 0 (gent 3 [.ref 19]) [] SH0 RF0 (gup (gup (gcp (gup (gup (gup (gup (gcp (gup I0 54 0 0) 24 34 (0 : Int32).toNatClampNeg (0 : Int32).toNatClampNeg (6 : Int32).toNatClampNeg) 34 6 0) 34 7 0) 19 1 1) 54 1 0) 24 34 (0 : Int32).toNatClampNeg (8 : Int32).toNatClampNeg (6 : Int32).toNatClampNeg) 34 14 0) 34 15 1) (fun r h => r = some (.int 0) ∧ h = (SH0, RF0, (gup (gup (gup (gcp (gup (gup (gup (gup (gcp (gup I0 54 0 0) 24 34 (0 : Int32).toNatClampNeg (0 : Int32).toNatClampNeg (6 : Int32).toNatClampNeg) 34 6 0) 34 7 0) 19 1 1) 54 1 0) 24 34 (0 : Int32).toNatClampNeg (8 : Int32).toNatClampNeg (6 : Int32).toNatClampNeg) 34 14 0) 34 15 1) 19 1 2))) := by
  refine G_iconst (pc := 0) (v := 0) (by decide) dX1_melt_0 ?_
  refine G_istore_n (pc := 1) (L1 := [some (.ref 19), some (.int 0), none]) rfl rfl (by decide) dX1_melt_1 ?_
  refine G_iconst (pc := 2) (v := 0) (by decide) dX1_melt_2 ?_
  refine G_istore_n (pc := 3) (L1 := [some (.ref 19), some (.int 0), some (.int 0)]) rfl rfl (by decide) dX1_melt_3 ?_
  refine G_iload_n (pc := 4) rfl dX1_melt_4 ?_
  refine G_aload_n (pc := 5) rfl dX1_melt_5 ?_
  refine G_getI (pc := 6) (v := 0) (ci := 1) (j := 8) rfl rfl lk_RX1_72 rfl rfl dX1_melt_6 ?_
  refine G_icmp_ge (pc := 9) (tgt := 60) (by decide) dX1_melt_9 (fun _ => ?_) (fun z => absurd (by decide) z)
  refine G_aload_n (pc := 60) rfl dX1_melt_60 ?_
  refine G_dup (pc := 61) rfl dX1_melt_61 ?_
  refine G_getI (pc := 62) (v := 1) (ci := 1) (j := 1) rfl rfl lk_RX1_60 rfl rfl dX1_melt_62 ?_
  refine G_iconst (pc := 65) (v := 1) (by decide) dX1_melt_65 ?_
  refine G_iadd (pc := 66) (z := 2) (by decide) dX1_melt_66 ?_
  refine G_putI (pc := 67) (ci := 1) (j := 1) rfl lk_RX1_60 rfl rfl rfl trivial dX1_melt_67 ?_
  refine G_iload_n (pc := 70) rfl dX1_melt_70 ?_
  exact G_iret (pc := 71) (Nat.le_of_ble_eq_true rfl) (Nat.le_of_ble_eq_true rfl) rfl dX1_melt_71 ⟨rfl, rfl⟩
set_option maxRecDepth 100000 in
set_option maxHeartbeats 4000000 in
theorem s252_X4_isLast  (d : Nat)   : G (d) mX4_isLast 0 0 0 0 0 (gent 3 [.ref 51, .int 2, .int 0]) [] SH0 RF0 (gup (gup (gup (gup (gcp (gup (gup (gup (gup (gcp (gup I0 54 0 0) 24 34 (0 : Int32).toNatClampNeg (0 : Int32).toNatClampNeg (6 : Int32).toNatClampNeg) 34 6 0) 34 7 0) 19 1 1) 54 1 0) 24 34 (0 : Int32).toNatClampNeg (8 : Int32).toNatClampNeg (6 : Int32).toNatClampNeg) 34 14 0) 34 15 1) 19 1 2) 54 2 0) (fun r h => r = some (.int 1) ∧ h = (SH0, RF0, (gup (gup (gup (gup (gcp (gup (gup (gup (gup (gcp (gup I0 54 0 0) 24 34 (0 : Int32).toNatClampNeg (0 : Int32).toNatClampNeg (6 : Int32).toNatClampNeg) 34 6 0) 34 7 0) 19 1 1) 54 1 0) 24 34 (0 : Int32).toNatClampNeg (8 : Int32).toNatClampNeg (6 : Int32).toNatClampNeg) 34 14 0) 34 15 1) 19 1 2) 54 2 0))) := by
  refine G_iload_n (pc := 0) rfl dX4_isLast_0 ?_
  refine G_if_le (pc := 1) (tgt := 19) (by decide) dX4_isLast_1 (fun _ => ?_) (fun z => absurd (by decide) z)
  refine G_iconst (pc := 19) (v := 1) (by decide) dX4_isLast_19 ?_
  refine G_goto (pc := 20) (tgt := 24) (by decide) dX4_isLast_20 ?_
  exact G_zret (pc := 24) (Nat.le_of_ble_eq_true rfl) (Nat.le_of_ble_eq_true rfl) rfl (by decide) dX4_isLast_24 ⟨rfl, rfl⟩
set_option maxRecDepth 100000 in
set_option maxHeartbeats 4000000 in
theorem s251_X4_duel  (d : Nat)   : G (d + 1) mX4_duel 0 0 0 0 0 (gent 8 [.ref 51, .int 2, .int 0]) [] SH0 RF0 (gup (gup (gup (gcp (gup (gup (gup (gup (gcp (gup I0 54 0 0) 24 34 (0 : Int32).toNatClampNeg (0 : Int32).toNatClampNeg (6 : Int32).toNatClampNeg) 34 6 0) 34 7 0) 19 1 1) 54 1 0) 24 34 (0 : Int32).toNatClampNeg (8 : Int32).toNatClampNeg (6 : Int32).toNatClampNeg) 34 14 0) 34 15 1) 19 1 2) (fun r h => r = some (.int 0) ∧ h = (SH0, RF0, (gup (gup (gup (gup (gcp (gup (gup (gup (gup (gcp (gup I0 54 0 0) 24 34 (0 : Int32).toNatClampNeg (0 : Int32).toNatClampNeg (6 : Int32).toNatClampNeg) 34 6 0) 34 7 0) 19 1 1) 54 1 0) 24 34 (0 : Int32).toNatClampNeg (8 : Int32).toNatClampNeg (6 : Int32).toNatClampNeg) 34 14 0) 34 15 1) 19 1 2) 54 2 0))) := by
  refine G_aload_n (pc := 0) rfl dX4_duel_0 ?_
  refine G_getR (pc := 1) (r := 54) (ci := 4) (j := 3) rfl lk_RX4_18 rfl rfl rfl dX4_duel_1 ?_
  refine G_iload_n (pc := 4) rfl dX4_duel_4 ?_
  refine G_iconst (pc := 5) (v := 0) (by decide) dX4_duel_5 ?_
  refine G_iast (pc := 6) (jj := 2) (by decide) rfl (by unfold vp_in; decide) dX4_duel_6 ?_
  refine G_aload_n (pc := 7) rfl dX4_duel_7 ?_
  refine G_iload_n (pc := 8) rfl dX4_duel_8 ?_
  refine G_iload_n (pc := 9) rfl dX4_duel_9 ?_
  refine G_callV (pc := 10) (mc1 := 0) (ms1 := 0) (ci := 4) (mj := mX4_isLast) (vs := [_, _]) dX4_duel_10 rfl rfl cm_X4_isLast wf_126 wf_129 wf_130 rfl (Nat.le_of_ble_eq_true rfl) (Nat.le_of_ble_eq_true rfl) (Nat.le_of_ble_eq_true rfl) (Nat.le_of_ble_eq_true rfl) (s252_X4_isLast  d  ) ?_
  rintro _ _ ⟨rfl, rfl⟩
  dsimp only [Option.toList, List.cons_append, List.nil_append]
  refine G_if_eq (pc := 13) (tgt := 18) (by decide) dX4_duel_13 (fun z => absurd z (by decide)) (fun _ => ?_)
  refine G_iconst (pc := 16) (v := 0) (by decide) dX4_duel_16 ?_
  exact G_iret (pc := 17) (Nat.le_of_ble_eq_true rfl) (Nat.le_of_ble_eq_true rfl) rfl dX4_duel_17 ⟨rfl, rfl⟩
set_option maxRecDepth 100000 in
set_option maxHeartbeats 4000000 in
theorem s253_X1_restore  (d : Nat)   : G (d + 1) mX1_restore 0 0 0 0 0 (gent 3 [.ref 19, .int 1]) [] SH0 RF0 (gup (gup (gup (gup (gcp (gup (gup (gup (gup (gcp (gup I0 54 0 0) 24 34 (0 : Int32).toNatClampNeg (0 : Int32).toNatClampNeg (6 : Int32).toNatClampNeg) 34 6 0) 34 7 0) 19 1 1) 54 1 0) 24 34 (0 : Int32).toNatClampNeg (8 : Int32).toNatClampNeg (6 : Int32).toNatClampNeg) 34 14 0) 34 15 1) 19 1 2) 54 2 0) (fun r h => r = none ∧ h = (SH0, RF0, (gup (gup (gcp (gup (gup (gup (gup (gcp (gup (gup (gup (gup (gcp (gup I0 54 0 0) 24 34 (0 : Int32).toNatClampNeg (0 : Int32).toNatClampNeg (6 : Int32).toNatClampNeg) 34 6 0) 34 7 0) 19 1 1) 54 1 0) 24 34 (0 : Int32).toNatClampNeg (8 : Int32).toNatClampNeg (6 : Int32).toNatClampNeg) 34 14 0) 34 15 1) 19 1 2) 54 2 0) 34 24 (8 : Int32).toNatClampNeg (0 : Int32).toNatClampNeg (6 : Int32).toNatClampNeg) 19 9 0) 19 1 1))) := by
  refine G_iload_n (pc := 0) rfl dX1_restore_0 ?_
  refine G_bipush (pc := 1) (v := 8) (by decide) dX1_restore_1 ?_
  refine G_imul (pc := 3) (z := 8) (by decide) dX1_restore_3 ?_
  refine G_istore_n (pc := 4) (L1 := [some (.ref 19), some (.int 1), some (.int 8)]) rfl rfl (by decide) dX1_restore_4 ?_
  refine G_aload_n (pc := 5) rfl dX1_restore_5 ?_
  refine G_getR (pc := 6) (r := 34) (ci := 1) (j := 18) rfl lk_RX1_53 rfl rfl rfl dX1_restore_6 ?_
  refine G_iload_n (pc := 9) rfl dX1_restore_9 ?_
  refine G_aload_n (pc := 10) rfl dX1_restore_10 ?_
  refine G_getR (pc := 11) (r := 24) (ci := 1) (j := 11) rfl lk_RX1_31 rfl rfl rfl dX1_restore_11 ?_
  refine G_iconst (pc := 14) (v := 0) (by decide) dX1_restore_14 ?_
  refine G_bipush (pc := 15) (v := 6) (by decide) dX1_restore_15 ?_
  refine G_copy (pc := 17) (x := 34) (y := 24) rfl rfl (by decide) (by decide) (by decide) (by decide) (by decide) wf_50 wf_51 wf_52 wf_53 (Nat.le_of_ble_eq_true rfl) dX1_restore_17 ?_
  refine G_aload_n (pc := 20) rfl dX1_restore_20 ?_
  refine G_aload_n (pc := 21) rfl dX1_restore_21 ?_
  refine G_getR (pc := 22) (r := 34) (ci := 1) (j := 18) rfl lk_RX1_53 rfl rfl rfl dX1_restore_22 ?_
  refine G_iload_n (pc := 25) rfl dX1_restore_25 ?_
  refine G_bipush (pc := 26) (v := 6) (by decide) dX1_restore_26 ?_
  refine G_iadd (pc := 28) (z := 14) (by decide) dX1_restore_28 ?_
  refine G_iald (pc := 29) (jj := 14) (v := 0) (by decide) rfl rfl (by unfold vp_in; decide) dX1_restore_29 ?_
  refine G_putI (pc := 30) (ci := 1) (j := 9) rfl lk_RX1_75 rfl rfl rfl trivial dX1_restore_30 ?_
  refine G_aload_n (pc := 33) rfl dX1_restore_33 ?_
  refine G_aload_n (pc := 34) rfl dX1_restore_34 ?_
  refine G_getR (pc := 35) (r := 34) (ci := 1) (j := 18) rfl lk_RX1_53 rfl rfl rfl dX1_restore_35 ?_
  refine G_iload_n (pc := 38) rfl dX1_restore_38 ?_
  refine G_bipush (pc := 39) (v := 6) (by decide) dX1_restore_39 ?_
  refine G_iadd (pc := 41) (z := 14) (by decide) dX1_restore_41 ?_
  refine G_iconst (pc := 42) (v := 1) (by decide) dX1_restore_42 ?_
  refine G_iadd (pc := 43) (z := 15) (by decide) dX1_restore_43 ?_
  refine G_iald (pc := 44) (jj := 15) (v := 1) (by decide) rfl rfl (by unfold vp_in; decide) dX1_restore_44 ?_
  refine G_putI (pc := 45) (ci := 1) (j := 1) rfl lk_RX1_60 rfl rfl rfl trivial dX1_restore_45 ?_
  exact G_vret (pc := 48) (Nat.le_of_ble_eq_true rfl) (Nat.le_of_ble_eq_true rfl) rfl dX1_restore_48 ⟨rfl, rfl⟩
set_option maxRecDepth 100000 in
set_option maxHeartbeats 4000000 in
theorem s244_X4_duel  (d : Nat)   : G (d + 2) mX4_duel 0 0 0 0 0 (gent 8 [.ref 51, .int 1, .int 1]) [] SH0 RF0 (gup (gup (gup (gcp (gup I0 54 0 0) 24 34 (0 : Int32).toNatClampNeg (0 : Int32).toNatClampNeg (6 : Int32).toNatClampNeg) 34 6 0) 34 7 0) 19 1 1) (fun r h => r = some (.int 0) ∧ h = (SH0, RF0, (gup (gup (gup (gcp (gup (gup (gup (gup (gcp (gup (gup (gup (gup (gcp (gup I0 54 0 0) 24 34 (0 : Int32).toNatClampNeg (0 : Int32).toNatClampNeg (6 : Int32).toNatClampNeg) 34 6 0) 34 7 0) 19 1 1) 54 1 0) 24 34 (0 : Int32).toNatClampNeg (8 : Int32).toNatClampNeg (6 : Int32).toNatClampNeg) 34 14 0) 34 15 1) 19 1 2) 54 2 0) 34 24 (8 : Int32).toNatClampNeg (0 : Int32).toNatClampNeg (6 : Int32).toNatClampNeg) 19 9 0) 19 1 1) 54 1 0))) := by
  refine G_aload_n (pc := 0) rfl dX4_duel_0 ?_
  refine G_getR (pc := 1) (r := 54) (ci := 4) (j := 3) rfl lk_RX4_18 rfl rfl rfl dX4_duel_1 ?_
  refine G_iload_n (pc := 4) rfl dX4_duel_4 ?_
  refine G_iconst (pc := 5) (v := 0) (by decide) dX4_duel_5 ?_
  refine G_iast (pc := 6) (jj := 1) (by decide) rfl (by unfold vp_in; decide) dX4_duel_6 ?_
  refine G_aload_n (pc := 7) rfl dX4_duel_7 ?_
  refine G_iload_n (pc := 8) rfl dX4_duel_8 ?_
  refine G_iload_n (pc := 9) rfl dX4_duel_9 ?_
  refine G_callV (pc := 10) (mc1 := 0) (ms1 := 0) (ci := 4) (mj := mX4_isLast) (vs := [_, _]) dX4_duel_10 rfl rfl cm_X4_isLast wf_126 wf_129 wf_130 rfl (Nat.le_of_ble_eq_true rfl) (Nat.le_of_ble_eq_true rfl) (Nat.le_of_ble_eq_true rfl) (Nat.le_of_ble_eq_true rfl) (s245_X4_isLast  d  ) ?_
  rintro _ _ ⟨rfl, rfl⟩
  dsimp only [Option.toList, List.cons_append, List.nil_append]
  refine G_if_eq (pc := 13) (tgt := 18) (by decide) dX4_duel_13 (fun _ => ?_) (fun z => absurd (by decide) z)
  refine G_iload_n (pc := 18) rfl dX4_duel_18 ?_
  refine G_iconst (pc := 19) (v := 2) (by decide) dX4_duel_19 ?_
  refine G_irem (pc := 20) (z := 1) (by decide) (by decide) dX4_duel_20 ?_
  refine G_if_ne (pc := 21) (tgt := 28) (by decide) dX4_duel_21 (fun _ => ?_) (fun z => absurd z (by decide))
  refine G_iconst (pc := 28) (v := 0) (by decide) dX4_duel_28 ?_
  refine G_istore_n (pc := 29) (L1 := [some (.ref 51), some (.int 1), some (.int 1), some (.int 0), none, none, none, none]) rfl rfl (by decide) dX4_duel_29 ?_
  refine G_iconst (pc := 30) (v := 0) (by decide) dX4_duel_30 ?_
  refine G_istore (pc := 31) (L1 := [some (.ref 51), some (.int 1), some (.int 1), some (.int 0), some (.int 0), none, none, none]) rfl rfl (by decide) dX4_duel_31 ?_
  refine G_aload_n (pc := 33) rfl dX4_duel_33 ?_
  refine G_getR (pc := 34) (r := 19) (ci := 4) (j := 0) rfl lk_RX4_21 rfl rfl rfl dX4_duel_34 ?_
  refine G_iload_n (pc := 37) rfl dX4_duel_37 ?_
  refine G_callV (pc := 38) (mc1 := 0) (ms1 := 0) (ci := 1) (mj := mX1_save) (vs := [_]) dX4_duel_38 rfl rfl cm_X1_save wf_134 wf_105 wf_106 rfl (Nat.le_of_ble_eq_true rfl) (Nat.le_of_ble_eq_true rfl) (Nat.le_of_ble_eq_true rfl) (Nat.le_of_ble_eq_true rfl) (s247_X1_save  d  ) ?_
  rintro _ _ ⟨rfl, rfl⟩
  dsimp only [Option.toList, List.cons_append, List.nil_append]
  refine G_iconst (pc := 41) (v := 0) (by decide) dX4_duel_41 ?_
  refine G_istore (pc := 42) (L1 := [some (.ref 51), some (.int 1), some (.int 1), some (.int 0), some (.int 0), some (.int 0), none, none]) rfl rfl (by decide) dX4_duel_42 ?_
  refine G_iload (pc := 44) rfl dX4_duel_44 ?_
  refine G_aload_n (pc := 46) rfl dX4_duel_46 ?_
  refine G_getR (pc := 47) (r := 19) (ci := 4) (j := 0) rfl lk_RX4_21 rfl rfl rfl dX4_duel_47 ?_
  refine G_getI (pc := 50) (v := 0) (ci := 1) (j := 8) rfl rfl lk_RX4_39 rfl rfl dX4_duel_50 ?_
  refine G_icmp_gt (pc := 53) (tgt := 156) (by decide) dX4_duel_53 (fun z => absurd z (by decide)) (fun _ => ?_)
  refine G_aload_n (pc := 56) rfl dX4_duel_56 ?_
  refine G_getR (pc := 57) (r := 19) (ci := 4) (j := 0) rfl lk_RX4_21 rfl rfl rfl dX4_duel_57 ?_
  refine G_iload (pc := 60) rfl dX4_duel_60 ?_
  refine G_callV (pc := 62) (mc1 := 0) (ms1 := 0) (ci := 1) (mj := mX1_tell) (vs := [_]) dX4_duel_62 rfl rfl cm_X1_tell wf_135 wf_71 wf_72 rfl (Nat.le_of_ble_eq_true rfl) (Nat.le_of_ble_eq_true rfl) (Nat.le_of_ble_eq_true rfl) (Nat.le_of_ble_eq_true rfl) (s248_X1_tell  d  ) ?_
  rintro _ _ ⟨rfl, rfl⟩
  dsimp only [Option.toList, List.cons_append, List.nil_append]
  refine G_istore (pc := 65) (L1 := [some (.ref 51), some (.int 1), some (.int 1), some (.int 0), some (.int 0), some (.int 0), some (.int 0), none]) rfl rfl (by decide) dX4_duel_65 ?_
  refine G_iload (pc := 67) rfl dX4_duel_67 ?_
  refine G_if_eq (pc := 69) (tgt := 77) (by decide) dX4_duel_69 (fun _ => ?_) (fun z => absurd (by decide) z)
  refine G_iload (pc := 77) rfl dX4_duel_77 ?_
  refine G_aload_n (pc := 79) rfl dX4_duel_79 ?_
  refine G_getR (pc := 80) (r := 19) (ci := 4) (j := 0) rfl lk_RX4_21 rfl rfl rfl dX4_duel_80 ?_
  refine G_callV (pc := 83) (mc1 := 0) (ms1 := 0) (ci := 1) (mj := mX1_melt) (vs := []) dX4_duel_83 rfl rfl cm_X1_melt wf_136 wf_75 wf_76 rfl (Nat.le_of_ble_eq_true rfl) (Nat.le_of_ble_eq_true rfl) (Nat.le_of_ble_eq_true rfl) (Nat.le_of_ble_eq_true rfl) (s250_X1_melt  (d + 1)  ) ?_
  rintro _ _ ⟨rfl, rfl⟩
  dsimp only [Option.toList, List.cons_append, List.nil_append]
  refine G_iadd (pc := 86) (z := 0) (by decide) dX4_duel_86 ?_
  refine G_istore (pc := 87) (L1 := [some (.ref 51), some (.int 1), some (.int 1), some (.int 0), some (.int 0), some (.int 0), some (.int 0), some (.int 0)]) rfl rfl (by decide) dX4_duel_87 ?_
  refine G_iload (pc := 89) rfl dX4_duel_89 ?_
  refine G_aload_n (pc := 91) rfl dX4_duel_91 ?_
  refine G_iload_n (pc := 92) rfl dX4_duel_92 ?_
  refine G_iconst (pc := 93) (v := 1) (by decide) dX4_duel_93 ?_
  refine G_iadd (pc := 94) (z := 2) (by decide) dX4_duel_94 ?_
  refine G_iload_n (pc := 95) rfl dX4_duel_95 ?_
  refine G_iconst (pc := 96) (v := 1) (by decide) dX4_duel_96 ?_
  refine G_isub (pc := 97) (z := 0) (by decide) dX4_duel_97 ?_
  refine G_callV (pc := 98) (mc1 := 0) (ms1 := 0) (ci := 4) (mj := mX4_duel) (vs := [_, _]) dX4_duel_98 rfl rfl cm_X4_duel wf_168 wf_170 wf_171 rfl (Nat.le_of_ble_eq_true rfl) (Nat.le_of_ble_eq_true rfl) (Nat.le_of_ble_eq_true rfl) (Nat.le_of_ble_eq_true rfl) (s251_X4_duel  d  ) ?_
  rintro _ _ ⟨rfl, rfl⟩
  dsimp only [Option.toList, List.cons_append, List.nil_append]
  refine G_iadd (pc := 101) (z := 0) (by decide) dX4_duel_101 ?_
  refine G_istore (pc := 102) (L1 := [some (.ref 51), some (.int 1), some (.int 1), some (.int 0), some (.int 0), some (.int 0), some (.int 0), some (.int 0)]) rfl rfl (by decide) dX4_duel_102 ?_
  refine G_aload_n (pc := 104) rfl dX4_duel_104 ?_
  refine G_getR (pc := 105) (r := 19) (ci := 4) (j := 0) rfl lk_RX4_21 rfl rfl rfl dX4_duel_105 ?_
  refine G_iload_n (pc := 108) rfl dX4_duel_108 ?_
  refine G_callV (pc := 109) (mc1 := 0) (ms1 := 0) (ci := 1) (mj := mX1_restore) (vs := [_]) dX4_duel_109 rfl rfl cm_X1_restore wf_138 wf_109 wf_110 rfl (Nat.le_of_ble_eq_true rfl) (Nat.le_of_ble_eq_true rfl) (Nat.le_of_ble_eq_true rfl) (Nat.le_of_ble_eq_true rfl) (s253_X1_restore  d  ) ?_
  rintro _ _ ⟨rfl, rfl⟩
  dsimp only [Option.toList, List.cons_append, List.nil_append]
  refine G_iload (pc := 112) rfl dX4_duel_112 ?_
  refine G_if_eq (pc := 114) (tgt := 138) (by decide) dX4_duel_114 (fun _ => ?_) (fun z => absurd (by decide) z)
  refine G_iload (pc := 138) rfl dX4_duel_138 ?_
  refine G_istore (pc := 140) (L1 := [some (.ref 51), some (.int 1), some (.int 1), some (.int 0), some (.int 0), some (.int 0), some (.int 0), some (.int 0)]) rfl rfl (by decide) dX4_duel_140 ?_
  refine G_aload_n (pc := 142) rfl dX4_duel_142 ?_
  refine G_getR (pc := 143) (r := 54) (ci := 4) (j := 3) rfl lk_RX4_18 rfl rfl rfl dX4_duel_143 ?_
  refine G_iload_n (pc := 146) rfl dX4_duel_146 ?_
  refine G_iload (pc := 147) rfl dX4_duel_147 ?_
  refine G_iast (pc := 149) (jj := 1) (by decide) rfl (by unfold vp_in; decide) dX4_duel_149 ?_
  refine G_iinc (pc := 150) (v := 1) (w := 1) (L1 := [some (.ref 51), some (.int 1), some (.int 1), some (.int 0), some (.int 0), some (.int 1), some (.int 0), some (.int 0)]) (by decide) rfl rfl (by decide) rfl (by decide) dX4_duel_150 ?_
  refine G_goto (pc := 153) (tgt := 44) (by decide) dX4_duel_153 ?_
  refine G_iload (pc := 44) rfl dX4_duel_44 ?_
  refine G_aload_n (pc := 46) rfl dX4_duel_46 ?_
  refine G_getR (pc := 47) (r := 19) (ci := 4) (j := 0) rfl lk_RX4_21 rfl rfl rfl dX4_duel_47 ?_
  refine G_getI (pc := 50) (v := 0) (ci := 1) (j := 8) rfl rfl lk_RX4_39 rfl rfl dX4_duel_50 ?_
  refine G_icmp_gt (pc := 53) (tgt := 156) (by decide) dX4_duel_53 (fun _ => ?_) (fun z => absurd (by decide) z)
  refine G_iload (pc := 156) rfl dX4_duel_156 ?_
  exact G_iret (pc := 158) (Nat.le_of_ble_eq_true rfl) (Nat.le_of_ble_eq_true rfl) rfl dX4_duel_158 ⟨rfl, rfl⟩
set_option maxRecDepth 100000 in
set_option maxHeartbeats 4000000 in
theorem s254_X1_restore  (d : Nat)   : G (d + 1) mX1_restore 0 0 0 0 0 (gent 3 [.ref 19, .int 0]) [] SH0 RF0 (gup (gup (gup (gcp (gup (gup (gup (gup (gcp (gup (gup (gup (gup (gcp (gup I0 54 0 0) 24 34 (0 : Int32).toNatClampNeg (0 : Int32).toNatClampNeg (6 : Int32).toNatClampNeg) 34 6 0) 34 7 0) 19 1 1) 54 1 0) 24 34 (0 : Int32).toNatClampNeg (8 : Int32).toNatClampNeg (6 : Int32).toNatClampNeg) 34 14 0) 34 15 1) 19 1 2) 54 2 0) 34 24 (8 : Int32).toNatClampNeg (0 : Int32).toNatClampNeg (6 : Int32).toNatClampNeg) 19 9 0) 19 1 1) 54 1 0) (fun r h => r = none ∧ h = (SH0, RF0, (gup (gup (gcp (gup (gup (gup (gcp (gup (gup (gup (gup (gcp (gup (gup (gup (gup (gcp (gup I0 54 0 0) 24 34 (0 : Int32).toNatClampNeg (0 : Int32).toNatClampNeg (6 : Int32).toNatClampNeg) 34 6 0) 34 7 0) 19 1 1) 54 1 0) 24 34 (0 : Int32).toNatClampNeg (8 : Int32).toNatClampNeg (6 : Int32).toNatClampNeg) 34 14 0) 34 15 1) 19 1 2) 54 2 0) 34 24 (8 : Int32).toNatClampNeg (0 : Int32).toNatClampNeg (6 : Int32).toNatClampNeg) 19 9 0) 19 1 1) 54 1 0) 34 24 (0 : Int32).toNatClampNeg (0 : Int32).toNatClampNeg (6 : Int32).toNatClampNeg) 19 9 0) 19 1 0))) := by
  refine G_iload_n (pc := 0) rfl dX1_restore_0 ?_
  refine G_bipush (pc := 1) (v := 8) (by decide) dX1_restore_1 ?_
  refine G_imul (pc := 3) (z := 0) (by decide) dX1_restore_3 ?_
  refine G_istore_n (pc := 4) (L1 := [some (.ref 19), some (.int 0), some (.int 0)]) rfl rfl (by decide) dX1_restore_4 ?_
  refine G_aload_n (pc := 5) rfl dX1_restore_5 ?_
  refine G_getR (pc := 6) (r := 34) (ci := 1) (j := 18) rfl lk_RX1_53 rfl rfl rfl dX1_restore_6 ?_
  refine G_iload_n (pc := 9) rfl dX1_restore_9 ?_
  refine G_aload_n (pc := 10) rfl dX1_restore_10 ?_
  refine G_getR (pc := 11) (r := 24) (ci := 1) (j := 11) rfl lk_RX1_31 rfl rfl rfl dX1_restore_11 ?_
  refine G_iconst (pc := 14) (v := 0) (by decide) dX1_restore_14 ?_
  refine G_bipush (pc := 15) (v := 6) (by decide) dX1_restore_15 ?_
  refine G_copy (pc := 17) (x := 34) (y := 24) rfl rfl (by decide) (by decide) (by decide) (by decide) (by decide) wf_50 wf_51 wf_52 wf_53 (Nat.le_of_ble_eq_true rfl) dX1_restore_17 ?_
  refine G_aload_n (pc := 20) rfl dX1_restore_20 ?_
  refine G_aload_n (pc := 21) rfl dX1_restore_21 ?_
  refine G_getR (pc := 22) (r := 34) (ci := 1) (j := 18) rfl lk_RX1_53 rfl rfl rfl dX1_restore_22 ?_
  refine G_iload_n (pc := 25) rfl dX1_restore_25 ?_
  refine G_bipush (pc := 26) (v := 6) (by decide) dX1_restore_26 ?_
  refine G_iadd (pc := 28) (z := 6) (by decide) dX1_restore_28 ?_
  refine G_iald (pc := 29) (jj := 6) (v := 0) (by decide) rfl rfl (by unfold vp_in; decide) dX1_restore_29 ?_
  refine G_putI (pc := 30) (ci := 1) (j := 9) rfl lk_RX1_75 rfl rfl rfl trivial dX1_restore_30 ?_
  refine G_aload_n (pc := 33) rfl dX1_restore_33 ?_
  refine G_aload_n (pc := 34) rfl dX1_restore_34 ?_
  refine G_getR (pc := 35) (r := 34) (ci := 1) (j := 18) rfl lk_RX1_53 rfl rfl rfl dX1_restore_35 ?_
  refine G_iload_n (pc := 38) rfl dX1_restore_38 ?_
  refine G_bipush (pc := 39) (v := 6) (by decide) dX1_restore_39 ?_
  refine G_iadd (pc := 41) (z := 6) (by decide) dX1_restore_41 ?_
  refine G_iconst (pc := 42) (v := 1) (by decide) dX1_restore_42 ?_
  refine G_iadd (pc := 43) (z := 7) (by decide) dX1_restore_43 ?_
  refine G_iald (pc := 44) (jj := 7) (v := 0) (by decide) rfl rfl (by unfold vp_in; decide) dX1_restore_44 ?_
  refine G_putI (pc := 45) (ci := 1) (j := 1) rfl lk_RX1_60 rfl rfl rfl trivial dX1_restore_45 ?_
  exact G_vret (pc := 48) (Nat.le_of_ble_eq_true rfl) (Nat.le_of_ble_eq_true rfl) rfl dX1_restore_48 ⟨rfl, rfl⟩
set_option maxRecDepth 100000 in
set_option maxHeartbeats 4000000 in
theorem s242_X4_duel  (d : Nat)   : G (d + 3) mX4_duel 0 0 0 0 0 (gent 8 [.ref 51, .int 0, .int 2]) [] SH0 RF0 I0 (fun r h => r = some (.int 0) ∧ h = (SH0, RF0, (gup (gup (gup (gcp (gup (gup (gup (gcp (gup (gup (gup (gup (gcp (gup (gup (gup (gup (gcp (gup I0 54 0 0) 24 34 (0 : Int32).toNatClampNeg (0 : Int32).toNatClampNeg (6 : Int32).toNatClampNeg) 34 6 0) 34 7 0) 19 1 1) 54 1 0) 24 34 (0 : Int32).toNatClampNeg (8 : Int32).toNatClampNeg (6 : Int32).toNatClampNeg) 34 14 0) 34 15 1) 19 1 2) 54 2 0) 34 24 (8 : Int32).toNatClampNeg (0 : Int32).toNatClampNeg (6 : Int32).toNatClampNeg) 19 9 0) 19 1 1) 54 1 0) 34 24 (0 : Int32).toNatClampNeg (0 : Int32).toNatClampNeg (6 : Int32).toNatClampNeg) 19 9 0) 19 1 0) 54 0 0))) := by
  refine G_aload_n (pc := 0) rfl dX4_duel_0 ?_
  refine G_getR (pc := 1) (r := 54) (ci := 4) (j := 3) rfl lk_RX4_18 rfl rfl rfl dX4_duel_1 ?_
  refine G_iload_n (pc := 4) rfl dX4_duel_4 ?_
  refine G_iconst (pc := 5) (v := 0) (by decide) dX4_duel_5 ?_
  refine G_iast (pc := 6) (jj := 0) (by decide) rfl (by unfold vp_in; decide) dX4_duel_6 ?_
  refine G_aload_n (pc := 7) rfl dX4_duel_7 ?_
  refine G_iload_n (pc := 8) rfl dX4_duel_8 ?_
  refine G_iload_n (pc := 9) rfl dX4_duel_9 ?_
  refine G_callV (pc := 10) (mc1 := 0) (ms1 := 0) (ci := 4) (mj := mX4_isLast) (vs := [_, _]) dX4_duel_10 rfl rfl cm_X4_isLast wf_126 wf_129 wf_130 rfl (Nat.le_of_ble_eq_true rfl) (Nat.le_of_ble_eq_true rfl) (Nat.le_of_ble_eq_true rfl) (Nat.le_of_ble_eq_true rfl) (s243_X4_isLast  (d + 1)  ) ?_
  rintro _ _ ⟨rfl, rfl⟩
  dsimp only [Option.toList, List.cons_append, List.nil_append]
  refine G_if_eq (pc := 13) (tgt := 18) (by decide) dX4_duel_13 (fun _ => ?_) (fun z => absurd (by decide) z)
  refine G_iload_n (pc := 18) rfl dX4_duel_18 ?_
  refine G_iconst (pc := 19) (v := 2) (by decide) dX4_duel_19 ?_
  refine G_irem (pc := 20) (z := 0) (by decide) (by decide) dX4_duel_20 ?_
  refine G_if_ne (pc := 21) (tgt := 28) (by decide) dX4_duel_21 (fun z => absurd (by decide) z) (fun _ => ?_)
  refine G_iconst (pc := 24) (v := 1) (by decide) dX4_duel_24 ?_
  refine G_goto (pc := 25) (tgt := 29) (by decide) dX4_duel_25 ?_
  refine G_istore_n (pc := 29) (L1 := [some (.ref 51), some (.int 0), some (.int 2), some (.int 1), none, none, none, none]) rfl rfl (by decide) dX4_duel_29 ?_
  refine G_iconst (pc := 30) (v := 0) (by decide) dX4_duel_30 ?_
  refine G_istore (pc := 31) (L1 := [some (.ref 51), some (.int 0), some (.int 2), some (.int 1), some (.int 0), none, none, none]) rfl rfl (by decide) dX4_duel_31 ?_
  refine G_aload_n (pc := 33) rfl dX4_duel_33 ?_
  refine G_getR (pc := 34) (r := 19) (ci := 4) (j := 0) rfl lk_RX4_21 rfl rfl rfl dX4_duel_34 ?_
  refine G_iload_n (pc := 37) rfl dX4_duel_37 ?_
  refine G_callV (pc := 38) (mc1 := 0) (ms1 := 0) (ci := 1) (mj := mX1_save) (vs := [_]) dX4_duel_38 rfl rfl cm_X1_save wf_134 wf_105 wf_106 rfl (Nat.le_of_ble_eq_true rfl) (Nat.le_of_ble_eq_true rfl) (Nat.le_of_ble_eq_true rfl) (Nat.le_of_ble_eq_true rfl) (s235_X1_save  (d + 1)  ) ?_
  rintro _ _ ⟨rfl, rfl⟩
  dsimp only [Option.toList, List.cons_append, List.nil_append]
  refine G_iconst (pc := 41) (v := 0) (by decide) dX4_duel_41 ?_
  refine G_istore (pc := 42) (L1 := [some (.ref 51), some (.int 0), some (.int 2), some (.int 1), some (.int 0), some (.int 0), none, none]) rfl rfl (by decide) dX4_duel_42 ?_
  refine G_iload (pc := 44) rfl dX4_duel_44 ?_
  refine G_aload_n (pc := 46) rfl dX4_duel_46 ?_
  refine G_getR (pc := 47) (r := 19) (ci := 4) (j := 0) rfl lk_RX4_21 rfl rfl rfl dX4_duel_47 ?_
  refine G_getI (pc := 50) (v := 0) (ci := 1) (j := 8) rfl rfl lk_RX4_39 rfl rfl dX4_duel_50 ?_
  refine G_icmp_gt (pc := 53) (tgt := 156) (by decide) dX4_duel_53 (fun z => absurd z (by decide)) (fun _ => ?_)
  refine G_aload_n (pc := 56) rfl dX4_duel_56 ?_
  refine G_getR (pc := 57) (r := 19) (ci := 4) (j := 0) rfl lk_RX4_21 rfl rfl rfl dX4_duel_57 ?_
  refine G_iload (pc := 60) rfl dX4_duel_60 ?_
  refine G_callV (pc := 62) (mc1 := 0) (ms1 := 0) (ci := 1) (mj := mX1_tell) (vs := [_]) dX4_duel_62 rfl rfl cm_X1_tell wf_135 wf_71 wf_72 rfl (Nat.le_of_ble_eq_true rfl) (Nat.le_of_ble_eq_true rfl) (Nat.le_of_ble_eq_true rfl) (Nat.le_of_ble_eq_true rfl) (s236_X1_tell  (d + 1)  ) ?_
  rintro _ _ ⟨rfl, rfl⟩
  dsimp only [Option.toList, List.cons_append, List.nil_append]
  refine G_istore (pc := 65) (L1 := [some (.ref 51), some (.int 0), some (.int 2), some (.int 1), some (.int 0), some (.int 0), some (.int 0), none]) rfl rfl (by decide) dX4_duel_65 ?_
  refine G_iload (pc := 67) rfl dX4_duel_67 ?_
  refine G_if_eq (pc := 69) (tgt := 77) (by decide) dX4_duel_69 (fun _ => ?_) (fun z => absurd (by decide) z)
  refine G_iload (pc := 77) rfl dX4_duel_77 ?_
  refine G_aload_n (pc := 79) rfl dX4_duel_79 ?_
  refine G_getR (pc := 80) (r := 19) (ci := 4) (j := 0) rfl lk_RX4_21 rfl rfl rfl dX4_duel_80 ?_
  refine G_callV (pc := 83) (mc1 := 0) (ms1 := 0) (ci := 1) (mj := mX1_melt) (vs := []) dX4_duel_83 rfl rfl cm_X1_melt wf_136 wf_75 wf_76 rfl (Nat.le_of_ble_eq_true rfl) (Nat.le_of_ble_eq_true rfl) (Nat.le_of_ble_eq_true rfl) (Nat.le_of_ble_eq_true rfl) (s238_X1_melt  (d + 2)  ) ?_
  rintro _ _ ⟨rfl, rfl⟩
  dsimp only [Option.toList, List.cons_append, List.nil_append]
  refine G_iadd (pc := 86) (z := 0) (by decide) dX4_duel_86 ?_
  refine G_istore (pc := 87) (L1 := [some (.ref 51), some (.int 0), some (.int 2), some (.int 1), some (.int 0), some (.int 0), some (.int 0), some (.int 0)]) rfl rfl (by decide) dX4_duel_87 ?_
  refine G_iload (pc := 89) rfl dX4_duel_89 ?_
  refine G_aload_n (pc := 91) rfl dX4_duel_91 ?_
  refine G_iload_n (pc := 92) rfl dX4_duel_92 ?_
  refine G_iconst (pc := 93) (v := 1) (by decide) dX4_duel_93 ?_
  refine G_iadd (pc := 94) (z := 1) (by decide) dX4_duel_94 ?_
  refine G_iload_n (pc := 95) rfl dX4_duel_95 ?_
  refine G_iconst (pc := 96) (v := 1) (by decide) dX4_duel_96 ?_
  refine G_isub (pc := 97) (z := 1) (by decide) dX4_duel_97 ?_
  refine G_callV (pc := 98) (mc1 := 0) (ms1 := 0) (ci := 4) (mj := mX4_duel) (vs := [_, _]) dX4_duel_98 rfl rfl cm_X4_duel wf_168 wf_170 wf_171 rfl (Nat.le_of_ble_eq_true rfl) (Nat.le_of_ble_eq_true rfl) (Nat.le_of_ble_eq_true rfl) (Nat.le_of_ble_eq_true rfl) (s244_X4_duel  d  ) ?_
  rintro _ _ ⟨rfl, rfl⟩
  dsimp only [Option.toList, List.cons_append, List.nil_append]
  refine G_iadd (pc := 101) (z := 0) (by decide) dX4_duel_101 ?_
  refine G_istore (pc := 102) (L1 := [some (.ref 51), some (.int 0), some (.int 2), some (.int 1), some (.int 0), some (.int 0), some (.int 0), some (.int 0)]) rfl rfl (by decide) dX4_duel_102 ?_
  refine G_aload_n (pc := 104) rfl dX4_duel_104 ?_
  refine G_getR (pc := 105) (r := 19) (ci := 4) (j := 0) rfl lk_RX4_21 rfl rfl rfl dX4_duel_105 ?_
  refine G_iload_n (pc := 108) rfl dX4_duel_108 ?_
  refine G_callV (pc := 109) (mc1 := 0) (ms1 := 0) (ci := 1) (mj := mX1_restore) (vs := [_]) dX4_duel_109 rfl rfl cm_X1_restore wf_138 wf_109 wf_110 rfl (Nat.le_of_ble_eq_true rfl) (Nat.le_of_ble_eq_true rfl) (Nat.le_of_ble_eq_true rfl) (Nat.le_of_ble_eq_true rfl) (s254_X1_restore  (d + 1)  ) ?_
  rintro _ _ ⟨rfl, rfl⟩
  dsimp only [Option.toList, List.cons_append, List.nil_append]
  refine G_iload (pc := 112) rfl dX4_duel_112 ?_
  refine G_if_eq (pc := 114) (tgt := 138) (by decide) dX4_duel_114 (fun _ => ?_) (fun z => absurd (by decide) z)
  refine G_iload (pc := 138) rfl dX4_duel_138 ?_
  refine G_istore (pc := 140) (L1 := [some (.ref 51), some (.int 0), some (.int 2), some (.int 1), some (.int 0), some (.int 0), some (.int 0), some (.int 0)]) rfl rfl (by decide) dX4_duel_140 ?_
  refine G_aload_n (pc := 142) rfl dX4_duel_142 ?_
  refine G_getR (pc := 143) (r := 54) (ci := 4) (j := 3) rfl lk_RX4_18 rfl rfl rfl dX4_duel_143 ?_
  refine G_iload_n (pc := 146) rfl dX4_duel_146 ?_
  refine G_iload (pc := 147) rfl dX4_duel_147 ?_
  refine G_iast (pc := 149) (jj := 0) (by decide) rfl (by unfold vp_in; decide) dX4_duel_149 ?_
  refine G_iinc (pc := 150) (v := 1) (w := 1) (L1 := [some (.ref 51), some (.int 0), some (.int 2), some (.int 1), some (.int 0), some (.int 1), some (.int 0), some (.int 0)]) (by decide) rfl rfl (by decide) rfl (by decide) dX4_duel_150 ?_
  refine G_goto (pc := 153) (tgt := 44) (by decide) dX4_duel_153 ?_
  refine G_iload (pc := 44) rfl dX4_duel_44 ?_
  refine G_aload_n (pc := 46) rfl dX4_duel_46 ?_
  refine G_getR (pc := 47) (r := 19) (ci := 4) (j := 0) rfl lk_RX4_21 rfl rfl rfl dX4_duel_47 ?_
  refine G_getI (pc := 50) (v := 0) (ci := 1) (j := 8) rfl rfl lk_RX4_39 rfl rfl dX4_duel_50 ?_
  refine G_icmp_gt (pc := 53) (tgt := 156) (by decide) dX4_duel_53 (fun _ => ?_) (fun z => absurd (by decide) z)
  refine G_iload (pc := 156) rfl dX4_duel_156 ?_
  exact G_iret (pc := 158) (Nat.le_of_ble_eq_true rfl) (Nat.le_of_ble_eq_true rfl) rfl dX4_duel_158 ⟨rfl, rfl⟩
set_option maxRecDepth 100000 in
set_option maxHeartbeats 4000000 in
theorem s256_X4_isLast  (d : Nat)   : G (d + 1) mX4_isLast 0 0 0 0 0 (gent 3 [.ref 51, .int 0, .int 3]) [] SH0 RF0 (gup I0 54 0 0) (fun r h => r = some (.int 0) ∧ h = (SH0, RF0, (gup I0 54 0 0))) := by
  refine G_iload_n (pc := 0) rfl dX4_isLast_0 ?_
  refine G_if_le (pc := 1) (tgt := 19) (by decide) dX4_isLast_1 (fun z => absurd z (by decide)) (fun _ => ?_)
  refine G_iload_n (pc := 4) rfl dX4_isLast_4 ?_
  refine G_iconst (pc := 5) (v := 4) (by decide) dX4_isLast_5 ?_
  refine G_icmp_ge (pc := 6) (tgt := 19) (by decide) dX4_isLast_6 (fun z => absurd z (by decide)) (fun _ => ?_)
  refine G_aload_n (pc := 9) rfl dX4_isLast_9 ?_
  refine G_getR (pc := 10) (r := 19) (ci := 4) (j := 0) rfl lk_RX4_21 rfl rfl rfl dX4_isLast_10 ?_
  refine G_callV (pc := 13) (mc1 := 0) (ms1 := 0) (ci := 1) (mj := mX1_isOver) (vs := []) dX4_isLast_13 rfl rfl cm_X1_isOver wf_125 wf_17 wf_18 rfl (Nat.le_of_ble_eq_true rfl) (Nat.le_of_ble_eq_true rfl) (Nat.le_of_ble_eq_true rfl) (Nat.le_of_ble_eq_true rfl) (s232_X1_isOver  d  ) ?_
  rintro _ _ ⟨rfl, rfl⟩
  dsimp only [Option.toList, List.cons_append, List.nil_append]
  refine G_if_eq (pc := 16) (tgt := 23) (by decide) dX4_isLast_16 (fun _ => ?_) (fun z => absurd (by decide) z)
  refine G_iconst (pc := 23) (v := 0) (by decide) dX4_isLast_23 ?_
  exact G_zret (pc := 24) (Nat.le_of_ble_eq_true rfl) (Nat.le_of_ble_eq_true rfl) rfl (by decide) dX4_isLast_24 ⟨rfl, rfl⟩
set_option maxRecDepth 100000 in
set_option maxHeartbeats 4000000 in
theorem s258_X4_isLast  (d : Nat)   : G (d + 1) mX4_isLast 0 0 0 0 0 (gent 3 [.ref 51, .int 1, .int 2]) [] SH0 RF0 (gup (gup (gup (gup (gcp (gup I0 54 0 0) 24 34 (0 : Int32).toNatClampNeg (0 : Int32).toNatClampNeg (6 : Int32).toNatClampNeg) 34 6 0) 34 7 0) 19 1 1) 54 1 0) (fun r h => r = some (.int 0) ∧ h = (SH0, RF0, (gup (gup (gup (gup (gcp (gup I0 54 0 0) 24 34 (0 : Int32).toNatClampNeg (0 : Int32).toNatClampNeg (6 : Int32).toNatClampNeg) 34 6 0) 34 7 0) 19 1 1) 54 1 0))) := by
  refine G_iload_n (pc := 0) rfl dX4_isLast_0 ?_
  refine G_if_le (pc := 1) (tgt := 19) (by decide) dX4_isLast_1 (fun z => absurd z (by decide)) (fun _ => ?_)
  refine G_iload_n (pc := 4) rfl dX4_isLast_4 ?_
  refine G_iconst (pc := 5) (v := 4) (by decide) dX4_isLast_5 ?_
  refine G_icmp_ge (pc := 6) (tgt := 19) (by decide) dX4_isLast_6 (fun z => absurd z (by decide)) (fun _ => ?_)
  refine G_aload_n (pc := 9) rfl dX4_isLast_9 ?_
  refine G_getR (pc := 10) (r := 19) (ci := 4) (j := 0) rfl lk_RX4_21 rfl rfl rfl dX4_isLast_10 ?_
  refine G_callV (pc := 13) (mc1 := 0) (ms1 := 0) (ci := 1) (mj := mX1_isOver) (vs := []) dX4_isLast_13 rfl rfl cm_X1_isOver wf_125 wf_17 wf_18 rfl (Nat.le_of_ble_eq_true rfl) (Nat.le_of_ble_eq_true rfl) (Nat.le_of_ble_eq_true rfl) (Nat.le_of_ble_eq_true rfl) (s246_X1_isOver  d  ) ?_
  rintro _ _ ⟨rfl, rfl⟩
  dsimp only [Option.toList, List.cons_append, List.nil_append]
  refine G_if_eq (pc := 16) (tgt := 23) (by decide) dX4_isLast_16 (fun _ => ?_) (fun z => absurd (by decide) z)
  refine G_iconst (pc := 23) (v := 0) (by decide) dX4_isLast_23 ?_
  exact G_zret (pc := 24) (Nat.le_of_ble_eq_true rfl) (Nat.le_of_ble_eq_true rfl) rfl (by decide) dX4_isLast_24 ⟨rfl, rfl⟩
set_option maxRecDepth 100000 in
set_option maxHeartbeats 4000000 in
theorem s261_X1_isOver  (d : Nat)   : G (d) mX1_isOver 0 0 0 0 0 (gent 1 [.ref 19]) [] SH0 RF0 (gup (gup (gup (gup (gcp (gup (gup (gup (gup (gcp (gup I0 54 0 0) 24 34 (0 : Int32).toNatClampNeg (0 : Int32).toNatClampNeg (6 : Int32).toNatClampNeg) 34 6 0) 34 7 0) 19 1 1) 54 1 0) 24 34 (0 : Int32).toNatClampNeg (8 : Int32).toNatClampNeg (6 : Int32).toNatClampNeg) 34 14 0) 34 15 1) 19 1 2) 54 2 0) (fun r h => r = some (.int 0) ∧ h = (SH0, RF0, (gup (gup (gup (gup (gcp (gup (gup (gup (gup (gcp (gup I0 54 0 0) 24 34 (0 : Int32).toNatClampNeg (0 : Int32).toNatClampNeg (6 : Int32).toNatClampNeg) 34 6 0) 34 7 0) 19 1 1) 54 1 0) 24 34 (0 : Int32).toNatClampNeg (8 : Int32).toNatClampNeg (6 : Int32).toNatClampNeg) 34 14 0) 34 15 1) 19 1 2) 54 2 0))) := by
  refine G_aload_n (pc := 0) rfl dX1_isOver_0 ?_
  refine G_getI (pc := 1) (v := 2) (ci := 1) (j := 1) rfl rfl lk_RX1_60 rfl rfl dX1_isOver_1 ?_
  refine G_aload_n (pc := 4) rfl dX1_isOver_4 ?_
  refine G_getI (pc := 5) (v := 12) (ci := 1) (j := 2) rfl rfl lk_RX1_9 rfl rfl dX1_isOver_5 ?_
  refine G_icmp_lt (pc := 8) (tgt := 15) (by decide) dX1_isOver_8 (fun _ => ?_) (fun z => absurd (by decide) z)
  refine G_iconst (pc := 15) (v := 0) (by decide) dX1_isOver_15 ?_
  exact G_zret (pc := 16) (Nat.le_of_ble_eq_true rfl) (Nat.le_of_ble_eq_true rfl) rfl (by decide) dX1_isOver_16 ⟨rfl, rfl⟩
set_option maxRecDepth 100000 in
set_option maxHeartbeats 4000000 in
theorem s260_X4_isLast  (d : Nat)   : G (d + 1) mX4_isLast 0 0 0 0 0 (gent 3 [.ref 51, .int 2, .int 1]) [] SH0 RF0 (gup (gup (gup (gup (gcp (gup (gup (gup (gup (gcp (gup I0 54 0 0) 24 34 (0 : Int32).toNatClampNeg (0 : Int32).toNatClampNeg (6 : Int32).toNatClampNeg) 34 6 0) 34 7 0) 19 1 1) 54 1 0) 24 34 (0 : Int32).toNatClampNeg (8 : Int32).toNatClampNeg (6 : Int32).toNatClampNeg) 34 14 0) 34 15 1) 19 1 2) 54 2 0) (fun r h => r = some (.int 0) ∧ h = (SH0, RF0, (gup (gup (gup (gup (gcp (gup (gup (gup (gup (gcp (gup I0 54 0 0) 24 34 (0 : Int32).toNatClampNeg (0 : Int32).toNatClampNeg (6 : Int32).toNatClampNeg) 34 6 0) 34 7 0) 19 1 1) 54 1 0) 24 34 (0 : Int32).toNatClampNeg (8 : Int32).toNatClampNeg (6 : Int32).toNatClampNeg) 34 14 0) 34 15 1) 19 1 2) 54 2 0))) := by
  refine G_iload_n (pc := 0) rfl dX4_isLast_0 ?_
  refine G_if_le (pc := 1) (tgt := 19) (by decide) dX4_isLast_1 (fun z => absurd z (by decide)) (fun _ => ?_)
  refine G_iload_n (pc := 4) rfl dX4_isLast_4 ?_
  refine G_iconst (pc := 5) (v := 4) (by decide) dX4_isLast_5 ?_
  refine G_icmp_ge (pc := 6) (tgt := 19) (by decide) dX4_isLast_6 (fun z => absurd z (by decide)) (fun _ => ?_)
  refine G_aload_n (pc := 9) rfl dX4_isLast_9 ?_
  refine G_getR (pc := 10) (r := 19) (ci := 4) (j := 0) rfl lk_RX4_21 rfl rfl rfl dX4_isLast_10 ?_
  refine G_callV (pc := 13) (mc1 := 0) (ms1 := 0) (ci := 1) (mj := mX1_isOver) (vs := []) dX4_isLast_13 rfl rfl cm_X1_isOver wf_125 wf_17 wf_18 rfl (Nat.le_of_ble_eq_true rfl) (Nat.le_of_ble_eq_true rfl) (Nat.le_of_ble_eq_true rfl) (Nat.le_of_ble_eq_true rfl) (s261_X1_isOver  d  ) ?_
  rintro _ _ ⟨rfl, rfl⟩
  dsimp only [Option.toList, List.cons_append, List.nil_append]
  refine G_if_eq (pc := 16) (tgt := 23) (by decide) dX4_isLast_16 (fun _ => ?_) (fun z => absurd (by decide) z)
  refine G_iconst (pc := 23) (v := 0) (by decide) dX4_isLast_23 ?_
  exact G_zret (pc := 24) (Nat.le_of_ble_eq_true rfl) (Nat.le_of_ble_eq_true rfl) rfl (by decide) dX4_isLast_24 ⟨rfl, rfl⟩
set_option maxRecDepth 100000 in
set_option maxHeartbeats 4000000 in
theorem s262_X1_save  (d : Nat)   : G (d + 1) mX1_save 0 0 0 0 0 (gent 3 [.ref 19, .int 2]) [] SH0 RF0 (gup (gup (gup (gup (gcp (gup (gup (gup (gup (gcp (gup I0 54 0 0) 24 34 (0 : Int32).toNatClampNeg (0 : Int32).toNatClampNeg (6 : Int32).toNatClampNeg) 34 6 0) 34 7 0) 19 1 1) 54 1 0) 24 34 (0 : Int32).toNatClampNeg (8 : Int32).toNatClampNeg (6 : Int32).toNatClampNeg) 34 14 0) 34 15 1) 19 1 2) 54 2 0) (fun r h => r = none ∧ h = (SH0, RF0, (gup (gup (gcp (gup (gup (gup (gup (gcp (gup (gup (gup (gup (gcp (gup I0 54 0 0) 24 34 (0 : Int32).toNatClampNeg (0 : Int32).toNatClampNeg (6 : Int32).toNatClampNeg) 34 6 0) 34 7 0) 19 1 1) 54 1 0) 24 34 (0 : Int32).toNatClampNeg (8 : Int32).toNatClampNeg (6 : Int32).toNatClampNeg) 34 14 0) 34 15 1) 19 1 2) 54 2 0) 24 34 (0 : Int32).toNatClampNeg (16 : Int32).toNatClampNeg (6 : Int32).toNatClampNeg) 34 22 0) 34 23 2))) := by
  refine G_iload_n (pc := 0) rfl dX1_save_0 ?_
  refine G_bipush (pc := 1) (v := 8) (by decide) dX1_save_1 ?_
  refine G_imul (pc := 3) (z := 16) (by decide) dX1_save_3 ?_
  refine G_istore_n (pc := 4) (L1 := [some (.ref 19), some (.int 2), some (.int 16)]) rfl rfl (by decide) dX1_save_4 ?_
  refine G_aload_n (pc := 5) rfl dX1_save_5 ?_
  refine G_getR (pc := 6) (r := 24) (ci := 1) (j := 11) rfl lk_RX1_31 rfl rfl rfl dX1_save_6 ?_
  refine G_iconst (pc := 9) (v := 0) (by decide) dX1_save_9 ?_
  refine G_aload_n (pc := 10) rfl dX1_save_10 ?_
  refine G_getR (pc := 11) (r := 34) (ci := 1) (j := 18) rfl lk_RX1_53 rfl rfl rfl dX1_save_11 ?_
  refine G_iload_n (pc := 14) rfl dX1_save_14 ?_
  refine G_bipush (pc := 15) (v := 6) (by decide) dX1_save_15 ?_
  refine G_copy (pc := 17) (x := 24) (y := 34) rfl rfl (by decide) (by decide) (by decide) (by decide) (by decide) wf_50 wf_51 wf_52 wf_53 (Nat.le_of_ble_eq_true rfl) dX1_save_17 ?_
  refine G_aload_n (pc := 20) rfl dX1_save_20 ?_
  refine G_getR (pc := 21) (r := 34) (ci := 1) (j := 18) rfl lk_RX1_53 rfl rfl rfl dX1_save_21 ?_
  refine G_iload_n (pc := 24) rfl dX1_save_24 ?_
  refine G_bipush (pc := 25) (v := 6) (by decide) dX1_save_25 ?_
  refine G_iadd (pc := 27) (z := 22) (by decide) dX1_save_27 ?_
  refine G_aload_n (pc := 28) rfl dX1_save_28 ?_
  refine G_getI (pc := 29) (v := 0) (ci := 1) (j := 9) rfl rfl lk_RX1_75 rfl rfl dX1_save_29 ?_
  refine G_iast (pc := 32) (jj := 22) (by decide) rfl (by unfold vp_in; decide) dX1_save_32 ?_
  refine G_aload_n (pc := 33) rfl dX1_save_33 ?_
  refine G_getR (pc := 34) (r := 34) (ci := 1) (j := 18) rfl lk_RX1_53 rfl rfl rfl dX1_save_34 ?_
  refine G_iload_n (pc := 37) rfl dX1_save_37 ?_
  refine G_bipush (pc := 38) (v := 6) (by decide) dX1_save_38 ?_
  refine G_iadd (pc := 40) (z := 22) (by decide) dX1_save_40 ?_
  refine G_iconst (pc := 41) (v := 1) (by decide) dX1_save_41 ?_
  refine G_iadd (pc := 42) (z := 23) (by decide) dX1_save_42 ?_
  refine G_aload_n (pc := 43) rfl dX1_save_43 ?_
  refine G_getI (pc := 44) (v := 2) (ci := 1) (j := 1) rfl rfl lk_RX1_60 rfl rfl dX1_save_44 ?_
  refine G_iast (pc := 47) (jj := 23) (by decide) rfl (by unfold vp_in; decide) dX1_save_47 ?_
  exact G_vret (pc := 48) (Nat.le_of_ble_eq_true rfl) (Nat.le_of_ble_eq_true rfl) rfl dX1_save_48 ⟨rfl, rfl⟩
set_option maxRecDepth 100000 in
set_option maxHeartbeats 4000000 in
theorem s264_X1_isKey  (d : Nat)   : G (d) mX1_isKey 0 0 0 0 0 (gent 2 [.ref 19, .int (-1)]) [] SH0 RF0 (gup (gup (gcp (gup (gup (gup (gup (gcp (gup (gup (gup (gup (gcp (gup I0 54 0 0) 24 34 (0 : Int32).toNatClampNeg (0 : Int32).toNatClampNeg (6 : Int32).toNatClampNeg) 34 6 0) 34 7 0) 19 1 1) 54 1 0) 24 34 (0 : Int32).toNatClampNeg (8 : Int32).toNatClampNeg (6 : Int32).toNatClampNeg) 34 14 0) 34 15 1) 19 1 2) 54 2 0) 24 34 (0 : Int32).toNatClampNeg (16 : Int32).toNatClampNeg (6 : Int32).toNatClampNeg) 34 22 0) 34 23 2) (fun r h => r = some (.int 0) ∧ h = (SH0, RF0, (gup (gup (gcp (gup (gup (gup (gup (gcp (gup (gup (gup (gup (gcp (gup I0 54 0 0) 24 34 (0 : Int32).toNatClampNeg (0 : Int32).toNatClampNeg (6 : Int32).toNatClampNeg) 34 6 0) 34 7 0) 19 1 1) 54 1 0) 24 34 (0 : Int32).toNatClampNeg (8 : Int32).toNatClampNeg (6 : Int32).toNatClampNeg) 34 14 0) 34 15 1) 19 1 2) 54 2 0) 24 34 (0 : Int32).toNatClampNeg (16 : Int32).toNatClampNeg (6 : Int32).toNatClampNeg) 34 22 0) 34 23 2))) := by
  refine G_iload_n (pc := 0) rfl dX1_isKey_0 ?_
  refine G_if_lt (pc := 1) (tgt := 16) (by decide) dX1_isKey_1 (fun _ => ?_) (fun z => absurd (by decide) z)
  refine G_iconst (pc := 16) (v := 0) (by decide) dX1_isKey_16 ?_
  exact G_zret (pc := 17) (Nat.le_of_ble_eq_true rfl) (Nat.le_of_ble_eq_true rfl) rfl (by decide) dX1_isKey_17 ⟨rfl, rfl⟩
set_option maxRecDepth 100000 in
set_option maxHeartbeats 4000000 in
theorem s263_X1_tell  (d : Nat)   : G (d + 1) mX1_tell 0 0 0 0 0 (gent 5 [.ref 19, .int 0]) [] SH0 RF0 (gup (gup (gcp (gup (gup (gup (gup (gcp (gup (gup (gup (gup (gcp (gup I0 54 0 0) 24 34 (0 : Int32).toNatClampNeg (0 : Int32).toNatClampNeg (6 : Int32).toNatClampNeg) 34 6 0) 34 7 0) 19 1 1) 54 1 0) 24 34 (0 : Int32).toNatClampNeg (8 : Int32).toNatClampNeg (6 : Int32).toNatClampNeg) 34 14 0) 34 15 1) 19 1 2) 54 2 0) 24 34 (0 : Int32).toNatClampNeg (16 : Int32).toNatClampNeg (6 : Int32).toNatClampNeg) 34 22 0) 34 23 2) (fun r h => r = some (.int 0) ∧ h = (SH0, RF0, (gup (gup (gcp (gup (gup (gup (gup (gcp (gup (gup (gup (gup (gcp (gup I0 54 0 0) 24 34 (0 : Int32).toNatClampNeg (0 : Int32).toNatClampNeg (6 : Int32).toNatClampNeg) 34 6 0) 34 7 0) 19 1 1) 54 1 0) 24 34 (0 : Int32).toNatClampNeg (8 : Int32).toNatClampNeg (6 : Int32).toNatClampNeg) 34 14 0) 34 15 1) 19 1 2) 54 2 0) 24 34 (0 : Int32).toNatClampNeg (16 : Int32).toNatClampNeg (6 : Int32).toNatClampNeg) 34 22 0) 34 23 2))) := by
  refine G_iload_n (pc := 0) rfl dX1_tell_0 ?_
  refine G_iconst (pc := 1) (v := 1) (by decide) dX1_tell_1 ?_
  refine G_isub (pc := 2) (z := (-1)) (by decide) dX1_tell_2 ?_
  refine G_istore_n (pc := 3) (L1 := [some (.ref 19), some (.int 0), some (.int (-1)), none, none]) rfl rfl (by decide) dX1_tell_3 ?_
  refine G_aload_n (pc := 4) rfl dX1_tell_4 ?_
  refine G_iload_n (pc := 5) rfl dX1_tell_5 ?_
  refine G_callV (pc := 6) (mc1 := 0) (ms1 := 0) (ci := 1) (mj := mX1_isKey) (vs := [_]) dX1_tell_6 rfl rfl cm_X1_isKey wf_68 wf_13 wf_14 rfl (Nat.le_of_ble_eq_true rfl) (Nat.le_of_ble_eq_true rfl) (Nat.le_of_ble_eq_true rfl) (Nat.le_of_ble_eq_true rfl) (s264_X1_isKey  d  ) ?_
  rintro _ _ ⟨rfl, rfl⟩
  dsimp only [Option.toList, List.cons_append, List.nil_append]
  refine G_if_eq (pc := 9) (tgt := 20) (by decide) dX1_tell_9 (fun _ => ?_) (fun z => absurd (by decide) z)
  refine G_iconst (pc := 20) (v := 0) (by decide) dX1_tell_20 ?_
  exact G_iret (pc := 21) (Nat.le_of_ble_eq_true rfl) (Nat.le_of_ble_eq_true rfl) rfl dX1_tell_21 ⟨rfl, rfl⟩
set_option maxRecDepth 100000 in
set_option maxHeartbeats 4000000 in
theorem s265_X1_melt  (d : Nat)   : G (d) mX1_melt 0 0 0 0 0 (gent 3 [.ref 19]) [] SH0 RF0 (gup (gup (gcp (gup (gup (gup (gup (gcp (gup (gup (gup (gup (gcp (gup I0 54 0 0) 24 34 (0 : Int32).toNatClampNeg (0 : Int32).toNatClampNeg (6 : Int32).toNatClampNeg) 34 6 0) 34 7 0) 19 1 1) 54 1 0) 24 34 (0 : Int32).toNatClampNeg (8 : Int32).toNatClampNeg (6 : Int32).toNatClampNeg) 34 14 0) 34 15 1) 19 1 2) 54 2 0) 24 34 (0 : Int32).toNatClampNeg (16 : Int32).toNatClampNeg (6 : Int32).toNatClampNeg) 34 22 0) 34 23 2) (fun r h => r = some (.int 0) ∧ h = (SH0, RF0, (gup (gup (gup (gcp (gup (gup (gup (gup (gcp (gup (gup (gup (gup (gcp (gup I0 54 0 0) 24 34 (0 : Int32).toNatClampNeg (0 : Int32).toNatClampNeg (6 : Int32).toNatClampNeg) 34 6 0) 34 7 0) 19 1 1) 54 1 0) 24 34 (0 : Int32).toNatClampNeg (8 : Int32).toNatClampNeg (6 : Int32).toNatClampNeg) 34 14 0) 34 15 1) 19 1 2) 54 2 0) 24 34 (0 : Int32).toNatClampNeg (16 : Int32).toNatClampNeg (6 : Int32).toNatClampNeg) 34 22 0) 34 23 2) 19 1 3))) := by
  refine G_iconst (pc := 0) (v := 0) (by decide) dX1_melt_0 ?_
  refine G_istore_n (pc := 1) (L1 := [some (.ref 19), some (.int 0), none]) rfl rfl (by decide) dX1_melt_1 ?_
  refine G_iconst (pc := 2) (v := 0) (by decide) dX1_melt_2 ?_
  refine G_istore_n (pc := 3) (L1 := [some (.ref 19), some (.int 0), some (.int 0)]) rfl rfl (by decide) dX1_melt_3 ?_
  refine G_iload_n (pc := 4) rfl dX1_melt_4 ?_
  refine G_aload_n (pc := 5) rfl dX1_melt_5 ?_
  refine G_getI (pc := 6) (v := 0) (ci := 1) (j := 8) rfl rfl lk_RX1_72 rfl rfl dX1_melt_6 ?_
  refine G_icmp_ge (pc := 9) (tgt := 60) (by decide) dX1_melt_9 (fun _ => ?_) (fun z => absurd (by decide) z)
  refine G_aload_n (pc := 60) rfl dX1_melt_60 ?_
  refine G_dup (pc := 61) rfl dX1_melt_61 ?_
  refine G_getI (pc := 62) (v := 2) (ci := 1) (j := 1) rfl rfl lk_RX1_60 rfl rfl dX1_melt_62 ?_
  refine G_iconst (pc := 65) (v := 1) (by decide) dX1_melt_65 ?_
  refine G_iadd (pc := 66) (z := 3) (by decide) dX1_melt_66 ?_
  refine G_putI (pc := 67) (ci := 1) (j := 1) rfl lk_RX1_60 rfl rfl rfl trivial dX1_melt_67 ?_
  refine G_iload_n (pc := 70) rfl dX1_melt_70 ?_
  exact G_iret (pc := 71) (Nat.le_of_ble_eq_true rfl) (Nat.le_of_ble_eq_true rfl) rfl dX1_melt_71 ⟨rfl, rfl⟩
set_option maxRecDepth 100000 in
set_option maxHeartbeats 4000000 in
theorem s267_X4_isLast  (d : Nat)   : G (d) mX4_isLast 0 0 0 0 0 (gent 3 [.ref 51, .int 3, .int 0]) [] SH0 RF0 (gup (gup (gup (gup (gcp (gup (gup (gup (gup (gcp (gup (gup (gup (gup (gcp (gup I0 54 0 0) 24 34 (0 : Int32).toNatClampNeg (0 : Int32).toNatClampNeg (6 : Int32).toNatClampNeg) 34 6 0) 34 7 0) 19 1 1) 54 1 0) 24 34 (0 : Int32).toNatClampNeg (8 : Int32).toNatClampNeg (6 : Int32).toNatClampNeg) 34 14 0) 34 15 1) 19 1 2) 54 2 0) 24 34 (0 : Int32).toNatClampNeg (16 : Int32).toNatClampNeg (6 : Int32).toNatClampNeg) 34 22 0) 34 23 2) 19 1 3) 54 3 0) (fun r h => r = some (.int 1) ∧ h = (SH0, RF0, (gup (gup (gup (gup (gcp (gup (gup (gup (gup (gcp (gup (gup (gup (gup (gcp (gup I0 54 0 0) 24 34 (0 : Int32).toNatClampNeg (0 : Int32).toNatClampNeg (6 : Int32).toNatClampNeg) 34 6 0) 34 7 0) 19 1 1) 54 1 0) 24 34 (0 : Int32).toNatClampNeg (8 : Int32).toNatClampNeg (6 : Int32).toNatClampNeg) 34 14 0) 34 15 1) 19 1 2) 54 2 0) 24 34 (0 : Int32).toNatClampNeg (16 : Int32).toNatClampNeg (6 : Int32).toNatClampNeg) 34 22 0) 34 23 2) 19 1 3) 54 3 0))) := by
  refine G_iload_n (pc := 0) rfl dX4_isLast_0 ?_
  refine G_if_le (pc := 1) (tgt := 19) (by decide) dX4_isLast_1 (fun _ => ?_) (fun z => absurd (by decide) z)
  refine G_iconst (pc := 19) (v := 1) (by decide) dX4_isLast_19 ?_
  refine G_goto (pc := 20) (tgt := 24) (by decide) dX4_isLast_20 ?_
  exact G_zret (pc := 24) (Nat.le_of_ble_eq_true rfl) (Nat.le_of_ble_eq_true rfl) rfl (by decide) dX4_isLast_24 ⟨rfl, rfl⟩
set_option maxRecDepth 100000 in
set_option maxHeartbeats 4000000 in
theorem s266_X4_duel  (d : Nat)   : G (d + 1) mX4_duel 0 0 0 0 0 (gent 8 [.ref 51, .int 3, .int 0]) [] SH0 RF0 (gup (gup (gup (gcp (gup (gup (gup (gup (gcp (gup (gup (gup (gup (gcp (gup I0 54 0 0) 24 34 (0 : Int32).toNatClampNeg (0 : Int32).toNatClampNeg (6 : Int32).toNatClampNeg) 34 6 0) 34 7 0) 19 1 1) 54 1 0) 24 34 (0 : Int32).toNatClampNeg (8 : Int32).toNatClampNeg (6 : Int32).toNatClampNeg) 34 14 0) 34 15 1) 19 1 2) 54 2 0) 24 34 (0 : Int32).toNatClampNeg (16 : Int32).toNatClampNeg (6 : Int32).toNatClampNeg) 34 22 0) 34 23 2) 19 1 3) (fun r h => r = some (.int 0) ∧ h = (SH0, RF0, (gup (gup (gup (gup (gcp (gup (gup (gup (gup (gcp (gup (gup (gup (gup (gcp (gup I0 54 0 0) 24 34 (0 : Int32).toNatClampNeg (0 : Int32).toNatClampNeg (6 : Int32).toNatClampNeg) 34 6 0) 34 7 0) 19 1 1) 54 1 0) 24 34 (0 : Int32).toNatClampNeg (8 : Int32).toNatClampNeg (6 : Int32).toNatClampNeg) 34 14 0) 34 15 1) 19 1 2) 54 2 0) 24 34 (0 : Int32).toNatClampNeg (16 : Int32).toNatClampNeg (6 : Int32).toNatClampNeg) 34 22 0) 34 23 2) 19 1 3) 54 3 0))) := by
  refine G_aload_n (pc := 0) rfl dX4_duel_0 ?_
  refine G_getR (pc := 1) (r := 54) (ci := 4) (j := 3) rfl lk_RX4_18 rfl rfl rfl dX4_duel_1 ?_
  refine G_iload_n (pc := 4) rfl dX4_duel_4 ?_
  refine G_iconst (pc := 5) (v := 0) (by decide) dX4_duel_5 ?_
  refine G_iast (pc := 6) (jj := 3) (by decide) rfl (by unfold vp_in; decide) dX4_duel_6 ?_
  refine G_aload_n (pc := 7) rfl dX4_duel_7 ?_
  refine G_iload_n (pc := 8) rfl dX4_duel_8 ?_
  refine G_iload_n (pc := 9) rfl dX4_duel_9 ?_
  refine G_callV (pc := 10) (mc1 := 0) (ms1 := 0) (ci := 4) (mj := mX4_isLast) (vs := [_, _]) dX4_duel_10 rfl rfl cm_X4_isLast wf_126 wf_129 wf_130 rfl (Nat.le_of_ble_eq_true rfl) (Nat.le_of_ble_eq_true rfl) (Nat.le_of_ble_eq_true rfl) (Nat.le_of_ble_eq_true rfl) (s267_X4_isLast  d  ) ?_
  rintro _ _ ⟨rfl, rfl⟩
  dsimp only [Option.toList, List.cons_append, List.nil_append]
  refine G_if_eq (pc := 13) (tgt := 18) (by decide) dX4_duel_13 (fun z => absurd z (by decide)) (fun _ => ?_)
  refine G_iconst (pc := 16) (v := 0) (by decide) dX4_duel_16 ?_
  exact G_iret (pc := 17) (Nat.le_of_ble_eq_true rfl) (Nat.le_of_ble_eq_true rfl) rfl dX4_duel_17 ⟨rfl, rfl⟩
set_option maxRecDepth 100000 in
set_option maxHeartbeats 4000000 in
theorem s268_X1_restore  (d : Nat)   : G (d + 1) mX1_restore 0 0 0 0 0 (gent 3 [.ref 19, .int 2]) [] SH0 RF0 (gup (gup (gup (gup (gcp (gup (gup (gup (gup (gcp (gup (gup (gup (gup (gcp (gup I0 54 0 0) 24 34 (0 : Int32).toNatClampNeg (0 : Int32).toNatClampNeg (6 : Int32).toNatClampNeg) 34 6 0) 34 7 0) 19 1 1) 54 1 0) 24 34 (0 : Int32).toNatClampNeg (8 : Int32).toNatClampNeg (6 : Int32).toNatClampNeg) 34 14 0) 34 15 1) 19 1 2) 54 2 0) 24 34 (0 : Int32).toNatClampNeg (16 : Int32).toNatClampNeg (6 : Int32).toNatClampNeg) 34 22 0) 34 23 2) 19 1 3) 54 3 0) (fun r h => r = none ∧ h = (SH0, RF0, (gup (gup (gcp (gup (gup (gup (gup (gcp (gup (gup (gup (gup (gcp (gup (gup (gup (gup (gcp (gup I0 54 0 0) 24 34 (0 : Int32).toNatClampNeg (0 : Int32).toNatClampNeg (6 : Int32).toNatClampNeg) 34 6 0) 34 7 0) 19 1 1) 54 1 0) 24 34 (0 : Int32).toNatClampNeg (8 : Int32).toNatClampNeg (6 : Int32).toNatClampNeg) 34 14 0) 34 15 1) 19 1 2) 54 2 0) 24 34 (0 : Int32).toNatClampNeg (16 : Int32).toNatClampNeg (6 : Int32).toNatClampNeg) 34 22 0) 34 23 2) 19 1 3) 54 3 0) 34 24 (16 : Int32).toNatClampNeg (0 : Int32).toNatClampNeg (6 : Int32).toNatClampNeg) 19 9 0) 19 1 2))) := by
  refine G_iload_n (pc := 0) rfl dX1_restore_0 ?_
  refine G_bipush (pc := 1) (v := 8) (by decide) dX1_restore_1 ?_
  refine G_imul (pc := 3) (z := 16) (by decide) dX1_restore_3 ?_
  refine G_istore_n (pc := 4) (L1 := [some (.ref 19), some (.int 2), some (.int 16)]) rfl rfl (by decide) dX1_restore_4 ?_
  refine G_aload_n (pc := 5) rfl dX1_restore_5 ?_
  refine G_getR (pc := 6) (r := 34) (ci := 1) (j := 18) rfl lk_RX1_53 rfl rfl rfl dX1_restore_6 ?_
  refine G_iload_n (pc := 9) rfl dX1_restore_9 ?_
  refine G_aload_n (pc := 10) rfl dX1_restore_10 ?_
  refine G_getR (pc := 11) (r := 24) (ci := 1) (j := 11) rfl lk_RX1_31 rfl rfl rfl dX1_restore_11 ?_
  refine G_iconst (pc := 14) (v := 0) (by decide) dX1_restore_14 ?_
  refine G_bipush (pc := 15) (v := 6) (by decide) dX1_restore_15 ?_
  refine G_copy (pc := 17) (x := 34) (y := 24) rfl rfl (by decide) (by decide) (by decide) (by decide) (by decide) wf_50 wf_51 wf_52 wf_53 (Nat.le_of_ble_eq_true rfl) dX1_restore_17 ?_
  refine G_aload_n (pc := 20) rfl dX1_restore_20 ?_
  refine G_aload_n (pc := 21) rfl dX1_restore_21 ?_
  refine G_getR (pc := 22) (r := 34) (ci := 1) (j := 18) rfl lk_RX1_53 rfl rfl rfl dX1_restore_22 ?_
  refine G_iload_n (pc := 25) rfl dX1_restore_25 ?_
  refine G_bipush (pc := 26) (v := 6) (by decide) dX1_restore_26 ?_
  refine G_iadd (pc := 28) (z := 22) (by decide) dX1_restore_28 ?_
  refine G_iald (pc := 29) (jj := 22) (v := 0) (by decide) rfl rfl (by unfold vp_in; decide) dX1_restore_29 ?_
  refine G_putI (pc := 30) (ci := 1) (j := 9) rfl lk_RX1_75 rfl rfl rfl trivial dX1_restore_30 ?_
  refine G_aload_n (pc := 33) rfl dX1_restore_33 ?_
  refine G_aload_n (pc := 34) rfl dX1_restore_34 ?_
  refine G_getR (pc := 35) (r := 34) (ci := 1) (j := 18) rfl lk_RX1_53 rfl rfl rfl dX1_restore_35 ?_
  refine G_iload_n (pc := 38) rfl dX1_restore_38 ?_
  refine G_bipush (pc := 39) (v := 6) (by decide) dX1_restore_39 ?_
  refine G_iadd (pc := 41) (z := 22) (by decide) dX1_restore_41 ?_
  refine G_iconst (pc := 42) (v := 1) (by decide) dX1_restore_42 ?_
  refine G_iadd (pc := 43) (z := 23) (by decide) dX1_restore_43 ?_
  refine G_iald (pc := 44) (jj := 23) (v := 2) (by decide) rfl rfl (by unfold vp_in; decide) dX1_restore_44 ?_
  refine G_putI (pc := 45) (ci := 1) (j := 1) rfl lk_RX1_60 rfl rfl rfl trivial dX1_restore_45 ?_
  exact G_vret (pc := 48) (Nat.le_of_ble_eq_true rfl) (Nat.le_of_ble_eq_true rfl) rfl dX1_restore_48 ⟨rfl, rfl⟩
set_option maxRecDepth 100000 in
set_option maxHeartbeats 4000000 in
theorem s259_X4_duel  (d : Nat)   : G (d + 2) mX4_duel 0 0 0 0 0 (gent 8 [.ref 51, .int 2, .int 1]) [] SH0 RF0 (gup (gup (gup (gcp (gup (gup (gup (gup (gcp (gup I0 54 0 0) 24 34 (0 : Int32).toNatClampNeg (0 : Int32).toNatClampNeg (6 : Int32).toNatClampNeg) 34 6 0) 34 7 0) 19 1 1) 54 1 0) 24 34 (0 : Int32).toNatClampNeg (8 : Int32).toNatClampNeg (6 : Int32).toNatClampNeg) 34 14 0) 34 15 1) 19 1 2) (fun r h => r = some (.int 0) ∧ h = (SH0, RF0, (gup (gup (gup (gcp (gup (gup (gup (gup (gcp (gup (gup (gup (gup (gcp (gup (gup (gup (gup (gcp (gup I0 54 0 0) 24 34 (0 : Int32).toNatClampNeg (0 : Int32).toNatClampNeg (6 : Int32).toNatClampNeg) 34 6 0) 34 7 0) 19 1 1) 54 1 0) 24 34 (0 : Int32).toNatClampNeg (8 : Int32).toNatClampNeg (6 : Int32).toNatClampNeg) 34 14 0) 34 15 1) 19 1 2) 54 2 0) 24 34 (0 : Int32).toNatClampNeg (16 : Int32).toNatClampNeg (6 : Int32).toNatClampNeg) 34 22 0) 34 23 2) 19 1 3) 54 3 0) 34 24 (16 : Int32).toNatClampNeg (0 : Int32).toNatClampNeg (6 : Int32).toNatClampNeg) 19 9 0) 19 1 2) 54 2 0))) := by
  refine G_aload_n (pc := 0) rfl dX4_duel_0 ?_
  refine G_getR (pc := 1) (r := 54) (ci := 4) (j := 3) rfl lk_RX4_18 rfl rfl rfl dX4_duel_1 ?_
  refine G_iload_n (pc := 4) rfl dX4_duel_4 ?_
  refine G_iconst (pc := 5) (v := 0) (by decide) dX4_duel_5 ?_
  refine G_iast (pc := 6) (jj := 2) (by decide) rfl (by unfold vp_in; decide) dX4_duel_6 ?_
  refine G_aload_n (pc := 7) rfl dX4_duel_7 ?_
  refine G_iload_n (pc := 8) rfl dX4_duel_8 ?_
  refine G_iload_n (pc := 9) rfl dX4_duel_9 ?_
  refine G_callV (pc := 10) (mc1 := 0) (ms1 := 0) (ci := 4) (mj := mX4_isLast) (vs := [_, _]) dX4_duel_10 rfl rfl cm_X4_isLast wf_126 wf_129 wf_130 rfl (Nat.le_of_ble_eq_true rfl) (Nat.le_of_ble_eq_true rfl) (Nat.le_of_ble_eq_true rfl) (Nat.le_of_ble_eq_true rfl) (s260_X4_isLast  d  ) ?_
  rintro _ _ ⟨rfl, rfl⟩
  dsimp only [Option.toList, List.cons_append, List.nil_append]
  refine G_if_eq (pc := 13) (tgt := 18) (by decide) dX4_duel_13 (fun _ => ?_) (fun z => absurd (by decide) z)
  refine G_iload_n (pc := 18) rfl dX4_duel_18 ?_
  refine G_iconst (pc := 19) (v := 2) (by decide) dX4_duel_19 ?_
  refine G_irem (pc := 20) (z := 0) (by decide) (by decide) dX4_duel_20 ?_
  refine G_if_ne (pc := 21) (tgt := 28) (by decide) dX4_duel_21 (fun z => absurd (by decide) z) (fun _ => ?_)
  refine G_iconst (pc := 24) (v := 1) (by decide) dX4_duel_24 ?_
  refine G_goto (pc := 25) (tgt := 29) (by decide) dX4_duel_25 ?_
  refine G_istore_n (pc := 29) (L1 := [some (.ref 51), some (.int 2), some (.int 1), some (.int 1), none, none, none, none]) rfl rfl (by decide) dX4_duel_29 ?_
  refine G_iconst (pc := 30) (v := 0) (by decide) dX4_duel_30 ?_
  refine G_istore (pc := 31) (L1 := [some (.ref 51), some (.int 2), some (.int 1), some (.int 1), some (.int 0), none, none, none]) rfl rfl (by decide) dX4_duel_31 ?_
  refine G_aload_n (pc := 33) rfl dX4_duel_33 ?_
  refine G_getR (pc := 34) (r := 19) (ci := 4) (j := 0) rfl lk_RX4_21 rfl rfl rfl dX4_duel_34 ?_
  refine G_iload_n (pc := 37) rfl dX4_duel_37 ?_
  refine G_callV (pc := 38) (mc1 := 0) (ms1 := 0) (ci := 1) (mj := mX1_save) (vs := [_]) dX4_duel_38 rfl rfl cm_X1_save wf_134 wf_105 wf_106 rfl (Nat.le_of_ble_eq_true rfl) (Nat.le_of_ble_eq_true rfl) (Nat.le_of_ble_eq_true rfl) (Nat.le_of_ble_eq_true rfl) (s262_X1_save  d  ) ?_
  rintro _ _ ⟨rfl, rfl⟩
  dsimp only [Option.toList, List.cons_append, List.nil_append]
  refine G_iconst (pc := 41) (v := 0) (by decide) dX4_duel_41 ?_
  refine G_istore (pc := 42) (L1 := [some (.ref 51), some (.int 2), some (.int 1), some (.int 1), some (.int 0), some (.int 0), none, none]) rfl rfl (by decide) dX4_duel_42 ?_
  refine G_iload (pc := 44) rfl dX4_duel_44 ?_
  refine G_aload_n (pc := 46) rfl dX4_duel_46 ?_
  refine G_getR (pc := 47) (r := 19) (ci := 4) (j := 0) rfl lk_RX4_21 rfl rfl rfl dX4_duel_47 ?_
  refine G_getI (pc := 50) (v := 0) (ci := 1) (j := 8) rfl rfl lk_RX4_39 rfl rfl dX4_duel_50 ?_
  refine G_icmp_gt (pc := 53) (tgt := 156) (by decide) dX4_duel_53 (fun z => absurd z (by decide)) (fun _ => ?_)
  refine G_aload_n (pc := 56) rfl dX4_duel_56 ?_
  refine G_getR (pc := 57) (r := 19) (ci := 4) (j := 0) rfl lk_RX4_21 rfl rfl rfl dX4_duel_57 ?_
  refine G_iload (pc := 60) rfl dX4_duel_60 ?_
  refine G_callV (pc := 62) (mc1 := 0) (ms1 := 0) (ci := 1) (mj := mX1_tell) (vs := [_]) dX4_duel_62 rfl rfl cm_X1_tell wf_135 wf_71 wf_72 rfl (Nat.le_of_ble_eq_true rfl) (Nat.le_of_ble_eq_true rfl) (Nat.le_of_ble_eq_true rfl) (Nat.le_of_ble_eq_true rfl) (s263_X1_tell  d  ) ?_
  rintro _ _ ⟨rfl, rfl⟩
  dsimp only [Option.toList, List.cons_append, List.nil_append]
  refine G_istore (pc := 65) (L1 := [some (.ref 51), some (.int 2), some (.int 1), some (.int 1), some (.int 0), some (.int 0), some (.int 0), none]) rfl rfl (by decide) dX4_duel_65 ?_
  refine G_iload (pc := 67) rfl dX4_duel_67 ?_
  refine G_if_eq (pc := 69) (tgt := 77) (by decide) dX4_duel_69 (fun _ => ?_) (fun z => absurd (by decide) z)
  refine G_iload (pc := 77) rfl dX4_duel_77 ?_
  refine G_aload_n (pc := 79) rfl dX4_duel_79 ?_
  refine G_getR (pc := 80) (r := 19) (ci := 4) (j := 0) rfl lk_RX4_21 rfl rfl rfl dX4_duel_80 ?_
  refine G_callV (pc := 83) (mc1 := 0) (ms1 := 0) (ci := 1) (mj := mX1_melt) (vs := []) dX4_duel_83 rfl rfl cm_X1_melt wf_136 wf_75 wf_76 rfl (Nat.le_of_ble_eq_true rfl) (Nat.le_of_ble_eq_true rfl) (Nat.le_of_ble_eq_true rfl) (Nat.le_of_ble_eq_true rfl) (s265_X1_melt  (d + 1)  ) ?_
  rintro _ _ ⟨rfl, rfl⟩
  dsimp only [Option.toList, List.cons_append, List.nil_append]
  refine G_iadd (pc := 86) (z := 0) (by decide) dX4_duel_86 ?_
  refine G_istore (pc := 87) (L1 := [some (.ref 51), some (.int 2), some (.int 1), some (.int 1), some (.int 0), some (.int 0), some (.int 0), some (.int 0)]) rfl rfl (by decide) dX4_duel_87 ?_
  refine G_iload (pc := 89) rfl dX4_duel_89 ?_
  refine G_aload_n (pc := 91) rfl dX4_duel_91 ?_
  refine G_iload_n (pc := 92) rfl dX4_duel_92 ?_
  refine G_iconst (pc := 93) (v := 1) (by decide) dX4_duel_93 ?_
  refine G_iadd (pc := 94) (z := 3) (by decide) dX4_duel_94 ?_
  refine G_iload_n (pc := 95) rfl dX4_duel_95 ?_
  refine G_iconst (pc := 96) (v := 1) (by decide) dX4_duel_96 ?_
  refine G_isub (pc := 97) (z := 0) (by decide) dX4_duel_97 ?_
  refine G_callV (pc := 98) (mc1 := 0) (ms1 := 0) (ci := 4) (mj := mX4_duel) (vs := [_, _]) dX4_duel_98 rfl rfl cm_X4_duel wf_168 wf_170 wf_171 rfl (Nat.le_of_ble_eq_true rfl) (Nat.le_of_ble_eq_true rfl) (Nat.le_of_ble_eq_true rfl) (Nat.le_of_ble_eq_true rfl) (s266_X4_duel  d  ) ?_
  rintro _ _ ⟨rfl, rfl⟩
  dsimp only [Option.toList, List.cons_append, List.nil_append]
  refine G_iadd (pc := 101) (z := 0) (by decide) dX4_duel_101 ?_
  refine G_istore (pc := 102) (L1 := [some (.ref 51), some (.int 2), some (.int 1), some (.int 1), some (.int 0), some (.int 0), some (.int 0), some (.int 0)]) rfl rfl (by decide) dX4_duel_102 ?_
  refine G_aload_n (pc := 104) rfl dX4_duel_104 ?_
  refine G_getR (pc := 105) (r := 19) (ci := 4) (j := 0) rfl lk_RX4_21 rfl rfl rfl dX4_duel_105 ?_
  refine G_iload_n (pc := 108) rfl dX4_duel_108 ?_
  refine G_callV (pc := 109) (mc1 := 0) (ms1 := 0) (ci := 1) (mj := mX1_restore) (vs := [_]) dX4_duel_109 rfl rfl cm_X1_restore wf_138 wf_109 wf_110 rfl (Nat.le_of_ble_eq_true rfl) (Nat.le_of_ble_eq_true rfl) (Nat.le_of_ble_eq_true rfl) (Nat.le_of_ble_eq_true rfl) (s268_X1_restore  d  ) ?_
  rintro _ _ ⟨rfl, rfl⟩
  dsimp only [Option.toList, List.cons_append, List.nil_append]
  refine G_iload (pc := 112) rfl dX4_duel_112 ?_
  refine G_if_eq (pc := 114) (tgt := 138) (by decide) dX4_duel_114 (fun _ => ?_) (fun z => absurd (by decide) z)
  refine G_iload (pc := 138) rfl dX4_duel_138 ?_
  refine G_istore (pc := 140) (L1 := [some (.ref 51), some (.int 2), some (.int 1), some (.int 1), some (.int 0), some (.int 0), some (.int 0), some (.int 0)]) rfl rfl (by decide) dX4_duel_140 ?_
  refine G_aload_n (pc := 142) rfl dX4_duel_142 ?_
  refine G_getR (pc := 143) (r := 54) (ci := 4) (j := 3) rfl lk_RX4_18 rfl rfl rfl dX4_duel_143 ?_
  refine G_iload_n (pc := 146) rfl dX4_duel_146 ?_
  refine G_iload (pc := 147) rfl dX4_duel_147 ?_
  refine G_iast (pc := 149) (jj := 2) (by decide) rfl (by unfold vp_in; decide) dX4_duel_149 ?_
  refine G_iinc (pc := 150) (v := 1) (w := 1) (L1 := [some (.ref 51), some (.int 2), some (.int 1), some (.int 1), some (.int 0), some (.int 1), some (.int 0), some (.int 0)]) (by decide) rfl rfl (by decide) rfl (by decide) dX4_duel_150 ?_
  refine G_goto (pc := 153) (tgt := 44) (by decide) dX4_duel_153 ?_
  refine G_iload (pc := 44) rfl dX4_duel_44 ?_
  refine G_aload_n (pc := 46) rfl dX4_duel_46 ?_
  refine G_getR (pc := 47) (r := 19) (ci := 4) (j := 0) rfl lk_RX4_21 rfl rfl rfl dX4_duel_47 ?_
  refine G_getI (pc := 50) (v := 0) (ci := 1) (j := 8) rfl rfl lk_RX4_39 rfl rfl dX4_duel_50 ?_
  refine G_icmp_gt (pc := 53) (tgt := 156) (by decide) dX4_duel_53 (fun _ => ?_) (fun z => absurd (by decide) z)
  refine G_iload (pc := 156) rfl dX4_duel_156 ?_
  exact G_iret (pc := 158) (Nat.le_of_ble_eq_true rfl) (Nat.le_of_ble_eq_true rfl) rfl dX4_duel_158 ⟨rfl, rfl⟩
set_option maxRecDepth 100000 in
set_option maxHeartbeats 4000000 in
theorem s269_X1_restore  (d : Nat)   : G (d + 1) mX1_restore 0 0 0 0 0 (gent 3 [.ref 19, .int 1]) [] SH0 RF0 (gup (gup (gup (gcp (gup (gup (gup (gup (gcp (gup (gup (gup (gup (gcp (gup (gup (gup (gup (gcp (gup I0 54 0 0) 24 34 (0 : Int32).toNatClampNeg (0 : Int32).toNatClampNeg (6 : Int32).toNatClampNeg) 34 6 0) 34 7 0) 19 1 1) 54 1 0) 24 34 (0 : Int32).toNatClampNeg (8 : Int32).toNatClampNeg (6 : Int32).toNatClampNeg) 34 14 0) 34 15 1) 19 1 2) 54 2 0) 24 34 (0 : Int32).toNatClampNeg (16 : Int32).toNatClampNeg (6 : Int32).toNatClampNeg) 34 22 0) 34 23 2) 19 1 3) 54 3 0) 34 24 (16 : Int32).toNatClampNeg (0 : Int32).toNatClampNeg (6 : Int32).toNatClampNeg) 19 9 0) 19 1 2) 54 2 0) (fun r h => r = none ∧ h = (SH0, RF0, (gup (gup (gcp (gup (gup (gup (gcp (gup (gup (gup (gup (gcp (gup (gup (gup (gup (gcp (gup (gup (gup (gup (gcp (gup I0 54 0 0) 24 34 (0 : Int32).toNatClampNeg (0 : Int32).toNatClampNeg (6 : Int32).toNatClampNeg) 34 6 0) 34 7 0) 19 1 1) 54 1 0) 24 34 (0 : Int32).toNatClampNeg (8 : Int32).toNatClampNeg (6 : Int32).toNatClampNeg) 34 14 0) 34 15 1) 19 1 2) 54 2 0) 24 34 (0 : Int32).toNatClampNeg (16 : Int32).toNatClampNeg (6 : Int32).toNatClampNeg) 34 22 0) 34 23 2) 19 1 3) 54 3 0) 34 24 (16 : Int32).toNatClampNeg (0 : Int32).toNatClampNeg (6 : Int32).toNatClampNeg) 19 9 0) 19 1 2) 54 2 0) 34 24 (8 : Int32).toNatClampNeg (0 : Int32).toNatClampNeg (6 : Int32).toNatClampNeg) 19 9 0) 19 1 1))) := by
  refine G_iload_n (pc := 0) rfl dX1_restore_0 ?_
  refine G_bipush (pc := 1) (v := 8) (by decide) dX1_restore_1 ?_
  refine G_imul (pc := 3) (z := 8) (by decide) dX1_restore_3 ?_
  refine G_istore_n (pc := 4) (L1 := [some (.ref 19), some (.int 1), some (.int 8)]) rfl rfl (by decide) dX1_restore_4 ?_
  refine G_aload_n (pc := 5) rfl dX1_restore_5 ?_
  refine G_getR (pc := 6) (r := 34) (ci := 1) (j := 18) rfl lk_RX1_53 rfl rfl rfl dX1_restore_6 ?_
  refine G_iload_n (pc := 9) rfl dX1_restore_9 ?_
  refine G_aload_n (pc := 10) rfl dX1_restore_10 ?_
  refine G_getR (pc := 11) (r := 24) (ci := 1) (j := 11) rfl lk_RX1_31 rfl rfl rfl dX1_restore_11 ?_
  refine G_iconst (pc := 14) (v := 0) (by decide) dX1_restore_14 ?_
  refine G_bipush (pc := 15) (v := 6) (by decide) dX1_restore_15 ?_
  refine G_copy (pc := 17) (x := 34) (y := 24) rfl rfl (by decide) (by decide) (by decide) (by decide) (by decide) wf_50 wf_51 wf_52 wf_53 (Nat.le_of_ble_eq_true rfl) dX1_restore_17 ?_
  refine G_aload_n (pc := 20) rfl dX1_restore_20 ?_
  refine G_aload_n (pc := 21) rfl dX1_restore_21 ?_
  refine G_getR (pc := 22) (r := 34) (ci := 1) (j := 18) rfl lk_RX1_53 rfl rfl rfl dX1_restore_22 ?_
  refine G_iload_n (pc := 25) rfl dX1_restore_25 ?_
  refine G_bipush (pc := 26) (v := 6) (by decide) dX1_restore_26 ?_
  refine G_iadd (pc := 28) (z := 14) (by decide) dX1_restore_28 ?_
  refine G_iald (pc := 29) (jj := 14) (v := 0) (by decide) rfl rfl (by unfold vp_in; decide) dX1_restore_29 ?_
  refine G_putI (pc := 30) (ci := 1) (j := 9) rfl lk_RX1_75 rfl rfl rfl trivial dX1_restore_30 ?_
  refine G_aload_n (pc := 33) rfl dX1_restore_33 ?_
  refine G_aload_n (pc := 34) rfl dX1_restore_34 ?_
  refine G_getR (pc := 35) (r := 34) (ci := 1) (j := 18) rfl lk_RX1_53 rfl rfl rfl dX1_restore_35 ?_
  refine G_iload_n (pc := 38) rfl dX1_restore_38 ?_
  refine G_bipush (pc := 39) (v := 6) (by decide) dX1_restore_39 ?_
  refine G_iadd (pc := 41) (z := 14) (by decide) dX1_restore_41 ?_
  refine G_iconst (pc := 42) (v := 1) (by decide) dX1_restore_42 ?_
  refine G_iadd (pc := 43) (z := 15) (by decide) dX1_restore_43 ?_
  refine G_iald (pc := 44) (jj := 15) (v := 1) (by decide) rfl rfl (by unfold vp_in; decide) dX1_restore_44 ?_
  refine G_putI (pc := 45) (ci := 1) (j := 1) rfl lk_RX1_60 rfl rfl rfl trivial dX1_restore_45 ?_
  exact G_vret (pc := 48) (Nat.le_of_ble_eq_true rfl) (Nat.le_of_ble_eq_true rfl) rfl dX1_restore_48 ⟨rfl, rfl⟩
set_option maxRecDepth 100000 in
set_option maxHeartbeats 4000000 in
theorem s257_X4_duel  (d : Nat)   : G (d + 3) mX4_duel 0 0 0 0 0 (gent 8 [.ref 51, .int 1, .int 2]) [] SH0 RF0 (gup (gup (gup (gcp (gup I0 54 0 0) 24 34 (0 : Int32).toNatClampNeg (0 : Int32).toNatClampNeg (6 : Int32).toNatClampNeg) 34 6 0) 34 7 0) 19 1 1) (fun r h => r = some (.int 0) ∧ h = (SH0, RF0, (gup (gup (gup (gcp (gup (gup (gup (gcp (gup (gup (gup (gup (gcp (gup (gup (gup (gup (gcp (gup (gup (gup (gup (gcp (gup I0 54 0 0) 24 34 (0 : Int32).toNatClampNeg (0 : Int32).toNatClampNeg (6 : Int32).toNatClampNeg) 34 6 0) 34 7 0) 19 1 1) 54 1 0) 24 34 (0 : Int32).toNatClampNeg (8 : Int32).toNatClampNeg (6 : Int32).toNatClampNeg) 34 14 0) 34 15 1) 19 1 2) 54 2 0) 24 34 (0 : Int32).toNatClampNeg (16 : Int32).toNatClampNeg (6 : Int32).toNatClampNeg) 34 22 0) 34 23 2) 19 1 3) 54 3 0) 34 24 (16 : Int32).toNatClampNeg (0 : Int32).toNatClampNeg (6 : Int32).toNatClampNeg) 19 9 0) 19 1 2) 54 2 0) 34 24 (8 : Int32).toNatClampNeg (0 : Int32).toNatClampNeg (6 : Int32).toNatClampNeg) 19 9 0) 19 1 1) 54 1 0))) := by
  refine G_aload_n (pc := 0) rfl dX4_duel_0 ?_
  refine G_getR (pc := 1) (r := 54) (ci := 4) (j := 3) rfl lk_RX4_18 rfl rfl rfl dX4_duel_1 ?_
  refine G_iload_n (pc := 4) rfl dX4_duel_4 ?_
  refine G_iconst (pc := 5) (v := 0) (by decide) dX4_duel_5 ?_
  refine G_iast (pc := 6) (jj := 1) (by decide) rfl (by unfold vp_in; decide) dX4_duel_6 ?_
  refine G_aload_n (pc := 7) rfl dX4_duel_7 ?_
  refine G_iload_n (pc := 8) rfl dX4_duel_8 ?_
  refine G_iload_n (pc := 9) rfl dX4_duel_9 ?_
  refine G_callV (pc := 10) (mc1 := 0) (ms1 := 0) (ci := 4) (mj := mX4_isLast) (vs := [_, _]) dX4_duel_10 rfl rfl cm_X4_isLast wf_126 wf_129 wf_130 rfl (Nat.le_of_ble_eq_true rfl) (Nat.le_of_ble_eq_true rfl) (Nat.le_of_ble_eq_true rfl) (Nat.le_of_ble_eq_true rfl) (s258_X4_isLast  (d + 1)  ) ?_
  rintro _ _ ⟨rfl, rfl⟩
  dsimp only [Option.toList, List.cons_append, List.nil_append]
  refine G_if_eq (pc := 13) (tgt := 18) (by decide) dX4_duel_13 (fun _ => ?_) (fun z => absurd (by decide) z)
  refine G_iload_n (pc := 18) rfl dX4_duel_18 ?_
  refine G_iconst (pc := 19) (v := 2) (by decide) dX4_duel_19 ?_
  refine G_irem (pc := 20) (z := 1) (by decide) (by decide) dX4_duel_20 ?_
  refine G_if_ne (pc := 21) (tgt := 28) (by decide) dX4_duel_21 (fun _ => ?_) (fun z => absurd z (by decide))
  refine G_iconst (pc := 28) (v := 0) (by decide) dX4_duel_28 ?_
  refine G_istore_n (pc := 29) (L1 := [some (.ref 51), some (.int 1), some (.int 2), some (.int 0), none, none, none, none]) rfl rfl (by decide) dX4_duel_29 ?_
  refine G_iconst (pc := 30) (v := 0) (by decide) dX4_duel_30 ?_
  refine G_istore (pc := 31) (L1 := [some (.ref 51), some (.int 1), some (.int 2), some (.int 0), some (.int 0), none, none, none]) rfl rfl (by decide) dX4_duel_31 ?_
  refine G_aload_n (pc := 33) rfl dX4_duel_33 ?_
  refine G_getR (pc := 34) (r := 19) (ci := 4) (j := 0) rfl lk_RX4_21 rfl rfl rfl dX4_duel_34 ?_
  refine G_iload_n (pc := 37) rfl dX4_duel_37 ?_
  refine G_callV (pc := 38) (mc1 := 0) (ms1 := 0) (ci := 1) (mj := mX1_save) (vs := [_]) dX4_duel_38 rfl rfl cm_X1_save wf_134 wf_105 wf_106 rfl (Nat.le_of_ble_eq_true rfl) (Nat.le_of_ble_eq_true rfl) (Nat.le_of_ble_eq_true rfl) (Nat.le_of_ble_eq_true rfl) (s247_X1_save  (d + 1)  ) ?_
  rintro _ _ ⟨rfl, rfl⟩
  dsimp only [Option.toList, List.cons_append, List.nil_append]
  refine G_iconst (pc := 41) (v := 0) (by decide) dX4_duel_41 ?_
  refine G_istore (pc := 42) (L1 := [some (.ref 51), some (.int 1), some (.int 2), some (.int 0), some (.int 0), some (.int 0), none, none]) rfl rfl (by decide) dX4_duel_42 ?_
  refine G_iload (pc := 44) rfl dX4_duel_44 ?_
  refine G_aload_n (pc := 46) rfl dX4_duel_46 ?_
  refine G_getR (pc := 47) (r := 19) (ci := 4) (j := 0) rfl lk_RX4_21 rfl rfl rfl dX4_duel_47 ?_
  refine G_getI (pc := 50) (v := 0) (ci := 1) (j := 8) rfl rfl lk_RX4_39 rfl rfl dX4_duel_50 ?_
  refine G_icmp_gt (pc := 53) (tgt := 156) (by decide) dX4_duel_53 (fun z => absurd z (by decide)) (fun _ => ?_)
  refine G_aload_n (pc := 56) rfl dX4_duel_56 ?_
  refine G_getR (pc := 57) (r := 19) (ci := 4) (j := 0) rfl lk_RX4_21 rfl rfl rfl dX4_duel_57 ?_
  refine G_iload (pc := 60) rfl dX4_duel_60 ?_
  refine G_callV (pc := 62) (mc1 := 0) (ms1 := 0) (ci := 1) (mj := mX1_tell) (vs := [_]) dX4_duel_62 rfl rfl cm_X1_tell wf_135 wf_71 wf_72 rfl (Nat.le_of_ble_eq_true rfl) (Nat.le_of_ble_eq_true rfl) (Nat.le_of_ble_eq_true rfl) (Nat.le_of_ble_eq_true rfl) (s248_X1_tell  (d + 1)  ) ?_
  rintro _ _ ⟨rfl, rfl⟩
  dsimp only [Option.toList, List.cons_append, List.nil_append]
  refine G_istore (pc := 65) (L1 := [some (.ref 51), some (.int 1), some (.int 2), some (.int 0), some (.int 0), some (.int 0), some (.int 0), none]) rfl rfl (by decide) dX4_duel_65 ?_
  refine G_iload (pc := 67) rfl dX4_duel_67 ?_
  refine G_if_eq (pc := 69) (tgt := 77) (by decide) dX4_duel_69 (fun _ => ?_) (fun z => absurd (by decide) z)
  refine G_iload (pc := 77) rfl dX4_duel_77 ?_
  refine G_aload_n (pc := 79) rfl dX4_duel_79 ?_
  refine G_getR (pc := 80) (r := 19) (ci := 4) (j := 0) rfl lk_RX4_21 rfl rfl rfl dX4_duel_80 ?_
  refine G_callV (pc := 83) (mc1 := 0) (ms1 := 0) (ci := 1) (mj := mX1_melt) (vs := []) dX4_duel_83 rfl rfl cm_X1_melt wf_136 wf_75 wf_76 rfl (Nat.le_of_ble_eq_true rfl) (Nat.le_of_ble_eq_true rfl) (Nat.le_of_ble_eq_true rfl) (Nat.le_of_ble_eq_true rfl) (s250_X1_melt  (d + 2)  ) ?_
  rintro _ _ ⟨rfl, rfl⟩
  dsimp only [Option.toList, List.cons_append, List.nil_append]
  refine G_iadd (pc := 86) (z := 0) (by decide) dX4_duel_86 ?_
  refine G_istore (pc := 87) (L1 := [some (.ref 51), some (.int 1), some (.int 2), some (.int 0), some (.int 0), some (.int 0), some (.int 0), some (.int 0)]) rfl rfl (by decide) dX4_duel_87 ?_
  refine G_iload (pc := 89) rfl dX4_duel_89 ?_
  refine G_aload_n (pc := 91) rfl dX4_duel_91 ?_
  refine G_iload_n (pc := 92) rfl dX4_duel_92 ?_
  refine G_iconst (pc := 93) (v := 1) (by decide) dX4_duel_93 ?_
  refine G_iadd (pc := 94) (z := 2) (by decide) dX4_duel_94 ?_
  refine G_iload_n (pc := 95) rfl dX4_duel_95 ?_
  refine G_iconst (pc := 96) (v := 1) (by decide) dX4_duel_96 ?_
  refine G_isub (pc := 97) (z := 1) (by decide) dX4_duel_97 ?_
  refine G_callV (pc := 98) (mc1 := 0) (ms1 := 0) (ci := 4) (mj := mX4_duel) (vs := [_, _]) dX4_duel_98 rfl rfl cm_X4_duel wf_168 wf_170 wf_171 rfl (Nat.le_of_ble_eq_true rfl) (Nat.le_of_ble_eq_true rfl) (Nat.le_of_ble_eq_true rfl) (Nat.le_of_ble_eq_true rfl) (s259_X4_duel  d  ) ?_
  rintro _ _ ⟨rfl, rfl⟩
  dsimp only [Option.toList, List.cons_append, List.nil_append]
  refine G_iadd (pc := 101) (z := 0) (by decide) dX4_duel_101 ?_
  refine G_istore (pc := 102) (L1 := [some (.ref 51), some (.int 1), some (.int 2), some (.int 0), some (.int 0), some (.int 0), some (.int 0), some (.int 0)]) rfl rfl (by decide) dX4_duel_102 ?_
  refine G_aload_n (pc := 104) rfl dX4_duel_104 ?_
  refine G_getR (pc := 105) (r := 19) (ci := 4) (j := 0) rfl lk_RX4_21 rfl rfl rfl dX4_duel_105 ?_
  refine G_iload_n (pc := 108) rfl dX4_duel_108 ?_
  refine G_callV (pc := 109) (mc1 := 0) (ms1 := 0) (ci := 1) (mj := mX1_restore) (vs := [_]) dX4_duel_109 rfl rfl cm_X1_restore wf_138 wf_109 wf_110 rfl (Nat.le_of_ble_eq_true rfl) (Nat.le_of_ble_eq_true rfl) (Nat.le_of_ble_eq_true rfl) (Nat.le_of_ble_eq_true rfl) (s269_X1_restore  (d + 1)  ) ?_
  rintro _ _ ⟨rfl, rfl⟩
  dsimp only [Option.toList, List.cons_append, List.nil_append]
  refine G_iload (pc := 112) rfl dX4_duel_112 ?_
  refine G_if_eq (pc := 114) (tgt := 138) (by decide) dX4_duel_114 (fun _ => ?_) (fun z => absurd (by decide) z)
  refine G_iload (pc := 138) rfl dX4_duel_138 ?_
  refine G_istore (pc := 140) (L1 := [some (.ref 51), some (.int 1), some (.int 2), some (.int 0), some (.int 0), some (.int 0), some (.int 0), some (.int 0)]) rfl rfl (by decide) dX4_duel_140 ?_
  refine G_aload_n (pc := 142) rfl dX4_duel_142 ?_
  refine G_getR (pc := 143) (r := 54) (ci := 4) (j := 3) rfl lk_RX4_18 rfl rfl rfl dX4_duel_143 ?_
  refine G_iload_n (pc := 146) rfl dX4_duel_146 ?_
  refine G_iload (pc := 147) rfl dX4_duel_147 ?_
  refine G_iast (pc := 149) (jj := 1) (by decide) rfl (by unfold vp_in; decide) dX4_duel_149 ?_
  refine G_iinc (pc := 150) (v := 1) (w := 1) (L1 := [some (.ref 51), some (.int 1), some (.int 2), some (.int 0), some (.int 0), some (.int 1), some (.int 0), some (.int 0)]) (by decide) rfl rfl (by decide) rfl (by decide) dX4_duel_150 ?_
  refine G_goto (pc := 153) (tgt := 44) (by decide) dX4_duel_153 ?_
  refine G_iload (pc := 44) rfl dX4_duel_44 ?_
  refine G_aload_n (pc := 46) rfl dX4_duel_46 ?_
  refine G_getR (pc := 47) (r := 19) (ci := 4) (j := 0) rfl lk_RX4_21 rfl rfl rfl dX4_duel_47 ?_
  refine G_getI (pc := 50) (v := 0) (ci := 1) (j := 8) rfl rfl lk_RX4_39 rfl rfl dX4_duel_50 ?_
  refine G_icmp_gt (pc := 53) (tgt := 156) (by decide) dX4_duel_53 (fun _ => ?_) (fun z => absurd (by decide) z)
  refine G_iload (pc := 156) rfl dX4_duel_156 ?_
  exact G_iret (pc := 158) (Nat.le_of_ble_eq_true rfl) (Nat.le_of_ble_eq_true rfl) rfl dX4_duel_158 ⟨rfl, rfl⟩
set_option maxRecDepth 100000 in
set_option maxHeartbeats 4000000 in
theorem s270_X1_restore  (d : Nat)   : G (d + 1) mX1_restore 0 0 0 0 0 (gent 3 [.ref 19, .int 0]) [] SH0 RF0 (gup (gup (gup (gcp (gup (gup (gup (gcp (gup (gup (gup (gup (gcp (gup (gup (gup (gup (gcp (gup (gup (gup (gup (gcp (gup I0 54 0 0) 24 34 (0 : Int32).toNatClampNeg (0 : Int32).toNatClampNeg (6 : Int32).toNatClampNeg) 34 6 0) 34 7 0) 19 1 1) 54 1 0) 24 34 (0 : Int32).toNatClampNeg (8 : Int32).toNatClampNeg (6 : Int32).toNatClampNeg) 34 14 0) 34 15 1) 19 1 2) 54 2 0) 24 34 (0 : Int32).toNatClampNeg (16 : Int32).toNatClampNeg (6 : Int32).toNatClampNeg) 34 22 0) 34 23 2) 19 1 3) 54 3 0) 34 24 (16 : Int32).toNatClampNeg (0 : Int32).toNatClampNeg (6 : Int32).toNatClampNeg) 19 9 0) 19 1 2) 54 2 0) 34 24 (8 : Int32).toNatClampNeg (0 : Int32).toNatClampNeg (6 : Int32).toNatClampNeg) 19 9 0) 19 1 1) 54 1 0) (fun r h => r = none ∧ h = (SH0, RF0, (gup (gup (gcp (gup (gup (gup (gcp (gup (gup (gup (gcp (gup (gup (gup (gup (gcp (gup (gup (gup (gup (gcp (gup (gup (gup (gup (gcp (gup I0 54 0 0) 24 34 (0 : Int32).toNatClampNeg (0 : Int32).toNatClampNeg (6 : Int32).toNatClampNeg) 34 6 0) 34 7 0) 19 1 1) 54 1 0) 24 34 (0 : Int32).toNatClampNeg (8 : Int32).toNatClampNeg (6 : Int32).toNatClampNeg) 34 14 0) 34 15 1) 19 1 2) 54 2 0) 24 34 (0 : Int32).toNatClampNeg (16 : Int32).toNatClampNeg (6 : Int32).toNatClampNeg) 34 22 0) 34 23 2) 19 1 3) 54 3 0) 34 24 (16 : Int32).toNatClampNeg (0 : Int32).toNatClampNeg (6 : Int32).toNatClampNeg) 19 9 0) 19 1 2) 54 2 0) 34 24 (8 : Int32).toNatClampNeg (0 : Int32).toNatClampNeg (6 : Int32).toNatClampNeg) 19 9 0) 19 1 1) 54 1 0) 34 24 (0 : Int32).toNatClampNeg (0 : Int32).toNatClampNeg (6 : Int32).toNatClampNeg) 19 9 0) 19 1 0))) := by
  refine G_iload_n (pc := 0) rfl dX1_restore_0 ?_
  refine G_bipush (pc := 1) (v := 8) (by decide) dX1_restore_1 ?_
  refine G_imul (pc := 3) (z := 0) (by decide) dX1_restore_3 ?_
  refine G_istore_n (pc := 4) (L1 := [some (.ref 19), some (.int 0), some (.int 0)]) rfl rfl (by decide) dX1_restore_4 ?_
  refine G_aload_n (pc := 5) rfl dX1_restore_5 ?_
  refine G_getR (pc := 6) (r := 34) (ci := 1) (j := 18) rfl lk_RX1_53 rfl rfl rfl dX1_restore_6 ?_
  refine G_iload_n (pc := 9) rfl dX1_restore_9 ?_
  refine G_aload_n (pc := 10) rfl dX1_restore_10 ?_
  refine G_getR (pc := 11) (r := 24) (ci := 1) (j := 11) rfl lk_RX1_31 rfl rfl rfl dX1_restore_11 ?_
  refine G_iconst (pc := 14) (v := 0) (by decide) dX1_restore_14 ?_
  refine G_bipush (pc := 15) (v := 6) (by decide) dX1_restore_15 ?_
  refine G_copy (pc := 17) (x := 34) (y := 24) rfl rfl (by decide) (by decide) (by decide) (by decide) (by decide) wf_50 wf_51 wf_52 wf_53 (Nat.le_of_ble_eq_true rfl) dX1_restore_17 ?_
  refine G_aload_n (pc := 20) rfl dX1_restore_20 ?_
  refine G_aload_n (pc := 21) rfl dX1_restore_21 ?_
  refine G_getR (pc := 22) (r := 34) (ci := 1) (j := 18) rfl lk_RX1_53 rfl rfl rfl dX1_restore_22 ?_
  refine G_iload_n (pc := 25) rfl dX1_restore_25 ?_
  refine G_bipush (pc := 26) (v := 6) (by decide) dX1_restore_26 ?_
  refine G_iadd (pc := 28) (z := 6) (by decide) dX1_restore_28 ?_
  refine G_iald (pc := 29) (jj := 6) (v := 0) (by decide) rfl rfl (by unfold vp_in; decide) dX1_restore_29 ?_
  refine G_putI (pc := 30) (ci := 1) (j := 9) rfl lk_RX1_75 rfl rfl rfl trivial dX1_restore_30 ?_
  refine G_aload_n (pc := 33) rfl dX1_restore_33 ?_
  refine G_aload_n (pc := 34) rfl dX1_restore_34 ?_
  refine G_getR (pc := 35) (r := 34) (ci := 1) (j := 18) rfl lk_RX1_53 rfl rfl rfl dX1_restore_35 ?_
  refine G_iload_n (pc := 38) rfl dX1_restore_38 ?_
  refine G_bipush (pc := 39) (v := 6) (by decide) dX1_restore_39 ?_
  refine G_iadd (pc := 41) (z := 6) (by decide) dX1_restore_41 ?_
  refine G_iconst (pc := 42) (v := 1) (by decide) dX1_restore_42 ?_
  refine G_iadd (pc := 43) (z := 7) (by decide) dX1_restore_43 ?_
  refine G_iald (pc := 44) (jj := 7) (v := 0) (by decide) rfl rfl (by unfold vp_in; decide) dX1_restore_44 ?_
  refine G_putI (pc := 45) (ci := 1) (j := 1) rfl lk_RX1_60 rfl rfl rfl trivial dX1_restore_45 ?_
  exact G_vret (pc := 48) (Nat.le_of_ble_eq_true rfl) (Nat.le_of_ble_eq_true rfl) rfl dX1_restore_48 ⟨rfl, rfl⟩
set_option maxRecDepth 100000 in
set_option maxHeartbeats 4000000 in
theorem s255_X4_duel  (d : Nat)   : G (d + 4) mX4_duel 0 0 0 0 0 (gent 8 [.ref 51, .int 0, .int 3]) [] SH0 RF0 I0 (fun r h => r = some (.int 0) ∧ h = (SH0, RF0, (gup (gup (gup (gcp (gup (gup (gup (gcp (gup (gup (gup (gcp (gup (gup (gup (gup (gcp (gup (gup (gup (gup (gcp (gup (gup (gup (gup (gcp (gup I0 54 0 0) 24 34 (0 : Int32).toNatClampNeg (0 : Int32).toNatClampNeg (6 : Int32).toNatClampNeg) 34 6 0) 34 7 0) 19 1 1) 54 1 0) 24 34 (0 : Int32).toNatClampNeg (8 : Int32).toNatClampNeg (6 : Int32).toNatClampNeg) 34 14 0) 34 15 1) 19 1 2) 54 2 0) 24 34 (0 : Int32).toNatClampNeg (16 : Int32).toNatClampNeg (6 : Int32).toNatClampNeg) 34 22 0) 34 23 2) 19 1 3) 54 3 0) 34 24 (16 : Int32).toNatClampNeg (0 : Int32).toNatClampNeg (6 : Int32).toNatClampNeg) 19 9 0) 19 1 2) 54 2 0) 34 24 (8 : Int32).toNatClampNeg (0 : Int32).toNatClampNeg (6 : Int32).toNatClampNeg) 19 9 0) 19 1 1) 54 1 0) 34 24 (0 : Int32).toNatClampNeg (0 : Int32).toNatClampNeg (6 : Int32).toNatClampNeg) 19 9 0) 19 1 0) 54 0 0))) := by
  refine G_aload_n (pc := 0) rfl dX4_duel_0 ?_
  refine G_getR (pc := 1) (r := 54) (ci := 4) (j := 3) rfl lk_RX4_18 rfl rfl rfl dX4_duel_1 ?_
  refine G_iload_n (pc := 4) rfl dX4_duel_4 ?_
  refine G_iconst (pc := 5) (v := 0) (by decide) dX4_duel_5 ?_
  refine G_iast (pc := 6) (jj := 0) (by decide) rfl (by unfold vp_in; decide) dX4_duel_6 ?_
  refine G_aload_n (pc := 7) rfl dX4_duel_7 ?_
  refine G_iload_n (pc := 8) rfl dX4_duel_8 ?_
  refine G_iload_n (pc := 9) rfl dX4_duel_9 ?_
  refine G_callV (pc := 10) (mc1 := 0) (ms1 := 0) (ci := 4) (mj := mX4_isLast) (vs := [_, _]) dX4_duel_10 rfl rfl cm_X4_isLast wf_126 wf_129 wf_130 rfl (Nat.le_of_ble_eq_true rfl) (Nat.le_of_ble_eq_true rfl) (Nat.le_of_ble_eq_true rfl) (Nat.le_of_ble_eq_true rfl) (s256_X4_isLast  (d + 2)  ) ?_
  rintro _ _ ⟨rfl, rfl⟩
  dsimp only [Option.toList, List.cons_append, List.nil_append]
  refine G_if_eq (pc := 13) (tgt := 18) (by decide) dX4_duel_13 (fun _ => ?_) (fun z => absurd (by decide) z)
  refine G_iload_n (pc := 18) rfl dX4_duel_18 ?_
  refine G_iconst (pc := 19) (v := 2) (by decide) dX4_duel_19 ?_
  refine G_irem (pc := 20) (z := 0) (by decide) (by decide) dX4_duel_20 ?_
  refine G_if_ne (pc := 21) (tgt := 28) (by decide) dX4_duel_21 (fun z => absurd (by decide) z) (fun _ => ?_)
  refine G_iconst (pc := 24) (v := 1) (by decide) dX4_duel_24 ?_
  refine G_goto (pc := 25) (tgt := 29) (by decide) dX4_duel_25 ?_
  refine G_istore_n (pc := 29) (L1 := [some (.ref 51), some (.int 0), some (.int 3), some (.int 1), none, none, none, none]) rfl rfl (by decide) dX4_duel_29 ?_
  refine G_iconst (pc := 30) (v := 0) (by decide) dX4_duel_30 ?_
  refine G_istore (pc := 31) (L1 := [some (.ref 51), some (.int 0), some (.int 3), some (.int 1), some (.int 0), none, none, none]) rfl rfl (by decide) dX4_duel_31 ?_
  refine G_aload_n (pc := 33) rfl dX4_duel_33 ?_
  refine G_getR (pc := 34) (r := 19) (ci := 4) (j := 0) rfl lk_RX4_21 rfl rfl rfl dX4_duel_34 ?_
  refine G_iload_n (pc := 37) rfl dX4_duel_37 ?_
  refine G_callV (pc := 38) (mc1 := 0) (ms1 := 0) (ci := 1) (mj := mX1_save) (vs := [_]) dX4_duel_38 rfl rfl cm_X1_save wf_134 wf_105 wf_106 rfl (Nat.le_of_ble_eq_true rfl) (Nat.le_of_ble_eq_true rfl) (Nat.le_of_ble_eq_true rfl) (Nat.le_of_ble_eq_true rfl) (s235_X1_save  (d + 2)  ) ?_
  rintro _ _ ⟨rfl, rfl⟩
  dsimp only [Option.toList, List.cons_append, List.nil_append]
  refine G_iconst (pc := 41) (v := 0) (by decide) dX4_duel_41 ?_
  refine G_istore (pc := 42) (L1 := [some (.ref 51), some (.int 0), some (.int 3), some (.int 1), some (.int 0), some (.int 0), none, none]) rfl rfl (by decide) dX4_duel_42 ?_
  refine G_iload (pc := 44) rfl dX4_duel_44 ?_
  refine G_aload_n (pc := 46) rfl dX4_duel_46 ?_
  refine G_getR (pc := 47) (r := 19) (ci := 4) (j := 0) rfl lk_RX4_21 rfl rfl rfl dX4_duel_47 ?_
  refine G_getI (pc := 50) (v := 0) (ci := 1) (j := 8) rfl rfl lk_RX4_39 rfl rfl dX4_duel_50 ?_
  refine G_icmp_gt (pc := 53) (tgt := 156) (by decide) dX4_duel_53 (fun z => absurd z (by decide)) (fun _ => ?_)
  refine G_aload_n (pc := 56) rfl dX4_duel_56 ?_
  refine G_getR (pc := 57) (r := 19) (ci := 4) (j := 0) rfl lk_RX4_21 rfl rfl rfl dX4_duel_57 ?_
  refine G_iload (pc := 60) rfl dX4_duel_60 ?_
  refine G_callV (pc := 62) (mc1 := 0) (ms1 := 0) (ci := 1) (mj := mX1_tell) (vs := [_]) dX4_duel_62 rfl rfl cm_X1_tell wf_135 wf_71 wf_72 rfl (Nat.le_of_ble_eq_true rfl) (Nat.le_of_ble_eq_true rfl) (Nat.le_of_ble_eq_true rfl) (Nat.le_of_ble_eq_true rfl) (s236_X1_tell  (d + 2)  ) ?_
  rintro _ _ ⟨rfl, rfl⟩
  dsimp only [Option.toList, List.cons_append, List.nil_append]
  refine G_istore (pc := 65) (L1 := [some (.ref 51), some (.int 0), some (.int 3), some (.int 1), some (.int 0), some (.int 0), some (.int 0), none]) rfl rfl (by decide) dX4_duel_65 ?_
  refine G_iload (pc := 67) rfl dX4_duel_67 ?_
  refine G_if_eq (pc := 69) (tgt := 77) (by decide) dX4_duel_69 (fun _ => ?_) (fun z => absurd (by decide) z)
  refine G_iload (pc := 77) rfl dX4_duel_77 ?_
  refine G_aload_n (pc := 79) rfl dX4_duel_79 ?_
  refine G_getR (pc := 80) (r := 19) (ci := 4) (j := 0) rfl lk_RX4_21 rfl rfl rfl dX4_duel_80 ?_
  refine G_callV (pc := 83) (mc1 := 0) (ms1 := 0) (ci := 1) (mj := mX1_melt) (vs := []) dX4_duel_83 rfl rfl cm_X1_melt wf_136 wf_75 wf_76 rfl (Nat.le_of_ble_eq_true rfl) (Nat.le_of_ble_eq_true rfl) (Nat.le_of_ble_eq_true rfl) (Nat.le_of_ble_eq_true rfl) (s238_X1_melt  (d + 3)  ) ?_
  rintro _ _ ⟨rfl, rfl⟩
  dsimp only [Option.toList, List.cons_append, List.nil_append]
  refine G_iadd (pc := 86) (z := 0) (by decide) dX4_duel_86 ?_
  refine G_istore (pc := 87) (L1 := [some (.ref 51), some (.int 0), some (.int 3), some (.int 1), some (.int 0), some (.int 0), some (.int 0), some (.int 0)]) rfl rfl (by decide) dX4_duel_87 ?_
  refine G_iload (pc := 89) rfl dX4_duel_89 ?_
  refine G_aload_n (pc := 91) rfl dX4_duel_91 ?_
  refine G_iload_n (pc := 92) rfl dX4_duel_92 ?_
  refine G_iconst (pc := 93) (v := 1) (by decide) dX4_duel_93 ?_
  refine G_iadd (pc := 94) (z := 1) (by decide) dX4_duel_94 ?_
  refine G_iload_n (pc := 95) rfl dX4_duel_95 ?_
  refine G_iconst (pc := 96) (v := 1) (by decide) dX4_duel_96 ?_
  refine G_isub (pc := 97) (z := 2) (by decide) dX4_duel_97 ?_
  refine G_callV (pc := 98) (mc1 := 0) (ms1 := 0) (ci := 4) (mj := mX4_duel) (vs := [_, _]) dX4_duel_98 rfl rfl cm_X4_duel wf_168 wf_170 wf_171 rfl (Nat.le_of_ble_eq_true rfl) (Nat.le_of_ble_eq_true rfl) (Nat.le_of_ble_eq_true rfl) (Nat.le_of_ble_eq_true rfl) (s257_X4_duel  d  ) ?_
  rintro _ _ ⟨rfl, rfl⟩
  dsimp only [Option.toList, List.cons_append, List.nil_append]
  refine G_iadd (pc := 101) (z := 0) (by decide) dX4_duel_101 ?_
  refine G_istore (pc := 102) (L1 := [some (.ref 51), some (.int 0), some (.int 3), some (.int 1), some (.int 0), some (.int 0), some (.int 0), some (.int 0)]) rfl rfl (by decide) dX4_duel_102 ?_
  refine G_aload_n (pc := 104) rfl dX4_duel_104 ?_
  refine G_getR (pc := 105) (r := 19) (ci := 4) (j := 0) rfl lk_RX4_21 rfl rfl rfl dX4_duel_105 ?_
  refine G_iload_n (pc := 108) rfl dX4_duel_108 ?_
  refine G_callV (pc := 109) (mc1 := 0) (ms1 := 0) (ci := 1) (mj := mX1_restore) (vs := [_]) dX4_duel_109 rfl rfl cm_X1_restore wf_138 wf_109 wf_110 rfl (Nat.le_of_ble_eq_true rfl) (Nat.le_of_ble_eq_true rfl) (Nat.le_of_ble_eq_true rfl) (Nat.le_of_ble_eq_true rfl) (s270_X1_restore  (d + 2)  ) ?_
  rintro _ _ ⟨rfl, rfl⟩
  dsimp only [Option.toList, List.cons_append, List.nil_append]
  refine G_iload (pc := 112) rfl dX4_duel_112 ?_
  refine G_if_eq (pc := 114) (tgt := 138) (by decide) dX4_duel_114 (fun _ => ?_) (fun z => absurd (by decide) z)
  refine G_iload (pc := 138) rfl dX4_duel_138 ?_
  refine G_istore (pc := 140) (L1 := [some (.ref 51), some (.int 0), some (.int 3), some (.int 1), some (.int 0), some (.int 0), some (.int 0), some (.int 0)]) rfl rfl (by decide) dX4_duel_140 ?_
  refine G_aload_n (pc := 142) rfl dX4_duel_142 ?_
  refine G_getR (pc := 143) (r := 54) (ci := 4) (j := 3) rfl lk_RX4_18 rfl rfl rfl dX4_duel_143 ?_
  refine G_iload_n (pc := 146) rfl dX4_duel_146 ?_
  refine G_iload (pc := 147) rfl dX4_duel_147 ?_
  refine G_iast (pc := 149) (jj := 0) (by decide) rfl (by unfold vp_in; decide) dX4_duel_149 ?_
  refine G_iinc (pc := 150) (v := 1) (w := 1) (L1 := [some (.ref 51), some (.int 0), some (.int 3), some (.int 1), some (.int 0), some (.int 1), some (.int 0), some (.int 0)]) (by decide) rfl rfl (by decide) rfl (by decide) dX4_duel_150 ?_
  refine G_goto (pc := 153) (tgt := 44) (by decide) dX4_duel_153 ?_
  refine G_iload (pc := 44) rfl dX4_duel_44 ?_
  refine G_aload_n (pc := 46) rfl dX4_duel_46 ?_
  refine G_getR (pc := 47) (r := 19) (ci := 4) (j := 0) rfl lk_RX4_21 rfl rfl rfl dX4_duel_47 ?_
  refine G_getI (pc := 50) (v := 0) (ci := 1) (j := 8) rfl rfl lk_RX4_39 rfl rfl dX4_duel_50 ?_
  refine G_icmp_gt (pc := 53) (tgt := 156) (by decide) dX4_duel_53 (fun _ => ?_) (fun z => absurd (by decide) z)
  refine G_iload (pc := 156) rfl dX4_duel_156 ?_
  exact G_iret (pc := 158) (Nat.le_of_ble_eq_true rfl) (Nat.le_of_ble_eq_true rfl) rfl dX4_duel_158 ⟨rfl, rfl⟩
set_option maxRecDepth 100000 in
set_option maxHeartbeats 4000000 in
theorem s272_X4_isLast  (d : Nat)   : G (d + 1) mX4_isLast 0 0 0 0 0 (gent 3 [.ref 51, .int 0, .int 4]) [] SH0 RF0 (gup I0 54 0 0) (fun r h => r = some (.int 0) ∧ h = (SH0, RF0, (gup I0 54 0 0))) := by
  refine G_iload_n (pc := 0) rfl dX4_isLast_0 ?_
  refine G_if_le (pc := 1) (tgt := 19) (by decide) dX4_isLast_1 (fun z => absurd z (by decide)) (fun _ => ?_)
  refine G_iload_n (pc := 4) rfl dX4_isLast_4 ?_
  refine G_iconst (pc := 5) (v := 4) (by decide) dX4_isLast_5 ?_
  refine G_icmp_ge (pc := 6) (tgt := 19) (by decide) dX4_isLast_6 (fun z => absurd z (by decide)) (fun _ => ?_)
  refine G_aload_n (pc := 9) rfl dX4_isLast_9 ?_
  refine G_getR (pc := 10) (r := 19) (ci := 4) (j := 0) rfl lk_RX4_21 rfl rfl rfl dX4_isLast_10 ?_
  refine G_callV (pc := 13) (mc1 := 0) (ms1 := 0) (ci := 1) (mj := mX1_isOver) (vs := []) dX4_isLast_13 rfl rfl cm_X1_isOver wf_125 wf_17 wf_18 rfl (Nat.le_of_ble_eq_true rfl) (Nat.le_of_ble_eq_true rfl) (Nat.le_of_ble_eq_true rfl) (Nat.le_of_ble_eq_true rfl) (s232_X1_isOver  d  ) ?_
  rintro _ _ ⟨rfl, rfl⟩
  dsimp only [Option.toList, List.cons_append, List.nil_append]
  refine G_if_eq (pc := 16) (tgt := 23) (by decide) dX4_isLast_16 (fun _ => ?_) (fun z => absurd (by decide) z)
  refine G_iconst (pc := 23) (v := 0) (by decide) dX4_isLast_23 ?_
  exact G_zret (pc := 24) (Nat.le_of_ble_eq_true rfl) (Nat.le_of_ble_eq_true rfl) rfl (by decide) dX4_isLast_24 ⟨rfl, rfl⟩
set_option maxRecDepth 100000 in
set_option maxHeartbeats 4000000 in
theorem s274_X4_isLast  (d : Nat)   : G (d + 1) mX4_isLast 0 0 0 0 0 (gent 3 [.ref 51, .int 1, .int 3]) [] SH0 RF0 (gup (gup (gup (gup (gcp (gup I0 54 0 0) 24 34 (0 : Int32).toNatClampNeg (0 : Int32).toNatClampNeg (6 : Int32).toNatClampNeg) 34 6 0) 34 7 0) 19 1 1) 54 1 0) (fun r h => r = some (.int 0) ∧ h = (SH0, RF0, (gup (gup (gup (gup (gcp (gup I0 54 0 0) 24 34 (0 : Int32).toNatClampNeg (0 : Int32).toNatClampNeg (6 : Int32).toNatClampNeg) 34 6 0) 34 7 0) 19 1 1) 54 1 0))) := by
  refine G_iload_n (pc := 0) rfl dX4_isLast_0 ?_
  refine G_if_le (pc := 1) (tgt := 19) (by decide) dX4_isLast_1 (fun z => absurd z (by decide)) (fun _ => ?_)
  refine G_iload_n (pc := 4) rfl dX4_isLast_4 ?_
  refine G_iconst (pc := 5) (v := 4) (by decide) dX4_isLast_5 ?_
  refine G_icmp_ge (pc := 6) (tgt := 19) (by decide) dX4_isLast_6 (fun z => absurd z (by decide)) (fun _ => ?_)
  refine G_aload_n (pc := 9) rfl dX4_isLast_9 ?_
  refine G_getR (pc := 10) (r := 19) (ci := 4) (j := 0) rfl lk_RX4_21 rfl rfl rfl dX4_isLast_10 ?_
  refine G_callV (pc := 13) (mc1 := 0) (ms1 := 0) (ci := 1) (mj := mX1_isOver) (vs := []) dX4_isLast_13 rfl rfl cm_X1_isOver wf_125 wf_17 wf_18 rfl (Nat.le_of_ble_eq_true rfl) (Nat.le_of_ble_eq_true rfl) (Nat.le_of_ble_eq_true rfl) (Nat.le_of_ble_eq_true rfl) (s246_X1_isOver  d  ) ?_
  rintro _ _ ⟨rfl, rfl⟩
  dsimp only [Option.toList, List.cons_append, List.nil_append]
  refine G_if_eq (pc := 16) (tgt := 23) (by decide) dX4_isLast_16 (fun _ => ?_) (fun z => absurd (by decide) z)
  refine G_iconst (pc := 23) (v := 0) (by decide) dX4_isLast_23 ?_
  exact G_zret (pc := 24) (Nat.le_of_ble_eq_true rfl) (Nat.le_of_ble_eq_true rfl) rfl (by decide) dX4_isLast_24 ⟨rfl, rfl⟩
set_option maxRecDepth 100000 in
set_option maxHeartbeats 4000000 in
theorem s276_X4_isLast  (d : Nat)   : G (d + 1) mX4_isLast 0 0 0 0 0 (gent 3 [.ref 51, .int 2, .int 2]) [] SH0 RF0 (gup (gup (gup (gup (gcp (gup (gup (gup (gup (gcp (gup I0 54 0 0) 24 34 (0 : Int32).toNatClampNeg (0 : Int32).toNatClampNeg (6 : Int32).toNatClampNeg) 34 6 0) 34 7 0) 19 1 1) 54 1 0) 24 34 (0 : Int32).toNatClampNeg (8 : Int32).toNatClampNeg (6 : Int32).toNatClampNeg) 34 14 0) 34 15 1) 19 1 2) 54 2 0) (fun r h => r = some (.int 0) ∧ h = (SH0, RF0, (gup (gup (gup (gup (gcp (gup (gup (gup (gup (gcp (gup I0 54 0 0) 24 34 (0 : Int32).toNatClampNeg (0 : Int32).toNatClampNeg (6 : Int32).toNatClampNeg) 34 6 0) 34 7 0) 19 1 1) 54 1 0) 24 34 (0 : Int32).toNatClampNeg (8 : Int32).toNatClampNeg (6 : Int32).toNatClampNeg) 34 14 0) 34 15 1) 19 1 2) 54 2 0))) := by
  refine G_iload_n (pc := 0) rfl dX4_isLast_0 ?_
  refine G_if_le (pc := 1) (tgt := 19) (by decide) dX4_isLast_1 (fun z => absurd z (by decide)) (fun _ => ?_)
  refine G_iload_n (pc := 4) rfl dX4_isLast_4 ?_
  refine G_iconst (pc := 5) (v := 4) (by decide) dX4_isLast_5 ?_
  refine G_icmp_ge (pc := 6) (tgt := 19) (by decide) dX4_isLast_6 (fun z => absurd z (by decide)) (fun _ => ?_)
  refine G_aload_n (pc := 9) rfl dX4_isLast_9 ?_
  refine G_getR (pc := 10) (r := 19) (ci := 4) (j := 0) rfl lk_RX4_21 rfl rfl rfl dX4_isLast_10 ?_
  refine G_callV (pc := 13) (mc1 := 0) (ms1 := 0) (ci := 1) (mj := mX1_isOver) (vs := []) dX4_isLast_13 rfl rfl cm_X1_isOver wf_125 wf_17 wf_18 rfl (Nat.le_of_ble_eq_true rfl) (Nat.le_of_ble_eq_true rfl) (Nat.le_of_ble_eq_true rfl) (Nat.le_of_ble_eq_true rfl) (s261_X1_isOver  d  ) ?_
  rintro _ _ ⟨rfl, rfl⟩
  dsimp only [Option.toList, List.cons_append, List.nil_append]
  refine G_if_eq (pc := 16) (tgt := 23) (by decide) dX4_isLast_16 (fun _ => ?_) (fun z => absurd (by decide) z)
  refine G_iconst (pc := 23) (v := 0) (by decide) dX4_isLast_23 ?_
  exact G_zret (pc := 24) (Nat.le_of_ble_eq_true rfl) (Nat.le_of_ble_eq_true rfl) rfl (by decide) dX4_isLast_24 ⟨rfl, rfl⟩
set_option maxRecDepth 100000 in
set_option maxHeartbeats 4000000 in
theorem s279_X1_isOver  (d : Nat)   : G (d) mX1_isOver 0 0 0 0 0 (gent 1 [.ref 19]) [] SH0 RF0 (gup (gup (gup (gup (gcp (gup (gup (gup (gup (gcp (gup (gup (gup (gup (gcp (gup I0 54 0 0) 24 34 (0 : Int32).toNatClampNeg (0 : Int32).toNatClampNeg (6 : Int32).toNatClampNeg) 34 6 0) 34 7 0) 19 1 1) 54 1 0) 24 34 (0 : Int32).toNatClampNeg (8 : Int32).toNatClampNeg (6 : Int32).toNatClampNeg) 34 14 0) 34 15 1) 19 1 2) 54 2 0) 24 34 (0 : Int32).toNatClampNeg (16 : Int32).toNatClampNeg (6 : Int32).toNatClampNeg) 34 22 0) 34 23 2) 19 1 3) 54 3 0) (fun r h => r = some (.int 0) ∧ h = (SH0, RF0, (gup (gup (gup (gup (gcp (gup (gup (gup (gup (gcp (gup (gup (gup (gup (gcp (gup I0 54 0 0) 24 34 (0 : Int32).toNatClampNeg (0 : Int32).toNatClampNeg (6 : Int32).toNatClampNeg) 34 6 0) 34 7 0) 19 1 1) 54 1 0) 24 34 (0 : Int32).toNatClampNeg (8 : Int32).toNatClampNeg (6 : Int32).toNatClampNeg) 34 14 0) 34 15 1) 19 1 2) 54 2 0) 24 34 (0 : Int32).toNatClampNeg (16 : Int32).toNatClampNeg (6 : Int32).toNatClampNeg) 34 22 0) 34 23 2) 19 1 3) 54 3 0))) := by
  refine G_aload_n (pc := 0) rfl dX1_isOver_0 ?_
  refine G_getI (pc := 1) (v := 3) (ci := 1) (j := 1) rfl rfl lk_RX1_60 rfl rfl dX1_isOver_1 ?_
  refine G_aload_n (pc := 4) rfl dX1_isOver_4 ?_
  refine G_getI (pc := 5) (v := 12) (ci := 1) (j := 2) rfl rfl lk_RX1_9 rfl rfl dX1_isOver_5 ?_
  refine G_icmp_lt (pc := 8) (tgt := 15) (by decide) dX1_isOver_8 (fun _ => ?_) (fun z => absurd (by decide) z)
  refine G_iconst (pc := 15) (v := 0) (by decide) dX1_isOver_15 ?_
  exact G_zret (pc := 16) (Nat.le_of_ble_eq_true rfl) (Nat.le_of_ble_eq_true rfl) rfl (by decide) dX1_isOver_16 ⟨rfl, rfl⟩
set_option maxRecDepth 100000 in
set_option maxHeartbeats 4000000 in
theorem s278_X4_isLast  (d : Nat)   : G (d + 1) mX4_isLast 0 0 0 0 0 (gent 3 [.ref 51, .int 3, .int 1]) [] SH0 RF0 (gup (gup (gup (gup (gcp (gup (gup (gup (gup (gcp (gup (gup (gup (gup (gcp (gup I0 54 0 0) 24 34 (0 : Int32).toNatClampNeg (0 : Int32).toNatClampNeg (6 : Int32).toNatClampNeg) 34 6 0) 34 7 0) 19 1 1) 54 1 0) 24 34 (0 : Int32).toNatClampNeg (8 : Int32).toNatClampNeg (6 : Int32).toNatClampNeg) 34 14 0) 34 15 1) 19 1 2) 54 2 0) 24 34 (0 : Int32).toNatClampNeg (16 : Int32).toNatClampNeg (6 : Int32).toNatClampNeg) 34 22 0) 34 23 2) 19 1 3) 54 3 0) (fun r h => r = some (.int 0) ∧ h = (SH0, RF0, (gup (gup (gup (gup (gcp (gup (gup (gup (gup (gcp (gup (gup (gup (gup (gcp (gup I0 54 0 0) 24 34 (0 : Int32).toNatClampNeg (0 : Int32).toNatClampNeg (6 : Int32).toNatClampNeg) 34 6 0) 34 7 0) 19 1 1) 54 1 0) 24 34 (0 : Int32).toNatClampNeg (8 : Int32).toNatClampNeg (6 : Int32).toNatClampNeg) 34 14 0) 34 15 1) 19 1 2) 54 2 0) 24 34 (0 : Int32).toNatClampNeg (16 : Int32).toNatClampNeg (6 : Int32).toNatClampNeg) 34 22 0) 34 23 2) 19 1 3) 54 3 0))) := by
  refine G_iload_n (pc := 0) rfl dX4_isLast_0 ?_
  refine G_if_le (pc := 1) (tgt := 19) (by decide) dX4_isLast_1 (fun z => absurd z (by decide)) (fun _ => ?_)
  refine G_iload_n (pc := 4) rfl dX4_isLast_4 ?_
  refine G_iconst (pc := 5) (v := 4) (by decide) dX4_isLast_5 ?_
  refine G_icmp_ge (pc := 6) (tgt := 19) (by decide) dX4_isLast_6 (fun z => absurd z (by decide)) (fun _ => ?_)
  refine G_aload_n (pc := 9) rfl dX4_isLast_9 ?_
  refine G_getR (pc := 10) (r := 19) (ci := 4) (j := 0) rfl lk_RX4_21 rfl rfl rfl dX4_isLast_10 ?_
  refine G_callV (pc := 13) (mc1 := 0) (ms1 := 0) (ci := 1) (mj := mX1_isOver) (vs := []) dX4_isLast_13 rfl rfl cm_X1_isOver wf_125 wf_17 wf_18 rfl (Nat.le_of_ble_eq_true rfl) (Nat.le_of_ble_eq_true rfl) (Nat.le_of_ble_eq_true rfl) (Nat.le_of_ble_eq_true rfl) (s279_X1_isOver  d  ) ?_
  rintro _ _ ⟨rfl, rfl⟩
  dsimp only [Option.toList, List.cons_append, List.nil_append]
  refine G_if_eq (pc := 16) (tgt := 23) (by decide) dX4_isLast_16 (fun _ => ?_) (fun z => absurd (by decide) z)
  refine G_iconst (pc := 23) (v := 0) (by decide) dX4_isLast_23 ?_
  exact G_zret (pc := 24) (Nat.le_of_ble_eq_true rfl) (Nat.le_of_ble_eq_true rfl) rfl (by decide) dX4_isLast_24 ⟨rfl, rfl⟩
set_option maxRecDepth 100000 in
set_option maxHeartbeats 4000000 in
theorem s280_X1_save  (d : Nat)   : G (d + 1) mX1_save 0 0 0 0 0 (gent 3 [.ref 19, .int 3]) [] SH0 RF0 (gup (gup (gup (gup (gcp (gup (gup (gup (gup (gcp (gup (gup (gup (gup (gcp (gup I0 54 0 0) 24 34 (0 : Int32).toNatClampNeg (0 : Int32).toNatClampNeg (6 : Int32).toNatClampNeg) 34 6 0) 34 7 0) 19 1 1) 54 1 0) 24 34 (0 : Int32).toNatClampNeg (8 : Int32).toNatClampNeg (6 : Int32).toNatClampNeg) 34 14 0) 34 15 1) 19 1 2) 54 2 0) 24 34 (0 : Int32).toNatClampNeg (16 : Int32).toNatClampNeg (6 : Int32).toNatClampNeg) 34 22 0) 34 23 2) 19 1 3) 54 3 0) (fun r h => r = none ∧ h = (SH0, RF0, (gup (gup (gcp (gup (gup (gup (gup (gcp (gup (gup (gup (gup (gcp (gup (gup (gup (gup (gcp (gup I0 54 0 0) 24 34 (0 : Int32).toNatClampNeg (0 : Int32).toNatClampNeg (6 : Int32).toNatClampNeg) 34 6 0) 34 7 0) 19 1 1) 54 1 0) 24 34 (0 : Int32).toNatClampNeg (8 : Int32).toNatClampNeg (6 : Int32).toNatClampNeg) 34 14 0) 34 15 1) 19 1 2) 54 2 0) 24 34 (0 : Int32).toNatClampNeg (16 : Int32).toNatClampNeg (6 : Int32).toNatClampNeg) 34 22 0) 34 23 2) 19 1 3) 54 3 0) 24 34 (0 : Int32).toNatClampNeg (24 : Int32).toNatClampNeg (6 : Int32).toNatClampNeg) 34 30 0) 34 31 3))) := by
  refine G_iload_n (pc := 0) rfl dX1_save_0 ?_
  refine G_bipush (pc := 1) (v := 8) (by decide) dX1_save_1 ?_
  refine G_imul (pc := 3) (z := 24) (by decide) dX1_save_3 ?_
  refine G_istore_n (pc := 4) (L1 := [some (.ref 19), some (.int 3), some (.int 24)]) rfl rfl (by decide) dX1_save_4 ?_
  refine G_aload_n (pc := 5) rfl dX1_save_5 ?_
  refine G_getR (pc := 6) (r := 24) (ci := 1) (j := 11) rfl lk_RX1_31 rfl rfl rfl dX1_save_6 ?_
  refine G_iconst (pc := 9) (v := 0) (by decide) dX1_save_9 ?_
  refine G_aload_n (pc := 10) rfl dX1_save_10 ?_
  refine G_getR (pc := 11) (r := 34) (ci := 1) (j := 18) rfl lk_RX1_53 rfl rfl rfl dX1_save_11 ?_
  refine G_iload_n (pc := 14) rfl dX1_save_14 ?_
  refine G_bipush (pc := 15) (v := 6) (by decide) dX1_save_15 ?_
  refine G_copy (pc := 17) (x := 24) (y := 34) rfl rfl (by decide) (by decide) (by decide) (by decide) (by decide) wf_50 wf_51 wf_52 wf_53 (Nat.le_of_ble_eq_true rfl) dX1_save_17 ?_
  refine G_aload_n (pc := 20) rfl dX1_save_20 ?_
  refine G_getR (pc := 21) (r := 34) (ci := 1) (j := 18) rfl lk_RX1_53 rfl rfl rfl dX1_save_21 ?_
  refine G_iload_n (pc := 24) rfl dX1_save_24 ?_
  refine G_bipush (pc := 25) (v := 6) (by decide) dX1_save_25 ?_
  refine G_iadd (pc := 27) (z := 30) (by decide) dX1_save_27 ?_
  refine G_aload_n (pc := 28) rfl dX1_save_28 ?_
  refine G_getI (pc := 29) (v := 0) (ci := 1) (j := 9) rfl rfl lk_RX1_75 rfl rfl dX1_save_29 ?_
  refine G_iast (pc := 32) (jj := 30) (by decide) rfl (by unfold vp_in; decide) dX1_save_32 ?_
  refine G_aload_n (pc := 33) rfl dX1_save_33 ?_
  refine G_getR (pc := 34) (r := 34) (ci := 1) (j := 18) rfl lk_RX1_53 rfl rfl rfl dX1_save_34 ?_
  refine G_iload_n (pc := 37) rfl dX1_save_37 ?_
  refine G_bipush (pc := 38) (v := 6) (by decide) dX1_save_38 ?_
  refine G_iadd (pc := 40) (z := 30) (by decide) dX1_save_40 ?_
  refine G_iconst (pc := 41) (v := 1) (by decide) dX1_save_41 ?_
  refine G_iadd (pc := 42) (z := 31) (by decide) dX1_save_42 ?_
  refine G_aload_n (pc := 43) rfl dX1_save_43 ?_
  refine G_getI (pc := 44) (v := 3) (ci := 1) (j := 1) rfl rfl lk_RX1_60 rfl rfl dX1_save_44 ?_
  refine G_iast (pc := 47) (jj := 31) (by decide) rfl (by unfold vp_in; decide) dX1_save_47 ?_
  exact G_vret (pc := 48) (Nat.le_of_ble_eq_true rfl) (Nat.le_of_ble_eq_true rfl) rfl dX1_save_48 ⟨rfl, rfl⟩
set_option maxRecDepth 100000 in
set_option maxHeartbeats 4000000 in
theorem s282_X1_isKey  (d : Nat)   : G (d) mX1_isKey 0 0 0 0 0 (gent 2 [.ref 19, .int (-1)]) [] SH0 RF0 (gup (gup (gcp (gup (gup (gup (gup (gcp (gup (gup (gup (gup (gcp (gup (gup (gup (gup (gcp (gup I0 54 0 0) 24 34 (0 : Int32).toNatClampNeg (0 : Int32).toNatClampNeg (6 : Int32).toNatClampNeg) 34 6 0) 34 7 0) 19 1 1) 54 1 0) 24 34 (0 : Int32).toNatClampNeg (8 : Int32).toNatClampNeg (6 : Int32).toNatClampNeg) 34 14 0) 34 15 1) 19 1 2) 54 2 0) 24 34 (0 : Int32).toNatClampNeg (16 : Int32).toNatClampNeg (6 : Int32).toNatClampNeg) 34 22 0) 34 23 2) 19 1 3) 54 3 0) 24 34 (0 : Int32).toNatClampNeg (24 : Int32).toNatClampNeg (6 : Int32).toNatClampNeg) 34 30 0) 34 31 3) (fun r h => r = some (.int 0) ∧ h = (SH0, RF0, (gup (gup (gcp (gup (gup (gup (gup (gcp (gup (gup (gup (gup (gcp (gup (gup (gup (gup (gcp (gup I0 54 0 0) 24 34 (0 : Int32).toNatClampNeg (0 : Int32).toNatClampNeg (6 : Int32).toNatClampNeg) 34 6 0) 34 7 0) 19 1 1) 54 1 0) 24 34 (0 : Int32).toNatClampNeg (8 : Int32).toNatClampNeg (6 : Int32).toNatClampNeg) 34 14 0) 34 15 1) 19 1 2) 54 2 0) 24 34 (0 : Int32).toNatClampNeg (16 : Int32).toNatClampNeg (6 : Int32).toNatClampNeg) 34 22 0) 34 23 2) 19 1 3) 54 3 0) 24 34 (0 : Int32).toNatClampNeg (24 : Int32).toNatClampNeg (6 : Int32).toNatClampNeg) 34 30 0) 34 31 3))) := by
  refine G_iload_n (pc := 0) rfl dX1_isKey_0 ?_
  refine G_if_lt (pc := 1) (tgt := 16) (by decide) dX1_isKey_1 (fun _ => ?_) (fun z => absurd (by decide) z)
  refine G_iconst (pc := 16) (v := 0) (by decide) dX1_isKey_16 ?_
  exact G_zret (pc := 17) (Nat.le_of_ble_eq_true rfl) (Nat.le_of_ble_eq_true rfl) rfl (by decide) dX1_isKey_17 ⟨rfl, rfl⟩
set_option maxRecDepth 100000 in
set_option maxHeartbeats 4000000 in
theorem s281_X1_tell  (d : Nat)   : G (d + 1) mX1_tell 0 0 0 0 0 (gent 5 [.ref 19, .int 0]) [] SH0 RF0 (gup (gup (gcp (gup (gup (gup (gup (gcp (gup (gup (gup (gup (gcp (gup (gup (gup (gup (gcp (gup I0 54 0 0) 24 34 (0 : Int32).toNatClampNeg (0 : Int32).toNatClampNeg (6 : Int32).toNatClampNeg) 34 6 0) 34 7 0) 19 1 1) 54 1 0) 24 34 (0 : Int32).toNatClampNeg (8 : Int32).toNatClampNeg (6 : Int32).toNatClampNeg) 34 14 0) 34 15 1) 19 1 2) 54 2 0) 24 34 (0 : Int32).toNatClampNeg (16 : Int32).toNatClampNeg (6 : Int32).toNatClampNeg) 34 22 0) 34 23 2) 19 1 3) 54 3 0) 24 34 (0 : Int32).toNatClampNeg (24 : Int32).toNatClampNeg (6 : Int32).toNatClampNeg) 34 30 0) 34 31 3) (fun r h => r = some (.int 0) ∧ h = (SH0, RF0, (gup (gup (gcp (gup (gup (gup (gup (gcp (gup (gup (gup (gup (gcp (gup (gup (gup (gup (gcp (gup I0 54 0 0) 24 34 (0 : Int32).toNatClampNeg (0 : Int32).toNatClampNeg (6 : Int32).toNatClampNeg) 34 6 0) 34 7 0) 19 1 1) 54 1 0) 24 34 (0 : Int32).toNatClampNeg (8 : Int32).toNatClampNeg (6 : Int32).toNatClampNeg) 34 14 0) 34 15 1) 19 1 2) 54 2 0) 24 34 (0 : Int32).toNatClampNeg (16 : Int32).toNatClampNeg (6 : Int32).toNatClampNeg) 34 22 0) 34 23 2) 19 1 3) 54 3 0) 24 34 (0 : Int32).toNatClampNeg (24 : Int32).toNatClampNeg (6 : Int32).toNatClampNeg) 34 30 0) 34 31 3))) := by
  refine G_iload_n (pc := 0) rfl dX1_tell_0 ?_
  refine G_iconst (pc := 1) (v := 1) (by decide) dX1_tell_1 ?_
  refine G_isub (pc := 2) (z := (-1)) (by decide) dX1_tell_2 ?_
  refine G_istore_n (pc := 3) (L1 := [some (.ref 19), some (.int 0), some (.int (-1)), none, none]) rfl rfl (by decide) dX1_tell_3 ?_
  refine G_aload_n (pc := 4) rfl dX1_tell_4 ?_
  refine G_iload_n (pc := 5) rfl dX1_tell_5 ?_
  refine G_callV (pc := 6) (mc1 := 0) (ms1 := 0) (ci := 1) (mj := mX1_isKey) (vs := [_]) dX1_tell_6 rfl rfl cm_X1_isKey wf_68 wf_13 wf_14 rfl (Nat.le_of_ble_eq_true rfl) (Nat.le_of_ble_eq_true rfl) (Nat.le_of_ble_eq_true rfl) (Nat.le_of_ble_eq_true rfl) (s282_X1_isKey  d  ) ?_
  rintro _ _ ⟨rfl, rfl⟩
  dsimp only [Option.toList, List.cons_append, List.nil_append]
  refine G_if_eq (pc := 9) (tgt := 20) (by decide) dX1_tell_9 (fun _ => ?_) (fun z => absurd (by decide) z)
  refine G_iconst (pc := 20) (v := 0) (by decide) dX1_tell_20 ?_
  exact G_iret (pc := 21) (Nat.le_of_ble_eq_true rfl) (Nat.le_of_ble_eq_true rfl) rfl dX1_tell_21 ⟨rfl, rfl⟩
set_option maxRecDepth 100000 in
set_option maxHeartbeats 4000000 in
theorem s283_X1_melt  (d : Nat)   : G (d) mX1_melt 0 0 0 0 0 (gent 3 [.ref 19]) [] SH0 RF0 (gup (gup (gcp (gup (gup (gup (gup (gcp (gup (gup (gup (gup (gcp (gup (gup (gup (gup (gcp (gup I0 54 0 0) 24 34 (0 : Int32).toNatClampNeg (0 : Int32).toNatClampNeg (6 : Int32).toNatClampNeg) 34 6 0) 34 7 0) 19 1 1) 54 1 0) 24 34 (0 : Int32).toNatClampNeg (8 : Int32).toNatClampNeg (6 : Int32).toNatClampNeg) 34 14 0) 34 15 1) 19 1 2) 54 2 0) 24 34 (0 : Int32).toNatClampNeg (16 : Int32).toNatClampNeg (6 : Int32).toNatClampNeg) 34 22 0) 34 23 2) 19 1 3) 54 3 0) 24 34 (0 : Int32).toNatClampNeg (24 : Int32).toNatClampNeg (6 : Int32).toNatClampNeg) 34 30 0) 34 31 3) (fun r h => r = some (.int 0) ∧ h = (SH0, RF0, (gup (gup (gup (gcp (gup (gup (gup (gup (gcp (gup (gup (gup (gup (gcp (gup (gup (gup (gup (gcp (gup I0 54 0 0) 24 34 (0 : Int32).toNatClampNeg (0 : Int32).toNatClampNeg (6 : Int32).toNatClampNeg) 34 6 0) 34 7 0) 19 1 1) 54 1 0) 24 34 (0 : Int32).toNatClampNeg (8 : Int32).toNatClampNeg (6 : Int32).toNatClampNeg) 34 14 0) 34 15 1) 19 1 2) 54 2 0) 24 34 (0 : Int32).toNatClampNeg (16 : Int32).toNatClampNeg (6 : Int32).toNatClampNeg) 34 22 0) 34 23 2) 19 1 3) 54 3 0) 24 34 (0 : Int32).toNatClampNeg (24 : Int32).toNatClampNeg (6 : Int32).toNatClampNeg) 34 30 0) 34 31 3) 19 1 4))) := by
  refine G_iconst (pc := 0) (v := 0) (by decide) dX1_melt_0 ?_
  refine G_istore_n (pc := 1) (L1 := [some (.ref 19), some (.int 0), none]) rfl rfl (by decide) dX1_melt_1 ?_
  refine G_iconst (pc := 2) (v := 0) (by decide) dX1_melt_2 ?_
  refine G_istore_n (pc := 3) (L1 := [some (.ref 19), some (.int 0), some (.int 0)]) rfl rfl (by decide) dX1_melt_3 ?_
  refine G_iload_n (pc := 4) rfl dX1_melt_4 ?_
  refine G_aload_n (pc := 5) rfl dX1_melt_5 ?_
  refine G_getI (pc := 6) (v := 0) (ci := 1) (j := 8) rfl rfl lk_RX1_72 rfl rfl dX1_melt_6 ?_
  refine G_icmp_ge (pc := 9) (tgt := 60) (by decide) dX1_melt_9 (fun _ => ?_) (fun z => absurd (by decide) z)
  refine G_aload_n (pc := 60) rfl dX1_melt_60 ?_
  refine G_dup (pc := 61) rfl dX1_melt_61 ?_
  refine G_getI (pc := 62) (v := 3) (ci := 1) (j := 1) rfl rfl lk_RX1_60 rfl rfl dX1_melt_62 ?_
  refine G_iconst (pc := 65) (v := 1) (by decide) dX1_melt_65 ?_
  refine G_iadd (pc := 66) (z := 4) (by decide) dX1_melt_66 ?_
  refine G_putI (pc := 67) (ci := 1) (j := 1) rfl lk_RX1_60 rfl rfl rfl trivial dX1_melt_67 ?_
  refine G_iload_n (pc := 70) rfl dX1_melt_70 ?_
  exact G_iret (pc := 71) (Nat.le_of_ble_eq_true rfl) (Nat.le_of_ble_eq_true rfl) rfl dX1_melt_71 ⟨rfl, rfl⟩
set_option maxRecDepth 100000 in
set_option maxHeartbeats 4000000 in
theorem s285_X4_isLast  (d : Nat)   : G (d) mX4_isLast 0 0 0 0 0 (gent 3 [.ref 51, .int 4, .int 0]) [] SH0 RF0 (gup (gup (gup (gup (gcp (gup (gup (gup (gup (gcp (gup (gup (gup (gup (gcp (gup (gup (gup (gup (gcp (gup I0 54 0 0) 24 34 (0 : Int32).toNatClampNeg (0 : Int32).toNatClampNeg (6 : Int32).toNatClampNeg) 34 6 0) 34 7 0) 19 1 1) 54 1 0) 24 34 (0 : Int32).toNatClampNeg (8 : Int32).toNatClampNeg (6 : Int32).toNatClampNeg) 34 14 0) 34 15 1) 19 1 2) 54 2 0) 24 34 (0 : Int32).toNatClampNeg (16 : Int32).toNatClampNeg (6 : Int32).toNatClampNeg) 34 22 0) 34 23 2) 19 1 3) 54 3 0) 24 34 (0 : Int32).toNatClampNeg (24 : Int32).toNatClampNeg (6 : Int32).toNatClampNeg) 34 30 0) 34 31 3) 19 1 4) 54 4 0) (fun r h => r = some (.int 1) ∧ h = (SH0, RF0, (gup (gup (gup (gup (gcp (gup (gup (gup (gup (gcp (gup (gup (gup (gup (gcp (gup (gup (gup (gup (gcp (gup I0 54 0 0) 24 34 (0 : Int32).toNatClampNeg (0 : Int32).toNatClampNeg (6 : Int32).toNatClampNeg) 34 6 0) 34 7 0) 19 1 1) 54 1 0) 24 34 (0 : Int32).toNatClampNeg (8 : Int32).toNatClampNeg (6 : Int32).toNatClampNeg) 34 14 0) 34 15 1) 19 1 2) 54 2 0) 24 34 (0 : Int32).toNatClampNeg (16 : Int32).toNatClampNeg (6 : Int32).toNatClampNeg) 34 22 0) 34 23 2) 19 1 3) 54 3 0) 24 34 (0 : Int32).toNatClampNeg (24 : Int32).toNatClampNeg (6 : Int32).toNatClampNeg) 34 30 0) 34 31 3) 19 1 4) 54 4 0))) := by
  refine G_iload_n (pc := 0) rfl dX4_isLast_0 ?_
  refine G_if_le (pc := 1) (tgt := 19) (by decide) dX4_isLast_1 (fun _ => ?_) (fun z => absurd (by decide) z)
  refine G_iconst (pc := 19) (v := 1) (by decide) dX4_isLast_19 ?_
  refine G_goto (pc := 20) (tgt := 24) (by decide) dX4_isLast_20 ?_
  exact G_zret (pc := 24) (Nat.le_of_ble_eq_true rfl) (Nat.le_of_ble_eq_true rfl) rfl (by decide) dX4_isLast_24 ⟨rfl, rfl⟩
set_option maxRecDepth 100000 in
set_option maxHeartbeats 4000000 in
theorem s284_X4_duel  (d : Nat)   : G (d + 1) mX4_duel 0 0 0 0 0 (gent 8 [.ref 51, .int 4, .int 0]) [] SH0 RF0 (gup (gup (gup (gcp (gup (gup (gup (gup (gcp (gup (gup (gup (gup (gcp (gup (gup (gup (gup (gcp (gup I0 54 0 0) 24 34 (0 : Int32).toNatClampNeg (0 : Int32).toNatClampNeg (6 : Int32).toNatClampNeg) 34 6 0) 34 7 0) 19 1 1) 54 1 0) 24 34 (0 : Int32).toNatClampNeg (8 : Int32).toNatClampNeg (6 : Int32).toNatClampNeg) 34 14 0) 34 15 1) 19 1 2) 54 2 0) 24 34 (0 : Int32).toNatClampNeg (16 : Int32).toNatClampNeg (6 : Int32).toNatClampNeg) 34 22 0) 34 23 2) 19 1 3) 54 3 0) 24 34 (0 : Int32).toNatClampNeg (24 : Int32).toNatClampNeg (6 : Int32).toNatClampNeg) 34 30 0) 34 31 3) 19 1 4) (fun r h => r = some (.int 0) ∧ h = (SH0, RF0, (gup (gup (gup (gup (gcp (gup (gup (gup (gup (gcp (gup (gup (gup (gup (gcp (gup (gup (gup (gup (gcp (gup I0 54 0 0) 24 34 (0 : Int32).toNatClampNeg (0 : Int32).toNatClampNeg (6 : Int32).toNatClampNeg) 34 6 0) 34 7 0) 19 1 1) 54 1 0) 24 34 (0 : Int32).toNatClampNeg (8 : Int32).toNatClampNeg (6 : Int32).toNatClampNeg) 34 14 0) 34 15 1) 19 1 2) 54 2 0) 24 34 (0 : Int32).toNatClampNeg (16 : Int32).toNatClampNeg (6 : Int32).toNatClampNeg) 34 22 0) 34 23 2) 19 1 3) 54 3 0) 24 34 (0 : Int32).toNatClampNeg (24 : Int32).toNatClampNeg (6 : Int32).toNatClampNeg) 34 30 0) 34 31 3) 19 1 4) 54 4 0))) := by
  refine G_aload_n (pc := 0) rfl dX4_duel_0 ?_
  refine G_getR (pc := 1) (r := 54) (ci := 4) (j := 3) rfl lk_RX4_18 rfl rfl rfl dX4_duel_1 ?_
  refine G_iload_n (pc := 4) rfl dX4_duel_4 ?_
  refine G_iconst (pc := 5) (v := 0) (by decide) dX4_duel_5 ?_
  refine G_iast (pc := 6) (jj := 4) (by decide) rfl (by unfold vp_in; decide) dX4_duel_6 ?_
  refine G_aload_n (pc := 7) rfl dX4_duel_7 ?_
  refine G_iload_n (pc := 8) rfl dX4_duel_8 ?_
  refine G_iload_n (pc := 9) rfl dX4_duel_9 ?_
  refine G_callV (pc := 10) (mc1 := 0) (ms1 := 0) (ci := 4) (mj := mX4_isLast) (vs := [_, _]) dX4_duel_10 rfl rfl cm_X4_isLast wf_126 wf_129 wf_130 rfl (Nat.le_of_ble_eq_true rfl) (Nat.le_of_ble_eq_true rfl) (Nat.le_of_ble_eq_true rfl) (Nat.le_of_ble_eq_true rfl) (s285_X4_isLast  d  ) ?_
  rintro _ _ ⟨rfl, rfl⟩
  dsimp only [Option.toList, List.cons_append, List.nil_append]
  refine G_if_eq (pc := 13) (tgt := 18) (by decide) dX4_duel_13 (fun z => absurd z (by decide)) (fun _ => ?_)
  refine G_iconst (pc := 16) (v := 0) (by decide) dX4_duel_16 ?_
  exact G_iret (pc := 17) (Nat.le_of_ble_eq_true rfl) (Nat.le_of_ble_eq_true rfl) rfl dX4_duel_17 ⟨rfl, rfl⟩
set_option maxRecDepth 100000 in
set_option maxHeartbeats 4000000 in
theorem s286_X1_restore  (d : Nat)   : G (d + 1) mX1_restore 0 0 0 0 0 (gent 3 [.ref 19, .int 3]) [] SH0 RF0 (gup (gup (gup (gup (gcp (gup (gup (gup (gup (gcp (gup (gup (gup (gup (gcp (gup (gup (gup (gup (gcp (gup I0 54 0 0) 24 34 (0 : Int32).toNatClampNeg (0 : Int32).toNatClampNeg (6 : Int32).toNatClampNeg) 34 6 0) 34 7 0) 19 1 1) 54 1 0) 24 34 (0 : Int32).toNatClampNeg (8 : Int32).toNatClampNeg (6 : Int32).toNatClampNeg) 34 14 0) 34 15 1) 19 1 2) 54 2 0) 24 34 (0 : Int32).toNatClampNeg (16 : Int32).toNatClampNeg (6 : Int32).toNatClampNeg) 34 22 0) 34 23 2) 19 1 3) 54 3 0) 24 34 (0 : Int32).toNatClampNeg (24 : Int32).toNatClampNeg (6 : Int32).toNatClampNeg) 34 30 0) 34 31 3) 19 1 4) 54 4 0) (fun r h => r = none ∧ h = (SH0, RF0, (gup (gup (gcp (gup (gup (gup (gup (gcp (gup (gup (gup (gup (gcp (gup (gup (gup (gup (gcp (gup (gup (gup (gup (gcp (gup I0 54 0 0) 24 34 (0 : Int32).toNatClampNeg (0 : Int32).toNatClampNeg (6 : Int32).toNatClampNeg) 34 6 0) 34 7 0) 19 1 1) 54 1 0) 24 34 (0 : Int32).toNatClampNeg (8 : Int32).toNatClampNeg (6 : Int32).toNatClampNeg) 34 14 0) 34 15 1) 19 1 2) 54 2 0) 24 34 (0 : Int32).toNatClampNeg (16 : Int32).toNatClampNeg (6 : Int32).toNatClampNeg) 34 22 0) 34 23 2) 19 1 3) 54 3 0) 24 34 (0 : Int32).toNatClampNeg (24 : Int32).toNatClampNeg (6 : Int32).toNatClampNeg) 34 30 0) 34 31 3) 19 1 4) 54 4 0) 34 24 (24 : Int32).toNatClampNeg (0 : Int32).toNatClampNeg (6 : Int32).toNatClampNeg) 19 9 0) 19 1 3))) := by
  refine G_iload_n (pc := 0) rfl dX1_restore_0 ?_
  refine G_bipush (pc := 1) (v := 8) (by decide) dX1_restore_1 ?_
  refine G_imul (pc := 3) (z := 24) (by decide) dX1_restore_3 ?_
  refine G_istore_n (pc := 4) (L1 := [some (.ref 19), some (.int 3), some (.int 24)]) rfl rfl (by decide) dX1_restore_4 ?_
  refine G_aload_n (pc := 5) rfl dX1_restore_5 ?_
  refine G_getR (pc := 6) (r := 34) (ci := 1) (j := 18) rfl lk_RX1_53 rfl rfl rfl dX1_restore_6 ?_
  refine G_iload_n (pc := 9) rfl dX1_restore_9 ?_
  refine G_aload_n (pc := 10) rfl dX1_restore_10 ?_
  refine G_getR (pc := 11) (r := 24) (ci := 1) (j := 11) rfl lk_RX1_31 rfl rfl rfl dX1_restore_11 ?_
  refine G_iconst (pc := 14) (v := 0) (by decide) dX1_restore_14 ?_
  refine G_bipush (pc := 15) (v := 6) (by decide) dX1_restore_15 ?_
  refine G_copy (pc := 17) (x := 34) (y := 24) rfl rfl (by decide) (by decide) (by decide) (by decide) (by decide) wf_50 wf_51 wf_52 wf_53 (Nat.le_of_ble_eq_true rfl) dX1_restore_17 ?_
  refine G_aload_n (pc := 20) rfl dX1_restore_20 ?_
  refine G_aload_n (pc := 21) rfl dX1_restore_21 ?_
  refine G_getR (pc := 22) (r := 34) (ci := 1) (j := 18) rfl lk_RX1_53 rfl rfl rfl dX1_restore_22 ?_
  refine G_iload_n (pc := 25) rfl dX1_restore_25 ?_
  refine G_bipush (pc := 26) (v := 6) (by decide) dX1_restore_26 ?_
  refine G_iadd (pc := 28) (z := 30) (by decide) dX1_restore_28 ?_
  refine G_iald (pc := 29) (jj := 30) (v := 0) (by decide) rfl rfl (by unfold vp_in; decide) dX1_restore_29 ?_
  refine G_putI (pc := 30) (ci := 1) (j := 9) rfl lk_RX1_75 rfl rfl rfl trivial dX1_restore_30 ?_
  refine G_aload_n (pc := 33) rfl dX1_restore_33 ?_
  refine G_aload_n (pc := 34) rfl dX1_restore_34 ?_
  refine G_getR (pc := 35) (r := 34) (ci := 1) (j := 18) rfl lk_RX1_53 rfl rfl rfl dX1_restore_35 ?_
  refine G_iload_n (pc := 38) rfl dX1_restore_38 ?_
  refine G_bipush (pc := 39) (v := 6) (by decide) dX1_restore_39 ?_
  refine G_iadd (pc := 41) (z := 30) (by decide) dX1_restore_41 ?_
  refine G_iconst (pc := 42) (v := 1) (by decide) dX1_restore_42 ?_
  refine G_iadd (pc := 43) (z := 31) (by decide) dX1_restore_43 ?_
  refine G_iald (pc := 44) (jj := 31) (v := 3) (by decide) rfl rfl (by unfold vp_in; decide) dX1_restore_44 ?_
  refine G_putI (pc := 45) (ci := 1) (j := 1) rfl lk_RX1_60 rfl rfl rfl trivial dX1_restore_45 ?_
  exact G_vret (pc := 48) (Nat.le_of_ble_eq_true rfl) (Nat.le_of_ble_eq_true rfl) rfl dX1_restore_48 ⟨rfl, rfl⟩
set_option maxRecDepth 100000 in
set_option maxHeartbeats 4000000 in
theorem s277_X4_duel  (d : Nat)   : G (d + 2) mX4_duel 0 0 0 0 0 (gent 8 [.ref 51, .int 3, .int 1]) [] SH0 RF0 (gup (gup (gup (gcp (gup (gup (gup (gup (gcp (gup (gup (gup (gup (gcp (gup I0 54 0 0) 24 34 (0 : Int32).toNatClampNeg (0 : Int32).toNatClampNeg (6 : Int32).toNatClampNeg) 34 6 0) 34 7 0) 19 1 1) 54 1 0) 24 34 (0 : Int32).toNatClampNeg (8 : Int32).toNatClampNeg (6 : Int32).toNatClampNeg) 34 14 0) 34 15 1) 19 1 2) 54 2 0) 24 34 (0 : Int32).toNatClampNeg (16 : Int32).toNatClampNeg (6 : Int32).toNatClampNeg) 34 22 0) 34 23 2) 19 1 3) (fun r h => r = some (.int 0) ∧ h = (SH0, RF0, (gup (gup (gup (gcp (gup (gup (gup (gup (gcp (gup (gup (gup (gup (gcp (gup (gup (gup (gup (gcp (gup (gup (gup (gup (gcp (gup I0 54 0 0) 24 34 (0 : Int32).toNatClampNeg (0 : Int32).toNatClampNeg (6 : Int32).toNatClampNeg) 34 6 0) 34 7 0) 19 1 1) 54 1 0) 24 34 (0 : Int32).toNatClampNeg (8 : Int32).toNatClampNeg (6 : Int32).toNatClampNeg) 34 14 0) 34 15 1) 19 1 2) 54 2 0) 24 34 (0 : Int32).toNatClampNeg (16 : Int32).toNatClampNeg (6 : Int32).toNatClampNeg) 34 22 0) 34 23 2) 19 1 3) 54 3 0) 24 34 (0 : Int32).toNatClampNeg (24 : Int32).toNatClampNeg (6 : Int32).toNatClampNeg) 34 30 0) 34 31 3) 19 1 4) 54 4 0) 34 24 (24 : Int32).toNatClampNeg (0 : Int32).toNatClampNeg (6 : Int32).toNatClampNeg) 19 9 0) 19 1 3) 54 3 0))) := by
  refine G_aload_n (pc := 0) rfl dX4_duel_0 ?_
  refine G_getR (pc := 1) (r := 54) (ci := 4) (j := 3) rfl lk_RX4_18 rfl rfl rfl dX4_duel_1 ?_
  refine G_iload_n (pc := 4) rfl dX4_duel_4 ?_
  refine G_iconst (pc := 5) (v := 0) (by decide) dX4_duel_5 ?_
  refine G_iast (pc := 6) (jj := 3) (by decide) rfl (by unfold vp_in; decide) dX4_duel_6 ?_
  refine G_aload_n (pc := 7) rfl dX4_duel_7 ?_
  refine G_iload_n (pc := 8) rfl dX4_duel_8 ?_
  refine G_iload_n (pc := 9) rfl dX4_duel_9 ?_
  refine G_callV (pc := 10) (mc1 := 0) (ms1 := 0) (ci := 4) (mj := mX4_isLast) (vs := [_, _]) dX4_duel_10 rfl rfl cm_X4_isLast wf_126 wf_129 wf_130 rfl (Nat.le_of_ble_eq_true rfl) (Nat.le_of_ble_eq_true rfl) (Nat.le_of_ble_eq_true rfl) (Nat.le_of_ble_eq_true rfl) (s278_X4_isLast  d  ) ?_
  rintro _ _ ⟨rfl, rfl⟩
  dsimp only [Option.toList, List.cons_append, List.nil_append]
  refine G_if_eq (pc := 13) (tgt := 18) (by decide) dX4_duel_13 (fun _ => ?_) (fun z => absurd (by decide) z)
  refine G_iload_n (pc := 18) rfl dX4_duel_18 ?_
  refine G_iconst (pc := 19) (v := 2) (by decide) dX4_duel_19 ?_
  refine G_irem (pc := 20) (z := 1) (by decide) (by decide) dX4_duel_20 ?_
  refine G_if_ne (pc := 21) (tgt := 28) (by decide) dX4_duel_21 (fun _ => ?_) (fun z => absurd z (by decide))
  refine G_iconst (pc := 28) (v := 0) (by decide) dX4_duel_28 ?_
  refine G_istore_n (pc := 29) (L1 := [some (.ref 51), some (.int 3), some (.int 1), some (.int 0), none, none, none, none]) rfl rfl (by decide) dX4_duel_29 ?_
  refine G_iconst (pc := 30) (v := 0) (by decide) dX4_duel_30 ?_
  refine G_istore (pc := 31) (L1 := [some (.ref 51), some (.int 3), some (.int 1), some (.int 0), some (.int 0), none, none, none]) rfl rfl (by decide) dX4_duel_31 ?_
  refine G_aload_n (pc := 33) rfl dX4_duel_33 ?_
  refine G_getR (pc := 34) (r := 19) (ci := 4) (j := 0) rfl lk_RX4_21 rfl rfl rfl dX4_duel_34 ?_
  refine G_iload_n (pc := 37) rfl dX4_duel_37 ?_
  refine G_callV (pc := 38) (mc1 := 0) (ms1 := 0) (ci := 1) (mj := mX1_save) (vs := [_]) dX4_duel_38 rfl rfl cm_X1_save wf_134 wf_105 wf_106 rfl (Nat.le_of_ble_eq_true rfl) (Nat.le_of_ble_eq_true rfl) (Nat.le_of_ble_eq_true rfl) (Nat.le_of_ble_eq_true rfl) (s280_X1_save  d  ) ?_
  rintro _ _ ⟨rfl, rfl⟩
  dsimp only [Option.toList, List.cons_append, List.nil_append]
  refine G_iconst (pc := 41) (v := 0) (by decide) dX4_duel_41 ?_
  refine G_istore (pc := 42) (L1 := [some (.ref 51), some (.int 3), some (.int 1), some (.int 0), some (.int 0), some (.int 0), none, none]) rfl rfl (by decide) dX4_duel_42 ?_
  refine G_iload (pc := 44) rfl dX4_duel_44 ?_
  refine G_aload_n (pc := 46) rfl dX4_duel_46 ?_
  refine G_getR (pc := 47) (r := 19) (ci := 4) (j := 0) rfl lk_RX4_21 rfl rfl rfl dX4_duel_47 ?_
  refine G_getI (pc := 50) (v := 0) (ci := 1) (j := 8) rfl rfl lk_RX4_39 rfl rfl dX4_duel_50 ?_
  refine G_icmp_gt (pc := 53) (tgt := 156) (by decide) dX4_duel_53 (fun z => absurd z (by decide)) (fun _ => ?_)
  refine G_aload_n (pc := 56) rfl dX4_duel_56 ?_
  refine G_getR (pc := 57) (r := 19) (ci := 4) (j := 0) rfl lk_RX4_21 rfl rfl rfl dX4_duel_57 ?_
  refine G_iload (pc := 60) rfl dX4_duel_60 ?_
  refine G_callV (pc := 62) (mc1 := 0) (ms1 := 0) (ci := 1) (mj := mX1_tell) (vs := [_]) dX4_duel_62 rfl rfl cm_X1_tell wf_135 wf_71 wf_72 rfl (Nat.le_of_ble_eq_true rfl) (Nat.le_of_ble_eq_true rfl) (Nat.le_of_ble_eq_true rfl) (Nat.le_of_ble_eq_true rfl) (s281_X1_tell  d  ) ?_
  rintro _ _ ⟨rfl, rfl⟩
  dsimp only [Option.toList, List.cons_append, List.nil_append]
  refine G_istore (pc := 65) (L1 := [some (.ref 51), some (.int 3), some (.int 1), some (.int 0), some (.int 0), some (.int 0), some (.int 0), none]) rfl rfl (by decide) dX4_duel_65 ?_
  refine G_iload (pc := 67) rfl dX4_duel_67 ?_
  refine G_if_eq (pc := 69) (tgt := 77) (by decide) dX4_duel_69 (fun _ => ?_) (fun z => absurd (by decide) z)
  refine G_iload (pc := 77) rfl dX4_duel_77 ?_
  refine G_aload_n (pc := 79) rfl dX4_duel_79 ?_
  refine G_getR (pc := 80) (r := 19) (ci := 4) (j := 0) rfl lk_RX4_21 rfl rfl rfl dX4_duel_80 ?_
  refine G_callV (pc := 83) (mc1 := 0) (ms1 := 0) (ci := 1) (mj := mX1_melt) (vs := []) dX4_duel_83 rfl rfl cm_X1_melt wf_136 wf_75 wf_76 rfl (Nat.le_of_ble_eq_true rfl) (Nat.le_of_ble_eq_true rfl) (Nat.le_of_ble_eq_true rfl) (Nat.le_of_ble_eq_true rfl) (s283_X1_melt  (d + 1)  ) ?_
  rintro _ _ ⟨rfl, rfl⟩
  dsimp only [Option.toList, List.cons_append, List.nil_append]
  refine G_iadd (pc := 86) (z := 0) (by decide) dX4_duel_86 ?_
  refine G_istore (pc := 87) (L1 := [some (.ref 51), some (.int 3), some (.int 1), some (.int 0), some (.int 0), some (.int 0), some (.int 0), some (.int 0)]) rfl rfl (by decide) dX4_duel_87 ?_
  refine G_iload (pc := 89) rfl dX4_duel_89 ?_
  refine G_aload_n (pc := 91) rfl dX4_duel_91 ?_
  refine G_iload_n (pc := 92) rfl dX4_duel_92 ?_
  refine G_iconst (pc := 93) (v := 1) (by decide) dX4_duel_93 ?_
  refine G_iadd (pc := 94) (z := 4) (by decide) dX4_duel_94 ?_
  refine G_iload_n (pc := 95) rfl dX4_duel_95 ?_
  refine G_iconst (pc := 96) (v := 1) (by decide) dX4_duel_96 ?_
  refine G_isub (pc := 97) (z := 0) (by decide) dX4_duel_97 ?_
  refine G_callV (pc := 98) (mc1 := 0) (ms1 := 0) (ci := 4) (mj := mX4_duel) (vs := [_, _]) dX4_duel_98 rfl rfl cm_X4_duel wf_168 wf_170 wf_171 rfl (Nat.le_of_ble_eq_true rfl) (Nat.le_of_ble_eq_true rfl) (Nat.le_of_ble_eq_true rfl) (Nat.le_of_ble_eq_true rfl) (s284_X4_duel  d  ) ?_
  rintro _ _ ⟨rfl, rfl⟩
  dsimp only [Option.toList, List.cons_append, List.nil_append]
  refine G_iadd (pc := 101) (z := 0) (by decide) dX4_duel_101 ?_
  refine G_istore (pc := 102) (L1 := [some (.ref 51), some (.int 3), some (.int 1), some (.int 0), some (.int 0), some (.int 0), some (.int 0), some (.int 0)]) rfl rfl (by decide) dX4_duel_102 ?_
  refine G_aload_n (pc := 104) rfl dX4_duel_104 ?_
  refine G_getR (pc := 105) (r := 19) (ci := 4) (j := 0) rfl lk_RX4_21 rfl rfl rfl dX4_duel_105 ?_
  refine G_iload_n (pc := 108) rfl dX4_duel_108 ?_
  refine G_callV (pc := 109) (mc1 := 0) (ms1 := 0) (ci := 1) (mj := mX1_restore) (vs := [_]) dX4_duel_109 rfl rfl cm_X1_restore wf_138 wf_109 wf_110 rfl (Nat.le_of_ble_eq_true rfl) (Nat.le_of_ble_eq_true rfl) (Nat.le_of_ble_eq_true rfl) (Nat.le_of_ble_eq_true rfl) (s286_X1_restore  d  ) ?_
  rintro _ _ ⟨rfl, rfl⟩
  dsimp only [Option.toList, List.cons_append, List.nil_append]
  refine G_iload (pc := 112) rfl dX4_duel_112 ?_
  refine G_if_eq (pc := 114) (tgt := 138) (by decide) dX4_duel_114 (fun _ => ?_) (fun z => absurd (by decide) z)
  refine G_iload (pc := 138) rfl dX4_duel_138 ?_
  refine G_istore (pc := 140) (L1 := [some (.ref 51), some (.int 3), some (.int 1), some (.int 0), some (.int 0), some (.int 0), some (.int 0), some (.int 0)]) rfl rfl (by decide) dX4_duel_140 ?_
  refine G_aload_n (pc := 142) rfl dX4_duel_142 ?_
  refine G_getR (pc := 143) (r := 54) (ci := 4) (j := 3) rfl lk_RX4_18 rfl rfl rfl dX4_duel_143 ?_
  refine G_iload_n (pc := 146) rfl dX4_duel_146 ?_
  refine G_iload (pc := 147) rfl dX4_duel_147 ?_
  refine G_iast (pc := 149) (jj := 3) (by decide) rfl (by unfold vp_in; decide) dX4_duel_149 ?_
  refine G_iinc (pc := 150) (v := 1) (w := 1) (L1 := [some (.ref 51), some (.int 3), some (.int 1), some (.int 0), some (.int 0), some (.int 1), some (.int 0), some (.int 0)]) (by decide) rfl rfl (by decide) rfl (by decide) dX4_duel_150 ?_
  refine G_goto (pc := 153) (tgt := 44) (by decide) dX4_duel_153 ?_
  refine G_iload (pc := 44) rfl dX4_duel_44 ?_
  refine G_aload_n (pc := 46) rfl dX4_duel_46 ?_
  refine G_getR (pc := 47) (r := 19) (ci := 4) (j := 0) rfl lk_RX4_21 rfl rfl rfl dX4_duel_47 ?_
  refine G_getI (pc := 50) (v := 0) (ci := 1) (j := 8) rfl rfl lk_RX4_39 rfl rfl dX4_duel_50 ?_
  refine G_icmp_gt (pc := 53) (tgt := 156) (by decide) dX4_duel_53 (fun _ => ?_) (fun z => absurd (by decide) z)
  refine G_iload (pc := 156) rfl dX4_duel_156 ?_
  exact G_iret (pc := 158) (Nat.le_of_ble_eq_true rfl) (Nat.le_of_ble_eq_true rfl) rfl dX4_duel_158 ⟨rfl, rfl⟩
set_option maxRecDepth 100000 in
set_option maxHeartbeats 4000000 in
theorem s287_X1_restore  (d : Nat)   : G (d + 1) mX1_restore 0 0 0 0 0 (gent 3 [.ref 19, .int 2]) [] SH0 RF0 (gup (gup (gup (gcp (gup (gup (gup (gup (gcp (gup (gup (gup (gup (gcp (gup (gup (gup (gup (gcp (gup (gup (gup (gup (gcp (gup I0 54 0 0) 24 34 (0 : Int32).toNatClampNeg (0 : Int32).toNatClampNeg (6 : Int32).toNatClampNeg) 34 6 0) 34 7 0) 19 1 1) 54 1 0) 24 34 (0 : Int32).toNatClampNeg (8 : Int32).toNatClampNeg (6 : Int32).toNatClampNeg) 34 14 0) 34 15 1) 19 1 2) 54 2 0) 24 34 (0 : Int32).toNatClampNeg (16 : Int32).toNatClampNeg (6 : Int32).toNatClampNeg) 34 22 0) 34 23 2) 19 1 3) 54 3 0) 24 34 (0 : Int32).toNatClampNeg (24 : Int32).toNatClampNeg (6 : Int32).toNatClampNeg) 34 30 0) 34 31 3) 19 1 4) 54 4 0) 34 24 (24 : Int32).toNatClampNeg (0 : Int32).toNatClampNeg (6 : Int32).toNatClampNeg) 19 9 0) 19 1 3) 54 3 0) (fun r h => r = none ∧ h = (SH0, RF0, (gup (gup (gcp (gup (gup (gup (gcp (gup (gup (gup (gup (gcp (gup (gup (gup (gup (gcp (gup (gup (gup (gup (gcp (gup (gup (gup (gup (gcp (gup I0 54 0 0) 24 34 (0 : Int32).toNatClampNeg (0 : Int32).toNatClampNeg (6 : Int32).toNatClampNeg) 34 6 0) 34 7 0) 19 1 1) 54 1 0) 24 34 (0 : Int32).toNatClampNeg (8 : Int32).toNatClampNeg (6 : Int32).toNatClampNeg) 34 14 0) 34 15 1) 19 1 2) 54 2 0) 24 34 (0 : Int32).toNatClampNeg (16 : Int32).toNatClampNeg (6 : Int32).toNatClampNeg) 34 22 0) 34 23 2) 19 1 3) 54 3 0) 24 34 (0 : Int32).toNatClampNeg (24 : Int32).toNatClampNeg (6 : Int32).toNatClampNeg) 34 30 0) 34 31 3) 19 1 4) 54 4 0) 34 24 (24 : Int32).toNatClampNeg (0 : Int32).toNatClampNeg (6 : Int32).toNatClampNeg) 19 9 0) 19 1 3) 54 3 0) 34 24 (16 : Int32).toNatClampNeg (0 : Int32).toNatClampNeg (6 : Int32).toNatClampNeg) 19 9 0) 19 1 2))) := by
  refine G_iload_n (pc := 0) rfl dX1_restore_0 ?_
  refine G_bipush (pc := 1) (v := 8) (by decide) dX1_restore_1 ?_
  refine G_imul (pc := 3) (z := 16) (by decide) dX1_restore_3 ?_
  refine G_istore_n (pc := 4) (L1 := [some (.ref 19), some (.int 2), some (.int 16)]) rfl rfl (by decide) dX1_restore_4 ?_
  refine G_aload_n (pc := 5) rfl dX1_restore_5 ?_
  refine G_getR (pc := 6) (r := 34) (ci := 1) (j := 18) rfl lk_RX1_53 rfl rfl rfl dX1_restore_6 ?_
  refine G_iload_n (pc := 9) rfl dX1_restore_9 ?_
  refine G_aload_n (pc := 10) rfl dX1_restore_10 ?_
  refine G_getR (pc := 11) (r := 24) (ci := 1) (j := 11) rfl lk_RX1_31 rfl rfl rfl dX1_restore_11 ?_
  refine G_iconst (pc := 14) (v := 0) (by decide) dX1_restore_14 ?_
  refine G_bipush (pc := 15) (v := 6) (by decide) dX1_restore_15 ?_
  refine G_copy (pc := 17) (x := 34) (y := 24) rfl rfl (by decide) (by decide) (by decide) (by decide) (by decide) wf_50 wf_51 wf_52 wf_53 (Nat.le_of_ble_eq_true rfl) dX1_restore_17 ?_
  refine G_aload_n (pc := 20) rfl dX1_restore_20 ?_
  refine G_aload_n (pc := 21) rfl dX1_restore_21 ?_
  refine G_getR (pc := 22) (r := 34) (ci := 1) (j := 18) rfl lk_RX1_53 rfl rfl rfl dX1_restore_22 ?_
  refine G_iload_n (pc := 25) rfl dX1_restore_25 ?_
  refine G_bipush (pc := 26) (v := 6) (by decide) dX1_restore_26 ?_
  refine G_iadd (pc := 28) (z := 22) (by decide) dX1_restore_28 ?_
  refine G_iald (pc := 29) (jj := 22) (v := 0) (by decide) rfl rfl (by unfold vp_in; decide) dX1_restore_29 ?_
  refine G_putI (pc := 30) (ci := 1) (j := 9) rfl lk_RX1_75 rfl rfl rfl trivial dX1_restore_30 ?_
  refine G_aload_n (pc := 33) rfl dX1_restore_33 ?_
  refine G_aload_n (pc := 34) rfl dX1_restore_34 ?_
  refine G_getR (pc := 35) (r := 34) (ci := 1) (j := 18) rfl lk_RX1_53 rfl rfl rfl dX1_restore_35 ?_
  refine G_iload_n (pc := 38) rfl dX1_restore_38 ?_
  refine G_bipush (pc := 39) (v := 6) (by decide) dX1_restore_39 ?_
  refine G_iadd (pc := 41) (z := 22) (by decide) dX1_restore_41 ?_
  refine G_iconst (pc := 42) (v := 1) (by decide) dX1_restore_42 ?_
  refine G_iadd (pc := 43) (z := 23) (by decide) dX1_restore_43 ?_
  refine G_iald (pc := 44) (jj := 23) (v := 2) (by decide) rfl rfl (by unfold vp_in; decide) dX1_restore_44 ?_
  refine G_putI (pc := 45) (ci := 1) (j := 1) rfl lk_RX1_60 rfl rfl rfl trivial dX1_restore_45 ?_
  exact G_vret (pc := 48) (Nat.le_of_ble_eq_true rfl) (Nat.le_of_ble_eq_true rfl) rfl dX1_restore_48 ⟨rfl, rfl⟩
set_option maxRecDepth 100000 in
set_option maxHeartbeats 4000000 in
theorem s275_X4_duel  (d : Nat)   : G (d + 3) mX4_duel 0 0 0 0 0 (gent 8 [.ref 51, .int 2, .int 2]) [] SH0 RF0 (gup (gup (gup (gcp (gup (gup (gup (gup (gcp (gup I0 54 0 0) 24 34 (0 : Int32).toNatClampNeg (0 : Int32).toNatClampNeg (6 : Int32).toNatClampNeg) 34 6 0) 34 7 0) 19 1 1) 54 1 0) 24 34 (0 : Int32).toNatClampNeg (8 : Int32).toNatClampNeg (6 : Int32).toNatClampNeg) 34 14 0) 34 15 1) 19 1 2) (fun r h => r = some (.int 0) ∧ h = (SH0, RF0, (gup (gup (gup (gcp (gup (gup (gup (gcp (gup (gup (gup (gup (gcp (gup (gup (gup (gup (gcp (gup (gup (gup (gup (gcp (gup (gup (gup (gup (gcp (gup I0 54 0 0) 24 34 (0 : Int32).toNatClampNeg (0 : Int32).toNatClampNeg (6 : Int32).toNatClampNeg) 34 6 0) 34 7 0) 19 1 1) 54 1 0) 24 34 (0 : Int32).toNatClampNeg (8 : Int32).toNatClampNeg (6 : Int32).toNatClampNeg) 34 14 0) 34 15 1) 19 1 2) 54 2 0) 24 34 (0 : Int32).toNatClampNeg (16 : Int32).toNatClampNeg (6 : Int32).toNatClampNeg) 34 22 0) 34 23 2) 19 1 3) 54 3 0) 24 34 (0 : Int32).toNatClampNeg (24 : Int32).toNatClampNeg (6 : Int32).toNatClampNeg) 34 30 0) 34 31 3) 19 1 4) 54 4 0) 34 24 (24 : Int32).toNatClampNeg (0 : Int32).toNatClampNeg (6 : Int32).toNatClampNeg) 19 9 0) 19 1 3) 54 3 0) 34 24 (16 : Int32).toNatClampNeg (0 : Int32).toNatClampNeg (6 : Int32).toNatClampNeg) 19 9 0) 19 1 2) 54 2 0))) := by
  refine G_aload_n (pc := 0) rfl dX4_duel_0 ?_
  refine G_getR (pc := 1) (r := 54) (ci := 4) (j := 3) rfl lk_RX4_18 rfl rfl rfl dX4_duel_1 ?_
  refine G_iload_n (pc := 4) rfl dX4_duel_4 ?_
  refine G_iconst (pc := 5) (v := 0) (by decide) dX4_duel_5 ?_
  refine G_iast (pc := 6) (jj := 2) (by decide) rfl (by unfold vp_in; decide) dX4_duel_6 ?_
  refine G_aload_n (pc := 7) rfl dX4_duel_7 ?_
  refine G_iload_n (pc := 8) rfl dX4_duel_8 ?_
  refine G_iload_n (pc := 9) rfl dX4_duel_9 ?_
  refine G_callV (pc := 10) (mc1 := 0) (ms1 := 0) (ci := 4) (mj := mX4_isLast) (vs := [_, _]) dX4_duel_10 rfl rfl cm_X4_isLast wf_126 wf_129 wf_130 rfl (Nat.le_of_ble_eq_true rfl) (Nat.le_of_ble_eq_true rfl) (Nat.le_of_ble_eq_true rfl) (Nat.le_of_ble_eq_true rfl) (s276_X4_isLast  (d + 1)  ) ?_
  rintro _ _ ⟨rfl, rfl⟩
  dsimp only [Option.toList, List.cons_append, List.nil_append]
  refine G_if_eq (pc := 13) (tgt := 18) (by decide) dX4_duel_13 (fun _ => ?_) (fun z => absurd (by decide) z)
  refine G_iload_n (pc := 18) rfl dX4_duel_18 ?_
  refine G_iconst (pc := 19) (v := 2) (by decide) dX4_duel_19 ?_
  refine G_irem (pc := 20) (z := 0) (by decide) (by decide) dX4_duel_20 ?_
  refine G_if_ne (pc := 21) (tgt := 28) (by decide) dX4_duel_21 (fun z => absurd (by decide) z) (fun _ => ?_)
  refine G_iconst (pc := 24) (v := 1) (by decide) dX4_duel_24 ?_
  refine G_goto (pc := 25) (tgt := 29) (by decide) dX4_duel_25 ?_
  refine G_istore_n (pc := 29) (L1 := [some (.ref 51), some (.int 2), some (.int 2), some (.int 1), none, none, none, none]) rfl rfl (by decide) dX4_duel_29 ?_
  refine G_iconst (pc := 30) (v := 0) (by decide) dX4_duel_30 ?_
  refine G_istore (pc := 31) (L1 := [some (.ref 51), some (.int 2), some (.int 2), some (.int 1), some (.int 0), none, none, none]) rfl rfl (by decide) dX4_duel_31 ?_
  refine G_aload_n (pc := 33) rfl dX4_duel_33 ?_
  refine G_getR (pc := 34) (r := 19) (ci := 4) (j := 0) rfl lk_RX4_21 rfl rfl rfl dX4_duel_34 ?_
  refine G_iload_n (pc := 37) rfl dX4_duel_37 ?_
  refine G_callV (pc := 38) (mc1 := 0) (ms1 := 0) (ci := 1) (mj := mX1_save) (vs := [_]) dX4_duel_38 rfl rfl cm_X1_save wf_134 wf_105 wf_106 rfl (Nat.le_of_ble_eq_true rfl) (Nat.le_of_ble_eq_true rfl) (Nat.le_of_ble_eq_true rfl) (Nat.le_of_ble_eq_true rfl) (s262_X1_save  (d + 1)  ) ?_
  rintro _ _ ⟨rfl, rfl⟩
  dsimp only [Option.toList, List.cons_append, List.nil_append]
  refine G_iconst (pc := 41) (v := 0) (by decide) dX4_duel_41 ?_
  refine G_istore (pc := 42) (L1 := [some (.ref 51), some (.int 2), some (.int 2), some (.int 1), some (.int 0), some (.int 0), none, none]) rfl rfl (by decide) dX4_duel_42 ?_
  refine G_iload (pc := 44) rfl dX4_duel_44 ?_
  refine G_aload_n (pc := 46) rfl dX4_duel_46 ?_
  refine G_getR (pc := 47) (r := 19) (ci := 4) (j := 0) rfl lk_RX4_21 rfl rfl rfl dX4_duel_47 ?_
  refine G_getI (pc := 50) (v := 0) (ci := 1) (j := 8) rfl rfl lk_RX4_39 rfl rfl dX4_duel_50 ?_
  refine G_icmp_gt (pc := 53) (tgt := 156) (by decide) dX4_duel_53 (fun z => absurd z (by decide)) (fun _ => ?_)
  refine G_aload_n (pc := 56) rfl dX4_duel_56 ?_
  refine G_getR (pc := 57) (r := 19) (ci := 4) (j := 0) rfl lk_RX4_21 rfl rfl rfl dX4_duel_57 ?_
  refine G_iload (pc := 60) rfl dX4_duel_60 ?_
  refine G_callV (pc := 62) (mc1 := 0) (ms1 := 0) (ci := 1) (mj := mX1_tell) (vs := [_]) dX4_duel_62 rfl rfl cm_X1_tell wf_135 wf_71 wf_72 rfl (Nat.le_of_ble_eq_true rfl) (Nat.le_of_ble_eq_true rfl) (Nat.le_of_ble_eq_true rfl) (Nat.le_of_ble_eq_true rfl) (s263_X1_tell  (d + 1)  ) ?_
  rintro _ _ ⟨rfl, rfl⟩
  dsimp only [Option.toList, List.cons_append, List.nil_append]
  refine G_istore (pc := 65) (L1 := [some (.ref 51), some (.int 2), some (.int 2), some (.int 1), some (.int 0), some (.int 0), some (.int 0), none]) rfl rfl (by decide) dX4_duel_65 ?_
  refine G_iload (pc := 67) rfl dX4_duel_67 ?_
  refine G_if_eq (pc := 69) (tgt := 77) (by decide) dX4_duel_69 (fun _ => ?_) (fun z => absurd (by decide) z)
  refine G_iload (pc := 77) rfl dX4_duel_77 ?_
  refine G_aload_n (pc := 79) rfl dX4_duel_79 ?_
  refine G_getR (pc := 80) (r := 19) (ci := 4) (j := 0) rfl lk_RX4_21 rfl rfl rfl dX4_duel_80 ?_
  refine G_callV (pc := 83) (mc1 := 0) (ms1 := 0) (ci := 1) (mj := mX1_melt) (vs := []) dX4_duel_83 rfl rfl cm_X1_melt wf_136 wf_75 wf_76 rfl (Nat.le_of_ble_eq_true rfl) (Nat.le_of_ble_eq_true rfl) (Nat.le_of_ble_eq_true rfl) (Nat.le_of_ble_eq_true rfl) (s265_X1_melt  (d + 2)  ) ?_
  rintro _ _ ⟨rfl, rfl⟩
  dsimp only [Option.toList, List.cons_append, List.nil_append]
  refine G_iadd (pc := 86) (z := 0) (by decide) dX4_duel_86 ?_
  refine G_istore (pc := 87) (L1 := [some (.ref 51), some (.int 2), some (.int 2), some (.int 1), some (.int 0), some (.int 0), some (.int 0), some (.int 0)]) rfl rfl (by decide) dX4_duel_87 ?_
  refine G_iload (pc := 89) rfl dX4_duel_89 ?_
  refine G_aload_n (pc := 91) rfl dX4_duel_91 ?_
  refine G_iload_n (pc := 92) rfl dX4_duel_92 ?_
  refine G_iconst (pc := 93) (v := 1) (by decide) dX4_duel_93 ?_
  refine G_iadd (pc := 94) (z := 3) (by decide) dX4_duel_94 ?_
  refine G_iload_n (pc := 95) rfl dX4_duel_95 ?_
  refine G_iconst (pc := 96) (v := 1) (by decide) dX4_duel_96 ?_
  refine G_isub (pc := 97) (z := 1) (by decide) dX4_duel_97 ?_
  refine G_callV (pc := 98) (mc1 := 0) (ms1 := 0) (ci := 4) (mj := mX4_duel) (vs := [_, _]) dX4_duel_98 rfl rfl cm_X4_duel wf_168 wf_170 wf_171 rfl (Nat.le_of_ble_eq_true rfl) (Nat.le_of_ble_eq_true rfl) (Nat.le_of_ble_eq_true rfl) (Nat.le_of_ble_eq_true rfl) (s277_X4_duel  d  ) ?_
  rintro _ _ ⟨rfl, rfl⟩
  dsimp only [Option.toList, List.cons_append, List.nil_append]
  refine G_iadd (pc := 101) (z := 0) (by decide) dX4_duel_101 ?_
  refine G_istore (pc := 102) (L1 := [some (.ref 51), some (.int 2), some (.int 2), some (.int 1), some (.int 0), some (.int 0), some (.int 0), some (.int 0)]) rfl rfl (by decide) dX4_duel_102 ?_
  refine G_aload_n (pc := 104) rfl dX4_duel_104 ?_
  refine G_getR (pc := 105) (r := 19) (ci := 4) (j := 0) rfl lk_RX4_21 rfl rfl rfl dX4_duel_105 ?_
  refine G_iload_n (pc := 108) rfl dX4_duel_108 ?_
  refine G_callV (pc := 109) (mc1 := 0) (ms1 := 0) (ci := 1) (mj := mX1_restore) (vs := [_]) dX4_duel_109 rfl rfl cm_X1_restore wf_138 wf_109 wf_110 rfl (Nat.le_of_ble_eq_true rfl) (Nat.le_of_ble_eq_true rfl) (Nat.le_of_ble_eq_true rfl) (Nat.le_of_ble_eq_true rfl) (s287_X1_restore  (d + 1)  ) ?_
  rintro _ _ ⟨rfl, rfl⟩
  dsimp only [Option.toList, List.cons_append, List.nil_append]
  refine G_iload (pc := 112) rfl dX4_duel_112 ?_
  refine G_if_eq (pc := 114) (tgt := 138) (by decide) dX4_duel_114 (fun _ => ?_) (fun z => absurd (by decide) z)
  refine G_iload (pc := 138) rfl dX4_duel_138 ?_
  refine G_istore (pc := 140) (L1 := [some (.ref 51), some (.int 2), some (.int 2), some (.int 1), some (.int 0), some (.int 0), some (.int 0), some (.int 0)]) rfl rfl (by decide) dX4_duel_140 ?_
  refine G_aload_n (pc := 142) rfl dX4_duel_142 ?_
  refine G_getR (pc := 143) (r := 54) (ci := 4) (j := 3) rfl lk_RX4_18 rfl rfl rfl dX4_duel_143 ?_
  refine G_iload_n (pc := 146) rfl dX4_duel_146 ?_
  refine G_iload (pc := 147) rfl dX4_duel_147 ?_
  refine G_iast (pc := 149) (jj := 2) (by decide) rfl (by unfold vp_in; decide) dX4_duel_149 ?_
  refine G_iinc (pc := 150) (v := 1) (w := 1) (L1 := [some (.ref 51), some (.int 2), some (.int 2), some (.int 1), some (.int 0), some (.int 1), some (.int 0), some (.int 0)]) (by decide) rfl rfl (by decide) rfl (by decide) dX4_duel_150 ?_
  refine G_goto (pc := 153) (tgt := 44) (by decide) dX4_duel_153 ?_
  refine G_iload (pc := 44) rfl dX4_duel_44 ?_
  refine G_aload_n (pc := 46) rfl dX4_duel_46 ?_
  refine G_getR (pc := 47) (r := 19) (ci := 4) (j := 0) rfl lk_RX4_21 rfl rfl rfl dX4_duel_47 ?_
  refine G_getI (pc := 50) (v := 0) (ci := 1) (j := 8) rfl rfl lk_RX4_39 rfl rfl dX4_duel_50 ?_
  refine G_icmp_gt (pc := 53) (tgt := 156) (by decide) dX4_duel_53 (fun _ => ?_) (fun z => absurd (by decide) z)
  refine G_iload (pc := 156) rfl dX4_duel_156 ?_
  exact G_iret (pc := 158) (Nat.le_of_ble_eq_true rfl) (Nat.le_of_ble_eq_true rfl) rfl dX4_duel_158 ⟨rfl, rfl⟩
set_option maxRecDepth 100000 in
set_option maxHeartbeats 4000000 in
theorem s288_X1_restore  (d : Nat)   : G (d + 1) mX1_restore 0 0 0 0 0 (gent 3 [.ref 19, .int 1]) [] SH0 RF0 (gup (gup (gup (gcp (gup (gup (gup (gcp (gup (gup (gup (gup (gcp (gup (gup (gup (gup (gcp (gup (gup (gup (gup (gcp (gup (gup (gup (gup (gcp (gup I0 54 0 0) 24 34 (0 : Int32).toNatClampNeg (0 : Int32).toNatClampNeg (6 : Int32).toNatClampNeg) 34 6 0) 34 7 0) 19 1 1) 54 1 0) 24 34 (0 : Int32).toNatClampNeg (8 : Int32).toNatClampNeg (6 : Int32).toNatClampNeg) 34 14 0) 34 15 1) 19 1 2) 54 2 0) 24 34 (0 : Int32).toNatClampNeg (16 : Int32).toNatClampNeg (6 : Int32).toNatClampNeg) 34 22 0) 34 23 2) 19 1 3) 54 3 0) 24 34 (0 : Int32).toNatClampNeg (24 : Int32).toNatClampNeg (6 : Int32).toNatClampNeg) 34 30 0) 34 31 3) 19 1 4) 54 4 0) 34 24 (24 : Int32).toNatClampNeg (0 : Int32).toNatClampNeg (6 : Int32).toNatClampNeg) 19 9 0) 19 1 3) 54 3 0) 34 24 (16 : Int32).toNatClampNeg (0 : Int32).toNatClampNeg (6 : Int32).toNatClampNeg) 19 9 0) 19 1 2) 54 2 0) (fun r h => r = none ∧ h = (SH0, RF0, (gup (gup (gcp (gup (gup (gup (gcp (gup (gup (gup (gcp (gup (gup (gup (gup (gcp (gup (gup (gup (gup (gcp (gup (gup (gup (gup (gcp (gup (gup (gup (gup (gcp (gup I0 54 0 0) 24 34 (0 : Int32).toNatClampNeg (0 : Int32).toNatClampNeg (6 : Int32).toNatClampNeg) 34 6 0) 34 7 0) 19 1 1) 54 1 0) 24 34 (0 : Int32).toNatClampNeg (8 : Int32).toNatClampNeg (6 : Int32).toNatClampNeg) 34 14 0) 34 15 1) 19 1 2) 54 2 0) 24 34 (0 : Int32).toNatClampNeg (16 : Int32).toNatClampNeg (6 : Int32).toNatClampNeg) 34 22 0) 34 23 2) 19 1 3) 54 3 0) 24 34 (0 : Int32).toNatClampNeg (24 : Int32).toNatClampNeg (6 : Int32).toNatClampNeg) 34 30 0) 34 31 3) 19 1 4) 54 4 0) 34 24 (24 : Int32).toNatClampNeg (0 : Int32).toNatClampNeg (6 : Int32).toNatClampNeg) 19 9 0) 19 1 3) 54 3 0) 34 24 (16 : Int32).toNatClampNeg (0 : Int32).toNatClampNeg (6 : Int32).toNatClampNeg) 19 9 0) 19 1 2) 54 2 0) 34 24 (8 : Int32).toNatClampNeg (0 : Int32).toNatClampNeg (6 : Int32).toNatClampNeg) 19 9 0) 19 1 1))) := by
  refine G_iload_n (pc := 0) rfl dX1_restore_0 ?_
  refine G_bipush (pc := 1) (v := 8) (by decide) dX1_restore_1 ?_
  refine G_imul (pc := 3) (z := 8) (by decide) dX1_restore_3 ?_
  refine G_istore_n (pc := 4) (L1 := [some (.ref 19), some (.int 1), some (.int 8)]) rfl rfl (by decide) dX1_restore_4 ?_
  refine G_aload_n (pc := 5) rfl dX1_restore_5 ?_
  refine G_getR (pc := 6) (r := 34) (ci := 1) (j := 18) rfl lk_RX1_53 rfl rfl rfl dX1_restore_6 ?_
  refine G_iload_n (pc := 9) rfl dX1_restore_9 ?_
  refine G_aload_n (pc := 10) rfl dX1_restore_10 ?_
  refine G_getR (pc := 11) (r := 24) (ci := 1) (j := 11) rfl lk_RX1_31 rfl rfl rfl dX1_restore_11 ?_
  refine G_iconst (pc := 14) (v := 0) (by decide) dX1_restore_14 ?_
  refine G_bipush (pc := 15) (v := 6) (by decide) dX1_restore_15 ?_
  refine G_copy (pc := 17) (x := 34) (y := 24) rfl rfl (by decide) (by decide) (by decide) (by decide) (by decide) wf_50 wf_51 wf_52 wf_53 (Nat.le_of_ble_eq_true rfl) dX1_restore_17 ?_
  refine G_aload_n (pc := 20) rfl dX1_restore_20 ?_
  refine G_aload_n (pc := 21) rfl dX1_restore_21 ?_
  refine G_getR (pc := 22) (r := 34) (ci := 1) (j := 18) rfl lk_RX1_53 rfl rfl rfl dX1_restore_22 ?_
  refine G_iload_n (pc := 25) rfl dX1_restore_25 ?_
  refine G_bipush (pc := 26) (v := 6) (by decide) dX1_restore_26 ?_
  refine G_iadd (pc := 28) (z := 14) (by decide) dX1_restore_28 ?_
  refine G_iald (pc := 29) (jj := 14) (v := 0) (by decide) rfl rfl (by unfold vp_in; decide) dX1_restore_29 ?_
  refine G_putI (pc := 30) (ci := 1) (j := 9) rfl lk_RX1_75 rfl rfl rfl trivial dX1_restore_30 ?_
  refine G_aload_n (pc := 33) rfl dX1_restore_33 ?_
  refine G_aload_n (pc := 34) rfl dX1_restore_34 ?_
  refine G_getR (pc := 35) (r := 34) (ci := 1) (j := 18) rfl lk_RX1_53 rfl rfl rfl dX1_restore_35 ?_
  refine G_iload_n (pc := 38) rfl dX1_restore_38 ?_
  refine G_bipush (pc := 39) (v := 6) (by decide) dX1_restore_39 ?_
  refine G_iadd (pc := 41) (z := 14) (by decide) dX1_restore_41 ?_
  refine G_iconst (pc := 42) (v := 1) (by decide) dX1_restore_42 ?_
  refine G_iadd (pc := 43) (z := 15) (by decide) dX1_restore_43 ?_
  refine G_iald (pc := 44) (jj := 15) (v := 1) (by decide) rfl rfl (by unfold vp_in; decide) dX1_restore_44 ?_
  refine G_putI (pc := 45) (ci := 1) (j := 1) rfl lk_RX1_60 rfl rfl rfl trivial dX1_restore_45 ?_
  exact G_vret (pc := 48) (Nat.le_of_ble_eq_true rfl) (Nat.le_of_ble_eq_true rfl) rfl dX1_restore_48 ⟨rfl, rfl⟩
set_option maxRecDepth 100000 in
set_option maxHeartbeats 4000000 in
theorem s273_X4_duel  (d : Nat)   : G (d + 4) mX4_duel 0 0 0 0 0 (gent 8 [.ref 51, .int 1, .int 3]) [] SH0 RF0 (gup (gup (gup (gcp (gup I0 54 0 0) 24 34 (0 : Int32).toNatClampNeg (0 : Int32).toNatClampNeg (6 : Int32).toNatClampNeg) 34 6 0) 34 7 0) 19 1 1) (fun r h => r = some (.int 0) ∧ h = (SH0, RF0, (gup (gup (gup (gcp (gup (gup (gup (gcp (gup (gup (gup (gcp (gup (gup (gup (gup (gcp (gup (gup (gup (gup (gcp (gup (gup (gup (gup (gcp (gup (gup (gup (gup (gcp (gup I0 54 0 0) 24 34 (0 : Int32).toNatClampNeg (0 : Int32).toNatClampNeg (6 : Int32).toNatClampNeg) 34 6 0) 34 7 0) 19 1 1) 54 1 0) 24 34 (0 : Int32).toNatClampNeg (8 : Int32).toNatClampNeg (6 : Int32).toNatClampNeg) 34 14 0) 34 15 1) 19 1 2) 54 2 0) 24 34 (0 : Int32).toNatClampNeg (16 : Int32).toNatClampNeg (6 : Int32).toNatClampNeg) 34 22 0) 34 23 2) 19 1 3) 54 3 0) 24 34 (0 : Int32).toNatClampNeg (24 : Int32).toNatClampNeg (6 : Int32).toNatClampNeg) 34 30 0) 34 31 3) 19 1 4) 54 4 0) 34 24 (24 : Int32).toNatClampNeg (0 : Int32).toNatClampNeg (6 : Int32).toNatClampNeg) 19 9 0) 19 1 3) 54 3 0) 34 24 (16 : Int32).toNatClampNeg (0 : Int32).toNatClampNeg (6 : Int32).toNatClampNeg) 19 9 0) 19 1 2) 54 2 0) 34 24 (8 : Int32).toNatClampNeg (0 : Int32).toNatClampNeg (6 : Int32).toNatClampNeg) 19 9 0) 19 1 1) 54 1 0))) := by
  refine G_aload_n (pc := 0) rfl dX4_duel_0 ?_
  refine G_getR (pc := 1) (r := 54) (ci := 4) (j := 3) rfl lk_RX4_18 rfl rfl rfl dX4_duel_1 ?_
  refine G_iload_n (pc := 4) rfl dX4_duel_4 ?_
  refine G_iconst (pc := 5) (v := 0) (by decide) dX4_duel_5 ?_
  refine G_iast (pc := 6) (jj := 1) (by decide) rfl (by unfold vp_in; decide) dX4_duel_6 ?_
  refine G_aload_n (pc := 7) rfl dX4_duel_7 ?_
  refine G_iload_n (pc := 8) rfl dX4_duel_8 ?_
  refine G_iload_n (pc := 9) rfl dX4_duel_9 ?_
  refine G_callV (pc := 10) (mc1 := 0) (ms1 := 0) (ci := 4) (mj := mX4_isLast) (vs := [_, _]) dX4_duel_10 rfl rfl cm_X4_isLast wf_126 wf_129 wf_130 rfl (Nat.le_of_ble_eq_true rfl) (Nat.le_of_ble_eq_true rfl) (Nat.le_of_ble_eq_true rfl) (Nat.le_of_ble_eq_true rfl) (s274_X4_isLast  (d + 2)  ) ?_
  rintro _ _ ⟨rfl, rfl⟩
  dsimp only [Option.toList, List.cons_append, List.nil_append]
  refine G_if_eq (pc := 13) (tgt := 18) (by decide) dX4_duel_13 (fun _ => ?_) (fun z => absurd (by decide) z)
  refine G_iload_n (pc := 18) rfl dX4_duel_18 ?_
  refine G_iconst (pc := 19) (v := 2) (by decide) dX4_duel_19 ?_
  refine G_irem (pc := 20) (z := 1) (by decide) (by decide) dX4_duel_20 ?_
  refine G_if_ne (pc := 21) (tgt := 28) (by decide) dX4_duel_21 (fun _ => ?_) (fun z => absurd z (by decide))
  refine G_iconst (pc := 28) (v := 0) (by decide) dX4_duel_28 ?_
  refine G_istore_n (pc := 29) (L1 := [some (.ref 51), some (.int 1), some (.int 3), some (.int 0), none, none, none, none]) rfl rfl (by decide) dX4_duel_29 ?_
  refine G_iconst (pc := 30) (v := 0) (by decide) dX4_duel_30 ?_
  refine G_istore (pc := 31) (L1 := [some (.ref 51), some (.int 1), some (.int 3), some (.int 0), some (.int 0), none, none, none]) rfl rfl (by decide) dX4_duel_31 ?_
  refine G_aload_n (pc := 33) rfl dX4_duel_33 ?_
  refine G_getR (pc := 34) (r := 19) (ci := 4) (j := 0) rfl lk_RX4_21 rfl rfl rfl dX4_duel_34 ?_
  refine G_iload_n (pc := 37) rfl dX4_duel_37 ?_
  refine G_callV (pc := 38) (mc1 := 0) (ms1 := 0) (ci := 1) (mj := mX1_save) (vs := [_]) dX4_duel_38 rfl rfl cm_X1_save wf_134 wf_105 wf_106 rfl (Nat.le_of_ble_eq_true rfl) (Nat.le_of_ble_eq_true rfl) (Nat.le_of_ble_eq_true rfl) (Nat.le_of_ble_eq_true rfl) (s247_X1_save  (d + 2)  ) ?_
  rintro _ _ ⟨rfl, rfl⟩
  dsimp only [Option.toList, List.cons_append, List.nil_append]
  refine G_iconst (pc := 41) (v := 0) (by decide) dX4_duel_41 ?_
  refine G_istore (pc := 42) (L1 := [some (.ref 51), some (.int 1), some (.int 3), some (.int 0), some (.int 0), some (.int 0), none, none]) rfl rfl (by decide) dX4_duel_42 ?_
  refine G_iload (pc := 44) rfl dX4_duel_44 ?_
  refine G_aload_n (pc := 46) rfl dX4_duel_46 ?_
  refine G_getR (pc := 47) (r := 19) (ci := 4) (j := 0) rfl lk_RX4_21 rfl rfl rfl dX4_duel_47 ?_
  refine G_getI (pc := 50) (v := 0) (ci := 1) (j := 8) rfl rfl lk_RX4_39 rfl rfl dX4_duel_50 ?_
  refine G_icmp_gt (pc := 53) (tgt := 156) (by decide) dX4_duel_53 (fun z => absurd z (by decide)) (fun _ => ?_)
  refine G_aload_n (pc := 56) rfl dX4_duel_56 ?_
  refine G_getR (pc := 57) (r := 19) (ci := 4) (j := 0) rfl lk_RX4_21 rfl rfl rfl dX4_duel_57 ?_
  refine G_iload (pc := 60) rfl dX4_duel_60 ?_
  refine G_callV (pc := 62) (mc1 := 0) (ms1 := 0) (ci := 1) (mj := mX1_tell) (vs := [_]) dX4_duel_62 rfl rfl cm_X1_tell wf_135 wf_71 wf_72 rfl (Nat.le_of_ble_eq_true rfl) (Nat.le_of_ble_eq_true rfl) (Nat.le_of_ble_eq_true rfl) (Nat.le_of_ble_eq_true rfl) (s248_X1_tell  (d + 2)  ) ?_
  rintro _ _ ⟨rfl, rfl⟩
  dsimp only [Option.toList, List.cons_append, List.nil_append]
  refine G_istore (pc := 65) (L1 := [some (.ref 51), some (.int 1), some (.int 3), some (.int 0), some (.int 0), some (.int 0), some (.int 0), none]) rfl rfl (by decide) dX4_duel_65 ?_
  refine G_iload (pc := 67) rfl dX4_duel_67 ?_
  refine G_if_eq (pc := 69) (tgt := 77) (by decide) dX4_duel_69 (fun _ => ?_) (fun z => absurd (by decide) z)
  refine G_iload (pc := 77) rfl dX4_duel_77 ?_
  refine G_aload_n (pc := 79) rfl dX4_duel_79 ?_
  refine G_getR (pc := 80) (r := 19) (ci := 4) (j := 0) rfl lk_RX4_21 rfl rfl rfl dX4_duel_80 ?_
  refine G_callV (pc := 83) (mc1 := 0) (ms1 := 0) (ci := 1) (mj := mX1_melt) (vs := []) dX4_duel_83 rfl rfl cm_X1_melt wf_136 wf_75 wf_76 rfl (Nat.le_of_ble_eq_true rfl) (Nat.le_of_ble_eq_true rfl) (Nat.le_of_ble_eq_true rfl) (Nat.le_of_ble_eq_true rfl) (s250_X1_melt  (d + 3)  ) ?_
  rintro _ _ ⟨rfl, rfl⟩
  dsimp only [Option.toList, List.cons_append, List.nil_append]
  refine G_iadd (pc := 86) (z := 0) (by decide) dX4_duel_86 ?_
  refine G_istore (pc := 87) (L1 := [some (.ref 51), some (.int 1), some (.int 3), some (.int 0), some (.int 0), some (.int 0), some (.int 0), some (.int 0)]) rfl rfl (by decide) dX4_duel_87 ?_
  refine G_iload (pc := 89) rfl dX4_duel_89 ?_
  refine G_aload_n (pc := 91) rfl dX4_duel_91 ?_
  refine G_iload_n (pc := 92) rfl dX4_duel_92 ?_
  refine G_iconst (pc := 93) (v := 1) (by decide) dX4_duel_93 ?_
  refine G_iadd (pc := 94) (z := 2) (by decide) dX4_duel_94 ?_
  refine G_iload_n (pc := 95) rfl dX4_duel_95 ?_
  refine G_iconst (pc := 96) (v := 1) (by decide) dX4_duel_96 ?_
  refine G_isub (pc := 97) (z := 2) (by decide) dX4_duel_97 ?_
  refine G_callV (pc := 98) (mc1 := 0) (ms1 := 0) (ci := 4) (mj := mX4_duel) (vs := [_, _]) dX4_duel_98 rfl rfl cm_X4_duel wf_168 wf_170 wf_171 rfl (Nat.le_of_ble_eq_true rfl) (Nat.le_of_ble_eq_true rfl) (Nat.le_of_ble_eq_true rfl) (Nat.le_of_ble_eq_true rfl) (s275_X4_duel  d  ) ?_
  rintro _ _ ⟨rfl, rfl⟩
  dsimp only [Option.toList, List.cons_append, List.nil_append]
  refine G_iadd (pc := 101) (z := 0) (by decide) dX4_duel_101 ?_
  refine G_istore (pc := 102) (L1 := [some (.ref 51), some (.int 1), some (.int 3), some (.int 0), some (.int 0), some (.int 0), some (.int 0), some (.int 0)]) rfl rfl (by decide) dX4_duel_102 ?_
  refine G_aload_n (pc := 104) rfl dX4_duel_104 ?_
  refine G_getR (pc := 105) (r := 19) (ci := 4) (j := 0) rfl lk_RX4_21 rfl rfl rfl dX4_duel_105 ?_
  refine G_iload_n (pc := 108) rfl dX4_duel_108 ?_
  refine G_callV (pc := 109) (mc1 := 0) (ms1 := 0) (ci := 1) (mj := mX1_restore) (vs := [_]) dX4_duel_109 rfl rfl cm_X1_restore wf_138 wf_109 wf_110 rfl (Nat.le_of_ble_eq_true rfl) (Nat.le_of_ble_eq_true rfl) (Nat.le_of_ble_eq_true rfl) (Nat.le_of_ble_eq_true rfl) (s288_X1_restore  (d + 2)  ) ?_
  rintro _ _ ⟨rfl, rfl⟩
  dsimp only [Option.toList, List.cons_append, List.nil_append]
  refine G_iload (pc := 112) rfl dX4_duel_112 ?_
  refine G_if_eq (pc := 114) (tgt := 138) (by decide) dX4_duel_114 (fun _ => ?_) (fun z => absurd (by decide) z)
  refine G_iload (pc := 138) rfl dX4_duel_138 ?_
  refine G_istore (pc := 140) (L1 := [some (.ref 51), some (.int 1), some (.int 3), some (.int 0), some (.int 0), some (.int 0), some (.int 0), some (.int 0)]) rfl rfl (by decide) dX4_duel_140 ?_
  refine G_aload_n (pc := 142) rfl dX4_duel_142 ?_
  refine G_getR (pc := 143) (r := 54) (ci := 4) (j := 3) rfl lk_RX4_18 rfl rfl rfl dX4_duel_143 ?_
  refine G_iload_n (pc := 146) rfl dX4_duel_146 ?_
  refine G_iload (pc := 147) rfl dX4_duel_147 ?_
  refine G_iast (pc := 149) (jj := 1) (by decide) rfl (by unfold vp_in; decide) dX4_duel_149 ?_
  refine G_iinc (pc := 150) (v := 1) (w := 1) (L1 := [some (.ref 51), some (.int 1), some (.int 3), some (.int 0), some (.int 0), some (.int 1), some (.int 0), some (.int 0)]) (by decide) rfl rfl (by decide) rfl (by decide) dX4_duel_150 ?_
  refine G_goto (pc := 153) (tgt := 44) (by decide) dX4_duel_153 ?_
  refine G_iload (pc := 44) rfl dX4_duel_44 ?_
  refine G_aload_n (pc := 46) rfl dX4_duel_46 ?_
  refine G_getR (pc := 47) (r := 19) (ci := 4) (j := 0) rfl lk_RX4_21 rfl rfl rfl dX4_duel_47 ?_
  refine G_getI (pc := 50) (v := 0) (ci := 1) (j := 8) rfl rfl lk_RX4_39 rfl rfl dX4_duel_50 ?_
  refine G_icmp_gt (pc := 53) (tgt := 156) (by decide) dX4_duel_53 (fun _ => ?_) (fun z => absurd (by decide) z)
  refine G_iload (pc := 156) rfl dX4_duel_156 ?_
  exact G_iret (pc := 158) (Nat.le_of_ble_eq_true rfl) (Nat.le_of_ble_eq_true rfl) rfl dX4_duel_158 ⟨rfl, rfl⟩
set_option maxRecDepth 100000 in
set_option maxHeartbeats 4000000 in
theorem s289_X1_restore  (d : Nat)   : G (d + 1) mX1_restore 0 0 0 0 0 (gent 3 [.ref 19, .int 0]) [] SH0 RF0 (gup (gup (gup (gcp (gup (gup (gup (gcp (gup (gup (gup (gcp (gup (gup (gup (gup (gcp (gup (gup (gup (gup (gcp (gup (gup (gup (gup (gcp (gup (gup (gup (gup (gcp (gup I0 54 0 0) 24 34 (0 : Int32).toNatClampNeg (0 : Int32).toNatClampNeg (6 : Int32).toNatClampNeg) 34 6 0) 34 7 0) 19 1 1) 54 1 0) 24 34 (0 : Int32).toNatClampNeg (8 : Int32).toNatClampNeg (6 : Int32).toNatClampNeg) 34 14 0) 34 15 1) 19 1 2) 54 2 0) 24 34 (0 : Int32).toNatClampNeg (16 : Int32).toNatClampNeg (6 : Int32).toNatClampNeg) 34 22 0) 34 23 2) 19 1 3) 54 3 0) 24 34 (0 : Int32).toNatClampNeg (24 : Int32).toNatClampNeg (6 : Int32).toNatClampNeg) 34 30 0) 34 31 3) 19 1 4) 54 4 0) 34 24 (24 : Int32).toNatClampNeg (0 : Int32).toNatClampNeg (6 : Int32).toNatClampNeg) 19 9 0) 19 1 3) 54 3 0) 34 24 (16 : Int32).toNatClampNeg (0 : Int32).toNatClampNeg (6 : Int32).toNatClampNeg) 19 9 0) 19 1 2) 54 2 0) 34 24 (8 : Int32).toNatClampNeg (0 : Int32).toNatClampNeg (6 : Int32).toNatClampNeg) 19 9 0) 19 1 1) 54 1 0) (fun r h => r = none ∧ h = (SH0, RF0, (gup (gup (gcp (gup (gup (gup (gcp (gup (gup (gup (gcp (gup (gup (gup (gcp (gup (gup (gup (gup (gcp (gup (gup (gup (gup (gcp (gup (gup (gup (gup (gcp (gup (gup (gup (gup (gcp (gup I0 54 0 0) 24 34 (0 : Int32).toNatClampNeg (0 : Int32).toNatClampNeg (6 : Int32).toNatClampNeg) 34 6 0) 34 7 0) 19 1 1) 54 1 0) 24 34 (0 : Int32).toNatClampNeg (8 : Int32).toNatClampNeg (6 : Int32).toNatClampNeg) 34 14 0) 34 15 1) 19 1 2) 54 2 0) 24 34 (0 : Int32).toNatClampNeg (16 : Int32).toNatClampNeg (6 : Int32).toNatClampNeg) 34 22 0) 34 23 2) 19 1 3) 54 3 0) 24 34 (0 : Int32).toNatClampNeg (24 : Int32).toNatClampNeg (6 : Int32).toNatClampNeg) 34 30 0) 34 31 3) 19 1 4) 54 4 0) 34 24 (24 : Int32).toNatClampNeg (0 : Int32).toNatClampNeg (6 : Int32).toNatClampNeg) 19 9 0) 19 1 3) 54 3 0) 34 24 (16 : Int32).toNatClampNeg (0 : Int32).toNatClampNeg (6 : Int32).toNatClampNeg) 19 9 0) 19 1 2) 54 2 0) 34 24 (8 : Int32).toNatClampNeg (0 : Int32).toNatClampNeg (6 : Int32).toNatClampNeg) 19 9 0) 19 1 1) 54 1 0) 34 24 (0 : Int32).toNatClampNeg (0 : Int32).toNatClampNeg (6 : Int32).toNatClampNeg) 19 9 0) 19 1 0))) := by
  refine G_iload_n (pc := 0) rfl dX1_restore_0 ?_
  refine G_bipush (pc := 1) (v := 8) (by decide) dX1_restore_1 ?_
  refine G_imul (pc := 3) (z := 0) (by decide) dX1_restore_3 ?_
  refine G_istore_n (pc := 4) (L1 := [some (.ref 19), some (.int 0), some (.int 0)]) rfl rfl (by decide) dX1_restore_4 ?_
  refine G_aload_n (pc := 5) rfl dX1_restore_5 ?_
  refine G_getR (pc := 6) (r := 34) (ci := 1) (j := 18) rfl lk_RX1_53 rfl rfl rfl dX1_restore_6 ?_
  refine G_iload_n (pc := 9) rfl dX1_restore_9 ?_
  refine G_aload_n (pc := 10) rfl dX1_restore_10 ?_
  refine G_getR (pc := 11) (r := 24) (ci := 1) (j := 11) rfl lk_RX1_31 rfl rfl rfl dX1_restore_11 ?_
  refine G_iconst (pc := 14) (v := 0) (by decide) dX1_restore_14 ?_
  refine G_bipush (pc := 15) (v := 6) (by decide) dX1_restore_15 ?_
  refine G_copy (pc := 17) (x := 34) (y := 24) rfl rfl (by decide) (by decide) (by decide) (by decide) (by decide) wf_50 wf_51 wf_52 wf_53 (Nat.le_of_ble_eq_true rfl) dX1_restore_17 ?_
  refine G_aload_n (pc := 20) rfl dX1_restore_20 ?_
  refine G_aload_n (pc := 21) rfl dX1_restore_21 ?_
  refine G_getR (pc := 22) (r := 34) (ci := 1) (j := 18) rfl lk_RX1_53 rfl rfl rfl dX1_restore_22 ?_
  refine G_iload_n (pc := 25) rfl dX1_restore_25 ?_
  refine G_bipush (pc := 26) (v := 6) (by decide) dX1_restore_26 ?_
  refine G_iadd (pc := 28) (z := 6) (by decide) dX1_restore_28 ?_
  refine G_iald (pc := 29) (jj := 6) (v := 0) (by decide) rfl rfl (by unfold vp_in; decide) dX1_restore_29 ?_
  refine G_putI (pc := 30) (ci := 1) (j := 9) rfl lk_RX1_75 rfl rfl rfl trivial dX1_restore_30 ?_
  refine G_aload_n (pc := 33) rfl dX1_restore_33 ?_
  refine G_aload_n (pc := 34) rfl dX1_restore_34 ?_
  refine G_getR (pc := 35) (r := 34) (ci := 1) (j := 18) rfl lk_RX1_53 rfl rfl rfl dX1_restore_35 ?_
  refine G_iload_n (pc := 38) rfl dX1_restore_38 ?_
  refine G_bipush (pc := 39) (v := 6) (by decide) dX1_restore_39 ?_
  refine G_iadd (pc := 41) (z := 6) (by decide) dX1_restore_41 ?_
  refine G_iconst (pc := 42) (v := 1) (by decide) dX1_restore_42 ?_
  refine G_iadd (pc := 43) (z := 7) (by decide) dX1_restore_43 ?_
  refine G_iald (pc := 44) (jj := 7) (v := 0) (by decide) rfl rfl (by unfold vp_in; decide) dX1_restore_44 ?_
  refine G_putI (pc := 45) (ci := 1) (j := 1) rfl lk_RX1_60 rfl rfl rfl trivial dX1_restore_45 ?_
  exact G_vret (pc := 48) (Nat.le_of_ble_eq_true rfl) (Nat.le_of_ble_eq_true rfl) rfl dX1_restore_48 ⟨rfl, rfl⟩
set_option maxRecDepth 100000 in
set_option maxHeartbeats 4000000 in
theorem s271_X4_duel  (d : Nat)   : G (d + 5) mX4_duel 0 0 0 0 0 (gent 8 [.ref 51, .int 0, .int 4]) [] SH0 RF0 I0 (fun r h => r = some (.int 0) ∧ h = (SH0, RF0, (gup (gup (gup (gcp (gup (gup (gup (gcp (gup (gup (gup (gcp (gup (gup (gup (gcp (gup (gup (gup (gup (gcp (gup (gup (gup (gup (gcp (gup (gup (gup (gup (gcp (gup (gup (gup (gup (gcp (gup I0 54 0 0) 24 34 (0 : Int32).toNatClampNeg (0 : Int32).toNatClampNeg (6 : Int32).toNatClampNeg) 34 6 0) 34 7 0) 19 1 1) 54 1 0) 24 34 (0 : Int32).toNatClampNeg (8 : Int32).toNatClampNeg (6 : Int32).toNatClampNeg) 34 14 0) 34 15 1) 19 1 2) 54 2 0) 24 34 (0 : Int32).toNatClampNeg (16 : Int32).toNatClampNeg (6 : Int32).toNatClampNeg) 34 22 0) 34 23 2) 19 1 3) 54 3 0) 24 34 (0 : Int32).toNatClampNeg (24 : Int32).toNatClampNeg (6 : Int32).toNatClampNeg) 34 30 0) 34 31 3) 19 1 4) 54 4 0) 34 24 (24 : Int32).toNatClampNeg (0 : Int32).toNatClampNeg (6 : Int32).toNatClampNeg) 19 9 0) 19 1 3) 54 3 0) 34 24 (16 : Int32).toNatClampNeg (0 : Int32).toNatClampNeg (6 : Int32).toNatClampNeg) 19 9 0) 19 1 2) 54 2 0) 34 24 (8 : Int32).toNatClampNeg (0 : Int32).toNatClampNeg (6 : Int32).toNatClampNeg) 19 9 0) 19 1 1) 54 1 0) 34 24 (0 : Int32).toNatClampNeg (0 : Int32).toNatClampNeg (6 : Int32).toNatClampNeg) 19 9 0) 19 1 0) 54 0 0))) := by
  refine G_aload_n (pc := 0) rfl dX4_duel_0 ?_
  refine G_getR (pc := 1) (r := 54) (ci := 4) (j := 3) rfl lk_RX4_18 rfl rfl rfl dX4_duel_1 ?_
  refine G_iload_n (pc := 4) rfl dX4_duel_4 ?_
  refine G_iconst (pc := 5) (v := 0) (by decide) dX4_duel_5 ?_
  refine G_iast (pc := 6) (jj := 0) (by decide) rfl (by unfold vp_in; decide) dX4_duel_6 ?_
  refine G_aload_n (pc := 7) rfl dX4_duel_7 ?_
  refine G_iload_n (pc := 8) rfl dX4_duel_8 ?_
  refine G_iload_n (pc := 9) rfl dX4_duel_9 ?_
  refine G_callV (pc := 10) (mc1 := 0) (ms1 := 0) (ci := 4) (mj := mX4_isLast) (vs := [_, _]) dX4_duel_10 rfl rfl cm_X4_isLast wf_126 wf_129 wf_130 rfl (Nat.le_of_ble_eq_true rfl) (Nat.le_of_ble_eq_true rfl) (Nat.le_of_ble_eq_true rfl) (Nat.le_of_ble_eq_true rfl) (s272_X4_isLast  (d + 3)  ) ?_
  rintro _ _ ⟨rfl, rfl⟩
  dsimp only [Option.toList, List.cons_append, List.nil_append]
  refine G_if_eq (pc := 13) (tgt := 18) (by decide) dX4_duel_13 (fun _ => ?_) (fun z => absurd (by decide) z)
  refine G_iload_n (pc := 18) rfl dX4_duel_18 ?_
  refine G_iconst (pc := 19) (v := 2) (by decide) dX4_duel_19 ?_
  refine G_irem (pc := 20) (z := 0) (by decide) (by decide) dX4_duel_20 ?_
  refine G_if_ne (pc := 21) (tgt := 28) (by decide) dX4_duel_21 (fun z => absurd (by decide) z) (fun _ => ?_)
  refine G_iconst (pc := 24) (v := 1) (by decide) dX4_duel_24 ?_
  refine G_goto (pc := 25) (tgt := 29) (by decide) dX4_duel_25 ?_
  refine G_istore_n (pc := 29) (L1 := [some (.ref 51), some (.int 0), some (.int 4), some (.int 1), none, none, none, none]) rfl rfl (by decide) dX4_duel_29 ?_
  refine G_iconst (pc := 30) (v := 0) (by decide) dX4_duel_30 ?_
  refine G_istore (pc := 31) (L1 := [some (.ref 51), some (.int 0), some (.int 4), some (.int 1), some (.int 0), none, none, none]) rfl rfl (by decide) dX4_duel_31 ?_
  refine G_aload_n (pc := 33) rfl dX4_duel_33 ?_
  refine G_getR (pc := 34) (r := 19) (ci := 4) (j := 0) rfl lk_RX4_21 rfl rfl rfl dX4_duel_34 ?_
  refine G_iload_n (pc := 37) rfl dX4_duel_37 ?_
  refine G_callV (pc := 38) (mc1 := 0) (ms1 := 0) (ci := 1) (mj := mX1_save) (vs := [_]) dX4_duel_38 rfl rfl cm_X1_save wf_134 wf_105 wf_106 rfl (Nat.le_of_ble_eq_true rfl) (Nat.le_of_ble_eq_true rfl) (Nat.le_of_ble_eq_true rfl) (Nat.le_of_ble_eq_true rfl) (s235_X1_save  (d + 3)  ) ?_
  rintro _ _ ⟨rfl, rfl⟩
  dsimp only [Option.toList, List.cons_append, List.nil_append]
  refine G_iconst (pc := 41) (v := 0) (by decide) dX4_duel_41 ?_
  refine G_istore (pc := 42) (L1 := [some (.ref 51), some (.int 0), some (.int 4), some (.int 1), some (.int 0), some (.int 0), none, none]) rfl rfl (by decide) dX4_duel_42 ?_
  refine G_iload (pc := 44) rfl dX4_duel_44 ?_
  refine G_aload_n (pc := 46) rfl dX4_duel_46 ?_
  refine G_getR (pc := 47) (r := 19) (ci := 4) (j := 0) rfl lk_RX4_21 rfl rfl rfl dX4_duel_47 ?_
  refine G_getI (pc := 50) (v := 0) (ci := 1) (j := 8) rfl rfl lk_RX4_39 rfl rfl dX4_duel_50 ?_
  refine G_icmp_gt (pc := 53) (tgt := 156) (by decide) dX4_duel_53 (fun z => absurd z (by decide)) (fun _ => ?_)
  refine G_aload_n (pc := 56) rfl dX4_duel_56 ?_
  refine G_getR (pc := 57) (r := 19) (ci := 4) (j := 0) rfl lk_RX4_21 rfl rfl rfl dX4_duel_57 ?_
  refine G_iload (pc := 60) rfl dX4_duel_60 ?_
  refine G_callV (pc := 62) (mc1 := 0) (ms1 := 0) (ci := 1) (mj := mX1_tell) (vs := [_]) dX4_duel_62 rfl rfl cm_X1_tell wf_135 wf_71 wf_72 rfl (Nat.le_of_ble_eq_true rfl) (Nat.le_of_ble_eq_true rfl) (Nat.le_of_ble_eq_true rfl) (Nat.le_of_ble_eq_true rfl) (s236_X1_tell  (d + 3)  ) ?_
  rintro _ _ ⟨rfl, rfl⟩
  dsimp only [Option.toList, List.cons_append, List.nil_append]
  refine G_istore (pc := 65) (L1 := [some (.ref 51), some (.int 0), some (.int 4), some (.int 1), some (.int 0), some (.int 0), some (.int 0), none]) rfl rfl (by decide) dX4_duel_65 ?_
  refine G_iload (pc := 67) rfl dX4_duel_67 ?_
  refine G_if_eq (pc := 69) (tgt := 77) (by decide) dX4_duel_69 (fun _ => ?_) (fun z => absurd (by decide) z)
  refine G_iload (pc := 77) rfl dX4_duel_77 ?_
  refine G_aload_n (pc := 79) rfl dX4_duel_79 ?_
  refine G_getR (pc := 80) (r := 19) (ci := 4) (j := 0) rfl lk_RX4_21 rfl rfl rfl dX4_duel_80 ?_
  refine G_callV (pc := 83) (mc1 := 0) (ms1 := 0) (ci := 1) (mj := mX1_melt) (vs := []) dX4_duel_83 rfl rfl cm_X1_melt wf_136 wf_75 wf_76 rfl (Nat.le_of_ble_eq_true rfl) (Nat.le_of_ble_eq_true rfl) (Nat.le_of_ble_eq_true rfl) (Nat.le_of_ble_eq_true rfl) (s238_X1_melt  (d + 4)  ) ?_
  rintro _ _ ⟨rfl, rfl⟩
  dsimp only [Option.toList, List.cons_append, List.nil_append]
  refine G_iadd (pc := 86) (z := 0) (by decide) dX4_duel_86 ?_
  refine G_istore (pc := 87) (L1 := [some (.ref 51), some (.int 0), some (.int 4), some (.int 1), some (.int 0), some (.int 0), some (.int 0), some (.int 0)]) rfl rfl (by decide) dX4_duel_87 ?_
  refine G_iload (pc := 89) rfl dX4_duel_89 ?_
  refine G_aload_n (pc := 91) rfl dX4_duel_91 ?_
  refine G_iload_n (pc := 92) rfl dX4_duel_92 ?_
  refine G_iconst (pc := 93) (v := 1) (by decide) dX4_duel_93 ?_
  refine G_iadd (pc := 94) (z := 1) (by decide) dX4_duel_94 ?_
  refine G_iload_n (pc := 95) rfl dX4_duel_95 ?_
  refine G_iconst (pc := 96) (v := 1) (by decide) dX4_duel_96 ?_
  refine G_isub (pc := 97) (z := 3) (by decide) dX4_duel_97 ?_
  refine G_callV (pc := 98) (mc1 := 0) (ms1 := 0) (ci := 4) (mj := mX4_duel) (vs := [_, _]) dX4_duel_98 rfl rfl cm_X4_duel wf_168 wf_170 wf_171 rfl (Nat.le_of_ble_eq_true rfl) (Nat.le_of_ble_eq_true rfl) (Nat.le_of_ble_eq_true rfl) (Nat.le_of_ble_eq_true rfl) (s273_X4_duel  d  ) ?_
  rintro _ _ ⟨rfl, rfl⟩
  dsimp only [Option.toList, List.cons_append, List.nil_append]
  refine G_iadd (pc := 101) (z := 0) (by decide) dX4_duel_101 ?_
  refine G_istore (pc := 102) (L1 := [some (.ref 51), some (.int 0), some (.int 4), some (.int 1), some (.int 0), some (.int 0), some (.int 0), some (.int 0)]) rfl rfl (by decide) dX4_duel_102 ?_
  refine G_aload_n (pc := 104) rfl dX4_duel_104 ?_
  refine G_getR (pc := 105) (r := 19) (ci := 4) (j := 0) rfl lk_RX4_21 rfl rfl rfl dX4_duel_105 ?_
  refine G_iload_n (pc := 108) rfl dX4_duel_108 ?_
  refine G_callV (pc := 109) (mc1 := 0) (ms1 := 0) (ci := 1) (mj := mX1_restore) (vs := [_]) dX4_duel_109 rfl rfl cm_X1_restore wf_138 wf_109 wf_110 rfl (Nat.le_of_ble_eq_true rfl) (Nat.le_of_ble_eq_true rfl) (Nat.le_of_ble_eq_true rfl) (Nat.le_of_ble_eq_true rfl) (s289_X1_restore  (d + 3)  ) ?_
  rintro _ _ ⟨rfl, rfl⟩
  dsimp only [Option.toList, List.cons_append, List.nil_append]
  refine G_iload (pc := 112) rfl dX4_duel_112 ?_
  refine G_if_eq (pc := 114) (tgt := 138) (by decide) dX4_duel_114 (fun _ => ?_) (fun z => absurd (by decide) z)
  refine G_iload (pc := 138) rfl dX4_duel_138 ?_
  refine G_istore (pc := 140) (L1 := [some (.ref 51), some (.int 0), some (.int 4), some (.int 1), some (.int 0), some (.int 0), some (.int 0), some (.int 0)]) rfl rfl (by decide) dX4_duel_140 ?_
  refine G_aload_n (pc := 142) rfl dX4_duel_142 ?_
  refine G_getR (pc := 143) (r := 54) (ci := 4) (j := 3) rfl lk_RX4_18 rfl rfl rfl dX4_duel_143 ?_
  refine G_iload_n (pc := 146) rfl dX4_duel_146 ?_
  refine G_iload (pc := 147) rfl dX4_duel_147 ?_
  refine G_iast (pc := 149) (jj := 0) (by decide) rfl (by unfold vp_in; decide) dX4_duel_149 ?_
  refine G_iinc (pc := 150) (v := 1) (w := 1) (L1 := [some (.ref 51), some (.int 0), some (.int 4), some (.int 1), some (.int 0), some (.int 1), some (.int 0), some (.int 0)]) (by decide) rfl rfl (by decide) rfl (by decide) dX4_duel_150 ?_
  refine G_goto (pc := 153) (tgt := 44) (by decide) dX4_duel_153 ?_
  refine G_iload (pc := 44) rfl dX4_duel_44 ?_
  refine G_aload_n (pc := 46) rfl dX4_duel_46 ?_
  refine G_getR (pc := 47) (r := 19) (ci := 4) (j := 0) rfl lk_RX4_21 rfl rfl rfl dX4_duel_47 ?_
  refine G_getI (pc := 50) (v := 0) (ci := 1) (j := 8) rfl rfl lk_RX4_39 rfl rfl dX4_duel_50 ?_
  refine G_icmp_gt (pc := 53) (tgt := 156) (by decide) dX4_duel_53 (fun _ => ?_) (fun z => absurd (by decide) z)
  refine G_iload (pc := 156) rfl dX4_duel_156 ?_
  exact G_iret (pc := 158) (Nat.le_of_ble_eq_true rfl) (Nat.le_of_ble_eq_true rfl) rfl dX4_duel_158 ⟨rfl, rfl⟩
def F_game (n : Int32) : Int32 := if 1 ≤ n ∧ n ≤ 4 then 0 else -1
set_option maxRecDepth 100000 in
set_option maxHeartbeats 4000000 in
theorem x_game (d : Nat) (n : Int32) : G (d + 6) mX11_game 0 0 0 0 0 (gent 2 [.ref 0, .int n]) [] SH0 RF0 I0 (fun r h => ∃ I1, r = some (.int (F_game n)) ∧ h = (SH0, RF0, I1) ∧ ∀ a, 67 ≤ a → I1 a = I0 a) := by
  refine G_iload_n (pc := 0) rfl dX11_game_0 ?_
  refine G_iconst (pc := 1) (v := 1) (by decide) dX11_game_1 ?_
  refine G_iconst (pc := 2) (v := 4) (by decide) dX11_game_2 ?_
  refine G_callS (pc := 3) (mc1 := 0) (ms1 := 0) (mj := mX11_isIn) (vs := [_, _, _]) dX11_game_3 cm_X11_isIn wf_4 wf_6 rfl (Nat.le_of_ble_eq_true rfl) (Nat.le_of_ble_eq_true rfl) (Nat.le_of_ble_eq_true rfl) (Nat.le_of_ble_eq_true rfl) (isIn_s (d + 5) n 1 4) ?_
  rintro _ _ ⟨rfl, rfl⟩
  dsimp only [Option.toList, List.cons_append, List.nil_append]
  refine G_if_ne (pc := 6) (tgt := 11) (by decide) dX11_game_6 (fun c493 => ?_) (fun c493 => ?_)
  · have c493 := gB_o c493
    refine G_aload_n (pc := 11) rfl dX11_game_11 ?_
    refine G_getR (pc := 12) (r := 51) (ci := 11) (j := 3) rfl lk_RX11_68 rfl rfl rfl dX11_game_12 ?_
    refine G_iconst (pc := 15) (v := 0) (by decide) dX11_game_15 ?_
    refine G_iload_n (pc := 16) rfl dX11_game_16 ?_
    by_cases c495 : n = 1
    · subst c495
      refine G_callVN (host := "IceKeys") (pc := 17) (mc1 := 0) (ms1 := 0) (ci := 4) (mj := mX4_duel) (vs := [_, _]) dX11_game_17 rfl rfl cm_X4_duel (by decide) wf_170 wf_171 rfl (Nat.le_of_ble_eq_true rfl) (Nat.le_of_ble_eq_true rfl) (Nat.le_of_ble_eq_true rfl) (Nat.le_of_ble_eq_true rfl) (s233_X4_duel  (d + 3)  ) ?_
      rintro _ _ ⟨rfl, rfl⟩
      dsimp only [Option.toList, List.cons_append, List.nil_append]
      exact G_iret (pc := 20) (Nat.le_of_ble_eq_true rfl) (Nat.le_of_ble_eq_true rfl) rfl dX11_game_20 ⟨_, by first | rfl | (simp [F_game, *]; done) | (simp only [F_game, Int32.le_iff_toInt_le, Int32.lt_iff_toInt_lt, ← Int32.toInt_inj]; simp; omega) | (simp only [F_game, Int32.le_iff_toInt_le, Int32.lt_iff_toInt_lt, ← Int32.toInt_inj]; split <;> first | rfl | (exfalso; simp at *; omega)) | (unfold F_game; (repeat' split) <;> first | rfl | (exfalso; (try simp only [Int32.le_iff_toInt_le, Int32.lt_iff_toInt_lt, ← Int32.toInt_inj] at *); first | omega | (simp at *; done) | (simp at *; omega))), rfl, fun a ha => by funext j; simp (disch := omega) only [gup_off, gcp_off]⟩
    by_cases c496 : n = 2
    · subst c496
      refine G_callVN (host := "IceKeys") (pc := 17) (mc1 := 0) (ms1 := 0) (ci := 4) (mj := mX4_duel) (vs := [_, _]) dX11_game_17 rfl rfl cm_X4_duel (by decide) wf_170 wf_171 rfl (Nat.le_of_ble_eq_true rfl) (Nat.le_of_ble_eq_true rfl) (Nat.le_of_ble_eq_true rfl) (Nat.le_of_ble_eq_true rfl) (s242_X4_duel  (d + 2)  ) ?_
      rintro _ _ ⟨rfl, rfl⟩
      dsimp only [Option.toList, List.cons_append, List.nil_append]
      exact G_iret (pc := 20) (Nat.le_of_ble_eq_true rfl) (Nat.le_of_ble_eq_true rfl) rfl dX11_game_20 ⟨_, by first | rfl | (simp [F_game, *]; done) | (simp only [F_game, Int32.le_iff_toInt_le, Int32.lt_iff_toInt_lt, ← Int32.toInt_inj]; simp; omega) | (simp only [F_game, Int32.le_iff_toInt_le, Int32.lt_iff_toInt_lt, ← Int32.toInt_inj]; split <;> first | rfl | (exfalso; simp at *; omega)) | (unfold F_game; (repeat' split) <;> first | rfl | (exfalso; (try simp only [Int32.le_iff_toInt_le, Int32.lt_iff_toInt_lt, ← Int32.toInt_inj] at *); first | omega | (simp at *; done) | (simp at *; omega))), rfl, fun a ha => by funext j; simp (disch := omega) only [gup_off, gcp_off]⟩
    by_cases c497 : n = 3
    · subst c497
      refine G_callVN (host := "IceKeys") (pc := 17) (mc1 := 0) (ms1 := 0) (ci := 4) (mj := mX4_duel) (vs := [_, _]) dX11_game_17 rfl rfl cm_X4_duel (by decide) wf_170 wf_171 rfl (Nat.le_of_ble_eq_true rfl) (Nat.le_of_ble_eq_true rfl) (Nat.le_of_ble_eq_true rfl) (Nat.le_of_ble_eq_true rfl) (s255_X4_duel  (d + 1)  ) ?_
      rintro _ _ ⟨rfl, rfl⟩
      dsimp only [Option.toList, List.cons_append, List.nil_append]
      exact G_iret (pc := 20) (Nat.le_of_ble_eq_true rfl) (Nat.le_of_ble_eq_true rfl) rfl dX11_game_20 ⟨_, by first | rfl | (simp [F_game, *]; done) | (simp only [F_game, Int32.le_iff_toInt_le, Int32.lt_iff_toInt_lt, ← Int32.toInt_inj]; simp; omega) | (simp only [F_game, Int32.le_iff_toInt_le, Int32.lt_iff_toInt_lt, ← Int32.toInt_inj]; split <;> first | rfl | (exfalso; simp at *; omega)) | (unfold F_game; (repeat' split) <;> first | rfl | (exfalso; (try simp only [Int32.le_iff_toInt_le, Int32.lt_iff_toInt_lt, ← Int32.toInt_inj] at *); first | omega | (simp at *; done) | (simp at *; omega))), rfl, fun a ha => by funext j; simp (disch := omega) only [gup_off, gcp_off]⟩
    by_cases c498 : n = 4
    · subst c498
      refine G_callVN (host := "IceKeys") (pc := 17) (mc1 := 0) (ms1 := 0) (ci := 4) (mj := mX4_duel) (vs := [_, _]) dX11_game_17 rfl rfl cm_X4_duel (by decide) wf_170 wf_171 rfl (Nat.le_of_ble_eq_true rfl) (Nat.le_of_ble_eq_true rfl) (Nat.le_of_ble_eq_true rfl) (Nat.le_of_ble_eq_true rfl) (s271_X4_duel  d  ) ?_
      rintro _ _ ⟨rfl, rfl⟩
      dsimp only [Option.toList, List.cons_append, List.nil_append]
      exact G_iret (pc := 20) (Nat.le_of_ble_eq_true rfl) (Nat.le_of_ble_eq_true rfl) rfl dX11_game_20 ⟨_, by first | rfl | (simp [F_game, *]; done) | (simp only [F_game, Int32.le_iff_toInt_le, Int32.lt_iff_toInt_lt, ← Int32.toInt_inj]; simp; omega) | (simp only [F_game, Int32.le_iff_toInt_le, Int32.lt_iff_toInt_lt, ← Int32.toInt_inj]; split <;> first | rfl | (exfalso; simp at *; omega)) | (unfold F_game; (repeat' split) <;> first | rfl | (exfalso; (try simp only [Int32.le_iff_toInt_le, Int32.lt_iff_toInt_lt, ← Int32.toInt_inj] at *); first | omega | (simp at *; done) | (simp at *; omega))), rfl, fun a ha => by funext j; simp (disch := omega) only [gup_off, gcp_off]⟩
    exfalso
    have : 1 ≤ (n).toInt := Int32.le_iff_toInt_le.mp (c493.1)
    have : (n).toInt ≤ 4 := Int32.le_iff_toInt_le.mp (c493.2)
    have : (n).toInt ≠ 1 := g_ne (c495)
    have : (n).toInt ≠ 2 := g_ne (c496)
    have : (n).toInt ≠ 3 := g_ne (c497)
    have : (n).toInt ≠ 4 := g_ne (c498)
    omega
  · have c493 := gB_z c493
    refine G_iconst (pc := 9) (v := (-1)) (by decide) dX11_game_9 ?_
    exact G_iret (pc := 10) (Nat.le_of_ble_eq_true rfl) (Nat.le_of_ble_eq_true rfl) rfl dX11_game_10 ⟨_, by first | rfl | (simp [F_game, *]; done) | (have : ¬ (1 ≤ (n).toInt ∧ (n).toInt ≤ 4) := fun z => c493 ⟨Int32.le_iff_toInt_le.mpr z.1, Int32.le_iff_toInt_le.mpr z.2⟩; simp only [F_game, Int32.le_iff_toInt_le, Int32.lt_iff_toInt_lt, ← Int32.toInt_inj]; simp; omega) | (have : ¬ (1 ≤ (n).toInt ∧ (n).toInt ≤ 4) := fun z => c493 ⟨Int32.le_iff_toInt_le.mpr z.1, Int32.le_iff_toInt_le.mpr z.2⟩; simp only [F_game, Int32.le_iff_toInt_le, Int32.lt_iff_toInt_lt, ← Int32.toInt_inj]; split <;> first | rfl | (exfalso; simp at *; omega)) | (have : ¬ (1 ≤ (n).toInt ∧ (n).toInt ≤ 4) := fun z => c493 ⟨Int32.le_iff_toInt_le.mpr z.1, Int32.le_iff_toInt_le.mpr z.2⟩; unfold F_game; (repeat' split) <;> first | rfl | (exfalso; (try simp only [Int32.le_iff_toInt_le, Int32.lt_iff_toInt_lt, ← Int32.toInt_inj] at *); first | omega | (simp at *; done) | (simp at *; omega))), rfl, fun _ _ => rfl⟩
def F_play (n : Int32) : Int32 := if 1 ≤ n ∧ n ≤ 4 then 0 else -1
set_option maxRecDepth 100000 in
set_option maxHeartbeats 4000000 in
theorem x_play (d : Nat) (n : Int32) : G (d + 6) mX11_play 0 0 0 0 0 (gent 2 [.ref 0, .int n]) [] SH0 RF0 I0 (fun r h => ∃ I1, r = some (.int (F_play n)) ∧ h = (SH0, RF0, I1) ∧ ∀ a, 67 ≤ a → I1 a = I0 a) := by
  refine G_iload_n (pc := 0) rfl dX11_play_0 ?_
  refine G_iconst (pc := 1) (v := 1) (by decide) dX11_play_1 ?_
  refine G_iconst (pc := 2) (v := 4) (by decide) dX11_play_2 ?_
  refine G_callS (pc := 3) (mc1 := 0) (ms1 := 0) (mj := mX11_isIn) (vs := [_, _, _]) dX11_play_3 cm_X11_isIn wf_4 wf_6 rfl (Nat.le_of_ble_eq_true rfl) (Nat.le_of_ble_eq_true rfl) (Nat.le_of_ble_eq_true rfl) (Nat.le_of_ble_eq_true rfl) (isIn_s (d + 5) n 1 4) ?_
  rintro _ _ ⟨rfl, rfl⟩
  dsimp only [Option.toList, List.cons_append, List.nil_append]
  refine G_if_ne (pc := 6) (tgt := 11) (by decide) dX11_play_6 (fun c499 => ?_) (fun c499 => ?_)
  · have c499 := gB_o c499
    refine G_aload_n (pc := 11) rfl dX11_play_11 ?_
    refine G_getR (pc := 12) (r := 19) (ci := 11) (j := 0) rfl lk_RX11_56 rfl rfl rfl dX11_play_12 ?_
    refine G_callV (pc := 15) (mc1 := 0) (ms1 := 0) (ci := 1) (mj := mX1_isOver) (vs := []) dX11_play_15 rfl rfl cm_X1_isOver wf_15 wf_17 wf_18 rfl (Nat.le_of_ble_eq_true rfl) (Nat.le_of_ble_eq_true rfl) (Nat.le_of_ble_eq_true rfl) (Nat.le_of_ble_eq_true rfl) (s2_X1_isOver  (d + 5)  ) ?_
    rintro _ _ ⟨rfl, rfl⟩
    dsimp only [Option.toList, List.cons_append, List.nil_append]
    refine G_if_eq (pc := 18) (tgt := 24) (by decide) dX11_play_18 (fun _ => ?_) (fun z => absurd (by decide) z)
    refine G_aload_n (pc := 24) rfl dX11_play_24 ?_
    refine G_getR (pc := 25) (r := 51) (ci := 11) (j := 3) rfl lk_RX11_68 rfl rfl rfl dX11_play_25 ?_
    refine G_iconst (pc := 28) (v := 0) (by decide) dX11_play_28 ?_
    refine G_iload_n (pc := 29) rfl dX11_play_29 ?_
    by_cases c501 : n = 1
    · subst c501
      refine G_callVN (host := "IceKeys") (pc := 30) (mc1 := 0) (ms1 := 0) (ci := 4) (mj := mX4_duel) (vs := [_, _]) dX11_play_30 rfl rfl cm_X4_duel (by decide) wf_170 wf_171 rfl (Nat.le_of_ble_eq_true rfl) (Nat.le_of_ble_eq_true rfl) (Nat.le_of_ble_eq_true rfl) (Nat.le_of_ble_eq_true rfl) (s233_X4_duel  (d + 3)  ) ?_
      rintro _ _ ⟨rfl, rfl⟩
      dsimp only [Option.toList, List.cons_append, List.nil_append]
      refine G_pop (pc := 33) rfl dX11_play_33 ?_
      refine G_aload_n (pc := 34) rfl dX11_play_34 ?_
      refine G_getR (pc := 35) (r := 51) (ci := 11) (j := 3) rfl lk_RX11_68 rfl rfl rfl dX11_play_35 ?_
      refine G_getR (pc := 38) (r := 54) (ci := 4) (j := 3) rfl lk_RX11_251 rfl rfl rfl dX11_play_38 ?_
      refine G_iconst (pc := 41) (v := 0) (by decide) dX11_play_41 ?_
      refine G_iald (pc := 42) (jj := 0) (v := 0) (by decide) rfl rfl (by unfold vp_in; decide) dX11_play_42 ?_
      exact G_iret (pc := 43) (Nat.le_of_ble_eq_true rfl) (Nat.le_of_ble_eq_true rfl) rfl dX11_play_43 ⟨_, by first | rfl | (simp [F_play, *]; done) | (simp only [F_play, Int32.le_iff_toInt_le, Int32.lt_iff_toInt_lt, ← Int32.toInt_inj]; simp; omega) | (simp only [F_play, Int32.le_iff_toInt_le, Int32.lt_iff_toInt_lt, ← Int32.toInt_inj]; split <;> first | rfl | (exfalso; simp at *; omega)) | (unfold F_play; (repeat' split) <;> first | rfl | (exfalso; (try simp only [Int32.le_iff_toInt_le, Int32.lt_iff_toInt_lt, ← Int32.toInt_inj] at *); first | omega | (simp at *; done) | (simp at *; omega))), rfl, fun a ha => by funext j; simp (disch := omega) only [gup_off, gcp_off]⟩
    by_cases c502 : n = 2
    · subst c502
      refine G_callVN (host := "IceKeys") (pc := 30) (mc1 := 0) (ms1 := 0) (ci := 4) (mj := mX4_duel) (vs := [_, _]) dX11_play_30 rfl rfl cm_X4_duel (by decide) wf_170 wf_171 rfl (Nat.le_of_ble_eq_true rfl) (Nat.le_of_ble_eq_true rfl) (Nat.le_of_ble_eq_true rfl) (Nat.le_of_ble_eq_true rfl) (s242_X4_duel  (d + 2)  ) ?_
      rintro _ _ ⟨rfl, rfl⟩
      dsimp only [Option.toList, List.cons_append, List.nil_append]
      refine G_pop (pc := 33) rfl dX11_play_33 ?_
      refine G_aload_n (pc := 34) rfl dX11_play_34 ?_
      refine G_getR (pc := 35) (r := 51) (ci := 11) (j := 3) rfl lk_RX11_68 rfl rfl rfl dX11_play_35 ?_
      refine G_getR (pc := 38) (r := 54) (ci := 4) (j := 3) rfl lk_RX11_251 rfl rfl rfl dX11_play_38 ?_
      refine G_iconst (pc := 41) (v := 0) (by decide) dX11_play_41 ?_
      refine G_iald (pc := 42) (jj := 0) (v := 0) (by decide) rfl rfl (by unfold vp_in; decide) dX11_play_42 ?_
      exact G_iret (pc := 43) (Nat.le_of_ble_eq_true rfl) (Nat.le_of_ble_eq_true rfl) rfl dX11_play_43 ⟨_, by first | rfl | (simp [F_play, *]; done) | (simp only [F_play, Int32.le_iff_toInt_le, Int32.lt_iff_toInt_lt, ← Int32.toInt_inj]; simp; omega) | (simp only [F_play, Int32.le_iff_toInt_le, Int32.lt_iff_toInt_lt, ← Int32.toInt_inj]; split <;> first | rfl | (exfalso; simp at *; omega)) | (unfold F_play; (repeat' split) <;> first | rfl | (exfalso; (try simp only [Int32.le_iff_toInt_le, Int32.lt_iff_toInt_lt, ← Int32.toInt_inj] at *); first | omega | (simp at *; done) | (simp at *; omega))), rfl, fun a ha => by funext j; simp (disch := omega) only [gup_off, gcp_off]⟩
    by_cases c503 : n = 3
    · subst c503
      refine G_callVN (host := "IceKeys") (pc := 30) (mc1 := 0) (ms1 := 0) (ci := 4) (mj := mX4_duel) (vs := [_, _]) dX11_play_30 rfl rfl cm_X4_duel (by decide) wf_170 wf_171 rfl (Nat.le_of_ble_eq_true rfl) (Nat.le_of_ble_eq_true rfl) (Nat.le_of_ble_eq_true rfl) (Nat.le_of_ble_eq_true rfl) (s255_X4_duel  (d + 1)  ) ?_
      rintro _ _ ⟨rfl, rfl⟩
      dsimp only [Option.toList, List.cons_append, List.nil_append]
      refine G_pop (pc := 33) rfl dX11_play_33 ?_
      refine G_aload_n (pc := 34) rfl dX11_play_34 ?_
      refine G_getR (pc := 35) (r := 51) (ci := 11) (j := 3) rfl lk_RX11_68 rfl rfl rfl dX11_play_35 ?_
      refine G_getR (pc := 38) (r := 54) (ci := 4) (j := 3) rfl lk_RX11_251 rfl rfl rfl dX11_play_38 ?_
      refine G_iconst (pc := 41) (v := 0) (by decide) dX11_play_41 ?_
      refine G_iald (pc := 42) (jj := 0) (v := 0) (by decide) rfl rfl (by unfold vp_in; decide) dX11_play_42 ?_
      exact G_iret (pc := 43) (Nat.le_of_ble_eq_true rfl) (Nat.le_of_ble_eq_true rfl) rfl dX11_play_43 ⟨_, by first | rfl | (simp [F_play, *]; done) | (simp only [F_play, Int32.le_iff_toInt_le, Int32.lt_iff_toInt_lt, ← Int32.toInt_inj]; simp; omega) | (simp only [F_play, Int32.le_iff_toInt_le, Int32.lt_iff_toInt_lt, ← Int32.toInt_inj]; split <;> first | rfl | (exfalso; simp at *; omega)) | (unfold F_play; (repeat' split) <;> first | rfl | (exfalso; (try simp only [Int32.le_iff_toInt_le, Int32.lt_iff_toInt_lt, ← Int32.toInt_inj] at *); first | omega | (simp at *; done) | (simp at *; omega))), rfl, fun a ha => by funext j; simp (disch := omega) only [gup_off, gcp_off]⟩
    by_cases c504 : n = 4
    · subst c504
      refine G_callVN (host := "IceKeys") (pc := 30) (mc1 := 0) (ms1 := 0) (ci := 4) (mj := mX4_duel) (vs := [_, _]) dX11_play_30 rfl rfl cm_X4_duel (by decide) wf_170 wf_171 rfl (Nat.le_of_ble_eq_true rfl) (Nat.le_of_ble_eq_true rfl) (Nat.le_of_ble_eq_true rfl) (Nat.le_of_ble_eq_true rfl) (s271_X4_duel  d  ) ?_
      rintro _ _ ⟨rfl, rfl⟩
      dsimp only [Option.toList, List.cons_append, List.nil_append]
      refine G_pop (pc := 33) rfl dX11_play_33 ?_
      refine G_aload_n (pc := 34) rfl dX11_play_34 ?_
      refine G_getR (pc := 35) (r := 51) (ci := 11) (j := 3) rfl lk_RX11_68 rfl rfl rfl dX11_play_35 ?_
      refine G_getR (pc := 38) (r := 54) (ci := 4) (j := 3) rfl lk_RX11_251 rfl rfl rfl dX11_play_38 ?_
      refine G_iconst (pc := 41) (v := 0) (by decide) dX11_play_41 ?_
      refine G_iald (pc := 42) (jj := 0) (v := 0) (by decide) rfl rfl (by unfold vp_in; decide) dX11_play_42 ?_
      exact G_iret (pc := 43) (Nat.le_of_ble_eq_true rfl) (Nat.le_of_ble_eq_true rfl) rfl dX11_play_43 ⟨_, by first | rfl | (simp [F_play, *]; done) | (simp only [F_play, Int32.le_iff_toInt_le, Int32.lt_iff_toInt_lt, ← Int32.toInt_inj]; simp; omega) | (simp only [F_play, Int32.le_iff_toInt_le, Int32.lt_iff_toInt_lt, ← Int32.toInt_inj]; split <;> first | rfl | (exfalso; simp at *; omega)) | (unfold F_play; (repeat' split) <;> first | rfl | (exfalso; (try simp only [Int32.le_iff_toInt_le, Int32.lt_iff_toInt_lt, ← Int32.toInt_inj] at *); first | omega | (simp at *; done) | (simp at *; omega))), rfl, fun a ha => by funext j; simp (disch := omega) only [gup_off, gcp_off]⟩
    exfalso
    have : 1 ≤ (n).toInt := Int32.le_iff_toInt_le.mp (c499.1)
    have : (n).toInt ≤ 4 := Int32.le_iff_toInt_le.mp (c499.2)
    have : (n).toInt ≠ 1 := g_ne (c501)
    have : (n).toInt ≠ 2 := g_ne (c502)
    have : (n).toInt ≠ 3 := g_ne (c503)
    have : (n).toInt ≠ 4 := g_ne (c504)
    omega
  · have c499 := gB_z c499
    refine G_iconst (pc := 9) (v := (-1)) (by decide) dX11_play_9 ?_
    exact G_iret (pc := 10) (Nat.le_of_ble_eq_true rfl) (Nat.le_of_ble_eq_true rfl) rfl dX11_play_10 ⟨_, by first | rfl | (simp [F_play, *]; done) | (have : ¬ (1 ≤ (n).toInt ∧ (n).toInt ≤ 4) := fun z => c499 ⟨Int32.le_iff_toInt_le.mpr z.1, Int32.le_iff_toInt_le.mpr z.2⟩; simp only [F_play, Int32.le_iff_toInt_le, Int32.lt_iff_toInt_lt, ← Int32.toInt_inj]; simp; omega) | (have : ¬ (1 ≤ (n).toInt ∧ (n).toInt ≤ 4) := fun z => c499 ⟨Int32.le_iff_toInt_le.mpr z.1, Int32.le_iff_toInt_le.mpr z.2⟩; simp only [F_play, Int32.le_iff_toInt_le, Int32.lt_iff_toInt_lt, ← Int32.toInt_inj]; split <;> first | rfl | (exfalso; simp at *; omega)) | (have : ¬ (1 ≤ (n).toInt ∧ (n).toInt ≤ 4) := fun z => c499 ⟨Int32.le_iff_toInt_le.mpr z.1, Int32.le_iff_toInt_le.mpr z.2⟩; unfold F_play; (repeat' split) <;> first | rfl | (exfalso; (try simp only [Int32.le_iff_toInt_le, Int32.lt_iff_toInt_lt, ← Int32.toInt_inj] at *); first | omega | (simp at *; done) | (simp at *; omega))), rfl, fun _ _ => rfl⟩
set_option maxRecDepth 100000 in
set_option maxHeartbeats 4000000 in
theorem s294_X1_haltsOf  (d : Nat)   : G (d + 1) mX1_haltsOf 0 0 0 0 0 (gent 2 [.ref 19, .int 0]) [] SH0 RF0 (gup (gup (gup I0 52 0 0) 53 0 1) 54 0 0) (fun r h => r = some (.int 0) ∧ h = (SH0, RF0, (gup (gup (gup I0 52 0 0) 53 0 1) 54 0 0))) := by
  refine G_iconst (pc := 0) (v := 0) (by decide) dX1_haltsOf_0 ?_
  refine G_iload_n (pc := 1) rfl dX1_haltsOf_1 ?_
  refine G_aload_n (pc := 2) rfl dX1_haltsOf_2 ?_
  refine G_getI (pc := 3) (v := 12) (ci := 1) (j := 2) rfl rfl lk_RX1_9 rfl rfl dX1_haltsOf_3 ?_
  refine G_aload_n (pc := 6) rfl dX1_haltsOf_6 ?_
  refine G_getI (pc := 7) (v := 0) (ci := 1) (j := 1) rfl rfl lk_RX1_60 rfl rfl dX1_haltsOf_7 ?_
  refine G_isub (pc := 10) (z := 12) (by decide) dX1_haltsOf_10 ?_
  refine G_min (pc := 11) dX1_haltsOf_11 wf_143 wf_144 wf_145 wf_146 (Nat.le_of_ble_eq_true rfl) (Nat.le_of_ble_eq_true rfl) (Nat.le_of_ble_eq_true rfl) ?_
  rw [show (if (12 : Int32) < 0 then (12 : Int32) else 0) = 0 by decide]
  refine G_max (pc := 14) dX1_haltsOf_14 wf_147 wf_148 wf_145 wf_149 (Nat.le_of_ble_eq_true rfl) (Nat.le_of_ble_eq_true rfl) (Nat.le_of_ble_eq_true rfl) ?_
  rw [show (if (0 : Int32) < 0 then (0 : Int32) else 0) = 0 by decide]
  exact G_iret (pc := 17) (Nat.le_of_ble_eq_true rfl) (Nat.le_of_ble_eq_true rfl) rfl dX1_haltsOf_17 ⟨rfl, rfl⟩
set_option maxRecDepth 100000 in
set_option maxHeartbeats 4000000 in
theorem s295_X1_save  (d : Nat)   : G (d + 1) mX1_save 0 0 0 0 0 (gent 3 [.ref 19, .int 0]) [] SH0 RF0 (gup (gup (gup (gup I0 52 0 0) 53 0 1) 54 0 0) 0 7 0) (fun r h => r = none ∧ h = (SH0, RF0, (gup (gup (gcp (gup (gup (gup (gup I0 52 0 0) 53 0 1) 54 0 0) 0 7 0) 24 34 (0 : Int32).toNatClampNeg (0 : Int32).toNatClampNeg (6 : Int32).toNatClampNeg) 34 6 0) 34 7 0))) := by
  refine G_iload_n (pc := 0) rfl dX1_save_0 ?_
  refine G_bipush (pc := 1) (v := 8) (by decide) dX1_save_1 ?_
  refine G_imul (pc := 3) (z := 0) (by decide) dX1_save_3 ?_
  refine G_istore_n (pc := 4) (L1 := [some (.ref 19), some (.int 0), some (.int 0)]) rfl rfl (by decide) dX1_save_4 ?_
  refine G_aload_n (pc := 5) rfl dX1_save_5 ?_
  refine G_getR (pc := 6) (r := 24) (ci := 1) (j := 11) rfl lk_RX1_31 rfl rfl rfl dX1_save_6 ?_
  refine G_iconst (pc := 9) (v := 0) (by decide) dX1_save_9 ?_
  refine G_aload_n (pc := 10) rfl dX1_save_10 ?_
  refine G_getR (pc := 11) (r := 34) (ci := 1) (j := 18) rfl lk_RX1_53 rfl rfl rfl dX1_save_11 ?_
  refine G_iload_n (pc := 14) rfl dX1_save_14 ?_
  refine G_bipush (pc := 15) (v := 6) (by decide) dX1_save_15 ?_
  refine G_copy (pc := 17) (x := 24) (y := 34) rfl rfl (by decide) (by decide) (by decide) (by decide) (by decide) wf_50 wf_51 wf_52 wf_53 (Nat.le_of_ble_eq_true rfl) dX1_save_17 ?_
  refine G_aload_n (pc := 20) rfl dX1_save_20 ?_
  refine G_getR (pc := 21) (r := 34) (ci := 1) (j := 18) rfl lk_RX1_53 rfl rfl rfl dX1_save_21 ?_
  refine G_iload_n (pc := 24) rfl dX1_save_24 ?_
  refine G_bipush (pc := 25) (v := 6) (by decide) dX1_save_25 ?_
  refine G_iadd (pc := 27) (z := 6) (by decide) dX1_save_27 ?_
  refine G_aload_n (pc := 28) rfl dX1_save_28 ?_
  refine G_getI (pc := 29) (v := 0) (ci := 1) (j := 9) rfl rfl lk_RX1_75 rfl rfl dX1_save_29 ?_
  refine G_iast (pc := 32) (jj := 6) (by decide) rfl (by unfold vp_in; decide) dX1_save_32 ?_
  refine G_aload_n (pc := 33) rfl dX1_save_33 ?_
  refine G_getR (pc := 34) (r := 34) (ci := 1) (j := 18) rfl lk_RX1_53 rfl rfl rfl dX1_save_34 ?_
  refine G_iload_n (pc := 37) rfl dX1_save_37 ?_
  refine G_bipush (pc := 38) (v := 6) (by decide) dX1_save_38 ?_
  refine G_iadd (pc := 40) (z := 6) (by decide) dX1_save_40 ?_
  refine G_iconst (pc := 41) (v := 1) (by decide) dX1_save_41 ?_
  refine G_iadd (pc := 42) (z := 7) (by decide) dX1_save_42 ?_
  refine G_aload_n (pc := 43) rfl dX1_save_43 ?_
  refine G_getI (pc := 44) (v := 0) (ci := 1) (j := 1) rfl rfl lk_RX1_60 rfl rfl dX1_save_44 ?_
  refine G_iast (pc := 47) (jj := 7) (by decide) rfl (by unfold vp_in; decide) dX1_save_47 ?_
  exact G_vret (pc := 48) (Nat.le_of_ble_eq_true rfl) (Nat.le_of_ble_eq_true rfl) rfl dX1_save_48 ⟨rfl, rfl⟩
set_option maxRecDepth 100000 in
set_option maxHeartbeats 4000000 in
theorem s296_X1_restore  (d : Nat)   : G (d + 1) mX1_restore 0 0 0 0 0 (gent 3 [.ref 19, .int 0]) [] SH0 RF0 (gup (gup (gcp (gup (gup (gup (gup I0 52 0 0) 53 0 1) 54 0 0) 0 7 0) 24 34 (0 : Int32).toNatClampNeg (0 : Int32).toNatClampNeg (6 : Int32).toNatClampNeg) 34 6 0) 34 7 0) (fun r h => r = none ∧ h = (SH0, RF0, (gup (gup (gcp (gup (gup (gcp (gup (gup (gup (gup I0 52 0 0) 53 0 1) 54 0 0) 0 7 0) 24 34 (0 : Int32).toNatClampNeg (0 : Int32).toNatClampNeg (6 : Int32).toNatClampNeg) 34 6 0) 34 7 0) 34 24 (0 : Int32).toNatClampNeg (0 : Int32).toNatClampNeg (6 : Int32).toNatClampNeg) 19 9 0) 19 1 0))) := by
  refine G_iload_n (pc := 0) rfl dX1_restore_0 ?_
  refine G_bipush (pc := 1) (v := 8) (by decide) dX1_restore_1 ?_
  refine G_imul (pc := 3) (z := 0) (by decide) dX1_restore_3 ?_
  refine G_istore_n (pc := 4) (L1 := [some (.ref 19), some (.int 0), some (.int 0)]) rfl rfl (by decide) dX1_restore_4 ?_
  refine G_aload_n (pc := 5) rfl dX1_restore_5 ?_
  refine G_getR (pc := 6) (r := 34) (ci := 1) (j := 18) rfl lk_RX1_53 rfl rfl rfl dX1_restore_6 ?_
  refine G_iload_n (pc := 9) rfl dX1_restore_9 ?_
  refine G_aload_n (pc := 10) rfl dX1_restore_10 ?_
  refine G_getR (pc := 11) (r := 24) (ci := 1) (j := 11) rfl lk_RX1_31 rfl rfl rfl dX1_restore_11 ?_
  refine G_iconst (pc := 14) (v := 0) (by decide) dX1_restore_14 ?_
  refine G_bipush (pc := 15) (v := 6) (by decide) dX1_restore_15 ?_
  refine G_copy (pc := 17) (x := 34) (y := 24) rfl rfl (by decide) (by decide) (by decide) (by decide) (by decide) wf_50 wf_51 wf_52 wf_53 (Nat.le_of_ble_eq_true rfl) dX1_restore_17 ?_
  refine G_aload_n (pc := 20) rfl dX1_restore_20 ?_
  refine G_aload_n (pc := 21) rfl dX1_restore_21 ?_
  refine G_getR (pc := 22) (r := 34) (ci := 1) (j := 18) rfl lk_RX1_53 rfl rfl rfl dX1_restore_22 ?_
  refine G_iload_n (pc := 25) rfl dX1_restore_25 ?_
  refine G_bipush (pc := 26) (v := 6) (by decide) dX1_restore_26 ?_
  refine G_iadd (pc := 28) (z := 6) (by decide) dX1_restore_28 ?_
  refine G_iald (pc := 29) (jj := 6) (v := 0) (by decide) rfl rfl (by unfold vp_in; decide) dX1_restore_29 ?_
  refine G_putI (pc := 30) (ci := 1) (j := 9) rfl lk_RX1_75 rfl rfl rfl trivial dX1_restore_30 ?_
  refine G_aload_n (pc := 33) rfl dX1_restore_33 ?_
  refine G_aload_n (pc := 34) rfl dX1_restore_34 ?_
  refine G_getR (pc := 35) (r := 34) (ci := 1) (j := 18) rfl lk_RX1_53 rfl rfl rfl dX1_restore_35 ?_
  refine G_iload_n (pc := 38) rfl dX1_restore_38 ?_
  refine G_bipush (pc := 39) (v := 6) (by decide) dX1_restore_39 ?_
  refine G_iadd (pc := 41) (z := 6) (by decide) dX1_restore_41 ?_
  refine G_iconst (pc := 42) (v := 1) (by decide) dX1_restore_42 ?_
  refine G_iadd (pc := 43) (z := 7) (by decide) dX1_restore_43 ?_
  refine G_iald (pc := 44) (jj := 7) (v := 0) (by decide) rfl rfl (by unfold vp_in; decide) dX1_restore_44 ?_
  refine G_putI (pc := 45) (ci := 1) (j := 1) rfl lk_RX1_60 rfl rfl rfl trivial dX1_restore_45 ?_
  exact G_vret (pc := 48) (Nat.le_of_ble_eq_true rfl) (Nat.le_of_ble_eq_true rfl) rfl dX1_restore_48 ⟨rfl, rfl⟩
set_option maxRecDepth 100000 in
set_option maxHeartbeats 4000000 in
theorem s297_X1_haltsOf  (d : Nat)   : G (d + 1) mX1_haltsOf 0 0 0 0 0 (gent 2 [.ref 19, .int 1]) [] SH0 RF0 (gup (gup (gup (gup (gup (gcp (gup (gup (gup (gup (gup (gup (gcp (gup (gup (gup (gup I0 52 0 0) 53 0 1) 54 0 0) 52 0 (-1)) 24 34 (0 : Int32).toNatClampNeg (0 : Int32).toNatClampNeg (6 : Int32).toNatClampNeg) 34 6 0) 34 7 0) 19 1 1) 52 1 0) 53 1 1) 54 1 0) 34 24 (0 : Int32).toNatClampNeg (0 : Int32).toNatClampNeg (6 : Int32).toNatClampNeg) 19 9 0) 19 1 0) 52 0 0) 53 0 1) 54 0 0) (fun r h => r = some (.int 1) ∧ h = (SH0, RF0, (gup (gup (gup (gup (gup (gcp (gup (gup (gup (gup (gup (gup (gcp (gup (gup (gup (gup I0 52 0 0) 53 0 1) 54 0 0) 52 0 (-1)) 24 34 (0 : Int32).toNatClampNeg (0 : Int32).toNatClampNeg (6 : Int32).toNatClampNeg) 34 6 0) 34 7 0) 19 1 1) 52 1 0) 53 1 1) 54 1 0) 34 24 (0 : Int32).toNatClampNeg (0 : Int32).toNatClampNeg (6 : Int32).toNatClampNeg) 19 9 0) 19 1 0) 52 0 0) 53 0 1) 54 0 0))) := by
  refine G_iconst (pc := 0) (v := 0) (by decide) dX1_haltsOf_0 ?_
  refine G_iload_n (pc := 1) rfl dX1_haltsOf_1 ?_
  refine G_aload_n (pc := 2) rfl dX1_haltsOf_2 ?_
  refine G_getI (pc := 3) (v := 12) (ci := 1) (j := 2) rfl rfl lk_RX1_9 rfl rfl dX1_haltsOf_3 ?_
  refine G_aload_n (pc := 6) rfl dX1_haltsOf_6 ?_
  refine G_getI (pc := 7) (v := 0) (ci := 1) (j := 1) rfl rfl lk_RX1_60 rfl rfl dX1_haltsOf_7 ?_
  refine G_isub (pc := 10) (z := 12) (by decide) dX1_haltsOf_10 ?_
  refine G_min (pc := 11) dX1_haltsOf_11 wf_143 wf_144 wf_145 wf_146 (Nat.le_of_ble_eq_true rfl) (Nat.le_of_ble_eq_true rfl) (Nat.le_of_ble_eq_true rfl) ?_
  rw [show (if (12 : Int32) < 1 then (12 : Int32) else 1) = 1 by decide]
  refine G_max (pc := 14) dX1_haltsOf_14 wf_147 wf_148 wf_145 wf_149 (Nat.le_of_ble_eq_true rfl) (Nat.le_of_ble_eq_true rfl) (Nat.le_of_ble_eq_true rfl) ?_
  rw [show (if (0 : Int32) < 1 then (1 : Int32) else 0) = 1 by decide]
  exact G_iret (pc := 17) (Nat.le_of_ble_eq_true rfl) (Nat.le_of_ble_eq_true rfl) rfl dX1_haltsOf_17 ⟨rfl, rfl⟩
set_option maxRecDepth 100000 in
set_option maxHeartbeats 4000000 in
theorem s298_X1_save  (d : Nat)   : G (d + 1) mX1_save 0 0 0 0 0 (gent 3 [.ref 19, .int 0]) [] SH0 RF0 (gup (gup (gup (gup (gup (gup (gcp (gup (gup (gup (gup (gup (gup (gcp (gup (gup (gup (gup I0 52 0 0) 53 0 1) 54 0 0) 52 0 (-1)) 24 34 (0 : Int32).toNatClampNeg (0 : Int32).toNatClampNeg (6 : Int32).toNatClampNeg) 34 6 0) 34 7 0) 19 1 1) 52 1 0) 53 1 1) 54 1 0) 34 24 (0 : Int32).toNatClampNeg (0 : Int32).toNatClampNeg (6 : Int32).toNatClampNeg) 19 9 0) 19 1 0) 52 0 0) 53 0 1) 54 0 0) 0 7 1) (fun r h => r = none ∧ h = (SH0, RF0, (gup (gup (gcp (gup (gup (gup (gup (gup (gup (gcp (gup (gup (gup (gup (gup (gup (gcp (gup (gup (gup (gup I0 52 0 0) 53 0 1) 54 0 0) 52 0 (-1)) 24 34 (0 : Int32).toNatClampNeg (0 : Int32).toNatClampNeg (6 : Int32).toNatClampNeg) 34 6 0) 34 7 0) 19 1 1) 52 1 0) 53 1 1) 54 1 0) 34 24 (0 : Int32).toNatClampNeg (0 : Int32).toNatClampNeg (6 : Int32).toNatClampNeg) 19 9 0) 19 1 0) 52 0 0) 53 0 1) 54 0 0) 0 7 1) 24 34 (0 : Int32).toNatClampNeg (0 : Int32).toNatClampNeg (6 : Int32).toNatClampNeg) 34 6 0) 34 7 0))) := by
  refine G_iload_n (pc := 0) rfl dX1_save_0 ?_
  refine G_bipush (pc := 1) (v := 8) (by decide) dX1_save_1 ?_
  refine G_imul (pc := 3) (z := 0) (by decide) dX1_save_3 ?_
  refine G_istore_n (pc := 4) (L1 := [some (.ref 19), some (.int 0), some (.int 0)]) rfl rfl (by decide) dX1_save_4 ?_
  refine G_aload_n (pc := 5) rfl dX1_save_5 ?_
  refine G_getR (pc := 6) (r := 24) (ci := 1) (j := 11) rfl lk_RX1_31 rfl rfl rfl dX1_save_6 ?_
  refine G_iconst (pc := 9) (v := 0) (by decide) dX1_save_9 ?_
  refine G_aload_n (pc := 10) rfl dX1_save_10 ?_
  refine G_getR (pc := 11) (r := 34) (ci := 1) (j := 18) rfl lk_RX1_53 rfl rfl rfl dX1_save_11 ?_
  refine G_iload_n (pc := 14) rfl dX1_save_14 ?_
  refine G_bipush (pc := 15) (v := 6) (by decide) dX1_save_15 ?_
  refine G_copy (pc := 17) (x := 24) (y := 34) rfl rfl (by decide) (by decide) (by decide) (by decide) (by decide) wf_50 wf_51 wf_52 wf_53 (Nat.le_of_ble_eq_true rfl) dX1_save_17 ?_
  refine G_aload_n (pc := 20) rfl dX1_save_20 ?_
  refine G_getR (pc := 21) (r := 34) (ci := 1) (j := 18) rfl lk_RX1_53 rfl rfl rfl dX1_save_21 ?_
  refine G_iload_n (pc := 24) rfl dX1_save_24 ?_
  refine G_bipush (pc := 25) (v := 6) (by decide) dX1_save_25 ?_
  refine G_iadd (pc := 27) (z := 6) (by decide) dX1_save_27 ?_
  refine G_aload_n (pc := 28) rfl dX1_save_28 ?_
  refine G_getI (pc := 29) (v := 0) (ci := 1) (j := 9) rfl rfl lk_RX1_75 rfl rfl dX1_save_29 ?_
  refine G_iast (pc := 32) (jj := 6) (by decide) rfl (by unfold vp_in; decide) dX1_save_32 ?_
  refine G_aload_n (pc := 33) rfl dX1_save_33 ?_
  refine G_getR (pc := 34) (r := 34) (ci := 1) (j := 18) rfl lk_RX1_53 rfl rfl rfl dX1_save_34 ?_
  refine G_iload_n (pc := 37) rfl dX1_save_37 ?_
  refine G_bipush (pc := 38) (v := 6) (by decide) dX1_save_38 ?_
  refine G_iadd (pc := 40) (z := 6) (by decide) dX1_save_40 ?_
  refine G_iconst (pc := 41) (v := 1) (by decide) dX1_save_41 ?_
  refine G_iadd (pc := 42) (z := 7) (by decide) dX1_save_42 ?_
  refine G_aload_n (pc := 43) rfl dX1_save_43 ?_
  refine G_getI (pc := 44) (v := 0) (ci := 1) (j := 1) rfl rfl lk_RX1_60 rfl rfl dX1_save_44 ?_
  refine G_iast (pc := 47) (jj := 7) (by decide) rfl (by unfold vp_in; decide) dX1_save_47 ?_
  exact G_vret (pc := 48) (Nat.le_of_ble_eq_true rfl) (Nat.le_of_ble_eq_true rfl) rfl dX1_save_48 ⟨rfl, rfl⟩
set_option maxRecDepth 100000 in
set_option maxHeartbeats 4000000 in
theorem s301_X1_isKey  (d : Nat)   : G (d) mX1_isKey 0 0 0 0 0 (gent 2 [.ref 19, .int (-1)]) [] SH0 RF0 (gup (gup (gup (gcp (gup (gup (gup (gup (gup (gup (gcp (gup (gup (gup (gup (gup (gup (gcp (gup (gup (gup (gup I0 52 0 0) 53 0 1) 54 0 0) 52 0 (-1)) 24 34 (0 : Int32).toNatClampNeg (0 : Int32).toNatClampNeg (6 : Int32).toNatClampNeg) 34 6 0) 34 7 0) 19 1 1) 52 1 0) 53 1 1) 54 1 0) 34 24 (0 : Int32).toNatClampNeg (0 : Int32).toNatClampNeg (6 : Int32).toNatClampNeg) 19 9 0) 19 1 0) 52 0 0) 53 0 1) 54 0 0) 0 7 1) 24 34 (0 : Int32).toNatClampNeg (0 : Int32).toNatClampNeg (6 : Int32).toNatClampNeg) 34 6 0) 34 7 0) 1 0 0) (fun r h => r = some (.int 0) ∧ h = (SH0, RF0, (gup (gup (gup (gcp (gup (gup (gup (gup (gup (gup (gcp (gup (gup (gup (gup (gup (gup (gcp (gup (gup (gup (gup I0 52 0 0) 53 0 1) 54 0 0) 52 0 (-1)) 24 34 (0 : Int32).toNatClampNeg (0 : Int32).toNatClampNeg (6 : Int32).toNatClampNeg) 34 6 0) 34 7 0) 19 1 1) 52 1 0) 53 1 1) 54 1 0) 34 24 (0 : Int32).toNatClampNeg (0 : Int32).toNatClampNeg (6 : Int32).toNatClampNeg) 19 9 0) 19 1 0) 52 0 0) 53 0 1) 54 0 0) 0 7 1) 24 34 (0 : Int32).toNatClampNeg (0 : Int32).toNatClampNeg (6 : Int32).toNatClampNeg) 34 6 0) 34 7 0) 1 0 0))) := by
  refine G_iload_n (pc := 0) rfl dX1_isKey_0 ?_
  refine G_if_lt (pc := 1) (tgt := 16) (by decide) dX1_isKey_1 (fun _ => ?_) (fun z => absurd (by decide) z)
  refine G_iconst (pc := 16) (v := 0) (by decide) dX1_isKey_16 ?_
  exact G_zret (pc := 17) (Nat.le_of_ble_eq_true rfl) (Nat.le_of_ble_eq_true rfl) rfl (by decide) dX1_isKey_17 ⟨rfl, rfl⟩
set_option maxRecDepth 100000 in
set_option maxHeartbeats 4000000 in
theorem s300_X1_tell  (d : Nat)   : G (d + 1) mX1_tell 0 0 0 0 0 (gent 5 [.ref 19, .int 0]) [] SH0 RF0 (gup (gup (gup (gcp (gup (gup (gup (gup (gup (gup (gcp (gup (gup (gup (gup (gup (gup (gcp (gup (gup (gup (gup I0 52 0 0) 53 0 1) 54 0 0) 52 0 (-1)) 24 34 (0 : Int32).toNatClampNeg (0 : Int32).toNatClampNeg (6 : Int32).toNatClampNeg) 34 6 0) 34 7 0) 19 1 1) 52 1 0) 53 1 1) 54 1 0) 34 24 (0 : Int32).toNatClampNeg (0 : Int32).toNatClampNeg (6 : Int32).toNatClampNeg) 19 9 0) 19 1 0) 52 0 0) 53 0 1) 54 0 0) 0 7 1) 24 34 (0 : Int32).toNatClampNeg (0 : Int32).toNatClampNeg (6 : Int32).toNatClampNeg) 34 6 0) 34 7 0) 1 0 0) (fun r h => r = some (.int 0) ∧ h = (SH0, RF0, (gup (gup (gup (gcp (gup (gup (gup (gup (gup (gup (gcp (gup (gup (gup (gup (gup (gup (gcp (gup (gup (gup (gup I0 52 0 0) 53 0 1) 54 0 0) 52 0 (-1)) 24 34 (0 : Int32).toNatClampNeg (0 : Int32).toNatClampNeg (6 : Int32).toNatClampNeg) 34 6 0) 34 7 0) 19 1 1) 52 1 0) 53 1 1) 54 1 0) 34 24 (0 : Int32).toNatClampNeg (0 : Int32).toNatClampNeg (6 : Int32).toNatClampNeg) 19 9 0) 19 1 0) 52 0 0) 53 0 1) 54 0 0) 0 7 1) 24 34 (0 : Int32).toNatClampNeg (0 : Int32).toNatClampNeg (6 : Int32).toNatClampNeg) 34 6 0) 34 7 0) 1 0 0))) := by
  refine G_iload_n (pc := 0) rfl dX1_tell_0 ?_
  refine G_iconst (pc := 1) (v := 1) (by decide) dX1_tell_1 ?_
  refine G_isub (pc := 2) (z := (-1)) (by decide) dX1_tell_2 ?_
  refine G_istore_n (pc := 3) (L1 := [some (.ref 19), some (.int 0), some (.int (-1)), none, none]) rfl rfl (by decide) dX1_tell_3 ?_
  refine G_aload_n (pc := 4) rfl dX1_tell_4 ?_
  refine G_iload_n (pc := 5) rfl dX1_tell_5 ?_
  refine G_callV (pc := 6) (mc1 := 0) (ms1 := 0) (ci := 1) (mj := mX1_isKey) (vs := [_]) dX1_tell_6 rfl rfl cm_X1_isKey wf_68 wf_13 wf_14 rfl (Nat.le_of_ble_eq_true rfl) (Nat.le_of_ble_eq_true rfl) (Nat.le_of_ble_eq_true rfl) (Nat.le_of_ble_eq_true rfl) (s301_X1_isKey  d  ) ?_
  rintro _ _ ⟨rfl, rfl⟩
  dsimp only [Option.toList, List.cons_append, List.nil_append]
  refine G_if_eq (pc := 9) (tgt := 20) (by decide) dX1_tell_9 (fun _ => ?_) (fun z => absurd (by decide) z)
  refine G_iconst (pc := 20) (v := 0) (by decide) dX1_tell_20 ?_
  exact G_iret (pc := 21) (Nat.le_of_ble_eq_true rfl) (Nat.le_of_ble_eq_true rfl) rfl dX1_tell_21 ⟨rfl, rfl⟩
set_option maxRecDepth 100000 in
set_option maxHeartbeats 4000000 in
theorem s302_X1_melt  (d : Nat)   : G (d) mX1_melt 0 0 0 0 0 (gent 3 [.ref 19]) [] SH0 RF0 (gup (gup (gup (gcp (gup (gup (gup (gup (gup (gup (gcp (gup (gup (gup (gup (gup (gup (gcp (gup (gup (gup (gup I0 52 0 0) 53 0 1) 54 0 0) 52 0 (-1)) 24 34 (0 : Int32).toNatClampNeg (0 : Int32).toNatClampNeg (6 : Int32).toNatClampNeg) 34 6 0) 34 7 0) 19 1 1) 52 1 0) 53 1 1) 54 1 0) 34 24 (0 : Int32).toNatClampNeg (0 : Int32).toNatClampNeg (6 : Int32).toNatClampNeg) 19 9 0) 19 1 0) 52 0 0) 53 0 1) 54 0 0) 0 7 1) 24 34 (0 : Int32).toNatClampNeg (0 : Int32).toNatClampNeg (6 : Int32).toNatClampNeg) 34 6 0) 34 7 0) 1 0 0) (fun r h => r = some (.int 0) ∧ h = (SH0, RF0, (gup (gup (gup (gup (gcp (gup (gup (gup (gup (gup (gup (gcp (gup (gup (gup (gup (gup (gup (gcp (gup (gup (gup (gup I0 52 0 0) 53 0 1) 54 0 0) 52 0 (-1)) 24 34 (0 : Int32).toNatClampNeg (0 : Int32).toNatClampNeg (6 : Int32).toNatClampNeg) 34 6 0) 34 7 0) 19 1 1) 52 1 0) 53 1 1) 54 1 0) 34 24 (0 : Int32).toNatClampNeg (0 : Int32).toNatClampNeg (6 : Int32).toNatClampNeg) 19 9 0) 19 1 0) 52 0 0) 53 0 1) 54 0 0) 0 7 1) 24 34 (0 : Int32).toNatClampNeg (0 : Int32).toNatClampNeg (6 : Int32).toNatClampNeg) 34 6 0) 34 7 0) 1 0 0) 19 1 1))) := by
  refine G_iconst (pc := 0) (v := 0) (by decide) dX1_melt_0 ?_
  refine G_istore_n (pc := 1) (L1 := [some (.ref 19), some (.int 0), none]) rfl rfl (by decide) dX1_melt_1 ?_
  refine G_iconst (pc := 2) (v := 0) (by decide) dX1_melt_2 ?_
  refine G_istore_n (pc := 3) (L1 := [some (.ref 19), some (.int 0), some (.int 0)]) rfl rfl (by decide) dX1_melt_3 ?_
  refine G_iload_n (pc := 4) rfl dX1_melt_4 ?_
  refine G_aload_n (pc := 5) rfl dX1_melt_5 ?_
  refine G_getI (pc := 6) (v := 0) (ci := 1) (j := 8) rfl rfl lk_RX1_72 rfl rfl dX1_melt_6 ?_
  refine G_icmp_ge (pc := 9) (tgt := 60) (by decide) dX1_melt_9 (fun _ => ?_) (fun z => absurd (by decide) z)
  refine G_aload_n (pc := 60) rfl dX1_melt_60 ?_
  refine G_dup (pc := 61) rfl dX1_melt_61 ?_
  refine G_getI (pc := 62) (v := 0) (ci := 1) (j := 1) rfl rfl lk_RX1_60 rfl rfl dX1_melt_62 ?_
  refine G_iconst (pc := 65) (v := 1) (by decide) dX1_melt_65 ?_
  refine G_iadd (pc := 66) (z := 1) (by decide) dX1_melt_66 ?_
  refine G_putI (pc := 67) (ci := 1) (j := 1) rfl lk_RX1_60 rfl rfl rfl trivial dX1_melt_67 ?_
  refine G_iload_n (pc := 70) rfl dX1_melt_70 ?_
  exact G_iret (pc := 71) (Nat.le_of_ble_eq_true rfl) (Nat.le_of_ble_eq_true rfl) rfl dX1_melt_71 ⟨rfl, rfl⟩
set_option maxRecDepth 100000 in
set_option maxHeartbeats 4000000 in
theorem s299_X1_goBy  (d : Nat)   : G (d + 2) mX1_goBy 0 0 0 0 0 (gent 2 [.ref 19, .int 0]) [] SH0 RF0 (gup (gup (gup (gcp (gup (gup (gup (gup (gup (gup (gcp (gup (gup (gup (gup (gup (gup (gcp (gup (gup (gup (gup I0 52 0 0) 53 0 1) 54 0 0) 52 0 (-1)) 24 34 (0 : Int32).toNatClampNeg (0 : Int32).toNatClampNeg (6 : Int32).toNatClampNeg) 34 6 0) 34 7 0) 19 1 1) 52 1 0) 53 1 1) 54 1 0) 34 24 (0 : Int32).toNatClampNeg (0 : Int32).toNatClampNeg (6 : Int32).toNatClampNeg) 19 9 0) 19 1 0) 52 0 0) 53 0 1) 54 0 0) 0 7 1) 24 34 (0 : Int32).toNatClampNeg (0 : Int32).toNatClampNeg (6 : Int32).toNatClampNeg) 34 6 0) 34 7 0) 1 0 0) (fun r h => r = some (.int 0) ∧ h = (SH0, RF0, (gup (gup (gup (gup (gcp (gup (gup (gup (gup (gup (gup (gcp (gup (gup (gup (gup (gup (gup (gcp (gup (gup (gup (gup I0 52 0 0) 53 0 1) 54 0 0) 52 0 (-1)) 24 34 (0 : Int32).toNatClampNeg (0 : Int32).toNatClampNeg (6 : Int32).toNatClampNeg) 34 6 0) 34 7 0) 19 1 1) 52 1 0) 53 1 1) 54 1 0) 34 24 (0 : Int32).toNatClampNeg (0 : Int32).toNatClampNeg (6 : Int32).toNatClampNeg) 19 9 0) 19 1 0) 52 0 0) 53 0 1) 54 0 0) 0 7 1) 24 34 (0 : Int32).toNatClampNeg (0 : Int32).toNatClampNeg (6 : Int32).toNatClampNeg) 34 6 0) 34 7 0) 1 0 0) 19 1 1))) := by
  refine G_aload_n (pc := 0) rfl dX1_goBy_0 ?_
  refine G_iload_n (pc := 1) rfl dX1_goBy_1 ?_
  refine G_callV (pc := 2) (mc1 := 0) (ms1 := 0) (ci := 1) (mj := mX1_tell) (vs := [_]) dX1_goBy_2 rfl rfl cm_X1_tell wf_69 wf_71 wf_72 rfl (Nat.le_of_ble_eq_true rfl) (Nat.le_of_ble_eq_true rfl) (Nat.le_of_ble_eq_true rfl) (Nat.le_of_ble_eq_true rfl) (s300_X1_tell  d  ) ?_
  rintro _ _ ⟨rfl, rfl⟩
  dsimp only [Option.toList, List.cons_append, List.nil_append]
  refine G_aload_n (pc := 5) rfl dX1_goBy_5 ?_
  refine G_callV (pc := 6) (mc1 := 0) (ms1 := 0) (ci := 1) (mj := mX1_melt) (vs := []) dX1_goBy_6 rfl rfl cm_X1_melt wf_73 wf_75 wf_76 rfl (Nat.le_of_ble_eq_true rfl) (Nat.le_of_ble_eq_true rfl) (Nat.le_of_ble_eq_true rfl) (Nat.le_of_ble_eq_true rfl) (s302_X1_melt  (d + 1)  ) ?_
  rintro _ _ ⟨rfl, rfl⟩
  dsimp only [Option.toList, List.cons_append, List.nil_append]
  refine G_iadd (pc := 9) (z := 0) (by decide) dX1_goBy_9 ?_
  exact G_iret (pc := 10) (Nat.le_of_ble_eq_true rfl) (Nat.le_of_ble_eq_true rfl) rfl dX1_goBy_10 ⟨rfl, rfl⟩
set_option maxRecDepth 100000 in
set_option maxHeartbeats 4000000 in
theorem s303_X1_restore  (d : Nat)   : G (d + 1) mX1_restore 0 0 0 0 0 (gent 3 [.ref 19, .int 0]) [] SH0 RF0 (gup (gup (gup (gup (gup (gup (gcp (gup (gup (gup (gup (gup (gup (gcp (gup (gup (gup (gup (gup (gup (gcp (gup (gup (gup (gup I0 52 0 0) 53 0 1) 54 0 0) 52 0 (-1)) 24 34 (0 : Int32).toNatClampNeg (0 : Int32).toNatClampNeg (6 : Int32).toNatClampNeg) 34 6 0) 34 7 0) 19 1 1) 52 1 0) 53 1 1) 54 1 0) 34 24 (0 : Int32).toNatClampNeg (0 : Int32).toNatClampNeg (6 : Int32).toNatClampNeg) 19 9 0) 19 1 0) 52 0 0) 53 0 1) 54 0 0) 0 7 1) 24 34 (0 : Int32).toNatClampNeg (0 : Int32).toNatClampNeg (6 : Int32).toNatClampNeg) 34 6 0) 34 7 0) 1 0 0) 19 1 1) 1 1 0) 1 2 0) (fun r h => r = none ∧ h = (SH0, RF0, (gup (gup (gcp (gup (gup (gup (gup (gup (gup (gcp (gup (gup (gup (gup (gup (gup (gcp (gup (gup (gup (gup (gup (gup (gcp (gup (gup (gup (gup I0 52 0 0) 53 0 1) 54 0 0) 52 0 (-1)) 24 34 (0 : Int32).toNatClampNeg (0 : Int32).toNatClampNeg (6 : Int32).toNatClampNeg) 34 6 0) 34 7 0) 19 1 1) 52 1 0) 53 1 1) 54 1 0) 34 24 (0 : Int32).toNatClampNeg (0 : Int32).toNatClampNeg (6 : Int32).toNatClampNeg) 19 9 0) 19 1 0) 52 0 0) 53 0 1) 54 0 0) 0 7 1) 24 34 (0 : Int32).toNatClampNeg (0 : Int32).toNatClampNeg (6 : Int32).toNatClampNeg) 34 6 0) 34 7 0) 1 0 0) 19 1 1) 1 1 0) 1 2 0) 34 24 (0 : Int32).toNatClampNeg (0 : Int32).toNatClampNeg (6 : Int32).toNatClampNeg) 19 9 0) 19 1 0))) := by
  refine G_iload_n (pc := 0) rfl dX1_restore_0 ?_
  refine G_bipush (pc := 1) (v := 8) (by decide) dX1_restore_1 ?_
  refine G_imul (pc := 3) (z := 0) (by decide) dX1_restore_3 ?_
  refine G_istore_n (pc := 4) (L1 := [some (.ref 19), some (.int 0), some (.int 0)]) rfl rfl (by decide) dX1_restore_4 ?_
  refine G_aload_n (pc := 5) rfl dX1_restore_5 ?_
  refine G_getR (pc := 6) (r := 34) (ci := 1) (j := 18) rfl lk_RX1_53 rfl rfl rfl dX1_restore_6 ?_
  refine G_iload_n (pc := 9) rfl dX1_restore_9 ?_
  refine G_aload_n (pc := 10) rfl dX1_restore_10 ?_
  refine G_getR (pc := 11) (r := 24) (ci := 1) (j := 11) rfl lk_RX1_31 rfl rfl rfl dX1_restore_11 ?_
  refine G_iconst (pc := 14) (v := 0) (by decide) dX1_restore_14 ?_
  refine G_bipush (pc := 15) (v := 6) (by decide) dX1_restore_15 ?_
  refine G_copy (pc := 17) (x := 34) (y := 24) rfl rfl (by decide) (by decide) (by decide) (by decide) (by decide) wf_50 wf_51 wf_52 wf_53 (Nat.le_of_ble_eq_true rfl) dX1_restore_17 ?_
  refine G_aload_n (pc := 20) rfl dX1_restore_20 ?_
  refine G_aload_n (pc := 21) rfl dX1_restore_21 ?_
  refine G_getR (pc := 22) (r := 34) (ci := 1) (j := 18) rfl lk_RX1_53 rfl rfl rfl dX1_restore_22 ?_
  refine G_iload_n (pc := 25) rfl dX1_restore_25 ?_
  refine G_bipush (pc := 26) (v := 6) (by decide) dX1_restore_26 ?_
  refine G_iadd (pc := 28) (z := 6) (by decide) dX1_restore_28 ?_
  refine G_iald (pc := 29) (jj := 6) (v := 0) (by decide) rfl rfl (by unfold vp_in; decide) dX1_restore_29 ?_
  refine G_putI (pc := 30) (ci := 1) (j := 9) rfl lk_RX1_75 rfl rfl rfl trivial dX1_restore_30 ?_
  refine G_aload_n (pc := 33) rfl dX1_restore_33 ?_
  refine G_aload_n (pc := 34) rfl dX1_restore_34 ?_
  refine G_getR (pc := 35) (r := 34) (ci := 1) (j := 18) rfl lk_RX1_53 rfl rfl rfl dX1_restore_35 ?_
  refine G_iload_n (pc := 38) rfl dX1_restore_38 ?_
  refine G_bipush (pc := 39) (v := 6) (by decide) dX1_restore_39 ?_
  refine G_iadd (pc := 41) (z := 6) (by decide) dX1_restore_41 ?_
  refine G_iconst (pc := 42) (v := 1) (by decide) dX1_restore_42 ?_
  refine G_iadd (pc := 43) (z := 7) (by decide) dX1_restore_43 ?_
  refine G_iald (pc := 44) (jj := 7) (v := 0) (by decide) rfl rfl (by unfold vp_in; decide) dX1_restore_44 ?_
  refine G_putI (pc := 45) (ci := 1) (j := 1) rfl lk_RX1_60 rfl rfl rfl trivial dX1_restore_45 ?_
  exact G_vret (pc := 48) (Nat.le_of_ble_eq_true rfl) (Nat.le_of_ble_eq_true rfl) rfl dX1_restore_48 ⟨rfl, rfl⟩
set_option maxRecDepth 100000 in
set_option maxHeartbeats 4000000 in
theorem s304_X1_haltsOf  (d : Nat)   : G (d + 1) mX1_haltsOf 0 0 0 0 0 (gent 2 [.ref 19, .int 2]) [] SH0 RF0 (gup (gup (gup (gup (gup (gcp (gup (gup (gup (gup (gup (gcp (gup (gup (gup (gup (gup (gup (gcp (gup (gup (gup (gup (gup (gup (gup (gcp (gup (gup (gup (gup I0 52 0 0) 53 0 1) 54 0 0) 52 0 (-1)) 24 34 (0 : Int32).toNatClampNeg (0 : Int32).toNatClampNeg (6 : Int32).toNatClampNeg) 34 6 0) 34 7 0) 19 1 1) 52 1 0) 53 1 1) 54 1 0) 52 1 (-1)) 24 34 (0 : Int32).toNatClampNeg (8 : Int32).toNatClampNeg (6 : Int32).toNatClampNeg) 34 14 0) 34 15 1) 19 1 2) 52 2 0) 53 2 1) 54 2 0) 34 24 (8 : Int32).toNatClampNeg (0 : Int32).toNatClampNeg (6 : Int32).toNatClampNeg) 19 9 0) 19 1 1) 52 1 0) 53 1 1) 54 1 0) 34 24 (0 : Int32).toNatClampNeg (0 : Int32).toNatClampNeg (6 : Int32).toNatClampNeg) 19 9 0) 19 1 0) 52 0 0) 53 0 1) 54 0 0) (fun r h => r = some (.int 2) ∧ h = (SH0, RF0, (gup (gup (gup (gup (gup (gcp (gup (gup (gup (gup (gup (gcp (gup (gup (gup (gup (gup (gup (gcp (gup (gup (gup (gup (gup (gup (gup (gcp (gup (gup (gup (gup I0 52 0 0) 53 0 1) 54 0 0) 52 0 (-1)) 24 34 (0 : Int32).toNatClampNeg (0 : Int32).toNatClampNeg (6 : Int32).toNatClampNeg) 34 6 0) 34 7 0) 19 1 1) 52 1 0) 53 1 1) 54 1 0) 52 1 (-1)) 24 34 (0 : Int32).toNatClampNeg (8 : Int32).toNatClampNeg (6 : Int32).toNatClampNeg) 34 14 0) 34 15 1) 19 1 2) 52 2 0) 53 2 1) 54 2 0) 34 24 (8 : Int32).toNatClampNeg (0 : Int32).toNatClampNeg (6 : Int32).toNatClampNeg) 19 9 0) 19 1 1) 52 1 0) 53 1 1) 54 1 0) 34 24 (0 : Int32).toNatClampNeg (0 : Int32).toNatClampNeg (6 : Int32).toNatClampNeg) 19 9 0) 19 1 0) 52 0 0) 53 0 1) 54 0 0))) := by
  refine G_iconst (pc := 0) (v := 0) (by decide) dX1_haltsOf_0 ?_
  refine G_iload_n (pc := 1) rfl dX1_haltsOf_1 ?_
  refine G_aload_n (pc := 2) rfl dX1_haltsOf_2 ?_
  refine G_getI (pc := 3) (v := 12) (ci := 1) (j := 2) rfl rfl lk_RX1_9 rfl rfl dX1_haltsOf_3 ?_
  refine G_aload_n (pc := 6) rfl dX1_haltsOf_6 ?_
  refine G_getI (pc := 7) (v := 0) (ci := 1) (j := 1) rfl rfl lk_RX1_60 rfl rfl dX1_haltsOf_7 ?_
  refine G_isub (pc := 10) (z := 12) (by decide) dX1_haltsOf_10 ?_
  refine G_min (pc := 11) dX1_haltsOf_11 wf_143 wf_144 wf_145 wf_146 (Nat.le_of_ble_eq_true rfl) (Nat.le_of_ble_eq_true rfl) (Nat.le_of_ble_eq_true rfl) ?_
  rw [show (if (12 : Int32) < 2 then (12 : Int32) else 2) = 2 by decide]
  refine G_max (pc := 14) dX1_haltsOf_14 wf_147 wf_148 wf_145 wf_149 (Nat.le_of_ble_eq_true rfl) (Nat.le_of_ble_eq_true rfl) (Nat.le_of_ble_eq_true rfl) ?_
  rw [show (if (0 : Int32) < 2 then (2 : Int32) else 0) = 2 by decide]
  exact G_iret (pc := 17) (Nat.le_of_ble_eq_true rfl) (Nat.le_of_ble_eq_true rfl) rfl dX1_haltsOf_17 ⟨rfl, rfl⟩
set_option maxRecDepth 100000 in
set_option maxHeartbeats 4000000 in
theorem s305_X1_save  (d : Nat)   : G (d + 1) mX1_save 0 0 0 0 0 (gent 3 [.ref 19, .int 0]) [] SH0 RF0 (gup (gup (gup (gup (gup (gup (gcp (gup (gup (gup (gup (gup (gcp (gup (gup (gup (gup (gup (gup (gcp (gup (gup (gup (gup (gup (gup (gup (gcp (gup (gup (gup (gup I0 52 0 0) 53 0 1) 54 0 0) 52 0 (-1)) 24 34 (0 : Int32).toNatClampNeg (0 : Int32).toNatClampNeg (6 : Int32).toNatClampNeg) 34 6 0) 34 7 0) 19 1 1) 52 1 0) 53 1 1) 54 1 0) 52 1 (-1)) 24 34 (0 : Int32).toNatClampNeg (8 : Int32).toNatClampNeg (6 : Int32).toNatClampNeg) 34 14 0) 34 15 1) 19 1 2) 52 2 0) 53 2 1) 54 2 0) 34 24 (8 : Int32).toNatClampNeg (0 : Int32).toNatClampNeg (6 : Int32).toNatClampNeg) 19 9 0) 19 1 1) 52 1 0) 53 1 1) 54 1 0) 34 24 (0 : Int32).toNatClampNeg (0 : Int32).toNatClampNeg (6 : Int32).toNatClampNeg) 19 9 0) 19 1 0) 52 0 0) 53 0 1) 54 0 0) 0 7 2) (fun r h => r = none ∧ h = (SH0, RF0, (gup (gup (gcp (gup (gup (gup (gup (gup (gup (gcp (gup (gup (gup (gup (gup (gcp (gup (gup (gup (gup (gup (gup (gcp (gup (gup (gup (gup (gup (gup (gup (gcp (gup (gup (gup (gup I0 52 0 0) 53 0 1) 54 0 0) 52 0 (-1)) 24 34 (0 : Int32).toNatClampNeg (0 : Int32).toNatClampNeg (6 : Int32).toNatClampNeg) 34 6 0) 34 7 0) 19 1 1) 52 1 0) 53 1 1) 54 1 0) 52 1 (-1)) 24 34 (0 : Int32).toNatClampNeg (8 : Int32).toNatClampNeg (6 : Int32).toNatClampNeg) 34 14 0) 34 15 1) 19 1 2) 52 2 0) 53 2 1) 54 2 0) 34 24 (8 : Int32).toNatClampNeg (0 : Int32).toNatClampNeg (6 : Int32).toNatClampNeg) 19 9 0) 19 1 1) 52 1 0) 53 1 1) 54 1 0) 34 24 (0 : Int32).toNatClampNeg (0 : Int32).toNatClampNeg (6 : Int32).toNatClampNeg) 19 9 0) 19 1 0) 52 0 0) 53 0 1) 54 0 0) 0 7 2) 24 34 (0 : Int32).toNatClampNeg (0 : Int32).toNatClampNeg (6 : Int32).toNatClampNeg) 34 6 0) 34 7 0))) := by
  refine G_iload_n (pc := 0) rfl dX1_save_0 ?_
  refine G_bipush (pc := 1) (v := 8) (by decide) dX1_save_1 ?_
  refine G_imul (pc := 3) (z := 0) (by decide) dX1_save_3 ?_
  refine G_istore_n (pc := 4) (L1 := [some (.ref 19), some (.int 0), some (.int 0)]) rfl rfl (by decide) dX1_save_4 ?_
  refine G_aload_n (pc := 5) rfl dX1_save_5 ?_
  refine G_getR (pc := 6) (r := 24) (ci := 1) (j := 11) rfl lk_RX1_31 rfl rfl rfl dX1_save_6 ?_
  refine G_iconst (pc := 9) (v := 0) (by decide) dX1_save_9 ?_
  refine G_aload_n (pc := 10) rfl dX1_save_10 ?_
  refine G_getR (pc := 11) (r := 34) (ci := 1) (j := 18) rfl lk_RX1_53 rfl rfl rfl dX1_save_11 ?_
  refine G_iload_n (pc := 14) rfl dX1_save_14 ?_
  refine G_bipush (pc := 15) (v := 6) (by decide) dX1_save_15 ?_
  refine G_copy (pc := 17) (x := 24) (y := 34) rfl rfl (by decide) (by decide) (by decide) (by decide) (by decide) wf_50 wf_51 wf_52 wf_53 (Nat.le_of_ble_eq_true rfl) dX1_save_17 ?_
  refine G_aload_n (pc := 20) rfl dX1_save_20 ?_
  refine G_getR (pc := 21) (r := 34) (ci := 1) (j := 18) rfl lk_RX1_53 rfl rfl rfl dX1_save_21 ?_
  refine G_iload_n (pc := 24) rfl dX1_save_24 ?_
  refine G_bipush (pc := 25) (v := 6) (by decide) dX1_save_25 ?_
  refine G_iadd (pc := 27) (z := 6) (by decide) dX1_save_27 ?_
  refine G_aload_n (pc := 28) rfl dX1_save_28 ?_
  refine G_getI (pc := 29) (v := 0) (ci := 1) (j := 9) rfl rfl lk_RX1_75 rfl rfl dX1_save_29 ?_
  refine G_iast (pc := 32) (jj := 6) (by decide) rfl (by unfold vp_in; decide) dX1_save_32 ?_
  refine G_aload_n (pc := 33) rfl dX1_save_33 ?_
  refine G_getR (pc := 34) (r := 34) (ci := 1) (j := 18) rfl lk_RX1_53 rfl rfl rfl dX1_save_34 ?_
  refine G_iload_n (pc := 37) rfl dX1_save_37 ?_
  refine G_bipush (pc := 38) (v := 6) (by decide) dX1_save_38 ?_
  refine G_iadd (pc := 40) (z := 6) (by decide) dX1_save_40 ?_
  refine G_iconst (pc := 41) (v := 1) (by decide) dX1_save_41 ?_
  refine G_iadd (pc := 42) (z := 7) (by decide) dX1_save_42 ?_
  refine G_aload_n (pc := 43) rfl dX1_save_43 ?_
  refine G_getI (pc := 44) (v := 0) (ci := 1) (j := 1) rfl rfl lk_RX1_60 rfl rfl dX1_save_44 ?_
  refine G_iast (pc := 47) (jj := 7) (by decide) rfl (by unfold vp_in; decide) dX1_save_47 ?_
  exact G_vret (pc := 48) (Nat.le_of_ble_eq_true rfl) (Nat.le_of_ble_eq_true rfl) rfl dX1_save_48 ⟨rfl, rfl⟩
set_option maxRecDepth 100000 in
set_option maxHeartbeats 4000000 in
theorem s308_X1_isKey  (d : Nat)   : G (d) mX1_isKey 0 0 0 0 0 (gent 2 [.ref 19, .int (-1)]) [] SH0 RF0 (gup (gup (gup (gcp (gup (gup (gup (gup (gup (gup (gcp (gup (gup (gup (gup (gup (gcp (gup (gup (gup (gup (gup (gup (gcp (gup (gup (gup (gup (gup (gup (gup (gcp (gup (gup (gup (gup I0 52 0 0) 53 0 1) 54 0 0) 52 0 (-1)) 24 34 (0 : Int32).toNatClampNeg (0 : Int32).toNatClampNeg (6 : Int32).toNatClampNeg) 34 6 0) 34 7 0) 19 1 1) 52 1 0) 53 1 1) 54 1 0) 52 1 (-1)) 24 34 (0 : Int32).toNatClampNeg (8 : Int32).toNatClampNeg (6 : Int32).toNatClampNeg) 34 14 0) 34 15 1) 19 1 2) 52 2 0) 53 2 1) 54 2 0) 34 24 (8 : Int32).toNatClampNeg (0 : Int32).toNatClampNeg (6 : Int32).toNatClampNeg) 19 9 0) 19 1 1) 52 1 0) 53 1 1) 54 1 0) 34 24 (0 : Int32).toNatClampNeg (0 : Int32).toNatClampNeg (6 : Int32).toNatClampNeg) 19 9 0) 19 1 0) 52 0 0) 53 0 1) 54 0 0) 0 7 2) 24 34 (0 : Int32).toNatClampNeg (0 : Int32).toNatClampNeg (6 : Int32).toNatClampNeg) 34 6 0) 34 7 0) 1 0 0) (fun r h => r = some (.int 0) ∧ h = (SH0, RF0, (gup (gup (gup (gcp (gup (gup (gup (gup (gup (gup (gcp (gup (gup (gup (gup (gup (gcp (gup (gup (gup (gup (gup (gup (gcp (gup (gup (gup (gup (gup (gup (gup (gcp (gup (gup (gup (gup I0 52 0 0) 53 0 1) 54 0 0) 52 0 (-1)) 24 34 (0 : Int32).toNatClampNeg (0 : Int32).toNatClampNeg (6 : Int32).toNatClampNeg) 34 6 0) 34 7 0) 19 1 1) 52 1 0) 53 1 1) 54 1 0) 52 1 (-1)) 24 34 (0 : Int32).toNatClampNeg (8 : Int32).toNatClampNeg (6 : Int32).toNatClampNeg) 34 14 0) 34 15 1) 19 1 2) 52 2 0) 53 2 1) 54 2 0) 34 24 (8 : Int32).toNatClampNeg (0 : Int32).toNatClampNeg (6 : Int32).toNatClampNeg) 19 9 0) 19 1 1) 52 1 0) 53 1 1) 54 1 0) 34 24 (0 : Int32).toNatClampNeg (0 : Int32).toNatClampNeg (6 : Int32).toNatClampNeg) 19 9 0) 19 1 0) 52 0 0) 53 0 1) 54 0 0) 0 7 2) 24 34 (0 : Int32).toNatClampNeg (0 : Int32).toNatClampNeg (6 : Int32).toNatClampNeg) 34 6 0) 34 7 0) 1 0 0))) := by
  refine G_iload_n (pc := 0) rfl dX1_isKey_0 ?_
  refine G_if_lt (pc := 1) (tgt := 16) (by decide) dX1_isKey_1 (fun _ => ?_) (fun z => absurd (by decide) z)
  refine G_iconst (pc := 16) (v := 0) (by decide) dX1_isKey_16 ?_
  exact G_zret (pc := 17) (Nat.le_of_ble_eq_true rfl) (Nat.le_of_ble_eq_true rfl) rfl (by decide) dX1_isKey_17 ⟨rfl, rfl⟩
set_option maxRecDepth 100000 in
set_option maxHeartbeats 4000000 in
theorem s307_X1_tell  (d : Nat)   : G (d + 1) mX1_tell 0 0 0 0 0 (gent 5 [.ref 19, .int 0]) [] SH0 RF0 (gup (gup (gup (gcp (gup (gup (gup (gup (gup (gup (gcp (gup (gup (gup (gup (gup (gcp (gup (gup (gup (gup (gup (gup (gcp (gup (gup (gup (gup (gup (gup (gup (gcp (gup (gup (gup (gup I0 52 0 0) 53 0 1) 54 0 0) 52 0 (-1)) 24 34 (0 : Int32).toNatClampNeg (0 : Int32).toNatClampNeg (6 : Int32).toNatClampNeg) 34 6 0) 34 7 0) 19 1 1) 52 1 0) 53 1 1) 54 1 0) 52 1 (-1)) 24 34 (0 : Int32).toNatClampNeg (8 : Int32).toNatClampNeg (6 : Int32).toNatClampNeg) 34 14 0) 34 15 1) 19 1 2) 52 2 0) 53 2 1) 54 2 0) 34 24 (8 : Int32).toNatClampNeg (0 : Int32).toNatClampNeg (6 : Int32).toNatClampNeg) 19 9 0) 19 1 1) 52 1 0) 53 1 1) 54 1 0) 34 24 (0 : Int32).toNatClampNeg (0 : Int32).toNatClampNeg (6 : Int32).toNatClampNeg) 19 9 0) 19 1 0) 52 0 0) 53 0 1) 54 0 0) 0 7 2) 24 34 (0 : Int32).toNatClampNeg (0 : Int32).toNatClampNeg (6 : Int32).toNatClampNeg) 34 6 0) 34 7 0) 1 0 0) (fun r h => r = some (.int 0) ∧ h = (SH0, RF0, (gup (gup (gup (gcp (gup (gup (gup (gup (gup (gup (gcp (gup (gup (gup (gup (gup (gcp (gup (gup (gup (gup (gup (gup (gcp (gup (gup (gup (gup (gup (gup (gup (gcp (gup (gup (gup (gup I0 52 0 0) 53 0 1) 54 0 0) 52 0 (-1)) 24 34 (0 : Int32).toNatClampNeg (0 : Int32).toNatClampNeg (6 : Int32).toNatClampNeg) 34 6 0) 34 7 0) 19 1 1) 52 1 0) 53 1 1) 54 1 0) 52 1 (-1)) 24 34 (0 : Int32).toNatClampNeg (8 : Int32).toNatClampNeg (6 : Int32).toNatClampNeg) 34 14 0) 34 15 1) 19 1 2) 52 2 0) 53 2 1) 54 2 0) 34 24 (8 : Int32).toNatClampNeg (0 : Int32).toNatClampNeg (6 : Int32).toNatClampNeg) 19 9 0) 19 1 1) 52 1 0) 53 1 1) 54 1 0) 34 24 (0 : Int32).toNatClampNeg (0 : Int32).toNatClampNeg (6 : Int32).toNatClampNeg) 19 9 0) 19 1 0) 52 0 0) 53 0 1) 54 0 0) 0 7 2) 24 34 (0 : Int32).toNatClampNeg (0 : Int32).toNatClampNeg (6 : Int32).toNatClampNeg) 34 6 0) 34 7 0) 1 0 0))) := by
  refine G_iload_n (pc := 0) rfl dX1_tell_0 ?_
  refine G_iconst (pc := 1) (v := 1) (by decide) dX1_tell_1 ?_
  refine G_isub (pc := 2) (z := (-1)) (by decide) dX1_tell_2 ?_
  refine G_istore_n (pc := 3) (L1 := [some (.ref 19), some (.int 0), some (.int (-1)), none, none]) rfl rfl (by decide) dX1_tell_3 ?_
  refine G_aload_n (pc := 4) rfl dX1_tell_4 ?_
  refine G_iload_n (pc := 5) rfl dX1_tell_5 ?_
  refine G_callV (pc := 6) (mc1 := 0) (ms1 := 0) (ci := 1) (mj := mX1_isKey) (vs := [_]) dX1_tell_6 rfl rfl cm_X1_isKey wf_68 wf_13 wf_14 rfl (Nat.le_of_ble_eq_true rfl) (Nat.le_of_ble_eq_true rfl) (Nat.le_of_ble_eq_true rfl) (Nat.le_of_ble_eq_true rfl) (s308_X1_isKey  d  ) ?_
  rintro _ _ ⟨rfl, rfl⟩
  dsimp only [Option.toList, List.cons_append, List.nil_append]
  refine G_if_eq (pc := 9) (tgt := 20) (by decide) dX1_tell_9 (fun _ => ?_) (fun z => absurd (by decide) z)
  refine G_iconst (pc := 20) (v := 0) (by decide) dX1_tell_20 ?_
  exact G_iret (pc := 21) (Nat.le_of_ble_eq_true rfl) (Nat.le_of_ble_eq_true rfl) rfl dX1_tell_21 ⟨rfl, rfl⟩
set_option maxRecDepth 100000 in
set_option maxHeartbeats 4000000 in
theorem s309_X1_melt  (d : Nat)   : G (d) mX1_melt 0 0 0 0 0 (gent 3 [.ref 19]) [] SH0 RF0 (gup (gup (gup (gcp (gup (gup (gup (gup (gup (gup (gcp (gup (gup (gup (gup (gup (gcp (gup (gup (gup (gup (gup (gup (gcp (gup (gup (gup (gup (gup (gup (gup (gcp (gup (gup (gup (gup I0 52 0 0) 53 0 1) 54 0 0) 52 0 (-1)) 24 34 (0 : Int32).toNatClampNeg (0 : Int32).toNatClampNeg (6 : Int32).toNatClampNeg) 34 6 0) 34 7 0) 19 1 1) 52 1 0) 53 1 1) 54 1 0) 52 1 (-1)) 24 34 (0 : Int32).toNatClampNeg (8 : Int32).toNatClampNeg (6 : Int32).toNatClampNeg) 34 14 0) 34 15 1) 19 1 2) 52 2 0) 53 2 1) 54 2 0) 34 24 (8 : Int32).toNatClampNeg (0 : Int32).toNatClampNeg (6 : Int32).toNatClampNeg) 19 9 0) 19 1 1) 52 1 0) 53 1 1) 54 1 0) 34 24 (0 : Int32).toNatClampNeg (0 : Int32).toNatClampNeg (6 : Int32).toNatClampNeg) 19 9 0) 19 1 0) 52 0 0) 53 0 1) 54 0 0) 0 7 2) 24 34 (0 : Int32).toNatClampNeg (0 : Int32).toNatClampNeg (6 : Int32).toNatClampNeg) 34 6 0) 34 7 0) 1 0 0) (fun r h => r = some (.int 0) ∧ h = (SH0, RF0, (gup (gup (gup (gup (gcp (gup (gup (gup (gup (gup (gup (gcp (gup (gup (gup (gup (gup (gcp (gup (gup (gup (gup (gup (gup (gcp (gup (gup (gup (gup (gup (gup (gup (gcp (gup (gup (gup (gup I0 52 0 0) 53 0 1) 54 0 0) 52 0 (-1)) 24 34 (0 : Int32).toNatClampNeg (0 : Int32).toNatClampNeg (6 : Int32).toNatClampNeg) 34 6 0) 34 7 0) 19 1 1) 52 1 0) 53 1 1) 54 1 0) 52 1 (-1)) 24 34 (0 : Int32).toNatClampNeg (8 : Int32).toNatClampNeg (6 : Int32).toNatClampNeg) 34 14 0) 34 15 1) 19 1 2) 52 2 0) 53 2 1) 54 2 0) 34 24 (8 : Int32).toNatClampNeg (0 : Int32).toNatClampNeg (6 : Int32).toNatClampNeg) 19 9 0) 19 1 1) 52 1 0) 53 1 1) 54 1 0) 34 24 (0 : Int32).toNatClampNeg (0 : Int32).toNatClampNeg (6 : Int32).toNatClampNeg) 19 9 0) 19 1 0) 52 0 0) 53 0 1) 54 0 0) 0 7 2) 24 34 (0 : Int32).toNatClampNeg (0 : Int32).toNatClampNeg (6 : Int32).toNatClampNeg) 34 6 0) 34 7 0) 1 0 0) 19 1 1))) := by
  refine G_iconst (pc := 0) (v := 0) (by decide) dX1_melt_0 ?_
  refine G_istore_n (pc := 1) (L1 := [some (.ref 19), some (.int 0), none]) rfl rfl (by decide) dX1_melt_1 ?_
  refine G_iconst (pc := 2) (v := 0) (by decide) dX1_melt_2 ?_
  refine G_istore_n (pc := 3) (L1 := [some (.ref 19), some (.int 0), some (.int 0)]) rfl rfl (by decide) dX1_melt_3 ?_
  refine G_iload_n (pc := 4) rfl dX1_melt_4 ?_
  refine G_aload_n (pc := 5) rfl dX1_melt_5 ?_
  refine G_getI (pc := 6) (v := 0) (ci := 1) (j := 8) rfl rfl lk_RX1_72 rfl rfl dX1_melt_6 ?_
  refine G_icmp_ge (pc := 9) (tgt := 60) (by decide) dX1_melt_9 (fun _ => ?_) (fun z => absurd (by decide) z)
  refine G_aload_n (pc := 60) rfl dX1_melt_60 ?_
  refine G_dup (pc := 61) rfl dX1_melt_61 ?_
  refine G_getI (pc := 62) (v := 0) (ci := 1) (j := 1) rfl rfl lk_RX1_60 rfl rfl dX1_melt_62 ?_
  refine G_iconst (pc := 65) (v := 1) (by decide) dX1_melt_65 ?_
  refine G_iadd (pc := 66) (z := 1) (by decide) dX1_melt_66 ?_
  refine G_putI (pc := 67) (ci := 1) (j := 1) rfl lk_RX1_60 rfl rfl rfl trivial dX1_melt_67 ?_
  refine G_iload_n (pc := 70) rfl dX1_melt_70 ?_
  exact G_iret (pc := 71) (Nat.le_of_ble_eq_true rfl) (Nat.le_of_ble_eq_true rfl) rfl dX1_melt_71 ⟨rfl, rfl⟩
set_option maxRecDepth 100000 in
set_option maxHeartbeats 4000000 in
theorem s306_X1_goBy  (d : Nat)   : G (d + 2) mX1_goBy 0 0 0 0 0 (gent 2 [.ref 19, .int 0]) [] SH0 RF0 (gup (gup (gup (gcp (gup (gup (gup (gup (gup (gup (gcp (gup (gup (gup (gup (gup (gcp (gup (gup (gup (gup (gup (gup (gcp (gup (gup (gup (gup (gup (gup (gup (gcp (gup (gup (gup (gup I0 52 0 0) 53 0 1) 54 0 0) 52 0 (-1)) 24 34 (0 : Int32).toNatClampNeg (0 : Int32).toNatClampNeg (6 : Int32).toNatClampNeg) 34 6 0) 34 7 0) 19 1 1) 52 1 0) 53 1 1) 54 1 0) 52 1 (-1)) 24 34 (0 : Int32).toNatClampNeg (8 : Int32).toNatClampNeg (6 : Int32).toNatClampNeg) 34 14 0) 34 15 1) 19 1 2) 52 2 0) 53 2 1) 54 2 0) 34 24 (8 : Int32).toNatClampNeg (0 : Int32).toNatClampNeg (6 : Int32).toNatClampNeg) 19 9 0) 19 1 1) 52 1 0) 53 1 1) 54 1 0) 34 24 (0 : Int32).toNatClampNeg (0 : Int32).toNatClampNeg (6 : Int32).toNatClampNeg) 19 9 0) 19 1 0) 52 0 0) 53 0 1) 54 0 0) 0 7 2) 24 34 (0 : Int32).toNatClampNeg (0 : Int32).toNatClampNeg (6 : Int32).toNatClampNeg) 34 6 0) 34 7 0) 1 0 0) (fun r h => r = some (.int 0) ∧ h = (SH0, RF0, (gup (gup (gup (gup (gcp (gup (gup (gup (gup (gup (gup (gcp (gup (gup (gup (gup (gup (gcp (gup (gup (gup (gup (gup (gup (gcp (gup (gup (gup (gup (gup (gup (gup (gcp (gup (gup (gup (gup I0 52 0 0) 53 0 1) 54 0 0) 52 0 (-1)) 24 34 (0 : Int32).toNatClampNeg (0 : Int32).toNatClampNeg (6 : Int32).toNatClampNeg) 34 6 0) 34 7 0) 19 1 1) 52 1 0) 53 1 1) 54 1 0) 52 1 (-1)) 24 34 (0 : Int32).toNatClampNeg (8 : Int32).toNatClampNeg (6 : Int32).toNatClampNeg) 34 14 0) 34 15 1) 19 1 2) 52 2 0) 53 2 1) 54 2 0) 34 24 (8 : Int32).toNatClampNeg (0 : Int32).toNatClampNeg (6 : Int32).toNatClampNeg) 19 9 0) 19 1 1) 52 1 0) 53 1 1) 54 1 0) 34 24 (0 : Int32).toNatClampNeg (0 : Int32).toNatClampNeg (6 : Int32).toNatClampNeg) 19 9 0) 19 1 0) 52 0 0) 53 0 1) 54 0 0) 0 7 2) 24 34 (0 : Int32).toNatClampNeg (0 : Int32).toNatClampNeg (6 : Int32).toNatClampNeg) 34 6 0) 34 7 0) 1 0 0) 19 1 1))) := by
  refine G_aload_n (pc := 0) rfl dX1_goBy_0 ?_
  refine G_iload_n (pc := 1) rfl dX1_goBy_1 ?_
  refine G_callV (pc := 2) (mc1 := 0) (ms1 := 0) (ci := 1) (mj := mX1_tell) (vs := [_]) dX1_goBy_2 rfl rfl cm_X1_tell wf_69 wf_71 wf_72 rfl (Nat.le_of_ble_eq_true rfl) (Nat.le_of_ble_eq_true rfl) (Nat.le_of_ble_eq_true rfl) (Nat.le_of_ble_eq_true rfl) (s307_X1_tell  d  ) ?_
  rintro _ _ ⟨rfl, rfl⟩
  dsimp only [Option.toList, List.cons_append, List.nil_append]
  refine G_aload_n (pc := 5) rfl dX1_goBy_5 ?_
  refine G_callV (pc := 6) (mc1 := 0) (ms1 := 0) (ci := 1) (mj := mX1_melt) (vs := []) dX1_goBy_6 rfl rfl cm_X1_melt wf_73 wf_75 wf_76 rfl (Nat.le_of_ble_eq_true rfl) (Nat.le_of_ble_eq_true rfl) (Nat.le_of_ble_eq_true rfl) (Nat.le_of_ble_eq_true rfl) (s309_X1_melt  (d + 1)  ) ?_
  rintro _ _ ⟨rfl, rfl⟩
  dsimp only [Option.toList, List.cons_append, List.nil_append]
  refine G_iadd (pc := 9) (z := 0) (by decide) dX1_goBy_9 ?_
  exact G_iret (pc := 10) (Nat.le_of_ble_eq_true rfl) (Nat.le_of_ble_eq_true rfl) rfl dX1_goBy_10 ⟨rfl, rfl⟩
set_option maxRecDepth 100000 in
set_option maxHeartbeats 4000000 in
theorem s312_X1_isKey  (d : Nat)   : G (d) mX1_isKey 0 0 0 0 0 (gent 2 [.ref 19, .int (-1)]) [] SH0 RF0 (gup (gup (gup (gup (gup (gup (gup (gcp (gup (gup (gup (gup (gup (gup (gcp (gup (gup (gup (gup (gup (gcp (gup (gup (gup (gup (gup (gup (gcp (gup (gup (gup (gup (gup (gup (gup (gcp (gup (gup (gup (gup I0 52 0 0) 53 0 1) 54 0 0) 52 0 (-1)) 24 34 (0 : Int32).toNatClampNeg (0 : Int32).toNatClampNeg (6 : Int32).toNatClampNeg) 34 6 0) 34 7 0) 19 1 1) 52 1 0) 53 1 1) 54 1 0) 52 1 (-1)) 24 34 (0 : Int32).toNatClampNeg (8 : Int32).toNatClampNeg (6 : Int32).toNatClampNeg) 34 14 0) 34 15 1) 19 1 2) 52 2 0) 53 2 1) 54 2 0) 34 24 (8 : Int32).toNatClampNeg (0 : Int32).toNatClampNeg (6 : Int32).toNatClampNeg) 19 9 0) 19 1 1) 52 1 0) 53 1 1) 54 1 0) 34 24 (0 : Int32).toNatClampNeg (0 : Int32).toNatClampNeg (6 : Int32).toNatClampNeg) 19 9 0) 19 1 0) 52 0 0) 53 0 1) 54 0 0) 0 7 2) 24 34 (0 : Int32).toNatClampNeg (0 : Int32).toNatClampNeg (6 : Int32).toNatClampNeg) 34 6 0) 34 7 0) 1 0 0) 19 1 1) 1 1 0) 1 2 0) 1 3 0) (fun r h => r = some (.int 0) ∧ h = (SH0, RF0, (gup (gup (gup (gup (gup (gup (gup (gcp (gup (gup (gup (gup (gup (gup (gcp (gup (gup (gup (gup (gup (gcp (gup (gup (gup (gup (gup (gup (gcp (gup (gup (gup (gup (gup (gup (gup (gcp (gup (gup (gup (gup I0 52 0 0) 53 0 1) 54 0 0) 52 0 (-1)) 24 34 (0 : Int32).toNatClampNeg (0 : Int32).toNatClampNeg (6 : Int32).toNatClampNeg) 34 6 0) 34 7 0) 19 1 1) 52 1 0) 53 1 1) 54 1 0) 52 1 (-1)) 24 34 (0 : Int32).toNatClampNeg (8 : Int32).toNatClampNeg (6 : Int32).toNatClampNeg) 34 14 0) 34 15 1) 19 1 2) 52 2 0) 53 2 1) 54 2 0) 34 24 (8 : Int32).toNatClampNeg (0 : Int32).toNatClampNeg (6 : Int32).toNatClampNeg) 19 9 0) 19 1 1) 52 1 0) 53 1 1) 54 1 0) 34 24 (0 : Int32).toNatClampNeg (0 : Int32).toNatClampNeg (6 : Int32).toNatClampNeg) 19 9 0) 19 1 0) 52 0 0) 53 0 1) 54 0 0) 0 7 2) 24 34 (0 : Int32).toNatClampNeg (0 : Int32).toNatClampNeg (6 : Int32).toNatClampNeg) 34 6 0) 34 7 0) 1 0 0) 19 1 1) 1 1 0) 1 2 0) 1 3 0))) := by
  refine G_iload_n (pc := 0) rfl dX1_isKey_0 ?_
  refine G_if_lt (pc := 1) (tgt := 16) (by decide) dX1_isKey_1 (fun _ => ?_) (fun z => absurd (by decide) z)
  refine G_iconst (pc := 16) (v := 0) (by decide) dX1_isKey_16 ?_
  exact G_zret (pc := 17) (Nat.le_of_ble_eq_true rfl) (Nat.le_of_ble_eq_true rfl) rfl (by decide) dX1_isKey_17 ⟨rfl, rfl⟩
set_option maxRecDepth 100000 in
set_option maxHeartbeats 4000000 in
theorem s311_X1_tell  (d : Nat)   : G (d + 1) mX1_tell 0 0 0 0 0 (gent 5 [.ref 19, .int 0]) [] SH0 RF0 (gup (gup (gup (gup (gup (gup (gup (gcp (gup (gup (gup (gup (gup (gup (gcp (gup (gup (gup (gup (gup (gcp (gup (gup (gup (gup (gup (gup (gcp (gup (gup (gup (gup (gup (gup (gup (gcp (gup (gup (gup (gup I0 52 0 0) 53 0 1) 54 0 0) 52 0 (-1)) 24 34 (0 : Int32).toNatClampNeg (0 : Int32).toNatClampNeg (6 : Int32).toNatClampNeg) 34 6 0) 34 7 0) 19 1 1) 52 1 0) 53 1 1) 54 1 0) 52 1 (-1)) 24 34 (0 : Int32).toNatClampNeg (8 : Int32).toNatClampNeg (6 : Int32).toNatClampNeg) 34 14 0) 34 15 1) 19 1 2) 52 2 0) 53 2 1) 54 2 0) 34 24 (8 : Int32).toNatClampNeg (0 : Int32).toNatClampNeg (6 : Int32).toNatClampNeg) 19 9 0) 19 1 1) 52 1 0) 53 1 1) 54 1 0) 34 24 (0 : Int32).toNatClampNeg (0 : Int32).toNatClampNeg (6 : Int32).toNatClampNeg) 19 9 0) 19 1 0) 52 0 0) 53 0 1) 54 0 0) 0 7 2) 24 34 (0 : Int32).toNatClampNeg (0 : Int32).toNatClampNeg (6 : Int32).toNatClampNeg) 34 6 0) 34 7 0) 1 0 0) 19 1 1) 1 1 0) 1 2 0) 1 3 0) (fun r h => r = some (.int 0) ∧ h = (SH0, RF0, (gup (gup (gup (gup (gup (gup (gup (gcp (gup (gup (gup (gup (gup (gup (gcp (gup (gup (gup (gup (gup (gcp (gup (gup (gup (gup (gup (gup (gcp (gup (gup (gup (gup (gup (gup (gup (gcp (gup (gup (gup (gup I0 52 0 0) 53 0 1) 54 0 0) 52 0 (-1)) 24 34 (0 : Int32).toNatClampNeg (0 : Int32).toNatClampNeg (6 : Int32).toNatClampNeg) 34 6 0) 34 7 0) 19 1 1) 52 1 0) 53 1 1) 54 1 0) 52 1 (-1)) 24 34 (0 : Int32).toNatClampNeg (8 : Int32).toNatClampNeg (6 : Int32).toNatClampNeg) 34 14 0) 34 15 1) 19 1 2) 52 2 0) 53 2 1) 54 2 0) 34 24 (8 : Int32).toNatClampNeg (0 : Int32).toNatClampNeg (6 : Int32).toNatClampNeg) 19 9 0) 19 1 1) 52 1 0) 53 1 1) 54 1 0) 34 24 (0 : Int32).toNatClampNeg (0 : Int32).toNatClampNeg (6 : Int32).toNatClampNeg) 19 9 0) 19 1 0) 52 0 0) 53 0 1) 54 0 0) 0 7 2) 24 34 (0 : Int32).toNatClampNeg (0 : Int32).toNatClampNeg (6 : Int32).toNatClampNeg) 34 6 0) 34 7 0) 1 0 0) 19 1 1) 1 1 0) 1 2 0) 1 3 0))) := by
  refine G_iload_n (pc := 0) rfl dX1_tell_0 ?_
  refine G_iconst (pc := 1) (v := 1) (by decide) dX1_tell_1 ?_
  refine G_isub (pc := 2) (z := (-1)) (by decide) dX1_tell_2 ?_
  refine G_istore_n (pc := 3) (L1 := [some (.ref 19), some (.int 0), some (.int (-1)), none, none]) rfl rfl (by decide) dX1_tell_3 ?_
  refine G_aload_n (pc := 4) rfl dX1_tell_4 ?_
  refine G_iload_n (pc := 5) rfl dX1_tell_5 ?_
  refine G_callV (pc := 6) (mc1 := 0) (ms1 := 0) (ci := 1) (mj := mX1_isKey) (vs := [_]) dX1_tell_6 rfl rfl cm_X1_isKey wf_68 wf_13 wf_14 rfl (Nat.le_of_ble_eq_true rfl) (Nat.le_of_ble_eq_true rfl) (Nat.le_of_ble_eq_true rfl) (Nat.le_of_ble_eq_true rfl) (s312_X1_isKey  d  ) ?_
  rintro _ _ ⟨rfl, rfl⟩
  dsimp only [Option.toList, List.cons_append, List.nil_append]
  refine G_if_eq (pc := 9) (tgt := 20) (by decide) dX1_tell_9 (fun _ => ?_) (fun z => absurd (by decide) z)
  refine G_iconst (pc := 20) (v := 0) (by decide) dX1_tell_20 ?_
  exact G_iret (pc := 21) (Nat.le_of_ble_eq_true rfl) (Nat.le_of_ble_eq_true rfl) rfl dX1_tell_21 ⟨rfl, rfl⟩
set_option maxRecDepth 100000 in
set_option maxHeartbeats 4000000 in
theorem s313_X1_melt  (d : Nat)   : G (d) mX1_melt 0 0 0 0 0 (gent 3 [.ref 19]) [] SH0 RF0 (gup (gup (gup (gup (gup (gup (gup (gcp (gup (gup (gup (gup (gup (gup (gcp (gup (gup (gup (gup (gup (gcp (gup (gup (gup (gup (gup (gup (gcp (gup (gup (gup (gup (gup (gup (gup (gcp (gup (gup (gup (gup I0 52 0 0) 53 0 1) 54 0 0) 52 0 (-1)) 24 34 (0 : Int32).toNatClampNeg (0 : Int32).toNatClampNeg (6 : Int32).toNatClampNeg) 34 6 0) 34 7 0) 19 1 1) 52 1 0) 53 1 1) 54 1 0) 52 1 (-1)) 24 34 (0 : Int32).toNatClampNeg (8 : Int32).toNatClampNeg (6 : Int32).toNatClampNeg) 34 14 0) 34 15 1) 19 1 2) 52 2 0) 53 2 1) 54 2 0) 34 24 (8 : Int32).toNatClampNeg (0 : Int32).toNatClampNeg (6 : Int32).toNatClampNeg) 19 9 0) 19 1 1) 52 1 0) 53 1 1) 54 1 0) 34 24 (0 : Int32).toNatClampNeg (0 : Int32).toNatClampNeg (6 : Int32).toNatClampNeg) 19 9 0) 19 1 0) 52 0 0) 53 0 1) 54 0 0) 0 7 2) 24 34 (0 : Int32).toNatClampNeg (0 : Int32).toNatClampNeg (6 : Int32).toNatClampNeg) 34 6 0) 34 7 0) 1 0 0) 19 1 1) 1 1 0) 1 2 0) 1 3 0) (fun r h => r = some (.int 0) ∧ h = (SH0, RF0, (gup (gup (gup (gup (gup (gup (gup (gup (gcp (gup (gup (gup (gup (gup (gup (gcp (gup (gup (gup (gup (gup (gcp (gup (gup (gup (gup (gup (gup (gcp (gup (gup (gup (gup (gup (gup (gup (gcp (gup (gup (gup (gup I0 52 0 0) 53 0 1) 54 0 0) 52 0 (-1)) 24 34 (0 : Int32).toNatClampNeg (0 : Int32).toNatClampNeg (6 : Int32).toNatClampNeg) 34 6 0) 34 7 0) 19 1 1) 52 1 0) 53 1 1) 54 1 0) 52 1 (-1)) 24 34 (0 : Int32).toNatClampNeg (8 : Int32).toNatClampNeg (6 : Int32).toNatClampNeg) 34 14 0) 34 15 1) 19 1 2) 52 2 0) 53 2 1) 54 2 0) 34 24 (8 : Int32).toNatClampNeg (0 : Int32).toNatClampNeg (6 : Int32).toNatClampNeg) 19 9 0) 19 1 1) 52 1 0) 53 1 1) 54 1 0) 34 24 (0 : Int32).toNatClampNeg (0 : Int32).toNatClampNeg (6 : Int32).toNatClampNeg) 19 9 0) 19 1 0) 52 0 0) 53 0 1) 54 0 0) 0 7 2) 24 34 (0 : Int32).toNatClampNeg (0 : Int32).toNatClampNeg (6 : Int32).toNatClampNeg) 34 6 0) 34 7 0) 1 0 0) 19 1 1) 1 1 0) 1 2 0) 1 3 0) 19 1 2))) := by
  refine G_iconst (pc := 0) (v := 0) (by decide) dX1_melt_0 ?_
  refine G_istore_n (pc := 1) (L1 := [some (.ref 19), some (.int 0), none]) rfl rfl (by decide) dX1_melt_1 ?_
  refine G_iconst (pc := 2) (v := 0) (by decide) dX1_melt_2 ?_
  refine G_istore_n (pc := 3) (L1 := [some (.ref 19), some (.int 0), some (.int 0)]) rfl rfl (by decide) dX1_melt_3 ?_
  refine G_iload_n (pc := 4) rfl dX1_melt_4 ?_
  refine G_aload_n (pc := 5) rfl dX1_melt_5 ?_
  refine G_getI (pc := 6) (v := 0) (ci := 1) (j := 8) rfl rfl lk_RX1_72 rfl rfl dX1_melt_6 ?_
  refine G_icmp_ge (pc := 9) (tgt := 60) (by decide) dX1_melt_9 (fun _ => ?_) (fun z => absurd (by decide) z)
  refine G_aload_n (pc := 60) rfl dX1_melt_60 ?_
  refine G_dup (pc := 61) rfl dX1_melt_61 ?_
  refine G_getI (pc := 62) (v := 1) (ci := 1) (j := 1) rfl rfl lk_RX1_60 rfl rfl dX1_melt_62 ?_
  refine G_iconst (pc := 65) (v := 1) (by decide) dX1_melt_65 ?_
  refine G_iadd (pc := 66) (z := 2) (by decide) dX1_melt_66 ?_
  refine G_putI (pc := 67) (ci := 1) (j := 1) rfl lk_RX1_60 rfl rfl rfl trivial dX1_melt_67 ?_
  refine G_iload_n (pc := 70) rfl dX1_melt_70 ?_
  exact G_iret (pc := 71) (Nat.le_of_ble_eq_true rfl) (Nat.le_of_ble_eq_true rfl) rfl dX1_melt_71 ⟨rfl, rfl⟩
set_option maxRecDepth 100000 in
set_option maxHeartbeats 4000000 in
theorem s310_X1_goBy  (d : Nat)   : G (d + 2) mX1_goBy 0 0 0 0 0 (gent 2 [.ref 19, .int 0]) [] SH0 RF0 (gup (gup (gup (gup (gup (gup (gup (gcp (gup (gup (gup (gup (gup (gup (gcp (gup (gup (gup (gup (gup (gcp (gup (gup (gup (gup (gup (gup (gcp (gup (gup (gup (gup (gup (gup (gup (gcp (gup (gup (gup (gup I0 52 0 0) 53 0 1) 54 0 0) 52 0 (-1)) 24 34 (0 : Int32).toNatClampNeg (0 : Int32).toNatClampNeg (6 : Int32).toNatClampNeg) 34 6 0) 34 7 0) 19 1 1) 52 1 0) 53 1 1) 54 1 0) 52 1 (-1)) 24 34 (0 : Int32).toNatClampNeg (8 : Int32).toNatClampNeg (6 : Int32).toNatClampNeg) 34 14 0) 34 15 1) 19 1 2) 52 2 0) 53 2 1) 54 2 0) 34 24 (8 : Int32).toNatClampNeg (0 : Int32).toNatClampNeg (6 : Int32).toNatClampNeg) 19 9 0) 19 1 1) 52 1 0) 53 1 1) 54 1 0) 34 24 (0 : Int32).toNatClampNeg (0 : Int32).toNatClampNeg (6 : Int32).toNatClampNeg) 19 9 0) 19 1 0) 52 0 0) 53 0 1) 54 0 0) 0 7 2) 24 34 (0 : Int32).toNatClampNeg (0 : Int32).toNatClampNeg (6 : Int32).toNatClampNeg) 34 6 0) 34 7 0) 1 0 0) 19 1 1) 1 1 0) 1 2 0) 1 3 0) (fun r h => r = some (.int 0) ∧ h = (SH0, RF0, (gup (gup (gup (gup (gup (gup (gup (gup (gcp (gup (gup (gup (gup (gup (gup (gcp (gup (gup (gup (gup (gup (gcp (gup (gup (gup (gup (gup (gup (gcp (gup (gup (gup (gup (gup (gup (gup (gcp (gup (gup (gup (gup I0 52 0 0) 53 0 1) 54 0 0) 52 0 (-1)) 24 34 (0 : Int32).toNatClampNeg (0 : Int32).toNatClampNeg (6 : Int32).toNatClampNeg) 34 6 0) 34 7 0) 19 1 1) 52 1 0) 53 1 1) 54 1 0) 52 1 (-1)) 24 34 (0 : Int32).toNatClampNeg (8 : Int32).toNatClampNeg (6 : Int32).toNatClampNeg) 34 14 0) 34 15 1) 19 1 2) 52 2 0) 53 2 1) 54 2 0) 34 24 (8 : Int32).toNatClampNeg (0 : Int32).toNatClampNeg (6 : Int32).toNatClampNeg) 19 9 0) 19 1 1) 52 1 0) 53 1 1) 54 1 0) 34 24 (0 : Int32).toNatClampNeg (0 : Int32).toNatClampNeg (6 : Int32).toNatClampNeg) 19 9 0) 19 1 0) 52 0 0) 53 0 1) 54 0 0) 0 7 2) 24 34 (0 : Int32).toNatClampNeg (0 : Int32).toNatClampNeg (6 : Int32).toNatClampNeg) 34 6 0) 34 7 0) 1 0 0) 19 1 1) 1 1 0) 1 2 0) 1 3 0) 19 1 2))) := by
  refine G_aload_n (pc := 0) rfl dX1_goBy_0 ?_
  refine G_iload_n (pc := 1) rfl dX1_goBy_1 ?_
  refine G_callV (pc := 2) (mc1 := 0) (ms1 := 0) (ci := 1) (mj := mX1_tell) (vs := [_]) dX1_goBy_2 rfl rfl cm_X1_tell wf_69 wf_71 wf_72 rfl (Nat.le_of_ble_eq_true rfl) (Nat.le_of_ble_eq_true rfl) (Nat.le_of_ble_eq_true rfl) (Nat.le_of_ble_eq_true rfl) (s311_X1_tell  d  ) ?_
  rintro _ _ ⟨rfl, rfl⟩
  dsimp only [Option.toList, List.cons_append, List.nil_append]
  refine G_aload_n (pc := 5) rfl dX1_goBy_5 ?_
  refine G_callV (pc := 6) (mc1 := 0) (ms1 := 0) (ci := 1) (mj := mX1_melt) (vs := []) dX1_goBy_6 rfl rfl cm_X1_melt wf_73 wf_75 wf_76 rfl (Nat.le_of_ble_eq_true rfl) (Nat.le_of_ble_eq_true rfl) (Nat.le_of_ble_eq_true rfl) (Nat.le_of_ble_eq_true rfl) (s313_X1_melt  (d + 1)  ) ?_
  rintro _ _ ⟨rfl, rfl⟩
  dsimp only [Option.toList, List.cons_append, List.nil_append]
  refine G_iadd (pc := 9) (z := 0) (by decide) dX1_goBy_9 ?_
  exact G_iret (pc := 10) (Nat.le_of_ble_eq_true rfl) (Nat.le_of_ble_eq_true rfl) rfl dX1_goBy_10 ⟨rfl, rfl⟩
set_option maxRecDepth 100000 in
set_option maxHeartbeats 4000000 in
theorem s314_X1_restore  (d : Nat)   : G (d + 1) mX1_restore 0 0 0 0 0 (gent 3 [.ref 19, .int 0]) [] SH0 RF0 (gup (gup (gup (gup (gup (gup (gup (gup (gup (gup (gcp (gup (gup (gup (gup (gup (gup (gcp (gup (gup (gup (gup (gup (gcp (gup (gup (gup (gup (gup (gup (gcp (gup (gup (gup (gup (gup (gup (gup (gcp (gup (gup (gup (gup I0 52 0 0) 53 0 1) 54 0 0) 52 0 (-1)) 24 34 (0 : Int32).toNatClampNeg (0 : Int32).toNatClampNeg (6 : Int32).toNatClampNeg) 34 6 0) 34 7 0) 19 1 1) 52 1 0) 53 1 1) 54 1 0) 52 1 (-1)) 24 34 (0 : Int32).toNatClampNeg (8 : Int32).toNatClampNeg (6 : Int32).toNatClampNeg) 34 14 0) 34 15 1) 19 1 2) 52 2 0) 53 2 1) 54 2 0) 34 24 (8 : Int32).toNatClampNeg (0 : Int32).toNatClampNeg (6 : Int32).toNatClampNeg) 19 9 0) 19 1 1) 52 1 0) 53 1 1) 54 1 0) 34 24 (0 : Int32).toNatClampNeg (0 : Int32).toNatClampNeg (6 : Int32).toNatClampNeg) 19 9 0) 19 1 0) 52 0 0) 53 0 1) 54 0 0) 0 7 2) 24 34 (0 : Int32).toNatClampNeg (0 : Int32).toNatClampNeg (6 : Int32).toNatClampNeg) 34 6 0) 34 7 0) 1 0 0) 19 1 1) 1 1 0) 1 2 0) 1 3 0) 19 1 2) 1 4 0) 1 5 0) (fun r h => r = none ∧ h = (SH0, RF0, (gup (gup (gcp (gup (gup (gup (gup (gup (gup (gup (gup (gup (gup (gcp (gup (gup (gup (gup (gup (gup (gcp (gup (gup (gup (gup (gup (gcp (gup (gup (gup (gup (gup (gup (gcp (gup (gup (gup (gup (gup (gup (gup (gcp (gup (gup (gup (gup I0 52 0 0) 53 0 1) 54 0 0) 52 0 (-1)) 24 34 (0 : Int32).toNatClampNeg (0 : Int32).toNatClampNeg (6 : Int32).toNatClampNeg) 34 6 0) 34 7 0) 19 1 1) 52 1 0) 53 1 1) 54 1 0) 52 1 (-1)) 24 34 (0 : Int32).toNatClampNeg (8 : Int32).toNatClampNeg (6 : Int32).toNatClampNeg) 34 14 0) 34 15 1) 19 1 2) 52 2 0) 53 2 1) 54 2 0) 34 24 (8 : Int32).toNatClampNeg (0 : Int32).toNatClampNeg (6 : Int32).toNatClampNeg) 19 9 0) 19 1 1) 52 1 0) 53 1 1) 54 1 0) 34 24 (0 : Int32).toNatClampNeg (0 : Int32).toNatClampNeg (6 : Int32).toNatClampNeg) 19 9 0) 19 1 0) 52 0 0) 53 0 1) 54 0 0) 0 7 2) 24 34 (0 : Int32).toNatClampNeg (0 : Int32).toNatClampNeg (6 : Int32).toNatClampNeg) 34 6 0) 34 7 0) 1 0 0) 19 1 1) 1 1 0) 1 2 0) 1 3 0) 19 1 2) 1 4 0) 1 5 0) 34 24 (0 : Int32).toNatClampNeg (0 : Int32).toNatClampNeg (6 : Int32).toNatClampNeg) 19 9 0) 19 1 0))) := by
  refine G_iload_n (pc := 0) rfl dX1_restore_0 ?_
  refine G_bipush (pc := 1) (v := 8) (by decide) dX1_restore_1 ?_
  refine G_imul (pc := 3) (z := 0) (by decide) dX1_restore_3 ?_
  refine G_istore_n (pc := 4) (L1 := [some (.ref 19), some (.int 0), some (.int 0)]) rfl rfl (by decide) dX1_restore_4 ?_
  refine G_aload_n (pc := 5) rfl dX1_restore_5 ?_
  refine G_getR (pc := 6) (r := 34) (ci := 1) (j := 18) rfl lk_RX1_53 rfl rfl rfl dX1_restore_6 ?_
  refine G_iload_n (pc := 9) rfl dX1_restore_9 ?_
  refine G_aload_n (pc := 10) rfl dX1_restore_10 ?_
  refine G_getR (pc := 11) (r := 24) (ci := 1) (j := 11) rfl lk_RX1_31 rfl rfl rfl dX1_restore_11 ?_
  refine G_iconst (pc := 14) (v := 0) (by decide) dX1_restore_14 ?_
  refine G_bipush (pc := 15) (v := 6) (by decide) dX1_restore_15 ?_
  refine G_copy (pc := 17) (x := 34) (y := 24) rfl rfl (by decide) (by decide) (by decide) (by decide) (by decide) wf_50 wf_51 wf_52 wf_53 (Nat.le_of_ble_eq_true rfl) dX1_restore_17 ?_
  refine G_aload_n (pc := 20) rfl dX1_restore_20 ?_
  refine G_aload_n (pc := 21) rfl dX1_restore_21 ?_
  refine G_getR (pc := 22) (r := 34) (ci := 1) (j := 18) rfl lk_RX1_53 rfl rfl rfl dX1_restore_22 ?_
  refine G_iload_n (pc := 25) rfl dX1_restore_25 ?_
  refine G_bipush (pc := 26) (v := 6) (by decide) dX1_restore_26 ?_
  refine G_iadd (pc := 28) (z := 6) (by decide) dX1_restore_28 ?_
  refine G_iald (pc := 29) (jj := 6) (v := 0) (by decide) rfl rfl (by unfold vp_in; decide) dX1_restore_29 ?_
  refine G_putI (pc := 30) (ci := 1) (j := 9) rfl lk_RX1_75 rfl rfl rfl trivial dX1_restore_30 ?_
  refine G_aload_n (pc := 33) rfl dX1_restore_33 ?_
  refine G_aload_n (pc := 34) rfl dX1_restore_34 ?_
  refine G_getR (pc := 35) (r := 34) (ci := 1) (j := 18) rfl lk_RX1_53 rfl rfl rfl dX1_restore_35 ?_
  refine G_iload_n (pc := 38) rfl dX1_restore_38 ?_
  refine G_bipush (pc := 39) (v := 6) (by decide) dX1_restore_39 ?_
  refine G_iadd (pc := 41) (z := 6) (by decide) dX1_restore_41 ?_
  refine G_iconst (pc := 42) (v := 1) (by decide) dX1_restore_42 ?_
  refine G_iadd (pc := 43) (z := 7) (by decide) dX1_restore_43 ?_
  refine G_iald (pc := 44) (jj := 7) (v := 0) (by decide) rfl rfl (by unfold vp_in; decide) dX1_restore_44 ?_
  refine G_putI (pc := 45) (ci := 1) (j := 1) rfl lk_RX1_60 rfl rfl rfl trivial dX1_restore_45 ?_
  exact G_vret (pc := 48) (Nat.le_of_ble_eq_true rfl) (Nat.le_of_ble_eq_true rfl) rfl dX1_restore_48 ⟨rfl, rfl⟩
set_option maxRecDepth 100000 in
set_option maxHeartbeats 4000000 in
theorem s315_X1_haltsOf  (d : Nat)   : G (d + 1) mX1_haltsOf 0 0 0 0 0 (gent 2 [.ref 19, .int 3]) [] SH0 RF0 (gup (gup (gup (gup (gup (gcp (gup (gup (gup (gup (gup (gcp (gup (gup (gup (gup (gup (gcp (gup (gup (gup (gup (gup (gup (gcp (gup (gup (gup (gup (gup (gup (gup (gcp (gup (gup (gup (gup (gup (gup (gup (gcp (gup (gup (gup (gup I0 52 0 0) 53 0 1) 54 0 0) 52 0 (-1)) 24 34 (0 : Int32).toNatClampNeg (0 : Int32).toNatClampNeg (6 : Int32).toNatClampNeg) 34 6 0) 34 7 0) 19 1 1) 52 1 0) 53 1 1) 54 1 0) 52 1 (-1)) 24 34 (0 : Int32).toNatClampNeg (8 : Int32).toNatClampNeg (6 : Int32).toNatClampNeg) 34 14 0) 34 15 1) 19 1 2) 52 2 0) 53 2 1) 54 2 0) 52 2 (-1)) 24 34 (0 : Int32).toNatClampNeg (16 : Int32).toNatClampNeg (6 : Int32).toNatClampNeg) 34 22 0) 34 23 2) 19 1 3) 52 3 0) 53 3 1) 54 3 0) 34 24 (16 : Int32).toNatClampNeg (0 : Int32).toNatClampNeg (6 : Int32).toNatClampNeg) 19 9 0) 19 1 2) 52 2 0) 53 2 1) 54 2 0) 34 24 (8 : Int32).toNatClampNeg (0 : Int32).toNatClampNeg (6 : Int32).toNatClampNeg) 19 9 0) 19 1 1) 52 1 0) 53 1 1) 54 1 0) 34 24 (0 : Int32).toNatClampNeg (0 : Int32).toNatClampNeg (6 : Int32).toNatClampNeg) 19 9 0) 19 1 0) 52 0 0) 53 0 1) 54 0 0) (fun r h => r = some (.int 3) ∧ h = (SH0, RF0, (gup (gup (gup (gup (gup (gcp (gup (gup (gup (gup (gup (gcp (gup (gup (gup (gup (gup (gcp (gup (gup (gup (gup (gup (gup (gcp (gup (gup (gup (gup (gup (gup (gup (gcp (gup (gup (gup (gup (gup (gup (gup (gcp (gup (gup (gup (gup I0 52 0 0) 53 0 1) 54 0 0) 52 0 (-1)) 24 34 (0 : Int32).toNatClampNeg (0 : Int32).toNatClampNeg (6 : Int32).toNatClampNeg) 34 6 0) 34 7 0) 19 1 1) 52 1 0) 53 1 1) 54 1 0) 52 1 (-1)) 24 34 (0 : Int32).toNatClampNeg (8 : Int32).toNatClampNeg (6 : Int32).toNatClampNeg) 34 14 0) 34 15 1) 19 1 2) 52 2 0) 53 2 1) 54 2 0) 52 2 (-1)) 24 34 (0 : Int32).toNatClampNeg (16 : Int32).toNatClampNeg (6 : Int32).toNatClampNeg) 34 22 0) 34 23 2) 19 1 3) 52 3 0) 53 3 1) 54 3 0) 34 24 (16 : Int32).toNatClampNeg (0 : Int32).toNatClampNeg (6 : Int32).toNatClampNeg) 19 9 0) 19 1 2) 52 2 0) 53 2 1) 54 2 0) 34 24 (8 : Int32).toNatClampNeg (0 : Int32).toNatClampNeg (6 : Int32).toNatClampNeg) 19 9 0) 19 1 1) 52 1 0) 53 1 1) 54 1 0) 34 24 (0 : Int32).toNatClampNeg (0 : Int32).toNatClampNeg (6 : Int32).toNatClampNeg) 19 9 0) 19 1 0) 52 0 0) 53 0 1) 54 0 0))) := by
  refine G_iconst (pc := 0) (v := 0) (by decide) dX1_haltsOf_0 ?_
  refine G_iload_n (pc := 1) rfl dX1_haltsOf_1 ?_
  refine G_aload_n (pc := 2) rfl dX1_haltsOf_2 ?_
  refine G_getI (pc := 3) (v := 12) (ci := 1) (j := 2) rfl rfl lk_RX1_9 rfl rfl dX1_haltsOf_3 ?_
  refine G_aload_n (pc := 6) rfl dX1_haltsOf_6 ?_
  refine G_getI (pc := 7) (v := 0) (ci := 1) (j := 1) rfl rfl lk_RX1_60 rfl rfl dX1_haltsOf_7 ?_
  refine G_isub (pc := 10) (z := 12) (by decide) dX1_haltsOf_10 ?_
  refine G_min (pc := 11) dX1_haltsOf_11 wf_143 wf_144 wf_145 wf_146 (Nat.le_of_ble_eq_true rfl) (Nat.le_of_ble_eq_true rfl) (Nat.le_of_ble_eq_true rfl) ?_
  rw [show (if (12 : Int32) < 3 then (12 : Int32) else 3) = 3 by decide]
  refine G_max (pc := 14) dX1_haltsOf_14 wf_147 wf_148 wf_145 wf_149 (Nat.le_of_ble_eq_true rfl) (Nat.le_of_ble_eq_true rfl) (Nat.le_of_ble_eq_true rfl) ?_
  rw [show (if (0 : Int32) < 3 then (3 : Int32) else 0) = 3 by decide]
  exact G_iret (pc := 17) (Nat.le_of_ble_eq_true rfl) (Nat.le_of_ble_eq_true rfl) rfl dX1_haltsOf_17 ⟨rfl, rfl⟩
set_option maxRecDepth 100000 in
set_option maxHeartbeats 4000000 in
theorem s316_X1_save  (d : Nat)   : G (d + 1) mX1_save 0 0 0 0 0 (gent 3 [.ref 19, .int 0]) [] SH0 RF0 (gup (gup (gup (gup (gup (gup (gcp (gup (gup (gup (gup (gup (gcp (gup (gup (gup (gup (gup (gcp (gup (gup (gup (gup (gup (gup (gcp (gup (gup (gup (gup (gup (gup (gup (gcp (gup (gup (gup (gup (gup (gup (gup (gcp (gup (gup (gup (gup I0 52 0 0) 53 0 1) 54 0 0) 52 0 (-1)) 24 34 (0 : Int32).toNatClampNeg (0 : Int32).toNatClampNeg (6 : Int32).toNatClampNeg) 34 6 0) 34 7 0) 19 1 1) 52 1 0) 53 1 1) 54 1 0) 52 1 (-1)) 24 34 (0 : Int32).toNatClampNeg (8 : Int32).toNatClampNeg (6 : Int32).toNatClampNeg) 34 14 0) 34 15 1) 19 1 2) 52 2 0) 53 2 1) 54 2 0) 52 2 (-1)) 24 34 (0 : Int32).toNatClampNeg (16 : Int32).toNatClampNeg (6 : Int32).toNatClampNeg) 34 22 0) 34 23 2) 19 1 3) 52 3 0) 53 3 1) 54 3 0) 34 24 (16 : Int32).toNatClampNeg (0 : Int32).toNatClampNeg (6 : Int32).toNatClampNeg) 19 9 0) 19 1 2) 52 2 0) 53 2 1) 54 2 0) 34 24 (8 : Int32).toNatClampNeg (0 : Int32).toNatClampNeg (6 : Int32).toNatClampNeg) 19 9 0) 19 1 1) 52 1 0) 53 1 1) 54 1 0) 34 24 (0 : Int32).toNatClampNeg (0 : Int32).toNatClampNeg (6 : Int32).toNatClampNeg) 19 9 0) 19 1 0) 52 0 0) 53 0 1) 54 0 0) 0 7 3) (fun r h => r = none ∧ h = (SH0, RF0, (gup (gup (gcp (gup (gup (gup (gup (gup (gup (gcp (gup (gup (gup (gup (gup (gcp (gup (gup (gup (gup (gup (gcp (gup (gup (gup (gup (gup (gup (gcp (gup (gup (gup (gup (gup (gup (gup (gcp (gup (gup (gup (gup (gup (gup (gup (gcp (gup (gup (gup (gup I0 52 0 0) 53 0 1) 54 0 0) 52 0 (-1)) 24 34 (0 : Int32).toNatClampNeg (0 : Int32).toNatClampNeg (6 : Int32).toNatClampNeg) 34 6 0) 34 7 0) 19 1 1) 52 1 0) 53 1 1) 54 1 0) 52 1 (-1)) 24 34 (0 : Int32).toNatClampNeg (8 : Int32).toNatClampNeg (6 : Int32).toNatClampNeg) 34 14 0) 34 15 1) 19 1 2) 52 2 0) 53 2 1) 54 2 0) 52 2 (-1)) 24 34 (0 : Int32).toNatClampNeg (16 : Int32).toNatClampNeg (6 : Int32).toNatClampNeg) 34 22 0) 34 23 2) 19 1 3) 52 3 0) 53 3 1) 54 3 0) 34 24 (16 : Int32).toNatClampNeg (0 : Int32).toNatClampNeg (6 : Int32).toNatClampNeg) 19 9 0) 19 1 2) 52 2 0) 53 2 1) 54 2 0) 34 24 (8 : Int32).toNatClampNeg (0 : Int32).toNatClampNeg (6 : Int32).toNatClampNeg) 19 9 0) 19 1 1) 52 1 0) 53 1 1) 54 1 0) 34 24 (0 : Int32).toNatClampNeg (0 : Int32).toNatClampNeg (6 : Int32).toNatClampNeg) 19 9 0) 19 1 0) 52 0 0) 53 0 1) 54 0 0) 0 7 3) 24 34 (0 : Int32).toNatClampNeg (0 : Int32).toNatClampNeg (6 : Int32).toNatClampNeg) 34 6 0) 34 7 0))) := by
  refine G_iload_n (pc := 0) rfl dX1_save_0 ?_
  refine G_bipush (pc := 1) (v := 8) (by decide) dX1_save_1 ?_
  refine G_imul (pc := 3) (z := 0) (by decide) dX1_save_3 ?_
  refine G_istore_n (pc := 4) (L1 := [some (.ref 19), some (.int 0), some (.int 0)]) rfl rfl (by decide) dX1_save_4 ?_
  refine G_aload_n (pc := 5) rfl dX1_save_5 ?_
  refine G_getR (pc := 6) (r := 24) (ci := 1) (j := 11) rfl lk_RX1_31 rfl rfl rfl dX1_save_6 ?_
  refine G_iconst (pc := 9) (v := 0) (by decide) dX1_save_9 ?_
  refine G_aload_n (pc := 10) rfl dX1_save_10 ?_
  refine G_getR (pc := 11) (r := 34) (ci := 1) (j := 18) rfl lk_RX1_53 rfl rfl rfl dX1_save_11 ?_
  refine G_iload_n (pc := 14) rfl dX1_save_14 ?_
  refine G_bipush (pc := 15) (v := 6) (by decide) dX1_save_15 ?_
  refine G_copy (pc := 17) (x := 24) (y := 34) rfl rfl (by decide) (by decide) (by decide) (by decide) (by decide) wf_50 wf_51 wf_52 wf_53 (Nat.le_of_ble_eq_true rfl) dX1_save_17 ?_
  refine G_aload_n (pc := 20) rfl dX1_save_20 ?_
  refine G_getR (pc := 21) (r := 34) (ci := 1) (j := 18) rfl lk_RX1_53 rfl rfl rfl dX1_save_21 ?_
  refine G_iload_n (pc := 24) rfl dX1_save_24 ?_
  refine G_bipush (pc := 25) (v := 6) (by decide) dX1_save_25 ?_
  refine G_iadd (pc := 27) (z := 6) (by decide) dX1_save_27 ?_
  refine G_aload_n (pc := 28) rfl dX1_save_28 ?_
  refine G_getI (pc := 29) (v := 0) (ci := 1) (j := 9) rfl rfl lk_RX1_75 rfl rfl dX1_save_29 ?_
  refine G_iast (pc := 32) (jj := 6) (by decide) rfl (by unfold vp_in; decide) dX1_save_32 ?_
  refine G_aload_n (pc := 33) rfl dX1_save_33 ?_
  refine G_getR (pc := 34) (r := 34) (ci := 1) (j := 18) rfl lk_RX1_53 rfl rfl rfl dX1_save_34 ?_
  refine G_iload_n (pc := 37) rfl dX1_save_37 ?_
  refine G_bipush (pc := 38) (v := 6) (by decide) dX1_save_38 ?_
  refine G_iadd (pc := 40) (z := 6) (by decide) dX1_save_40 ?_
  refine G_iconst (pc := 41) (v := 1) (by decide) dX1_save_41 ?_
  refine G_iadd (pc := 42) (z := 7) (by decide) dX1_save_42 ?_
  refine G_aload_n (pc := 43) rfl dX1_save_43 ?_
  refine G_getI (pc := 44) (v := 0) (ci := 1) (j := 1) rfl rfl lk_RX1_60 rfl rfl dX1_save_44 ?_
  refine G_iast (pc := 47) (jj := 7) (by decide) rfl (by unfold vp_in; decide) dX1_save_47 ?_
  exact G_vret (pc := 48) (Nat.le_of_ble_eq_true rfl) (Nat.le_of_ble_eq_true rfl) rfl dX1_save_48 ⟨rfl, rfl⟩
set_option maxRecDepth 100000 in
set_option maxHeartbeats 4000000 in
theorem s319_X1_isKey  (d : Nat)   : G (d) mX1_isKey 0 0 0 0 0 (gent 2 [.ref 19, .int (-1)]) [] SH0 RF0 (gup (gup (gup (gcp (gup (gup (gup (gup (gup (gup (gcp (gup (gup (gup (gup (gup (gcp (gup (gup (gup (gup (gup (gcp (gup (gup (gup (gup (gup (gup (gcp (gup (gup (gup (gup (gup (gup (gup (gcp (gup (gup (gup (gup (gup (gup (gup (gcp (gup (gup (gup (gup I0 52 0 0) 53 0 1) 54 0 0) 52 0 (-1)) 24 34 (0 : Int32).toNatClampNeg (0 : Int32).toNatClampNeg (6 : Int32).toNatClampNeg) 34 6 0) 34 7 0) 19 1 1) 52 1 0) 53 1 1) 54 1 0) 52 1 (-1)) 24 34 (0 : Int32).toNatClampNeg (8 : Int32).toNatClampNeg (6 : Int32).toNatClampNeg) 34 14 0) 34 15 1) 19 1 2) 52 2 0) 53 2 1) 54 2 0) 52 2 (-1)) 24 34 (0 : Int32).toNatClampNeg (16 : Int32).toNatClampNeg (6 : Int32).toNatClampNeg) 34 22 0) 34 23 2) 19 1 3) 52 3 0) 53 3 1) 54 3 0) 34 24 (16 : Int32).toNatClampNeg (0 : Int32).toNatClampNeg (6 : Int32).toNatClampNeg) 19 9 0) 19 1 2) 52 2 0) 53 2 1) 54 2 0) 34 24 (8 : Int32).toNatClampNeg (0 : Int32).toNatClampNeg (6 : Int32).toNatClampNeg) 19 9 0) 19 1 1) 52 1 0) 53 1 1) 54 1 0) 34 24 (0 : Int32).toNatClampNeg (0 : Int32).toNatClampNeg (6 : Int32).toNatClampNeg) 19 9 0) 19 1 0) 52 0 0) 53 0 1) 54 0 0) 0 7 3) 24 34 (0 : Int32).toNatClampNeg (0 : Int32).toNatClampNeg (6 : Int32).toNatClampNeg) 34 6 0) 34 7 0) 1 0 0) (fun r h => r = some (.int 0) ∧ h = (SH0, RF0, (gup (gup (gup (gcp (gup (gup (gup (gup (gup (gup (gcp (gup (gup (gup (gup (gup (gcp (gup (gup (gup (gup (gup (gcp (gup (gup (gup (gup (gup (gup (gcp (gup (gup (gup (gup (gup (gup (gup (gcp (gup (gup (gup (gup (gup (gup (gup (gcp (gup (gup (gup (gup I0 52 0 0) 53 0 1) 54 0 0) 52 0 (-1)) 24 34 (0 : Int32).toNatClampNeg (0 : Int32).toNatClampNeg (6 : Int32).toNatClampNeg) 34 6 0) 34 7 0) 19 1 1) 52 1 0) 53 1 1) 54 1 0) 52 1 (-1)) 24 34 (0 : Int32).toNatClampNeg (8 : Int32).toNatClampNeg (6 : Int32).toNatClampNeg) 34 14 0) 34 15 1) 19 1 2) 52 2 0) 53 2 1) 54 2 0) 52 2 (-1)) 24 34 (0 : Int32).toNatClampNeg (16 : Int32).toNatClampNeg (6 : Int32).toNatClampNeg) 34 22 0) 34 23 2) 19 1 3) 52 3 0) 53 3 1) 54 3 0) 34 24 (16 : Int32).toNatClampNeg (0 : Int32).toNatClampNeg (6 : Int32).toNatClampNeg) 19 9 0) 19 1 2) 52 2 0) 53 2 1) 54 2 0) 34 24 (8 : Int32).toNatClampNeg (0 : Int32).toNatClampNeg (6 : Int32).toNatClampNeg) 19 9 0) 19 1 1) 52 1 0) 53 1 1) 54 1 0) 34 24 (0 : Int32).toNatClampNeg (0 : Int32).toNatClampNeg (6 : Int32).toNatClampNeg) 19 9 0) 19 1 0) 52 0 0) 53 0 1) 54 0 0) 0 7 3) 24 34 (0 : Int32).toNatClampNeg (0 : Int32).toNatClampNeg (6 : Int32).toNatClampNeg) 34 6 0) 34 7 0) 1 0 0))) := by
  refine G_iload_n (pc := 0) rfl dX1_isKey_0 ?_
  refine G_if_lt (pc := 1) (tgt := 16) (by decide) dX1_isKey_1 (fun _ => ?_) (fun z => absurd (by decide) z)
  refine G_iconst (pc := 16) (v := 0) (by decide) dX1_isKey_16 ?_
  exact G_zret (pc := 17) (Nat.le_of_ble_eq_true rfl) (Nat.le_of_ble_eq_true rfl) rfl (by decide) dX1_isKey_17 ⟨rfl, rfl⟩
set_option maxRecDepth 100000 in
set_option maxHeartbeats 4000000 in
theorem s318_X1_tell  (d : Nat)   : G (d + 1) mX1_tell 0 0 0 0 0 (gent 5 [.ref 19, .int 0]) [] SH0 RF0 (gup (gup (gup (gcp (gup (gup (gup (gup (gup (gup (gcp (gup (gup (gup (gup (gup (gcp (gup (gup (gup (gup (gup (gcp (gup (gup (gup (gup (gup (gup (gcp (gup (gup (gup (gup (gup (gup (gup (gcp (gup (gup (gup (gup (gup (gup (gup (gcp (gup (gup (gup (gup I0 52 0 0) 53 0 1) 54 0 0) 52 0 (-1)) 24 34 (0 : Int32).toNatClampNeg (0 : Int32).toNatClampNeg (6 : Int32).toNatClampNeg) 34 6 0) 34 7 0) 19 1 1) 52 1 0) 53 1 1) 54 1 0) 52 1 (-1)) 24 34 (0 : Int32).toNatClampNeg (8 : Int32).toNatClampNeg (6 : Int32).toNatClampNeg) 34 14 0) 34 15 1) 19 1 2) 52 2 0) 53 2 1) 54 2 0) 52 2 (-1)) 24 34 (0 : Int32).toNatClampNeg (16 : Int32).toNatClampNeg (6 : Int32).toNatClampNeg) 34 22 0) 34 23 2) 19 1 3) 52 3 0) 53 3 1) 54 3 0) 34 24 (16 : Int32).toNatClampNeg (0 : Int32).toNatClampNeg (6 : Int32).toNatClampNeg) 19 9 0) 19 1 2) 52 2 0) 53 2 1) 54 2 0) 34 24 (8 : Int32).toNatClampNeg (0 : Int32).toNatClampNeg (6 : Int32).toNatClampNeg) 19 9 0) 19 1 1) 52 1 0) 53 1 1) 54 1 0) 34 24 (0 : Int32).toNatClampNeg (0 : Int32).toNatClampNeg (6 : Int32).toNatClampNeg) 19 9 0) 19 1 0) 52 0 0) 53 0 1) 54 0 0) 0 7 3) 24 34 (0 : Int32).toNatClampNeg (0 : Int32).toNatClampNeg (6 : Int32).toNatClampNeg) 34 6 0) 34 7 0) 1 0 0) (fun r h => r = some (.int 0) ∧ h = (SH0, RF0, (gup (gup (gup (gcp (gup (gup (gup (gup (gup (gup (gcp (gup (gup (gup (gup (gup (gcp (gup (gup (gup (gup (gup (gcp (gup (gup (gup (gup (gup (gup (gcp (gup (gup (gup (gup (gup (gup (gup (gcp (gup (gup (gup (gup (gup (gup (gup (gcp (gup (gup (gup (gup I0 52 0 0) 53 0 1) 54 0 0) 52 0 (-1)) 24 34 (0 : Int32).toNatClampNeg (0 : Int32).toNatClampNeg (6 : Int32).toNatClampNeg) 34 6 0) 34 7 0) 19 1 1) 52 1 0) 53 1 1) 54 1 0) 52 1 (-1)) 24 34 (0 : Int32).toNatClampNeg (8 : Int32).toNatClampNeg (6 : Int32).toNatClampNeg) 34 14 0) 34 15 1) 19 1 2) 52 2 0) 53 2 1) 54 2 0) 52 2 (-1)) 24 34 (0 : Int32).toNatClampNeg (16 : Int32).toNatClampNeg (6 : Int32).toNatClampNeg) 34 22 0) 34 23 2) 19 1 3) 52 3 0) 53 3 1) 54 3 0) 34 24 (16 : Int32).toNatClampNeg (0 : Int32).toNatClampNeg (6 : Int32).toNatClampNeg) 19 9 0) 19 1 2) 52 2 0) 53 2 1) 54 2 0) 34 24 (8 : Int32).toNatClampNeg (0 : Int32).toNatClampNeg (6 : Int32).toNatClampNeg) 19 9 0) 19 1 1) 52 1 0) 53 1 1) 54 1 0) 34 24 (0 : Int32).toNatClampNeg (0 : Int32).toNatClampNeg (6 : Int32).toNatClampNeg) 19 9 0) 19 1 0) 52 0 0) 53 0 1) 54 0 0) 0 7 3) 24 34 (0 : Int32).toNatClampNeg (0 : Int32).toNatClampNeg (6 : Int32).toNatClampNeg) 34 6 0) 34 7 0) 1 0 0))) := by
  refine G_iload_n (pc := 0) rfl dX1_tell_0 ?_
  refine G_iconst (pc := 1) (v := 1) (by decide) dX1_tell_1 ?_
  refine G_isub (pc := 2) (z := (-1)) (by decide) dX1_tell_2 ?_
  refine G_istore_n (pc := 3) (L1 := [some (.ref 19), some (.int 0), some (.int (-1)), none, none]) rfl rfl (by decide) dX1_tell_3 ?_
  refine G_aload_n (pc := 4) rfl dX1_tell_4 ?_
  refine G_iload_n (pc := 5) rfl dX1_tell_5 ?_
  refine G_callV (pc := 6) (mc1 := 0) (ms1 := 0) (ci := 1) (mj := mX1_isKey) (vs := [_]) dX1_tell_6 rfl rfl cm_X1_isKey wf_68 wf_13 wf_14 rfl (Nat.le_of_ble_eq_true rfl) (Nat.le_of_ble_eq_true rfl) (Nat.le_of_ble_eq_true rfl) (Nat.le_of_ble_eq_true rfl) (s319_X1_isKey  d  ) ?_
  rintro _ _ ⟨rfl, rfl⟩
  dsimp only [Option.toList, List.cons_append, List.nil_append]
  refine G_if_eq (pc := 9) (tgt := 20) (by decide) dX1_tell_9 (fun _ => ?_) (fun z => absurd (by decide) z)
  refine G_iconst (pc := 20) (v := 0) (by decide) dX1_tell_20 ?_
  exact G_iret (pc := 21) (Nat.le_of_ble_eq_true rfl) (Nat.le_of_ble_eq_true rfl) rfl dX1_tell_21 ⟨rfl, rfl⟩
