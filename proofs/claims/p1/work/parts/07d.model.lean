set_option maxRecDepth 100000 in
set_option maxHeartbeats 4000000 in
theorem s10226_X12_those (J : gI) (d : Nat)   : G (d) mX12_those 0 0 0 0 0 (gent 4 [.ref 67, .int 4]) [] SH0 RF0 (gup (gup (gup (gup (gcp (gup (gcp (gcp (gup (gup (gup (gup (gup (gup (gup (gup (gup (gup (gcp (gup (gup (gup (gcp (gup (gup (gup (gup (gmx J) 67 19 (-1)) 67 20 0) 67 21 5) 67 22 0) 68 76 0 0 65) 77 0 0) 68 0 1) 68 2 0) 68 76 0 65 65) 77 1 0) 68 0 2) 68 2 0) 67 20 0) 67 19 0) 78 0 0) 78 1 0) 67 20 1) 67 21 0) 67 22 0) 76 68 65 0 65) 76 68 0 0 65) 67 27 2) 68 70 0 0 65) 81 0 0) 68 0 1) 68 2 0) 81 1 0) (fun r h => r = some (.int 0) ∧ h = (SH0, RF0, (gup (gup (gup (gup (gcp (gup (gcp (gcp (gup (gup (gup (gup (gup (gup (gup (gup (gup (gup (gcp (gup (gup (gup (gcp (gup (gup (gup (gup (gmx J) 67 19 (-1)) 67 20 0) 67 21 5) 67 22 0) 68 76 0 0 65) 77 0 0) 68 0 1) 68 2 0) 68 76 0 65 65) 77 1 0) 68 0 2) 68 2 0) 67 20 0) 67 19 0) 78 0 0) 78 1 0) 67 20 1) 67 21 0) 67 22 0) 76 68 65 0 65) 76 68 0 0 65) 67 27 2) 68 70 0 0 65) 81 0 0) 68 0 1) 68 2 0) 81 1 0))) := by
  refine G_iconst (pc := 0) (v := 0) (by decide) dX12_those_0 ?_
  refine G_istore_n (pc := 1) (L1 := [some (.ref 67), some (.int 4), some (.int 0), none]) rfl rfl (by decide) dX12_those_1 ?_
  refine G_iconst (pc := 2) (v := 0) (by decide) dX12_those_2 ?_
  refine G_istore_n (pc := 3) (L1 := [some (.ref 67), some (.int 4), some (.int 0), some (.int 0)]) rfl rfl (by decide) dX12_those_3 ?_
  refine G_iload_n (pc := 4) rfl dX12_those_4 ?_
  refine G_aload_n (pc := 5) rfl dX12_those_5 ?_
  refine G_getR (pc := 6) (r := 68) (ci := 12) (j := 0) rfl lk_RX12_9 rfl rfl rfl dX12_those_6 ?_
  refine G_iconst (pc := 9) (v := 4) (by decide) dX12_those_9 ?_
  refine G_iald (pc := 10) (jj := 4) (v := 0) (by decide) rfl rfl (by unfold vp_in; decide) dX12_those_10 ?_
  refine G_icmp_ge (pc := 11) (tgt := 39) (by decide) dX12_those_11 (fun _ => ?_) (fun z => absurd (by decide) z)
  refine G_iload_n (pc := 39) rfl dX12_those_39 ?_
  exact G_iret (pc := 40) (Nat.le_of_ble_eq_true rfl) (Nat.le_of_ble_eq_true rfl) rfl dX12_those_40 ⟨rfl, rfl⟩
set_option maxRecDepth 100000 in
set_option maxHeartbeats 4000000 in
theorem s10227_X12_goesBy (J : gI) (d : Nat)   : G (d) mX12_goesBy 0 0 0 0 0 (gent 5 [.ref 67, .int 0]) [] SH0 RF0 (gup (gup (gup (gup (gup (gup (gcp (gup (gcp (gcp (gup (gup (gup (gup (gup (gup (gup (gup (gup (gup (gcp (gup (gup (gup (gcp (gup (gup (gup (gup (gmx J) 67 19 (-1)) 67 20 0) 67 21 5) 67 22 0) 68 76 0 0 65) 77 0 0) 68 0 1) 68 2 0) 68 76 0 65 65) 77 1 0) 68 0 2) 68 2 0) 67 20 0) 67 19 0) 78 0 0) 78 1 0) 67 20 1) 67 21 0) 67 22 0) 76 68 65 0 65) 76 68 0 0 65) 67 27 2) 68 70 0 0 65) 81 0 0) 68 0 1) 68 2 0) 81 1 0) 81 2 0) 81 3 0) (fun r h => r = some (.int 0) ∧ h = (SH0, RF0, (gup (gup (gup (gup (gup (gup (gup (gup (gcp (gup (gcp (gcp (gup (gup (gup (gup (gup (gup (gup (gup (gup (gup (gcp (gup (gup (gup (gcp (gup (gup (gup (gup (gmx J) 67 19 (-1)) 67 20 0) 67 21 5) 67 22 0) 68 76 0 0 65) 77 0 0) 68 0 1) 68 2 0) 68 76 0 65 65) 77 1 0) 68 0 2) 68 2 0) 67 20 0) 67 19 0) 78 0 0) 78 1 0) 67 20 1) 67 21 0) 67 22 0) 76 68 65 0 65) 76 68 0 0 65) 67 27 2) 68 70 0 0 65) 81 0 0) 68 0 1) 68 2 0) 81 1 0) 81 2 0) 81 3 0) 68 0 2) 68 2 0))) := by
  refine G_iload_n (pc := 0) rfl dX12_goesBy_0 ?_
  refine G_if_ge (pc := 1) (tgt := 11) (by decide) dX12_goesBy_1 (fun _ => ?_) (fun z => absurd (by decide) z)
  refine G_iload_n (pc := 11) rfl dX12_goesBy_11 ?_
  refine G_iconst (pc := 12) (v := 1) (by decide) dX12_goesBy_12 ?_
  refine G_isub (pc := 13) (z := (-1)) (by decide) dX12_goesBy_13 ?_
  refine G_istore_n (pc := 14) (L1 := [some (.ref 67), some (.int 0), some (.int (-1)), none, none]) rfl rfl (by decide) dX12_goesBy_14 ?_
  refine G_iload_n (pc := 15) rfl dX12_goesBy_15 ?_
  refine G_if_lt (pc := 16) (tgt := 27) (by decide) dX12_goesBy_16 (fun _ => ?_) (fun z => absurd (by decide) z)
  refine G_iconst (pc := 27) (v := 0) (by decide) dX12_goesBy_27 ?_
  refine G_istore_n (pc := 28) (L1 := [some (.ref 67), some (.int 0), some (.int (-1)), some (.int 0), none]) rfl rfl (by decide) dX12_goesBy_28 ?_
  refine G_iconst (pc := 29) (v := 0) (by decide) dX12_goesBy_29 ?_
  refine G_istore (pc := 30) (L1 := [some (.ref 67), some (.int 0), some (.int (-1)), some (.int 0), some (.int 0)]) rfl rfl (by decide) dX12_goesBy_30 ?_
  refine G_iload (pc := 32) rfl dX12_goesBy_32 ?_
  refine G_aload_n (pc := 34) rfl dX12_goesBy_34 ?_
  refine G_getR (pc := 35) (r := 68) (ci := 12) (j := 0) rfl lk_RX12_9 rfl rfl rfl dX12_goesBy_35 ?_
  refine G_iconst (pc := 38) (v := 4) (by decide) dX12_goesBy_38 ?_
  refine G_iald (pc := 39) (jj := 4) (v := 0) (by decide) rfl rfl (by unfold vp_in; decide) dX12_goesBy_39 ?_
  refine G_icmp_ge (pc := 40) (tgt := 104) (by decide) dX12_goesBy_40 (fun _ => ?_) (fun z => absurd (by decide) z)
  refine G_aload_n (pc := 104) rfl dX12_goesBy_104 ?_
  refine G_getR (pc := 105) (r := 68) (ci := 12) (j := 0) rfl lk_RX12_9 rfl rfl rfl dX12_goesBy_105 ?_
  refine G_iconst (pc := 108) (v := 0) (by decide) dX12_goesBy_108 ?_
  refine G_dup2 (pc := 109) rfl rfl dX12_goesBy_109 ?_
  refine G_iald (pc := 110) (jj := 0) (v := 1) (by decide) rfl rfl (by unfold vp_in; decide) dX12_goesBy_110 ?_
  refine G_iconst (pc := 111) (v := 1) (by decide) dX12_goesBy_111 ?_
  refine G_iadd (pc := 112) (z := 2) (by decide) dX12_goesBy_112 ?_
  refine G_iast (pc := 113) (jj := 0) (by decide) rfl (by unfold vp_in; decide) dX12_goesBy_113 ?_
  refine G_aload_n (pc := 114) rfl dX12_goesBy_114 ?_
  refine G_getR (pc := 115) (r := 68) (ci := 12) (j := 0) rfl lk_RX12_9 rfl rfl rfl dX12_goesBy_115 ?_
  refine G_iconst (pc := 118) (v := 2) (by decide) dX12_goesBy_118 ?_
  refine G_dup2 (pc := 119) rfl rfl dX12_goesBy_119 ?_
  refine G_iald (pc := 120) (jj := 2) (v := 0) (by decide) rfl rfl (by unfold vp_in; decide) dX12_goesBy_120 ?_
  refine G_iload_n (pc := 121) rfl dX12_goesBy_121 ?_
  refine G_iadd (pc := 122) (z := 0) (by decide) dX12_goesBy_122 ?_
  refine G_iast (pc := 123) (jj := 2) (by decide) rfl (by unfold vp_in; decide) dX12_goesBy_123 ?_
  refine G_iload_n (pc := 124) rfl dX12_goesBy_124 ?_
  exact G_iret (pc := 125) (Nat.le_of_ble_eq_true rfl) (Nat.le_of_ble_eq_true rfl) rfl dX12_goesBy_125 ⟨rfl, rfl⟩
set_option maxRecDepth 100000 in
set_option maxHeartbeats 4000000 in
theorem s10228_X12_those (J : gI) (d : Nat)   : G (d) mX12_those 0 0 0 0 0 (gent 4 [.ref 67, .int 4]) [] SH0 RF0 (gup (gup (gup (gup (gup (gup (gup (gup (gup (gcp (gup (gcp (gcp (gup (gup (gup (gup (gup (gup (gup (gup (gup (gup (gcp (gup (gup (gup (gcp (gup (gup (gup (gup (gmx J) 67 19 (-1)) 67 20 0) 67 21 5) 67 22 0) 68 76 0 0 65) 77 0 0) 68 0 1) 68 2 0) 68 76 0 65 65) 77 1 0) 68 0 2) 68 2 0) 67 20 0) 67 19 0) 78 0 0) 78 1 0) 67 20 1) 67 21 0) 67 22 0) 76 68 65 0 65) 76 68 0 0 65) 67 27 2) 68 70 0 0 65) 81 0 0) 68 0 1) 68 2 0) 81 1 0) 81 2 0) 81 3 0) 68 0 2) 68 2 0) 81 4 0) (fun r h => r = some (.int 0) ∧ h = (SH0, RF0, (gup (gup (gup (gup (gup (gup (gup (gup (gup (gcp (gup (gcp (gcp (gup (gup (gup (gup (gup (gup (gup (gup (gup (gup (gcp (gup (gup (gup (gcp (gup (gup (gup (gup (gmx J) 67 19 (-1)) 67 20 0) 67 21 5) 67 22 0) 68 76 0 0 65) 77 0 0) 68 0 1) 68 2 0) 68 76 0 65 65) 77 1 0) 68 0 2) 68 2 0) 67 20 0) 67 19 0) 78 0 0) 78 1 0) 67 20 1) 67 21 0) 67 22 0) 76 68 65 0 65) 76 68 0 0 65) 67 27 2) 68 70 0 0 65) 81 0 0) 68 0 1) 68 2 0) 81 1 0) 81 2 0) 81 3 0) 68 0 2) 68 2 0) 81 4 0))) := by
  refine G_iconst (pc := 0) (v := 0) (by decide) dX12_those_0 ?_
  refine G_istore_n (pc := 1) (L1 := [some (.ref 67), some (.int 4), some (.int 0), none]) rfl rfl (by decide) dX12_those_1 ?_
  refine G_iconst (pc := 2) (v := 0) (by decide) dX12_those_2 ?_
  refine G_istore_n (pc := 3) (L1 := [some (.ref 67), some (.int 4), some (.int 0), some (.int 0)]) rfl rfl (by decide) dX12_those_3 ?_
  refine G_iload_n (pc := 4) rfl dX12_those_4 ?_
  refine G_aload_n (pc := 5) rfl dX12_those_5 ?_
  refine G_getR (pc := 6) (r := 68) (ci := 12) (j := 0) rfl lk_RX12_9 rfl rfl rfl dX12_those_6 ?_
  refine G_iconst (pc := 9) (v := 4) (by decide) dX12_those_9 ?_
  refine G_iald (pc := 10) (jj := 4) (v := 0) (by decide) rfl rfl (by unfold vp_in; decide) dX12_those_10 ?_
  refine G_icmp_ge (pc := 11) (tgt := 39) (by decide) dX12_those_11 (fun _ => ?_) (fun z => absurd (by decide) z)
  refine G_iload_n (pc := 39) rfl dX12_those_39 ?_
  exact G_iret (pc := 40) (Nat.le_of_ble_eq_true rfl) (Nat.le_of_ble_eq_true rfl) rfl dX12_those_40 ⟨rfl, rfl⟩
set_option maxRecDepth 100000 in
set_option maxHeartbeats 4000000 in
theorem s10229_X12_goesBy (J : gI) (d : Nat)   : G (d) mX12_goesBy 0 0 0 0 0 (gent 5 [.ref 67, .int 0]) [] SH0 RF0 (gup (gcp (gup (gcp (gcp (gcp (gup (gup (gup (gup (gup (gup (gup (gup (gup (gup (gup (gcp (gup (gup (gup (gcp (gup (gup (gup (gcp (gup (gup (gup (gup (gmx J) 67 19 (-1)) 67 20 0) 67 21 5) 67 22 0) 68 76 0 0 65) 77 0 0) 68 0 1) 68 2 0) 68 76 0 65 65) 77 1 0) 68 0 2) 68 2 0) 68 76 0 130 65) 77 2 0) 68 0 3) 68 2 0) 67 20 0) 67 19 0) 78 0 0) 78 1 0) 78 2 0) 67 20 1) 67 21 0) 67 22 0) 76 68 130 0 65) 76 68 65 0 65) 76 68 0 0 65) 67 27 3) 68 70 0 0 65) 81 0 0) (fun r h => r = some (.int 0) ∧ h = (SH0, RF0, (gup (gup (gup (gcp (gup (gcp (gcp (gcp (gup (gup (gup (gup (gup (gup (gup (gup (gup (gup (gup (gcp (gup (gup (gup (gcp (gup (gup (gup (gcp (gup (gup (gup (gup (gmx J) 67 19 (-1)) 67 20 0) 67 21 5) 67 22 0) 68 76 0 0 65) 77 0 0) 68 0 1) 68 2 0) 68 76 0 65 65) 77 1 0) 68 0 2) 68 2 0) 68 76 0 130 65) 77 2 0) 68 0 3) 68 2 0) 67 20 0) 67 19 0) 78 0 0) 78 1 0) 78 2 0) 67 20 1) 67 21 0) 67 22 0) 76 68 130 0 65) 76 68 65 0 65) 76 68 0 0 65) 67 27 3) 68 70 0 0 65) 81 0 0) 68 0 1) 68 2 0))) := by
  refine G_iload_n (pc := 0) rfl dX12_goesBy_0 ?_
  refine G_if_ge (pc := 1) (tgt := 11) (by decide) dX12_goesBy_1 (fun _ => ?_) (fun z => absurd (by decide) z)
  refine G_iload_n (pc := 11) rfl dX12_goesBy_11 ?_
  refine G_iconst (pc := 12) (v := 1) (by decide) dX12_goesBy_12 ?_
  refine G_isub (pc := 13) (z := (-1)) (by decide) dX12_goesBy_13 ?_
  refine G_istore_n (pc := 14) (L1 := [some (.ref 67), some (.int 0), some (.int (-1)), none, none]) rfl rfl (by decide) dX12_goesBy_14 ?_
  refine G_iload_n (pc := 15) rfl dX12_goesBy_15 ?_
  refine G_if_lt (pc := 16) (tgt := 27) (by decide) dX12_goesBy_16 (fun _ => ?_) (fun z => absurd (by decide) z)
  refine G_iconst (pc := 27) (v := 0) (by decide) dX12_goesBy_27 ?_
  refine G_istore_n (pc := 28) (L1 := [some (.ref 67), some (.int 0), some (.int (-1)), some (.int 0), none]) rfl rfl (by decide) dX12_goesBy_28 ?_
  refine G_iconst (pc := 29) (v := 0) (by decide) dX12_goesBy_29 ?_
  refine G_istore (pc := 30) (L1 := [some (.ref 67), some (.int 0), some (.int (-1)), some (.int 0), some (.int 0)]) rfl rfl (by decide) dX12_goesBy_30 ?_
  refine G_iload (pc := 32) rfl dX12_goesBy_32 ?_
  refine G_aload_n (pc := 34) rfl dX12_goesBy_34 ?_
  refine G_getR (pc := 35) (r := 68) (ci := 12) (j := 0) rfl lk_RX12_9 rfl rfl rfl dX12_goesBy_35 ?_
  refine G_iconst (pc := 38) (v := 4) (by decide) dX12_goesBy_38 ?_
  refine G_iald (pc := 39) (jj := 4) (v := 0) (by decide) rfl rfl (by unfold vp_in; decide) dX12_goesBy_39 ?_
  refine G_icmp_ge (pc := 40) (tgt := 104) (by decide) dX12_goesBy_40 (fun _ => ?_) (fun z => absurd (by decide) z)
  refine G_aload_n (pc := 104) rfl dX12_goesBy_104 ?_
  refine G_getR (pc := 105) (r := 68) (ci := 12) (j := 0) rfl lk_RX12_9 rfl rfl rfl dX12_goesBy_105 ?_
  refine G_iconst (pc := 108) (v := 0) (by decide) dX12_goesBy_108 ?_
  refine G_dup2 (pc := 109) rfl rfl dX12_goesBy_109 ?_
  refine G_iald (pc := 110) (jj := 0) (v := 0) (by decide) rfl rfl (by unfold vp_in; decide) dX12_goesBy_110 ?_
  refine G_iconst (pc := 111) (v := 1) (by decide) dX12_goesBy_111 ?_
  refine G_iadd (pc := 112) (z := 1) (by decide) dX12_goesBy_112 ?_
  refine G_iast (pc := 113) (jj := 0) (by decide) rfl (by unfold vp_in; decide) dX12_goesBy_113 ?_
  refine G_aload_n (pc := 114) rfl dX12_goesBy_114 ?_
  refine G_getR (pc := 115) (r := 68) (ci := 12) (j := 0) rfl lk_RX12_9 rfl rfl rfl dX12_goesBy_115 ?_
  refine G_iconst (pc := 118) (v := 2) (by decide) dX12_goesBy_118 ?_
  refine G_dup2 (pc := 119) rfl rfl dX12_goesBy_119 ?_
  refine G_iald (pc := 120) (jj := 2) (v := 0) (by decide) rfl rfl (by unfold vp_in; decide) dX12_goesBy_120 ?_
  refine G_iload_n (pc := 121) rfl dX12_goesBy_121 ?_
  refine G_iadd (pc := 122) (z := 0) (by decide) dX12_goesBy_122 ?_
  refine G_iast (pc := 123) (jj := 2) (by decide) rfl (by unfold vp_in; decide) dX12_goesBy_123 ?_
  refine G_iload_n (pc := 124) rfl dX12_goesBy_124 ?_
  exact G_iret (pc := 125) (Nat.le_of_ble_eq_true rfl) (Nat.le_of_ble_eq_true rfl) rfl dX12_goesBy_125 ⟨rfl, rfl⟩
set_option maxRecDepth 100000 in
set_option maxHeartbeats 4000000 in
theorem s10230_X12_those (J : gI) (d : Nat)   : G (d) mX12_those 0 0 0 0 0 (gent 4 [.ref 67, .int 4]) [] SH0 RF0 (gup (gup (gup (gup (gcp (gup (gcp (gcp (gcp (gup (gup (gup (gup (gup (gup (gup (gup (gup (gup (gup (gcp (gup (gup (gup (gcp (gup (gup (gup (gcp (gup (gup (gup (gup (gmx J) 67 19 (-1)) 67 20 0) 67 21 5) 67 22 0) 68 76 0 0 65) 77 0 0) 68 0 1) 68 2 0) 68 76 0 65 65) 77 1 0) 68 0 2) 68 2 0) 68 76 0 130 65) 77 2 0) 68 0 3) 68 2 0) 67 20 0) 67 19 0) 78 0 0) 78 1 0) 78 2 0) 67 20 1) 67 21 0) 67 22 0) 76 68 130 0 65) 76 68 65 0 65) 76 68 0 0 65) 67 27 3) 68 70 0 0 65) 81 0 0) 68 0 1) 68 2 0) 81 1 0) (fun r h => r = some (.int 0) ∧ h = (SH0, RF0, (gup (gup (gup (gup (gcp (gup (gcp (gcp (gcp (gup (gup (gup (gup (gup (gup (gup (gup (gup (gup (gup (gcp (gup (gup (gup (gcp (gup (gup (gup (gcp (gup (gup (gup (gup (gmx J) 67 19 (-1)) 67 20 0) 67 21 5) 67 22 0) 68 76 0 0 65) 77 0 0) 68 0 1) 68 2 0) 68 76 0 65 65) 77 1 0) 68 0 2) 68 2 0) 68 76 0 130 65) 77 2 0) 68 0 3) 68 2 0) 67 20 0) 67 19 0) 78 0 0) 78 1 0) 78 2 0) 67 20 1) 67 21 0) 67 22 0) 76 68 130 0 65) 76 68 65 0 65) 76 68 0 0 65) 67 27 3) 68 70 0 0 65) 81 0 0) 68 0 1) 68 2 0) 81 1 0))) := by
  refine G_iconst (pc := 0) (v := 0) (by decide) dX12_those_0 ?_
  refine G_istore_n (pc := 1) (L1 := [some (.ref 67), some (.int 4), some (.int 0), none]) rfl rfl (by decide) dX12_those_1 ?_
  refine G_iconst (pc := 2) (v := 0) (by decide) dX12_those_2 ?_
  refine G_istore_n (pc := 3) (L1 := [some (.ref 67), some (.int 4), some (.int 0), some (.int 0)]) rfl rfl (by decide) dX12_those_3 ?_
  refine G_iload_n (pc := 4) rfl dX12_those_4 ?_
  refine G_aload_n (pc := 5) rfl dX12_those_5 ?_
  refine G_getR (pc := 6) (r := 68) (ci := 12) (j := 0) rfl lk_RX12_9 rfl rfl rfl dX12_those_6 ?_
  refine G_iconst (pc := 9) (v := 4) (by decide) dX12_those_9 ?_
  refine G_iald (pc := 10) (jj := 4) (v := 0) (by decide) rfl rfl (by unfold vp_in; decide) dX12_those_10 ?_
  refine G_icmp_ge (pc := 11) (tgt := 39) (by decide) dX12_those_11 (fun _ => ?_) (fun z => absurd (by decide) z)
  refine G_iload_n (pc := 39) rfl dX12_those_39 ?_
  exact G_iret (pc := 40) (Nat.le_of_ble_eq_true rfl) (Nat.le_of_ble_eq_true rfl) rfl dX12_those_40 ⟨rfl, rfl⟩
set_option maxRecDepth 100000 in
set_option maxHeartbeats 4000000 in
theorem s10231_X12_goesBy (J : gI) (d : Nat)   : G (d) mX12_goesBy 0 0 0 0 0 (gent 5 [.ref 67, .int 0]) [] SH0 RF0 (gup (gup (gup (gup (gup (gup (gcp (gup (gcp (gcp (gcp (gup (gup (gup (gup (gup (gup (gup (gup (gup (gup (gup (gcp (gup (gup (gup (gcp (gup (gup (gup (gcp (gup (gup (gup (gup (gmx J) 67 19 (-1)) 67 20 0) 67 21 5) 67 22 0) 68 76 0 0 65) 77 0 0) 68 0 1) 68 2 0) 68 76 0 65 65) 77 1 0) 68 0 2) 68 2 0) 68 76 0 130 65) 77 2 0) 68 0 3) 68 2 0) 67 20 0) 67 19 0) 78 0 0) 78 1 0) 78 2 0) 67 20 1) 67 21 0) 67 22 0) 76 68 130 0 65) 76 68 65 0 65) 76 68 0 0 65) 67 27 3) 68 70 0 0 65) 81 0 0) 68 0 1) 68 2 0) 81 1 0) 81 2 0) 81 3 0) (fun r h => r = some (.int 0) ∧ h = (SH0, RF0, (gup (gup (gup (gup (gup (gup (gup (gup (gcp (gup (gcp (gcp (gcp (gup (gup (gup (gup (gup (gup (gup (gup (gup (gup (gup (gcp (gup (gup (gup (gcp (gup (gup (gup (gcp (gup (gup (gup (gup (gmx J) 67 19 (-1)) 67 20 0) 67 21 5) 67 22 0) 68 76 0 0 65) 77 0 0) 68 0 1) 68 2 0) 68 76 0 65 65) 77 1 0) 68 0 2) 68 2 0) 68 76 0 130 65) 77 2 0) 68 0 3) 68 2 0) 67 20 0) 67 19 0) 78 0 0) 78 1 0) 78 2 0) 67 20 1) 67 21 0) 67 22 0) 76 68 130 0 65) 76 68 65 0 65) 76 68 0 0 65) 67 27 3) 68 70 0 0 65) 81 0 0) 68 0 1) 68 2 0) 81 1 0) 81 2 0) 81 3 0) 68 0 2) 68 2 0))) := by
  refine G_iload_n (pc := 0) rfl dX12_goesBy_0 ?_
  refine G_if_ge (pc := 1) (tgt := 11) (by decide) dX12_goesBy_1 (fun _ => ?_) (fun z => absurd (by decide) z)
  refine G_iload_n (pc := 11) rfl dX12_goesBy_11 ?_
  refine G_iconst (pc := 12) (v := 1) (by decide) dX12_goesBy_12 ?_
  refine G_isub (pc := 13) (z := (-1)) (by decide) dX12_goesBy_13 ?_
  refine G_istore_n (pc := 14) (L1 := [some (.ref 67), some (.int 0), some (.int (-1)), none, none]) rfl rfl (by decide) dX12_goesBy_14 ?_
  refine G_iload_n (pc := 15) rfl dX12_goesBy_15 ?_
  refine G_if_lt (pc := 16) (tgt := 27) (by decide) dX12_goesBy_16 (fun _ => ?_) (fun z => absurd (by decide) z)
  refine G_iconst (pc := 27) (v := 0) (by decide) dX12_goesBy_27 ?_
  refine G_istore_n (pc := 28) (L1 := [some (.ref 67), some (.int 0), some (.int (-1)), some (.int 0), none]) rfl rfl (by decide) dX12_goesBy_28 ?_
  refine G_iconst (pc := 29) (v := 0) (by decide) dX12_goesBy_29 ?_
  refine G_istore (pc := 30) (L1 := [some (.ref 67), some (.int 0), some (.int (-1)), some (.int 0), some (.int 0)]) rfl rfl (by decide) dX12_goesBy_30 ?_
  refine G_iload (pc := 32) rfl dX12_goesBy_32 ?_
  refine G_aload_n (pc := 34) rfl dX12_goesBy_34 ?_
  refine G_getR (pc := 35) (r := 68) (ci := 12) (j := 0) rfl lk_RX12_9 rfl rfl rfl dX12_goesBy_35 ?_
  refine G_iconst (pc := 38) (v := 4) (by decide) dX12_goesBy_38 ?_
  refine G_iald (pc := 39) (jj := 4) (v := 0) (by decide) rfl rfl (by unfold vp_in; decide) dX12_goesBy_39 ?_
  refine G_icmp_ge (pc := 40) (tgt := 104) (by decide) dX12_goesBy_40 (fun _ => ?_) (fun z => absurd (by decide) z)
  refine G_aload_n (pc := 104) rfl dX12_goesBy_104 ?_
  refine G_getR (pc := 105) (r := 68) (ci := 12) (j := 0) rfl lk_RX12_9 rfl rfl rfl dX12_goesBy_105 ?_
  refine G_iconst (pc := 108) (v := 0) (by decide) dX12_goesBy_108 ?_
  refine G_dup2 (pc := 109) rfl rfl dX12_goesBy_109 ?_
  refine G_iald (pc := 110) (jj := 0) (v := 1) (by decide) rfl rfl (by unfold vp_in; decide) dX12_goesBy_110 ?_
  refine G_iconst (pc := 111) (v := 1) (by decide) dX12_goesBy_111 ?_
  refine G_iadd (pc := 112) (z := 2) (by decide) dX12_goesBy_112 ?_
  refine G_iast (pc := 113) (jj := 0) (by decide) rfl (by unfold vp_in; decide) dX12_goesBy_113 ?_
  refine G_aload_n (pc := 114) rfl dX12_goesBy_114 ?_
  refine G_getR (pc := 115) (r := 68) (ci := 12) (j := 0) rfl lk_RX12_9 rfl rfl rfl dX12_goesBy_115 ?_
  refine G_iconst (pc := 118) (v := 2) (by decide) dX12_goesBy_118 ?_
  refine G_dup2 (pc := 119) rfl rfl dX12_goesBy_119 ?_
  refine G_iald (pc := 120) (jj := 2) (v := 0) (by decide) rfl rfl (by unfold vp_in; decide) dX12_goesBy_120 ?_
  refine G_iload_n (pc := 121) rfl dX12_goesBy_121 ?_
  refine G_iadd (pc := 122) (z := 0) (by decide) dX12_goesBy_122 ?_
  refine G_iast (pc := 123) (jj := 2) (by decide) rfl (by unfold vp_in; decide) dX12_goesBy_123 ?_
  refine G_iload_n (pc := 124) rfl dX12_goesBy_124 ?_
  exact G_iret (pc := 125) (Nat.le_of_ble_eq_true rfl) (Nat.le_of_ble_eq_true rfl) rfl dX12_goesBy_125 ⟨rfl, rfl⟩
set_option maxRecDepth 100000 in
set_option maxHeartbeats 4000000 in
theorem s10232_X12_those (J : gI) (d : Nat)   : G (d) mX12_those 0 0 0 0 0 (gent 4 [.ref 67, .int 4]) [] SH0 RF0 (gup (gup (gup (gup (gup (gup (gup (gup (gup (gcp (gup (gcp (gcp (gcp (gup (gup (gup (gup (gup (gup (gup (gup (gup (gup (gup (gcp (gup (gup (gup (gcp (gup (gup (gup (gcp (gup (gup (gup (gup (gmx J) 67 19 (-1)) 67 20 0) 67 21 5) 67 22 0) 68 76 0 0 65) 77 0 0) 68 0 1) 68 2 0) 68 76 0 65 65) 77 1 0) 68 0 2) 68 2 0) 68 76 0 130 65) 77 2 0) 68 0 3) 68 2 0) 67 20 0) 67 19 0) 78 0 0) 78 1 0) 78 2 0) 67 20 1) 67 21 0) 67 22 0) 76 68 130 0 65) 76 68 65 0 65) 76 68 0 0 65) 67 27 3) 68 70 0 0 65) 81 0 0) 68 0 1) 68 2 0) 81 1 0) 81 2 0) 81 3 0) 68 0 2) 68 2 0) 81 4 0) (fun r h => r = some (.int 0) ∧ h = (SH0, RF0, (gup (gup (gup (gup (gup (gup (gup (gup (gup (gcp (gup (gcp (gcp (gcp (gup (gup (gup (gup (gup (gup (gup (gup (gup (gup (gup (gcp (gup (gup (gup (gcp (gup (gup (gup (gcp (gup (gup (gup (gup (gmx J) 67 19 (-1)) 67 20 0) 67 21 5) 67 22 0) 68 76 0 0 65) 77 0 0) 68 0 1) 68 2 0) 68 76 0 65 65) 77 1 0) 68 0 2) 68 2 0) 68 76 0 130 65) 77 2 0) 68 0 3) 68 2 0) 67 20 0) 67 19 0) 78 0 0) 78 1 0) 78 2 0) 67 20 1) 67 21 0) 67 22 0) 76 68 130 0 65) 76 68 65 0 65) 76 68 0 0 65) 67 27 3) 68 70 0 0 65) 81 0 0) 68 0 1) 68 2 0) 81 1 0) 81 2 0) 81 3 0) 68 0 2) 68 2 0) 81 4 0))) := by
  refine G_iconst (pc := 0) (v := 0) (by decide) dX12_those_0 ?_
  refine G_istore_n (pc := 1) (L1 := [some (.ref 67), some (.int 4), some (.int 0), none]) rfl rfl (by decide) dX12_those_1 ?_
  refine G_iconst (pc := 2) (v := 0) (by decide) dX12_those_2 ?_
  refine G_istore_n (pc := 3) (L1 := [some (.ref 67), some (.int 4), some (.int 0), some (.int 0)]) rfl rfl (by decide) dX12_those_3 ?_
  refine G_iload_n (pc := 4) rfl dX12_those_4 ?_
  refine G_aload_n (pc := 5) rfl dX12_those_5 ?_
  refine G_getR (pc := 6) (r := 68) (ci := 12) (j := 0) rfl lk_RX12_9 rfl rfl rfl dX12_those_6 ?_
  refine G_iconst (pc := 9) (v := 4) (by decide) dX12_those_9 ?_
  refine G_iald (pc := 10) (jj := 4) (v := 0) (by decide) rfl rfl (by unfold vp_in; decide) dX12_those_10 ?_
  refine G_icmp_ge (pc := 11) (tgt := 39) (by decide) dX12_those_11 (fun _ => ?_) (fun z => absurd (by decide) z)
  refine G_iload_n (pc := 39) rfl dX12_those_39 ?_
  exact G_iret (pc := 40) (Nat.le_of_ble_eq_true rfl) (Nat.le_of_ble_eq_true rfl) rfl dX12_those_40 ⟨rfl, rfl⟩
set_option maxRecDepth 100000 in
set_option maxHeartbeats 4000000 in
theorem s10233_X12_goesBy (J : gI) (d : Nat)   : G (d) mX12_goesBy 0 0 0 0 0 (gent 5 [.ref 67, .int 0]) [] SH0 RF0 (gup (gup (gup (gup (gup (gup (gup (gup (gup (gup (gup (gcp (gup (gcp (gcp (gcp (gup (gup (gup (gup (gup (gup (gup (gup (gup (gup (gup (gcp (gup (gup (gup (gcp (gup (gup (gup (gcp (gup (gup (gup (gup (gmx J) 67 19 (-1)) 67 20 0) 67 21 5) 67 22 0) 68 76 0 0 65) 77 0 0) 68 0 1) 68 2 0) 68 76 0 65 65) 77 1 0) 68 0 2) 68 2 0) 68 76 0 130 65) 77 2 0) 68 0 3) 68 2 0) 67 20 0) 67 19 0) 78 0 0) 78 1 0) 78 2 0) 67 20 1) 67 21 0) 67 22 0) 76 68 130 0 65) 76 68 65 0 65) 76 68 0 0 65) 67 27 3) 68 70 0 0 65) 81 0 0) 68 0 1) 68 2 0) 81 1 0) 81 2 0) 81 3 0) 68 0 2) 68 2 0) 81 4 0) 81 5 0) 81 6 0) (fun r h => r = some (.int 0) ∧ h = (SH0, RF0, (gup (gup (gup (gup (gup (gup (gup (gup (gup (gup (gup (gup (gup (gcp (gup (gcp (gcp (gcp (gup (gup (gup (gup (gup (gup (gup (gup (gup (gup (gup (gcp (gup (gup (gup (gcp (gup (gup (gup (gcp (gup (gup (gup (gup (gmx J) 67 19 (-1)) 67 20 0) 67 21 5) 67 22 0) 68 76 0 0 65) 77 0 0) 68 0 1) 68 2 0) 68 76 0 65 65) 77 1 0) 68 0 2) 68 2 0) 68 76 0 130 65) 77 2 0) 68 0 3) 68 2 0) 67 20 0) 67 19 0) 78 0 0) 78 1 0) 78 2 0) 67 20 1) 67 21 0) 67 22 0) 76 68 130 0 65) 76 68 65 0 65) 76 68 0 0 65) 67 27 3) 68 70 0 0 65) 81 0 0) 68 0 1) 68 2 0) 81 1 0) 81 2 0) 81 3 0) 68 0 2) 68 2 0) 81 4 0) 81 5 0) 81 6 0) 68 0 3) 68 2 0))) := by
  refine G_iload_n (pc := 0) rfl dX12_goesBy_0 ?_
  refine G_if_ge (pc := 1) (tgt := 11) (by decide) dX12_goesBy_1 (fun _ => ?_) (fun z => absurd (by decide) z)
  refine G_iload_n (pc := 11) rfl dX12_goesBy_11 ?_
  refine G_iconst (pc := 12) (v := 1) (by decide) dX12_goesBy_12 ?_
  refine G_isub (pc := 13) (z := (-1)) (by decide) dX12_goesBy_13 ?_
  refine G_istore_n (pc := 14) (L1 := [some (.ref 67), some (.int 0), some (.int (-1)), none, none]) rfl rfl (by decide) dX12_goesBy_14 ?_
  refine G_iload_n (pc := 15) rfl dX12_goesBy_15 ?_
  refine G_if_lt (pc := 16) (tgt := 27) (by decide) dX12_goesBy_16 (fun _ => ?_) (fun z => absurd (by decide) z)
  refine G_iconst (pc := 27) (v := 0) (by decide) dX12_goesBy_27 ?_
  refine G_istore_n (pc := 28) (L1 := [some (.ref 67), some (.int 0), some (.int (-1)), some (.int 0), none]) rfl rfl (by decide) dX12_goesBy_28 ?_
  refine G_iconst (pc := 29) (v := 0) (by decide) dX12_goesBy_29 ?_
  refine G_istore (pc := 30) (L1 := [some (.ref 67), some (.int 0), some (.int (-1)), some (.int 0), some (.int 0)]) rfl rfl (by decide) dX12_goesBy_30 ?_
  refine G_iload (pc := 32) rfl dX12_goesBy_32 ?_
  refine G_aload_n (pc := 34) rfl dX12_goesBy_34 ?_
  refine G_getR (pc := 35) (r := 68) (ci := 12) (j := 0) rfl lk_RX12_9 rfl rfl rfl dX12_goesBy_35 ?_
  refine G_iconst (pc := 38) (v := 4) (by decide) dX12_goesBy_38 ?_
  refine G_iald (pc := 39) (jj := 4) (v := 0) (by decide) rfl rfl (by unfold vp_in; decide) dX12_goesBy_39 ?_
  refine G_icmp_ge (pc := 40) (tgt := 104) (by decide) dX12_goesBy_40 (fun _ => ?_) (fun z => absurd (by decide) z)
  refine G_aload_n (pc := 104) rfl dX12_goesBy_104 ?_
  refine G_getR (pc := 105) (r := 68) (ci := 12) (j := 0) rfl lk_RX12_9 rfl rfl rfl dX12_goesBy_105 ?_
  refine G_iconst (pc := 108) (v := 0) (by decide) dX12_goesBy_108 ?_
  refine G_dup2 (pc := 109) rfl rfl dX12_goesBy_109 ?_
  refine G_iald (pc := 110) (jj := 0) (v := 2) (by decide) rfl rfl (by unfold vp_in; decide) dX12_goesBy_110 ?_
  refine G_iconst (pc := 111) (v := 1) (by decide) dX12_goesBy_111 ?_
  refine G_iadd (pc := 112) (z := 3) (by decide) dX12_goesBy_112 ?_
  refine G_iast (pc := 113) (jj := 0) (by decide) rfl (by unfold vp_in; decide) dX12_goesBy_113 ?_
  refine G_aload_n (pc := 114) rfl dX12_goesBy_114 ?_
  refine G_getR (pc := 115) (r := 68) (ci := 12) (j := 0) rfl lk_RX12_9 rfl rfl rfl dX12_goesBy_115 ?_
  refine G_iconst (pc := 118) (v := 2) (by decide) dX12_goesBy_118 ?_
  refine G_dup2 (pc := 119) rfl rfl dX12_goesBy_119 ?_
  refine G_iald (pc := 120) (jj := 2) (v := 0) (by decide) rfl rfl (by unfold vp_in; decide) dX12_goesBy_120 ?_
  refine G_iload_n (pc := 121) rfl dX12_goesBy_121 ?_
  refine G_iadd (pc := 122) (z := 0) (by decide) dX12_goesBy_122 ?_
  refine G_iast (pc := 123) (jj := 2) (by decide) rfl (by unfold vp_in; decide) dX12_goesBy_123 ?_
  refine G_iload_n (pc := 124) rfl dX12_goesBy_124 ?_
  exact G_iret (pc := 125) (Nat.le_of_ble_eq_true rfl) (Nat.le_of_ble_eq_true rfl) rfl dX12_goesBy_125 ⟨rfl, rfl⟩
set_option maxRecDepth 100000 in
set_option maxHeartbeats 4000000 in
theorem s10234_X12_those (J : gI) (d : Nat)   : G (d) mX12_those 0 0 0 0 0 (gent 4 [.ref 67, .int 4]) [] SH0 RF0 (gup (gup (gup (gup (gup (gup (gup (gup (gup (gup (gup (gup (gup (gup (gcp (gup (gcp (gcp (gcp (gup (gup (gup (gup (gup (gup (gup (gup (gup (gup (gup (gcp (gup (gup (gup (gcp (gup (gup (gup (gcp (gup (gup (gup (gup (gmx J) 67 19 (-1)) 67 20 0) 67 21 5) 67 22 0) 68 76 0 0 65) 77 0 0) 68 0 1) 68 2 0) 68 76 0 65 65) 77 1 0) 68 0 2) 68 2 0) 68 76 0 130 65) 77 2 0) 68 0 3) 68 2 0) 67 20 0) 67 19 0) 78 0 0) 78 1 0) 78 2 0) 67 20 1) 67 21 0) 67 22 0) 76 68 130 0 65) 76 68 65 0 65) 76 68 0 0 65) 67 27 3) 68 70 0 0 65) 81 0 0) 68 0 1) 68 2 0) 81 1 0) 81 2 0) 81 3 0) 68 0 2) 68 2 0) 81 4 0) 81 5 0) 81 6 0) 68 0 3) 68 2 0) 81 7 0) (fun r h => r = some (.int 0) ∧ h = (SH0, RF0, (gup (gup (gup (gup (gup (gup (gup (gup (gup (gup (gup (gup (gup (gup (gcp (gup (gcp (gcp (gcp (gup (gup (gup (gup (gup (gup (gup (gup (gup (gup (gup (gcp (gup (gup (gup (gcp (gup (gup (gup (gcp (gup (gup (gup (gup (gmx J) 67 19 (-1)) 67 20 0) 67 21 5) 67 22 0) 68 76 0 0 65) 77 0 0) 68 0 1) 68 2 0) 68 76 0 65 65) 77 1 0) 68 0 2) 68 2 0) 68 76 0 130 65) 77 2 0) 68 0 3) 68 2 0) 67 20 0) 67 19 0) 78 0 0) 78 1 0) 78 2 0) 67 20 1) 67 21 0) 67 22 0) 76 68 130 0 65) 76 68 65 0 65) 76 68 0 0 65) 67 27 3) 68 70 0 0 65) 81 0 0) 68 0 1) 68 2 0) 81 1 0) 81 2 0) 81 3 0) 68 0 2) 68 2 0) 81 4 0) 81 5 0) 81 6 0) 68 0 3) 68 2 0) 81 7 0))) := by
  refine G_iconst (pc := 0) (v := 0) (by decide) dX12_those_0 ?_
  refine G_istore_n (pc := 1) (L1 := [some (.ref 67), some (.int 4), some (.int 0), none]) rfl rfl (by decide) dX12_those_1 ?_
  refine G_iconst (pc := 2) (v := 0) (by decide) dX12_those_2 ?_
  refine G_istore_n (pc := 3) (L1 := [some (.ref 67), some (.int 4), some (.int 0), some (.int 0)]) rfl rfl (by decide) dX12_those_3 ?_
  refine G_iload_n (pc := 4) rfl dX12_those_4 ?_
  refine G_aload_n (pc := 5) rfl dX12_those_5 ?_
  refine G_getR (pc := 6) (r := 68) (ci := 12) (j := 0) rfl lk_RX12_9 rfl rfl rfl dX12_those_6 ?_
  refine G_iconst (pc := 9) (v := 4) (by decide) dX12_those_9 ?_
  refine G_iald (pc := 10) (jj := 4) (v := 0) (by decide) rfl rfl (by unfold vp_in; decide) dX12_those_10 ?_
  refine G_icmp_ge (pc := 11) (tgt := 39) (by decide) dX12_those_11 (fun _ => ?_) (fun z => absurd (by decide) z)
  refine G_iload_n (pc := 39) rfl dX12_those_39 ?_
  exact G_iret (pc := 40) (Nat.le_of_ble_eq_true rfl) (Nat.le_of_ble_eq_true rfl) rfl dX12_those_40 ⟨rfl, rfl⟩
set_option maxRecDepth 100000 in
set_option maxHeartbeats 4000000 in
theorem s10235_X12_goesBy (J : gI) (d : Nat)   : G (d) mX12_goesBy 0 0 0 0 0 (gent 5 [.ref 67, .int 0]) [] SH0 RF0 (gup (gcp (gup (gcp (gcp (gcp (gcp (gup (gup (gup (gup (gup (gup (gup (gup (gup (gup (gup (gup (gcp (gup (gup (gup (gcp (gup (gup (gup (gcp (gup (gup (gup (gcp (gup (gup (gup (gup (gmx J) 67 19 (-1)) 67 20 0) 67 21 5) 67 22 0) 68 76 0 0 65) 77 0 0) 68 0 1) 68 2 0) 68 76 0 65 65) 77 1 0) 68 0 2) 68 2 0) 68 76 0 130 65) 77 2 0) 68 0 3) 68 2 0) 68 76 0 195 65) 77 3 0) 68 0 4) 68 2 0) 67 20 0) 67 19 0) 78 0 0) 78 1 0) 78 2 0) 78 3 0) 67 20 1) 67 21 0) 67 22 0) 76 68 195 0 65) 76 68 130 0 65) 76 68 65 0 65) 76 68 0 0 65) 67 27 4) 68 70 0 0 65) 81 0 0) (fun r h => r = some (.int 0) ∧ h = (SH0, RF0, (gup (gup (gup (gcp (gup (gcp (gcp (gcp (gcp (gup (gup (gup (gup (gup (gup (gup (gup (gup (gup (gup (gup (gcp (gup (gup (gup (gcp (gup (gup (gup (gcp (gup (gup (gup (gcp (gup (gup (gup (gup (gmx J) 67 19 (-1)) 67 20 0) 67 21 5) 67 22 0) 68 76 0 0 65) 77 0 0) 68 0 1) 68 2 0) 68 76 0 65 65) 77 1 0) 68 0 2) 68 2 0) 68 76 0 130 65) 77 2 0) 68 0 3) 68 2 0) 68 76 0 195 65) 77 3 0) 68 0 4) 68 2 0) 67 20 0) 67 19 0) 78 0 0) 78 1 0) 78 2 0) 78 3 0) 67 20 1) 67 21 0) 67 22 0) 76 68 195 0 65) 76 68 130 0 65) 76 68 65 0 65) 76 68 0 0 65) 67 27 4) 68 70 0 0 65) 81 0 0) 68 0 1) 68 2 0))) := by
  refine G_iload_n (pc := 0) rfl dX12_goesBy_0 ?_
  refine G_if_ge (pc := 1) (tgt := 11) (by decide) dX12_goesBy_1 (fun _ => ?_) (fun z => absurd (by decide) z)
  refine G_iload_n (pc := 11) rfl dX12_goesBy_11 ?_
  refine G_iconst (pc := 12) (v := 1) (by decide) dX12_goesBy_12 ?_
  refine G_isub (pc := 13) (z := (-1)) (by decide) dX12_goesBy_13 ?_
  refine G_istore_n (pc := 14) (L1 := [some (.ref 67), some (.int 0), some (.int (-1)), none, none]) rfl rfl (by decide) dX12_goesBy_14 ?_
  refine G_iload_n (pc := 15) rfl dX12_goesBy_15 ?_
  refine G_if_lt (pc := 16) (tgt := 27) (by decide) dX12_goesBy_16 (fun _ => ?_) (fun z => absurd (by decide) z)
  refine G_iconst (pc := 27) (v := 0) (by decide) dX12_goesBy_27 ?_
  refine G_istore_n (pc := 28) (L1 := [some (.ref 67), some (.int 0), some (.int (-1)), some (.int 0), none]) rfl rfl (by decide) dX12_goesBy_28 ?_
  refine G_iconst (pc := 29) (v := 0) (by decide) dX12_goesBy_29 ?_
  refine G_istore (pc := 30) (L1 := [some (.ref 67), some (.int 0), some (.int (-1)), some (.int 0), some (.int 0)]) rfl rfl (by decide) dX12_goesBy_30 ?_
  refine G_iload (pc := 32) rfl dX12_goesBy_32 ?_
  refine G_aload_n (pc := 34) rfl dX12_goesBy_34 ?_
  refine G_getR (pc := 35) (r := 68) (ci := 12) (j := 0) rfl lk_RX12_9 rfl rfl rfl dX12_goesBy_35 ?_
  refine G_iconst (pc := 38) (v := 4) (by decide) dX12_goesBy_38 ?_
  refine G_iald (pc := 39) (jj := 4) (v := 0) (by decide) rfl rfl (by unfold vp_in; decide) dX12_goesBy_39 ?_
  refine G_icmp_ge (pc := 40) (tgt := 104) (by decide) dX12_goesBy_40 (fun _ => ?_) (fun z => absurd (by decide) z)
  refine G_aload_n (pc := 104) rfl dX12_goesBy_104 ?_
  refine G_getR (pc := 105) (r := 68) (ci := 12) (j := 0) rfl lk_RX12_9 rfl rfl rfl dX12_goesBy_105 ?_
  refine G_iconst (pc := 108) (v := 0) (by decide) dX12_goesBy_108 ?_
  refine G_dup2 (pc := 109) rfl rfl dX12_goesBy_109 ?_
  refine G_iald (pc := 110) (jj := 0) (v := 0) (by decide) rfl rfl (by unfold vp_in; decide) dX12_goesBy_110 ?_
  refine G_iconst (pc := 111) (v := 1) (by decide) dX12_goesBy_111 ?_
  refine G_iadd (pc := 112) (z := 1) (by decide) dX12_goesBy_112 ?_
  refine G_iast (pc := 113) (jj := 0) (by decide) rfl (by unfold vp_in; decide) dX12_goesBy_113 ?_
  refine G_aload_n (pc := 114) rfl dX12_goesBy_114 ?_
  refine G_getR (pc := 115) (r := 68) (ci := 12) (j := 0) rfl lk_RX12_9 rfl rfl rfl dX12_goesBy_115 ?_
  refine G_iconst (pc := 118) (v := 2) (by decide) dX12_goesBy_118 ?_
  refine G_dup2 (pc := 119) rfl rfl dX12_goesBy_119 ?_
  refine G_iald (pc := 120) (jj := 2) (v := 0) (by decide) rfl rfl (by unfold vp_in; decide) dX12_goesBy_120 ?_
  refine G_iload_n (pc := 121) rfl dX12_goesBy_121 ?_
  refine G_iadd (pc := 122) (z := 0) (by decide) dX12_goesBy_122 ?_
  refine G_iast (pc := 123) (jj := 2) (by decide) rfl (by unfold vp_in; decide) dX12_goesBy_123 ?_
  refine G_iload_n (pc := 124) rfl dX12_goesBy_124 ?_
  exact G_iret (pc := 125) (Nat.le_of_ble_eq_true rfl) (Nat.le_of_ble_eq_true rfl) rfl dX12_goesBy_125 ⟨rfl, rfl⟩
set_option maxRecDepth 100000 in
set_option maxHeartbeats 4000000 in
theorem s10236_X12_those (J : gI) (d : Nat)   : G (d) mX12_those 0 0 0 0 0 (gent 4 [.ref 67, .int 4]) [] SH0 RF0 (gup (gup (gup (gup (gcp (gup (gcp (gcp (gcp (gcp (gup (gup (gup (gup (gup (gup (gup (gup (gup (gup (gup (gup (gcp (gup (gup (gup (gcp (gup (gup (gup (gcp (gup (gup (gup (gcp (gup (gup (gup (gup (gmx J) 67 19 (-1)) 67 20 0) 67 21 5) 67 22 0) 68 76 0 0 65) 77 0 0) 68 0 1) 68 2 0) 68 76 0 65 65) 77 1 0) 68 0 2) 68 2 0) 68 76 0 130 65) 77 2 0) 68 0 3) 68 2 0) 68 76 0 195 65) 77 3 0) 68 0 4) 68 2 0) 67 20 0) 67 19 0) 78 0 0) 78 1 0) 78 2 0) 78 3 0) 67 20 1) 67 21 0) 67 22 0) 76 68 195 0 65) 76 68 130 0 65) 76 68 65 0 65) 76 68 0 0 65) 67 27 4) 68 70 0 0 65) 81 0 0) 68 0 1) 68 2 0) 81 1 0) (fun r h => r = some (.int 0) ∧ h = (SH0, RF0, (gup (gup (gup (gup (gcp (gup (gcp (gcp (gcp (gcp (gup (gup (gup (gup (gup (gup (gup (gup (gup (gup (gup (gup (gcp (gup (gup (gup (gcp (gup (gup (gup (gcp (gup (gup (gup (gcp (gup (gup (gup (gup (gmx J) 67 19 (-1)) 67 20 0) 67 21 5) 67 22 0) 68 76 0 0 65) 77 0 0) 68 0 1) 68 2 0) 68 76 0 65 65) 77 1 0) 68 0 2) 68 2 0) 68 76 0 130 65) 77 2 0) 68 0 3) 68 2 0) 68 76 0 195 65) 77 3 0) 68 0 4) 68 2 0) 67 20 0) 67 19 0) 78 0 0) 78 1 0) 78 2 0) 78 3 0) 67 20 1) 67 21 0) 67 22 0) 76 68 195 0 65) 76 68 130 0 65) 76 68 65 0 65) 76 68 0 0 65) 67 27 4) 68 70 0 0 65) 81 0 0) 68 0 1) 68 2 0) 81 1 0))) := by
  refine G_iconst (pc := 0) (v := 0) (by decide) dX12_those_0 ?_
  refine G_istore_n (pc := 1) (L1 := [some (.ref 67), some (.int 4), some (.int 0), none]) rfl rfl (by decide) dX12_those_1 ?_
  refine G_iconst (pc := 2) (v := 0) (by decide) dX12_those_2 ?_
  refine G_istore_n (pc := 3) (L1 := [some (.ref 67), some (.int 4), some (.int 0), some (.int 0)]) rfl rfl (by decide) dX12_those_3 ?_
  refine G_iload_n (pc := 4) rfl dX12_those_4 ?_
  refine G_aload_n (pc := 5) rfl dX12_those_5 ?_
  refine G_getR (pc := 6) (r := 68) (ci := 12) (j := 0) rfl lk_RX12_9 rfl rfl rfl dX12_those_6 ?_
  refine G_iconst (pc := 9) (v := 4) (by decide) dX12_those_9 ?_
  refine G_iald (pc := 10) (jj := 4) (v := 0) (by decide) rfl rfl (by unfold vp_in; decide) dX12_those_10 ?_
  refine G_icmp_ge (pc := 11) (tgt := 39) (by decide) dX12_those_11 (fun _ => ?_) (fun z => absurd (by decide) z)
  refine G_iload_n (pc := 39) rfl dX12_those_39 ?_
  exact G_iret (pc := 40) (Nat.le_of_ble_eq_true rfl) (Nat.le_of_ble_eq_true rfl) rfl dX12_those_40 ⟨rfl, rfl⟩
set_option maxRecDepth 100000 in
set_option maxHeartbeats 4000000 in
theorem s10237_X12_goesBy (J : gI) (d : Nat)   : G (d) mX12_goesBy 0 0 0 0 0 (gent 5 [.ref 67, .int 0]) [] SH0 RF0 (gup (gup (gup (gup (gup (gup (gcp (gup (gcp (gcp (gcp (gcp (gup (gup (gup (gup (gup (gup (gup (gup (gup (gup (gup (gup (gcp (gup (gup (gup (gcp (gup (gup (gup (gcp (gup (gup (gup (gcp (gup (gup (gup (gup (gmx J) 67 19 (-1)) 67 20 0) 67 21 5) 67 22 0) 68 76 0 0 65) 77 0 0) 68 0 1) 68 2 0) 68 76 0 65 65) 77 1 0) 68 0 2) 68 2 0) 68 76 0 130 65) 77 2 0) 68 0 3) 68 2 0) 68 76 0 195 65) 77 3 0) 68 0 4) 68 2 0) 67 20 0) 67 19 0) 78 0 0) 78 1 0) 78 2 0) 78 3 0) 67 20 1) 67 21 0) 67 22 0) 76 68 195 0 65) 76 68 130 0 65) 76 68 65 0 65) 76 68 0 0 65) 67 27 4) 68 70 0 0 65) 81 0 0) 68 0 1) 68 2 0) 81 1 0) 81 2 0) 81 3 0) (fun r h => r = some (.int 0) ∧ h = (SH0, RF0, (gup (gup (gup (gup (gup (gup (gup (gup (gcp (gup (gcp (gcp (gcp (gcp (gup (gup (gup (gup (gup (gup (gup (gup (gup (gup (gup (gup (gcp (gup (gup (gup (gcp (gup (gup (gup (gcp (gup (gup (gup (gcp (gup (gup (gup (gup (gmx J) 67 19 (-1)) 67 20 0) 67 21 5) 67 22 0) 68 76 0 0 65) 77 0 0) 68 0 1) 68 2 0) 68 76 0 65 65) 77 1 0) 68 0 2) 68 2 0) 68 76 0 130 65) 77 2 0) 68 0 3) 68 2 0) 68 76 0 195 65) 77 3 0) 68 0 4) 68 2 0) 67 20 0) 67 19 0) 78 0 0) 78 1 0) 78 2 0) 78 3 0) 67 20 1) 67 21 0) 67 22 0) 76 68 195 0 65) 76 68 130 0 65) 76 68 65 0 65) 76 68 0 0 65) 67 27 4) 68 70 0 0 65) 81 0 0) 68 0 1) 68 2 0) 81 1 0) 81 2 0) 81 3 0) 68 0 2) 68 2 0))) := by
  refine G_iload_n (pc := 0) rfl dX12_goesBy_0 ?_
  refine G_if_ge (pc := 1) (tgt := 11) (by decide) dX12_goesBy_1 (fun _ => ?_) (fun z => absurd (by decide) z)
  refine G_iload_n (pc := 11) rfl dX12_goesBy_11 ?_
  refine G_iconst (pc := 12) (v := 1) (by decide) dX12_goesBy_12 ?_
  refine G_isub (pc := 13) (z := (-1)) (by decide) dX12_goesBy_13 ?_
  refine G_istore_n (pc := 14) (L1 := [some (.ref 67), some (.int 0), some (.int (-1)), none, none]) rfl rfl (by decide) dX12_goesBy_14 ?_
  refine G_iload_n (pc := 15) rfl dX12_goesBy_15 ?_
  refine G_if_lt (pc := 16) (tgt := 27) (by decide) dX12_goesBy_16 (fun _ => ?_) (fun z => absurd (by decide) z)
  refine G_iconst (pc := 27) (v := 0) (by decide) dX12_goesBy_27 ?_
  refine G_istore_n (pc := 28) (L1 := [some (.ref 67), some (.int 0), some (.int (-1)), some (.int 0), none]) rfl rfl (by decide) dX12_goesBy_28 ?_
  refine G_iconst (pc := 29) (v := 0) (by decide) dX12_goesBy_29 ?_
  refine G_istore (pc := 30) (L1 := [some (.ref 67), some (.int 0), some (.int (-1)), some (.int 0), some (.int 0)]) rfl rfl (by decide) dX12_goesBy_30 ?_
  refine G_iload (pc := 32) rfl dX12_goesBy_32 ?_
  refine G_aload_n (pc := 34) rfl dX12_goesBy_34 ?_
  refine G_getR (pc := 35) (r := 68) (ci := 12) (j := 0) rfl lk_RX12_9 rfl rfl rfl dX12_goesBy_35 ?_
  refine G_iconst (pc := 38) (v := 4) (by decide) dX12_goesBy_38 ?_
  refine G_iald (pc := 39) (jj := 4) (v := 0) (by decide) rfl rfl (by unfold vp_in; decide) dX12_goesBy_39 ?_
  refine G_icmp_ge (pc := 40) (tgt := 104) (by decide) dX12_goesBy_40 (fun _ => ?_) (fun z => absurd (by decide) z)
  refine G_aload_n (pc := 104) rfl dX12_goesBy_104 ?_
  refine G_getR (pc := 105) (r := 68) (ci := 12) (j := 0) rfl lk_RX12_9 rfl rfl rfl dX12_goesBy_105 ?_
  refine G_iconst (pc := 108) (v := 0) (by decide) dX12_goesBy_108 ?_
  refine G_dup2 (pc := 109) rfl rfl dX12_goesBy_109 ?_
  refine G_iald (pc := 110) (jj := 0) (v := 1) (by decide) rfl rfl (by unfold vp_in; decide) dX12_goesBy_110 ?_
  refine G_iconst (pc := 111) (v := 1) (by decide) dX12_goesBy_111 ?_
  refine G_iadd (pc := 112) (z := 2) (by decide) dX12_goesBy_112 ?_
  refine G_iast (pc := 113) (jj := 0) (by decide) rfl (by unfold vp_in; decide) dX12_goesBy_113 ?_
  refine G_aload_n (pc := 114) rfl dX12_goesBy_114 ?_
  refine G_getR (pc := 115) (r := 68) (ci := 12) (j := 0) rfl lk_RX12_9 rfl rfl rfl dX12_goesBy_115 ?_
  refine G_iconst (pc := 118) (v := 2) (by decide) dX12_goesBy_118 ?_
  refine G_dup2 (pc := 119) rfl rfl dX12_goesBy_119 ?_
  refine G_iald (pc := 120) (jj := 2) (v := 0) (by decide) rfl rfl (by unfold vp_in; decide) dX12_goesBy_120 ?_
  refine G_iload_n (pc := 121) rfl dX12_goesBy_121 ?_
  refine G_iadd (pc := 122) (z := 0) (by decide) dX12_goesBy_122 ?_
  refine G_iast (pc := 123) (jj := 2) (by decide) rfl (by unfold vp_in; decide) dX12_goesBy_123 ?_
  refine G_iload_n (pc := 124) rfl dX12_goesBy_124 ?_
  exact G_iret (pc := 125) (Nat.le_of_ble_eq_true rfl) (Nat.le_of_ble_eq_true rfl) rfl dX12_goesBy_125 ⟨rfl, rfl⟩
set_option maxRecDepth 100000 in
set_option maxHeartbeats 4000000 in
theorem s10238_X12_those (J : gI) (d : Nat)   : G (d) mX12_those 0 0 0 0 0 (gent 4 [.ref 67, .int 4]) [] SH0 RF0 (gup (gup (gup (gup (gup (gup (gup (gup (gup (gcp (gup (gcp (gcp (gcp (gcp (gup (gup (gup (gup (gup (gup (gup (gup (gup (gup (gup (gup (gcp (gup (gup (gup (gcp (gup (gup (gup (gcp (gup (gup (gup (gcp (gup (gup (gup (gup (gmx J) 67 19 (-1)) 67 20 0) 67 21 5) 67 22 0) 68 76 0 0 65) 77 0 0) 68 0 1) 68 2 0) 68 76 0 65 65) 77 1 0) 68 0 2) 68 2 0) 68 76 0 130 65) 77 2 0) 68 0 3) 68 2 0) 68 76 0 195 65) 77 3 0) 68 0 4) 68 2 0) 67 20 0) 67 19 0) 78 0 0) 78 1 0) 78 2 0) 78 3 0) 67 20 1) 67 21 0) 67 22 0) 76 68 195 0 65) 76 68 130 0 65) 76 68 65 0 65) 76 68 0 0 65) 67 27 4) 68 70 0 0 65) 81 0 0) 68 0 1) 68 2 0) 81 1 0) 81 2 0) 81 3 0) 68 0 2) 68 2 0) 81 4 0) (fun r h => r = some (.int 0) ∧ h = (SH0, RF0, (gup (gup (gup (gup (gup (gup (gup (gup (gup (gcp (gup (gcp (gcp (gcp (gcp (gup (gup (gup (gup (gup (gup (gup (gup (gup (gup (gup (gup (gcp (gup (gup (gup (gcp (gup (gup (gup (gcp (gup (gup (gup (gcp (gup (gup (gup (gup (gmx J) 67 19 (-1)) 67 20 0) 67 21 5) 67 22 0) 68 76 0 0 65) 77 0 0) 68 0 1) 68 2 0) 68 76 0 65 65) 77 1 0) 68 0 2) 68 2 0) 68 76 0 130 65) 77 2 0) 68 0 3) 68 2 0) 68 76 0 195 65) 77 3 0) 68 0 4) 68 2 0) 67 20 0) 67 19 0) 78 0 0) 78 1 0) 78 2 0) 78 3 0) 67 20 1) 67 21 0) 67 22 0) 76 68 195 0 65) 76 68 130 0 65) 76 68 65 0 65) 76 68 0 0 65) 67 27 4) 68 70 0 0 65) 81 0 0) 68 0 1) 68 2 0) 81 1 0) 81 2 0) 81 3 0) 68 0 2) 68 2 0) 81 4 0))) := by
  refine G_iconst (pc := 0) (v := 0) (by decide) dX12_those_0 ?_
  refine G_istore_n (pc := 1) (L1 := [some (.ref 67), some (.int 4), some (.int 0), none]) rfl rfl (by decide) dX12_those_1 ?_
  refine G_iconst (pc := 2) (v := 0) (by decide) dX12_those_2 ?_
  refine G_istore_n (pc := 3) (L1 := [some (.ref 67), some (.int 4), some (.int 0), some (.int 0)]) rfl rfl (by decide) dX12_those_3 ?_
  refine G_iload_n (pc := 4) rfl dX12_those_4 ?_
  refine G_aload_n (pc := 5) rfl dX12_those_5 ?_
  refine G_getR (pc := 6) (r := 68) (ci := 12) (j := 0) rfl lk_RX12_9 rfl rfl rfl dX12_those_6 ?_
  refine G_iconst (pc := 9) (v := 4) (by decide) dX12_those_9 ?_
  refine G_iald (pc := 10) (jj := 4) (v := 0) (by decide) rfl rfl (by unfold vp_in; decide) dX12_those_10 ?_
  refine G_icmp_ge (pc := 11) (tgt := 39) (by decide) dX12_those_11 (fun _ => ?_) (fun z => absurd (by decide) z)
  refine G_iload_n (pc := 39) rfl dX12_those_39 ?_
  exact G_iret (pc := 40) (Nat.le_of_ble_eq_true rfl) (Nat.le_of_ble_eq_true rfl) rfl dX12_those_40 ⟨rfl, rfl⟩
set_option maxRecDepth 100000 in
set_option maxHeartbeats 4000000 in
theorem s10239_X12_goesBy (J : gI) (d : Nat)   : G (d) mX12_goesBy 0 0 0 0 0 (gent 5 [.ref 67, .int 0]) [] SH0 RF0 (gup (gup (gup (gup (gup (gup (gup (gup (gup (gup (gup (gcp (gup (gcp (gcp (gcp (gcp (gup (gup (gup (gup (gup (gup (gup (gup (gup (gup (gup (gup (gcp (gup (gup (gup (gcp (gup (gup (gup (gcp (gup (gup (gup (gcp (gup (gup (gup (gup (gmx J) 67 19 (-1)) 67 20 0) 67 21 5) 67 22 0) 68 76 0 0 65) 77 0 0) 68 0 1) 68 2 0) 68 76 0 65 65) 77 1 0) 68 0 2) 68 2 0) 68 76 0 130 65) 77 2 0) 68 0 3) 68 2 0) 68 76 0 195 65) 77 3 0) 68 0 4) 68 2 0) 67 20 0) 67 19 0) 78 0 0) 78 1 0) 78 2 0) 78 3 0) 67 20 1) 67 21 0) 67 22 0) 76 68 195 0 65) 76 68 130 0 65) 76 68 65 0 65) 76 68 0 0 65) 67 27 4) 68 70 0 0 65) 81 0 0) 68 0 1) 68 2 0) 81 1 0) 81 2 0) 81 3 0) 68 0 2) 68 2 0) 81 4 0) 81 5 0) 81 6 0) (fun r h => r = some (.int 0) ∧ h = (SH0, RF0, (gup (gup (gup (gup (gup (gup (gup (gup (gup (gup (gup (gup (gup (gcp (gup (gcp (gcp (gcp (gcp (gup (gup (gup (gup (gup (gup (gup (gup (gup (gup (gup (gup (gcp (gup (gup (gup (gcp (gup (gup (gup (gcp (gup (gup (gup (gcp (gup (gup (gup (gup (gmx J) 67 19 (-1)) 67 20 0) 67 21 5) 67 22 0) 68 76 0 0 65) 77 0 0) 68 0 1) 68 2 0) 68 76 0 65 65) 77 1 0) 68 0 2) 68 2 0) 68 76 0 130 65) 77 2 0) 68 0 3) 68 2 0) 68 76 0 195 65) 77 3 0) 68 0 4) 68 2 0) 67 20 0) 67 19 0) 78 0 0) 78 1 0) 78 2 0) 78 3 0) 67 20 1) 67 21 0) 67 22 0) 76 68 195 0 65) 76 68 130 0 65) 76 68 65 0 65) 76 68 0 0 65) 67 27 4) 68 70 0 0 65) 81 0 0) 68 0 1) 68 2 0) 81 1 0) 81 2 0) 81 3 0) 68 0 2) 68 2 0) 81 4 0) 81 5 0) 81 6 0) 68 0 3) 68 2 0))) := by
  refine G_iload_n (pc := 0) rfl dX12_goesBy_0 ?_
  refine G_if_ge (pc := 1) (tgt := 11) (by decide) dX12_goesBy_1 (fun _ => ?_) (fun z => absurd (by decide) z)
  refine G_iload_n (pc := 11) rfl dX12_goesBy_11 ?_
  refine G_iconst (pc := 12) (v := 1) (by decide) dX12_goesBy_12 ?_
  refine G_isub (pc := 13) (z := (-1)) (by decide) dX12_goesBy_13 ?_
  refine G_istore_n (pc := 14) (L1 := [some (.ref 67), some (.int 0), some (.int (-1)), none, none]) rfl rfl (by decide) dX12_goesBy_14 ?_
  refine G_iload_n (pc := 15) rfl dX12_goesBy_15 ?_
  refine G_if_lt (pc := 16) (tgt := 27) (by decide) dX12_goesBy_16 (fun _ => ?_) (fun z => absurd (by decide) z)
  refine G_iconst (pc := 27) (v := 0) (by decide) dX12_goesBy_27 ?_
  refine G_istore_n (pc := 28) (L1 := [some (.ref 67), some (.int 0), some (.int (-1)), some (.int 0), none]) rfl rfl (by decide) dX12_goesBy_28 ?_
  refine G_iconst (pc := 29) (v := 0) (by decide) dX12_goesBy_29 ?_
  refine G_istore (pc := 30) (L1 := [some (.ref 67), some (.int 0), some (.int (-1)), some (.int 0), some (.int 0)]) rfl rfl (by decide) dX12_goesBy_30 ?_
  refine G_iload (pc := 32) rfl dX12_goesBy_32 ?_
  refine G_aload_n (pc := 34) rfl dX12_goesBy_34 ?_
  refine G_getR (pc := 35) (r := 68) (ci := 12) (j := 0) rfl lk_RX12_9 rfl rfl rfl dX12_goesBy_35 ?_
  refine G_iconst (pc := 38) (v := 4) (by decide) dX12_goesBy_38 ?_
  refine G_iald (pc := 39) (jj := 4) (v := 0) (by decide) rfl rfl (by unfold vp_in; decide) dX12_goesBy_39 ?_
  refine G_icmp_ge (pc := 40) (tgt := 104) (by decide) dX12_goesBy_40 (fun _ => ?_) (fun z => absurd (by decide) z)
  refine G_aload_n (pc := 104) rfl dX12_goesBy_104 ?_
  refine G_getR (pc := 105) (r := 68) (ci := 12) (j := 0) rfl lk_RX12_9 rfl rfl rfl dX12_goesBy_105 ?_
  refine G_iconst (pc := 108) (v := 0) (by decide) dX12_goesBy_108 ?_
  refine G_dup2 (pc := 109) rfl rfl dX12_goesBy_109 ?_
  refine G_iald (pc := 110) (jj := 0) (v := 2) (by decide) rfl rfl (by unfold vp_in; decide) dX12_goesBy_110 ?_
  refine G_iconst (pc := 111) (v := 1) (by decide) dX12_goesBy_111 ?_
  refine G_iadd (pc := 112) (z := 3) (by decide) dX12_goesBy_112 ?_
  refine G_iast (pc := 113) (jj := 0) (by decide) rfl (by unfold vp_in; decide) dX12_goesBy_113 ?_
  refine G_aload_n (pc := 114) rfl dX12_goesBy_114 ?_
  refine G_getR (pc := 115) (r := 68) (ci := 12) (j := 0) rfl lk_RX12_9 rfl rfl rfl dX12_goesBy_115 ?_
  refine G_iconst (pc := 118) (v := 2) (by decide) dX12_goesBy_118 ?_
  refine G_dup2 (pc := 119) rfl rfl dX12_goesBy_119 ?_
  refine G_iald (pc := 120) (jj := 2) (v := 0) (by decide) rfl rfl (by unfold vp_in; decide) dX12_goesBy_120 ?_
  refine G_iload_n (pc := 121) rfl dX12_goesBy_121 ?_
  refine G_iadd (pc := 122) (z := 0) (by decide) dX12_goesBy_122 ?_
  refine G_iast (pc := 123) (jj := 2) (by decide) rfl (by unfold vp_in; decide) dX12_goesBy_123 ?_
  refine G_iload_n (pc := 124) rfl dX12_goesBy_124 ?_
  exact G_iret (pc := 125) (Nat.le_of_ble_eq_true rfl) (Nat.le_of_ble_eq_true rfl) rfl dX12_goesBy_125 ⟨rfl, rfl⟩
set_option maxRecDepth 100000 in
set_option maxHeartbeats 4000000 in
theorem s10240_X12_those (J : gI) (d : Nat)   : G (d) mX12_those 0 0 0 0 0 (gent 4 [.ref 67, .int 4]) [] SH0 RF0 (gup (gup (gup (gup (gup (gup (gup (gup (gup (gup (gup (gup (gup (gup (gcp (gup (gcp (gcp (gcp (gcp (gup (gup (gup (gup (gup (gup (gup (gup (gup (gup (gup (gup (gcp (gup (gup (gup (gcp (gup (gup (gup (gcp (gup (gup (gup (gcp (gup (gup (gup (gup (gmx J) 67 19 (-1)) 67 20 0) 67 21 5) 67 22 0) 68 76 0 0 65) 77 0 0) 68 0 1) 68 2 0) 68 76 0 65 65) 77 1 0) 68 0 2) 68 2 0) 68 76 0 130 65) 77 2 0) 68 0 3) 68 2 0) 68 76 0 195 65) 77 3 0) 68 0 4) 68 2 0) 67 20 0) 67 19 0) 78 0 0) 78 1 0) 78 2 0) 78 3 0) 67 20 1) 67 21 0) 67 22 0) 76 68 195 0 65) 76 68 130 0 65) 76 68 65 0 65) 76 68 0 0 65) 67 27 4) 68 70 0 0 65) 81 0 0) 68 0 1) 68 2 0) 81 1 0) 81 2 0) 81 3 0) 68 0 2) 68 2 0) 81 4 0) 81 5 0) 81 6 0) 68 0 3) 68 2 0) 81 7 0) (fun r h => r = some (.int 0) ∧ h = (SH0, RF0, (gup (gup (gup (gup (gup (gup (gup (gup (gup (gup (gup (gup (gup (gup (gcp (gup (gcp (gcp (gcp (gcp (gup (gup (gup (gup (gup (gup (gup (gup (gup (gup (gup (gup (gcp (gup (gup (gup (gcp (gup (gup (gup (gcp (gup (gup (gup (gcp (gup (gup (gup (gup (gmx J) 67 19 (-1)) 67 20 0) 67 21 5) 67 22 0) 68 76 0 0 65) 77 0 0) 68 0 1) 68 2 0) 68 76 0 65 65) 77 1 0) 68 0 2) 68 2 0) 68 76 0 130 65) 77 2 0) 68 0 3) 68 2 0) 68 76 0 195 65) 77 3 0) 68 0 4) 68 2 0) 67 20 0) 67 19 0) 78 0 0) 78 1 0) 78 2 0) 78 3 0) 67 20 1) 67 21 0) 67 22 0) 76 68 195 0 65) 76 68 130 0 65) 76 68 65 0 65) 76 68 0 0 65) 67 27 4) 68 70 0 0 65) 81 0 0) 68 0 1) 68 2 0) 81 1 0) 81 2 0) 81 3 0) 68 0 2) 68 2 0) 81 4 0) 81 5 0) 81 6 0) 68 0 3) 68 2 0) 81 7 0))) := by
  refine G_iconst (pc := 0) (v := 0) (by decide) dX12_those_0 ?_
  refine G_istore_n (pc := 1) (L1 := [some (.ref 67), some (.int 4), some (.int 0), none]) rfl rfl (by decide) dX12_those_1 ?_
  refine G_iconst (pc := 2) (v := 0) (by decide) dX12_those_2 ?_
  refine G_istore_n (pc := 3) (L1 := [some (.ref 67), some (.int 4), some (.int 0), some (.int 0)]) rfl rfl (by decide) dX12_those_3 ?_
  refine G_iload_n (pc := 4) rfl dX12_those_4 ?_
  refine G_aload_n (pc := 5) rfl dX12_those_5 ?_
  refine G_getR (pc := 6) (r := 68) (ci := 12) (j := 0) rfl lk_RX12_9 rfl rfl rfl dX12_those_6 ?_
  refine G_iconst (pc := 9) (v := 4) (by decide) dX12_those_9 ?_
  refine G_iald (pc := 10) (jj := 4) (v := 0) (by decide) rfl rfl (by unfold vp_in; decide) dX12_those_10 ?_
  refine G_icmp_ge (pc := 11) (tgt := 39) (by decide) dX12_those_11 (fun _ => ?_) (fun z => absurd (by decide) z)
  refine G_iload_n (pc := 39) rfl dX12_those_39 ?_
  exact G_iret (pc := 40) (Nat.le_of_ble_eq_true rfl) (Nat.le_of_ble_eq_true rfl) rfl dX12_those_40 ⟨rfl, rfl⟩
set_option maxRecDepth 100000 in
set_option maxHeartbeats 4000000 in
theorem s10241_X12_goesBy (J : gI) (d : Nat)   : G (d) mX12_goesBy 0 0 0 0 0 (gent 5 [.ref 67, .int 0]) [] SH0 RF0 (gup (gup (gup (gup (gup (gup (gup (gup (gup (gup (gup (gup (gup (gup (gup (gup (gcp (gup (gcp (gcp (gcp (gcp (gup (gup (gup (gup (gup (gup (gup (gup (gup (gup (gup (gup (gcp (gup (gup (gup (gcp (gup (gup (gup (gcp (gup (gup (gup (gcp (gup (gup (gup (gup (gmx J) 67 19 (-1)) 67 20 0) 67 21 5) 67 22 0) 68 76 0 0 65) 77 0 0) 68 0 1) 68 2 0) 68 76 0 65 65) 77 1 0) 68 0 2) 68 2 0) 68 76 0 130 65) 77 2 0) 68 0 3) 68 2 0) 68 76 0 195 65) 77 3 0) 68 0 4) 68 2 0) 67 20 0) 67 19 0) 78 0 0) 78 1 0) 78 2 0) 78 3 0) 67 20 1) 67 21 0) 67 22 0) 76 68 195 0 65) 76 68 130 0 65) 76 68 65 0 65) 76 68 0 0 65) 67 27 4) 68 70 0 0 65) 81 0 0) 68 0 1) 68 2 0) 81 1 0) 81 2 0) 81 3 0) 68 0 2) 68 2 0) 81 4 0) 81 5 0) 81 6 0) 68 0 3) 68 2 0) 81 7 0) 81 8 0) 81 9 0) (fun r h => r = some (.int 0) ∧ h = (SH0, RF0, (gup (gup (gup (gup (gup (gup (gup (gup (gup (gup (gup (gup (gup (gup (gup (gup (gup (gup (gcp (gup (gcp (gcp (gcp (gcp (gup (gup (gup (gup (gup (gup (gup (gup (gup (gup (gup (gup (gcp (gup (gup (gup (gcp (gup (gup (gup (gcp (gup (gup (gup (gcp (gup (gup (gup (gup (gmx J) 67 19 (-1)) 67 20 0) 67 21 5) 67 22 0) 68 76 0 0 65) 77 0 0) 68 0 1) 68 2 0) 68 76 0 65 65) 77 1 0) 68 0 2) 68 2 0) 68 76 0 130 65) 77 2 0) 68 0 3) 68 2 0) 68 76 0 195 65) 77 3 0) 68 0 4) 68 2 0) 67 20 0) 67 19 0) 78 0 0) 78 1 0) 78 2 0) 78 3 0) 67 20 1) 67 21 0) 67 22 0) 76 68 195 0 65) 76 68 130 0 65) 76 68 65 0 65) 76 68 0 0 65) 67 27 4) 68 70 0 0 65) 81 0 0) 68 0 1) 68 2 0) 81 1 0) 81 2 0) 81 3 0) 68 0 2) 68 2 0) 81 4 0) 81 5 0) 81 6 0) 68 0 3) 68 2 0) 81 7 0) 81 8 0) 81 9 0) 68 0 4) 68 2 0))) := by
  refine G_iload_n (pc := 0) rfl dX12_goesBy_0 ?_
  refine G_if_ge (pc := 1) (tgt := 11) (by decide) dX12_goesBy_1 (fun _ => ?_) (fun z => absurd (by decide) z)
  refine G_iload_n (pc := 11) rfl dX12_goesBy_11 ?_
  refine G_iconst (pc := 12) (v := 1) (by decide) dX12_goesBy_12 ?_
  refine G_isub (pc := 13) (z := (-1)) (by decide) dX12_goesBy_13 ?_
  refine G_istore_n (pc := 14) (L1 := [some (.ref 67), some (.int 0), some (.int (-1)), none, none]) rfl rfl (by decide) dX12_goesBy_14 ?_
  refine G_iload_n (pc := 15) rfl dX12_goesBy_15 ?_
  refine G_if_lt (pc := 16) (tgt := 27) (by decide) dX12_goesBy_16 (fun _ => ?_) (fun z => absurd (by decide) z)
  refine G_iconst (pc := 27) (v := 0) (by decide) dX12_goesBy_27 ?_
  refine G_istore_n (pc := 28) (L1 := [some (.ref 67), some (.int 0), some (.int (-1)), some (.int 0), none]) rfl rfl (by decide) dX12_goesBy_28 ?_
  refine G_iconst (pc := 29) (v := 0) (by decide) dX12_goesBy_29 ?_
  refine G_istore (pc := 30) (L1 := [some (.ref 67), some (.int 0), some (.int (-1)), some (.int 0), some (.int 0)]) rfl rfl (by decide) dX12_goesBy_30 ?_
  refine G_iload (pc := 32) rfl dX12_goesBy_32 ?_
  refine G_aload_n (pc := 34) rfl dX12_goesBy_34 ?_
  refine G_getR (pc := 35) (r := 68) (ci := 12) (j := 0) rfl lk_RX12_9 rfl rfl rfl dX12_goesBy_35 ?_
  refine G_iconst (pc := 38) (v := 4) (by decide) dX12_goesBy_38 ?_
  refine G_iald (pc := 39) (jj := 4) (v := 0) (by decide) rfl rfl (by unfold vp_in; decide) dX12_goesBy_39 ?_
  refine G_icmp_ge (pc := 40) (tgt := 104) (by decide) dX12_goesBy_40 (fun _ => ?_) (fun z => absurd (by decide) z)
  refine G_aload_n (pc := 104) rfl dX12_goesBy_104 ?_
  refine G_getR (pc := 105) (r := 68) (ci := 12) (j := 0) rfl lk_RX12_9 rfl rfl rfl dX12_goesBy_105 ?_
  refine G_iconst (pc := 108) (v := 0) (by decide) dX12_goesBy_108 ?_
  refine G_dup2 (pc := 109) rfl rfl dX12_goesBy_109 ?_
  refine G_iald (pc := 110) (jj := 0) (v := 3) (by decide) rfl rfl (by unfold vp_in; decide) dX12_goesBy_110 ?_
  refine G_iconst (pc := 111) (v := 1) (by decide) dX12_goesBy_111 ?_
  refine G_iadd (pc := 112) (z := 4) (by decide) dX12_goesBy_112 ?_
  refine G_iast (pc := 113) (jj := 0) (by decide) rfl (by unfold vp_in; decide) dX12_goesBy_113 ?_
  refine G_aload_n (pc := 114) rfl dX12_goesBy_114 ?_
  refine G_getR (pc := 115) (r := 68) (ci := 12) (j := 0) rfl lk_RX12_9 rfl rfl rfl dX12_goesBy_115 ?_
  refine G_iconst (pc := 118) (v := 2) (by decide) dX12_goesBy_118 ?_
  refine G_dup2 (pc := 119) rfl rfl dX12_goesBy_119 ?_
  refine G_iald (pc := 120) (jj := 2) (v := 0) (by decide) rfl rfl (by unfold vp_in; decide) dX12_goesBy_120 ?_
  refine G_iload_n (pc := 121) rfl dX12_goesBy_121 ?_
  refine G_iadd (pc := 122) (z := 0) (by decide) dX12_goesBy_122 ?_
  refine G_iast (pc := 123) (jj := 2) (by decide) rfl (by unfold vp_in; decide) dX12_goesBy_123 ?_
  refine G_iload_n (pc := 124) rfl dX12_goesBy_124 ?_
  exact G_iret (pc := 125) (Nat.le_of_ble_eq_true rfl) (Nat.le_of_ble_eq_true rfl) rfl dX12_goesBy_125 ⟨rfl, rfl⟩
set_option maxRecDepth 100000 in
set_option maxHeartbeats 4000000 in
theorem s10242_X12_those (J : gI) (d : Nat)   : G (d) mX12_those 0 0 0 0 0 (gent 4 [.ref 67, .int 4]) [] SH0 RF0 (gup (gup (gup (gup (gup (gup (gup (gup (gup (gup (gup (gup (gup (gup (gup (gup (gup (gup (gup (gcp (gup (gcp (gcp (gcp (gcp (gup (gup (gup (gup (gup (gup (gup (gup (gup (gup (gup (gup (gcp (gup (gup (gup (gcp (gup (gup (gup (gcp (gup (gup (gup (gcp (gup (gup (gup (gup (gmx J) 67 19 (-1)) 67 20 0) 67 21 5) 67 22 0) 68 76 0 0 65) 77 0 0) 68 0 1) 68 2 0) 68 76 0 65 65) 77 1 0) 68 0 2) 68 2 0) 68 76 0 130 65) 77 2 0) 68 0 3) 68 2 0) 68 76 0 195 65) 77 3 0) 68 0 4) 68 2 0) 67 20 0) 67 19 0) 78 0 0) 78 1 0) 78 2 0) 78 3 0) 67 20 1) 67 21 0) 67 22 0) 76 68 195 0 65) 76 68 130 0 65) 76 68 65 0 65) 76 68 0 0 65) 67 27 4) 68 70 0 0 65) 81 0 0) 68 0 1) 68 2 0) 81 1 0) 81 2 0) 81 3 0) 68 0 2) 68 2 0) 81 4 0) 81 5 0) 81 6 0) 68 0 3) 68 2 0) 81 7 0) 81 8 0) 81 9 0) 68 0 4) 68 2 0) 81 10 0) (fun r h => r = some (.int 0) ∧ h = (SH0, RF0, (gup (gup (gup (gup (gup (gup (gup (gup (gup (gup (gup (gup (gup (gup (gup (gup (gup (gup (gup (gcp (gup (gcp (gcp (gcp (gcp (gup (gup (gup (gup (gup (gup (gup (gup (gup (gup (gup (gup (gcp (gup (gup (gup (gcp (gup (gup (gup (gcp (gup (gup (gup (gcp (gup (gup (gup (gup (gmx J) 67 19 (-1)) 67 20 0) 67 21 5) 67 22 0) 68 76 0 0 65) 77 0 0) 68 0 1) 68 2 0) 68 76 0 65 65) 77 1 0) 68 0 2) 68 2 0) 68 76 0 130 65) 77 2 0) 68 0 3) 68 2 0) 68 76 0 195 65) 77 3 0) 68 0 4) 68 2 0) 67 20 0) 67 19 0) 78 0 0) 78 1 0) 78 2 0) 78 3 0) 67 20 1) 67 21 0) 67 22 0) 76 68 195 0 65) 76 68 130 0 65) 76 68 65 0 65) 76 68 0 0 65) 67 27 4) 68 70 0 0 65) 81 0 0) 68 0 1) 68 2 0) 81 1 0) 81 2 0) 81 3 0) 68 0 2) 68 2 0) 81 4 0) 81 5 0) 81 6 0) 68 0 3) 68 2 0) 81 7 0) 81 8 0) 81 9 0) 68 0 4) 68 2 0) 81 10 0))) := by
  refine G_iconst (pc := 0) (v := 0) (by decide) dX12_those_0 ?_
  refine G_istore_n (pc := 1) (L1 := [some (.ref 67), some (.int 4), some (.int 0), none]) rfl rfl (by decide) dX12_those_1 ?_
  refine G_iconst (pc := 2) (v := 0) (by decide) dX12_those_2 ?_
  refine G_istore_n (pc := 3) (L1 := [some (.ref 67), some (.int 4), some (.int 0), some (.int 0)]) rfl rfl (by decide) dX12_those_3 ?_
  refine G_iload_n (pc := 4) rfl dX12_those_4 ?_
  refine G_aload_n (pc := 5) rfl dX12_those_5 ?_
  refine G_getR (pc := 6) (r := 68) (ci := 12) (j := 0) rfl lk_RX12_9 rfl rfl rfl dX12_those_6 ?_
  refine G_iconst (pc := 9) (v := 4) (by decide) dX12_those_9 ?_
  refine G_iald (pc := 10) (jj := 4) (v := 0) (by decide) rfl rfl (by unfold vp_in; decide) dX12_those_10 ?_
  refine G_icmp_ge (pc := 11) (tgt := 39) (by decide) dX12_those_11 (fun _ => ?_) (fun z => absurd (by decide) z)
  refine G_iload_n (pc := 39) rfl dX12_those_39 ?_
  exact G_iret (pc := 40) (Nat.le_of_ble_eq_true rfl) (Nat.le_of_ble_eq_true rfl) rfl dX12_those_40 ⟨rfl, rfl⟩
set_option maxRecDepth 100000 in
set_option maxHeartbeats 4000000 in
theorem z_prove (J : gI) (d : Nat) (n : Int32) : G (d + 8) mX12_prove 0 0 0 0 0 (gent 3 [.ref 67, .int n]) [] SH0 RF0 (gmx J) (fun r _ => r = some (.int (F_prove n))) := by
  refine G_iload_n (pc := 0) rfl dX12_prove_0 ?_
  refine G_callS (pc := 1) (mc1 := 0) (ms1 := 0) (mj := mX12_isPlan) (vs := [_]) dX12_prove_1 cm_X12_isPlan wh_88 wh_90 rfl (Nat.le_of_ble_eq_true rfl) (Nat.le_of_ble_eq_true rfl) (Nat.le_of_ble_eq_true rfl) (Nat.le_of_ble_eq_true rfl) (s10087_X12_isPlan J (d + 6)  _) ?_
  rintro _ _ ⟨rfl, rfl⟩
  dsimp only [Option.toList, List.cons_append, List.nil_append]
  refine G_if_ne (pc := 4) (tgt := 9) (by decide) dX12_prove_4 (fun c317 => ?_) (fun c317 => ?_)
  · have c317 := gB_o c317
    refine G_aload_n (pc := 9) rfl dX12_prove_9 ?_
    refine G_iload_n (pc := 10) rfl dX12_prove_10 ?_
    refine G_iconst (pc := 11) (v := 0) (by decide) dX12_prove_11 ?_
    by_cases c319 : n = 0
    · subst c319
      refine G_callV (pc := 12) (mc1 := 0) (ms1 := 0) (ci := 12) (mj := mX12_triesAll) (vs := [_, _]) dX12_prove_12 rfl rfl cm_X12_triesAll wh_103 wh_105 wh_106 rfl (Nat.le_of_ble_eq_true rfl) (Nat.le_of_ble_eq_true rfl) (Nat.le_of_ble_eq_true rfl) (Nat.le_of_ble_eq_true rfl) (s10091_X12_triesAll J (d + 4)  ) ?_
      rintro _ _ ⟨rfl, rfl⟩
      dsimp only [Option.toList, List.cons_append, List.nil_append]
      refine G_aload_n (pc := 15) rfl dX12_prove_15 ?_
      refine G_aload_n (pc := 16) rfl dX12_prove_16 ?_
      refine G_iload_n (pc := 17) rfl dX12_prove_17 ?_
      refine G_callV (pc := 18) (mc1 := 0) (ms1 := 0) (ci := 12) (mj := mX12_daysOf) (vs := [_]) dX12_prove_18 rfl rfl cm_X12_daysOf wh_91 wh_93 wh_94 rfl (Nat.le_of_ble_eq_true rfl) (Nat.le_of_ble_eq_true rfl) (Nat.le_of_ble_eq_true rfl) (Nat.le_of_ble_eq_true rfl) (s10132_X12_daysOf J (d + 6)  ) ?_
      rintro _ _ ⟨rfl, rfl⟩
      dsimp only [Option.toList, List.cons_append, List.nil_append]
      refine G_putI (pc := 21) (ci := 12) (j := 27) rfl lk_RX12_317 rfl rfl rfl trivial dX12_prove_21 ?_
      refine G_aload_n (pc := 24) rfl dX12_prove_24 ?_
      refine G_callV (pc := 25) (mc1 := 0) (ms1 := 0) (ci := 12) (mj := mX12_layDown) (vs := []) dX12_prove_25 rfl rfl cm_X12_layDown wh_53 wh_55 wh_56 rfl (Nat.le_of_ble_eq_true rfl) (Nat.le_of_ble_eq_true rfl) (Nat.le_of_ble_eq_true rfl) (Nat.le_of_ble_eq_true rfl) (layDown_s (d + 7) (gup (gup (gup (gup (gup (gup (gup (gup (gup (gup (gmx J) 67 19 (-1)) 67 20 0) 67 21 5) 67 22 0) 67 20 0) 67 19 0) 67 20 1) 67 21 0) 67 22 0) 67 27 0)) ?_
      rintro _ _ ⟨rfl, rfl⟩
      dsimp only [Option.toList, List.cons_append, List.nil_append]
      refine G_iconst (pc := 28) (v := 0) (by decide) dX12_prove_28 ?_
      refine G_istore_n (pc := 29) (L1 := [some (.ref 67), some (.int 0), some (.int 0)]) rfl rfl (by decide) dX12_prove_29 ?_
      refine G_iload_n (pc := 30) rfl dX12_prove_30 ?_
      refine G_aload_n (pc := 31) rfl dX12_prove_31 ?_
      refine G_getI (pc := 32) (v := 0) (ci := 12) (j := 27) rfl rfl lk_RX12_317 rfl rfl dX12_prove_32 ?_
      refine G_icmp_ge (pc := 35) (tgt := 93) (by decide) dX12_prove_35 (fun _ => ?_) (fun z => absurd (by decide) z)
      refine G_aload_n (pc := 93) rfl dX12_prove_93 ?_
      refine G_callV (pc := 94) (mc1 := 0) (ms1 := 0) (ci := 12) (mj := mX12_layBack) (vs := []) dX12_prove_94 rfl rfl cm_X12_layBack wh_57 wh_59 wh_60 rfl (Nat.le_of_ble_eq_true rfl) (Nat.le_of_ble_eq_true rfl) (Nat.le_of_ble_eq_true rfl) (Nat.le_of_ble_eq_true rfl) (layBack_s (d + 7) (gcp (gup (gup (gup (gup (gup (gup (gup (gup (gup (gup (gmx J) 67 19 (-1)) 67 20 0) 67 21 5) 67 22 0) 67 20 0) 67 19 0) 67 20 1) 67 21 0) 67 22 0) 67 27 0) 68 70 0 0 65)) ?_
      rintro _ _ ⟨rfl, rfl⟩
      dsimp only [Option.toList, List.cons_append, List.nil_append]
      refine G_aload_n (pc := 97) rfl dX12_prove_97 ?_
      refine G_getI (pc := 98) (v := 0) (ci := 12) (j := 27) rfl rfl lk_RX12_317 rfl rfl dX12_prove_98 ?_
      exact G_iret (pc := 101) (Nat.le_of_ble_eq_true rfl) (Nat.le_of_ble_eq_true rfl) rfl dX12_prove_101 (by first | rfl | (simp [F_prove, *]; done) | (simp only [F_prove, Int32.le_iff_toInt_le, Int32.lt_iff_toInt_lt, ← Int32.toInt_inj]; simp; omega) | (simp only [F_prove, Int32.le_iff_toInt_le, Int32.lt_iff_toInt_lt, ← Int32.toInt_inj]; split <;> first | rfl | (exfalso; simp at *; omega)) | (unfold F_prove; (repeat' split) <;> first | rfl | (exfalso; (try simp only [Int32.le_iff_toInt_le, Int32.lt_iff_toInt_lt, ← Int32.toInt_inj] at *); first | omega | (simp at *; done) | (simp at *; omega))))
    by_cases c320 : n = 1
    · subst c320
      refine G_callV (pc := 12) (mc1 := 0) (ms1 := 0) (ci := 12) (mj := mX12_triesAll) (vs := [_, _]) dX12_prove_12 rfl rfl cm_X12_triesAll wh_103 wh_105 wh_106 rfl (Nat.le_of_ble_eq_true rfl) (Nat.le_of_ble_eq_true rfl) (Nat.le_of_ble_eq_true rfl) (Nat.le_of_ble_eq_true rfl) (s10096_X12_triesAll J (d + 3)  ) ?_
      rintro _ _ ⟨rfl, rfl⟩
      dsimp only [Option.toList, List.cons_append, List.nil_append]
      refine G_aload_n (pc := 15) rfl dX12_prove_15 ?_
      refine G_aload_n (pc := 16) rfl dX12_prove_16 ?_
      refine G_iload_n (pc := 17) rfl dX12_prove_17 ?_
      refine G_callV (pc := 18) (mc1 := 0) (ms1 := 0) (ci := 12) (mj := mX12_daysOf) (vs := [_]) dX12_prove_18 rfl rfl cm_X12_daysOf wh_91 wh_93 wh_94 rfl (Nat.le_of_ble_eq_true rfl) (Nat.le_of_ble_eq_true rfl) (Nat.le_of_ble_eq_true rfl) (Nat.le_of_ble_eq_true rfl) (s10134_X12_daysOf J (d + 6)  ) ?_
      rintro _ _ ⟨rfl, rfl⟩
      dsimp only [Option.toList, List.cons_append, List.nil_append]
      refine G_putI (pc := 21) (ci := 12) (j := 27) rfl lk_RX12_317 rfl rfl rfl trivial dX12_prove_21 ?_
      refine G_aload_n (pc := 24) rfl dX12_prove_24 ?_
      refine G_callV (pc := 25) (mc1 := 0) (ms1 := 0) (ci := 12) (mj := mX12_layDown) (vs := []) dX12_prove_25 rfl rfl cm_X12_layDown wh_53 wh_55 wh_56 rfl (Nat.le_of_ble_eq_true rfl) (Nat.le_of_ble_eq_true rfl) (Nat.le_of_ble_eq_true rfl) (Nat.le_of_ble_eq_true rfl) (layDown_s (d + 7) (gup (gcp (gup (gup (gup (gup (gup (gup (gup (gup (gup (gcp (gup (gup (gup (gup (gmx J) 67 19 (-1)) 67 20 0) 67 21 5) 67 22 0) 68 76 0 0 65) 77 0 0) 68 0 1) 68 2 0) 67 20 0) 67 19 0) 78 0 0) 67 20 1) 67 21 0) 67 22 0) 76 68 0 0 65) 67 27 1)) ?_
      rintro _ _ ⟨rfl, rfl⟩
      dsimp only [Option.toList, List.cons_append, List.nil_append]
      refine G_iconst (pc := 28) (v := 0) (by decide) dX12_prove_28 ?_
      refine G_istore_n (pc := 29) (L1 := [some (.ref 67), some (.int 1), some (.int 0)]) rfl rfl (by decide) dX12_prove_29 ?_
      refine G_iload_n (pc := 30) rfl dX12_prove_30 ?_
      refine G_aload_n (pc := 31) rfl dX12_prove_31 ?_
      refine G_getI (pc := 32) (v := 1) (ci := 12) (j := 27) rfl rfl lk_RX12_317 rfl rfl dX12_prove_32 ?_
      refine G_icmp_ge (pc := 35) (tgt := 93) (by decide) dX12_prove_35 (fun z => absurd z (by decide)) (fun _ => ?_)
      refine G_aload_n (pc := 38) rfl dX12_prove_38 ?_
      refine G_getR (pc := 39) (r := 81) (ci := 12) (j := 26) rfl lk_RX12_50 rfl rfl rfl dX12_prove_39 ?_
      refine G_iconst (pc := 42) (v := 3) (by decide) dX12_prove_42 ?_
      refine G_iload_n (pc := 43) rfl dX12_prove_43 ?_
      refine G_imul (pc := 44) (z := 0) (by decide) dX12_prove_44 ?_
      refine G_aload_n (pc := 45) rfl dX12_prove_45 ?_
      refine G_getR (pc := 46) (r := 78) (ci := 12) (j := 18) rfl lk_RX12_41 rfl rfl rfl dX12_prove_46 ?_
      refine G_iload_n (pc := 49) rfl dX12_prove_49 ?_
      refine G_iald (pc := 50) (jj := 0) (v := 0) (by decide) rfl rfl (by unfold vp_in; decide) dX12_prove_50 ?_
      refine G_iast (pc := 51) (jj := 0) (by decide) rfl (by unfold vp_in; decide) dX12_prove_51 ?_
      refine G_aload_n (pc := 52) rfl dX12_prove_52 ?_
      refine G_getR (pc := 53) (r := 81) (ci := 12) (j := 26) rfl lk_RX12_50 rfl rfl rfl dX12_prove_53 ?_
      refine G_iconst (pc := 56) (v := 3) (by decide) dX12_prove_56 ?_
      refine G_iload_n (pc := 57) rfl dX12_prove_57 ?_
      refine G_imul (pc := 58) (z := 0) (by decide) dX12_prove_58 ?_
      refine G_iconst (pc := 59) (v := 1) (by decide) dX12_prove_59 ?_
      refine G_iadd (pc := 60) (z := 1) (by decide) dX12_prove_60 ?_
      refine G_aload_n (pc := 61) rfl dX12_prove_61 ?_
      refine G_aload_n (pc := 62) rfl dX12_prove_62 ?_
      refine G_getR (pc := 63) (r := 78) (ci := 12) (j := 18) rfl lk_RX12_41 rfl rfl rfl dX12_prove_63 ?_
      refine G_iload_n (pc := 66) rfl dX12_prove_66 ?_
      refine G_iald (pc := 67) (jj := 0) (v := 0) (by decide) rfl rfl (by unfold vp_in; decide) dX12_prove_67 ?_
      refine G_callV (pc := 68) (mc1 := 0) (ms1 := 0) (ci := 12) (mj := mX12_goesBy) (vs := [_]) dX12_prove_68 rfl rfl cm_X12_goesBy wh_72 wh_74 wh_75 rfl (Nat.le_of_ble_eq_true rfl) (Nat.le_of_ble_eq_true rfl) (Nat.le_of_ble_eq_true rfl) (Nat.le_of_ble_eq_true rfl) (s10223_X12_goesBy J (d + 7)  ) ?_
      rintro _ _ ⟨rfl, rfl⟩
      dsimp only [Option.toList, List.cons_append, List.nil_append]
      refine G_iast (pc := 71) (jj := 1) (by decide) rfl (by unfold vp_in; decide) dX12_prove_71 ?_
      refine G_aload_n (pc := 72) rfl dX12_prove_72 ?_
      refine G_getR (pc := 73) (r := 81) (ci := 12) (j := 26) rfl lk_RX12_50 rfl rfl rfl dX12_prove_73 ?_
      refine G_iconst (pc := 76) (v := 3) (by decide) dX12_prove_76 ?_
      refine G_iload_n (pc := 77) rfl dX12_prove_77 ?_
      refine G_imul (pc := 78) (z := 0) (by decide) dX12_prove_78 ?_
      refine G_iconst (pc := 79) (v := 2) (by decide) dX12_prove_79 ?_
      refine G_iadd (pc := 80) (z := 2) (by decide) dX12_prove_80 ?_
      refine G_aload_n (pc := 81) rfl dX12_prove_81 ?_
      refine G_iconst (pc := 82) (v := 4) (by decide) dX12_prove_82 ?_
      refine G_callV (pc := 83) (mc1 := 0) (ms1 := 0) (ci := 12) (mj := mX12_those) (vs := [_]) dX12_prove_83 rfl rfl cm_X12_those wh_26 wh_28 wh_29 rfl (Nat.le_of_ble_eq_true rfl) (Nat.le_of_ble_eq_true rfl) (Nat.le_of_ble_eq_true rfl) (Nat.le_of_ble_eq_true rfl) (s10224_X12_those J (d + 7)  ) ?_
      rintro _ _ ⟨rfl, rfl⟩
      dsimp only [Option.toList, List.cons_append, List.nil_append]
      refine G_iast (pc := 86) (jj := 2) (by decide) rfl (by unfold vp_in; decide) dX12_prove_86 ?_
      refine G_iinc (pc := 87) (v := 1) (w := 1) (L1 := [some (.ref 67), some (.int 1), some (.int 1)]) (by decide) rfl rfl (by decide) rfl (by decide) dX12_prove_87 ?_
      refine G_goto (pc := 90) (tgt := 30) (by decide) dX12_prove_90 ?_
      refine G_iload_n (pc := 30) rfl dX12_prove_30 ?_
      refine G_aload_n (pc := 31) rfl dX12_prove_31 ?_
      refine G_getI (pc := 32) (v := 1) (ci := 12) (j := 27) rfl rfl lk_RX12_317 rfl rfl dX12_prove_32 ?_
      refine G_icmp_ge (pc := 35) (tgt := 93) (by decide) dX12_prove_35 (fun _ => ?_) (fun z => absurd (by decide) z)
      refine G_aload_n (pc := 93) rfl dX12_prove_93 ?_
      refine G_callV (pc := 94) (mc1 := 0) (ms1 := 0) (ci := 12) (mj := mX12_layBack) (vs := []) dX12_prove_94 rfl rfl cm_X12_layBack wh_57 wh_59 wh_60 rfl (Nat.le_of_ble_eq_true rfl) (Nat.le_of_ble_eq_true rfl) (Nat.le_of_ble_eq_true rfl) (Nat.le_of_ble_eq_true rfl) (layBack_s (d + 7) (gup (gup (gup (gup (gup (gcp (gup (gcp (gup (gup (gup (gup (gup (gup (gup (gup (gup (gcp (gup (gup (gup (gup (gmx J) 67 19 (-1)) 67 20 0) 67 21 5) 67 22 0) 68 76 0 0 65) 77 0 0) 68 0 1) 68 2 0) 67 20 0) 67 19 0) 78 0 0) 67 20 1) 67 21 0) 67 22 0) 76 68 0 0 65) 67 27 1) 68 70 0 0 65) 81 0 0) 68 0 1) 68 2 0) 81 1 0) 81 2 0)) ?_
      rintro _ _ ⟨rfl, rfl⟩
      dsimp only [Option.toList, List.cons_append, List.nil_append]
      refine G_aload_n (pc := 97) rfl dX12_prove_97 ?_
      refine G_getI (pc := 98) (v := 1) (ci := 12) (j := 27) rfl rfl lk_RX12_317 rfl rfl dX12_prove_98 ?_
      exact G_iret (pc := 101) (Nat.le_of_ble_eq_true rfl) (Nat.le_of_ble_eq_true rfl) rfl dX12_prove_101 (by first | rfl | (simp [F_prove, *]; done) | (simp only [F_prove, Int32.le_iff_toInt_le, Int32.lt_iff_toInt_lt, ← Int32.toInt_inj]; simp; omega) | (simp only [F_prove, Int32.le_iff_toInt_le, Int32.lt_iff_toInt_lt, ← Int32.toInt_inj]; split <;> first | rfl | (exfalso; simp at *; omega)) | (unfold F_prove; (repeat' split) <;> first | rfl | (exfalso; (try simp only [Int32.le_iff_toInt_le, Int32.lt_iff_toInt_lt, ← Int32.toInt_inj] at *); first | omega | (simp at *; done) | (simp at *; omega))))
    by_cases c321 : n = 2
    · subst c321
      refine G_callV (pc := 12) (mc1 := 0) (ms1 := 0) (ci := 12) (mj := mX12_triesAll) (vs := [_, _]) dX12_prove_12 rfl rfl cm_X12_triesAll wh_103 wh_105 wh_106 rfl (Nat.le_of_ble_eq_true rfl) (Nat.le_of_ble_eq_true rfl) (Nat.le_of_ble_eq_true rfl) (Nat.le_of_ble_eq_true rfl) (s10103_X12_triesAll J (d + 2)  ) ?_
      rintro _ _ ⟨rfl, rfl⟩
      dsimp only [Option.toList, List.cons_append, List.nil_append]
      refine G_aload_n (pc := 15) rfl dX12_prove_15 ?_
      refine G_aload_n (pc := 16) rfl dX12_prove_16 ?_
      refine G_iload_n (pc := 17) rfl dX12_prove_17 ?_
      refine G_callV (pc := 18) (mc1 := 0) (ms1 := 0) (ci := 12) (mj := mX12_daysOf) (vs := [_]) dX12_prove_18 rfl rfl cm_X12_daysOf wh_91 wh_93 wh_94 rfl (Nat.le_of_ble_eq_true rfl) (Nat.le_of_ble_eq_true rfl) (Nat.le_of_ble_eq_true rfl) (Nat.le_of_ble_eq_true rfl) (s10136_X12_daysOf J (d + 6)  ) ?_
      rintro _ _ ⟨rfl, rfl⟩
      dsimp only [Option.toList, List.cons_append, List.nil_append]
      refine G_putI (pc := 21) (ci := 12) (j := 27) rfl lk_RX12_317 rfl rfl rfl trivial dX12_prove_21 ?_
      refine G_aload_n (pc := 24) rfl dX12_prove_24 ?_
      refine G_callV (pc := 25) (mc1 := 0) (ms1 := 0) (ci := 12) (mj := mX12_layDown) (vs := []) dX12_prove_25 rfl rfl cm_X12_layDown wh_53 wh_55 wh_56 rfl (Nat.le_of_ble_eq_true rfl) (Nat.le_of_ble_eq_true rfl) (Nat.le_of_ble_eq_true rfl) (Nat.le_of_ble_eq_true rfl) (layDown_s (d + 7) (gup (gcp (gcp (gup (gup (gup (gup (gup (gup (gup (gup (gup (gup (gcp (gup (gup (gup (gcp (gup (gup (gup (gup (gmx J) 67 19 (-1)) 67 20 0) 67 21 5) 67 22 0) 68 76 0 0 65) 77 0 0) 68 0 1) 68 2 0) 68 76 0 65 65) 77 1 0) 68 0 2) 68 2 0) 67 20 0) 67 19 0) 78 0 0) 78 1 0) 67 20 1) 67 21 0) 67 22 0) 76 68 65 0 65) 76 68 0 0 65) 67 27 2)) ?_
      rintro _ _ ⟨rfl, rfl⟩
      dsimp only [Option.toList, List.cons_append, List.nil_append]
      refine G_iconst (pc := 28) (v := 0) (by decide) dX12_prove_28 ?_
      refine G_istore_n (pc := 29) (L1 := [some (.ref 67), some (.int 2), some (.int 0)]) rfl rfl (by decide) dX12_prove_29 ?_
      refine G_iload_n (pc := 30) rfl dX12_prove_30 ?_
      refine G_aload_n (pc := 31) rfl dX12_prove_31 ?_
      refine G_getI (pc := 32) (v := 2) (ci := 12) (j := 27) rfl rfl lk_RX12_317 rfl rfl dX12_prove_32 ?_
      refine G_icmp_ge (pc := 35) (tgt := 93) (by decide) dX12_prove_35 (fun z => absurd z (by decide)) (fun _ => ?_)
      refine G_aload_n (pc := 38) rfl dX12_prove_38 ?_
      refine G_getR (pc := 39) (r := 81) (ci := 12) (j := 26) rfl lk_RX12_50 rfl rfl rfl dX12_prove_39 ?_
      refine G_iconst (pc := 42) (v := 3) (by decide) dX12_prove_42 ?_
      refine G_iload_n (pc := 43) rfl dX12_prove_43 ?_
      refine G_imul (pc := 44) (z := 0) (by decide) dX12_prove_44 ?_
      refine G_aload_n (pc := 45) rfl dX12_prove_45 ?_
      refine G_getR (pc := 46) (r := 78) (ci := 12) (j := 18) rfl lk_RX12_41 rfl rfl rfl dX12_prove_46 ?_
      refine G_iload_n (pc := 49) rfl dX12_prove_49 ?_
      refine G_iald (pc := 50) (jj := 0) (v := 0) (by decide) rfl rfl (by unfold vp_in; decide) dX12_prove_50 ?_
      refine G_iast (pc := 51) (jj := 0) (by decide) rfl (by unfold vp_in; decide) dX12_prove_51 ?_
      refine G_aload_n (pc := 52) rfl dX12_prove_52 ?_
      refine G_getR (pc := 53) (r := 81) (ci := 12) (j := 26) rfl lk_RX12_50 rfl rfl rfl dX12_prove_53 ?_
      refine G_iconst (pc := 56) (v := 3) (by decide) dX12_prove_56 ?_
      refine G_iload_n (pc := 57) rfl dX12_prove_57 ?_
      refine G_imul (pc := 58) (z := 0) (by decide) dX12_prove_58 ?_
      refine G_iconst (pc := 59) (v := 1) (by decide) dX12_prove_59 ?_
      refine G_iadd (pc := 60) (z := 1) (by decide) dX12_prove_60 ?_
      refine G_aload_n (pc := 61) rfl dX12_prove_61 ?_
      refine G_aload_n (pc := 62) rfl dX12_prove_62 ?_
      refine G_getR (pc := 63) (r := 78) (ci := 12) (j := 18) rfl lk_RX12_41 rfl rfl rfl dX12_prove_63 ?_
      refine G_iload_n (pc := 66) rfl dX12_prove_66 ?_
      refine G_iald (pc := 67) (jj := 0) (v := 0) (by decide) rfl rfl (by unfold vp_in; decide) dX12_prove_67 ?_
      refine G_callV (pc := 68) (mc1 := 0) (ms1 := 0) (ci := 12) (mj := mX12_goesBy) (vs := [_]) dX12_prove_68 rfl rfl cm_X12_goesBy wh_72 wh_74 wh_75 rfl (Nat.le_of_ble_eq_true rfl) (Nat.le_of_ble_eq_true rfl) (Nat.le_of_ble_eq_true rfl) (Nat.le_of_ble_eq_true rfl) (s10225_X12_goesBy J (d + 7)  ) ?_
      rintro _ _ ⟨rfl, rfl⟩
      dsimp only [Option.toList, List.cons_append, List.nil_append]
      refine G_iast (pc := 71) (jj := 1) (by decide) rfl (by unfold vp_in; decide) dX12_prove_71 ?_
      refine G_aload_n (pc := 72) rfl dX12_prove_72 ?_
      refine G_getR (pc := 73) (r := 81) (ci := 12) (j := 26) rfl lk_RX12_50 rfl rfl rfl dX12_prove_73 ?_
      refine G_iconst (pc := 76) (v := 3) (by decide) dX12_prove_76 ?_
      refine G_iload_n (pc := 77) rfl dX12_prove_77 ?_
      refine G_imul (pc := 78) (z := 0) (by decide) dX12_prove_78 ?_
      refine G_iconst (pc := 79) (v := 2) (by decide) dX12_prove_79 ?_
      refine G_iadd (pc := 80) (z := 2) (by decide) dX12_prove_80 ?_
      refine G_aload_n (pc := 81) rfl dX12_prove_81 ?_
      refine G_iconst (pc := 82) (v := 4) (by decide) dX12_prove_82 ?_
      refine G_callV (pc := 83) (mc1 := 0) (ms1 := 0) (ci := 12) (mj := mX12_those) (vs := [_]) dX12_prove_83 rfl rfl cm_X12_those wh_26 wh_28 wh_29 rfl (Nat.le_of_ble_eq_true rfl) (Nat.le_of_ble_eq_true rfl) (Nat.le_of_ble_eq_true rfl) (Nat.le_of_ble_eq_true rfl) (s10226_X12_those J (d + 7)  ) ?_
      rintro _ _ ⟨rfl, rfl⟩
      dsimp only [Option.toList, List.cons_append, List.nil_append]
      refine G_iast (pc := 86) (jj := 2) (by decide) rfl (by unfold vp_in; decide) dX12_prove_86 ?_
      refine G_iinc (pc := 87) (v := 1) (w := 1) (L1 := [some (.ref 67), some (.int 2), some (.int 1)]) (by decide) rfl rfl (by decide) rfl (by decide) dX12_prove_87 ?_
      refine G_goto (pc := 90) (tgt := 30) (by decide) dX12_prove_90 ?_
      refine G_iload_n (pc := 30) rfl dX12_prove_30 ?_
      refine G_aload_n (pc := 31) rfl dX12_prove_31 ?_
      refine G_getI (pc := 32) (v := 2) (ci := 12) (j := 27) rfl rfl lk_RX12_317 rfl rfl dX12_prove_32 ?_
      refine G_icmp_ge (pc := 35) (tgt := 93) (by decide) dX12_prove_35 (fun z => absurd z (by decide)) (fun _ => ?_)
      refine G_aload_n (pc := 38) rfl dX12_prove_38 ?_
      refine G_getR (pc := 39) (r := 81) (ci := 12) (j := 26) rfl lk_RX12_50 rfl rfl rfl dX12_prove_39 ?_
      refine G_iconst (pc := 42) (v := 3) (by decide) dX12_prove_42 ?_
      refine G_iload_n (pc := 43) rfl dX12_prove_43 ?_
      refine G_imul (pc := 44) (z := 3) (by decide) dX12_prove_44 ?_
      refine G_aload_n (pc := 45) rfl dX12_prove_45 ?_
      refine G_getR (pc := 46) (r := 78) (ci := 12) (j := 18) rfl lk_RX12_41 rfl rfl rfl dX12_prove_46 ?_
      refine G_iload_n (pc := 49) rfl dX12_prove_49 ?_
      refine G_iald (pc := 50) (jj := 1) (v := 0) (by decide) rfl rfl (by unfold vp_in; decide) dX12_prove_50 ?_
      refine G_iast (pc := 51) (jj := 3) (by decide) rfl (by unfold vp_in; decide) dX12_prove_51 ?_
      refine G_aload_n (pc := 52) rfl dX12_prove_52 ?_
      refine G_getR (pc := 53) (r := 81) (ci := 12) (j := 26) rfl lk_RX12_50 rfl rfl rfl dX12_prove_53 ?_
      refine G_iconst (pc := 56) (v := 3) (by decide) dX12_prove_56 ?_
      refine G_iload_n (pc := 57) rfl dX12_prove_57 ?_
      refine G_imul (pc := 58) (z := 3) (by decide) dX12_prove_58 ?_
      refine G_iconst (pc := 59) (v := 1) (by decide) dX12_prove_59 ?_
      refine G_iadd (pc := 60) (z := 4) (by decide) dX12_prove_60 ?_
      refine G_aload_n (pc := 61) rfl dX12_prove_61 ?_
      refine G_aload_n (pc := 62) rfl dX12_prove_62 ?_
      refine G_getR (pc := 63) (r := 78) (ci := 12) (j := 18) rfl lk_RX12_41 rfl rfl rfl dX12_prove_63 ?_
      refine G_iload_n (pc := 66) rfl dX12_prove_66 ?_
      refine G_iald (pc := 67) (jj := 1) (v := 0) (by decide) rfl rfl (by unfold vp_in; decide) dX12_prove_67 ?_
      refine G_callV (pc := 68) (mc1 := 0) (ms1 := 0) (ci := 12) (mj := mX12_goesBy) (vs := [_]) dX12_prove_68 rfl rfl cm_X12_goesBy wh_72 wh_74 wh_75 rfl (Nat.le_of_ble_eq_true rfl) (Nat.le_of_ble_eq_true rfl) (Nat.le_of_ble_eq_true rfl) (Nat.le_of_ble_eq_true rfl) (s10227_X12_goesBy J (d + 7)  ) ?_
      rintro _ _ ⟨rfl, rfl⟩
      dsimp only [Option.toList, List.cons_append, List.nil_append]
      refine G_iast (pc := 71) (jj := 4) (by decide) rfl (by unfold vp_in; decide) dX12_prove_71 ?_
      refine G_aload_n (pc := 72) rfl dX12_prove_72 ?_
      refine G_getR (pc := 73) (r := 81) (ci := 12) (j := 26) rfl lk_RX12_50 rfl rfl rfl dX12_prove_73 ?_
      refine G_iconst (pc := 76) (v := 3) (by decide) dX12_prove_76 ?_
      refine G_iload_n (pc := 77) rfl dX12_prove_77 ?_
      refine G_imul (pc := 78) (z := 3) (by decide) dX12_prove_78 ?_
      refine G_iconst (pc := 79) (v := 2) (by decide) dX12_prove_79 ?_
      refine G_iadd (pc := 80) (z := 5) (by decide) dX12_prove_80 ?_
      refine G_aload_n (pc := 81) rfl dX12_prove_81 ?_
      refine G_iconst (pc := 82) (v := 4) (by decide) dX12_prove_82 ?_
      refine G_callV (pc := 83) (mc1 := 0) (ms1 := 0) (ci := 12) (mj := mX12_those) (vs := [_]) dX12_prove_83 rfl rfl cm_X12_those wh_26 wh_28 wh_29 rfl (Nat.le_of_ble_eq_true rfl) (Nat.le_of_ble_eq_true rfl) (Nat.le_of_ble_eq_true rfl) (Nat.le_of_ble_eq_true rfl) (s10228_X12_those J (d + 7)  ) ?_
      rintro _ _ ⟨rfl, rfl⟩
      dsimp only [Option.toList, List.cons_append, List.nil_append]
      refine G_iast (pc := 86) (jj := 5) (by decide) rfl (by unfold vp_in; decide) dX12_prove_86 ?_
      refine G_iinc (pc := 87) (v := 1) (w := 2) (L1 := [some (.ref 67), some (.int 2), some (.int 2)]) (by decide) rfl rfl (by decide) rfl (by decide) dX12_prove_87 ?_
      refine G_goto (pc := 90) (tgt := 30) (by decide) dX12_prove_90 ?_
      refine G_iload_n (pc := 30) rfl dX12_prove_30 ?_
      refine G_aload_n (pc := 31) rfl dX12_prove_31 ?_
      refine G_getI (pc := 32) (v := 2) (ci := 12) (j := 27) rfl rfl lk_RX12_317 rfl rfl dX12_prove_32 ?_
      refine G_icmp_ge (pc := 35) (tgt := 93) (by decide) dX12_prove_35 (fun _ => ?_) (fun z => absurd (by decide) z)
      refine G_aload_n (pc := 93) rfl dX12_prove_93 ?_
      refine G_callV (pc := 94) (mc1 := 0) (ms1 := 0) (ci := 12) (mj := mX12_layBack) (vs := []) dX12_prove_94 rfl rfl cm_X12_layBack wh_57 wh_59 wh_60 rfl (Nat.le_of_ble_eq_true rfl) (Nat.le_of_ble_eq_true rfl) (Nat.le_of_ble_eq_true rfl) (Nat.le_of_ble_eq_true rfl) (layBack_s (d + 7) (gup (gup (gup (gup (gup (gup (gup (gup (gup (gup (gcp (gup (gcp (gcp (gup (gup (gup (gup (gup (gup (gup (gup (gup (gup (gcp (gup (gup (gup (gcp (gup (gup (gup (gup (gmx J) 67 19 (-1)) 67 20 0) 67 21 5) 67 22 0) 68 76 0 0 65) 77 0 0) 68 0 1) 68 2 0) 68 76 0 65 65) 77 1 0) 68 0 2) 68 2 0) 67 20 0) 67 19 0) 78 0 0) 78 1 0) 67 20 1) 67 21 0) 67 22 0) 76 68 65 0 65) 76 68 0 0 65) 67 27 2) 68 70 0 0 65) 81 0 0) 68 0 1) 68 2 0) 81 1 0) 81 2 0) 81 3 0) 68 0 2) 68 2 0) 81 4 0) 81 5 0)) ?_
      rintro _ _ ⟨rfl, rfl⟩
      dsimp only [Option.toList, List.cons_append, List.nil_append]
      refine G_aload_n (pc := 97) rfl dX12_prove_97 ?_
      refine G_getI (pc := 98) (v := 2) (ci := 12) (j := 27) rfl rfl lk_RX12_317 rfl rfl dX12_prove_98 ?_
      exact G_iret (pc := 101) (Nat.le_of_ble_eq_true rfl) (Nat.le_of_ble_eq_true rfl) rfl dX12_prove_101 (by first | rfl | (simp [F_prove, *]; done) | (simp only [F_prove, Int32.le_iff_toInt_le, Int32.lt_iff_toInt_lt, ← Int32.toInt_inj]; simp; omega) | (simp only [F_prove, Int32.le_iff_toInt_le, Int32.lt_iff_toInt_lt, ← Int32.toInt_inj]; split <;> first | rfl | (exfalso; simp at *; omega)) | (unfold F_prove; (repeat' split) <;> first | rfl | (exfalso; (try simp only [Int32.le_iff_toInt_le, Int32.lt_iff_toInt_lt, ← Int32.toInt_inj] at *); first | omega | (simp at *; done) | (simp at *; omega))))
    by_cases c322 : n = 3
    · subst c322
      refine G_callV (pc := 12) (mc1 := 0) (ms1 := 0) (ci := 12) (mj := mX12_triesAll) (vs := [_, _]) dX12_prove_12 rfl rfl cm_X12_triesAll wh_103 wh_105 wh_106 rfl (Nat.le_of_ble_eq_true rfl) (Nat.le_of_ble_eq_true rfl) (Nat.le_of_ble_eq_true rfl) (Nat.le_of_ble_eq_true rfl) (s10111_X12_triesAll J (d + 1)  ) ?_
      rintro _ _ ⟨rfl, rfl⟩
      dsimp only [Option.toList, List.cons_append, List.nil_append]
      refine G_aload_n (pc := 15) rfl dX12_prove_15 ?_
      refine G_aload_n (pc := 16) rfl dX12_prove_16 ?_
      refine G_iload_n (pc := 17) rfl dX12_prove_17 ?_
      refine G_callV (pc := 18) (mc1 := 0) (ms1 := 0) (ci := 12) (mj := mX12_daysOf) (vs := [_]) dX12_prove_18 rfl rfl cm_X12_daysOf wh_91 wh_93 wh_94 rfl (Nat.le_of_ble_eq_true rfl) (Nat.le_of_ble_eq_true rfl) (Nat.le_of_ble_eq_true rfl) (Nat.le_of_ble_eq_true rfl) (s10138_X12_daysOf J (d + 6)  ) ?_
      rintro _ _ ⟨rfl, rfl⟩
      dsimp only [Option.toList, List.cons_append, List.nil_append]
      refine G_putI (pc := 21) (ci := 12) (j := 27) rfl lk_RX12_317 rfl rfl rfl trivial dX12_prove_21 ?_
      refine G_aload_n (pc := 24) rfl dX12_prove_24 ?_
      refine G_callV (pc := 25) (mc1 := 0) (ms1 := 0) (ci := 12) (mj := mX12_layDown) (vs := []) dX12_prove_25 rfl rfl cm_X12_layDown wh_53 wh_55 wh_56 rfl (Nat.le_of_ble_eq_true rfl) (Nat.le_of_ble_eq_true rfl) (Nat.le_of_ble_eq_true rfl) (Nat.le_of_ble_eq_true rfl) (layDown_s (d + 7) (gup (gcp (gcp (gcp (gup (gup (gup (gup (gup (gup (gup (gup (gup (gup (gup (gcp (gup (gup (gup (gcp (gup (gup (gup (gcp (gup (gup (gup (gup (gmx J) 67 19 (-1)) 67 20 0) 67 21 5) 67 22 0) 68 76 0 0 65) 77 0 0) 68 0 1) 68 2 0) 68 76 0 65 65) 77 1 0) 68 0 2) 68 2 0) 68 76 0 130 65) 77 2 0) 68 0 3) 68 2 0) 67 20 0) 67 19 0) 78 0 0) 78 1 0) 78 2 0) 67 20 1) 67 21 0) 67 22 0) 76 68 130 0 65) 76 68 65 0 65) 76 68 0 0 65) 67 27 3)) ?_
      rintro _ _ ⟨rfl, rfl⟩
      dsimp only [Option.toList, List.cons_append, List.nil_append]
      refine G_iconst (pc := 28) (v := 0) (by decide) dX12_prove_28 ?_
      refine G_istore_n (pc := 29) (L1 := [some (.ref 67), some (.int 3), some (.int 0)]) rfl rfl (by decide) dX12_prove_29 ?_
      refine G_iload_n (pc := 30) rfl dX12_prove_30 ?_
      refine G_aload_n (pc := 31) rfl dX12_prove_31 ?_
      refine G_getI (pc := 32) (v := 3) (ci := 12) (j := 27) rfl rfl lk_RX12_317 rfl rfl dX12_prove_32 ?_
      refine G_icmp_ge (pc := 35) (tgt := 93) (by decide) dX12_prove_35 (fun z => absurd z (by decide)) (fun _ => ?_)
      refine G_aload_n (pc := 38) rfl dX12_prove_38 ?_
      refine G_getR (pc := 39) (r := 81) (ci := 12) (j := 26) rfl lk_RX12_50 rfl rfl rfl dX12_prove_39 ?_
      refine G_iconst (pc := 42) (v := 3) (by decide) dX12_prove_42 ?_
      refine G_iload_n (pc := 43) rfl dX12_prove_43 ?_
      refine G_imul (pc := 44) (z := 0) (by decide) dX12_prove_44 ?_
      refine G_aload_n (pc := 45) rfl dX12_prove_45 ?_
      refine G_getR (pc := 46) (r := 78) (ci := 12) (j := 18) rfl lk_RX12_41 rfl rfl rfl dX12_prove_46 ?_
      refine G_iload_n (pc := 49) rfl dX12_prove_49 ?_
      refine G_iald (pc := 50) (jj := 0) (v := 0) (by decide) rfl rfl (by unfold vp_in; decide) dX12_prove_50 ?_
      refine G_iast (pc := 51) (jj := 0) (by decide) rfl (by unfold vp_in; decide) dX12_prove_51 ?_
      refine G_aload_n (pc := 52) rfl dX12_prove_52 ?_
      refine G_getR (pc := 53) (r := 81) (ci := 12) (j := 26) rfl lk_RX12_50 rfl rfl rfl dX12_prove_53 ?_
      refine G_iconst (pc := 56) (v := 3) (by decide) dX12_prove_56 ?_
      refine G_iload_n (pc := 57) rfl dX12_prove_57 ?_
      refine G_imul (pc := 58) (z := 0) (by decide) dX12_prove_58 ?_
      refine G_iconst (pc := 59) (v := 1) (by decide) dX12_prove_59 ?_
      refine G_iadd (pc := 60) (z := 1) (by decide) dX12_prove_60 ?_
      refine G_aload_n (pc := 61) rfl dX12_prove_61 ?_
      refine G_aload_n (pc := 62) rfl dX12_prove_62 ?_
      refine G_getR (pc := 63) (r := 78) (ci := 12) (j := 18) rfl lk_RX12_41 rfl rfl rfl dX12_prove_63 ?_
      refine G_iload_n (pc := 66) rfl dX12_prove_66 ?_
      refine G_iald (pc := 67) (jj := 0) (v := 0) (by decide) rfl rfl (by unfold vp_in; decide) dX12_prove_67 ?_
      refine G_callV (pc := 68) (mc1 := 0) (ms1 := 0) (ci := 12) (mj := mX12_goesBy) (vs := [_]) dX12_prove_68 rfl rfl cm_X12_goesBy wh_72 wh_74 wh_75 rfl (Nat.le_of_ble_eq_true rfl) (Nat.le_of_ble_eq_true rfl) (Nat.le_of_ble_eq_true rfl) (Nat.le_of_ble_eq_true rfl) (s10229_X12_goesBy J (d + 7)  ) ?_
      rintro _ _ ⟨rfl, rfl⟩
      dsimp only [Option.toList, List.cons_append, List.nil_append]
      refine G_iast (pc := 71) (jj := 1) (by decide) rfl (by unfold vp_in; decide) dX12_prove_71 ?_
      refine G_aload_n (pc := 72) rfl dX12_prove_72 ?_
      refine G_getR (pc := 73) (r := 81) (ci := 12) (j := 26) rfl lk_RX12_50 rfl rfl rfl dX12_prove_73 ?_
      refine G_iconst (pc := 76) (v := 3) (by decide) dX12_prove_76 ?_
      refine G_iload_n (pc := 77) rfl dX12_prove_77 ?_
      refine G_imul (pc := 78) (z := 0) (by decide) dX12_prove_78 ?_
      refine G_iconst (pc := 79) (v := 2) (by decide) dX12_prove_79 ?_
      refine G_iadd (pc := 80) (z := 2) (by decide) dX12_prove_80 ?_
      refine G_aload_n (pc := 81) rfl dX12_prove_81 ?_
      refine G_iconst (pc := 82) (v := 4) (by decide) dX12_prove_82 ?_
      refine G_callV (pc := 83) (mc1 := 0) (ms1 := 0) (ci := 12) (mj := mX12_those) (vs := [_]) dX12_prove_83 rfl rfl cm_X12_those wh_26 wh_28 wh_29 rfl (Nat.le_of_ble_eq_true rfl) (Nat.le_of_ble_eq_true rfl) (Nat.le_of_ble_eq_true rfl) (Nat.le_of_ble_eq_true rfl) (s10230_X12_those J (d + 7)  ) ?_
      rintro _ _ ⟨rfl, rfl⟩
      dsimp only [Option.toList, List.cons_append, List.nil_append]
      refine G_iast (pc := 86) (jj := 2) (by decide) rfl (by unfold vp_in; decide) dX12_prove_86 ?_
      refine G_iinc (pc := 87) (v := 1) (w := 1) (L1 := [some (.ref 67), some (.int 3), some (.int 1)]) (by decide) rfl rfl (by decide) rfl (by decide) dX12_prove_87 ?_
      refine G_goto (pc := 90) (tgt := 30) (by decide) dX12_prove_90 ?_
      refine G_iload_n (pc := 30) rfl dX12_prove_30 ?_
      refine G_aload_n (pc := 31) rfl dX12_prove_31 ?_
      refine G_getI (pc := 32) (v := 3) (ci := 12) (j := 27) rfl rfl lk_RX12_317 rfl rfl dX12_prove_32 ?_
      refine G_icmp_ge (pc := 35) (tgt := 93) (by decide) dX12_prove_35 (fun z => absurd z (by decide)) (fun _ => ?_)
      refine G_aload_n (pc := 38) rfl dX12_prove_38 ?_
      refine G_getR (pc := 39) (r := 81) (ci := 12) (j := 26) rfl lk_RX12_50 rfl rfl rfl dX12_prove_39 ?_
      refine G_iconst (pc := 42) (v := 3) (by decide) dX12_prove_42 ?_
      refine G_iload_n (pc := 43) rfl dX12_prove_43 ?_
      refine G_imul (pc := 44) (z := 3) (by decide) dX12_prove_44 ?_
      refine G_aload_n (pc := 45) rfl dX12_prove_45 ?_
      refine G_getR (pc := 46) (r := 78) (ci := 12) (j := 18) rfl lk_RX12_41 rfl rfl rfl dX12_prove_46 ?_
      refine G_iload_n (pc := 49) rfl dX12_prove_49 ?_
      refine G_iald (pc := 50) (jj := 1) (v := 0) (by decide) rfl rfl (by unfold vp_in; decide) dX12_prove_50 ?_
      refine G_iast (pc := 51) (jj := 3) (by decide) rfl (by unfold vp_in; decide) dX12_prove_51 ?_
      refine G_aload_n (pc := 52) rfl dX12_prove_52 ?_
      refine G_getR (pc := 53) (r := 81) (ci := 12) (j := 26) rfl lk_RX12_50 rfl rfl rfl dX12_prove_53 ?_
      refine G_iconst (pc := 56) (v := 3) (by decide) dX12_prove_56 ?_
      refine G_iload_n (pc := 57) rfl dX12_prove_57 ?_
      refine G_imul (pc := 58) (z := 3) (by decide) dX12_prove_58 ?_
      refine G_iconst (pc := 59) (v := 1) (by decide) dX12_prove_59 ?_
      refine G_iadd (pc := 60) (z := 4) (by decide) dX12_prove_60 ?_
      refine G_aload_n (pc := 61) rfl dX12_prove_61 ?_
      refine G_aload_n (pc := 62) rfl dX12_prove_62 ?_
      refine G_getR (pc := 63) (r := 78) (ci := 12) (j := 18) rfl lk_RX12_41 rfl rfl rfl dX12_prove_63 ?_
      refine G_iload_n (pc := 66) rfl dX12_prove_66 ?_
      refine G_iald (pc := 67) (jj := 1) (v := 0) (by decide) rfl rfl (by unfold vp_in; decide) dX12_prove_67 ?_
      refine G_callV (pc := 68) (mc1 := 0) (ms1 := 0) (ci := 12) (mj := mX12_goesBy) (vs := [_]) dX12_prove_68 rfl rfl cm_X12_goesBy wh_72 wh_74 wh_75 rfl (Nat.le_of_ble_eq_true rfl) (Nat.le_of_ble_eq_true rfl) (Nat.le_of_ble_eq_true rfl) (Nat.le_of_ble_eq_true rfl) (s10231_X12_goesBy J (d + 7)  ) ?_
      rintro _ _ ⟨rfl, rfl⟩
      dsimp only [Option.toList, List.cons_append, List.nil_append]
      refine G_iast (pc := 71) (jj := 4) (by decide) rfl (by unfold vp_in; decide) dX12_prove_71 ?_
      refine G_aload_n (pc := 72) rfl dX12_prove_72 ?_
      refine G_getR (pc := 73) (r := 81) (ci := 12) (j := 26) rfl lk_RX12_50 rfl rfl rfl dX12_prove_73 ?_
      refine G_iconst (pc := 76) (v := 3) (by decide) dX12_prove_76 ?_
      refine G_iload_n (pc := 77) rfl dX12_prove_77 ?_
      refine G_imul (pc := 78) (z := 3) (by decide) dX12_prove_78 ?_
      refine G_iconst (pc := 79) (v := 2) (by decide) dX12_prove_79 ?_
      refine G_iadd (pc := 80) (z := 5) (by decide) dX12_prove_80 ?_
      refine G_aload_n (pc := 81) rfl dX12_prove_81 ?_
      refine G_iconst (pc := 82) (v := 4) (by decide) dX12_prove_82 ?_
      refine G_callV (pc := 83) (mc1 := 0) (ms1 := 0) (ci := 12) (mj := mX12_those) (vs := [_]) dX12_prove_83 rfl rfl cm_X12_those wh_26 wh_28 wh_29 rfl (Nat.le_of_ble_eq_true rfl) (Nat.le_of_ble_eq_true rfl) (Nat.le_of_ble_eq_true rfl) (Nat.le_of_ble_eq_true rfl) (s10232_X12_those J (d + 7)  ) ?_
      rintro _ _ ⟨rfl, rfl⟩
      dsimp only [Option.toList, List.cons_append, List.nil_append]
      refine G_iast (pc := 86) (jj := 5) (by decide) rfl (by unfold vp_in; decide) dX12_prove_86 ?_
      refine G_iinc (pc := 87) (v := 1) (w := 2) (L1 := [some (.ref 67), some (.int 3), some (.int 2)]) (by decide) rfl rfl (by decide) rfl (by decide) dX12_prove_87 ?_
      refine G_goto (pc := 90) (tgt := 30) (by decide) dX12_prove_90 ?_
      refine G_iload_n (pc := 30) rfl dX12_prove_30 ?_
      refine G_aload_n (pc := 31) rfl dX12_prove_31 ?_
      refine G_getI (pc := 32) (v := 3) (ci := 12) (j := 27) rfl rfl lk_RX12_317 rfl rfl dX12_prove_32 ?_
      refine G_icmp_ge (pc := 35) (tgt := 93) (by decide) dX12_prove_35 (fun z => absurd z (by decide)) (fun _ => ?_)
      refine G_aload_n (pc := 38) rfl dX12_prove_38 ?_
      refine G_getR (pc := 39) (r := 81) (ci := 12) (j := 26) rfl lk_RX12_50 rfl rfl rfl dX12_prove_39 ?_
      refine G_iconst (pc := 42) (v := 3) (by decide) dX12_prove_42 ?_
      refine G_iload_n (pc := 43) rfl dX12_prove_43 ?_
      refine G_imul (pc := 44) (z := 6) (by decide) dX12_prove_44 ?_
      refine G_aload_n (pc := 45) rfl dX12_prove_45 ?_
      refine G_getR (pc := 46) (r := 78) (ci := 12) (j := 18) rfl lk_RX12_41 rfl rfl rfl dX12_prove_46 ?_
      refine G_iload_n (pc := 49) rfl dX12_prove_49 ?_
      refine G_iald (pc := 50) (jj := 2) (v := 0) (by decide) rfl rfl (by unfold vp_in; decide) dX12_prove_50 ?_
      refine G_iast (pc := 51) (jj := 6) (by decide) rfl (by unfold vp_in; decide) dX12_prove_51 ?_
      refine G_aload_n (pc := 52) rfl dX12_prove_52 ?_
      refine G_getR (pc := 53) (r := 81) (ci := 12) (j := 26) rfl lk_RX12_50 rfl rfl rfl dX12_prove_53 ?_
      refine G_iconst (pc := 56) (v := 3) (by decide) dX12_prove_56 ?_
      refine G_iload_n (pc := 57) rfl dX12_prove_57 ?_
      refine G_imul (pc := 58) (z := 6) (by decide) dX12_prove_58 ?_
      refine G_iconst (pc := 59) (v := 1) (by decide) dX12_prove_59 ?_
      refine G_iadd (pc := 60) (z := 7) (by decide) dX12_prove_60 ?_
      refine G_aload_n (pc := 61) rfl dX12_prove_61 ?_
      refine G_aload_n (pc := 62) rfl dX12_prove_62 ?_
      refine G_getR (pc := 63) (r := 78) (ci := 12) (j := 18) rfl lk_RX12_41 rfl rfl rfl dX12_prove_63 ?_
      refine G_iload_n (pc := 66) rfl dX12_prove_66 ?_
      refine G_iald (pc := 67) (jj := 2) (v := 0) (by decide) rfl rfl (by unfold vp_in; decide) dX12_prove_67 ?_
      refine G_callV (pc := 68) (mc1 := 0) (ms1 := 0) (ci := 12) (mj := mX12_goesBy) (vs := [_]) dX12_prove_68 rfl rfl cm_X12_goesBy wh_72 wh_74 wh_75 rfl (Nat.le_of_ble_eq_true rfl) (Nat.le_of_ble_eq_true rfl) (Nat.le_of_ble_eq_true rfl) (Nat.le_of_ble_eq_true rfl) (s10233_X12_goesBy J (d + 7)  ) ?_
      rintro _ _ ⟨rfl, rfl⟩
      dsimp only [Option.toList, List.cons_append, List.nil_append]
      refine G_iast (pc := 71) (jj := 7) (by decide) rfl (by unfold vp_in; decide) dX12_prove_71 ?_
      refine G_aload_n (pc := 72) rfl dX12_prove_72 ?_
      refine G_getR (pc := 73) (r := 81) (ci := 12) (j := 26) rfl lk_RX12_50 rfl rfl rfl dX12_prove_73 ?_
      refine G_iconst (pc := 76) (v := 3) (by decide) dX12_prove_76 ?_
      refine G_iload_n (pc := 77) rfl dX12_prove_77 ?_
      refine G_imul (pc := 78) (z := 6) (by decide) dX12_prove_78 ?_
      refine G_iconst (pc := 79) (v := 2) (by decide) dX12_prove_79 ?_
      refine G_iadd (pc := 80) (z := 8) (by decide) dX12_prove_80 ?_
      refine G_aload_n (pc := 81) rfl dX12_prove_81 ?_
      refine G_iconst (pc := 82) (v := 4) (by decide) dX12_prove_82 ?_
      refine G_callV (pc := 83) (mc1 := 0) (ms1 := 0) (ci := 12) (mj := mX12_those) (vs := [_]) dX12_prove_83 rfl rfl cm_X12_those wh_26 wh_28 wh_29 rfl (Nat.le_of_ble_eq_true rfl) (Nat.le_of_ble_eq_true rfl) (Nat.le_of_ble_eq_true rfl) (Nat.le_of_ble_eq_true rfl) (s10234_X12_those J (d + 7)  ) ?_
      rintro _ _ ⟨rfl, rfl⟩
      dsimp only [Option.toList, List.cons_append, List.nil_append]
      refine G_iast (pc := 86) (jj := 8) (by decide) rfl (by unfold vp_in; decide) dX12_prove_86 ?_
      refine G_iinc (pc := 87) (v := 1) (w := 3) (L1 := [some (.ref 67), some (.int 3), some (.int 3)]) (by decide) rfl rfl (by decide) rfl (by decide) dX12_prove_87 ?_
      refine G_goto (pc := 90) (tgt := 30) (by decide) dX12_prove_90 ?_
      refine G_iload_n (pc := 30) rfl dX12_prove_30 ?_
      refine G_aload_n (pc := 31) rfl dX12_prove_31 ?_
      refine G_getI (pc := 32) (v := 3) (ci := 12) (j := 27) rfl rfl lk_RX12_317 rfl rfl dX12_prove_32 ?_
      refine G_icmp_ge (pc := 35) (tgt := 93) (by decide) dX12_prove_35 (fun _ => ?_) (fun z => absurd (by decide) z)
      refine G_aload_n (pc := 93) rfl dX12_prove_93 ?_
      refine G_callV (pc := 94) (mc1 := 0) (ms1 := 0) (ci := 12) (mj := mX12_layBack) (vs := []) dX12_prove_94 rfl rfl cm_X12_layBack wh_57 wh_59 wh_60 rfl (Nat.le_of_ble_eq_true rfl) (Nat.le_of_ble_eq_true rfl) (Nat.le_of_ble_eq_true rfl) (Nat.le_of_ble_eq_true rfl) (layBack_s (d + 7) (gup (gup (gup (gup (gup (gup (gup (gup (gup (gup (gup (gup (gup (gup (gup (gcp (gup (gcp (gcp (gcp (gup (gup (gup (gup (gup (gup (gup (gup (gup (gup (gup (gcp (gup (gup (gup (gcp (gup (gup (gup (gcp (gup (gup (gup (gup (gmx J) 67 19 (-1)) 67 20 0) 67 21 5) 67 22 0) 68 76 0 0 65) 77 0 0) 68 0 1) 68 2 0) 68 76 0 65 65) 77 1 0) 68 0 2) 68 2 0) 68 76 0 130 65) 77 2 0) 68 0 3) 68 2 0) 67 20 0) 67 19 0) 78 0 0) 78 1 0) 78 2 0) 67 20 1) 67 21 0) 67 22 0) 76 68 130 0 65) 76 68 65 0 65) 76 68 0 0 65) 67 27 3) 68 70 0 0 65) 81 0 0) 68 0 1) 68 2 0) 81 1 0) 81 2 0) 81 3 0) 68 0 2) 68 2 0) 81 4 0) 81 5 0) 81 6 0) 68 0 3) 68 2 0) 81 7 0) 81 8 0)) ?_
      rintro _ _ ⟨rfl, rfl⟩
      dsimp only [Option.toList, List.cons_append, List.nil_append]
      refine G_aload_n (pc := 97) rfl dX12_prove_97 ?_
      refine G_getI (pc := 98) (v := 3) (ci := 12) (j := 27) rfl rfl lk_RX12_317 rfl rfl dX12_prove_98 ?_
      exact G_iret (pc := 101) (Nat.le_of_ble_eq_true rfl) (Nat.le_of_ble_eq_true rfl) rfl dX12_prove_101 (by first | rfl | (simp [F_prove, *]; done) | (simp only [F_prove, Int32.le_iff_toInt_le, Int32.lt_iff_toInt_lt, ← Int32.toInt_inj]; simp; omega) | (simp only [F_prove, Int32.le_iff_toInt_le, Int32.lt_iff_toInt_lt, ← Int32.toInt_inj]; split <;> first | rfl | (exfalso; simp at *; omega)) | (unfold F_prove; (repeat' split) <;> first | rfl | (exfalso; (try simp only [Int32.le_iff_toInt_le, Int32.lt_iff_toInt_lt, ← Int32.toInt_inj] at *); first | omega | (simp at *; done) | (simp at *; omega))))
    by_cases c323 : n = 4
    · subst c323
      refine G_callV (pc := 12) (mc1 := 0) (ms1 := 0) (ci := 12) (mj := mX12_triesAll) (vs := [_, _]) dX12_prove_12 rfl rfl cm_X12_triesAll wh_103 wh_105 wh_106 rfl (Nat.le_of_ble_eq_true rfl) (Nat.le_of_ble_eq_true rfl) (Nat.le_of_ble_eq_true rfl) (Nat.le_of_ble_eq_true rfl) (s10120_X12_triesAll J d  ) ?_
      rintro _ _ ⟨rfl, rfl⟩
      dsimp only [Option.toList, List.cons_append, List.nil_append]
      refine G_aload_n (pc := 15) rfl dX12_prove_15 ?_
      refine G_aload_n (pc := 16) rfl dX12_prove_16 ?_
      refine G_iload_n (pc := 17) rfl dX12_prove_17 ?_
      refine G_callV (pc := 18) (mc1 := 0) (ms1 := 0) (ci := 12) (mj := mX12_daysOf) (vs := [_]) dX12_prove_18 rfl rfl cm_X12_daysOf wh_91 wh_93 wh_94 rfl (Nat.le_of_ble_eq_true rfl) (Nat.le_of_ble_eq_true rfl) (Nat.le_of_ble_eq_true rfl) (Nat.le_of_ble_eq_true rfl) (s10140_X12_daysOf J (d + 6)  ) ?_
      rintro _ _ ⟨rfl, rfl⟩
      dsimp only [Option.toList, List.cons_append, List.nil_append]
      refine G_putI (pc := 21) (ci := 12) (j := 27) rfl lk_RX12_317 rfl rfl rfl trivial dX12_prove_21 ?_
      refine G_aload_n (pc := 24) rfl dX12_prove_24 ?_
      refine G_callV (pc := 25) (mc1 := 0) (ms1 := 0) (ci := 12) (mj := mX12_layDown) (vs := []) dX12_prove_25 rfl rfl cm_X12_layDown wh_53 wh_55 wh_56 rfl (Nat.le_of_ble_eq_true rfl) (Nat.le_of_ble_eq_true rfl) (Nat.le_of_ble_eq_true rfl) (Nat.le_of_ble_eq_true rfl) (layDown_s (d + 7) (gup (gcp (gcp (gcp (gcp (gup (gup (gup (gup (gup (gup (gup (gup (gup (gup (gup (gup (gcp (gup (gup (gup (gcp (gup (gup (gup (gcp (gup (gup (gup (gcp (gup (gup (gup (gup (gmx J) 67 19 (-1)) 67 20 0) 67 21 5) 67 22 0) 68 76 0 0 65) 77 0 0) 68 0 1) 68 2 0) 68 76 0 65 65) 77 1 0) 68 0 2) 68 2 0) 68 76 0 130 65) 77 2 0) 68 0 3) 68 2 0) 68 76 0 195 65) 77 3 0) 68 0 4) 68 2 0) 67 20 0) 67 19 0) 78 0 0) 78 1 0) 78 2 0) 78 3 0) 67 20 1) 67 21 0) 67 22 0) 76 68 195 0 65) 76 68 130 0 65) 76 68 65 0 65) 76 68 0 0 65) 67 27 4)) ?_
      rintro _ _ ⟨rfl, rfl⟩
      dsimp only [Option.toList, List.cons_append, List.nil_append]
      refine G_iconst (pc := 28) (v := 0) (by decide) dX12_prove_28 ?_
      refine G_istore_n (pc := 29) (L1 := [some (.ref 67), some (.int 4), some (.int 0)]) rfl rfl (by decide) dX12_prove_29 ?_
      refine G_iload_n (pc := 30) rfl dX12_prove_30 ?_
      refine G_aload_n (pc := 31) rfl dX12_prove_31 ?_
      refine G_getI (pc := 32) (v := 4) (ci := 12) (j := 27) rfl rfl lk_RX12_317 rfl rfl dX12_prove_32 ?_
      refine G_icmp_ge (pc := 35) (tgt := 93) (by decide) dX12_prove_35 (fun z => absurd z (by decide)) (fun _ => ?_)
      refine G_aload_n (pc := 38) rfl dX12_prove_38 ?_
      refine G_getR (pc := 39) (r := 81) (ci := 12) (j := 26) rfl lk_RX12_50 rfl rfl rfl dX12_prove_39 ?_
      refine G_iconst (pc := 42) (v := 3) (by decide) dX12_prove_42 ?_
      refine G_iload_n (pc := 43) rfl dX12_prove_43 ?_
      refine G_imul (pc := 44) (z := 0) (by decide) dX12_prove_44 ?_
      refine G_aload_n (pc := 45) rfl dX12_prove_45 ?_
      refine G_getR (pc := 46) (r := 78) (ci := 12) (j := 18) rfl lk_RX12_41 rfl rfl rfl dX12_prove_46 ?_
      refine G_iload_n (pc := 49) rfl dX12_prove_49 ?_
      refine G_iald (pc := 50) (jj := 0) (v := 0) (by decide) rfl rfl (by unfold vp_in; decide) dX12_prove_50 ?_
      refine G_iast (pc := 51) (jj := 0) (by decide) rfl (by unfold vp_in; decide) dX12_prove_51 ?_
      refine G_aload_n (pc := 52) rfl dX12_prove_52 ?_
      refine G_getR (pc := 53) (r := 81) (ci := 12) (j := 26) rfl lk_RX12_50 rfl rfl rfl dX12_prove_53 ?_
      refine G_iconst (pc := 56) (v := 3) (by decide) dX12_prove_56 ?_
      refine G_iload_n (pc := 57) rfl dX12_prove_57 ?_
      refine G_imul (pc := 58) (z := 0) (by decide) dX12_prove_58 ?_
      refine G_iconst (pc := 59) (v := 1) (by decide) dX12_prove_59 ?_
      refine G_iadd (pc := 60) (z := 1) (by decide) dX12_prove_60 ?_
      refine G_aload_n (pc := 61) rfl dX12_prove_61 ?_
      refine G_aload_n (pc := 62) rfl dX12_prove_62 ?_
      refine G_getR (pc := 63) (r := 78) (ci := 12) (j := 18) rfl lk_RX12_41 rfl rfl rfl dX12_prove_63 ?_
      refine G_iload_n (pc := 66) rfl dX12_prove_66 ?_
      refine G_iald (pc := 67) (jj := 0) (v := 0) (by decide) rfl rfl (by unfold vp_in; decide) dX12_prove_67 ?_
      refine G_callV (pc := 68) (mc1 := 0) (ms1 := 0) (ci := 12) (mj := mX12_goesBy) (vs := [_]) dX12_prove_68 rfl rfl cm_X12_goesBy wh_72 wh_74 wh_75 rfl (Nat.le_of_ble_eq_true rfl) (Nat.le_of_ble_eq_true rfl) (Nat.le_of_ble_eq_true rfl) (Nat.le_of_ble_eq_true rfl) (s10235_X12_goesBy J (d + 7)  ) ?_
      rintro _ _ ⟨rfl, rfl⟩
      dsimp only [Option.toList, List.cons_append, List.nil_append]
      refine G_iast (pc := 71) (jj := 1) (by decide) rfl (by unfold vp_in; decide) dX12_prove_71 ?_
      refine G_aload_n (pc := 72) rfl dX12_prove_72 ?_
      refine G_getR (pc := 73) (r := 81) (ci := 12) (j := 26) rfl lk_RX12_50 rfl rfl rfl dX12_prove_73 ?_
      refine G_iconst (pc := 76) (v := 3) (by decide) dX12_prove_76 ?_
      refine G_iload_n (pc := 77) rfl dX12_prove_77 ?_
      refine G_imul (pc := 78) (z := 0) (by decide) dX12_prove_78 ?_
      refine G_iconst (pc := 79) (v := 2) (by decide) dX12_prove_79 ?_
      refine G_iadd (pc := 80) (z := 2) (by decide) dX12_prove_80 ?_
      refine G_aload_n (pc := 81) rfl dX12_prove_81 ?_
      refine G_iconst (pc := 82) (v := 4) (by decide) dX12_prove_82 ?_
      refine G_callV (pc := 83) (mc1 := 0) (ms1 := 0) (ci := 12) (mj := mX12_those) (vs := [_]) dX12_prove_83 rfl rfl cm_X12_those wh_26 wh_28 wh_29 rfl (Nat.le_of_ble_eq_true rfl) (Nat.le_of_ble_eq_true rfl) (Nat.le_of_ble_eq_true rfl) (Nat.le_of_ble_eq_true rfl) (s10236_X12_those J (d + 7)  ) ?_
      rintro _ _ ⟨rfl, rfl⟩
      dsimp only [Option.toList, List.cons_append, List.nil_append]
      refine G_iast (pc := 86) (jj := 2) (by decide) rfl (by unfold vp_in; decide) dX12_prove_86 ?_
      refine G_iinc (pc := 87) (v := 1) (w := 1) (L1 := [some (.ref 67), some (.int 4), some (.int 1)]) (by decide) rfl rfl (by decide) rfl (by decide) dX12_prove_87 ?_
      refine G_goto (pc := 90) (tgt := 30) (by decide) dX12_prove_90 ?_
      refine G_iload_n (pc := 30) rfl dX12_prove_30 ?_
      refine G_aload_n (pc := 31) rfl dX12_prove_31 ?_
      refine G_getI (pc := 32) (v := 4) (ci := 12) (j := 27) rfl rfl lk_RX12_317 rfl rfl dX12_prove_32 ?_
      refine G_icmp_ge (pc := 35) (tgt := 93) (by decide) dX12_prove_35 (fun z => absurd z (by decide)) (fun _ => ?_)
      refine G_aload_n (pc := 38) rfl dX12_prove_38 ?_
      refine G_getR (pc := 39) (r := 81) (ci := 12) (j := 26) rfl lk_RX12_50 rfl rfl rfl dX12_prove_39 ?_
      refine G_iconst (pc := 42) (v := 3) (by decide) dX12_prove_42 ?_
      refine G_iload_n (pc := 43) rfl dX12_prove_43 ?_
      refine G_imul (pc := 44) (z := 3) (by decide) dX12_prove_44 ?_
      refine G_aload_n (pc := 45) rfl dX12_prove_45 ?_
      refine G_getR (pc := 46) (r := 78) (ci := 12) (j := 18) rfl lk_RX12_41 rfl rfl rfl dX12_prove_46 ?_
      refine G_iload_n (pc := 49) rfl dX12_prove_49 ?_
      refine G_iald (pc := 50) (jj := 1) (v := 0) (by decide) rfl rfl (by unfold vp_in; decide) dX12_prove_50 ?_
      refine G_iast (pc := 51) (jj := 3) (by decide) rfl (by unfold vp_in; decide) dX12_prove_51 ?_
      refine G_aload_n (pc := 52) rfl dX12_prove_52 ?_
      refine G_getR (pc := 53) (r := 81) (ci := 12) (j := 26) rfl lk_RX12_50 rfl rfl rfl dX12_prove_53 ?_
      refine G_iconst (pc := 56) (v := 3) (by decide) dX12_prove_56 ?_
      refine G_iload_n (pc := 57) rfl dX12_prove_57 ?_
      refine G_imul (pc := 58) (z := 3) (by decide) dX12_prove_58 ?_
      refine G_iconst (pc := 59) (v := 1) (by decide) dX12_prove_59 ?_
      refine G_iadd (pc := 60) (z := 4) (by decide) dX12_prove_60 ?_
      refine G_aload_n (pc := 61) rfl dX12_prove_61 ?_
      refine G_aload_n (pc := 62) rfl dX12_prove_62 ?_
      refine G_getR (pc := 63) (r := 78) (ci := 12) (j := 18) rfl lk_RX12_41 rfl rfl rfl dX12_prove_63 ?_
      refine G_iload_n (pc := 66) rfl dX12_prove_66 ?_
      refine G_iald (pc := 67) (jj := 1) (v := 0) (by decide) rfl rfl (by unfold vp_in; decide) dX12_prove_67 ?_
      refine G_callV (pc := 68) (mc1 := 0) (ms1 := 0) (ci := 12) (mj := mX12_goesBy) (vs := [_]) dX12_prove_68 rfl rfl cm_X12_goesBy wh_72 wh_74 wh_75 rfl (Nat.le_of_ble_eq_true rfl) (Nat.le_of_ble_eq_true rfl) (Nat.le_of_ble_eq_true rfl) (Nat.le_of_ble_eq_true rfl) (s10237_X12_goesBy J (d + 7)  ) ?_
      rintro _ _ ⟨rfl, rfl⟩
      dsimp only [Option.toList, List.cons_append, List.nil_append]
      refine G_iast (pc := 71) (jj := 4) (by decide) rfl (by unfold vp_in; decide) dX12_prove_71 ?_
      refine G_aload_n (pc := 72) rfl dX12_prove_72 ?_
      refine G_getR (pc := 73) (r := 81) (ci := 12) (j := 26) rfl lk_RX12_50 rfl rfl rfl dX12_prove_73 ?_
      refine G_iconst (pc := 76) (v := 3) (by decide) dX12_prove_76 ?_
      refine G_iload_n (pc := 77) rfl dX12_prove_77 ?_
      refine G_imul (pc := 78) (z := 3) (by decide) dX12_prove_78 ?_
      refine G_iconst (pc := 79) (v := 2) (by decide) dX12_prove_79 ?_
      refine G_iadd (pc := 80) (z := 5) (by decide) dX12_prove_80 ?_
      refine G_aload_n (pc := 81) rfl dX12_prove_81 ?_
      refine G_iconst (pc := 82) (v := 4) (by decide) dX12_prove_82 ?_
      refine G_callV (pc := 83) (mc1 := 0) (ms1 := 0) (ci := 12) (mj := mX12_those) (vs := [_]) dX12_prove_83 rfl rfl cm_X12_those wh_26 wh_28 wh_29 rfl (Nat.le_of_ble_eq_true rfl) (Nat.le_of_ble_eq_true rfl) (Nat.le_of_ble_eq_true rfl) (Nat.le_of_ble_eq_true rfl) (s10238_X12_those J (d + 7)  ) ?_
      rintro _ _ ⟨rfl, rfl⟩
      dsimp only [Option.toList, List.cons_append, List.nil_append]
      refine G_iast (pc := 86) (jj := 5) (by decide) rfl (by unfold vp_in; decide) dX12_prove_86 ?_
      refine G_iinc (pc := 87) (v := 1) (w := 2) (L1 := [some (.ref 67), some (.int 4), some (.int 2)]) (by decide) rfl rfl (by decide) rfl (by decide) dX12_prove_87 ?_
      refine G_goto (pc := 90) (tgt := 30) (by decide) dX12_prove_90 ?_
      refine G_iload_n (pc := 30) rfl dX12_prove_30 ?_
      refine G_aload_n (pc := 31) rfl dX12_prove_31 ?_
      refine G_getI (pc := 32) (v := 4) (ci := 12) (j := 27) rfl rfl lk_RX12_317 rfl rfl dX12_prove_32 ?_
      refine G_icmp_ge (pc := 35) (tgt := 93) (by decide) dX12_prove_35 (fun z => absurd z (by decide)) (fun _ => ?_)
      refine G_aload_n (pc := 38) rfl dX12_prove_38 ?_
      refine G_getR (pc := 39) (r := 81) (ci := 12) (j := 26) rfl lk_RX12_50 rfl rfl rfl dX12_prove_39 ?_
      refine G_iconst (pc := 42) (v := 3) (by decide) dX12_prove_42 ?_
      refine G_iload_n (pc := 43) rfl dX12_prove_43 ?_
      refine G_imul (pc := 44) (z := 6) (by decide) dX12_prove_44 ?_
      refine G_aload_n (pc := 45) rfl dX12_prove_45 ?_
      refine G_getR (pc := 46) (r := 78) (ci := 12) (j := 18) rfl lk_RX12_41 rfl rfl rfl dX12_prove_46 ?_
      refine G_iload_n (pc := 49) rfl dX12_prove_49 ?_
      refine G_iald (pc := 50) (jj := 2) (v := 0) (by decide) rfl rfl (by unfold vp_in; decide) dX12_prove_50 ?_
      refine G_iast (pc := 51) (jj := 6) (by decide) rfl (by unfold vp_in; decide) dX12_prove_51 ?_
      refine G_aload_n (pc := 52) rfl dX12_prove_52 ?_
      refine G_getR (pc := 53) (r := 81) (ci := 12) (j := 26) rfl lk_RX12_50 rfl rfl rfl dX12_prove_53 ?_
      refine G_iconst (pc := 56) (v := 3) (by decide) dX12_prove_56 ?_
      refine G_iload_n (pc := 57) rfl dX12_prove_57 ?_
      refine G_imul (pc := 58) (z := 6) (by decide) dX12_prove_58 ?_
      refine G_iconst (pc := 59) (v := 1) (by decide) dX12_prove_59 ?_
      refine G_iadd (pc := 60) (z := 7) (by decide) dX12_prove_60 ?_
      refine G_aload_n (pc := 61) rfl dX12_prove_61 ?_
      refine G_aload_n (pc := 62) rfl dX12_prove_62 ?_
      refine G_getR (pc := 63) (r := 78) (ci := 12) (j := 18) rfl lk_RX12_41 rfl rfl rfl dX12_prove_63 ?_
      refine G_iload_n (pc := 66) rfl dX12_prove_66 ?_
      refine G_iald (pc := 67) (jj := 2) (v := 0) (by decide) rfl rfl (by unfold vp_in; decide) dX12_prove_67 ?_
      refine G_callV (pc := 68) (mc1 := 0) (ms1 := 0) (ci := 12) (mj := mX12_goesBy) (vs := [_]) dX12_prove_68 rfl rfl cm_X12_goesBy wh_72 wh_74 wh_75 rfl (Nat.le_of_ble_eq_true rfl) (Nat.le_of_ble_eq_true rfl) (Nat.le_of_ble_eq_true rfl) (Nat.le_of_ble_eq_true rfl) (s10239_X12_goesBy J (d + 7)  ) ?_
      rintro _ _ ⟨rfl, rfl⟩
      dsimp only [Option.toList, List.cons_append, List.nil_append]
      refine G_iast (pc := 71) (jj := 7) (by decide) rfl (by unfold vp_in; decide) dX12_prove_71 ?_
      refine G_aload_n (pc := 72) rfl dX12_prove_72 ?_
      refine G_getR (pc := 73) (r := 81) (ci := 12) (j := 26) rfl lk_RX12_50 rfl rfl rfl dX12_prove_73 ?_
      refine G_iconst (pc := 76) (v := 3) (by decide) dX12_prove_76 ?_
      refine G_iload_n (pc := 77) rfl dX12_prove_77 ?_
      refine G_imul (pc := 78) (z := 6) (by decide) dX12_prove_78 ?_
      refine G_iconst (pc := 79) (v := 2) (by decide) dX12_prove_79 ?_
      refine G_iadd (pc := 80) (z := 8) (by decide) dX12_prove_80 ?_
      refine G_aload_n (pc := 81) rfl dX12_prove_81 ?_
      refine G_iconst (pc := 82) (v := 4) (by decide) dX12_prove_82 ?_
      refine G_callV (pc := 83) (mc1 := 0) (ms1 := 0) (ci := 12) (mj := mX12_those) (vs := [_]) dX12_prove_83 rfl rfl cm_X12_those wh_26 wh_28 wh_29 rfl (Nat.le_of_ble_eq_true rfl) (Nat.le_of_ble_eq_true rfl) (Nat.le_of_ble_eq_true rfl) (Nat.le_of_ble_eq_true rfl) (s10240_X12_those J (d + 7)  ) ?_
      rintro _ _ ⟨rfl, rfl⟩
      dsimp only [Option.toList, List.cons_append, List.nil_append]
      refine G_iast (pc := 86) (jj := 8) (by decide) rfl (by unfold vp_in; decide) dX12_prove_86 ?_
      refine G_iinc (pc := 87) (v := 1) (w := 3) (L1 := [some (.ref 67), some (.int 4), some (.int 3)]) (by decide) rfl rfl (by decide) rfl (by decide) dX12_prove_87 ?_
      refine G_goto (pc := 90) (tgt := 30) (by decide) dX12_prove_90 ?_
      refine G_iload_n (pc := 30) rfl dX12_prove_30 ?_
      refine G_aload_n (pc := 31) rfl dX12_prove_31 ?_
      refine G_getI (pc := 32) (v := 4) (ci := 12) (j := 27) rfl rfl lk_RX12_317 rfl rfl dX12_prove_32 ?_
      refine G_icmp_ge (pc := 35) (tgt := 93) (by decide) dX12_prove_35 (fun z => absurd z (by decide)) (fun _ => ?_)
      refine G_aload_n (pc := 38) rfl dX12_prove_38 ?_
      refine G_getR (pc := 39) (r := 81) (ci := 12) (j := 26) rfl lk_RX12_50 rfl rfl rfl dX12_prove_39 ?_
      refine G_iconst (pc := 42) (v := 3) (by decide) dX12_prove_42 ?_
      refine G_iload_n (pc := 43) rfl dX12_prove_43 ?_
      refine G_imul (pc := 44) (z := 9) (by decide) dX12_prove_44 ?_
      refine G_aload_n (pc := 45) rfl dX12_prove_45 ?_
      refine G_getR (pc := 46) (r := 78) (ci := 12) (j := 18) rfl lk_RX12_41 rfl rfl rfl dX12_prove_46 ?_
      refine G_iload_n (pc := 49) rfl dX12_prove_49 ?_
      refine G_iald (pc := 50) (jj := 3) (v := 0) (by decide) rfl rfl (by unfold vp_in; decide) dX12_prove_50 ?_
      refine G_iast (pc := 51) (jj := 9) (by decide) rfl (by unfold vp_in; decide) dX12_prove_51 ?_
      refine G_aload_n (pc := 52) rfl dX12_prove_52 ?_
      refine G_getR (pc := 53) (r := 81) (ci := 12) (j := 26) rfl lk_RX12_50 rfl rfl rfl dX12_prove_53 ?_
      refine G_iconst (pc := 56) (v := 3) (by decide) dX12_prove_56 ?_
      refine G_iload_n (pc := 57) rfl dX12_prove_57 ?_
      refine G_imul (pc := 58) (z := 9) (by decide) dX12_prove_58 ?_
      refine G_iconst (pc := 59) (v := 1) (by decide) dX12_prove_59 ?_
      refine G_iadd (pc := 60) (z := 10) (by decide) dX12_prove_60 ?_
      refine G_aload_n (pc := 61) rfl dX12_prove_61 ?_
      refine G_aload_n (pc := 62) rfl dX12_prove_62 ?_
      refine G_getR (pc := 63) (r := 78) (ci := 12) (j := 18) rfl lk_RX12_41 rfl rfl rfl dX12_prove_63 ?_
      refine G_iload_n (pc := 66) rfl dX12_prove_66 ?_
      refine G_iald (pc := 67) (jj := 3) (v := 0) (by decide) rfl rfl (by unfold vp_in; decide) dX12_prove_67 ?_
      refine G_callV (pc := 68) (mc1 := 0) (ms1 := 0) (ci := 12) (mj := mX12_goesBy) (vs := [_]) dX12_prove_68 rfl rfl cm_X12_goesBy wh_72 wh_74 wh_75 rfl (Nat.le_of_ble_eq_true rfl) (Nat.le_of_ble_eq_true rfl) (Nat.le_of_ble_eq_true rfl) (Nat.le_of_ble_eq_true rfl) (s10241_X12_goesBy J (d + 7)  ) ?_
      rintro _ _ ⟨rfl, rfl⟩
      dsimp only [Option.toList, List.cons_append, List.nil_append]
      refine G_iast (pc := 71) (jj := 10) (by decide) rfl (by unfold vp_in; decide) dX12_prove_71 ?_
      refine G_aload_n (pc := 72) rfl dX12_prove_72 ?_
      refine G_getR (pc := 73) (r := 81) (ci := 12) (j := 26) rfl lk_RX12_50 rfl rfl rfl dX12_prove_73 ?_
      refine G_iconst (pc := 76) (v := 3) (by decide) dX12_prove_76 ?_
      refine G_iload_n (pc := 77) rfl dX12_prove_77 ?_
      refine G_imul (pc := 78) (z := 9) (by decide) dX12_prove_78 ?_
      refine G_iconst (pc := 79) (v := 2) (by decide) dX12_prove_79 ?_
      refine G_iadd (pc := 80) (z := 11) (by decide) dX12_prove_80 ?_
      refine G_aload_n (pc := 81) rfl dX12_prove_81 ?_
      refine G_iconst (pc := 82) (v := 4) (by decide) dX12_prove_82 ?_
      refine G_callV (pc := 83) (mc1 := 0) (ms1 := 0) (ci := 12) (mj := mX12_those) (vs := [_]) dX12_prove_83 rfl rfl cm_X12_those wh_26 wh_28 wh_29 rfl (Nat.le_of_ble_eq_true rfl) (Nat.le_of_ble_eq_true rfl) (Nat.le_of_ble_eq_true rfl) (Nat.le_of_ble_eq_true rfl) (s10242_X12_those J (d + 7)  ) ?_
      rintro _ _ ⟨rfl, rfl⟩
      dsimp only [Option.toList, List.cons_append, List.nil_append]
      refine G_iast (pc := 86) (jj := 11) (by decide) rfl (by unfold vp_in; decide) dX12_prove_86 ?_
      refine G_iinc (pc := 87) (v := 1) (w := 4) (L1 := [some (.ref 67), some (.int 4), some (.int 4)]) (by decide) rfl rfl (by decide) rfl (by decide) dX12_prove_87 ?_
      refine G_goto (pc := 90) (tgt := 30) (by decide) dX12_prove_90 ?_
      refine G_iload_n (pc := 30) rfl dX12_prove_30 ?_
      refine G_aload_n (pc := 31) rfl dX12_prove_31 ?_
      refine G_getI (pc := 32) (v := 4) (ci := 12) (j := 27) rfl rfl lk_RX12_317 rfl rfl dX12_prove_32 ?_
      refine G_icmp_ge (pc := 35) (tgt := 93) (by decide) dX12_prove_35 (fun _ => ?_) (fun z => absurd (by decide) z)
      refine G_aload_n (pc := 93) rfl dX12_prove_93 ?_
      refine G_callV (pc := 94) (mc1 := 0) (ms1 := 0) (ci := 12) (mj := mX12_layBack) (vs := []) dX12_prove_94 rfl rfl cm_X12_layBack wh_57 wh_59 wh_60 rfl (Nat.le_of_ble_eq_true rfl) (Nat.le_of_ble_eq_true rfl) (Nat.le_of_ble_eq_true rfl) (Nat.le_of_ble_eq_true rfl) (layBack_s (d + 7) (gup (gup (gup (gup (gup (gup (gup (gup (gup (gup (gup (gup (gup (gup (gup (gup (gup (gup (gup (gup (gcp (gup (gcp (gcp (gcp (gcp (gup (gup (gup (gup (gup (gup (gup (gup (gup (gup (gup (gup (gcp (gup (gup (gup (gcp (gup (gup (gup (gcp (gup (gup (gup (gcp (gup (gup (gup (gup (gmx J) 67 19 (-1)) 67 20 0) 67 21 5) 67 22 0) 68 76 0 0 65) 77 0 0) 68 0 1) 68 2 0) 68 76 0 65 65) 77 1 0) 68 0 2) 68 2 0) 68 76 0 130 65) 77 2 0) 68 0 3) 68 2 0) 68 76 0 195 65) 77 3 0) 68 0 4) 68 2 0) 67 20 0) 67 19 0) 78 0 0) 78 1 0) 78 2 0) 78 3 0) 67 20 1) 67 21 0) 67 22 0) 76 68 195 0 65) 76 68 130 0 65) 76 68 65 0 65) 76 68 0 0 65) 67 27 4) 68 70 0 0 65) 81 0 0) 68 0 1) 68 2 0) 81 1 0) 81 2 0) 81 3 0) 68 0 2) 68 2 0) 81 4 0) 81 5 0) 81 6 0) 68 0 3) 68 2 0) 81 7 0) 81 8 0) 81 9 0) 68 0 4) 68 2 0) 81 10 0) 81 11 0)) ?_
      rintro _ _ ⟨rfl, rfl⟩
      dsimp only [Option.toList, List.cons_append, List.nil_append]
      refine G_aload_n (pc := 97) rfl dX12_prove_97 ?_
      refine G_getI (pc := 98) (v := 4) (ci := 12) (j := 27) rfl rfl lk_RX12_317 rfl rfl dX12_prove_98 ?_
      exact G_iret (pc := 101) (Nat.le_of_ble_eq_true rfl) (Nat.le_of_ble_eq_true rfl) rfl dX12_prove_101 (by first | rfl | (simp [F_prove, *]; done) | (simp only [F_prove, Int32.le_iff_toInt_le, Int32.lt_iff_toInt_lt, ← Int32.toInt_inj]; simp; omega) | (simp only [F_prove, Int32.le_iff_toInt_le, Int32.lt_iff_toInt_lt, ← Int32.toInt_inj]; split <;> first | rfl | (exfalso; simp at *; omega)) | (unfold F_prove; (repeat' split) <;> first | rfl | (exfalso; (try simp only [Int32.le_iff_toInt_le, Int32.lt_iff_toInt_lt, ← Int32.toInt_inj] at *); first | omega | (simp at *; done) | (simp at *; omega))))
    exfalso
    have : 0 ≤ (n).toInt := Int32.le_iff_toInt_le.mp (c317.1)
    have : (n).toInt ≤ 4 := Int32.le_iff_toInt_le.mp (c317.2)
    have : (n).toInt ≠ 0 := g_ne (c319)
    have : (n).toInt ≠ 1 := g_ne (c320)
    have : (n).toInt ≠ 2 := g_ne (c321)
    have : (n).toInt ≠ 3 := g_ne (c322)
    have : (n).toInt ≠ 4 := g_ne (c323)
    omega
  · have c317 := gB_z c317
    refine G_iconst (pc := 7) (v := (-1)) (by decide) dX12_prove_7 ?_
    exact G_iret (pc := 8) (Nat.le_of_ble_eq_true rfl) (Nat.le_of_ble_eq_true rfl) rfl dX12_prove_8 (by first | rfl | (simp [F_prove, *]; done) | (have : ¬ (0 ≤ (n).toInt ∧ (n).toInt ≤ 4) := fun z => c317 ⟨Int32.le_iff_toInt_le.mpr z.1, Int32.le_iff_toInt_le.mpr z.2⟩; simp only [F_prove, Int32.le_iff_toInt_le, Int32.lt_iff_toInt_lt, ← Int32.toInt_inj]; simp; omega) | (have : ¬ (0 ≤ (n).toInt ∧ (n).toInt ≤ 4) := fun z => c317 ⟨Int32.le_iff_toInt_le.mpr z.1, Int32.le_iff_toInt_le.mpr z.2⟩; simp only [F_prove, Int32.le_iff_toInt_le, Int32.lt_iff_toInt_lt, ← Int32.toInt_inj]; split <;> first | rfl | (exfalso; simp at *; omega)) | (have : ¬ (0 ≤ (n).toInt ∧ (n).toInt ≤ 4) := fun z => c317 ⟨Int32.le_iff_toInt_le.mpr z.1, Int32.le_iff_toInt_le.mpr z.2⟩; unfold F_prove; (repeat' split) <;> first | rfl | (exfalso; (try simp only [Int32.le_iff_toInt_le, Int32.lt_iff_toInt_lt, ← Int32.toInt_inj] at *); first | omega | (simp at *; done) | (simp at *; omega))))
set_option maxRecDepth 100000 in
set_option maxHeartbeats 4000000 in
theorem s10244_X12_isOver (J : gI) (d : Nat)   : G (d) mX12_isOver 0 0 0 0 0 (gent 1 [.ref 67]) [] SH0 RF0 (gcp (gmx J) 68 70 0 0 65) (fun r h => r = some (.int 0) ∧ h = (SH0, RF0, (gcp (gmx J) 68 70 0 0 65))) := by
  refine G_aload_n (pc := 0) rfl dX12_isOver_0 ?_
  refine G_getR (pc := 1) (r := 68) (ci := 12) (j := 0) rfl lk_RX12_9 rfl rfl rfl dX12_isOver_1 ?_
  refine G_iconst (pc := 4) (v := 0) (by decide) dX12_isOver_4 ?_
  refine G_iald (pc := 5) (jj := 0) (v := 0) (by decide) rfl rfl (by unfold vp_in; decide) dX12_isOver_5 ?_
  refine G_aload_n (pc := 6) rfl dX12_isOver_6 ?_
  refine G_getR (pc := 7) (r := 68) (ci := 12) (j := 0) rfl lk_RX12_9 rfl rfl rfl dX12_isOver_7 ?_
  refine G_iconst (pc := 10) (v := 1) (by decide) dX12_isOver_10 ?_
  refine G_iald (pc := 11) (jj := 1) (v := 12) (by decide) rfl rfl (by unfold vp_in; decide) dX12_isOver_11 ?_
  refine G_icmp_lt (pc := 12) (tgt := 19) (by decide) dX12_isOver_12 (fun _ => ?_) (fun z => absurd (by decide) z)
  refine G_iconst (pc := 19) (v := 0) (by decide) dX12_isOver_19 ?_
  exact G_zret (pc := 20) (Nat.le_of_ble_eq_true rfl) (Nat.le_of_ble_eq_true rfl) rfl (by decide) dX12_isOver_20 ⟨rfl, rfl⟩
set_option maxRecDepth 100000 in
set_option maxHeartbeats 4000000 in
theorem s10246_X12_restOne (J : gI) (d : Nat)   : G (d) mX12_restOne 0 0 0 0 0 (gent 2 [.ref 67]) [] SH0 RF0 (gcp (gmx J) 68 70 0 0 65) (fun r h => r = some (.int (-1)) ∧ h = (SH0, RF0, (gcp (gmx J) 68 70 0 0 65))) := by
  refine G_iconst (pc := 0) (v := 0) (by decide) dX12_restOne_0 ?_
  refine G_istore_n (pc := 1) (L1 := [some (.ref 67), some (.int 0)]) rfl rfl (by decide) dX12_restOne_1 ?_
  refine G_iload_n (pc := 2) rfl dX12_restOne_2 ?_
  refine G_aload_n (pc := 3) rfl dX12_restOne_3 ?_
  refine G_getR (pc := 4) (r := 68) (ci := 12) (j := 0) rfl lk_RX12_9 rfl rfl rfl dX12_restOne_4 ?_
  refine G_iconst (pc := 7) (v := 4) (by decide) dX12_restOne_7 ?_
  refine G_iald (pc := 8) (jj := 4) (v := 0) (by decide) rfl rfl (by unfold vp_in; decide) dX12_restOne_8 ?_
  refine G_icmp_ge (pc := 9) (tgt := 28) (by decide) dX12_restOne_9 (fun _ => ?_) (fun z => absurd (by decide) z)
  refine G_iconst (pc := 28) (v := (-1)) (by decide) dX12_restOne_28 ?_
  exact G_iret (pc := 29) (Nat.le_of_ble_eq_true rfl) (Nat.le_of_ble_eq_true rfl) rfl dX12_restOne_29 ⟨rfl, rfl⟩
set_option maxRecDepth 100000 in
set_option maxHeartbeats 4000000 in
theorem s10245_X12_goesBy (J : gI) (d : Nat)   : G (d + 1) mX12_goesBy 0 0 0 0 0 (gent 5 [.ref 67, .int (-1)]) [] SH0 RF0 (gcp (gmx J) 68 70 0 0 65) (fun r h => r = some (.int 0) ∧ h = (SH0, RF0, (gup (gup (gcp (gmx J) 68 70 0 0 65) 68 0 1) 68 2 0))) := by
  refine G_iload_n (pc := 0) rfl dX12_goesBy_0 ?_
  refine G_if_ge (pc := 1) (tgt := 11) (by decide) dX12_goesBy_1 (fun z => absurd z (by decide)) (fun _ => ?_)
  refine G_aload_n (pc := 4) rfl dX12_goesBy_4 ?_
  refine G_callV (pc := 5) (mc1 := 0) (ms1 := 0) (ci := 12) (mj := mX12_restOne) (vs := []) dX12_goesBy_5 rfl rfl cm_X12_restOne wh_68 wh_70 wh_71 rfl (Nat.le_of_ble_eq_true rfl) (Nat.le_of_ble_eq_true rfl) (Nat.le_of_ble_eq_true rfl) (Nat.le_of_ble_eq_true rfl) (s10246_X12_restOne J d  ) ?_
  rintro _ _ ⟨rfl, rfl⟩
  dsimp only [Option.toList, List.cons_append, List.nil_append]
  refine G_goto (pc := 8) (tgt := 14) (by decide) dX12_goesBy_8 ?_
  refine G_istore_n (pc := 14) (L1 := [some (.ref 67), some (.int (-1)), some (.int (-1)), none, none]) rfl rfl (by decide) dX12_goesBy_14 ?_
  refine G_iload_n (pc := 15) rfl dX12_goesBy_15 ?_
  refine G_if_lt (pc := 16) (tgt := 27) (by decide) dX12_goesBy_16 (fun _ => ?_) (fun z => absurd (by decide) z)
  refine G_iconst (pc := 27) (v := 0) (by decide) dX12_goesBy_27 ?_
  refine G_istore_n (pc := 28) (L1 := [some (.ref 67), some (.int (-1)), some (.int (-1)), some (.int 0), none]) rfl rfl (by decide) dX12_goesBy_28 ?_
  refine G_iconst (pc := 29) (v := 0) (by decide) dX12_goesBy_29 ?_
  refine G_istore (pc := 30) (L1 := [some (.ref 67), some (.int (-1)), some (.int (-1)), some (.int 0), some (.int 0)]) rfl rfl (by decide) dX12_goesBy_30 ?_
  refine G_iload (pc := 32) rfl dX12_goesBy_32 ?_
  refine G_aload_n (pc := 34) rfl dX12_goesBy_34 ?_
  refine G_getR (pc := 35) (r := 68) (ci := 12) (j := 0) rfl lk_RX12_9 rfl rfl rfl dX12_goesBy_35 ?_
  refine G_iconst (pc := 38) (v := 4) (by decide) dX12_goesBy_38 ?_
  refine G_iald (pc := 39) (jj := 4) (v := 0) (by decide) rfl rfl (by unfold vp_in; decide) dX12_goesBy_39 ?_
  refine G_icmp_ge (pc := 40) (tgt := 104) (by decide) dX12_goesBy_40 (fun _ => ?_) (fun z => absurd (by decide) z)
  refine G_aload_n (pc := 104) rfl dX12_goesBy_104 ?_
  refine G_getR (pc := 105) (r := 68) (ci := 12) (j := 0) rfl lk_RX12_9 rfl rfl rfl dX12_goesBy_105 ?_
  refine G_iconst (pc := 108) (v := 0) (by decide) dX12_goesBy_108 ?_
  refine G_dup2 (pc := 109) rfl rfl dX12_goesBy_109 ?_
  refine G_iald (pc := 110) (jj := 0) (v := 0) (by decide) rfl rfl (by unfold vp_in; decide) dX12_goesBy_110 ?_
  refine G_iconst (pc := 111) (v := 1) (by decide) dX12_goesBy_111 ?_
  refine G_iadd (pc := 112) (z := 1) (by decide) dX12_goesBy_112 ?_
  refine G_iast (pc := 113) (jj := 0) (by decide) rfl (by unfold vp_in; decide) dX12_goesBy_113 ?_
  refine G_aload_n (pc := 114) rfl dX12_goesBy_114 ?_
  refine G_getR (pc := 115) (r := 68) (ci := 12) (j := 0) rfl lk_RX12_9 rfl rfl rfl dX12_goesBy_115 ?_
  refine G_iconst (pc := 118) (v := 2) (by decide) dX12_goesBy_118 ?_
  refine G_dup2 (pc := 119) rfl rfl dX12_goesBy_119 ?_
  refine G_iald (pc := 120) (jj := 2) (v := 0) (by decide) rfl rfl (by unfold vp_in; decide) dX12_goesBy_120 ?_
  refine G_iload_n (pc := 121) rfl dX12_goesBy_121 ?_
  refine G_iadd (pc := 122) (z := 0) (by decide) dX12_goesBy_122 ?_
  refine G_iast (pc := 123) (jj := 2) (by decide) rfl (by unfold vp_in; decide) dX12_goesBy_123 ?_
  refine G_iload_n (pc := 124) rfl dX12_goesBy_124 ?_
  exact G_iret (pc := 125) (Nat.le_of_ble_eq_true rfl) (Nat.le_of_ble_eq_true rfl) rfl dX12_goesBy_125 ⟨rfl, rfl⟩
set_option maxRecDepth 100000 in
set_option maxHeartbeats 4000000 in
theorem s10247_X12_isOver (J : gI) (d : Nat)   : G (d) mX12_isOver 0 0 0 0 0 (gent 1 [.ref 67]) [] SH0 RF0 (gup (gup (gcp (gmx J) 68 70 0 0 65) 68 0 1) 68 2 0) (fun r h => r = some (.int 0) ∧ h = (SH0, RF0, (gup (gup (gcp (gmx J) 68 70 0 0 65) 68 0 1) 68 2 0))) := by
  refine G_aload_n (pc := 0) rfl dX12_isOver_0 ?_
  refine G_getR (pc := 1) (r := 68) (ci := 12) (j := 0) rfl lk_RX12_9 rfl rfl rfl dX12_isOver_1 ?_
  refine G_iconst (pc := 4) (v := 0) (by decide) dX12_isOver_4 ?_
  refine G_iald (pc := 5) (jj := 0) (v := 1) (by decide) rfl rfl (by unfold vp_in; decide) dX12_isOver_5 ?_
  refine G_aload_n (pc := 6) rfl dX12_isOver_6 ?_
  refine G_getR (pc := 7) (r := 68) (ci := 12) (j := 0) rfl lk_RX12_9 rfl rfl rfl dX12_isOver_7 ?_
  refine G_iconst (pc := 10) (v := 1) (by decide) dX12_isOver_10 ?_
  refine G_iald (pc := 11) (jj := 1) (v := 12) (by decide) rfl rfl (by unfold vp_in; decide) dX12_isOver_11 ?_
  refine G_icmp_lt (pc := 12) (tgt := 19) (by decide) dX12_isOver_12 (fun _ => ?_) (fun z => absurd (by decide) z)
  refine G_iconst (pc := 19) (v := 0) (by decide) dX12_isOver_19 ?_
  exact G_zret (pc := 20) (Nat.le_of_ble_eq_true rfl) (Nat.le_of_ble_eq_true rfl) rfl (by decide) dX12_isOver_20 ⟨rfl, rfl⟩
set_option maxRecDepth 100000 in
set_option maxHeartbeats 4000000 in
theorem s10249_X12_restOne (J : gI) (d : Nat)   : G (d) mX12_restOne 0 0 0 0 0 (gent 2 [.ref 67]) [] SH0 RF0 (gup (gup (gcp (gmx J) 68 70 0 0 65) 68 0 1) 68 2 0) (fun r h => r = some (.int (-1)) ∧ h = (SH0, RF0, (gup (gup (gcp (gmx J) 68 70 0 0 65) 68 0 1) 68 2 0))) := by
  refine G_iconst (pc := 0) (v := 0) (by decide) dX12_restOne_0 ?_
  refine G_istore_n (pc := 1) (L1 := [some (.ref 67), some (.int 0)]) rfl rfl (by decide) dX12_restOne_1 ?_
  refine G_iload_n (pc := 2) rfl dX12_restOne_2 ?_
  refine G_aload_n (pc := 3) rfl dX12_restOne_3 ?_
  refine G_getR (pc := 4) (r := 68) (ci := 12) (j := 0) rfl lk_RX12_9 rfl rfl rfl dX12_restOne_4 ?_
  refine G_iconst (pc := 7) (v := 4) (by decide) dX12_restOne_7 ?_
  refine G_iald (pc := 8) (jj := 4) (v := 0) (by decide) rfl rfl (by unfold vp_in; decide) dX12_restOne_8 ?_
  refine G_icmp_ge (pc := 9) (tgt := 28) (by decide) dX12_restOne_9 (fun _ => ?_) (fun z => absurd (by decide) z)
  refine G_iconst (pc := 28) (v := (-1)) (by decide) dX12_restOne_28 ?_
  exact G_iret (pc := 29) (Nat.le_of_ble_eq_true rfl) (Nat.le_of_ble_eq_true rfl) rfl dX12_restOne_29 ⟨rfl, rfl⟩
set_option maxRecDepth 100000 in
set_option maxHeartbeats 4000000 in
theorem s10248_X12_goesBy (J : gI) (d : Nat)   : G (d + 1) mX12_goesBy 0 0 0 0 0 (gent 5 [.ref 67, .int (-1)]) [] SH0 RF0 (gup (gup (gcp (gmx J) 68 70 0 0 65) 68 0 1) 68 2 0) (fun r h => r = some (.int 0) ∧ h = (SH0, RF0, (gup (gup (gup (gup (gcp (gmx J) 68 70 0 0 65) 68 0 1) 68 2 0) 68 0 2) 68 2 0))) := by
  refine G_iload_n (pc := 0) rfl dX12_goesBy_0 ?_
  refine G_if_ge (pc := 1) (tgt := 11) (by decide) dX12_goesBy_1 (fun z => absurd z (by decide)) (fun _ => ?_)
  refine G_aload_n (pc := 4) rfl dX12_goesBy_4 ?_
  refine G_callV (pc := 5) (mc1 := 0) (ms1 := 0) (ci := 12) (mj := mX12_restOne) (vs := []) dX12_goesBy_5 rfl rfl cm_X12_restOne wh_68 wh_70 wh_71 rfl (Nat.le_of_ble_eq_true rfl) (Nat.le_of_ble_eq_true rfl) (Nat.le_of_ble_eq_true rfl) (Nat.le_of_ble_eq_true rfl) (s10249_X12_restOne J d  ) ?_
  rintro _ _ ⟨rfl, rfl⟩
  dsimp only [Option.toList, List.cons_append, List.nil_append]
  refine G_goto (pc := 8) (tgt := 14) (by decide) dX12_goesBy_8 ?_
  refine G_istore_n (pc := 14) (L1 := [some (.ref 67), some (.int (-1)), some (.int (-1)), none, none]) rfl rfl (by decide) dX12_goesBy_14 ?_
  refine G_iload_n (pc := 15) rfl dX12_goesBy_15 ?_
  refine G_if_lt (pc := 16) (tgt := 27) (by decide) dX12_goesBy_16 (fun _ => ?_) (fun z => absurd (by decide) z)
  refine G_iconst (pc := 27) (v := 0) (by decide) dX12_goesBy_27 ?_
  refine G_istore_n (pc := 28) (L1 := [some (.ref 67), some (.int (-1)), some (.int (-1)), some (.int 0), none]) rfl rfl (by decide) dX12_goesBy_28 ?_
  refine G_iconst (pc := 29) (v := 0) (by decide) dX12_goesBy_29 ?_
  refine G_istore (pc := 30) (L1 := [some (.ref 67), some (.int (-1)), some (.int (-1)), some (.int 0), some (.int 0)]) rfl rfl (by decide) dX12_goesBy_30 ?_
  refine G_iload (pc := 32) rfl dX12_goesBy_32 ?_
  refine G_aload_n (pc := 34) rfl dX12_goesBy_34 ?_
  refine G_getR (pc := 35) (r := 68) (ci := 12) (j := 0) rfl lk_RX12_9 rfl rfl rfl dX12_goesBy_35 ?_
  refine G_iconst (pc := 38) (v := 4) (by decide) dX12_goesBy_38 ?_
  refine G_iald (pc := 39) (jj := 4) (v := 0) (by decide) rfl rfl (by unfold vp_in; decide) dX12_goesBy_39 ?_
  refine G_icmp_ge (pc := 40) (tgt := 104) (by decide) dX12_goesBy_40 (fun _ => ?_) (fun z => absurd (by decide) z)
  refine G_aload_n (pc := 104) rfl dX12_goesBy_104 ?_
  refine G_getR (pc := 105) (r := 68) (ci := 12) (j := 0) rfl lk_RX12_9 rfl rfl rfl dX12_goesBy_105 ?_
  refine G_iconst (pc := 108) (v := 0) (by decide) dX12_goesBy_108 ?_
  refine G_dup2 (pc := 109) rfl rfl dX12_goesBy_109 ?_
  refine G_iald (pc := 110) (jj := 0) (v := 1) (by decide) rfl rfl (by unfold vp_in; decide) dX12_goesBy_110 ?_
  refine G_iconst (pc := 111) (v := 1) (by decide) dX12_goesBy_111 ?_
  refine G_iadd (pc := 112) (z := 2) (by decide) dX12_goesBy_112 ?_
  refine G_iast (pc := 113) (jj := 0) (by decide) rfl (by unfold vp_in; decide) dX12_goesBy_113 ?_
  refine G_aload_n (pc := 114) rfl dX12_goesBy_114 ?_
  refine G_getR (pc := 115) (r := 68) (ci := 12) (j := 0) rfl lk_RX12_9 rfl rfl rfl dX12_goesBy_115 ?_
  refine G_iconst (pc := 118) (v := 2) (by decide) dX12_goesBy_118 ?_
  refine G_dup2 (pc := 119) rfl rfl dX12_goesBy_119 ?_
  refine G_iald (pc := 120) (jj := 2) (v := 0) (by decide) rfl rfl (by unfold vp_in; decide) dX12_goesBy_120 ?_
  refine G_iload_n (pc := 121) rfl dX12_goesBy_121 ?_
  refine G_iadd (pc := 122) (z := 0) (by decide) dX12_goesBy_122 ?_
  refine G_iast (pc := 123) (jj := 2) (by decide) rfl (by unfold vp_in; decide) dX12_goesBy_123 ?_
  refine G_iload_n (pc := 124) rfl dX12_goesBy_124 ?_
  exact G_iret (pc := 125) (Nat.le_of_ble_eq_true rfl) (Nat.le_of_ble_eq_true rfl) rfl dX12_goesBy_125 ⟨rfl, rfl⟩
set_option maxRecDepth 100000 in
set_option maxHeartbeats 4000000 in
theorem s10250_X12_isOver (J : gI) (d : Nat)   : G (d) mX12_isOver 0 0 0 0 0 (gent 1 [.ref 67]) [] SH0 RF0 (gup (gup (gup (gup (gcp (gmx J) 68 70 0 0 65) 68 0 1) 68 2 0) 68 0 2) 68 2 0) (fun r h => r = some (.int 0) ∧ h = (SH0, RF0, (gup (gup (gup (gup (gcp (gmx J) 68 70 0 0 65) 68 0 1) 68 2 0) 68 0 2) 68 2 0))) := by
  refine G_aload_n (pc := 0) rfl dX12_isOver_0 ?_
  refine G_getR (pc := 1) (r := 68) (ci := 12) (j := 0) rfl lk_RX12_9 rfl rfl rfl dX12_isOver_1 ?_
  refine G_iconst (pc := 4) (v := 0) (by decide) dX12_isOver_4 ?_
  refine G_iald (pc := 5) (jj := 0) (v := 2) (by decide) rfl rfl (by unfold vp_in; decide) dX12_isOver_5 ?_
  refine G_aload_n (pc := 6) rfl dX12_isOver_6 ?_
  refine G_getR (pc := 7) (r := 68) (ci := 12) (j := 0) rfl lk_RX12_9 rfl rfl rfl dX12_isOver_7 ?_
  refine G_iconst (pc := 10) (v := 1) (by decide) dX12_isOver_10 ?_
  refine G_iald (pc := 11) (jj := 1) (v := 12) (by decide) rfl rfl (by unfold vp_in; decide) dX12_isOver_11 ?_
  refine G_icmp_lt (pc := 12) (tgt := 19) (by decide) dX12_isOver_12 (fun _ => ?_) (fun z => absurd (by decide) z)
  refine G_iconst (pc := 19) (v := 0) (by decide) dX12_isOver_19 ?_
  exact G_zret (pc := 20) (Nat.le_of_ble_eq_true rfl) (Nat.le_of_ble_eq_true rfl) rfl (by decide) dX12_isOver_20 ⟨rfl, rfl⟩
set_option maxRecDepth 100000 in
set_option maxHeartbeats 4000000 in
theorem s10252_X12_restOne (J : gI) (d : Nat)   : G (d) mX12_restOne 0 0 0 0 0 (gent 2 [.ref 67]) [] SH0 RF0 (gup (gup (gup (gup (gcp (gmx J) 68 70 0 0 65) 68 0 1) 68 2 0) 68 0 2) 68 2 0) (fun r h => r = some (.int (-1)) ∧ h = (SH0, RF0, (gup (gup (gup (gup (gcp (gmx J) 68 70 0 0 65) 68 0 1) 68 2 0) 68 0 2) 68 2 0))) := by
  refine G_iconst (pc := 0) (v := 0) (by decide) dX12_restOne_0 ?_
  refine G_istore_n (pc := 1) (L1 := [some (.ref 67), some (.int 0)]) rfl rfl (by decide) dX12_restOne_1 ?_
  refine G_iload_n (pc := 2) rfl dX12_restOne_2 ?_
  refine G_aload_n (pc := 3) rfl dX12_restOne_3 ?_
  refine G_getR (pc := 4) (r := 68) (ci := 12) (j := 0) rfl lk_RX12_9 rfl rfl rfl dX12_restOne_4 ?_
  refine G_iconst (pc := 7) (v := 4) (by decide) dX12_restOne_7 ?_
  refine G_iald (pc := 8) (jj := 4) (v := 0) (by decide) rfl rfl (by unfold vp_in; decide) dX12_restOne_8 ?_
  refine G_icmp_ge (pc := 9) (tgt := 28) (by decide) dX12_restOne_9 (fun _ => ?_) (fun z => absurd (by decide) z)
  refine G_iconst (pc := 28) (v := (-1)) (by decide) dX12_restOne_28 ?_
  exact G_iret (pc := 29) (Nat.le_of_ble_eq_true rfl) (Nat.le_of_ble_eq_true rfl) rfl dX12_restOne_29 ⟨rfl, rfl⟩
set_option maxRecDepth 100000 in
set_option maxHeartbeats 4000000 in
theorem s10251_X12_goesBy (J : gI) (d : Nat)   : G (d + 1) mX12_goesBy 0 0 0 0 0 (gent 5 [.ref 67, .int (-1)]) [] SH0 RF0 (gup (gup (gup (gup (gcp (gmx J) 68 70 0 0 65) 68 0 1) 68 2 0) 68 0 2) 68 2 0) (fun r h => r = some (.int 0) ∧ h = (SH0, RF0, (gup (gup (gup (gup (gup (gup (gcp (gmx J) 68 70 0 0 65) 68 0 1) 68 2 0) 68 0 2) 68 2 0) 68 0 3) 68 2 0))) := by
  refine G_iload_n (pc := 0) rfl dX12_goesBy_0 ?_
  refine G_if_ge (pc := 1) (tgt := 11) (by decide) dX12_goesBy_1 (fun z => absurd z (by decide)) (fun _ => ?_)
  refine G_aload_n (pc := 4) rfl dX12_goesBy_4 ?_
  refine G_callV (pc := 5) (mc1 := 0) (ms1 := 0) (ci := 12) (mj := mX12_restOne) (vs := []) dX12_goesBy_5 rfl rfl cm_X12_restOne wh_68 wh_70 wh_71 rfl (Nat.le_of_ble_eq_true rfl) (Nat.le_of_ble_eq_true rfl) (Nat.le_of_ble_eq_true rfl) (Nat.le_of_ble_eq_true rfl) (s10252_X12_restOne J d  ) ?_
  rintro _ _ ⟨rfl, rfl⟩
  dsimp only [Option.toList, List.cons_append, List.nil_append]
  refine G_goto (pc := 8) (tgt := 14) (by decide) dX12_goesBy_8 ?_
  refine G_istore_n (pc := 14) (L1 := [some (.ref 67), some (.int (-1)), some (.int (-1)), none, none]) rfl rfl (by decide) dX12_goesBy_14 ?_
  refine G_iload_n (pc := 15) rfl dX12_goesBy_15 ?_
  refine G_if_lt (pc := 16) (tgt := 27) (by decide) dX12_goesBy_16 (fun _ => ?_) (fun z => absurd (by decide) z)
  refine G_iconst (pc := 27) (v := 0) (by decide) dX12_goesBy_27 ?_
  refine G_istore_n (pc := 28) (L1 := [some (.ref 67), some (.int (-1)), some (.int (-1)), some (.int 0), none]) rfl rfl (by decide) dX12_goesBy_28 ?_
  refine G_iconst (pc := 29) (v := 0) (by decide) dX12_goesBy_29 ?_
  refine G_istore (pc := 30) (L1 := [some (.ref 67), some (.int (-1)), some (.int (-1)), some (.int 0), some (.int 0)]) rfl rfl (by decide) dX12_goesBy_30 ?_
  refine G_iload (pc := 32) rfl dX12_goesBy_32 ?_
  refine G_aload_n (pc := 34) rfl dX12_goesBy_34 ?_
  refine G_getR (pc := 35) (r := 68) (ci := 12) (j := 0) rfl lk_RX12_9 rfl rfl rfl dX12_goesBy_35 ?_
  refine G_iconst (pc := 38) (v := 4) (by decide) dX12_goesBy_38 ?_
  refine G_iald (pc := 39) (jj := 4) (v := 0) (by decide) rfl rfl (by unfold vp_in; decide) dX12_goesBy_39 ?_
  refine G_icmp_ge (pc := 40) (tgt := 104) (by decide) dX12_goesBy_40 (fun _ => ?_) (fun z => absurd (by decide) z)
  refine G_aload_n (pc := 104) rfl dX12_goesBy_104 ?_
  refine G_getR (pc := 105) (r := 68) (ci := 12) (j := 0) rfl lk_RX12_9 rfl rfl rfl dX12_goesBy_105 ?_
  refine G_iconst (pc := 108) (v := 0) (by decide) dX12_goesBy_108 ?_
  refine G_dup2 (pc := 109) rfl rfl dX12_goesBy_109 ?_
  refine G_iald (pc := 110) (jj := 0) (v := 2) (by decide) rfl rfl (by unfold vp_in; decide) dX12_goesBy_110 ?_
  refine G_iconst (pc := 111) (v := 1) (by decide) dX12_goesBy_111 ?_
  refine G_iadd (pc := 112) (z := 3) (by decide) dX12_goesBy_112 ?_
  refine G_iast (pc := 113) (jj := 0) (by decide) rfl (by unfold vp_in; decide) dX12_goesBy_113 ?_
  refine G_aload_n (pc := 114) rfl dX12_goesBy_114 ?_
  refine G_getR (pc := 115) (r := 68) (ci := 12) (j := 0) rfl lk_RX12_9 rfl rfl rfl dX12_goesBy_115 ?_
  refine G_iconst (pc := 118) (v := 2) (by decide) dX12_goesBy_118 ?_
  refine G_dup2 (pc := 119) rfl rfl dX12_goesBy_119 ?_
  refine G_iald (pc := 120) (jj := 2) (v := 0) (by decide) rfl rfl (by unfold vp_in; decide) dX12_goesBy_120 ?_
  refine G_iload_n (pc := 121) rfl dX12_goesBy_121 ?_
  refine G_iadd (pc := 122) (z := 0) (by decide) dX12_goesBy_122 ?_
  refine G_iast (pc := 123) (jj := 2) (by decide) rfl (by unfold vp_in; decide) dX12_goesBy_123 ?_
  refine G_iload_n (pc := 124) rfl dX12_goesBy_124 ?_
  exact G_iret (pc := 125) (Nat.le_of_ble_eq_true rfl) (Nat.le_of_ble_eq_true rfl) rfl dX12_goesBy_125 ⟨rfl, rfl⟩
set_option maxRecDepth 100000 in
set_option maxHeartbeats 4000000 in
theorem s10253_X12_isOver (J : gI) (d : Nat)   : G (d) mX12_isOver 0 0 0 0 0 (gent 1 [.ref 67]) [] SH0 RF0 (gup (gup (gup (gup (gup (gup (gcp (gmx J) 68 70 0 0 65) 68 0 1) 68 2 0) 68 0 2) 68 2 0) 68 0 3) 68 2 0) (fun r h => r = some (.int 0) ∧ h = (SH0, RF0, (gup (gup (gup (gup (gup (gup (gcp (gmx J) 68 70 0 0 65) 68 0 1) 68 2 0) 68 0 2) 68 2 0) 68 0 3) 68 2 0))) := by
  refine G_aload_n (pc := 0) rfl dX12_isOver_0 ?_
  refine G_getR (pc := 1) (r := 68) (ci := 12) (j := 0) rfl lk_RX12_9 rfl rfl rfl dX12_isOver_1 ?_
  refine G_iconst (pc := 4) (v := 0) (by decide) dX12_isOver_4 ?_
  refine G_iald (pc := 5) (jj := 0) (v := 3) (by decide) rfl rfl (by unfold vp_in; decide) dX12_isOver_5 ?_
  refine G_aload_n (pc := 6) rfl dX12_isOver_6 ?_
  refine G_getR (pc := 7) (r := 68) (ci := 12) (j := 0) rfl lk_RX12_9 rfl rfl rfl dX12_isOver_7 ?_
  refine G_iconst (pc := 10) (v := 1) (by decide) dX12_isOver_10 ?_
  refine G_iald (pc := 11) (jj := 1) (v := 12) (by decide) rfl rfl (by unfold vp_in; decide) dX12_isOver_11 ?_
  refine G_icmp_lt (pc := 12) (tgt := 19) (by decide) dX12_isOver_12 (fun _ => ?_) (fun z => absurd (by decide) z)
  refine G_iconst (pc := 19) (v := 0) (by decide) dX12_isOver_19 ?_
  exact G_zret (pc := 20) (Nat.le_of_ble_eq_true rfl) (Nat.le_of_ble_eq_true rfl) rfl (by decide) dX12_isOver_20 ⟨rfl, rfl⟩
set_option maxRecDepth 100000 in
set_option maxHeartbeats 4000000 in
theorem s10255_X12_restOne (J : gI) (d : Nat)   : G (d) mX12_restOne 0 0 0 0 0 (gent 2 [.ref 67]) [] SH0 RF0 (gup (gup (gup (gup (gup (gup (gcp (gmx J) 68 70 0 0 65) 68 0 1) 68 2 0) 68 0 2) 68 2 0) 68 0 3) 68 2 0) (fun r h => r = some (.int (-1)) ∧ h = (SH0, RF0, (gup (gup (gup (gup (gup (gup (gcp (gmx J) 68 70 0 0 65) 68 0 1) 68 2 0) 68 0 2) 68 2 0) 68 0 3) 68 2 0))) := by
  refine G_iconst (pc := 0) (v := 0) (by decide) dX12_restOne_0 ?_
  refine G_istore_n (pc := 1) (L1 := [some (.ref 67), some (.int 0)]) rfl rfl (by decide) dX12_restOne_1 ?_
  refine G_iload_n (pc := 2) rfl dX12_restOne_2 ?_
  refine G_aload_n (pc := 3) rfl dX12_restOne_3 ?_
  refine G_getR (pc := 4) (r := 68) (ci := 12) (j := 0) rfl lk_RX12_9 rfl rfl rfl dX12_restOne_4 ?_
  refine G_iconst (pc := 7) (v := 4) (by decide) dX12_restOne_7 ?_
  refine G_iald (pc := 8) (jj := 4) (v := 0) (by decide) rfl rfl (by unfold vp_in; decide) dX12_restOne_8 ?_
  refine G_icmp_ge (pc := 9) (tgt := 28) (by decide) dX12_restOne_9 (fun _ => ?_) (fun z => absurd (by decide) z)
  refine G_iconst (pc := 28) (v := (-1)) (by decide) dX12_restOne_28 ?_
  exact G_iret (pc := 29) (Nat.le_of_ble_eq_true rfl) (Nat.le_of_ble_eq_true rfl) rfl dX12_restOne_29 ⟨rfl, rfl⟩
set_option maxRecDepth 100000 in
set_option maxHeartbeats 4000000 in
theorem s10254_X12_goesBy (J : gI) (d : Nat)   : G (d + 1) mX12_goesBy 0 0 0 0 0 (gent 5 [.ref 67, .int (-1)]) [] SH0 RF0 (gup (gup (gup (gup (gup (gup (gcp (gmx J) 68 70 0 0 65) 68 0 1) 68 2 0) 68 0 2) 68 2 0) 68 0 3) 68 2 0) (fun r h => r = some (.int 0) ∧ h = (SH0, RF0, (gup (gup (gup (gup (gup (gup (gup (gup (gcp (gmx J) 68 70 0 0 65) 68 0 1) 68 2 0) 68 0 2) 68 2 0) 68 0 3) 68 2 0) 68 0 4) 68 2 0))) := by
  refine G_iload_n (pc := 0) rfl dX12_goesBy_0 ?_
  refine G_if_ge (pc := 1) (tgt := 11) (by decide) dX12_goesBy_1 (fun z => absurd z (by decide)) (fun _ => ?_)
  refine G_aload_n (pc := 4) rfl dX12_goesBy_4 ?_
  refine G_callV (pc := 5) (mc1 := 0) (ms1 := 0) (ci := 12) (mj := mX12_restOne) (vs := []) dX12_goesBy_5 rfl rfl cm_X12_restOne wh_68 wh_70 wh_71 rfl (Nat.le_of_ble_eq_true rfl) (Nat.le_of_ble_eq_true rfl) (Nat.le_of_ble_eq_true rfl) (Nat.le_of_ble_eq_true rfl) (s10255_X12_restOne J d  ) ?_
  rintro _ _ ⟨rfl, rfl⟩
  dsimp only [Option.toList, List.cons_append, List.nil_append]
  refine G_goto (pc := 8) (tgt := 14) (by decide) dX12_goesBy_8 ?_
  refine G_istore_n (pc := 14) (L1 := [some (.ref 67), some (.int (-1)), some (.int (-1)), none, none]) rfl rfl (by decide) dX12_goesBy_14 ?_
  refine G_iload_n (pc := 15) rfl dX12_goesBy_15 ?_
  refine G_if_lt (pc := 16) (tgt := 27) (by decide) dX12_goesBy_16 (fun _ => ?_) (fun z => absurd (by decide) z)
  refine G_iconst (pc := 27) (v := 0) (by decide) dX12_goesBy_27 ?_
  refine G_istore_n (pc := 28) (L1 := [some (.ref 67), some (.int (-1)), some (.int (-1)), some (.int 0), none]) rfl rfl (by decide) dX12_goesBy_28 ?_
  refine G_iconst (pc := 29) (v := 0) (by decide) dX12_goesBy_29 ?_
  refine G_istore (pc := 30) (L1 := [some (.ref 67), some (.int (-1)), some (.int (-1)), some (.int 0), some (.int 0)]) rfl rfl (by decide) dX12_goesBy_30 ?_
  refine G_iload (pc := 32) rfl dX12_goesBy_32 ?_
  refine G_aload_n (pc := 34) rfl dX12_goesBy_34 ?_
  refine G_getR (pc := 35) (r := 68) (ci := 12) (j := 0) rfl lk_RX12_9 rfl rfl rfl dX12_goesBy_35 ?_
  refine G_iconst (pc := 38) (v := 4) (by decide) dX12_goesBy_38 ?_
  refine G_iald (pc := 39) (jj := 4) (v := 0) (by decide) rfl rfl (by unfold vp_in; decide) dX12_goesBy_39 ?_
  refine G_icmp_ge (pc := 40) (tgt := 104) (by decide) dX12_goesBy_40 (fun _ => ?_) (fun z => absurd (by decide) z)
  refine G_aload_n (pc := 104) rfl dX12_goesBy_104 ?_
  refine G_getR (pc := 105) (r := 68) (ci := 12) (j := 0) rfl lk_RX12_9 rfl rfl rfl dX12_goesBy_105 ?_
  refine G_iconst (pc := 108) (v := 0) (by decide) dX12_goesBy_108 ?_
  refine G_dup2 (pc := 109) rfl rfl dX12_goesBy_109 ?_
  refine G_iald (pc := 110) (jj := 0) (v := 3) (by decide) rfl rfl (by unfold vp_in; decide) dX12_goesBy_110 ?_
  refine G_iconst (pc := 111) (v := 1) (by decide) dX12_goesBy_111 ?_
  refine G_iadd (pc := 112) (z := 4) (by decide) dX12_goesBy_112 ?_
  refine G_iast (pc := 113) (jj := 0) (by decide) rfl (by unfold vp_in; decide) dX12_goesBy_113 ?_
  refine G_aload_n (pc := 114) rfl dX12_goesBy_114 ?_
  refine G_getR (pc := 115) (r := 68) (ci := 12) (j := 0) rfl lk_RX12_9 rfl rfl rfl dX12_goesBy_115 ?_
  refine G_iconst (pc := 118) (v := 2) (by decide) dX12_goesBy_118 ?_
  refine G_dup2 (pc := 119) rfl rfl dX12_goesBy_119 ?_
  refine G_iald (pc := 120) (jj := 2) (v := 0) (by decide) rfl rfl (by unfold vp_in; decide) dX12_goesBy_120 ?_
  refine G_iload_n (pc := 121) rfl dX12_goesBy_121 ?_
  refine G_iadd (pc := 122) (z := 0) (by decide) dX12_goesBy_122 ?_
  refine G_iast (pc := 123) (jj := 2) (by decide) rfl (by unfold vp_in; decide) dX12_goesBy_123 ?_
  refine G_iload_n (pc := 124) rfl dX12_goesBy_124 ?_
  exact G_iret (pc := 125) (Nat.le_of_ble_eq_true rfl) (Nat.le_of_ble_eq_true rfl) rfl dX12_goesBy_125 ⟨rfl, rfl⟩
set_option maxRecDepth 100000 in
set_option maxHeartbeats 4000000 in
theorem s10256_X12_isOver (J : gI) (d : Nat)   : G (d) mX12_isOver 0 0 0 0 0 (gent 1 [.ref 67]) [] SH0 RF0 (gup (gup (gup (gup (gup (gup (gup (gup (gcp (gmx J) 68 70 0 0 65) 68 0 1) 68 2 0) 68 0 2) 68 2 0) 68 0 3) 68 2 0) 68 0 4) 68 2 0) (fun r h => r = some (.int 0) ∧ h = (SH0, RF0, (gup (gup (gup (gup (gup (gup (gup (gup (gcp (gmx J) 68 70 0 0 65) 68 0 1) 68 2 0) 68 0 2) 68 2 0) 68 0 3) 68 2 0) 68 0 4) 68 2 0))) := by
  refine G_aload_n (pc := 0) rfl dX12_isOver_0 ?_
  refine G_getR (pc := 1) (r := 68) (ci := 12) (j := 0) rfl lk_RX12_9 rfl rfl rfl dX12_isOver_1 ?_
  refine G_iconst (pc := 4) (v := 0) (by decide) dX12_isOver_4 ?_
  refine G_iald (pc := 5) (jj := 0) (v := 4) (by decide) rfl rfl (by unfold vp_in; decide) dX12_isOver_5 ?_
  refine G_aload_n (pc := 6) rfl dX12_isOver_6 ?_
  refine G_getR (pc := 7) (r := 68) (ci := 12) (j := 0) rfl lk_RX12_9 rfl rfl rfl dX12_isOver_7 ?_
  refine G_iconst (pc := 10) (v := 1) (by decide) dX12_isOver_10 ?_
  refine G_iald (pc := 11) (jj := 1) (v := 12) (by decide) rfl rfl (by unfold vp_in; decide) dX12_isOver_11 ?_
  refine G_icmp_lt (pc := 12) (tgt := 19) (by decide) dX12_isOver_12 (fun _ => ?_) (fun z => absurd (by decide) z)
  refine G_iconst (pc := 19) (v := 0) (by decide) dX12_isOver_19 ?_
  exact G_zret (pc := 20) (Nat.le_of_ble_eq_true rfl) (Nat.le_of_ble_eq_true rfl) rfl (by decide) dX12_isOver_20 ⟨rfl, rfl⟩
set_option maxRecDepth 100000 in
set_option maxHeartbeats 4000000 in
theorem s10258_X12_restOne (J : gI) (d : Nat)   : G (d) mX12_restOne 0 0 0 0 0 (gent 2 [.ref 67]) [] SH0 RF0 (gup (gup (gup (gup (gup (gup (gup (gup (gcp (gmx J) 68 70 0 0 65) 68 0 1) 68 2 0) 68 0 2) 68 2 0) 68 0 3) 68 2 0) 68 0 4) 68 2 0) (fun r h => r = some (.int (-1)) ∧ h = (SH0, RF0, (gup (gup (gup (gup (gup (gup (gup (gup (gcp (gmx J) 68 70 0 0 65) 68 0 1) 68 2 0) 68 0 2) 68 2 0) 68 0 3) 68 2 0) 68 0 4) 68 2 0))) := by
  refine G_iconst (pc := 0) (v := 0) (by decide) dX12_restOne_0 ?_
  refine G_istore_n (pc := 1) (L1 := [some (.ref 67), some (.int 0)]) rfl rfl (by decide) dX12_restOne_1 ?_
  refine G_iload_n (pc := 2) rfl dX12_restOne_2 ?_
  refine G_aload_n (pc := 3) rfl dX12_restOne_3 ?_
  refine G_getR (pc := 4) (r := 68) (ci := 12) (j := 0) rfl lk_RX12_9 rfl rfl rfl dX12_restOne_4 ?_
  refine G_iconst (pc := 7) (v := 4) (by decide) dX12_restOne_7 ?_
  refine G_iald (pc := 8) (jj := 4) (v := 0) (by decide) rfl rfl (by unfold vp_in; decide) dX12_restOne_8 ?_
  refine G_icmp_ge (pc := 9) (tgt := 28) (by decide) dX12_restOne_9 (fun _ => ?_) (fun z => absurd (by decide) z)
  refine G_iconst (pc := 28) (v := (-1)) (by decide) dX12_restOne_28 ?_
  exact G_iret (pc := 29) (Nat.le_of_ble_eq_true rfl) (Nat.le_of_ble_eq_true rfl) rfl dX12_restOne_29 ⟨rfl, rfl⟩
set_option maxRecDepth 100000 in
set_option maxHeartbeats 4000000 in
theorem s10257_X12_goesBy (J : gI) (d : Nat)   : G (d + 1) mX12_goesBy 0 0 0 0 0 (gent 5 [.ref 67, .int (-1)]) [] SH0 RF0 (gup (gup (gup (gup (gup (gup (gup (gup (gcp (gmx J) 68 70 0 0 65) 68 0 1) 68 2 0) 68 0 2) 68 2 0) 68 0 3) 68 2 0) 68 0 4) 68 2 0) (fun r h => r = some (.int 0) ∧ h = (SH0, RF0, (gup (gup (gup (gup (gup (gup (gup (gup (gup (gup (gcp (gmx J) 68 70 0 0 65) 68 0 1) 68 2 0) 68 0 2) 68 2 0) 68 0 3) 68 2 0) 68 0 4) 68 2 0) 68 0 5) 68 2 0))) := by
  refine G_iload_n (pc := 0) rfl dX12_goesBy_0 ?_
  refine G_if_ge (pc := 1) (tgt := 11) (by decide) dX12_goesBy_1 (fun z => absurd z (by decide)) (fun _ => ?_)
  refine G_aload_n (pc := 4) rfl dX12_goesBy_4 ?_
  refine G_callV (pc := 5) (mc1 := 0) (ms1 := 0) (ci := 12) (mj := mX12_restOne) (vs := []) dX12_goesBy_5 rfl rfl cm_X12_restOne wh_68 wh_70 wh_71 rfl (Nat.le_of_ble_eq_true rfl) (Nat.le_of_ble_eq_true rfl) (Nat.le_of_ble_eq_true rfl) (Nat.le_of_ble_eq_true rfl) (s10258_X12_restOne J d  ) ?_
  rintro _ _ ⟨rfl, rfl⟩
  dsimp only [Option.toList, List.cons_append, List.nil_append]
  refine G_goto (pc := 8) (tgt := 14) (by decide) dX12_goesBy_8 ?_
  refine G_istore_n (pc := 14) (L1 := [some (.ref 67), some (.int (-1)), some (.int (-1)), none, none]) rfl rfl (by decide) dX12_goesBy_14 ?_
  refine G_iload_n (pc := 15) rfl dX12_goesBy_15 ?_
  refine G_if_lt (pc := 16) (tgt := 27) (by decide) dX12_goesBy_16 (fun _ => ?_) (fun z => absurd (by decide) z)
  refine G_iconst (pc := 27) (v := 0) (by decide) dX12_goesBy_27 ?_
  refine G_istore_n (pc := 28) (L1 := [some (.ref 67), some (.int (-1)), some (.int (-1)), some (.int 0), none]) rfl rfl (by decide) dX12_goesBy_28 ?_
  refine G_iconst (pc := 29) (v := 0) (by decide) dX12_goesBy_29 ?_
  refine G_istore (pc := 30) (L1 := [some (.ref 67), some (.int (-1)), some (.int (-1)), some (.int 0), some (.int 0)]) rfl rfl (by decide) dX12_goesBy_30 ?_
  refine G_iload (pc := 32) rfl dX12_goesBy_32 ?_
  refine G_aload_n (pc := 34) rfl dX12_goesBy_34 ?_
  refine G_getR (pc := 35) (r := 68) (ci := 12) (j := 0) rfl lk_RX12_9 rfl rfl rfl dX12_goesBy_35 ?_
  refine G_iconst (pc := 38) (v := 4) (by decide) dX12_goesBy_38 ?_
  refine G_iald (pc := 39) (jj := 4) (v := 0) (by decide) rfl rfl (by unfold vp_in; decide) dX12_goesBy_39 ?_
  refine G_icmp_ge (pc := 40) (tgt := 104) (by decide) dX12_goesBy_40 (fun _ => ?_) (fun z => absurd (by decide) z)
  refine G_aload_n (pc := 104) rfl dX12_goesBy_104 ?_
  refine G_getR (pc := 105) (r := 68) (ci := 12) (j := 0) rfl lk_RX12_9 rfl rfl rfl dX12_goesBy_105 ?_
  refine G_iconst (pc := 108) (v := 0) (by decide) dX12_goesBy_108 ?_
  refine G_dup2 (pc := 109) rfl rfl dX12_goesBy_109 ?_
  refine G_iald (pc := 110) (jj := 0) (v := 4) (by decide) rfl rfl (by unfold vp_in; decide) dX12_goesBy_110 ?_
  refine G_iconst (pc := 111) (v := 1) (by decide) dX12_goesBy_111 ?_
  refine G_iadd (pc := 112) (z := 5) (by decide) dX12_goesBy_112 ?_
  refine G_iast (pc := 113) (jj := 0) (by decide) rfl (by unfold vp_in; decide) dX12_goesBy_113 ?_
  refine G_aload_n (pc := 114) rfl dX12_goesBy_114 ?_
  refine G_getR (pc := 115) (r := 68) (ci := 12) (j := 0) rfl lk_RX12_9 rfl rfl rfl dX12_goesBy_115 ?_
  refine G_iconst (pc := 118) (v := 2) (by decide) dX12_goesBy_118 ?_
  refine G_dup2 (pc := 119) rfl rfl dX12_goesBy_119 ?_
  refine G_iald (pc := 120) (jj := 2) (v := 0) (by decide) rfl rfl (by unfold vp_in; decide) dX12_goesBy_120 ?_
  refine G_iload_n (pc := 121) rfl dX12_goesBy_121 ?_
  refine G_iadd (pc := 122) (z := 0) (by decide) dX12_goesBy_122 ?_
  refine G_iast (pc := 123) (jj := 2) (by decide) rfl (by unfold vp_in; decide) dX12_goesBy_123 ?_
  refine G_iload_n (pc := 124) rfl dX12_goesBy_124 ?_
  exact G_iret (pc := 125) (Nat.le_of_ble_eq_true rfl) (Nat.le_of_ble_eq_true rfl) rfl dX12_goesBy_125 ⟨rfl, rfl⟩
set_option maxRecDepth 100000 in
set_option maxHeartbeats 4000000 in
theorem s10259_X12_isOver (J : gI) (d : Nat)   : G (d) mX12_isOver 0 0 0 0 0 (gent 1 [.ref 67]) [] SH0 RF0 (gup (gup (gup (gup (gup (gup (gup (gup (gup (gup (gcp (gmx J) 68 70 0 0 65) 68 0 1) 68 2 0) 68 0 2) 68 2 0) 68 0 3) 68 2 0) 68 0 4) 68 2 0) 68 0 5) 68 2 0) (fun r h => r = some (.int 0) ∧ h = (SH0, RF0, (gup (gup (gup (gup (gup (gup (gup (gup (gup (gup (gcp (gmx J) 68 70 0 0 65) 68 0 1) 68 2 0) 68 0 2) 68 2 0) 68 0 3) 68 2 0) 68 0 4) 68 2 0) 68 0 5) 68 2 0))) := by
  refine G_aload_n (pc := 0) rfl dX12_isOver_0 ?_
  refine G_getR (pc := 1) (r := 68) (ci := 12) (j := 0) rfl lk_RX12_9 rfl rfl rfl dX12_isOver_1 ?_
  refine G_iconst (pc := 4) (v := 0) (by decide) dX12_isOver_4 ?_
  refine G_iald (pc := 5) (jj := 0) (v := 5) (by decide) rfl rfl (by unfold vp_in; decide) dX12_isOver_5 ?_
  refine G_aload_n (pc := 6) rfl dX12_isOver_6 ?_
  refine G_getR (pc := 7) (r := 68) (ci := 12) (j := 0) rfl lk_RX12_9 rfl rfl rfl dX12_isOver_7 ?_
  refine G_iconst (pc := 10) (v := 1) (by decide) dX12_isOver_10 ?_
  refine G_iald (pc := 11) (jj := 1) (v := 12) (by decide) rfl rfl (by unfold vp_in; decide) dX12_isOver_11 ?_
  refine G_icmp_lt (pc := 12) (tgt := 19) (by decide) dX12_isOver_12 (fun _ => ?_) (fun z => absurd (by decide) z)
  refine G_iconst (pc := 19) (v := 0) (by decide) dX12_isOver_19 ?_
  exact G_zret (pc := 20) (Nat.le_of_ble_eq_true rfl) (Nat.le_of_ble_eq_true rfl) rfl (by decide) dX12_isOver_20 ⟨rfl, rfl⟩
set_option maxRecDepth 100000 in
set_option maxHeartbeats 4000000 in
theorem s10261_X12_restOne (J : gI) (d : Nat)   : G (d) mX12_restOne 0 0 0 0 0 (gent 2 [.ref 67]) [] SH0 RF0 (gup (gup (gup (gup (gup (gup (gup (gup (gup (gup (gcp (gmx J) 68 70 0 0 65) 68 0 1) 68 2 0) 68 0 2) 68 2 0) 68 0 3) 68 2 0) 68 0 4) 68 2 0) 68 0 5) 68 2 0) (fun r h => r = some (.int (-1)) ∧ h = (SH0, RF0, (gup (gup (gup (gup (gup (gup (gup (gup (gup (gup (gcp (gmx J) 68 70 0 0 65) 68 0 1) 68 2 0) 68 0 2) 68 2 0) 68 0 3) 68 2 0) 68 0 4) 68 2 0) 68 0 5) 68 2 0))) := by
  refine G_iconst (pc := 0) (v := 0) (by decide) dX12_restOne_0 ?_
  refine G_istore_n (pc := 1) (L1 := [some (.ref 67), some (.int 0)]) rfl rfl (by decide) dX12_restOne_1 ?_
  refine G_iload_n (pc := 2) rfl dX12_restOne_2 ?_
  refine G_aload_n (pc := 3) rfl dX12_restOne_3 ?_
  refine G_getR (pc := 4) (r := 68) (ci := 12) (j := 0) rfl lk_RX12_9 rfl rfl rfl dX12_restOne_4 ?_
  refine G_iconst (pc := 7) (v := 4) (by decide) dX12_restOne_7 ?_
  refine G_iald (pc := 8) (jj := 4) (v := 0) (by decide) rfl rfl (by unfold vp_in; decide) dX12_restOne_8 ?_
  refine G_icmp_ge (pc := 9) (tgt := 28) (by decide) dX12_restOne_9 (fun _ => ?_) (fun z => absurd (by decide) z)
  refine G_iconst (pc := 28) (v := (-1)) (by decide) dX12_restOne_28 ?_
  exact G_iret (pc := 29) (Nat.le_of_ble_eq_true rfl) (Nat.le_of_ble_eq_true rfl) rfl dX12_restOne_29 ⟨rfl, rfl⟩
set_option maxRecDepth 100000 in
set_option maxHeartbeats 4000000 in
theorem s10260_X12_goesBy (J : gI) (d : Nat)   : G (d + 1) mX12_goesBy 0 0 0 0 0 (gent 5 [.ref 67, .int (-1)]) [] SH0 RF0 (gup (gup (gup (gup (gup (gup (gup (gup (gup (gup (gcp (gmx J) 68 70 0 0 65) 68 0 1) 68 2 0) 68 0 2) 68 2 0) 68 0 3) 68 2 0) 68 0 4) 68 2 0) 68 0 5) 68 2 0) (fun r h => r = some (.int 0) ∧ h = (SH0, RF0, (gup (gup (gup (gup (gup (gup (gup (gup (gup (gup (gup (gup (gcp (gmx J) 68 70 0 0 65) 68 0 1) 68 2 0) 68 0 2) 68 2 0) 68 0 3) 68 2 0) 68 0 4) 68 2 0) 68 0 5) 68 2 0) 68 0 6) 68 2 0))) := by
  refine G_iload_n (pc := 0) rfl dX12_goesBy_0 ?_
  refine G_if_ge (pc := 1) (tgt := 11) (by decide) dX12_goesBy_1 (fun z => absurd z (by decide)) (fun _ => ?_)
  refine G_aload_n (pc := 4) rfl dX12_goesBy_4 ?_
  refine G_callV (pc := 5) (mc1 := 0) (ms1 := 0) (ci := 12) (mj := mX12_restOne) (vs := []) dX12_goesBy_5 rfl rfl cm_X12_restOne wh_68 wh_70 wh_71 rfl (Nat.le_of_ble_eq_true rfl) (Nat.le_of_ble_eq_true rfl) (Nat.le_of_ble_eq_true rfl) (Nat.le_of_ble_eq_true rfl) (s10261_X12_restOne J d  ) ?_
  rintro _ _ ⟨rfl, rfl⟩
  dsimp only [Option.toList, List.cons_append, List.nil_append]
  refine G_goto (pc := 8) (tgt := 14) (by decide) dX12_goesBy_8 ?_
  refine G_istore_n (pc := 14) (L1 := [some (.ref 67), some (.int (-1)), some (.int (-1)), none, none]) rfl rfl (by decide) dX12_goesBy_14 ?_
  refine G_iload_n (pc := 15) rfl dX12_goesBy_15 ?_
  refine G_if_lt (pc := 16) (tgt := 27) (by decide) dX12_goesBy_16 (fun _ => ?_) (fun z => absurd (by decide) z)
  refine G_iconst (pc := 27) (v := 0) (by decide) dX12_goesBy_27 ?_
  refine G_istore_n (pc := 28) (L1 := [some (.ref 67), some (.int (-1)), some (.int (-1)), some (.int 0), none]) rfl rfl (by decide) dX12_goesBy_28 ?_
  refine G_iconst (pc := 29) (v := 0) (by decide) dX12_goesBy_29 ?_
  refine G_istore (pc := 30) (L1 := [some (.ref 67), some (.int (-1)), some (.int (-1)), some (.int 0), some (.int 0)]) rfl rfl (by decide) dX12_goesBy_30 ?_
  refine G_iload (pc := 32) rfl dX12_goesBy_32 ?_
  refine G_aload_n (pc := 34) rfl dX12_goesBy_34 ?_
  refine G_getR (pc := 35) (r := 68) (ci := 12) (j := 0) rfl lk_RX12_9 rfl rfl rfl dX12_goesBy_35 ?_
  refine G_iconst (pc := 38) (v := 4) (by decide) dX12_goesBy_38 ?_
  refine G_iald (pc := 39) (jj := 4) (v := 0) (by decide) rfl rfl (by unfold vp_in; decide) dX12_goesBy_39 ?_
  refine G_icmp_ge (pc := 40) (tgt := 104) (by decide) dX12_goesBy_40 (fun _ => ?_) (fun z => absurd (by decide) z)
  refine G_aload_n (pc := 104) rfl dX12_goesBy_104 ?_
  refine G_getR (pc := 105) (r := 68) (ci := 12) (j := 0) rfl lk_RX12_9 rfl rfl rfl dX12_goesBy_105 ?_
  refine G_iconst (pc := 108) (v := 0) (by decide) dX12_goesBy_108 ?_
  refine G_dup2 (pc := 109) rfl rfl dX12_goesBy_109 ?_
  refine G_iald (pc := 110) (jj := 0) (v := 5) (by decide) rfl rfl (by unfold vp_in; decide) dX12_goesBy_110 ?_
  refine G_iconst (pc := 111) (v := 1) (by decide) dX12_goesBy_111 ?_
  refine G_iadd (pc := 112) (z := 6) (by decide) dX12_goesBy_112 ?_
  refine G_iast (pc := 113) (jj := 0) (by decide) rfl (by unfold vp_in; decide) dX12_goesBy_113 ?_
  refine G_aload_n (pc := 114) rfl dX12_goesBy_114 ?_
  refine G_getR (pc := 115) (r := 68) (ci := 12) (j := 0) rfl lk_RX12_9 rfl rfl rfl dX12_goesBy_115 ?_
  refine G_iconst (pc := 118) (v := 2) (by decide) dX12_goesBy_118 ?_
  refine G_dup2 (pc := 119) rfl rfl dX12_goesBy_119 ?_
  refine G_iald (pc := 120) (jj := 2) (v := 0) (by decide) rfl rfl (by unfold vp_in; decide) dX12_goesBy_120 ?_
  refine G_iload_n (pc := 121) rfl dX12_goesBy_121 ?_
  refine G_iadd (pc := 122) (z := 0) (by decide) dX12_goesBy_122 ?_
  refine G_iast (pc := 123) (jj := 2) (by decide) rfl (by unfold vp_in; decide) dX12_goesBy_123 ?_
  refine G_iload_n (pc := 124) rfl dX12_goesBy_124 ?_
  exact G_iret (pc := 125) (Nat.le_of_ble_eq_true rfl) (Nat.le_of_ble_eq_true rfl) rfl dX12_goesBy_125 ⟨rfl, rfl⟩
set_option maxRecDepth 100000 in
set_option maxHeartbeats 4000000 in
theorem s10262_X12_isOver (J : gI) (d : Nat)   : G (d) mX12_isOver 0 0 0 0 0 (gent 1 [.ref 67]) [] SH0 RF0 (gup (gup (gup (gup (gup (gup (gup (gup (gup (gup (gup (gup (gcp (gmx J) 68 70 0 0 65) 68 0 1) 68 2 0) 68 0 2) 68 2 0) 68 0 3) 68 2 0) 68 0 4) 68 2 0) 68 0 5) 68 2 0) 68 0 6) 68 2 0) (fun r h => r = some (.int 0) ∧ h = (SH0, RF0, (gup (gup (gup (gup (gup (gup (gup (gup (gup (gup (gup (gup (gcp (gmx J) 68 70 0 0 65) 68 0 1) 68 2 0) 68 0 2) 68 2 0) 68 0 3) 68 2 0) 68 0 4) 68 2 0) 68 0 5) 68 2 0) 68 0 6) 68 2 0))) := by
  refine G_aload_n (pc := 0) rfl dX12_isOver_0 ?_
  refine G_getR (pc := 1) (r := 68) (ci := 12) (j := 0) rfl lk_RX12_9 rfl rfl rfl dX12_isOver_1 ?_
  refine G_iconst (pc := 4) (v := 0) (by decide) dX12_isOver_4 ?_
  refine G_iald (pc := 5) (jj := 0) (v := 6) (by decide) rfl rfl (by unfold vp_in; decide) dX12_isOver_5 ?_
  refine G_aload_n (pc := 6) rfl dX12_isOver_6 ?_
  refine G_getR (pc := 7) (r := 68) (ci := 12) (j := 0) rfl lk_RX12_9 rfl rfl rfl dX12_isOver_7 ?_
  refine G_iconst (pc := 10) (v := 1) (by decide) dX12_isOver_10 ?_
  refine G_iald (pc := 11) (jj := 1) (v := 12) (by decide) rfl rfl (by unfold vp_in; decide) dX12_isOver_11 ?_
  refine G_icmp_lt (pc := 12) (tgt := 19) (by decide) dX12_isOver_12 (fun _ => ?_) (fun z => absurd (by decide) z)
  refine G_iconst (pc := 19) (v := 0) (by decide) dX12_isOver_19 ?_
  exact G_zret (pc := 20) (Nat.le_of_ble_eq_true rfl) (Nat.le_of_ble_eq_true rfl) rfl (by decide) dX12_isOver_20 ⟨rfl, rfl⟩
set_option maxRecDepth 100000 in
set_option maxHeartbeats 4000000 in
theorem s10264_X12_restOne (J : gI) (d : Nat)   : G (d) mX12_restOne 0 0 0 0 0 (gent 2 [.ref 67]) [] SH0 RF0 (gup (gup (gup (gup (gup (gup (gup (gup (gup (gup (gup (gup (gcp (gmx J) 68 70 0 0 65) 68 0 1) 68 2 0) 68 0 2) 68 2 0) 68 0 3) 68 2 0) 68 0 4) 68 2 0) 68 0 5) 68 2 0) 68 0 6) 68 2 0) (fun r h => r = some (.int (-1)) ∧ h = (SH0, RF0, (gup (gup (gup (gup (gup (gup (gup (gup (gup (gup (gup (gup (gcp (gmx J) 68 70 0 0 65) 68 0 1) 68 2 0) 68 0 2) 68 2 0) 68 0 3) 68 2 0) 68 0 4) 68 2 0) 68 0 5) 68 2 0) 68 0 6) 68 2 0))) := by
  refine G_iconst (pc := 0) (v := 0) (by decide) dX12_restOne_0 ?_
  refine G_istore_n (pc := 1) (L1 := [some (.ref 67), some (.int 0)]) rfl rfl (by decide) dX12_restOne_1 ?_
  refine G_iload_n (pc := 2) rfl dX12_restOne_2 ?_
  refine G_aload_n (pc := 3) rfl dX12_restOne_3 ?_
  refine G_getR (pc := 4) (r := 68) (ci := 12) (j := 0) rfl lk_RX12_9 rfl rfl rfl dX12_restOne_4 ?_
  refine G_iconst (pc := 7) (v := 4) (by decide) dX12_restOne_7 ?_
  refine G_iald (pc := 8) (jj := 4) (v := 0) (by decide) rfl rfl (by unfold vp_in; decide) dX12_restOne_8 ?_
  refine G_icmp_ge (pc := 9) (tgt := 28) (by decide) dX12_restOne_9 (fun _ => ?_) (fun z => absurd (by decide) z)
  refine G_iconst (pc := 28) (v := (-1)) (by decide) dX12_restOne_28 ?_
  exact G_iret (pc := 29) (Nat.le_of_ble_eq_true rfl) (Nat.le_of_ble_eq_true rfl) rfl dX12_restOne_29 ⟨rfl, rfl⟩
set_option maxRecDepth 100000 in
set_option maxHeartbeats 4000000 in
theorem s10263_X12_goesBy (J : gI) (d : Nat)   : G (d + 1) mX12_goesBy 0 0 0 0 0 (gent 5 [.ref 67, .int (-1)]) [] SH0 RF0 (gup (gup (gup (gup (gup (gup (gup (gup (gup (gup (gup (gup (gcp (gmx J) 68 70 0 0 65) 68 0 1) 68 2 0) 68 0 2) 68 2 0) 68 0 3) 68 2 0) 68 0 4) 68 2 0) 68 0 5) 68 2 0) 68 0 6) 68 2 0) (fun r h => r = some (.int 0) ∧ h = (SH0, RF0, (gup (gup (gup (gup (gup (gup (gup (gup (gup (gup (gup (gup (gup (gup (gcp (gmx J) 68 70 0 0 65) 68 0 1) 68 2 0) 68 0 2) 68 2 0) 68 0 3) 68 2 0) 68 0 4) 68 2 0) 68 0 5) 68 2 0) 68 0 6) 68 2 0) 68 0 7) 68 2 0))) := by
  refine G_iload_n (pc := 0) rfl dX12_goesBy_0 ?_
  refine G_if_ge (pc := 1) (tgt := 11) (by decide) dX12_goesBy_1 (fun z => absurd z (by decide)) (fun _ => ?_)
  refine G_aload_n (pc := 4) rfl dX12_goesBy_4 ?_
  refine G_callV (pc := 5) (mc1 := 0) (ms1 := 0) (ci := 12) (mj := mX12_restOne) (vs := []) dX12_goesBy_5 rfl rfl cm_X12_restOne wh_68 wh_70 wh_71 rfl (Nat.le_of_ble_eq_true rfl) (Nat.le_of_ble_eq_true rfl) (Nat.le_of_ble_eq_true rfl) (Nat.le_of_ble_eq_true rfl) (s10264_X12_restOne J d  ) ?_
  rintro _ _ ⟨rfl, rfl⟩
  dsimp only [Option.toList, List.cons_append, List.nil_append]
  refine G_goto (pc := 8) (tgt := 14) (by decide) dX12_goesBy_8 ?_
  refine G_istore_n (pc := 14) (L1 := [some (.ref 67), some (.int (-1)), some (.int (-1)), none, none]) rfl rfl (by decide) dX12_goesBy_14 ?_
  refine G_iload_n (pc := 15) rfl dX12_goesBy_15 ?_
  refine G_if_lt (pc := 16) (tgt := 27) (by decide) dX12_goesBy_16 (fun _ => ?_) (fun z => absurd (by decide) z)
  refine G_iconst (pc := 27) (v := 0) (by decide) dX12_goesBy_27 ?_
  refine G_istore_n (pc := 28) (L1 := [some (.ref 67), some (.int (-1)), some (.int (-1)), some (.int 0), none]) rfl rfl (by decide) dX12_goesBy_28 ?_
  refine G_iconst (pc := 29) (v := 0) (by decide) dX12_goesBy_29 ?_
  refine G_istore (pc := 30) (L1 := [some (.ref 67), some (.int (-1)), some (.int (-1)), some (.int 0), some (.int 0)]) rfl rfl (by decide) dX12_goesBy_30 ?_
  refine G_iload (pc := 32) rfl dX12_goesBy_32 ?_
  refine G_aload_n (pc := 34) rfl dX12_goesBy_34 ?_
  refine G_getR (pc := 35) (r := 68) (ci := 12) (j := 0) rfl lk_RX12_9 rfl rfl rfl dX12_goesBy_35 ?_
  refine G_iconst (pc := 38) (v := 4) (by decide) dX12_goesBy_38 ?_
  refine G_iald (pc := 39) (jj := 4) (v := 0) (by decide) rfl rfl (by unfold vp_in; decide) dX12_goesBy_39 ?_
  refine G_icmp_ge (pc := 40) (tgt := 104) (by decide) dX12_goesBy_40 (fun _ => ?_) (fun z => absurd (by decide) z)
  refine G_aload_n (pc := 104) rfl dX12_goesBy_104 ?_
  refine G_getR (pc := 105) (r := 68) (ci := 12) (j := 0) rfl lk_RX12_9 rfl rfl rfl dX12_goesBy_105 ?_
  refine G_iconst (pc := 108) (v := 0) (by decide) dX12_goesBy_108 ?_
  refine G_dup2 (pc := 109) rfl rfl dX12_goesBy_109 ?_
  refine G_iald (pc := 110) (jj := 0) (v := 6) (by decide) rfl rfl (by unfold vp_in; decide) dX12_goesBy_110 ?_
  refine G_iconst (pc := 111) (v := 1) (by decide) dX12_goesBy_111 ?_
  refine G_iadd (pc := 112) (z := 7) (by decide) dX12_goesBy_112 ?_
  refine G_iast (pc := 113) (jj := 0) (by decide) rfl (by unfold vp_in; decide) dX12_goesBy_113 ?_
  refine G_aload_n (pc := 114) rfl dX12_goesBy_114 ?_
  refine G_getR (pc := 115) (r := 68) (ci := 12) (j := 0) rfl lk_RX12_9 rfl rfl rfl dX12_goesBy_115 ?_
  refine G_iconst (pc := 118) (v := 2) (by decide) dX12_goesBy_118 ?_
  refine G_dup2 (pc := 119) rfl rfl dX12_goesBy_119 ?_
  refine G_iald (pc := 120) (jj := 2) (v := 0) (by decide) rfl rfl (by unfold vp_in; decide) dX12_goesBy_120 ?_
  refine G_iload_n (pc := 121) rfl dX12_goesBy_121 ?_
  refine G_iadd (pc := 122) (z := 0) (by decide) dX12_goesBy_122 ?_
  refine G_iast (pc := 123) (jj := 2) (by decide) rfl (by unfold vp_in; decide) dX12_goesBy_123 ?_
  refine G_iload_n (pc := 124) rfl dX12_goesBy_124 ?_
  exact G_iret (pc := 125) (Nat.le_of_ble_eq_true rfl) (Nat.le_of_ble_eq_true rfl) rfl dX12_goesBy_125 ⟨rfl, rfl⟩
set_option maxRecDepth 100000 in
set_option maxHeartbeats 4000000 in
theorem s10265_X12_isOver (J : gI) (d : Nat)   : G (d) mX12_isOver 0 0 0 0 0 (gent 1 [.ref 67]) [] SH0 RF0 (gup (gup (gup (gup (gup (gup (gup (gup (gup (gup (gup (gup (gup (gup (gcp (gmx J) 68 70 0 0 65) 68 0 1) 68 2 0) 68 0 2) 68 2 0) 68 0 3) 68 2 0) 68 0 4) 68 2 0) 68 0 5) 68 2 0) 68 0 6) 68 2 0) 68 0 7) 68 2 0) (fun r h => r = some (.int 0) ∧ h = (SH0, RF0, (gup (gup (gup (gup (gup (gup (gup (gup (gup (gup (gup (gup (gup (gup (gcp (gmx J) 68 70 0 0 65) 68 0 1) 68 2 0) 68 0 2) 68 2 0) 68 0 3) 68 2 0) 68 0 4) 68 2 0) 68 0 5) 68 2 0) 68 0 6) 68 2 0) 68 0 7) 68 2 0))) := by
  refine G_aload_n (pc := 0) rfl dX12_isOver_0 ?_
  refine G_getR (pc := 1) (r := 68) (ci := 12) (j := 0) rfl lk_RX12_9 rfl rfl rfl dX12_isOver_1 ?_
  refine G_iconst (pc := 4) (v := 0) (by decide) dX12_isOver_4 ?_
  refine G_iald (pc := 5) (jj := 0) (v := 7) (by decide) rfl rfl (by unfold vp_in; decide) dX12_isOver_5 ?_
  refine G_aload_n (pc := 6) rfl dX12_isOver_6 ?_
  refine G_getR (pc := 7) (r := 68) (ci := 12) (j := 0) rfl lk_RX12_9 rfl rfl rfl dX12_isOver_7 ?_
  refine G_iconst (pc := 10) (v := 1) (by decide) dX12_isOver_10 ?_
  refine G_iald (pc := 11) (jj := 1) (v := 12) (by decide) rfl rfl (by unfold vp_in; decide) dX12_isOver_11 ?_
  refine G_icmp_lt (pc := 12) (tgt := 19) (by decide) dX12_isOver_12 (fun _ => ?_) (fun z => absurd (by decide) z)
  refine G_iconst (pc := 19) (v := 0) (by decide) dX12_isOver_19 ?_
  exact G_zret (pc := 20) (Nat.le_of_ble_eq_true rfl) (Nat.le_of_ble_eq_true rfl) rfl (by decide) dX12_isOver_20 ⟨rfl, rfl⟩
set_option maxRecDepth 100000 in
set_option maxHeartbeats 4000000 in
theorem s10267_X12_restOne (J : gI) (d : Nat)   : G (d) mX12_restOne 0 0 0 0 0 (gent 2 [.ref 67]) [] SH0 RF0 (gup (gup (gup (gup (gup (gup (gup (gup (gup (gup (gup (gup (gup (gup (gcp (gmx J) 68 70 0 0 65) 68 0 1) 68 2 0) 68 0 2) 68 2 0) 68 0 3) 68 2 0) 68 0 4) 68 2 0) 68 0 5) 68 2 0) 68 0 6) 68 2 0) 68 0 7) 68 2 0) (fun r h => r = some (.int (-1)) ∧ h = (SH0, RF0, (gup (gup (gup (gup (gup (gup (gup (gup (gup (gup (gup (gup (gup (gup (gcp (gmx J) 68 70 0 0 65) 68 0 1) 68 2 0) 68 0 2) 68 2 0) 68 0 3) 68 2 0) 68 0 4) 68 2 0) 68 0 5) 68 2 0) 68 0 6) 68 2 0) 68 0 7) 68 2 0))) := by
  refine G_iconst (pc := 0) (v := 0) (by decide) dX12_restOne_0 ?_
  refine G_istore_n (pc := 1) (L1 := [some (.ref 67), some (.int 0)]) rfl rfl (by decide) dX12_restOne_1 ?_
  refine G_iload_n (pc := 2) rfl dX12_restOne_2 ?_
  refine G_aload_n (pc := 3) rfl dX12_restOne_3 ?_
  refine G_getR (pc := 4) (r := 68) (ci := 12) (j := 0) rfl lk_RX12_9 rfl rfl rfl dX12_restOne_4 ?_
  refine G_iconst (pc := 7) (v := 4) (by decide) dX12_restOne_7 ?_
  refine G_iald (pc := 8) (jj := 4) (v := 0) (by decide) rfl rfl (by unfold vp_in; decide) dX12_restOne_8 ?_
  refine G_icmp_ge (pc := 9) (tgt := 28) (by decide) dX12_restOne_9 (fun _ => ?_) (fun z => absurd (by decide) z)
  refine G_iconst (pc := 28) (v := (-1)) (by decide) dX12_restOne_28 ?_
  exact G_iret (pc := 29) (Nat.le_of_ble_eq_true rfl) (Nat.le_of_ble_eq_true rfl) rfl dX12_restOne_29 ⟨rfl, rfl⟩
set_option maxRecDepth 100000 in
set_option maxHeartbeats 4000000 in
theorem s10266_X12_goesBy (J : gI) (d : Nat)   : G (d + 1) mX12_goesBy 0 0 0 0 0 (gent 5 [.ref 67, .int (-1)]) [] SH0 RF0 (gup (gup (gup (gup (gup (gup (gup (gup (gup (gup (gup (gup (gup (gup (gcp (gmx J) 68 70 0 0 65) 68 0 1) 68 2 0) 68 0 2) 68 2 0) 68 0 3) 68 2 0) 68 0 4) 68 2 0) 68 0 5) 68 2 0) 68 0 6) 68 2 0) 68 0 7) 68 2 0) (fun r h => r = some (.int 0) ∧ h = (SH0, RF0, (gup (gup (gup (gup (gup (gup (gup (gup (gup (gup (gup (gup (gup (gup (gup (gup (gcp (gmx J) 68 70 0 0 65) 68 0 1) 68 2 0) 68 0 2) 68 2 0) 68 0 3) 68 2 0) 68 0 4) 68 2 0) 68 0 5) 68 2 0) 68 0 6) 68 2 0) 68 0 7) 68 2 0) 68 0 8) 68 2 0))) := by
  refine G_iload_n (pc := 0) rfl dX12_goesBy_0 ?_
  refine G_if_ge (pc := 1) (tgt := 11) (by decide) dX12_goesBy_1 (fun z => absurd z (by decide)) (fun _ => ?_)
  refine G_aload_n (pc := 4) rfl dX12_goesBy_4 ?_
  refine G_callV (pc := 5) (mc1 := 0) (ms1 := 0) (ci := 12) (mj := mX12_restOne) (vs := []) dX12_goesBy_5 rfl rfl cm_X12_restOne wh_68 wh_70 wh_71 rfl (Nat.le_of_ble_eq_true rfl) (Nat.le_of_ble_eq_true rfl) (Nat.le_of_ble_eq_true rfl) (Nat.le_of_ble_eq_true rfl) (s10267_X12_restOne J d  ) ?_
  rintro _ _ ⟨rfl, rfl⟩
  dsimp only [Option.toList, List.cons_append, List.nil_append]
  refine G_goto (pc := 8) (tgt := 14) (by decide) dX12_goesBy_8 ?_
  refine G_istore_n (pc := 14) (L1 := [some (.ref 67), some (.int (-1)), some (.int (-1)), none, none]) rfl rfl (by decide) dX12_goesBy_14 ?_
  refine G_iload_n (pc := 15) rfl dX12_goesBy_15 ?_
  refine G_if_lt (pc := 16) (tgt := 27) (by decide) dX12_goesBy_16 (fun _ => ?_) (fun z => absurd (by decide) z)
  refine G_iconst (pc := 27) (v := 0) (by decide) dX12_goesBy_27 ?_
  refine G_istore_n (pc := 28) (L1 := [some (.ref 67), some (.int (-1)), some (.int (-1)), some (.int 0), none]) rfl rfl (by decide) dX12_goesBy_28 ?_
  refine G_iconst (pc := 29) (v := 0) (by decide) dX12_goesBy_29 ?_
  refine G_istore (pc := 30) (L1 := [some (.ref 67), some (.int (-1)), some (.int (-1)), some (.int 0), some (.int 0)]) rfl rfl (by decide) dX12_goesBy_30 ?_
  refine G_iload (pc := 32) rfl dX12_goesBy_32 ?_
  refine G_aload_n (pc := 34) rfl dX12_goesBy_34 ?_
  refine G_getR (pc := 35) (r := 68) (ci := 12) (j := 0) rfl lk_RX12_9 rfl rfl rfl dX12_goesBy_35 ?_
  refine G_iconst (pc := 38) (v := 4) (by decide) dX12_goesBy_38 ?_
  refine G_iald (pc := 39) (jj := 4) (v := 0) (by decide) rfl rfl (by unfold vp_in; decide) dX12_goesBy_39 ?_
  refine G_icmp_ge (pc := 40) (tgt := 104) (by decide) dX12_goesBy_40 (fun _ => ?_) (fun z => absurd (by decide) z)
  refine G_aload_n (pc := 104) rfl dX12_goesBy_104 ?_
  refine G_getR (pc := 105) (r := 68) (ci := 12) (j := 0) rfl lk_RX12_9 rfl rfl rfl dX12_goesBy_105 ?_
  refine G_iconst (pc := 108) (v := 0) (by decide) dX12_goesBy_108 ?_
  refine G_dup2 (pc := 109) rfl rfl dX12_goesBy_109 ?_
  refine G_iald (pc := 110) (jj := 0) (v := 7) (by decide) rfl rfl (by unfold vp_in; decide) dX12_goesBy_110 ?_
  refine G_iconst (pc := 111) (v := 1) (by decide) dX12_goesBy_111 ?_
  refine G_iadd (pc := 112) (z := 8) (by decide) dX12_goesBy_112 ?_
  refine G_iast (pc := 113) (jj := 0) (by decide) rfl (by unfold vp_in; decide) dX12_goesBy_113 ?_
  refine G_aload_n (pc := 114) rfl dX12_goesBy_114 ?_
  refine G_getR (pc := 115) (r := 68) (ci := 12) (j := 0) rfl lk_RX12_9 rfl rfl rfl dX12_goesBy_115 ?_
  refine G_iconst (pc := 118) (v := 2) (by decide) dX12_goesBy_118 ?_
  refine G_dup2 (pc := 119) rfl rfl dX12_goesBy_119 ?_
  refine G_iald (pc := 120) (jj := 2) (v := 0) (by decide) rfl rfl (by unfold vp_in; decide) dX12_goesBy_120 ?_
  refine G_iload_n (pc := 121) rfl dX12_goesBy_121 ?_
  refine G_iadd (pc := 122) (z := 0) (by decide) dX12_goesBy_122 ?_
  refine G_iast (pc := 123) (jj := 2) (by decide) rfl (by unfold vp_in; decide) dX12_goesBy_123 ?_
  refine G_iload_n (pc := 124) rfl dX12_goesBy_124 ?_
  exact G_iret (pc := 125) (Nat.le_of_ble_eq_true rfl) (Nat.le_of_ble_eq_true rfl) rfl dX12_goesBy_125 ⟨rfl, rfl⟩
set_option maxRecDepth 100000 in
set_option maxHeartbeats 4000000 in
theorem s10268_X12_isOver (J : gI) (d : Nat)   : G (d) mX12_isOver 0 0 0 0 0 (gent 1 [.ref 67]) [] SH0 RF0 (gup (gup (gup (gup (gup (gup (gup (gup (gup (gup (gup (gup (gup (gup (gup (gup (gcp (gmx J) 68 70 0 0 65) 68 0 1) 68 2 0) 68 0 2) 68 2 0) 68 0 3) 68 2 0) 68 0 4) 68 2 0) 68 0 5) 68 2 0) 68 0 6) 68 2 0) 68 0 7) 68 2 0) 68 0 8) 68 2 0) (fun r h => r = some (.int 0) ∧ h = (SH0, RF0, (gup (gup (gup (gup (gup (gup (gup (gup (gup (gup (gup (gup (gup (gup (gup (gup (gcp (gmx J) 68 70 0 0 65) 68 0 1) 68 2 0) 68 0 2) 68 2 0) 68 0 3) 68 2 0) 68 0 4) 68 2 0) 68 0 5) 68 2 0) 68 0 6) 68 2 0) 68 0 7) 68 2 0) 68 0 8) 68 2 0))) := by
  refine G_aload_n (pc := 0) rfl dX12_isOver_0 ?_
  refine G_getR (pc := 1) (r := 68) (ci := 12) (j := 0) rfl lk_RX12_9 rfl rfl rfl dX12_isOver_1 ?_
  refine G_iconst (pc := 4) (v := 0) (by decide) dX12_isOver_4 ?_
  refine G_iald (pc := 5) (jj := 0) (v := 8) (by decide) rfl rfl (by unfold vp_in; decide) dX12_isOver_5 ?_
  refine G_aload_n (pc := 6) rfl dX12_isOver_6 ?_
  refine G_getR (pc := 7) (r := 68) (ci := 12) (j := 0) rfl lk_RX12_9 rfl rfl rfl dX12_isOver_7 ?_
  refine G_iconst (pc := 10) (v := 1) (by decide) dX12_isOver_10 ?_
  refine G_iald (pc := 11) (jj := 1) (v := 12) (by decide) rfl rfl (by unfold vp_in; decide) dX12_isOver_11 ?_
  refine G_icmp_lt (pc := 12) (tgt := 19) (by decide) dX12_isOver_12 (fun _ => ?_) (fun z => absurd (by decide) z)
  refine G_iconst (pc := 19) (v := 0) (by decide) dX12_isOver_19 ?_
  exact G_zret (pc := 20) (Nat.le_of_ble_eq_true rfl) (Nat.le_of_ble_eq_true rfl) rfl (by decide) dX12_isOver_20 ⟨rfl, rfl⟩
set_option maxRecDepth 100000 in
set_option maxHeartbeats 4000000 in
theorem s10270_X12_restOne (J : gI) (d : Nat)   : G (d) mX12_restOne 0 0 0 0 0 (gent 2 [.ref 67]) [] SH0 RF0 (gup (gup (gup (gup (gup (gup (gup (gup (gup (gup (gup (gup (gup (gup (gup (gup (gcp (gmx J) 68 70 0 0 65) 68 0 1) 68 2 0) 68 0 2) 68 2 0) 68 0 3) 68 2 0) 68 0 4) 68 2 0) 68 0 5) 68 2 0) 68 0 6) 68 2 0) 68 0 7) 68 2 0) 68 0 8) 68 2 0) (fun r h => r = some (.int (-1)) ∧ h = (SH0, RF0, (gup (gup (gup (gup (gup (gup (gup (gup (gup (gup (gup (gup (gup (gup (gup (gup (gcp (gmx J) 68 70 0 0 65) 68 0 1) 68 2 0) 68 0 2) 68 2 0) 68 0 3) 68 2 0) 68 0 4) 68 2 0) 68 0 5) 68 2 0) 68 0 6) 68 2 0) 68 0 7) 68 2 0) 68 0 8) 68 2 0))) := by
  refine G_iconst (pc := 0) (v := 0) (by decide) dX12_restOne_0 ?_
  refine G_istore_n (pc := 1) (L1 := [some (.ref 67), some (.int 0)]) rfl rfl (by decide) dX12_restOne_1 ?_
  refine G_iload_n (pc := 2) rfl dX12_restOne_2 ?_
  refine G_aload_n (pc := 3) rfl dX12_restOne_3 ?_
  refine G_getR (pc := 4) (r := 68) (ci := 12) (j := 0) rfl lk_RX12_9 rfl rfl rfl dX12_restOne_4 ?_
  refine G_iconst (pc := 7) (v := 4) (by decide) dX12_restOne_7 ?_
  refine G_iald (pc := 8) (jj := 4) (v := 0) (by decide) rfl rfl (by unfold vp_in; decide) dX12_restOne_8 ?_
  refine G_icmp_ge (pc := 9) (tgt := 28) (by decide) dX12_restOne_9 (fun _ => ?_) (fun z => absurd (by decide) z)
  refine G_iconst (pc := 28) (v := (-1)) (by decide) dX12_restOne_28 ?_
  exact G_iret (pc := 29) (Nat.le_of_ble_eq_true rfl) (Nat.le_of_ble_eq_true rfl) rfl dX12_restOne_29 ⟨rfl, rfl⟩
set_option maxRecDepth 100000 in
set_option maxHeartbeats 4000000 in
theorem s10269_X12_goesBy (J : gI) (d : Nat)   : G (d + 1) mX12_goesBy 0 0 0 0 0 (gent 5 [.ref 67, .int (-1)]) [] SH0 RF0 (gup (gup (gup (gup (gup (gup (gup (gup (gup (gup (gup (gup (gup (gup (gup (gup (gcp (gmx J) 68 70 0 0 65) 68 0 1) 68 2 0) 68 0 2) 68 2 0) 68 0 3) 68 2 0) 68 0 4) 68 2 0) 68 0 5) 68 2 0) 68 0 6) 68 2 0) 68 0 7) 68 2 0) 68 0 8) 68 2 0) (fun r h => r = some (.int 0) ∧ h = (SH0, RF0, (gup (gup (gup (gup (gup (gup (gup (gup (gup (gup (gup (gup (gup (gup (gup (gup (gup (gup (gcp (gmx J) 68 70 0 0 65) 68 0 1) 68 2 0) 68 0 2) 68 2 0) 68 0 3) 68 2 0) 68 0 4) 68 2 0) 68 0 5) 68 2 0) 68 0 6) 68 2 0) 68 0 7) 68 2 0) 68 0 8) 68 2 0) 68 0 9) 68 2 0))) := by
  refine G_iload_n (pc := 0) rfl dX12_goesBy_0 ?_
  refine G_if_ge (pc := 1) (tgt := 11) (by decide) dX12_goesBy_1 (fun z => absurd z (by decide)) (fun _ => ?_)
  refine G_aload_n (pc := 4) rfl dX12_goesBy_4 ?_
  refine G_callV (pc := 5) (mc1 := 0) (ms1 := 0) (ci := 12) (mj := mX12_restOne) (vs := []) dX12_goesBy_5 rfl rfl cm_X12_restOne wh_68 wh_70 wh_71 rfl (Nat.le_of_ble_eq_true rfl) (Nat.le_of_ble_eq_true rfl) (Nat.le_of_ble_eq_true rfl) (Nat.le_of_ble_eq_true rfl) (s10270_X12_restOne J d  ) ?_
  rintro _ _ ⟨rfl, rfl⟩
  dsimp only [Option.toList, List.cons_append, List.nil_append]
  refine G_goto (pc := 8) (tgt := 14) (by decide) dX12_goesBy_8 ?_
  refine G_istore_n (pc := 14) (L1 := [some (.ref 67), some (.int (-1)), some (.int (-1)), none, none]) rfl rfl (by decide) dX12_goesBy_14 ?_
  refine G_iload_n (pc := 15) rfl dX12_goesBy_15 ?_
  refine G_if_lt (pc := 16) (tgt := 27) (by decide) dX12_goesBy_16 (fun _ => ?_) (fun z => absurd (by decide) z)
  refine G_iconst (pc := 27) (v := 0) (by decide) dX12_goesBy_27 ?_
  refine G_istore_n (pc := 28) (L1 := [some (.ref 67), some (.int (-1)), some (.int (-1)), some (.int 0), none]) rfl rfl (by decide) dX12_goesBy_28 ?_
  refine G_iconst (pc := 29) (v := 0) (by decide) dX12_goesBy_29 ?_
  refine G_istore (pc := 30) (L1 := [some (.ref 67), some (.int (-1)), some (.int (-1)), some (.int 0), some (.int 0)]) rfl rfl (by decide) dX12_goesBy_30 ?_
  refine G_iload (pc := 32) rfl dX12_goesBy_32 ?_
  refine G_aload_n (pc := 34) rfl dX12_goesBy_34 ?_
  refine G_getR (pc := 35) (r := 68) (ci := 12) (j := 0) rfl lk_RX12_9 rfl rfl rfl dX12_goesBy_35 ?_
  refine G_iconst (pc := 38) (v := 4) (by decide) dX12_goesBy_38 ?_
  refine G_iald (pc := 39) (jj := 4) (v := 0) (by decide) rfl rfl (by unfold vp_in; decide) dX12_goesBy_39 ?_
  refine G_icmp_ge (pc := 40) (tgt := 104) (by decide) dX12_goesBy_40 (fun _ => ?_) (fun z => absurd (by decide) z)
  refine G_aload_n (pc := 104) rfl dX12_goesBy_104 ?_
  refine G_getR (pc := 105) (r := 68) (ci := 12) (j := 0) rfl lk_RX12_9 rfl rfl rfl dX12_goesBy_105 ?_
  refine G_iconst (pc := 108) (v := 0) (by decide) dX12_goesBy_108 ?_
  refine G_dup2 (pc := 109) rfl rfl dX12_goesBy_109 ?_
  refine G_iald (pc := 110) (jj := 0) (v := 8) (by decide) rfl rfl (by unfold vp_in; decide) dX12_goesBy_110 ?_
  refine G_iconst (pc := 111) (v := 1) (by decide) dX12_goesBy_111 ?_
  refine G_iadd (pc := 112) (z := 9) (by decide) dX12_goesBy_112 ?_
  refine G_iast (pc := 113) (jj := 0) (by decide) rfl (by unfold vp_in; decide) dX12_goesBy_113 ?_
  refine G_aload_n (pc := 114) rfl dX12_goesBy_114 ?_
  refine G_getR (pc := 115) (r := 68) (ci := 12) (j := 0) rfl lk_RX12_9 rfl rfl rfl dX12_goesBy_115 ?_
  refine G_iconst (pc := 118) (v := 2) (by decide) dX12_goesBy_118 ?_
  refine G_dup2 (pc := 119) rfl rfl dX12_goesBy_119 ?_
  refine G_iald (pc := 120) (jj := 2) (v := 0) (by decide) rfl rfl (by unfold vp_in; decide) dX12_goesBy_120 ?_
  refine G_iload_n (pc := 121) rfl dX12_goesBy_121 ?_
  refine G_iadd (pc := 122) (z := 0) (by decide) dX12_goesBy_122 ?_
  refine G_iast (pc := 123) (jj := 2) (by decide) rfl (by unfold vp_in; decide) dX12_goesBy_123 ?_
  refine G_iload_n (pc := 124) rfl dX12_goesBy_124 ?_
  exact G_iret (pc := 125) (Nat.le_of_ble_eq_true rfl) (Nat.le_of_ble_eq_true rfl) rfl dX12_goesBy_125 ⟨rfl, rfl⟩
set_option maxRecDepth 100000 in
set_option maxHeartbeats 4000000 in
theorem s10271_X12_isOver (J : gI) (d : Nat)   : G (d) mX12_isOver 0 0 0 0 0 (gent 1 [.ref 67]) [] SH0 RF0 (gup (gup (gup (gup (gup (gup (gup (gup (gup (gup (gup (gup (gup (gup (gup (gup (gup (gup (gcp (gmx J) 68 70 0 0 65) 68 0 1) 68 2 0) 68 0 2) 68 2 0) 68 0 3) 68 2 0) 68 0 4) 68 2 0) 68 0 5) 68 2 0) 68 0 6) 68 2 0) 68 0 7) 68 2 0) 68 0 8) 68 2 0) 68 0 9) 68 2 0) (fun r h => r = some (.int 0) ∧ h = (SH0, RF0, (gup (gup (gup (gup (gup (gup (gup (gup (gup (gup (gup (gup (gup (gup (gup (gup (gup (gup (gcp (gmx J) 68 70 0 0 65) 68 0 1) 68 2 0) 68 0 2) 68 2 0) 68 0 3) 68 2 0) 68 0 4) 68 2 0) 68 0 5) 68 2 0) 68 0 6) 68 2 0) 68 0 7) 68 2 0) 68 0 8) 68 2 0) 68 0 9) 68 2 0))) := by
  refine G_aload_n (pc := 0) rfl dX12_isOver_0 ?_
  refine G_getR (pc := 1) (r := 68) (ci := 12) (j := 0) rfl lk_RX12_9 rfl rfl rfl dX12_isOver_1 ?_
  refine G_iconst (pc := 4) (v := 0) (by decide) dX12_isOver_4 ?_
  refine G_iald (pc := 5) (jj := 0) (v := 9) (by decide) rfl rfl (by unfold vp_in; decide) dX12_isOver_5 ?_
  refine G_aload_n (pc := 6) rfl dX12_isOver_6 ?_
  refine G_getR (pc := 7) (r := 68) (ci := 12) (j := 0) rfl lk_RX12_9 rfl rfl rfl dX12_isOver_7 ?_
  refine G_iconst (pc := 10) (v := 1) (by decide) dX12_isOver_10 ?_
  refine G_iald (pc := 11) (jj := 1) (v := 12) (by decide) rfl rfl (by unfold vp_in; decide) dX12_isOver_11 ?_
  refine G_icmp_lt (pc := 12) (tgt := 19) (by decide) dX12_isOver_12 (fun _ => ?_) (fun z => absurd (by decide) z)
  refine G_iconst (pc := 19) (v := 0) (by decide) dX12_isOver_19 ?_
  exact G_zret (pc := 20) (Nat.le_of_ble_eq_true rfl) (Nat.le_of_ble_eq_true rfl) rfl (by decide) dX12_isOver_20 ⟨rfl, rfl⟩
set_option maxRecDepth 100000 in
set_option maxHeartbeats 4000000 in
theorem s10273_X12_restOne (J : gI) (d : Nat)   : G (d) mX12_restOne 0 0 0 0 0 (gent 2 [.ref 67]) [] SH0 RF0 (gup (gup (gup (gup (gup (gup (gup (gup (gup (gup (gup (gup (gup (gup (gup (gup (gup (gup (gcp (gmx J) 68 70 0 0 65) 68 0 1) 68 2 0) 68 0 2) 68 2 0) 68 0 3) 68 2 0) 68 0 4) 68 2 0) 68 0 5) 68 2 0) 68 0 6) 68 2 0) 68 0 7) 68 2 0) 68 0 8) 68 2 0) 68 0 9) 68 2 0) (fun r h => r = some (.int (-1)) ∧ h = (SH0, RF0, (gup (gup (gup (gup (gup (gup (gup (gup (gup (gup (gup (gup (gup (gup (gup (gup (gup (gup (gcp (gmx J) 68 70 0 0 65) 68 0 1) 68 2 0) 68 0 2) 68 2 0) 68 0 3) 68 2 0) 68 0 4) 68 2 0) 68 0 5) 68 2 0) 68 0 6) 68 2 0) 68 0 7) 68 2 0) 68 0 8) 68 2 0) 68 0 9) 68 2 0))) := by
  refine G_iconst (pc := 0) (v := 0) (by decide) dX12_restOne_0 ?_
  refine G_istore_n (pc := 1) (L1 := [some (.ref 67), some (.int 0)]) rfl rfl (by decide) dX12_restOne_1 ?_
  refine G_iload_n (pc := 2) rfl dX12_restOne_2 ?_
  refine G_aload_n (pc := 3) rfl dX12_restOne_3 ?_
  refine G_getR (pc := 4) (r := 68) (ci := 12) (j := 0) rfl lk_RX12_9 rfl rfl rfl dX12_restOne_4 ?_
  refine G_iconst (pc := 7) (v := 4) (by decide) dX12_restOne_7 ?_
  refine G_iald (pc := 8) (jj := 4) (v := 0) (by decide) rfl rfl (by unfold vp_in; decide) dX12_restOne_8 ?_
  refine G_icmp_ge (pc := 9) (tgt := 28) (by decide) dX12_restOne_9 (fun _ => ?_) (fun z => absurd (by decide) z)
  refine G_iconst (pc := 28) (v := (-1)) (by decide) dX12_restOne_28 ?_
  exact G_iret (pc := 29) (Nat.le_of_ble_eq_true rfl) (Nat.le_of_ble_eq_true rfl) rfl dX12_restOne_29 ⟨rfl, rfl⟩
set_option maxRecDepth 100000 in
set_option maxHeartbeats 4000000 in
theorem s10272_X12_goesBy (J : gI) (d : Nat)   : G (d + 1) mX12_goesBy 0 0 0 0 0 (gent 5 [.ref 67, .int (-1)]) [] SH0 RF0 (gup (gup (gup (gup (gup (gup (gup (gup (gup (gup (gup (gup (gup (gup (gup (gup (gup (gup (gcp (gmx J) 68 70 0 0 65) 68 0 1) 68 2 0) 68 0 2) 68 2 0) 68 0 3) 68 2 0) 68 0 4) 68 2 0) 68 0 5) 68 2 0) 68 0 6) 68 2 0) 68 0 7) 68 2 0) 68 0 8) 68 2 0) 68 0 9) 68 2 0) (fun r h => r = some (.int 0) ∧ h = (SH0, RF0, (gup (gup (gup (gup (gup (gup (gup (gup (gup (gup (gup (gup (gup (gup (gup (gup (gup (gup (gup (gup (gcp (gmx J) 68 70 0 0 65) 68 0 1) 68 2 0) 68 0 2) 68 2 0) 68 0 3) 68 2 0) 68 0 4) 68 2 0) 68 0 5) 68 2 0) 68 0 6) 68 2 0) 68 0 7) 68 2 0) 68 0 8) 68 2 0) 68 0 9) 68 2 0) 68 0 10) 68 2 0))) := by
  refine G_iload_n (pc := 0) rfl dX12_goesBy_0 ?_
  refine G_if_ge (pc := 1) (tgt := 11) (by decide) dX12_goesBy_1 (fun z => absurd z (by decide)) (fun _ => ?_)
  refine G_aload_n (pc := 4) rfl dX12_goesBy_4 ?_
  refine G_callV (pc := 5) (mc1 := 0) (ms1 := 0) (ci := 12) (mj := mX12_restOne) (vs := []) dX12_goesBy_5 rfl rfl cm_X12_restOne wh_68 wh_70 wh_71 rfl (Nat.le_of_ble_eq_true rfl) (Nat.le_of_ble_eq_true rfl) (Nat.le_of_ble_eq_true rfl) (Nat.le_of_ble_eq_true rfl) (s10273_X12_restOne J d  ) ?_
  rintro _ _ ⟨rfl, rfl⟩
  dsimp only [Option.toList, List.cons_append, List.nil_append]
  refine G_goto (pc := 8) (tgt := 14) (by decide) dX12_goesBy_8 ?_
  refine G_istore_n (pc := 14) (L1 := [some (.ref 67), some (.int (-1)), some (.int (-1)), none, none]) rfl rfl (by decide) dX12_goesBy_14 ?_
  refine G_iload_n (pc := 15) rfl dX12_goesBy_15 ?_
  refine G_if_lt (pc := 16) (tgt := 27) (by decide) dX12_goesBy_16 (fun _ => ?_) (fun z => absurd (by decide) z)
  refine G_iconst (pc := 27) (v := 0) (by decide) dX12_goesBy_27 ?_
  refine G_istore_n (pc := 28) (L1 := [some (.ref 67), some (.int (-1)), some (.int (-1)), some (.int 0), none]) rfl rfl (by decide) dX12_goesBy_28 ?_
  refine G_iconst (pc := 29) (v := 0) (by decide) dX12_goesBy_29 ?_
  refine G_istore (pc := 30) (L1 := [some (.ref 67), some (.int (-1)), some (.int (-1)), some (.int 0), some (.int 0)]) rfl rfl (by decide) dX12_goesBy_30 ?_
  refine G_iload (pc := 32) rfl dX12_goesBy_32 ?_
  refine G_aload_n (pc := 34) rfl dX12_goesBy_34 ?_
  refine G_getR (pc := 35) (r := 68) (ci := 12) (j := 0) rfl lk_RX12_9 rfl rfl rfl dX12_goesBy_35 ?_
  refine G_iconst (pc := 38) (v := 4) (by decide) dX12_goesBy_38 ?_
  refine G_iald (pc := 39) (jj := 4) (v := 0) (by decide) rfl rfl (by unfold vp_in; decide) dX12_goesBy_39 ?_
  refine G_icmp_ge (pc := 40) (tgt := 104) (by decide) dX12_goesBy_40 (fun _ => ?_) (fun z => absurd (by decide) z)
  refine G_aload_n (pc := 104) rfl dX12_goesBy_104 ?_
  refine G_getR (pc := 105) (r := 68) (ci := 12) (j := 0) rfl lk_RX12_9 rfl rfl rfl dX12_goesBy_105 ?_
  refine G_iconst (pc := 108) (v := 0) (by decide) dX12_goesBy_108 ?_
  refine G_dup2 (pc := 109) rfl rfl dX12_goesBy_109 ?_
  refine G_iald (pc := 110) (jj := 0) (v := 9) (by decide) rfl rfl (by unfold vp_in; decide) dX12_goesBy_110 ?_
  refine G_iconst (pc := 111) (v := 1) (by decide) dX12_goesBy_111 ?_
  refine G_iadd (pc := 112) (z := 10) (by decide) dX12_goesBy_112 ?_
  refine G_iast (pc := 113) (jj := 0) (by decide) rfl (by unfold vp_in; decide) dX12_goesBy_113 ?_
  refine G_aload_n (pc := 114) rfl dX12_goesBy_114 ?_
  refine G_getR (pc := 115) (r := 68) (ci := 12) (j := 0) rfl lk_RX12_9 rfl rfl rfl dX12_goesBy_115 ?_
  refine G_iconst (pc := 118) (v := 2) (by decide) dX12_goesBy_118 ?_
  refine G_dup2 (pc := 119) rfl rfl dX12_goesBy_119 ?_
  refine G_iald (pc := 120) (jj := 2) (v := 0) (by decide) rfl rfl (by unfold vp_in; decide) dX12_goesBy_120 ?_
  refine G_iload_n (pc := 121) rfl dX12_goesBy_121 ?_
  refine G_iadd (pc := 122) (z := 0) (by decide) dX12_goesBy_122 ?_
  refine G_iast (pc := 123) (jj := 2) (by decide) rfl (by unfold vp_in; decide) dX12_goesBy_123 ?_
  refine G_iload_n (pc := 124) rfl dX12_goesBy_124 ?_
  exact G_iret (pc := 125) (Nat.le_of_ble_eq_true rfl) (Nat.le_of_ble_eq_true rfl) rfl dX12_goesBy_125 ⟨rfl, rfl⟩
set_option maxRecDepth 100000 in
set_option maxHeartbeats 4000000 in
theorem s10274_X12_isOver (J : gI) (d : Nat)   : G (d) mX12_isOver 0 0 0 0 0 (gent 1 [.ref 67]) [] SH0 RF0 (gup (gup (gup (gup (gup (gup (gup (gup (gup (gup (gup (gup (gup (gup (gup (gup (gup (gup (gup (gup (gcp (gmx J) 68 70 0 0 65) 68 0 1) 68 2 0) 68 0 2) 68 2 0) 68 0 3) 68 2 0) 68 0 4) 68 2 0) 68 0 5) 68 2 0) 68 0 6) 68 2 0) 68 0 7) 68 2 0) 68 0 8) 68 2 0) 68 0 9) 68 2 0) 68 0 10) 68 2 0) (fun r h => r = some (.int 0) ∧ h = (SH0, RF0, (gup (gup (gup (gup (gup (gup (gup (gup (gup (gup (gup (gup (gup (gup (gup (gup (gup (gup (gup (gup (gcp (gmx J) 68 70 0 0 65) 68 0 1) 68 2 0) 68 0 2) 68 2 0) 68 0 3) 68 2 0) 68 0 4) 68 2 0) 68 0 5) 68 2 0) 68 0 6) 68 2 0) 68 0 7) 68 2 0) 68 0 8) 68 2 0) 68 0 9) 68 2 0) 68 0 10) 68 2 0))) := by
  refine G_aload_n (pc := 0) rfl dX12_isOver_0 ?_
  refine G_getR (pc := 1) (r := 68) (ci := 12) (j := 0) rfl lk_RX12_9 rfl rfl rfl dX12_isOver_1 ?_
  refine G_iconst (pc := 4) (v := 0) (by decide) dX12_isOver_4 ?_
  refine G_iald (pc := 5) (jj := 0) (v := 10) (by decide) rfl rfl (by unfold vp_in; decide) dX12_isOver_5 ?_
  refine G_aload_n (pc := 6) rfl dX12_isOver_6 ?_
  refine G_getR (pc := 7) (r := 68) (ci := 12) (j := 0) rfl lk_RX12_9 rfl rfl rfl dX12_isOver_7 ?_
  refine G_iconst (pc := 10) (v := 1) (by decide) dX12_isOver_10 ?_
  refine G_iald (pc := 11) (jj := 1) (v := 12) (by decide) rfl rfl (by unfold vp_in; decide) dX12_isOver_11 ?_
  refine G_icmp_lt (pc := 12) (tgt := 19) (by decide) dX12_isOver_12 (fun _ => ?_) (fun z => absurd (by decide) z)
  refine G_iconst (pc := 19) (v := 0) (by decide) dX12_isOver_19 ?_
  exact G_zret (pc := 20) (Nat.le_of_ble_eq_true rfl) (Nat.le_of_ble_eq_true rfl) rfl (by decide) dX12_isOver_20 ⟨rfl, rfl⟩
set_option maxRecDepth 100000 in
set_option maxHeartbeats 4000000 in
theorem s10276_X12_restOne (J : gI) (d : Nat)   : G (d) mX12_restOne 0 0 0 0 0 (gent 2 [.ref 67]) [] SH0 RF0 (gup (gup (gup (gup (gup (gup (gup (gup (gup (gup (gup (gup (gup (gup (gup (gup (gup (gup (gup (gup (gcp (gmx J) 68 70 0 0 65) 68 0 1) 68 2 0) 68 0 2) 68 2 0) 68 0 3) 68 2 0) 68 0 4) 68 2 0) 68 0 5) 68 2 0) 68 0 6) 68 2 0) 68 0 7) 68 2 0) 68 0 8) 68 2 0) 68 0 9) 68 2 0) 68 0 10) 68 2 0) (fun r h => r = some (.int (-1)) ∧ h = (SH0, RF0, (gup (gup (gup (gup (gup (gup (gup (gup (gup (gup (gup (gup (gup (gup (gup (gup (gup (gup (gup (gup (gcp (gmx J) 68 70 0 0 65) 68 0 1) 68 2 0) 68 0 2) 68 2 0) 68 0 3) 68 2 0) 68 0 4) 68 2 0) 68 0 5) 68 2 0) 68 0 6) 68 2 0) 68 0 7) 68 2 0) 68 0 8) 68 2 0) 68 0 9) 68 2 0) 68 0 10) 68 2 0))) := by
  refine G_iconst (pc := 0) (v := 0) (by decide) dX12_restOne_0 ?_
  refine G_istore_n (pc := 1) (L1 := [some (.ref 67), some (.int 0)]) rfl rfl (by decide) dX12_restOne_1 ?_
  refine G_iload_n (pc := 2) rfl dX12_restOne_2 ?_
  refine G_aload_n (pc := 3) rfl dX12_restOne_3 ?_
  refine G_getR (pc := 4) (r := 68) (ci := 12) (j := 0) rfl lk_RX12_9 rfl rfl rfl dX12_restOne_4 ?_
  refine G_iconst (pc := 7) (v := 4) (by decide) dX12_restOne_7 ?_
  refine G_iald (pc := 8) (jj := 4) (v := 0) (by decide) rfl rfl (by unfold vp_in; decide) dX12_restOne_8 ?_
  refine G_icmp_ge (pc := 9) (tgt := 28) (by decide) dX12_restOne_9 (fun _ => ?_) (fun z => absurd (by decide) z)
  refine G_iconst (pc := 28) (v := (-1)) (by decide) dX12_restOne_28 ?_
  exact G_iret (pc := 29) (Nat.le_of_ble_eq_true rfl) (Nat.le_of_ble_eq_true rfl) rfl dX12_restOne_29 ⟨rfl, rfl⟩
set_option maxRecDepth 100000 in
set_option maxHeartbeats 4000000 in
theorem s10275_X12_goesBy (J : gI) (d : Nat)   : G (d + 1) mX12_goesBy 0 0 0 0 0 (gent 5 [.ref 67, .int (-1)]) [] SH0 RF0 (gup (gup (gup (gup (gup (gup (gup (gup (gup (gup (gup (gup (gup (gup (gup (gup (gup (gup (gup (gup (gcp (gmx J) 68 70 0 0 65) 68 0 1) 68 2 0) 68 0 2) 68 2 0) 68 0 3) 68 2 0) 68 0 4) 68 2 0) 68 0 5) 68 2 0) 68 0 6) 68 2 0) 68 0 7) 68 2 0) 68 0 8) 68 2 0) 68 0 9) 68 2 0) 68 0 10) 68 2 0) (fun r h => r = some (.int 0) ∧ h = (SH0, RF0, (gup (gup (gup (gup (gup (gup (gup (gup (gup (gup (gup (gup (gup (gup (gup (gup (gup (gup (gup (gup (gup (gup (gcp (gmx J) 68 70 0 0 65) 68 0 1) 68 2 0) 68 0 2) 68 2 0) 68 0 3) 68 2 0) 68 0 4) 68 2 0) 68 0 5) 68 2 0) 68 0 6) 68 2 0) 68 0 7) 68 2 0) 68 0 8) 68 2 0) 68 0 9) 68 2 0) 68 0 10) 68 2 0) 68 0 11) 68 2 0))) := by
  refine G_iload_n (pc := 0) rfl dX12_goesBy_0 ?_
  refine G_if_ge (pc := 1) (tgt := 11) (by decide) dX12_goesBy_1 (fun z => absurd z (by decide)) (fun _ => ?_)
  refine G_aload_n (pc := 4) rfl dX12_goesBy_4 ?_
  refine G_callV (pc := 5) (mc1 := 0) (ms1 := 0) (ci := 12) (mj := mX12_restOne) (vs := []) dX12_goesBy_5 rfl rfl cm_X12_restOne wh_68 wh_70 wh_71 rfl (Nat.le_of_ble_eq_true rfl) (Nat.le_of_ble_eq_true rfl) (Nat.le_of_ble_eq_true rfl) (Nat.le_of_ble_eq_true rfl) (s10276_X12_restOne J d  ) ?_
  rintro _ _ ⟨rfl, rfl⟩
  dsimp only [Option.toList, List.cons_append, List.nil_append]
  refine G_goto (pc := 8) (tgt := 14) (by decide) dX12_goesBy_8 ?_
  refine G_istore_n (pc := 14) (L1 := [some (.ref 67), some (.int (-1)), some (.int (-1)), none, none]) rfl rfl (by decide) dX12_goesBy_14 ?_
  refine G_iload_n (pc := 15) rfl dX12_goesBy_15 ?_
  refine G_if_lt (pc := 16) (tgt := 27) (by decide) dX12_goesBy_16 (fun _ => ?_) (fun z => absurd (by decide) z)
  refine G_iconst (pc := 27) (v := 0) (by decide) dX12_goesBy_27 ?_
  refine G_istore_n (pc := 28) (L1 := [some (.ref 67), some (.int (-1)), some (.int (-1)), some (.int 0), none]) rfl rfl (by decide) dX12_goesBy_28 ?_
  refine G_iconst (pc := 29) (v := 0) (by decide) dX12_goesBy_29 ?_
  refine G_istore (pc := 30) (L1 := [some (.ref 67), some (.int (-1)), some (.int (-1)), some (.int 0), some (.int 0)]) rfl rfl (by decide) dX12_goesBy_30 ?_
  refine G_iload (pc := 32) rfl dX12_goesBy_32 ?_
  refine G_aload_n (pc := 34) rfl dX12_goesBy_34 ?_
  refine G_getR (pc := 35) (r := 68) (ci := 12) (j := 0) rfl lk_RX12_9 rfl rfl rfl dX12_goesBy_35 ?_
  refine G_iconst (pc := 38) (v := 4) (by decide) dX12_goesBy_38 ?_
  refine G_iald (pc := 39) (jj := 4) (v := 0) (by decide) rfl rfl (by unfold vp_in; decide) dX12_goesBy_39 ?_
  refine G_icmp_ge (pc := 40) (tgt := 104) (by decide) dX12_goesBy_40 (fun _ => ?_) (fun z => absurd (by decide) z)
  refine G_aload_n (pc := 104) rfl dX12_goesBy_104 ?_
  refine G_getR (pc := 105) (r := 68) (ci := 12) (j := 0) rfl lk_RX12_9 rfl rfl rfl dX12_goesBy_105 ?_
  refine G_iconst (pc := 108) (v := 0) (by decide) dX12_goesBy_108 ?_
  refine G_dup2 (pc := 109) rfl rfl dX12_goesBy_109 ?_
  refine G_iald (pc := 110) (jj := 0) (v := 10) (by decide) rfl rfl (by unfold vp_in; decide) dX12_goesBy_110 ?_
  refine G_iconst (pc := 111) (v := 1) (by decide) dX12_goesBy_111 ?_
  refine G_iadd (pc := 112) (z := 11) (by decide) dX12_goesBy_112 ?_
  refine G_iast (pc := 113) (jj := 0) (by decide) rfl (by unfold vp_in; decide) dX12_goesBy_113 ?_
  refine G_aload_n (pc := 114) rfl dX12_goesBy_114 ?_
  refine G_getR (pc := 115) (r := 68) (ci := 12) (j := 0) rfl lk_RX12_9 rfl rfl rfl dX12_goesBy_115 ?_
  refine G_iconst (pc := 118) (v := 2) (by decide) dX12_goesBy_118 ?_
  refine G_dup2 (pc := 119) rfl rfl dX12_goesBy_119 ?_
  refine G_iald (pc := 120) (jj := 2) (v := 0) (by decide) rfl rfl (by unfold vp_in; decide) dX12_goesBy_120 ?_
  refine G_iload_n (pc := 121) rfl dX12_goesBy_121 ?_
  refine G_iadd (pc := 122) (z := 0) (by decide) dX12_goesBy_122 ?_
  refine G_iast (pc := 123) (jj := 2) (by decide) rfl (by unfold vp_in; decide) dX12_goesBy_123 ?_
  refine G_iload_n (pc := 124) rfl dX12_goesBy_124 ?_
  exact G_iret (pc := 125) (Nat.le_of_ble_eq_true rfl) (Nat.le_of_ble_eq_true rfl) rfl dX12_goesBy_125 ⟨rfl, rfl⟩
set_option maxRecDepth 100000 in
set_option maxHeartbeats 4000000 in
theorem s10277_X12_isOver (J : gI) (d : Nat)   : G (d) mX12_isOver 0 0 0 0 0 (gent 1 [.ref 67]) [] SH0 RF0 (gup (gup (gup (gup (gup (gup (gup (gup (gup (gup (gup (gup (gup (gup (gup (gup (gup (gup (gup (gup (gup (gup (gcp (gmx J) 68 70 0 0 65) 68 0 1) 68 2 0) 68 0 2) 68 2 0) 68 0 3) 68 2 0) 68 0 4) 68 2 0) 68 0 5) 68 2 0) 68 0 6) 68 2 0) 68 0 7) 68 2 0) 68 0 8) 68 2 0) 68 0 9) 68 2 0) 68 0 10) 68 2 0) 68 0 11) 68 2 0) (fun r h => r = some (.int 0) ∧ h = (SH0, RF0, (gup (gup (gup (gup (gup (gup (gup (gup (gup (gup (gup (gup (gup (gup (gup (gup (gup (gup (gup (gup (gup (gup (gcp (gmx J) 68 70 0 0 65) 68 0 1) 68 2 0) 68 0 2) 68 2 0) 68 0 3) 68 2 0) 68 0 4) 68 2 0) 68 0 5) 68 2 0) 68 0 6) 68 2 0) 68 0 7) 68 2 0) 68 0 8) 68 2 0) 68 0 9) 68 2 0) 68 0 10) 68 2 0) 68 0 11) 68 2 0))) := by
  refine G_aload_n (pc := 0) rfl dX12_isOver_0 ?_
  refine G_getR (pc := 1) (r := 68) (ci := 12) (j := 0) rfl lk_RX12_9 rfl rfl rfl dX12_isOver_1 ?_
  refine G_iconst (pc := 4) (v := 0) (by decide) dX12_isOver_4 ?_
  refine G_iald (pc := 5) (jj := 0) (v := 11) (by decide) rfl rfl (by unfold vp_in; decide) dX12_isOver_5 ?_
  refine G_aload_n (pc := 6) rfl dX12_isOver_6 ?_
  refine G_getR (pc := 7) (r := 68) (ci := 12) (j := 0) rfl lk_RX12_9 rfl rfl rfl dX12_isOver_7 ?_
  refine G_iconst (pc := 10) (v := 1) (by decide) dX12_isOver_10 ?_
  refine G_iald (pc := 11) (jj := 1) (v := 12) (by decide) rfl rfl (by unfold vp_in; decide) dX12_isOver_11 ?_
  refine G_icmp_lt (pc := 12) (tgt := 19) (by decide) dX12_isOver_12 (fun _ => ?_) (fun z => absurd (by decide) z)
  refine G_iconst (pc := 19) (v := 0) (by decide) dX12_isOver_19 ?_
  exact G_zret (pc := 20) (Nat.le_of_ble_eq_true rfl) (Nat.le_of_ble_eq_true rfl) rfl (by decide) dX12_isOver_20 ⟨rfl, rfl⟩
set_option maxRecDepth 100000 in
set_option maxHeartbeats 4000000 in
theorem s10279_X12_restOne (J : gI) (d : Nat)   : G (d) mX12_restOne 0 0 0 0 0 (gent 2 [.ref 67]) [] SH0 RF0 (gup (gup (gup (gup (gup (gup (gup (gup (gup (gup (gup (gup (gup (gup (gup (gup (gup (gup (gup (gup (gup (gup (gcp (gmx J) 68 70 0 0 65) 68 0 1) 68 2 0) 68 0 2) 68 2 0) 68 0 3) 68 2 0) 68 0 4) 68 2 0) 68 0 5) 68 2 0) 68 0 6) 68 2 0) 68 0 7) 68 2 0) 68 0 8) 68 2 0) 68 0 9) 68 2 0) 68 0 10) 68 2 0) 68 0 11) 68 2 0) (fun r h => r = some (.int (-1)) ∧ h = (SH0, RF0, (gup (gup (gup (gup (gup (gup (gup (gup (gup (gup (gup (gup (gup (gup (gup (gup (gup (gup (gup (gup (gup (gup (gcp (gmx J) 68 70 0 0 65) 68 0 1) 68 2 0) 68 0 2) 68 2 0) 68 0 3) 68 2 0) 68 0 4) 68 2 0) 68 0 5) 68 2 0) 68 0 6) 68 2 0) 68 0 7) 68 2 0) 68 0 8) 68 2 0) 68 0 9) 68 2 0) 68 0 10) 68 2 0) 68 0 11) 68 2 0))) := by
  refine G_iconst (pc := 0) (v := 0) (by decide) dX12_restOne_0 ?_
  refine G_istore_n (pc := 1) (L1 := [some (.ref 67), some (.int 0)]) rfl rfl (by decide) dX12_restOne_1 ?_
  refine G_iload_n (pc := 2) rfl dX12_restOne_2 ?_
  refine G_aload_n (pc := 3) rfl dX12_restOne_3 ?_
  refine G_getR (pc := 4) (r := 68) (ci := 12) (j := 0) rfl lk_RX12_9 rfl rfl rfl dX12_restOne_4 ?_
  refine G_iconst (pc := 7) (v := 4) (by decide) dX12_restOne_7 ?_
  refine G_iald (pc := 8) (jj := 4) (v := 0) (by decide) rfl rfl (by unfold vp_in; decide) dX12_restOne_8 ?_
  refine G_icmp_ge (pc := 9) (tgt := 28) (by decide) dX12_restOne_9 (fun _ => ?_) (fun z => absurd (by decide) z)
  refine G_iconst (pc := 28) (v := (-1)) (by decide) dX12_restOne_28 ?_
  exact G_iret (pc := 29) (Nat.le_of_ble_eq_true rfl) (Nat.le_of_ble_eq_true rfl) rfl dX12_restOne_29 ⟨rfl, rfl⟩
set_option maxRecDepth 100000 in
set_option maxHeartbeats 4000000 in
theorem s10278_X12_goesBy (J : gI) (d : Nat)   : G (d + 1) mX12_goesBy 0 0 0 0 0 (gent 5 [.ref 67, .int (-1)]) [] SH0 RF0 (gup (gup (gup (gup (gup (gup (gup (gup (gup (gup (gup (gup (gup (gup (gup (gup (gup (gup (gup (gup (gup (gup (gcp (gmx J) 68 70 0 0 65) 68 0 1) 68 2 0) 68 0 2) 68 2 0) 68 0 3) 68 2 0) 68 0 4) 68 2 0) 68 0 5) 68 2 0) 68 0 6) 68 2 0) 68 0 7) 68 2 0) 68 0 8) 68 2 0) 68 0 9) 68 2 0) 68 0 10) 68 2 0) 68 0 11) 68 2 0) (fun r h => r = some (.int 0) ∧ h = (SH0, RF0, (gup (gup (gup (gup (gup (gup (gup (gup (gup (gup (gup (gup (gup (gup (gup (gup (gup (gup (gup (gup (gup (gup (gup (gup (gcp (gmx J) 68 70 0 0 65) 68 0 1) 68 2 0) 68 0 2) 68 2 0) 68 0 3) 68 2 0) 68 0 4) 68 2 0) 68 0 5) 68 2 0) 68 0 6) 68 2 0) 68 0 7) 68 2 0) 68 0 8) 68 2 0) 68 0 9) 68 2 0) 68 0 10) 68 2 0) 68 0 11) 68 2 0) 68 0 12) 68 2 0))) := by
  refine G_iload_n (pc := 0) rfl dX12_goesBy_0 ?_
  refine G_if_ge (pc := 1) (tgt := 11) (by decide) dX12_goesBy_1 (fun z => absurd z (by decide)) (fun _ => ?_)
  refine G_aload_n (pc := 4) rfl dX12_goesBy_4 ?_
  refine G_callV (pc := 5) (mc1 := 0) (ms1 := 0) (ci := 12) (mj := mX12_restOne) (vs := []) dX12_goesBy_5 rfl rfl cm_X12_restOne wh_68 wh_70 wh_71 rfl (Nat.le_of_ble_eq_true rfl) (Nat.le_of_ble_eq_true rfl) (Nat.le_of_ble_eq_true rfl) (Nat.le_of_ble_eq_true rfl) (s10279_X12_restOne J d  ) ?_
  rintro _ _ ⟨rfl, rfl⟩
  dsimp only [Option.toList, List.cons_append, List.nil_append]
  refine G_goto (pc := 8) (tgt := 14) (by decide) dX12_goesBy_8 ?_
  refine G_istore_n (pc := 14) (L1 := [some (.ref 67), some (.int (-1)), some (.int (-1)), none, none]) rfl rfl (by decide) dX12_goesBy_14 ?_
  refine G_iload_n (pc := 15) rfl dX12_goesBy_15 ?_
  refine G_if_lt (pc := 16) (tgt := 27) (by decide) dX12_goesBy_16 (fun _ => ?_) (fun z => absurd (by decide) z)
  refine G_iconst (pc := 27) (v := 0) (by decide) dX12_goesBy_27 ?_
  refine G_istore_n (pc := 28) (L1 := [some (.ref 67), some (.int (-1)), some (.int (-1)), some (.int 0), none]) rfl rfl (by decide) dX12_goesBy_28 ?_
  refine G_iconst (pc := 29) (v := 0) (by decide) dX12_goesBy_29 ?_
  refine G_istore (pc := 30) (L1 := [some (.ref 67), some (.int (-1)), some (.int (-1)), some (.int 0), some (.int 0)]) rfl rfl (by decide) dX12_goesBy_30 ?_
  refine G_iload (pc := 32) rfl dX12_goesBy_32 ?_
  refine G_aload_n (pc := 34) rfl dX12_goesBy_34 ?_
  refine G_getR (pc := 35) (r := 68) (ci := 12) (j := 0) rfl lk_RX12_9 rfl rfl rfl dX12_goesBy_35 ?_
  refine G_iconst (pc := 38) (v := 4) (by decide) dX12_goesBy_38 ?_
  refine G_iald (pc := 39) (jj := 4) (v := 0) (by decide) rfl rfl (by unfold vp_in; decide) dX12_goesBy_39 ?_
  refine G_icmp_ge (pc := 40) (tgt := 104) (by decide) dX12_goesBy_40 (fun _ => ?_) (fun z => absurd (by decide) z)
  refine G_aload_n (pc := 104) rfl dX12_goesBy_104 ?_
  refine G_getR (pc := 105) (r := 68) (ci := 12) (j := 0) rfl lk_RX12_9 rfl rfl rfl dX12_goesBy_105 ?_
  refine G_iconst (pc := 108) (v := 0) (by decide) dX12_goesBy_108 ?_
  refine G_dup2 (pc := 109) rfl rfl dX12_goesBy_109 ?_
  refine G_iald (pc := 110) (jj := 0) (v := 11) (by decide) rfl rfl (by unfold vp_in; decide) dX12_goesBy_110 ?_
  refine G_iconst (pc := 111) (v := 1) (by decide) dX12_goesBy_111 ?_
  refine G_iadd (pc := 112) (z := 12) (by decide) dX12_goesBy_112 ?_
  refine G_iast (pc := 113) (jj := 0) (by decide) rfl (by unfold vp_in; decide) dX12_goesBy_113 ?_
  refine G_aload_n (pc := 114) rfl dX12_goesBy_114 ?_
  refine G_getR (pc := 115) (r := 68) (ci := 12) (j := 0) rfl lk_RX12_9 rfl rfl rfl dX12_goesBy_115 ?_
  refine G_iconst (pc := 118) (v := 2) (by decide) dX12_goesBy_118 ?_
  refine G_dup2 (pc := 119) rfl rfl dX12_goesBy_119 ?_
  refine G_iald (pc := 120) (jj := 2) (v := 0) (by decide) rfl rfl (by unfold vp_in; decide) dX12_goesBy_120 ?_
  refine G_iload_n (pc := 121) rfl dX12_goesBy_121 ?_
  refine G_iadd (pc := 122) (z := 0) (by decide) dX12_goesBy_122 ?_
  refine G_iast (pc := 123) (jj := 2) (by decide) rfl (by unfold vp_in; decide) dX12_goesBy_123 ?_
  refine G_iload_n (pc := 124) rfl dX12_goesBy_124 ?_
  exact G_iret (pc := 125) (Nat.le_of_ble_eq_true rfl) (Nat.le_of_ble_eq_true rfl) rfl dX12_goesBy_125 ⟨rfl, rfl⟩
set_option maxRecDepth 100000 in
set_option maxHeartbeats 4000000 in
theorem s10280_X12_isOver (J : gI) (d : Nat)   : G (d) mX12_isOver 0 0 0 0 0 (gent 1 [.ref 67]) [] SH0 RF0 (gup (gup (gup (gup (gup (gup (gup (gup (gup (gup (gup (gup (gup (gup (gup (gup (gup (gup (gup (gup (gup (gup (gup (gup (gcp (gmx J) 68 70 0 0 65) 68 0 1) 68 2 0) 68 0 2) 68 2 0) 68 0 3) 68 2 0) 68 0 4) 68 2 0) 68 0 5) 68 2 0) 68 0 6) 68 2 0) 68 0 7) 68 2 0) 68 0 8) 68 2 0) 68 0 9) 68 2 0) 68 0 10) 68 2 0) 68 0 11) 68 2 0) 68 0 12) 68 2 0) (fun r h => r = some (.int 1) ∧ h = (SH0, RF0, (gup (gup (gup (gup (gup (gup (gup (gup (gup (gup (gup (gup (gup (gup (gup (gup (gup (gup (gup (gup (gup (gup (gup (gup (gcp (gmx J) 68 70 0 0 65) 68 0 1) 68 2 0) 68 0 2) 68 2 0) 68 0 3) 68 2 0) 68 0 4) 68 2 0) 68 0 5) 68 2 0) 68 0 6) 68 2 0) 68 0 7) 68 2 0) 68 0 8) 68 2 0) 68 0 9) 68 2 0) 68 0 10) 68 2 0) 68 0 11) 68 2 0) 68 0 12) 68 2 0))) := by
  refine G_aload_n (pc := 0) rfl dX12_isOver_0 ?_
  refine G_getR (pc := 1) (r := 68) (ci := 12) (j := 0) rfl lk_RX12_9 rfl rfl rfl dX12_isOver_1 ?_
  refine G_iconst (pc := 4) (v := 0) (by decide) dX12_isOver_4 ?_
  refine G_iald (pc := 5) (jj := 0) (v := 12) (by decide) rfl rfl (by unfold vp_in; decide) dX12_isOver_5 ?_
  refine G_aload_n (pc := 6) rfl dX12_isOver_6 ?_
  refine G_getR (pc := 7) (r := 68) (ci := 12) (j := 0) rfl lk_RX12_9 rfl rfl rfl dX12_isOver_7 ?_
  refine G_iconst (pc := 10) (v := 1) (by decide) dX12_isOver_10 ?_
  refine G_iald (pc := 11) (jj := 1) (v := 12) (by decide) rfl rfl (by unfold vp_in; decide) dX12_isOver_11 ?_
  refine G_icmp_lt (pc := 12) (tgt := 19) (by decide) dX12_isOver_12 (fun z => absurd z (by decide)) (fun _ => ?_)
  refine G_iconst (pc := 15) (v := 1) (by decide) dX12_isOver_15 ?_
  refine G_goto (pc := 16) (tgt := 20) (by decide) dX12_isOver_16 ?_
  exact G_zret (pc := 20) (Nat.le_of_ble_eq_true rfl) (Nat.le_of_ble_eq_true rfl) rfl (by decide) dX12_isOver_20 ⟨rfl, rfl⟩
set_option maxRecDepth 100000 in
set_option maxHeartbeats 4000000 in
theorem s10281_X12_restOf (J : gI) (d : Nat)   : G (d) mX12_restOf 0 0 0 0 0 (gent 4 [.ref 67, .int 0]) [] SH0 RF0 (gcp (gmx J) 68 70 0 0 65) (fun r h => r = some (.int 0) ∧ h = (SH0, RF0, (gcp (gmx J) 68 70 0 0 65))) := by
  refine G_iconst (pc := 0) (v := 0) (by decide) dX12_restOf_0 ?_
  refine G_istore_n (pc := 1) (L1 := [some (.ref 67), some (.int 0), some (.int 0), none]) rfl rfl (by decide) dX12_restOf_1 ?_
  refine G_iconst (pc := 2) (v := 0) (by decide) dX12_restOf_2 ?_
  refine G_istore_n (pc := 3) (L1 := [some (.ref 67), some (.int 0), some (.int 0), some (.int 0)]) rfl rfl (by decide) dX12_restOf_3 ?_
  refine G_iload_n (pc := 4) rfl dX12_restOf_4 ?_
  refine G_iload_n (pc := 5) rfl dX12_restOf_5 ?_
  refine G_icmp_ge (pc := 6) (tgt := 30) (by decide) dX12_restOf_6 (fun _ => ?_) (fun z => absurd (by decide) z)
  refine G_iload_n (pc := 30) rfl dX12_restOf_30 ?_
  exact G_iret (pc := 31) (Nat.le_of_ble_eq_true rfl) (Nat.le_of_ble_eq_true rfl) rfl dX12_restOf_31 ⟨rfl, rfl⟩
set_option maxRecDepth 100000 in
set_option maxHeartbeats 4000000 in
theorem s10282_X12_restOf (J : gI) (d : Nat)   : G (d + 2) mX12_restOf 0 0 0 0 0 (gent 4 [.ref 67, .int 1]) [] SH0 RF0 (gcp (gmx J) 68 70 0 0 65) (fun r h => r = some (.int 0) ∧ h = (SH0, RF0, (gup (gup (gcp (gmx J) 68 70 0 0 65) 68 0 1) 68 2 0))) := by
  refine G_iconst (pc := 0) (v := 0) (by decide) dX12_restOf_0 ?_
  refine G_istore_n (pc := 1) (L1 := [some (.ref 67), some (.int 1), some (.int 0), none]) rfl rfl (by decide) dX12_restOf_1 ?_
  refine G_iconst (pc := 2) (v := 0) (by decide) dX12_restOf_2 ?_
  refine G_istore_n (pc := 3) (L1 := [some (.ref 67), some (.int 1), some (.int 0), some (.int 0)]) rfl rfl (by decide) dX12_restOf_3 ?_
  refine G_iload_n (pc := 4) rfl dX12_restOf_4 ?_
  refine G_iload_n (pc := 5) rfl dX12_restOf_5 ?_
  refine G_icmp_ge (pc := 6) (tgt := 30) (by decide) dX12_restOf_6 (fun z => absurd z (by decide)) (fun _ => ?_)
  refine G_aload_n (pc := 9) rfl dX12_restOf_9 ?_
  refine G_callV (pc := 10) (mc1 := 0) (ms1 := 0) (ci := 12) (mj := mX12_isOver) (vs := []) dX12_restOf_10 rfl rfl cm_X12_isOver wh_22 wh_24 wh_25 rfl (Nat.le_of_ble_eq_true rfl) (Nat.le_of_ble_eq_true rfl) (Nat.le_of_ble_eq_true rfl) (Nat.le_of_ble_eq_true rfl) (s10244_X12_isOver J (d + 1)  ) ?_
  rintro _ _ ⟨rfl, rfl⟩
  dsimp only [Option.toList, List.cons_append, List.nil_append]
  refine G_if_ne (pc := 13) (tgt := 30) (by decide) dX12_restOf_13 (fun z => absurd (by decide) z) (fun _ => ?_)
  refine G_iload_n (pc := 16) rfl dX12_restOf_16 ?_
  refine G_aload_n (pc := 17) rfl dX12_restOf_17 ?_
  refine G_iconst (pc := 18) (v := (-1)) (by decide) dX12_restOf_18 ?_
  refine G_callV (pc := 19) (mc1 := 0) (ms1 := 0) (ci := 12) (mj := mX12_goesBy) (vs := [_]) dX12_restOf_19 rfl rfl cm_X12_goesBy wh_72 wh_74 wh_75 rfl (Nat.le_of_ble_eq_true rfl) (Nat.le_of_ble_eq_true rfl) (Nat.le_of_ble_eq_true rfl) (Nat.le_of_ble_eq_true rfl) (s10245_X12_goesBy J d  ) ?_
  rintro _ _ ⟨rfl, rfl⟩
  dsimp only [Option.toList, List.cons_append, List.nil_append]
  refine G_iadd (pc := 22) (z := 0) (by decide) dX12_restOf_22 ?_
  refine G_istore_n (pc := 23) (L1 := [some (.ref 67), some (.int 1), some (.int 0), some (.int 0)]) rfl rfl (by decide) dX12_restOf_23 ?_
  refine G_iinc (pc := 24) (v := 1) (w := 1) (L1 := [some (.ref 67), some (.int 1), some (.int 0), some (.int 1)]) (by decide) rfl rfl (by decide) rfl (by decide) dX12_restOf_24 ?_
  refine G_goto (pc := 27) (tgt := 4) (by decide) dX12_restOf_27 ?_
  refine G_iload_n (pc := 4) rfl dX12_restOf_4 ?_
  refine G_iload_n (pc := 5) rfl dX12_restOf_5 ?_
  refine G_icmp_ge (pc := 6) (tgt := 30) (by decide) dX12_restOf_6 (fun _ => ?_) (fun z => absurd (by decide) z)
  refine G_iload_n (pc := 30) rfl dX12_restOf_30 ?_
  exact G_iret (pc := 31) (Nat.le_of_ble_eq_true rfl) (Nat.le_of_ble_eq_true rfl) rfl dX12_restOf_31 ⟨rfl, rfl⟩
set_option maxRecDepth 100000 in
set_option maxHeartbeats 4000000 in
theorem s10283_X12_restOf (J : gI) (d : Nat)   : G (d + 2) mX12_restOf 0 0 0 0 0 (gent 4 [.ref 67, .int 2]) [] SH0 RF0 (gcp (gmx J) 68 70 0 0 65) (fun r h => r = some (.int 0) ∧ h = (SH0, RF0, (gup (gup (gup (gup (gcp (gmx J) 68 70 0 0 65) 68 0 1) 68 2 0) 68 0 2) 68 2 0))) := by
  refine G_iconst (pc := 0) (v := 0) (by decide) dX12_restOf_0 ?_
  refine G_istore_n (pc := 1) (L1 := [some (.ref 67), some (.int 2), some (.int 0), none]) rfl rfl (by decide) dX12_restOf_1 ?_
  refine G_iconst (pc := 2) (v := 0) (by decide) dX12_restOf_2 ?_
  refine G_istore_n (pc := 3) (L1 := [some (.ref 67), some (.int 2), some (.int 0), some (.int 0)]) rfl rfl (by decide) dX12_restOf_3 ?_
  refine G_iload_n (pc := 4) rfl dX12_restOf_4 ?_
  refine G_iload_n (pc := 5) rfl dX12_restOf_5 ?_
  refine G_icmp_ge (pc := 6) (tgt := 30) (by decide) dX12_restOf_6 (fun z => absurd z (by decide)) (fun _ => ?_)
  refine G_aload_n (pc := 9) rfl dX12_restOf_9 ?_
  refine G_callV (pc := 10) (mc1 := 0) (ms1 := 0) (ci := 12) (mj := mX12_isOver) (vs := []) dX12_restOf_10 rfl rfl cm_X12_isOver wh_22 wh_24 wh_25 rfl (Nat.le_of_ble_eq_true rfl) (Nat.le_of_ble_eq_true rfl) (Nat.le_of_ble_eq_true rfl) (Nat.le_of_ble_eq_true rfl) (s10244_X12_isOver J (d + 1)  ) ?_
  rintro _ _ ⟨rfl, rfl⟩
  dsimp only [Option.toList, List.cons_append, List.nil_append]
  refine G_if_ne (pc := 13) (tgt := 30) (by decide) dX12_restOf_13 (fun z => absurd (by decide) z) (fun _ => ?_)
  refine G_iload_n (pc := 16) rfl dX12_restOf_16 ?_
  refine G_aload_n (pc := 17) rfl dX12_restOf_17 ?_
  refine G_iconst (pc := 18) (v := (-1)) (by decide) dX12_restOf_18 ?_
  refine G_callV (pc := 19) (mc1 := 0) (ms1 := 0) (ci := 12) (mj := mX12_goesBy) (vs := [_]) dX12_restOf_19 rfl rfl cm_X12_goesBy wh_72 wh_74 wh_75 rfl (Nat.le_of_ble_eq_true rfl) (Nat.le_of_ble_eq_true rfl) (Nat.le_of_ble_eq_true rfl) (Nat.le_of_ble_eq_true rfl) (s10245_X12_goesBy J d  ) ?_
  rintro _ _ ⟨rfl, rfl⟩
  dsimp only [Option.toList, List.cons_append, List.nil_append]
  refine G_iadd (pc := 22) (z := 0) (by decide) dX12_restOf_22 ?_
  refine G_istore_n (pc := 23) (L1 := [some (.ref 67), some (.int 2), some (.int 0), some (.int 0)]) rfl rfl (by decide) dX12_restOf_23 ?_
  refine G_iinc (pc := 24) (v := 1) (w := 1) (L1 := [some (.ref 67), some (.int 2), some (.int 0), some (.int 1)]) (by decide) rfl rfl (by decide) rfl (by decide) dX12_restOf_24 ?_
  refine G_goto (pc := 27) (tgt := 4) (by decide) dX12_restOf_27 ?_
  refine G_iload_n (pc := 4) rfl dX12_restOf_4 ?_
  refine G_iload_n (pc := 5) rfl dX12_restOf_5 ?_
  refine G_icmp_ge (pc := 6) (tgt := 30) (by decide) dX12_restOf_6 (fun z => absurd z (by decide)) (fun _ => ?_)
  refine G_aload_n (pc := 9) rfl dX12_restOf_9 ?_
  refine G_callV (pc := 10) (mc1 := 0) (ms1 := 0) (ci := 12) (mj := mX12_isOver) (vs := []) dX12_restOf_10 rfl rfl cm_X12_isOver wh_22 wh_24 wh_25 rfl (Nat.le_of_ble_eq_true rfl) (Nat.le_of_ble_eq_true rfl) (Nat.le_of_ble_eq_true rfl) (Nat.le_of_ble_eq_true rfl) (s10247_X12_isOver J (d + 1)  ) ?_
  rintro _ _ ⟨rfl, rfl⟩
  dsimp only [Option.toList, List.cons_append, List.nil_append]
  refine G_if_ne (pc := 13) (tgt := 30) (by decide) dX12_restOf_13 (fun z => absurd (by decide) z) (fun _ => ?_)
  refine G_iload_n (pc := 16) rfl dX12_restOf_16 ?_
  refine G_aload_n (pc := 17) rfl dX12_restOf_17 ?_
  refine G_iconst (pc := 18) (v := (-1)) (by decide) dX12_restOf_18 ?_
  refine G_callV (pc := 19) (mc1 := 0) (ms1 := 0) (ci := 12) (mj := mX12_goesBy) (vs := [_]) dX12_restOf_19 rfl rfl cm_X12_goesBy wh_72 wh_74 wh_75 rfl (Nat.le_of_ble_eq_true rfl) (Nat.le_of_ble_eq_true rfl) (Nat.le_of_ble_eq_true rfl) (Nat.le_of_ble_eq_true rfl) (s10248_X12_goesBy J d  ) ?_
  rintro _ _ ⟨rfl, rfl⟩
  dsimp only [Option.toList, List.cons_append, List.nil_append]
  refine G_iadd (pc := 22) (z := 0) (by decide) dX12_restOf_22 ?_
  refine G_istore_n (pc := 23) (L1 := [some (.ref 67), some (.int 2), some (.int 0), some (.int 1)]) rfl rfl (by decide) dX12_restOf_23 ?_
  refine G_iinc (pc := 24) (v := 1) (w := 2) (L1 := [some (.ref 67), some (.int 2), some (.int 0), some (.int 2)]) (by decide) rfl rfl (by decide) rfl (by decide) dX12_restOf_24 ?_
  refine G_goto (pc := 27) (tgt := 4) (by decide) dX12_restOf_27 ?_
  refine G_iload_n (pc := 4) rfl dX12_restOf_4 ?_
  refine G_iload_n (pc := 5) rfl dX12_restOf_5 ?_
  refine G_icmp_ge (pc := 6) (tgt := 30) (by decide) dX12_restOf_6 (fun _ => ?_) (fun z => absurd (by decide) z)
  refine G_iload_n (pc := 30) rfl dX12_restOf_30 ?_
  exact G_iret (pc := 31) (Nat.le_of_ble_eq_true rfl) (Nat.le_of_ble_eq_true rfl) rfl dX12_restOf_31 ⟨rfl, rfl⟩
set_option maxRecDepth 100000 in
set_option maxHeartbeats 4000000 in
theorem s10284_X12_restOf (J : gI) (d : Nat)   : G (d + 2) mX12_restOf 0 0 0 0 0 (gent 4 [.ref 67, .int 3]) [] SH0 RF0 (gcp (gmx J) 68 70 0 0 65) (fun r h => r = some (.int 0) ∧ h = (SH0, RF0, (gup (gup (gup (gup (gup (gup (gcp (gmx J) 68 70 0 0 65) 68 0 1) 68 2 0) 68 0 2) 68 2 0) 68 0 3) 68 2 0))) := by
  refine G_iconst (pc := 0) (v := 0) (by decide) dX12_restOf_0 ?_
  refine G_istore_n (pc := 1) (L1 := [some (.ref 67), some (.int 3), some (.int 0), none]) rfl rfl (by decide) dX12_restOf_1 ?_
  refine G_iconst (pc := 2) (v := 0) (by decide) dX12_restOf_2 ?_
  refine G_istore_n (pc := 3) (L1 := [some (.ref 67), some (.int 3), some (.int 0), some (.int 0)]) rfl rfl (by decide) dX12_restOf_3 ?_
  refine G_iload_n (pc := 4) rfl dX12_restOf_4 ?_
  refine G_iload_n (pc := 5) rfl dX12_restOf_5 ?_
  refine G_icmp_ge (pc := 6) (tgt := 30) (by decide) dX12_restOf_6 (fun z => absurd z (by decide)) (fun _ => ?_)
  refine G_aload_n (pc := 9) rfl dX12_restOf_9 ?_
  refine G_callV (pc := 10) (mc1 := 0) (ms1 := 0) (ci := 12) (mj := mX12_isOver) (vs := []) dX12_restOf_10 rfl rfl cm_X12_isOver wh_22 wh_24 wh_25 rfl (Nat.le_of_ble_eq_true rfl) (Nat.le_of_ble_eq_true rfl) (Nat.le_of_ble_eq_true rfl) (Nat.le_of_ble_eq_true rfl) (s10244_X12_isOver J (d + 1)  ) ?_
  rintro _ _ ⟨rfl, rfl⟩
  dsimp only [Option.toList, List.cons_append, List.nil_append]
  refine G_if_ne (pc := 13) (tgt := 30) (by decide) dX12_restOf_13 (fun z => absurd (by decide) z) (fun _ => ?_)
  refine G_iload_n (pc := 16) rfl dX12_restOf_16 ?_
  refine G_aload_n (pc := 17) rfl dX12_restOf_17 ?_
  refine G_iconst (pc := 18) (v := (-1)) (by decide) dX12_restOf_18 ?_
  refine G_callV (pc := 19) (mc1 := 0) (ms1 := 0) (ci := 12) (mj := mX12_goesBy) (vs := [_]) dX12_restOf_19 rfl rfl cm_X12_goesBy wh_72 wh_74 wh_75 rfl (Nat.le_of_ble_eq_true rfl) (Nat.le_of_ble_eq_true rfl) (Nat.le_of_ble_eq_true rfl) (Nat.le_of_ble_eq_true rfl) (s10245_X12_goesBy J d  ) ?_
  rintro _ _ ⟨rfl, rfl⟩
  dsimp only [Option.toList, List.cons_append, List.nil_append]
  refine G_iadd (pc := 22) (z := 0) (by decide) dX12_restOf_22 ?_
  refine G_istore_n (pc := 23) (L1 := [some (.ref 67), some (.int 3), some (.int 0), some (.int 0)]) rfl rfl (by decide) dX12_restOf_23 ?_
  refine G_iinc (pc := 24) (v := 1) (w := 1) (L1 := [some (.ref 67), some (.int 3), some (.int 0), some (.int 1)]) (by decide) rfl rfl (by decide) rfl (by decide) dX12_restOf_24 ?_
  refine G_goto (pc := 27) (tgt := 4) (by decide) dX12_restOf_27 ?_
  refine G_iload_n (pc := 4) rfl dX12_restOf_4 ?_
  refine G_iload_n (pc := 5) rfl dX12_restOf_5 ?_
  refine G_icmp_ge (pc := 6) (tgt := 30) (by decide) dX12_restOf_6 (fun z => absurd z (by decide)) (fun _ => ?_)
  refine G_aload_n (pc := 9) rfl dX12_restOf_9 ?_
  refine G_callV (pc := 10) (mc1 := 0) (ms1 := 0) (ci := 12) (mj := mX12_isOver) (vs := []) dX12_restOf_10 rfl rfl cm_X12_isOver wh_22 wh_24 wh_25 rfl (Nat.le_of_ble_eq_true rfl) (Nat.le_of_ble_eq_true rfl) (Nat.le_of_ble_eq_true rfl) (Nat.le_of_ble_eq_true rfl) (s10247_X12_isOver J (d + 1)  ) ?_
  rintro _ _ ⟨rfl, rfl⟩
  dsimp only [Option.toList, List.cons_append, List.nil_append]
  refine G_if_ne (pc := 13) (tgt := 30) (by decide) dX12_restOf_13 (fun z => absurd (by decide) z) (fun _ => ?_)
  refine G_iload_n (pc := 16) rfl dX12_restOf_16 ?_
  refine G_aload_n (pc := 17) rfl dX12_restOf_17 ?_
  refine G_iconst (pc := 18) (v := (-1)) (by decide) dX12_restOf_18 ?_
  refine G_callV (pc := 19) (mc1 := 0) (ms1 := 0) (ci := 12) (mj := mX12_goesBy) (vs := [_]) dX12_restOf_19 rfl rfl cm_X12_goesBy wh_72 wh_74 wh_75 rfl (Nat.le_of_ble_eq_true rfl) (Nat.le_of_ble_eq_true rfl) (Nat.le_of_ble_eq_true rfl) (Nat.le_of_ble_eq_true rfl) (s10248_X12_goesBy J d  ) ?_
  rintro _ _ ⟨rfl, rfl⟩
  dsimp only [Option.toList, List.cons_append, List.nil_append]
  refine G_iadd (pc := 22) (z := 0) (by decide) dX12_restOf_22 ?_
  refine G_istore_n (pc := 23) (L1 := [some (.ref 67), some (.int 3), some (.int 0), some (.int 1)]) rfl rfl (by decide) dX12_restOf_23 ?_
  refine G_iinc (pc := 24) (v := 1) (w := 2) (L1 := [some (.ref 67), some (.int 3), some (.int 0), some (.int 2)]) (by decide) rfl rfl (by decide) rfl (by decide) dX12_restOf_24 ?_
  refine G_goto (pc := 27) (tgt := 4) (by decide) dX12_restOf_27 ?_
  refine G_iload_n (pc := 4) rfl dX12_restOf_4 ?_
  refine G_iload_n (pc := 5) rfl dX12_restOf_5 ?_
  refine G_icmp_ge (pc := 6) (tgt := 30) (by decide) dX12_restOf_6 (fun z => absurd z (by decide)) (fun _ => ?_)
  refine G_aload_n (pc := 9) rfl dX12_restOf_9 ?_
  refine G_callV (pc := 10) (mc1 := 0) (ms1 := 0) (ci := 12) (mj := mX12_isOver) (vs := []) dX12_restOf_10 rfl rfl cm_X12_isOver wh_22 wh_24 wh_25 rfl (Nat.le_of_ble_eq_true rfl) (Nat.le_of_ble_eq_true rfl) (Nat.le_of_ble_eq_true rfl) (Nat.le_of_ble_eq_true rfl) (s10250_X12_isOver J (d + 1)  ) ?_
  rintro _ _ ⟨rfl, rfl⟩
  dsimp only [Option.toList, List.cons_append, List.nil_append]
  refine G_if_ne (pc := 13) (tgt := 30) (by decide) dX12_restOf_13 (fun z => absurd (by decide) z) (fun _ => ?_)
  refine G_iload_n (pc := 16) rfl dX12_restOf_16 ?_
  refine G_aload_n (pc := 17) rfl dX12_restOf_17 ?_
  refine G_iconst (pc := 18) (v := (-1)) (by decide) dX12_restOf_18 ?_
  refine G_callV (pc := 19) (mc1 := 0) (ms1 := 0) (ci := 12) (mj := mX12_goesBy) (vs := [_]) dX12_restOf_19 rfl rfl cm_X12_goesBy wh_72 wh_74 wh_75 rfl (Nat.le_of_ble_eq_true rfl) (Nat.le_of_ble_eq_true rfl) (Nat.le_of_ble_eq_true rfl) (Nat.le_of_ble_eq_true rfl) (s10251_X12_goesBy J d  ) ?_
  rintro _ _ ⟨rfl, rfl⟩
  dsimp only [Option.toList, List.cons_append, List.nil_append]
  refine G_iadd (pc := 22) (z := 0) (by decide) dX12_restOf_22 ?_
  refine G_istore_n (pc := 23) (L1 := [some (.ref 67), some (.int 3), some (.int 0), some (.int 2)]) rfl rfl (by decide) dX12_restOf_23 ?_
  refine G_iinc (pc := 24) (v := 1) (w := 3) (L1 := [some (.ref 67), some (.int 3), some (.int 0), some (.int 3)]) (by decide) rfl rfl (by decide) rfl (by decide) dX12_restOf_24 ?_
  refine G_goto (pc := 27) (tgt := 4) (by decide) dX12_restOf_27 ?_
  refine G_iload_n (pc := 4) rfl dX12_restOf_4 ?_
  refine G_iload_n (pc := 5) rfl dX12_restOf_5 ?_
  refine G_icmp_ge (pc := 6) (tgt := 30) (by decide) dX12_restOf_6 (fun _ => ?_) (fun z => absurd (by decide) z)
  refine G_iload_n (pc := 30) rfl dX12_restOf_30 ?_
  exact G_iret (pc := 31) (Nat.le_of_ble_eq_true rfl) (Nat.le_of_ble_eq_true rfl) rfl dX12_restOf_31 ⟨rfl, rfl⟩
set_option maxRecDepth 100000 in
set_option maxHeartbeats 4000000 in
theorem s10285_X12_restOf (J : gI) (d : Nat)   : G (d + 2) mX12_restOf 0 0 0 0 0 (gent 4 [.ref 67, .int 4]) [] SH0 RF0 (gcp (gmx J) 68 70 0 0 65) (fun r h => r = some (.int 0) ∧ h = (SH0, RF0, (gup (gup (gup (gup (gup (gup (gup (gup (gcp (gmx J) 68 70 0 0 65) 68 0 1) 68 2 0) 68 0 2) 68 2 0) 68 0 3) 68 2 0) 68 0 4) 68 2 0))) := by
  refine G_iconst (pc := 0) (v := 0) (by decide) dX12_restOf_0 ?_
  refine G_istore_n (pc := 1) (L1 := [some (.ref 67), some (.int 4), some (.int 0), none]) rfl rfl (by decide) dX12_restOf_1 ?_
  refine G_iconst (pc := 2) (v := 0) (by decide) dX12_restOf_2 ?_
  refine G_istore_n (pc := 3) (L1 := [some (.ref 67), some (.int 4), some (.int 0), some (.int 0)]) rfl rfl (by decide) dX12_restOf_3 ?_
  refine G_iload_n (pc := 4) rfl dX12_restOf_4 ?_
  refine G_iload_n (pc := 5) rfl dX12_restOf_5 ?_
  refine G_icmp_ge (pc := 6) (tgt := 30) (by decide) dX12_restOf_6 (fun z => absurd z (by decide)) (fun _ => ?_)
  refine G_aload_n (pc := 9) rfl dX12_restOf_9 ?_
  refine G_callV (pc := 10) (mc1 := 0) (ms1 := 0) (ci := 12) (mj := mX12_isOver) (vs := []) dX12_restOf_10 rfl rfl cm_X12_isOver wh_22 wh_24 wh_25 rfl (Nat.le_of_ble_eq_true rfl) (Nat.le_of_ble_eq_true rfl) (Nat.le_of_ble_eq_true rfl) (Nat.le_of_ble_eq_true rfl) (s10244_X12_isOver J (d + 1)  ) ?_
  rintro _ _ ⟨rfl, rfl⟩
  dsimp only [Option.toList, List.cons_append, List.nil_append]
  refine G_if_ne (pc := 13) (tgt := 30) (by decide) dX12_restOf_13 (fun z => absurd (by decide) z) (fun _ => ?_)
  refine G_iload_n (pc := 16) rfl dX12_restOf_16 ?_
  refine G_aload_n (pc := 17) rfl dX12_restOf_17 ?_
  refine G_iconst (pc := 18) (v := (-1)) (by decide) dX12_restOf_18 ?_
  refine G_callV (pc := 19) (mc1 := 0) (ms1 := 0) (ci := 12) (mj := mX12_goesBy) (vs := [_]) dX12_restOf_19 rfl rfl cm_X12_goesBy wh_72 wh_74 wh_75 rfl (Nat.le_of_ble_eq_true rfl) (Nat.le_of_ble_eq_true rfl) (Nat.le_of_ble_eq_true rfl) (Nat.le_of_ble_eq_true rfl) (s10245_X12_goesBy J d  ) ?_
  rintro _ _ ⟨rfl, rfl⟩
  dsimp only [Option.toList, List.cons_append, List.nil_append]
  refine G_iadd (pc := 22) (z := 0) (by decide) dX12_restOf_22 ?_
  refine G_istore_n (pc := 23) (L1 := [some (.ref 67), some (.int 4), some (.int 0), some (.int 0)]) rfl rfl (by decide) dX12_restOf_23 ?_
  refine G_iinc (pc := 24) (v := 1) (w := 1) (L1 := [some (.ref 67), some (.int 4), some (.int 0), some (.int 1)]) (by decide) rfl rfl (by decide) rfl (by decide) dX12_restOf_24 ?_
  refine G_goto (pc := 27) (tgt := 4) (by decide) dX12_restOf_27 ?_
  refine G_iload_n (pc := 4) rfl dX12_restOf_4 ?_
  refine G_iload_n (pc := 5) rfl dX12_restOf_5 ?_
  refine G_icmp_ge (pc := 6) (tgt := 30) (by decide) dX12_restOf_6 (fun z => absurd z (by decide)) (fun _ => ?_)
  refine G_aload_n (pc := 9) rfl dX12_restOf_9 ?_
  refine G_callV (pc := 10) (mc1 := 0) (ms1 := 0) (ci := 12) (mj := mX12_isOver) (vs := []) dX12_restOf_10 rfl rfl cm_X12_isOver wh_22 wh_24 wh_25 rfl (Nat.le_of_ble_eq_true rfl) (Nat.le_of_ble_eq_true rfl) (Nat.le_of_ble_eq_true rfl) (Nat.le_of_ble_eq_true rfl) (s10247_X12_isOver J (d + 1)  ) ?_
  rintro _ _ ⟨rfl, rfl⟩
  dsimp only [Option.toList, List.cons_append, List.nil_append]
  refine G_if_ne (pc := 13) (tgt := 30) (by decide) dX12_restOf_13 (fun z => absurd (by decide) z) (fun _ => ?_)
  refine G_iload_n (pc := 16) rfl dX12_restOf_16 ?_
  refine G_aload_n (pc := 17) rfl dX12_restOf_17 ?_
  refine G_iconst (pc := 18) (v := (-1)) (by decide) dX12_restOf_18 ?_
  refine G_callV (pc := 19) (mc1 := 0) (ms1 := 0) (ci := 12) (mj := mX12_goesBy) (vs := [_]) dX12_restOf_19 rfl rfl cm_X12_goesBy wh_72 wh_74 wh_75 rfl (Nat.le_of_ble_eq_true rfl) (Nat.le_of_ble_eq_true rfl) (Nat.le_of_ble_eq_true rfl) (Nat.le_of_ble_eq_true rfl) (s10248_X12_goesBy J d  ) ?_
  rintro _ _ ⟨rfl, rfl⟩
  dsimp only [Option.toList, List.cons_append, List.nil_append]
  refine G_iadd (pc := 22) (z := 0) (by decide) dX12_restOf_22 ?_
  refine G_istore_n (pc := 23) (L1 := [some (.ref 67), some (.int 4), some (.int 0), some (.int 1)]) rfl rfl (by decide) dX12_restOf_23 ?_
  refine G_iinc (pc := 24) (v := 1) (w := 2) (L1 := [some (.ref 67), some (.int 4), some (.int 0), some (.int 2)]) (by decide) rfl rfl (by decide) rfl (by decide) dX12_restOf_24 ?_
  refine G_goto (pc := 27) (tgt := 4) (by decide) dX12_restOf_27 ?_
  refine G_iload_n (pc := 4) rfl dX12_restOf_4 ?_
  refine G_iload_n (pc := 5) rfl dX12_restOf_5 ?_
  refine G_icmp_ge (pc := 6) (tgt := 30) (by decide) dX12_restOf_6 (fun z => absurd z (by decide)) (fun _ => ?_)
  refine G_aload_n (pc := 9) rfl dX12_restOf_9 ?_
  refine G_callV (pc := 10) (mc1 := 0) (ms1 := 0) (ci := 12) (mj := mX12_isOver) (vs := []) dX12_restOf_10 rfl rfl cm_X12_isOver wh_22 wh_24 wh_25 rfl (Nat.le_of_ble_eq_true rfl) (Nat.le_of_ble_eq_true rfl) (Nat.le_of_ble_eq_true rfl) (Nat.le_of_ble_eq_true rfl) (s10250_X12_isOver J (d + 1)  ) ?_
  rintro _ _ ⟨rfl, rfl⟩
  dsimp only [Option.toList, List.cons_append, List.nil_append]
  refine G_if_ne (pc := 13) (tgt := 30) (by decide) dX12_restOf_13 (fun z => absurd (by decide) z) (fun _ => ?_)
  refine G_iload_n (pc := 16) rfl dX12_restOf_16 ?_
  refine G_aload_n (pc := 17) rfl dX12_restOf_17 ?_
  refine G_iconst (pc := 18) (v := (-1)) (by decide) dX12_restOf_18 ?_
  refine G_callV (pc := 19) (mc1 := 0) (ms1 := 0) (ci := 12) (mj := mX12_goesBy) (vs := [_]) dX12_restOf_19 rfl rfl cm_X12_goesBy wh_72 wh_74 wh_75 rfl (Nat.le_of_ble_eq_true rfl) (Nat.le_of_ble_eq_true rfl) (Nat.le_of_ble_eq_true rfl) (Nat.le_of_ble_eq_true rfl) (s10251_X12_goesBy J d  ) ?_
  rintro _ _ ⟨rfl, rfl⟩
  dsimp only [Option.toList, List.cons_append, List.nil_append]
  refine G_iadd (pc := 22) (z := 0) (by decide) dX12_restOf_22 ?_
  refine G_istore_n (pc := 23) (L1 := [some (.ref 67), some (.int 4), some (.int 0), some (.int 2)]) rfl rfl (by decide) dX12_restOf_23 ?_
  refine G_iinc (pc := 24) (v := 1) (w := 3) (L1 := [some (.ref 67), some (.int 4), some (.int 0), some (.int 3)]) (by decide) rfl rfl (by decide) rfl (by decide) dX12_restOf_24 ?_
  refine G_goto (pc := 27) (tgt := 4) (by decide) dX12_restOf_27 ?_
  refine G_iload_n (pc := 4) rfl dX12_restOf_4 ?_
  refine G_iload_n (pc := 5) rfl dX12_restOf_5 ?_
  refine G_icmp_ge (pc := 6) (tgt := 30) (by decide) dX12_restOf_6 (fun z => absurd z (by decide)) (fun _ => ?_)
  refine G_aload_n (pc := 9) rfl dX12_restOf_9 ?_
  refine G_callV (pc := 10) (mc1 := 0) (ms1 := 0) (ci := 12) (mj := mX12_isOver) (vs := []) dX12_restOf_10 rfl rfl cm_X12_isOver wh_22 wh_24 wh_25 rfl (Nat.le_of_ble_eq_true rfl) (Nat.le_of_ble_eq_true rfl) (Nat.le_of_ble_eq_true rfl) (Nat.le_of_ble_eq_true rfl) (s10253_X12_isOver J (d + 1)  ) ?_
  rintro _ _ ⟨rfl, rfl⟩
  dsimp only [Option.toList, List.cons_append, List.nil_append]
  refine G_if_ne (pc := 13) (tgt := 30) (by decide) dX12_restOf_13 (fun z => absurd (by decide) z) (fun _ => ?_)
  refine G_iload_n (pc := 16) rfl dX12_restOf_16 ?_
  refine G_aload_n (pc := 17) rfl dX12_restOf_17 ?_
  refine G_iconst (pc := 18) (v := (-1)) (by decide) dX12_restOf_18 ?_
  refine G_callV (pc := 19) (mc1 := 0) (ms1 := 0) (ci := 12) (mj := mX12_goesBy) (vs := [_]) dX12_restOf_19 rfl rfl cm_X12_goesBy wh_72 wh_74 wh_75 rfl (Nat.le_of_ble_eq_true rfl) (Nat.le_of_ble_eq_true rfl) (Nat.le_of_ble_eq_true rfl) (Nat.le_of_ble_eq_true rfl) (s10254_X12_goesBy J d  ) ?_
  rintro _ _ ⟨rfl, rfl⟩
  dsimp only [Option.toList, List.cons_append, List.nil_append]
  refine G_iadd (pc := 22) (z := 0) (by decide) dX12_restOf_22 ?_
  refine G_istore_n (pc := 23) (L1 := [some (.ref 67), some (.int 4), some (.int 0), some (.int 3)]) rfl rfl (by decide) dX12_restOf_23 ?_
  refine G_iinc (pc := 24) (v := 1) (w := 4) (L1 := [some (.ref 67), some (.int 4), some (.int 0), some (.int 4)]) (by decide) rfl rfl (by decide) rfl (by decide) dX12_restOf_24 ?_
  refine G_goto (pc := 27) (tgt := 4) (by decide) dX12_restOf_27 ?_
  refine G_iload_n (pc := 4) rfl dX12_restOf_4 ?_
  refine G_iload_n (pc := 5) rfl dX12_restOf_5 ?_
  refine G_icmp_ge (pc := 6) (tgt := 30) (by decide) dX12_restOf_6 (fun _ => ?_) (fun z => absurd (by decide) z)
  refine G_iload_n (pc := 30) rfl dX12_restOf_30 ?_
  exact G_iret (pc := 31) (Nat.le_of_ble_eq_true rfl) (Nat.le_of_ble_eq_true rfl) rfl dX12_restOf_31 ⟨rfl, rfl⟩
set_option maxRecDepth 100000 in
set_option maxHeartbeats 4000000 in
theorem s10286_X12_restOf (J : gI) (d : Nat)   : G (d + 2) mX12_restOf 0 0 0 0 0 (gent 4 [.ref 67, .int 5]) [] SH0 RF0 (gcp (gmx J) 68 70 0 0 65) (fun r h => r = some (.int 0) ∧ h = (SH0, RF0, (gup (gup (gup (gup (gup (gup (gup (gup (gup (gup (gcp (gmx J) 68 70 0 0 65) 68 0 1) 68 2 0) 68 0 2) 68 2 0) 68 0 3) 68 2 0) 68 0 4) 68 2 0) 68 0 5) 68 2 0))) := by
  refine G_iconst (pc := 0) (v := 0) (by decide) dX12_restOf_0 ?_
  refine G_istore_n (pc := 1) (L1 := [some (.ref 67), some (.int 5), some (.int 0), none]) rfl rfl (by decide) dX12_restOf_1 ?_
  refine G_iconst (pc := 2) (v := 0) (by decide) dX12_restOf_2 ?_
  refine G_istore_n (pc := 3) (L1 := [some (.ref 67), some (.int 5), some (.int 0), some (.int 0)]) rfl rfl (by decide) dX12_restOf_3 ?_
  refine G_iload_n (pc := 4) rfl dX12_restOf_4 ?_
  refine G_iload_n (pc := 5) rfl dX12_restOf_5 ?_
  refine G_icmp_ge (pc := 6) (tgt := 30) (by decide) dX12_restOf_6 (fun z => absurd z (by decide)) (fun _ => ?_)
  refine G_aload_n (pc := 9) rfl dX12_restOf_9 ?_
  refine G_callV (pc := 10) (mc1 := 0) (ms1 := 0) (ci := 12) (mj := mX12_isOver) (vs := []) dX12_restOf_10 rfl rfl cm_X12_isOver wh_22 wh_24 wh_25 rfl (Nat.le_of_ble_eq_true rfl) (Nat.le_of_ble_eq_true rfl) (Nat.le_of_ble_eq_true rfl) (Nat.le_of_ble_eq_true rfl) (s10244_X12_isOver J (d + 1)  ) ?_
  rintro _ _ ⟨rfl, rfl⟩
  dsimp only [Option.toList, List.cons_append, List.nil_append]
  refine G_if_ne (pc := 13) (tgt := 30) (by decide) dX12_restOf_13 (fun z => absurd (by decide) z) (fun _ => ?_)
  refine G_iload_n (pc := 16) rfl dX12_restOf_16 ?_
  refine G_aload_n (pc := 17) rfl dX12_restOf_17 ?_
  refine G_iconst (pc := 18) (v := (-1)) (by decide) dX12_restOf_18 ?_
  refine G_callV (pc := 19) (mc1 := 0) (ms1 := 0) (ci := 12) (mj := mX12_goesBy) (vs := [_]) dX12_restOf_19 rfl rfl cm_X12_goesBy wh_72 wh_74 wh_75 rfl (Nat.le_of_ble_eq_true rfl) (Nat.le_of_ble_eq_true rfl) (Nat.le_of_ble_eq_true rfl) (Nat.le_of_ble_eq_true rfl) (s10245_X12_goesBy J d  ) ?_
  rintro _ _ ⟨rfl, rfl⟩
  dsimp only [Option.toList, List.cons_append, List.nil_append]
  refine G_iadd (pc := 22) (z := 0) (by decide) dX12_restOf_22 ?_
  refine G_istore_n (pc := 23) (L1 := [some (.ref 67), some (.int 5), some (.int 0), some (.int 0)]) rfl rfl (by decide) dX12_restOf_23 ?_
  refine G_iinc (pc := 24) (v := 1) (w := 1) (L1 := [some (.ref 67), some (.int 5), some (.int 0), some (.int 1)]) (by decide) rfl rfl (by decide) rfl (by decide) dX12_restOf_24 ?_
  refine G_goto (pc := 27) (tgt := 4) (by decide) dX12_restOf_27 ?_
  refine G_iload_n (pc := 4) rfl dX12_restOf_4 ?_
  refine G_iload_n (pc := 5) rfl dX12_restOf_5 ?_
  refine G_icmp_ge (pc := 6) (tgt := 30) (by decide) dX12_restOf_6 (fun z => absurd z (by decide)) (fun _ => ?_)
  refine G_aload_n (pc := 9) rfl dX12_restOf_9 ?_
  refine G_callV (pc := 10) (mc1 := 0) (ms1 := 0) (ci := 12) (mj := mX12_isOver) (vs := []) dX12_restOf_10 rfl rfl cm_X12_isOver wh_22 wh_24 wh_25 rfl (Nat.le_of_ble_eq_true rfl) (Nat.le_of_ble_eq_true rfl) (Nat.le_of_ble_eq_true rfl) (Nat.le_of_ble_eq_true rfl) (s10247_X12_isOver J (d + 1)  ) ?_
  rintro _ _ ⟨rfl, rfl⟩
  dsimp only [Option.toList, List.cons_append, List.nil_append]
  refine G_if_ne (pc := 13) (tgt := 30) (by decide) dX12_restOf_13 (fun z => absurd (by decide) z) (fun _ => ?_)
  refine G_iload_n (pc := 16) rfl dX12_restOf_16 ?_
  refine G_aload_n (pc := 17) rfl dX12_restOf_17 ?_
  refine G_iconst (pc := 18) (v := (-1)) (by decide) dX12_restOf_18 ?_
  refine G_callV (pc := 19) (mc1 := 0) (ms1 := 0) (ci := 12) (mj := mX12_goesBy) (vs := [_]) dX12_restOf_19 rfl rfl cm_X12_goesBy wh_72 wh_74 wh_75 rfl (Nat.le_of_ble_eq_true rfl) (Nat.le_of_ble_eq_true rfl) (Nat.le_of_ble_eq_true rfl) (Nat.le_of_ble_eq_true rfl) (s10248_X12_goesBy J d  ) ?_
  rintro _ _ ⟨rfl, rfl⟩
  dsimp only [Option.toList, List.cons_append, List.nil_append]
  refine G_iadd (pc := 22) (z := 0) (by decide) dX12_restOf_22 ?_
  refine G_istore_n (pc := 23) (L1 := [some (.ref 67), some (.int 5), some (.int 0), some (.int 1)]) rfl rfl (by decide) dX12_restOf_23 ?_
  refine G_iinc (pc := 24) (v := 1) (w := 2) (L1 := [some (.ref 67), some (.int 5), some (.int 0), some (.int 2)]) (by decide) rfl rfl (by decide) rfl (by decide) dX12_restOf_24 ?_
  refine G_goto (pc := 27) (tgt := 4) (by decide) dX12_restOf_27 ?_
  refine G_iload_n (pc := 4) rfl dX12_restOf_4 ?_
  refine G_iload_n (pc := 5) rfl dX12_restOf_5 ?_
  refine G_icmp_ge (pc := 6) (tgt := 30) (by decide) dX12_restOf_6 (fun z => absurd z (by decide)) (fun _ => ?_)
  refine G_aload_n (pc := 9) rfl dX12_restOf_9 ?_
  refine G_callV (pc := 10) (mc1 := 0) (ms1 := 0) (ci := 12) (mj := mX12_isOver) (vs := []) dX12_restOf_10 rfl rfl cm_X12_isOver wh_22 wh_24 wh_25 rfl (Nat.le_of_ble_eq_true rfl) (Nat.le_of_ble_eq_true rfl) (Nat.le_of_ble_eq_true rfl) (Nat.le_of_ble_eq_true rfl) (s10250_X12_isOver J (d + 1)  ) ?_
  rintro _ _ ⟨rfl, rfl⟩
  dsimp only [Option.toList, List.cons_append, List.nil_append]
  refine G_if_ne (pc := 13) (tgt := 30) (by decide) dX12_restOf_13 (fun z => absurd (by decide) z) (fun _ => ?_)
  refine G_iload_n (pc := 16) rfl dX12_restOf_16 ?_
  refine G_aload_n (pc := 17) rfl dX12_restOf_17 ?_
  refine G_iconst (pc := 18) (v := (-1)) (by decide) dX12_restOf_18 ?_
  refine G_callV (pc := 19) (mc1 := 0) (ms1 := 0) (ci := 12) (mj := mX12_goesBy) (vs := [_]) dX12_restOf_19 rfl rfl cm_X12_goesBy wh_72 wh_74 wh_75 rfl (Nat.le_of_ble_eq_true rfl) (Nat.le_of_ble_eq_true rfl) (Nat.le_of_ble_eq_true rfl) (Nat.le_of_ble_eq_true rfl) (s10251_X12_goesBy J d  ) ?_
  rintro _ _ ⟨rfl, rfl⟩
  dsimp only [Option.toList, List.cons_append, List.nil_append]
  refine G_iadd (pc := 22) (z := 0) (by decide) dX12_restOf_22 ?_
  refine G_istore_n (pc := 23) (L1 := [some (.ref 67), some (.int 5), some (.int 0), some (.int 2)]) rfl rfl (by decide) dX12_restOf_23 ?_
  refine G_iinc (pc := 24) (v := 1) (w := 3) (L1 := [some (.ref 67), some (.int 5), some (.int 0), some (.int 3)]) (by decide) rfl rfl (by decide) rfl (by decide) dX12_restOf_24 ?_
  refine G_goto (pc := 27) (tgt := 4) (by decide) dX12_restOf_27 ?_
  refine G_iload_n (pc := 4) rfl dX12_restOf_4 ?_
  refine G_iload_n (pc := 5) rfl dX12_restOf_5 ?_
  refine G_icmp_ge (pc := 6) (tgt := 30) (by decide) dX12_restOf_6 (fun z => absurd z (by decide)) (fun _ => ?_)
  refine G_aload_n (pc := 9) rfl dX12_restOf_9 ?_
  refine G_callV (pc := 10) (mc1 := 0) (ms1 := 0) (ci := 12) (mj := mX12_isOver) (vs := []) dX12_restOf_10 rfl rfl cm_X12_isOver wh_22 wh_24 wh_25 rfl (Nat.le_of_ble_eq_true rfl) (Nat.le_of_ble_eq_true rfl) (Nat.le_of_ble_eq_true rfl) (Nat.le_of_ble_eq_true rfl) (s10253_X12_isOver J (d + 1)  ) ?_
  rintro _ _ ⟨rfl, rfl⟩
  dsimp only [Option.toList, List.cons_append, List.nil_append]
  refine G_if_ne (pc := 13) (tgt := 30) (by decide) dX12_restOf_13 (fun z => absurd (by decide) z) (fun _ => ?_)
  refine G_iload_n (pc := 16) rfl dX12_restOf_16 ?_
  refine G_aload_n (pc := 17) rfl dX12_restOf_17 ?_
  refine G_iconst (pc := 18) (v := (-1)) (by decide) dX12_restOf_18 ?_
  refine G_callV (pc := 19) (mc1 := 0) (ms1 := 0) (ci := 12) (mj := mX12_goesBy) (vs := [_]) dX12_restOf_19 rfl rfl cm_X12_goesBy wh_72 wh_74 wh_75 rfl (Nat.le_of_ble_eq_true rfl) (Nat.le_of_ble_eq_true rfl) (Nat.le_of_ble_eq_true rfl) (Nat.le_of_ble_eq_true rfl) (s10254_X12_goesBy J d  ) ?_
  rintro _ _ ⟨rfl, rfl⟩
  dsimp only [Option.toList, List.cons_append, List.nil_append]
  refine G_iadd (pc := 22) (z := 0) (by decide) dX12_restOf_22 ?_
  refine G_istore_n (pc := 23) (L1 := [some (.ref 67), some (.int 5), some (.int 0), some (.int 3)]) rfl rfl (by decide) dX12_restOf_23 ?_
  refine G_iinc (pc := 24) (v := 1) (w := 4) (L1 := [some (.ref 67), some (.int 5), some (.int 0), some (.int 4)]) (by decide) rfl rfl (by decide) rfl (by decide) dX12_restOf_24 ?_
  refine G_goto (pc := 27) (tgt := 4) (by decide) dX12_restOf_27 ?_
  refine G_iload_n (pc := 4) rfl dX12_restOf_4 ?_
  refine G_iload_n (pc := 5) rfl dX12_restOf_5 ?_
  refine G_icmp_ge (pc := 6) (tgt := 30) (by decide) dX12_restOf_6 (fun z => absurd z (by decide)) (fun _ => ?_)
  refine G_aload_n (pc := 9) rfl dX12_restOf_9 ?_
  refine G_callV (pc := 10) (mc1 := 0) (ms1 := 0) (ci := 12) (mj := mX12_isOver) (vs := []) dX12_restOf_10 rfl rfl cm_X12_isOver wh_22 wh_24 wh_25 rfl (Nat.le_of_ble_eq_true rfl) (Nat.le_of_ble_eq_true rfl) (Nat.le_of_ble_eq_true rfl) (Nat.le_of_ble_eq_true rfl) (s10256_X12_isOver J (d + 1)  ) ?_
  rintro _ _ ⟨rfl, rfl⟩
  dsimp only [Option.toList, List.cons_append, List.nil_append]
  refine G_if_ne (pc := 13) (tgt := 30) (by decide) dX12_restOf_13 (fun z => absurd (by decide) z) (fun _ => ?_)
  refine G_iload_n (pc := 16) rfl dX12_restOf_16 ?_
  refine G_aload_n (pc := 17) rfl dX12_restOf_17 ?_
  refine G_iconst (pc := 18) (v := (-1)) (by decide) dX12_restOf_18 ?_
  refine G_callV (pc := 19) (mc1 := 0) (ms1 := 0) (ci := 12) (mj := mX12_goesBy) (vs := [_]) dX12_restOf_19 rfl rfl cm_X12_goesBy wh_72 wh_74 wh_75 rfl (Nat.le_of_ble_eq_true rfl) (Nat.le_of_ble_eq_true rfl) (Nat.le_of_ble_eq_true rfl) (Nat.le_of_ble_eq_true rfl) (s10257_X12_goesBy J d  ) ?_
  rintro _ _ ⟨rfl, rfl⟩
  dsimp only [Option.toList, List.cons_append, List.nil_append]
  refine G_iadd (pc := 22) (z := 0) (by decide) dX12_restOf_22 ?_
  refine G_istore_n (pc := 23) (L1 := [some (.ref 67), some (.int 5), some (.int 0), some (.int 4)]) rfl rfl (by decide) dX12_restOf_23 ?_
  refine G_iinc (pc := 24) (v := 1) (w := 5) (L1 := [some (.ref 67), some (.int 5), some (.int 0), some (.int 5)]) (by decide) rfl rfl (by decide) rfl (by decide) dX12_restOf_24 ?_
  refine G_goto (pc := 27) (tgt := 4) (by decide) dX12_restOf_27 ?_
  refine G_iload_n (pc := 4) rfl dX12_restOf_4 ?_
  refine G_iload_n (pc := 5) rfl dX12_restOf_5 ?_
  refine G_icmp_ge (pc := 6) (tgt := 30) (by decide) dX12_restOf_6 (fun _ => ?_) (fun z => absurd (by decide) z)
  refine G_iload_n (pc := 30) rfl dX12_restOf_30 ?_
  exact G_iret (pc := 31) (Nat.le_of_ble_eq_true rfl) (Nat.le_of_ble_eq_true rfl) rfl dX12_restOf_31 ⟨rfl, rfl⟩
set_option maxRecDepth 100000 in
set_option maxHeartbeats 4000000 in
theorem s10287_X12_restOf (J : gI) (d : Nat)   : G (d + 2) mX12_restOf 0 0 0 0 0 (gent 4 [.ref 67, .int 6]) [] SH0 RF0 (gcp (gmx J) 68 70 0 0 65) (fun r h => r = some (.int 0) ∧ h = (SH0, RF0, (gup (gup (gup (gup (gup (gup (gup (gup (gup (gup (gup (gup (gcp (gmx J) 68 70 0 0 65) 68 0 1) 68 2 0) 68 0 2) 68 2 0) 68 0 3) 68 2 0) 68 0 4) 68 2 0) 68 0 5) 68 2 0) 68 0 6) 68 2 0))) := by
  refine G_iconst (pc := 0) (v := 0) (by decide) dX12_restOf_0 ?_
  refine G_istore_n (pc := 1) (L1 := [some (.ref 67), some (.int 6), some (.int 0), none]) rfl rfl (by decide) dX12_restOf_1 ?_
  refine G_iconst (pc := 2) (v := 0) (by decide) dX12_restOf_2 ?_
  refine G_istore_n (pc := 3) (L1 := [some (.ref 67), some (.int 6), some (.int 0), some (.int 0)]) rfl rfl (by decide) dX12_restOf_3 ?_
  refine G_iload_n (pc := 4) rfl dX12_restOf_4 ?_
  refine G_iload_n (pc := 5) rfl dX12_restOf_5 ?_
  refine G_icmp_ge (pc := 6) (tgt := 30) (by decide) dX12_restOf_6 (fun z => absurd z (by decide)) (fun _ => ?_)
  refine G_aload_n (pc := 9) rfl dX12_restOf_9 ?_
  refine G_callV (pc := 10) (mc1 := 0) (ms1 := 0) (ci := 12) (mj := mX12_isOver) (vs := []) dX12_restOf_10 rfl rfl cm_X12_isOver wh_22 wh_24 wh_25 rfl (Nat.le_of_ble_eq_true rfl) (Nat.le_of_ble_eq_true rfl) (Nat.le_of_ble_eq_true rfl) (Nat.le_of_ble_eq_true rfl) (s10244_X12_isOver J (d + 1)  ) ?_
  rintro _ _ ⟨rfl, rfl⟩
  dsimp only [Option.toList, List.cons_append, List.nil_append]
  refine G_if_ne (pc := 13) (tgt := 30) (by decide) dX12_restOf_13 (fun z => absurd (by decide) z) (fun _ => ?_)
  refine G_iload_n (pc := 16) rfl dX12_restOf_16 ?_
  refine G_aload_n (pc := 17) rfl dX12_restOf_17 ?_
  refine G_iconst (pc := 18) (v := (-1)) (by decide) dX12_restOf_18 ?_
  refine G_callV (pc := 19) (mc1 := 0) (ms1 := 0) (ci := 12) (mj := mX12_goesBy) (vs := [_]) dX12_restOf_19 rfl rfl cm_X12_goesBy wh_72 wh_74 wh_75 rfl (Nat.le_of_ble_eq_true rfl) (Nat.le_of_ble_eq_true rfl) (Nat.le_of_ble_eq_true rfl) (Nat.le_of_ble_eq_true rfl) (s10245_X12_goesBy J d  ) ?_
  rintro _ _ ⟨rfl, rfl⟩
  dsimp only [Option.toList, List.cons_append, List.nil_append]
  refine G_iadd (pc := 22) (z := 0) (by decide) dX12_restOf_22 ?_
  refine G_istore_n (pc := 23) (L1 := [some (.ref 67), some (.int 6), some (.int 0), some (.int 0)]) rfl rfl (by decide) dX12_restOf_23 ?_
  refine G_iinc (pc := 24) (v := 1) (w := 1) (L1 := [some (.ref 67), some (.int 6), some (.int 0), some (.int 1)]) (by decide) rfl rfl (by decide) rfl (by decide) dX12_restOf_24 ?_
  refine G_goto (pc := 27) (tgt := 4) (by decide) dX12_restOf_27 ?_
  refine G_iload_n (pc := 4) rfl dX12_restOf_4 ?_
  refine G_iload_n (pc := 5) rfl dX12_restOf_5 ?_
  refine G_icmp_ge (pc := 6) (tgt := 30) (by decide) dX12_restOf_6 (fun z => absurd z (by decide)) (fun _ => ?_)
  refine G_aload_n (pc := 9) rfl dX12_restOf_9 ?_
  refine G_callV (pc := 10) (mc1 := 0) (ms1 := 0) (ci := 12) (mj := mX12_isOver) (vs := []) dX12_restOf_10 rfl rfl cm_X12_isOver wh_22 wh_24 wh_25 rfl (Nat.le_of_ble_eq_true rfl) (Nat.le_of_ble_eq_true rfl) (Nat.le_of_ble_eq_true rfl) (Nat.le_of_ble_eq_true rfl) (s10247_X12_isOver J (d + 1)  ) ?_
  rintro _ _ ⟨rfl, rfl⟩
  dsimp only [Option.toList, List.cons_append, List.nil_append]
  refine G_if_ne (pc := 13) (tgt := 30) (by decide) dX12_restOf_13 (fun z => absurd (by decide) z) (fun _ => ?_)
  refine G_iload_n (pc := 16) rfl dX12_restOf_16 ?_
  refine G_aload_n (pc := 17) rfl dX12_restOf_17 ?_
  refine G_iconst (pc := 18) (v := (-1)) (by decide) dX12_restOf_18 ?_
  refine G_callV (pc := 19) (mc1 := 0) (ms1 := 0) (ci := 12) (mj := mX12_goesBy) (vs := [_]) dX12_restOf_19 rfl rfl cm_X12_goesBy wh_72 wh_74 wh_75 rfl (Nat.le_of_ble_eq_true rfl) (Nat.le_of_ble_eq_true rfl) (Nat.le_of_ble_eq_true rfl) (Nat.le_of_ble_eq_true rfl) (s10248_X12_goesBy J d  ) ?_
  rintro _ _ ⟨rfl, rfl⟩
  dsimp only [Option.toList, List.cons_append, List.nil_append]
  refine G_iadd (pc := 22) (z := 0) (by decide) dX12_restOf_22 ?_
  refine G_istore_n (pc := 23) (L1 := [some (.ref 67), some (.int 6), some (.int 0), some (.int 1)]) rfl rfl (by decide) dX12_restOf_23 ?_
  refine G_iinc (pc := 24) (v := 1) (w := 2) (L1 := [some (.ref 67), some (.int 6), some (.int 0), some (.int 2)]) (by decide) rfl rfl (by decide) rfl (by decide) dX12_restOf_24 ?_
  refine G_goto (pc := 27) (tgt := 4) (by decide) dX12_restOf_27 ?_
  refine G_iload_n (pc := 4) rfl dX12_restOf_4 ?_
  refine G_iload_n (pc := 5) rfl dX12_restOf_5 ?_
  refine G_icmp_ge (pc := 6) (tgt := 30) (by decide) dX12_restOf_6 (fun z => absurd z (by decide)) (fun _ => ?_)
  refine G_aload_n (pc := 9) rfl dX12_restOf_9 ?_
  refine G_callV (pc := 10) (mc1 := 0) (ms1 := 0) (ci := 12) (mj := mX12_isOver) (vs := []) dX12_restOf_10 rfl rfl cm_X12_isOver wh_22 wh_24 wh_25 rfl (Nat.le_of_ble_eq_true rfl) (Nat.le_of_ble_eq_true rfl) (Nat.le_of_ble_eq_true rfl) (Nat.le_of_ble_eq_true rfl) (s10250_X12_isOver J (d + 1)  ) ?_
  rintro _ _ ⟨rfl, rfl⟩
  dsimp only [Option.toList, List.cons_append, List.nil_append]
  refine G_if_ne (pc := 13) (tgt := 30) (by decide) dX12_restOf_13 (fun z => absurd (by decide) z) (fun _ => ?_)
  refine G_iload_n (pc := 16) rfl dX12_restOf_16 ?_
  refine G_aload_n (pc := 17) rfl dX12_restOf_17 ?_
  refine G_iconst (pc := 18) (v := (-1)) (by decide) dX12_restOf_18 ?_
  refine G_callV (pc := 19) (mc1 := 0) (ms1 := 0) (ci := 12) (mj := mX12_goesBy) (vs := [_]) dX12_restOf_19 rfl rfl cm_X12_goesBy wh_72 wh_74 wh_75 rfl (Nat.le_of_ble_eq_true rfl) (Nat.le_of_ble_eq_true rfl) (Nat.le_of_ble_eq_true rfl) (Nat.le_of_ble_eq_true rfl) (s10251_X12_goesBy J d  ) ?_
  rintro _ _ ⟨rfl, rfl⟩
  dsimp only [Option.toList, List.cons_append, List.nil_append]
  refine G_iadd (pc := 22) (z := 0) (by decide) dX12_restOf_22 ?_
  refine G_istore_n (pc := 23) (L1 := [some (.ref 67), some (.int 6), some (.int 0), some (.int 2)]) rfl rfl (by decide) dX12_restOf_23 ?_
  refine G_iinc (pc := 24) (v := 1) (w := 3) (L1 := [some (.ref 67), some (.int 6), some (.int 0), some (.int 3)]) (by decide) rfl rfl (by decide) rfl (by decide) dX12_restOf_24 ?_
  refine G_goto (pc := 27) (tgt := 4) (by decide) dX12_restOf_27 ?_
  refine G_iload_n (pc := 4) rfl dX12_restOf_4 ?_
  refine G_iload_n (pc := 5) rfl dX12_restOf_5 ?_
  refine G_icmp_ge (pc := 6) (tgt := 30) (by decide) dX12_restOf_6 (fun z => absurd z (by decide)) (fun _ => ?_)
  refine G_aload_n (pc := 9) rfl dX12_restOf_9 ?_
  refine G_callV (pc := 10) (mc1 := 0) (ms1 := 0) (ci := 12) (mj := mX12_isOver) (vs := []) dX12_restOf_10 rfl rfl cm_X12_isOver wh_22 wh_24 wh_25 rfl (Nat.le_of_ble_eq_true rfl) (Nat.le_of_ble_eq_true rfl) (Nat.le_of_ble_eq_true rfl) (Nat.le_of_ble_eq_true rfl) (s10253_X12_isOver J (d + 1)  ) ?_
  rintro _ _ ⟨rfl, rfl⟩
  dsimp only [Option.toList, List.cons_append, List.nil_append]
  refine G_if_ne (pc := 13) (tgt := 30) (by decide) dX12_restOf_13 (fun z => absurd (by decide) z) (fun _ => ?_)
  refine G_iload_n (pc := 16) rfl dX12_restOf_16 ?_
  refine G_aload_n (pc := 17) rfl dX12_restOf_17 ?_
  refine G_iconst (pc := 18) (v := (-1)) (by decide) dX12_restOf_18 ?_
  refine G_callV (pc := 19) (mc1 := 0) (ms1 := 0) (ci := 12) (mj := mX12_goesBy) (vs := [_]) dX12_restOf_19 rfl rfl cm_X12_goesBy wh_72 wh_74 wh_75 rfl (Nat.le_of_ble_eq_true rfl) (Nat.le_of_ble_eq_true rfl) (Nat.le_of_ble_eq_true rfl) (Nat.le_of_ble_eq_true rfl) (s10254_X12_goesBy J d  ) ?_
  rintro _ _ ⟨rfl, rfl⟩
  dsimp only [Option.toList, List.cons_append, List.nil_append]
  refine G_iadd (pc := 22) (z := 0) (by decide) dX12_restOf_22 ?_
  refine G_istore_n (pc := 23) (L1 := [some (.ref 67), some (.int 6), some (.int 0), some (.int 3)]) rfl rfl (by decide) dX12_restOf_23 ?_
  refine G_iinc (pc := 24) (v := 1) (w := 4) (L1 := [some (.ref 67), some (.int 6), some (.int 0), some (.int 4)]) (by decide) rfl rfl (by decide) rfl (by decide) dX12_restOf_24 ?_
  refine G_goto (pc := 27) (tgt := 4) (by decide) dX12_restOf_27 ?_
  refine G_iload_n (pc := 4) rfl dX12_restOf_4 ?_
  refine G_iload_n (pc := 5) rfl dX12_restOf_5 ?_
  refine G_icmp_ge (pc := 6) (tgt := 30) (by decide) dX12_restOf_6 (fun z => absurd z (by decide)) (fun _ => ?_)
  refine G_aload_n (pc := 9) rfl dX12_restOf_9 ?_
  refine G_callV (pc := 10) (mc1 := 0) (ms1 := 0) (ci := 12) (mj := mX12_isOver) (vs := []) dX12_restOf_10 rfl rfl cm_X12_isOver wh_22 wh_24 wh_25 rfl (Nat.le_of_ble_eq_true rfl) (Nat.le_of_ble_eq_true rfl) (Nat.le_of_ble_eq_true rfl) (Nat.le_of_ble_eq_true rfl) (s10256_X12_isOver J (d + 1)  ) ?_
  rintro _ _ ⟨rfl, rfl⟩
  dsimp only [Option.toList, List.cons_append, List.nil_append]
  refine G_if_ne (pc := 13) (tgt := 30) (by decide) dX12_restOf_13 (fun z => absurd (by decide) z) (fun _ => ?_)
  refine G_iload_n (pc := 16) rfl dX12_restOf_16 ?_
  refine G_aload_n (pc := 17) rfl dX12_restOf_17 ?_
  refine G_iconst (pc := 18) (v := (-1)) (by decide) dX12_restOf_18 ?_
  refine G_callV (pc := 19) (mc1 := 0) (ms1 := 0) (ci := 12) (mj := mX12_goesBy) (vs := [_]) dX12_restOf_19 rfl rfl cm_X12_goesBy wh_72 wh_74 wh_75 rfl (Nat.le_of_ble_eq_true rfl) (Nat.le_of_ble_eq_true rfl) (Nat.le_of_ble_eq_true rfl) (Nat.le_of_ble_eq_true rfl) (s10257_X12_goesBy J d  ) ?_
  rintro _ _ ⟨rfl, rfl⟩
  dsimp only [Option.toList, List.cons_append, List.nil_append]
  refine G_iadd (pc := 22) (z := 0) (by decide) dX12_restOf_22 ?_
  refine G_istore_n (pc := 23) (L1 := [some (.ref 67), some (.int 6), some (.int 0), some (.int 4)]) rfl rfl (by decide) dX12_restOf_23 ?_
  refine G_iinc (pc := 24) (v := 1) (w := 5) (L1 := [some (.ref 67), some (.int 6), some (.int 0), some (.int 5)]) (by decide) rfl rfl (by decide) rfl (by decide) dX12_restOf_24 ?_
  refine G_goto (pc := 27) (tgt := 4) (by decide) dX12_restOf_27 ?_
  refine G_iload_n (pc := 4) rfl dX12_restOf_4 ?_
  refine G_iload_n (pc := 5) rfl dX12_restOf_5 ?_
  refine G_icmp_ge (pc := 6) (tgt := 30) (by decide) dX12_restOf_6 (fun z => absurd z (by decide)) (fun _ => ?_)
  refine G_aload_n (pc := 9) rfl dX12_restOf_9 ?_
  refine G_callV (pc := 10) (mc1 := 0) (ms1 := 0) (ci := 12) (mj := mX12_isOver) (vs := []) dX12_restOf_10 rfl rfl cm_X12_isOver wh_22 wh_24 wh_25 rfl (Nat.le_of_ble_eq_true rfl) (Nat.le_of_ble_eq_true rfl) (Nat.le_of_ble_eq_true rfl) (Nat.le_of_ble_eq_true rfl) (s10259_X12_isOver J (d + 1)  ) ?_
  rintro _ _ ⟨rfl, rfl⟩
  dsimp only [Option.toList, List.cons_append, List.nil_append]
  refine G_if_ne (pc := 13) (tgt := 30) (by decide) dX12_restOf_13 (fun z => absurd (by decide) z) (fun _ => ?_)
  refine G_iload_n (pc := 16) rfl dX12_restOf_16 ?_
  refine G_aload_n (pc := 17) rfl dX12_restOf_17 ?_
  refine G_iconst (pc := 18) (v := (-1)) (by decide) dX12_restOf_18 ?_
  refine G_callV (pc := 19) (mc1 := 0) (ms1 := 0) (ci := 12) (mj := mX12_goesBy) (vs := [_]) dX12_restOf_19 rfl rfl cm_X12_goesBy wh_72 wh_74 wh_75 rfl (Nat.le_of_ble_eq_true rfl) (Nat.le_of_ble_eq_true rfl) (Nat.le_of_ble_eq_true rfl) (Nat.le_of_ble_eq_true rfl) (s10260_X12_goesBy J d  ) ?_
  rintro _ _ ⟨rfl, rfl⟩
  dsimp only [Option.toList, List.cons_append, List.nil_append]
  refine G_iadd (pc := 22) (z := 0) (by decide) dX12_restOf_22 ?_
  refine G_istore_n (pc := 23) (L1 := [some (.ref 67), some (.int 6), some (.int 0), some (.int 5)]) rfl rfl (by decide) dX12_restOf_23 ?_
  refine G_iinc (pc := 24) (v := 1) (w := 6) (L1 := [some (.ref 67), some (.int 6), some (.int 0), some (.int 6)]) (by decide) rfl rfl (by decide) rfl (by decide) dX12_restOf_24 ?_
  refine G_goto (pc := 27) (tgt := 4) (by decide) dX12_restOf_27 ?_
  refine G_iload_n (pc := 4) rfl dX12_restOf_4 ?_
  refine G_iload_n (pc := 5) rfl dX12_restOf_5 ?_
  refine G_icmp_ge (pc := 6) (tgt := 30) (by decide) dX12_restOf_6 (fun _ => ?_) (fun z => absurd (by decide) z)
  refine G_iload_n (pc := 30) rfl dX12_restOf_30 ?_
  exact G_iret (pc := 31) (Nat.le_of_ble_eq_true rfl) (Nat.le_of_ble_eq_true rfl) rfl dX12_restOf_31 ⟨rfl, rfl⟩
set_option maxRecDepth 100000 in
set_option maxHeartbeats 4000000 in
theorem s10288_X12_restOf (J : gI) (d : Nat)   : G (d + 2) mX12_restOf 0 0 0 0 0 (gent 4 [.ref 67, .int 7]) [] SH0 RF0 (gcp (gmx J) 68 70 0 0 65) (fun r h => r = some (.int 0) ∧ h = (SH0, RF0, (gup (gup (gup (gup (gup (gup (gup (gup (gup (gup (gup (gup (gup (gup (gcp (gmx J) 68 70 0 0 65) 68 0 1) 68 2 0) 68 0 2) 68 2 0) 68 0 3) 68 2 0) 68 0 4) 68 2 0) 68 0 5) 68 2 0) 68 0 6) 68 2 0) 68 0 7) 68 2 0))) := by
  refine G_iconst (pc := 0) (v := 0) (by decide) dX12_restOf_0 ?_
  refine G_istore_n (pc := 1) (L1 := [some (.ref 67), some (.int 7), some (.int 0), none]) rfl rfl (by decide) dX12_restOf_1 ?_
  refine G_iconst (pc := 2) (v := 0) (by decide) dX12_restOf_2 ?_
  refine G_istore_n (pc := 3) (L1 := [some (.ref 67), some (.int 7), some (.int 0), some (.int 0)]) rfl rfl (by decide) dX12_restOf_3 ?_
  refine G_iload_n (pc := 4) rfl dX12_restOf_4 ?_
  refine G_iload_n (pc := 5) rfl dX12_restOf_5 ?_
  refine G_icmp_ge (pc := 6) (tgt := 30) (by decide) dX12_restOf_6 (fun z => absurd z (by decide)) (fun _ => ?_)
  refine G_aload_n (pc := 9) rfl dX12_restOf_9 ?_
  refine G_callV (pc := 10) (mc1 := 0) (ms1 := 0) (ci := 12) (mj := mX12_isOver) (vs := []) dX12_restOf_10 rfl rfl cm_X12_isOver wh_22 wh_24 wh_25 rfl (Nat.le_of_ble_eq_true rfl) (Nat.le_of_ble_eq_true rfl) (Nat.le_of_ble_eq_true rfl) (Nat.le_of_ble_eq_true rfl) (s10244_X12_isOver J (d + 1)  ) ?_
  rintro _ _ ⟨rfl, rfl⟩
  dsimp only [Option.toList, List.cons_append, List.nil_append]
  refine G_if_ne (pc := 13) (tgt := 30) (by decide) dX12_restOf_13 (fun z => absurd (by decide) z) (fun _ => ?_)
  refine G_iload_n (pc := 16) rfl dX12_restOf_16 ?_
  refine G_aload_n (pc := 17) rfl dX12_restOf_17 ?_
  refine G_iconst (pc := 18) (v := (-1)) (by decide) dX12_restOf_18 ?_
  refine G_callV (pc := 19) (mc1 := 0) (ms1 := 0) (ci := 12) (mj := mX12_goesBy) (vs := [_]) dX12_restOf_19 rfl rfl cm_X12_goesBy wh_72 wh_74 wh_75 rfl (Nat.le_of_ble_eq_true rfl) (Nat.le_of_ble_eq_true rfl) (Nat.le_of_ble_eq_true rfl) (Nat.le_of_ble_eq_true rfl) (s10245_X12_goesBy J d  ) ?_
  rintro _ _ ⟨rfl, rfl⟩
  dsimp only [Option.toList, List.cons_append, List.nil_append]
  refine G_iadd (pc := 22) (z := 0) (by decide) dX12_restOf_22 ?_
  refine G_istore_n (pc := 23) (L1 := [some (.ref 67), some (.int 7), some (.int 0), some (.int 0)]) rfl rfl (by decide) dX12_restOf_23 ?_
  refine G_iinc (pc := 24) (v := 1) (w := 1) (L1 := [some (.ref 67), some (.int 7), some (.int 0), some (.int 1)]) (by decide) rfl rfl (by decide) rfl (by decide) dX12_restOf_24 ?_
  refine G_goto (pc := 27) (tgt := 4) (by decide) dX12_restOf_27 ?_
  refine G_iload_n (pc := 4) rfl dX12_restOf_4 ?_
  refine G_iload_n (pc := 5) rfl dX12_restOf_5 ?_
  refine G_icmp_ge (pc := 6) (tgt := 30) (by decide) dX12_restOf_6 (fun z => absurd z (by decide)) (fun _ => ?_)
  refine G_aload_n (pc := 9) rfl dX12_restOf_9 ?_
  refine G_callV (pc := 10) (mc1 := 0) (ms1 := 0) (ci := 12) (mj := mX12_isOver) (vs := []) dX12_restOf_10 rfl rfl cm_X12_isOver wh_22 wh_24 wh_25 rfl (Nat.le_of_ble_eq_true rfl) (Nat.le_of_ble_eq_true rfl) (Nat.le_of_ble_eq_true rfl) (Nat.le_of_ble_eq_true rfl) (s10247_X12_isOver J (d + 1)  ) ?_
  rintro _ _ ⟨rfl, rfl⟩
  dsimp only [Option.toList, List.cons_append, List.nil_append]
  refine G_if_ne (pc := 13) (tgt := 30) (by decide) dX12_restOf_13 (fun z => absurd (by decide) z) (fun _ => ?_)
  refine G_iload_n (pc := 16) rfl dX12_restOf_16 ?_
  refine G_aload_n (pc := 17) rfl dX12_restOf_17 ?_
  refine G_iconst (pc := 18) (v := (-1)) (by decide) dX12_restOf_18 ?_
  refine G_callV (pc := 19) (mc1 := 0) (ms1 := 0) (ci := 12) (mj := mX12_goesBy) (vs := [_]) dX12_restOf_19 rfl rfl cm_X12_goesBy wh_72 wh_74 wh_75 rfl (Nat.le_of_ble_eq_true rfl) (Nat.le_of_ble_eq_true rfl) (Nat.le_of_ble_eq_true rfl) (Nat.le_of_ble_eq_true rfl) (s10248_X12_goesBy J d  ) ?_
  rintro _ _ ⟨rfl, rfl⟩
  dsimp only [Option.toList, List.cons_append, List.nil_append]
  refine G_iadd (pc := 22) (z := 0) (by decide) dX12_restOf_22 ?_
  refine G_istore_n (pc := 23) (L1 := [some (.ref 67), some (.int 7), some (.int 0), some (.int 1)]) rfl rfl (by decide) dX12_restOf_23 ?_
  refine G_iinc (pc := 24) (v := 1) (w := 2) (L1 := [some (.ref 67), some (.int 7), some (.int 0), some (.int 2)]) (by decide) rfl rfl (by decide) rfl (by decide) dX12_restOf_24 ?_
  refine G_goto (pc := 27) (tgt := 4) (by decide) dX12_restOf_27 ?_
  refine G_iload_n (pc := 4) rfl dX12_restOf_4 ?_
  refine G_iload_n (pc := 5) rfl dX12_restOf_5 ?_
  refine G_icmp_ge (pc := 6) (tgt := 30) (by decide) dX12_restOf_6 (fun z => absurd z (by decide)) (fun _ => ?_)
  refine G_aload_n (pc := 9) rfl dX12_restOf_9 ?_
  refine G_callV (pc := 10) (mc1 := 0) (ms1 := 0) (ci := 12) (mj := mX12_isOver) (vs := []) dX12_restOf_10 rfl rfl cm_X12_isOver wh_22 wh_24 wh_25 rfl (Nat.le_of_ble_eq_true rfl) (Nat.le_of_ble_eq_true rfl) (Nat.le_of_ble_eq_true rfl) (Nat.le_of_ble_eq_true rfl) (s10250_X12_isOver J (d + 1)  ) ?_
  rintro _ _ ⟨rfl, rfl⟩
  dsimp only [Option.toList, List.cons_append, List.nil_append]
  refine G_if_ne (pc := 13) (tgt := 30) (by decide) dX12_restOf_13 (fun z => absurd (by decide) z) (fun _ => ?_)
  refine G_iload_n (pc := 16) rfl dX12_restOf_16 ?_
  refine G_aload_n (pc := 17) rfl dX12_restOf_17 ?_
  refine G_iconst (pc := 18) (v := (-1)) (by decide) dX12_restOf_18 ?_
  refine G_callV (pc := 19) (mc1 := 0) (ms1 := 0) (ci := 12) (mj := mX12_goesBy) (vs := [_]) dX12_restOf_19 rfl rfl cm_X12_goesBy wh_72 wh_74 wh_75 rfl (Nat.le_of_ble_eq_true rfl) (Nat.le_of_ble_eq_true rfl) (Nat.le_of_ble_eq_true rfl) (Nat.le_of_ble_eq_true rfl) (s10251_X12_goesBy J d  ) ?_
  rintro _ _ ⟨rfl, rfl⟩
  dsimp only [Option.toList, List.cons_append, List.nil_append]
  refine G_iadd (pc := 22) (z := 0) (by decide) dX12_restOf_22 ?_
  refine G_istore_n (pc := 23) (L1 := [some (.ref 67), some (.int 7), some (.int 0), some (.int 2)]) rfl rfl (by decide) dX12_restOf_23 ?_
  refine G_iinc (pc := 24) (v := 1) (w := 3) (L1 := [some (.ref 67), some (.int 7), some (.int 0), some (.int 3)]) (by decide) rfl rfl (by decide) rfl (by decide) dX12_restOf_24 ?_
  refine G_goto (pc := 27) (tgt := 4) (by decide) dX12_restOf_27 ?_
  refine G_iload_n (pc := 4) rfl dX12_restOf_4 ?_
  refine G_iload_n (pc := 5) rfl dX12_restOf_5 ?_
  refine G_icmp_ge (pc := 6) (tgt := 30) (by decide) dX12_restOf_6 (fun z => absurd z (by decide)) (fun _ => ?_)
  refine G_aload_n (pc := 9) rfl dX12_restOf_9 ?_
  refine G_callV (pc := 10) (mc1 := 0) (ms1 := 0) (ci := 12) (mj := mX12_isOver) (vs := []) dX12_restOf_10 rfl rfl cm_X12_isOver wh_22 wh_24 wh_25 rfl (Nat.le_of_ble_eq_true rfl) (Nat.le_of_ble_eq_true rfl) (Nat.le_of_ble_eq_true rfl) (Nat.le_of_ble_eq_true rfl) (s10253_X12_isOver J (d + 1)  ) ?_
  rintro _ _ ⟨rfl, rfl⟩
  dsimp only [Option.toList, List.cons_append, List.nil_append]
  refine G_if_ne (pc := 13) (tgt := 30) (by decide) dX12_restOf_13 (fun z => absurd (by decide) z) (fun _ => ?_)
  refine G_iload_n (pc := 16) rfl dX12_restOf_16 ?_
  refine G_aload_n (pc := 17) rfl dX12_restOf_17 ?_
  refine G_iconst (pc := 18) (v := (-1)) (by decide) dX12_restOf_18 ?_
  refine G_callV (pc := 19) (mc1 := 0) (ms1 := 0) (ci := 12) (mj := mX12_goesBy) (vs := [_]) dX12_restOf_19 rfl rfl cm_X12_goesBy wh_72 wh_74 wh_75 rfl (Nat.le_of_ble_eq_true rfl) (Nat.le_of_ble_eq_true rfl) (Nat.le_of_ble_eq_true rfl) (Nat.le_of_ble_eq_true rfl) (s10254_X12_goesBy J d  ) ?_
  rintro _ _ ⟨rfl, rfl⟩
  dsimp only [Option.toList, List.cons_append, List.nil_append]
  refine G_iadd (pc := 22) (z := 0) (by decide) dX12_restOf_22 ?_
  refine G_istore_n (pc := 23) (L1 := [some (.ref 67), some (.int 7), some (.int 0), some (.int 3)]) rfl rfl (by decide) dX12_restOf_23 ?_
  refine G_iinc (pc := 24) (v := 1) (w := 4) (L1 := [some (.ref 67), some (.int 7), some (.int 0), some (.int 4)]) (by decide) rfl rfl (by decide) rfl (by decide) dX12_restOf_24 ?_
  refine G_goto (pc := 27) (tgt := 4) (by decide) dX12_restOf_27 ?_
  refine G_iload_n (pc := 4) rfl dX12_restOf_4 ?_
  refine G_iload_n (pc := 5) rfl dX12_restOf_5 ?_
  refine G_icmp_ge (pc := 6) (tgt := 30) (by decide) dX12_restOf_6 (fun z => absurd z (by decide)) (fun _ => ?_)
  refine G_aload_n (pc := 9) rfl dX12_restOf_9 ?_
  refine G_callV (pc := 10) (mc1 := 0) (ms1 := 0) (ci := 12) (mj := mX12_isOver) (vs := []) dX12_restOf_10 rfl rfl cm_X12_isOver wh_22 wh_24 wh_25 rfl (Nat.le_of_ble_eq_true rfl) (Nat.le_of_ble_eq_true rfl) (Nat.le_of_ble_eq_true rfl) (Nat.le_of_ble_eq_true rfl) (s10256_X12_isOver J (d + 1)  ) ?_
  rintro _ _ ⟨rfl, rfl⟩
  dsimp only [Option.toList, List.cons_append, List.nil_append]
  refine G_if_ne (pc := 13) (tgt := 30) (by decide) dX12_restOf_13 (fun z => absurd (by decide) z) (fun _ => ?_)
  refine G_iload_n (pc := 16) rfl dX12_restOf_16 ?_
  refine G_aload_n (pc := 17) rfl dX12_restOf_17 ?_
  refine G_iconst (pc := 18) (v := (-1)) (by decide) dX12_restOf_18 ?_
  refine G_callV (pc := 19) (mc1 := 0) (ms1 := 0) (ci := 12) (mj := mX12_goesBy) (vs := [_]) dX12_restOf_19 rfl rfl cm_X12_goesBy wh_72 wh_74 wh_75 rfl (Nat.le_of_ble_eq_true rfl) (Nat.le_of_ble_eq_true rfl) (Nat.le_of_ble_eq_true rfl) (Nat.le_of_ble_eq_true rfl) (s10257_X12_goesBy J d  ) ?_
  rintro _ _ ⟨rfl, rfl⟩
  dsimp only [Option.toList, List.cons_append, List.nil_append]
  refine G_iadd (pc := 22) (z := 0) (by decide) dX12_restOf_22 ?_
  refine G_istore_n (pc := 23) (L1 := [some (.ref 67), some (.int 7), some (.int 0), some (.int 4)]) rfl rfl (by decide) dX12_restOf_23 ?_
  refine G_iinc (pc := 24) (v := 1) (w := 5) (L1 := [some (.ref 67), some (.int 7), some (.int 0), some (.int 5)]) (by decide) rfl rfl (by decide) rfl (by decide) dX12_restOf_24 ?_
  refine G_goto (pc := 27) (tgt := 4) (by decide) dX12_restOf_27 ?_
  refine G_iload_n (pc := 4) rfl dX12_restOf_4 ?_
  refine G_iload_n (pc := 5) rfl dX12_restOf_5 ?_
  refine G_icmp_ge (pc := 6) (tgt := 30) (by decide) dX12_restOf_6 (fun z => absurd z (by decide)) (fun _ => ?_)
  refine G_aload_n (pc := 9) rfl dX12_restOf_9 ?_
  refine G_callV (pc := 10) (mc1 := 0) (ms1 := 0) (ci := 12) (mj := mX12_isOver) (vs := []) dX12_restOf_10 rfl rfl cm_X12_isOver wh_22 wh_24 wh_25 rfl (Nat.le_of_ble_eq_true rfl) (Nat.le_of_ble_eq_true rfl) (Nat.le_of_ble_eq_true rfl) (Nat.le_of_ble_eq_true rfl) (s10259_X12_isOver J (d + 1)  ) ?_
  rintro _ _ ⟨rfl, rfl⟩
  dsimp only [Option.toList, List.cons_append, List.nil_append]
  refine G_if_ne (pc := 13) (tgt := 30) (by decide) dX12_restOf_13 (fun z => absurd (by decide) z) (fun _ => ?_)
  refine G_iload_n (pc := 16) rfl dX12_restOf_16 ?_
  refine G_aload_n (pc := 17) rfl dX12_restOf_17 ?_
  refine G_iconst (pc := 18) (v := (-1)) (by decide) dX12_restOf_18 ?_
  refine G_callV (pc := 19) (mc1 := 0) (ms1 := 0) (ci := 12) (mj := mX12_goesBy) (vs := [_]) dX12_restOf_19 rfl rfl cm_X12_goesBy wh_72 wh_74 wh_75 rfl (Nat.le_of_ble_eq_true rfl) (Nat.le_of_ble_eq_true rfl) (Nat.le_of_ble_eq_true rfl) (Nat.le_of_ble_eq_true rfl) (s10260_X12_goesBy J d  ) ?_
  rintro _ _ ⟨rfl, rfl⟩
  dsimp only [Option.toList, List.cons_append, List.nil_append]
  refine G_iadd (pc := 22) (z := 0) (by decide) dX12_restOf_22 ?_
  refine G_istore_n (pc := 23) (L1 := [some (.ref 67), some (.int 7), some (.int 0), some (.int 5)]) rfl rfl (by decide) dX12_restOf_23 ?_
  refine G_iinc (pc := 24) (v := 1) (w := 6) (L1 := [some (.ref 67), some (.int 7), some (.int 0), some (.int 6)]) (by decide) rfl rfl (by decide) rfl (by decide) dX12_restOf_24 ?_
  refine G_goto (pc := 27) (tgt := 4) (by decide) dX12_restOf_27 ?_
  refine G_iload_n (pc := 4) rfl dX12_restOf_4 ?_
  refine G_iload_n (pc := 5) rfl dX12_restOf_5 ?_
  refine G_icmp_ge (pc := 6) (tgt := 30) (by decide) dX12_restOf_6 (fun z => absurd z (by decide)) (fun _ => ?_)
  refine G_aload_n (pc := 9) rfl dX12_restOf_9 ?_
  refine G_callV (pc := 10) (mc1 := 0) (ms1 := 0) (ci := 12) (mj := mX12_isOver) (vs := []) dX12_restOf_10 rfl rfl cm_X12_isOver wh_22 wh_24 wh_25 rfl (Nat.le_of_ble_eq_true rfl) (Nat.le_of_ble_eq_true rfl) (Nat.le_of_ble_eq_true rfl) (Nat.le_of_ble_eq_true rfl) (s10262_X12_isOver J (d + 1)  ) ?_
  rintro _ _ ⟨rfl, rfl⟩
  dsimp only [Option.toList, List.cons_append, List.nil_append]
  refine G_if_ne (pc := 13) (tgt := 30) (by decide) dX12_restOf_13 (fun z => absurd (by decide) z) (fun _ => ?_)
  refine G_iload_n (pc := 16) rfl dX12_restOf_16 ?_
  refine G_aload_n (pc := 17) rfl dX12_restOf_17 ?_
  refine G_iconst (pc := 18) (v := (-1)) (by decide) dX12_restOf_18 ?_
  refine G_callV (pc := 19) (mc1 := 0) (ms1 := 0) (ci := 12) (mj := mX12_goesBy) (vs := [_]) dX12_restOf_19 rfl rfl cm_X12_goesBy wh_72 wh_74 wh_75 rfl (Nat.le_of_ble_eq_true rfl) (Nat.le_of_ble_eq_true rfl) (Nat.le_of_ble_eq_true rfl) (Nat.le_of_ble_eq_true rfl) (s10263_X12_goesBy J d  ) ?_
  rintro _ _ ⟨rfl, rfl⟩
  dsimp only [Option.toList, List.cons_append, List.nil_append]
  refine G_iadd (pc := 22) (z := 0) (by decide) dX12_restOf_22 ?_
  refine G_istore_n (pc := 23) (L1 := [some (.ref 67), some (.int 7), some (.int 0), some (.int 6)]) rfl rfl (by decide) dX12_restOf_23 ?_
  refine G_iinc (pc := 24) (v := 1) (w := 7) (L1 := [some (.ref 67), some (.int 7), some (.int 0), some (.int 7)]) (by decide) rfl rfl (by decide) rfl (by decide) dX12_restOf_24 ?_
  refine G_goto (pc := 27) (tgt := 4) (by decide) dX12_restOf_27 ?_
  refine G_iload_n (pc := 4) rfl dX12_restOf_4 ?_
  refine G_iload_n (pc := 5) rfl dX12_restOf_5 ?_
  refine G_icmp_ge (pc := 6) (tgt := 30) (by decide) dX12_restOf_6 (fun _ => ?_) (fun z => absurd (by decide) z)
  refine G_iload_n (pc := 30) rfl dX12_restOf_30 ?_
  exact G_iret (pc := 31) (Nat.le_of_ble_eq_true rfl) (Nat.le_of_ble_eq_true rfl) rfl dX12_restOf_31 ⟨rfl, rfl⟩
set_option maxRecDepth 100000 in
set_option maxHeartbeats 4000000 in
theorem s10289_X12_restOf (J : gI) (d : Nat)   : G (d + 2) mX12_restOf 0 0 0 0 0 (gent 4 [.ref 67, .int 8]) [] SH0 RF0 (gcp (gmx J) 68 70 0 0 65) (fun r h => r = some (.int 0) ∧ h = (SH0, RF0, (gup (gup (gup (gup (gup (gup (gup (gup (gup (gup (gup (gup (gup (gup (gup (gup (gcp (gmx J) 68 70 0 0 65) 68 0 1) 68 2 0) 68 0 2) 68 2 0) 68 0 3) 68 2 0) 68 0 4) 68 2 0) 68 0 5) 68 2 0) 68 0 6) 68 2 0) 68 0 7) 68 2 0) 68 0 8) 68 2 0))) := by
  refine G_iconst (pc := 0) (v := 0) (by decide) dX12_restOf_0 ?_
  refine G_istore_n (pc := 1) (L1 := [some (.ref 67), some (.int 8), some (.int 0), none]) rfl rfl (by decide) dX12_restOf_1 ?_
  refine G_iconst (pc := 2) (v := 0) (by decide) dX12_restOf_2 ?_
  refine G_istore_n (pc := 3) (L1 := [some (.ref 67), some (.int 8), some (.int 0), some (.int 0)]) rfl rfl (by decide) dX12_restOf_3 ?_
  refine G_iload_n (pc := 4) rfl dX12_restOf_4 ?_
  refine G_iload_n (pc := 5) rfl dX12_restOf_5 ?_
  refine G_icmp_ge (pc := 6) (tgt := 30) (by decide) dX12_restOf_6 (fun z => absurd z (by decide)) (fun _ => ?_)
  refine G_aload_n (pc := 9) rfl dX12_restOf_9 ?_
  refine G_callV (pc := 10) (mc1 := 0) (ms1 := 0) (ci := 12) (mj := mX12_isOver) (vs := []) dX12_restOf_10 rfl rfl cm_X12_isOver wh_22 wh_24 wh_25 rfl (Nat.le_of_ble_eq_true rfl) (Nat.le_of_ble_eq_true rfl) (Nat.le_of_ble_eq_true rfl) (Nat.le_of_ble_eq_true rfl) (s10244_X12_isOver J (d + 1)  ) ?_
  rintro _ _ ⟨rfl, rfl⟩
  dsimp only [Option.toList, List.cons_append, List.nil_append]
  refine G_if_ne (pc := 13) (tgt := 30) (by decide) dX12_restOf_13 (fun z => absurd (by decide) z) (fun _ => ?_)
  refine G_iload_n (pc := 16) rfl dX12_restOf_16 ?_
  refine G_aload_n (pc := 17) rfl dX12_restOf_17 ?_
  refine G_iconst (pc := 18) (v := (-1)) (by decide) dX12_restOf_18 ?_
  refine G_callV (pc := 19) (mc1 := 0) (ms1 := 0) (ci := 12) (mj := mX12_goesBy) (vs := [_]) dX12_restOf_19 rfl rfl cm_X12_goesBy wh_72 wh_74 wh_75 rfl (Nat.le_of_ble_eq_true rfl) (Nat.le_of_ble_eq_true rfl) (Nat.le_of_ble_eq_true rfl) (Nat.le_of_ble_eq_true rfl) (s10245_X12_goesBy J d  ) ?_
  rintro _ _ ⟨rfl, rfl⟩
  dsimp only [Option.toList, List.cons_append, List.nil_append]
  refine G_iadd (pc := 22) (z := 0) (by decide) dX12_restOf_22 ?_
  refine G_istore_n (pc := 23) (L1 := [some (.ref 67), some (.int 8), some (.int 0), some (.int 0)]) rfl rfl (by decide) dX12_restOf_23 ?_
  refine G_iinc (pc := 24) (v := 1) (w := 1) (L1 := [some (.ref 67), some (.int 8), some (.int 0), some (.int 1)]) (by decide) rfl rfl (by decide) rfl (by decide) dX12_restOf_24 ?_
  refine G_goto (pc := 27) (tgt := 4) (by decide) dX12_restOf_27 ?_
  refine G_iload_n (pc := 4) rfl dX12_restOf_4 ?_
  refine G_iload_n (pc := 5) rfl dX12_restOf_5 ?_
  refine G_icmp_ge (pc := 6) (tgt := 30) (by decide) dX12_restOf_6 (fun z => absurd z (by decide)) (fun _ => ?_)
  refine G_aload_n (pc := 9) rfl dX12_restOf_9 ?_
  refine G_callV (pc := 10) (mc1 := 0) (ms1 := 0) (ci := 12) (mj := mX12_isOver) (vs := []) dX12_restOf_10 rfl rfl cm_X12_isOver wh_22 wh_24 wh_25 rfl (Nat.le_of_ble_eq_true rfl) (Nat.le_of_ble_eq_true rfl) (Nat.le_of_ble_eq_true rfl) (Nat.le_of_ble_eq_true rfl) (s10247_X12_isOver J (d + 1)  ) ?_
  rintro _ _ ⟨rfl, rfl⟩
  dsimp only [Option.toList, List.cons_append, List.nil_append]
  refine G_if_ne (pc := 13) (tgt := 30) (by decide) dX12_restOf_13 (fun z => absurd (by decide) z) (fun _ => ?_)
  refine G_iload_n (pc := 16) rfl dX12_restOf_16 ?_
  refine G_aload_n (pc := 17) rfl dX12_restOf_17 ?_
  refine G_iconst (pc := 18) (v := (-1)) (by decide) dX12_restOf_18 ?_
  refine G_callV (pc := 19) (mc1 := 0) (ms1 := 0) (ci := 12) (mj := mX12_goesBy) (vs := [_]) dX12_restOf_19 rfl rfl cm_X12_goesBy wh_72 wh_74 wh_75 rfl (Nat.le_of_ble_eq_true rfl) (Nat.le_of_ble_eq_true rfl) (Nat.le_of_ble_eq_true rfl) (Nat.le_of_ble_eq_true rfl) (s10248_X12_goesBy J d  ) ?_
  rintro _ _ ⟨rfl, rfl⟩
  dsimp only [Option.toList, List.cons_append, List.nil_append]
  refine G_iadd (pc := 22) (z := 0) (by decide) dX12_restOf_22 ?_
  refine G_istore_n (pc := 23) (L1 := [some (.ref 67), some (.int 8), some (.int 0), some (.int 1)]) rfl rfl (by decide) dX12_restOf_23 ?_
  refine G_iinc (pc := 24) (v := 1) (w := 2) (L1 := [some (.ref 67), some (.int 8), some (.int 0), some (.int 2)]) (by decide) rfl rfl (by decide) rfl (by decide) dX12_restOf_24 ?_
  refine G_goto (pc := 27) (tgt := 4) (by decide) dX12_restOf_27 ?_
  refine G_iload_n (pc := 4) rfl dX12_restOf_4 ?_
  refine G_iload_n (pc := 5) rfl dX12_restOf_5 ?_
  refine G_icmp_ge (pc := 6) (tgt := 30) (by decide) dX12_restOf_6 (fun z => absurd z (by decide)) (fun _ => ?_)
  refine G_aload_n (pc := 9) rfl dX12_restOf_9 ?_
  refine G_callV (pc := 10) (mc1 := 0) (ms1 := 0) (ci := 12) (mj := mX12_isOver) (vs := []) dX12_restOf_10 rfl rfl cm_X12_isOver wh_22 wh_24 wh_25 rfl (Nat.le_of_ble_eq_true rfl) (Nat.le_of_ble_eq_true rfl) (Nat.le_of_ble_eq_true rfl) (Nat.le_of_ble_eq_true rfl) (s10250_X12_isOver J (d + 1)  ) ?_
  rintro _ _ ⟨rfl, rfl⟩
  dsimp only [Option.toList, List.cons_append, List.nil_append]
  refine G_if_ne (pc := 13) (tgt := 30) (by decide) dX12_restOf_13 (fun z => absurd (by decide) z) (fun _ => ?_)
  refine G_iload_n (pc := 16) rfl dX12_restOf_16 ?_
  refine G_aload_n (pc := 17) rfl dX12_restOf_17 ?_
  refine G_iconst (pc := 18) (v := (-1)) (by decide) dX12_restOf_18 ?_
  refine G_callV (pc := 19) (mc1 := 0) (ms1 := 0) (ci := 12) (mj := mX12_goesBy) (vs := [_]) dX12_restOf_19 rfl rfl cm_X12_goesBy wh_72 wh_74 wh_75 rfl (Nat.le_of_ble_eq_true rfl) (Nat.le_of_ble_eq_true rfl) (Nat.le_of_ble_eq_true rfl) (Nat.le_of_ble_eq_true rfl) (s10251_X12_goesBy J d  ) ?_
  rintro _ _ ⟨rfl, rfl⟩
  dsimp only [Option.toList, List.cons_append, List.nil_append]
  refine G_iadd (pc := 22) (z := 0) (by decide) dX12_restOf_22 ?_
  refine G_istore_n (pc := 23) (L1 := [some (.ref 67), some (.int 8), some (.int 0), some (.int 2)]) rfl rfl (by decide) dX12_restOf_23 ?_
  refine G_iinc (pc := 24) (v := 1) (w := 3) (L1 := [some (.ref 67), some (.int 8), some (.int 0), some (.int 3)]) (by decide) rfl rfl (by decide) rfl (by decide) dX12_restOf_24 ?_
  refine G_goto (pc := 27) (tgt := 4) (by decide) dX12_restOf_27 ?_
  refine G_iload_n (pc := 4) rfl dX12_restOf_4 ?_
  refine G_iload_n (pc := 5) rfl dX12_restOf_5 ?_
  refine G_icmp_ge (pc := 6) (tgt := 30) (by decide) dX12_restOf_6 (fun z => absurd z (by decide)) (fun _ => ?_)
  refine G_aload_n (pc := 9) rfl dX12_restOf_9 ?_
  refine G_callV (pc := 10) (mc1 := 0) (ms1 := 0) (ci := 12) (mj := mX12_isOver) (vs := []) dX12_restOf_10 rfl rfl cm_X12_isOver wh_22 wh_24 wh_25 rfl (Nat.le_of_ble_eq_true rfl) (Nat.le_of_ble_eq_true rfl) (Nat.le_of_ble_eq_true rfl) (Nat.le_of_ble_eq_true rfl) (s10253_X12_isOver J (d + 1)  ) ?_
  rintro _ _ ⟨rfl, rfl⟩
  dsimp only [Option.toList, List.cons_append, List.nil_append]
  refine G_if_ne (pc := 13) (tgt := 30) (by decide) dX12_restOf_13 (fun z => absurd (by decide) z) (fun _ => ?_)
  refine G_iload_n (pc := 16) rfl dX12_restOf_16 ?_
  refine G_aload_n (pc := 17) rfl dX12_restOf_17 ?_
  refine G_iconst (pc := 18) (v := (-1)) (by decide) dX12_restOf_18 ?_
  refine G_callV (pc := 19) (mc1 := 0) (ms1 := 0) (ci := 12) (mj := mX12_goesBy) (vs := [_]) dX12_restOf_19 rfl rfl cm_X12_goesBy wh_72 wh_74 wh_75 rfl (Nat.le_of_ble_eq_true rfl) (Nat.le_of_ble_eq_true rfl) (Nat.le_of_ble_eq_true rfl) (Nat.le_of_ble_eq_true rfl) (s10254_X12_goesBy J d  ) ?_
  rintro _ _ ⟨rfl, rfl⟩
  dsimp only [Option.toList, List.cons_append, List.nil_append]
  refine G_iadd (pc := 22) (z := 0) (by decide) dX12_restOf_22 ?_
  refine G_istore_n (pc := 23) (L1 := [some (.ref 67), some (.int 8), some (.int 0), some (.int 3)]) rfl rfl (by decide) dX12_restOf_23 ?_
  refine G_iinc (pc := 24) (v := 1) (w := 4) (L1 := [some (.ref 67), some (.int 8), some (.int 0), some (.int 4)]) (by decide) rfl rfl (by decide) rfl (by decide) dX12_restOf_24 ?_
  refine G_goto (pc := 27) (tgt := 4) (by decide) dX12_restOf_27 ?_
  refine G_iload_n (pc := 4) rfl dX12_restOf_4 ?_
  refine G_iload_n (pc := 5) rfl dX12_restOf_5 ?_
  refine G_icmp_ge (pc := 6) (tgt := 30) (by decide) dX12_restOf_6 (fun z => absurd z (by decide)) (fun _ => ?_)
  refine G_aload_n (pc := 9) rfl dX12_restOf_9 ?_
  refine G_callV (pc := 10) (mc1 := 0) (ms1 := 0) (ci := 12) (mj := mX12_isOver) (vs := []) dX12_restOf_10 rfl rfl cm_X12_isOver wh_22 wh_24 wh_25 rfl (Nat.le_of_ble_eq_true rfl) (Nat.le_of_ble_eq_true rfl) (Nat.le_of_ble_eq_true rfl) (Nat.le_of_ble_eq_true rfl) (s10256_X12_isOver J (d + 1)  ) ?_
  rintro _ _ ⟨rfl, rfl⟩
  dsimp only [Option.toList, List.cons_append, List.nil_append]
  refine G_if_ne (pc := 13) (tgt := 30) (by decide) dX12_restOf_13 (fun z => absurd (by decide) z) (fun _ => ?_)
  refine G_iload_n (pc := 16) rfl dX12_restOf_16 ?_
  refine G_aload_n (pc := 17) rfl dX12_restOf_17 ?_
  refine G_iconst (pc := 18) (v := (-1)) (by decide) dX12_restOf_18 ?_
  refine G_callV (pc := 19) (mc1 := 0) (ms1 := 0) (ci := 12) (mj := mX12_goesBy) (vs := [_]) dX12_restOf_19 rfl rfl cm_X12_goesBy wh_72 wh_74 wh_75 rfl (Nat.le_of_ble_eq_true rfl) (Nat.le_of_ble_eq_true rfl) (Nat.le_of_ble_eq_true rfl) (Nat.le_of_ble_eq_true rfl) (s10257_X12_goesBy J d  ) ?_
  rintro _ _ ⟨rfl, rfl⟩
  dsimp only [Option.toList, List.cons_append, List.nil_append]
  refine G_iadd (pc := 22) (z := 0) (by decide) dX12_restOf_22 ?_
  refine G_istore_n (pc := 23) (L1 := [some (.ref 67), some (.int 8), some (.int 0), some (.int 4)]) rfl rfl (by decide) dX12_restOf_23 ?_
  refine G_iinc (pc := 24) (v := 1) (w := 5) (L1 := [some (.ref 67), some (.int 8), some (.int 0), some (.int 5)]) (by decide) rfl rfl (by decide) rfl (by decide) dX12_restOf_24 ?_
  refine G_goto (pc := 27) (tgt := 4) (by decide) dX12_restOf_27 ?_
  refine G_iload_n (pc := 4) rfl dX12_restOf_4 ?_
  refine G_iload_n (pc := 5) rfl dX12_restOf_5 ?_
  refine G_icmp_ge (pc := 6) (tgt := 30) (by decide) dX12_restOf_6 (fun z => absurd z (by decide)) (fun _ => ?_)
  refine G_aload_n (pc := 9) rfl dX12_restOf_9 ?_
  refine G_callV (pc := 10) (mc1 := 0) (ms1 := 0) (ci := 12) (mj := mX12_isOver) (vs := []) dX12_restOf_10 rfl rfl cm_X12_isOver wh_22 wh_24 wh_25 rfl (Nat.le_of_ble_eq_true rfl) (Nat.le_of_ble_eq_true rfl) (Nat.le_of_ble_eq_true rfl) (Nat.le_of_ble_eq_true rfl) (s10259_X12_isOver J (d + 1)  ) ?_
  rintro _ _ ⟨rfl, rfl⟩
  dsimp only [Option.toList, List.cons_append, List.nil_append]
  refine G_if_ne (pc := 13) (tgt := 30) (by decide) dX12_restOf_13 (fun z => absurd (by decide) z) (fun _ => ?_)
  refine G_iload_n (pc := 16) rfl dX12_restOf_16 ?_
  refine G_aload_n (pc := 17) rfl dX12_restOf_17 ?_
  refine G_iconst (pc := 18) (v := (-1)) (by decide) dX12_restOf_18 ?_
  refine G_callV (pc := 19) (mc1 := 0) (ms1 := 0) (ci := 12) (mj := mX12_goesBy) (vs := [_]) dX12_restOf_19 rfl rfl cm_X12_goesBy wh_72 wh_74 wh_75 rfl (Nat.le_of_ble_eq_true rfl) (Nat.le_of_ble_eq_true rfl) (Nat.le_of_ble_eq_true rfl) (Nat.le_of_ble_eq_true rfl) (s10260_X12_goesBy J d  ) ?_
  rintro _ _ ⟨rfl, rfl⟩
  dsimp only [Option.toList, List.cons_append, List.nil_append]
  refine G_iadd (pc := 22) (z := 0) (by decide) dX12_restOf_22 ?_
  refine G_istore_n (pc := 23) (L1 := [some (.ref 67), some (.int 8), some (.int 0), some (.int 5)]) rfl rfl (by decide) dX12_restOf_23 ?_
  refine G_iinc (pc := 24) (v := 1) (w := 6) (L1 := [some (.ref 67), some (.int 8), some (.int 0), some (.int 6)]) (by decide) rfl rfl (by decide) rfl (by decide) dX12_restOf_24 ?_
  refine G_goto (pc := 27) (tgt := 4) (by decide) dX12_restOf_27 ?_
  refine G_iload_n (pc := 4) rfl dX12_restOf_4 ?_
  refine G_iload_n (pc := 5) rfl dX12_restOf_5 ?_
  refine G_icmp_ge (pc := 6) (tgt := 30) (by decide) dX12_restOf_6 (fun z => absurd z (by decide)) (fun _ => ?_)
  refine G_aload_n (pc := 9) rfl dX12_restOf_9 ?_
  refine G_callV (pc := 10) (mc1 := 0) (ms1 := 0) (ci := 12) (mj := mX12_isOver) (vs := []) dX12_restOf_10 rfl rfl cm_X12_isOver wh_22 wh_24 wh_25 rfl (Nat.le_of_ble_eq_true rfl) (Nat.le_of_ble_eq_true rfl) (Nat.le_of_ble_eq_true rfl) (Nat.le_of_ble_eq_true rfl) (s10262_X12_isOver J (d + 1)  ) ?_
  rintro _ _ ⟨rfl, rfl⟩
  dsimp only [Option.toList, List.cons_append, List.nil_append]
  refine G_if_ne (pc := 13) (tgt := 30) (by decide) dX12_restOf_13 (fun z => absurd (by decide) z) (fun _ => ?_)
  refine G_iload_n (pc := 16) rfl dX12_restOf_16 ?_
  refine G_aload_n (pc := 17) rfl dX12_restOf_17 ?_
  refine G_iconst (pc := 18) (v := (-1)) (by decide) dX12_restOf_18 ?_
  refine G_callV (pc := 19) (mc1 := 0) (ms1 := 0) (ci := 12) (mj := mX12_goesBy) (vs := [_]) dX12_restOf_19 rfl rfl cm_X12_goesBy wh_72 wh_74 wh_75 rfl (Nat.le_of_ble_eq_true rfl) (Nat.le_of_ble_eq_true rfl) (Nat.le_of_ble_eq_true rfl) (Nat.le_of_ble_eq_true rfl) (s10263_X12_goesBy J d  ) ?_
  rintro _ _ ⟨rfl, rfl⟩
  dsimp only [Option.toList, List.cons_append, List.nil_append]
  refine G_iadd (pc := 22) (z := 0) (by decide) dX12_restOf_22 ?_
  refine G_istore_n (pc := 23) (L1 := [some (.ref 67), some (.int 8), some (.int 0), some (.int 6)]) rfl rfl (by decide) dX12_restOf_23 ?_
  refine G_iinc (pc := 24) (v := 1) (w := 7) (L1 := [some (.ref 67), some (.int 8), some (.int 0), some (.int 7)]) (by decide) rfl rfl (by decide) rfl (by decide) dX12_restOf_24 ?_
  refine G_goto (pc := 27) (tgt := 4) (by decide) dX12_restOf_27 ?_
  refine G_iload_n (pc := 4) rfl dX12_restOf_4 ?_
  refine G_iload_n (pc := 5) rfl dX12_restOf_5 ?_
  refine G_icmp_ge (pc := 6) (tgt := 30) (by decide) dX12_restOf_6 (fun z => absurd z (by decide)) (fun _ => ?_)
  refine G_aload_n (pc := 9) rfl dX12_restOf_9 ?_
  refine G_callV (pc := 10) (mc1 := 0) (ms1 := 0) (ci := 12) (mj := mX12_isOver) (vs := []) dX12_restOf_10 rfl rfl cm_X12_isOver wh_22 wh_24 wh_25 rfl (Nat.le_of_ble_eq_true rfl) (Nat.le_of_ble_eq_true rfl) (Nat.le_of_ble_eq_true rfl) (Nat.le_of_ble_eq_true rfl) (s10265_X12_isOver J (d + 1)  ) ?_
  rintro _ _ ⟨rfl, rfl⟩
  dsimp only [Option.toList, List.cons_append, List.nil_append]
  refine G_if_ne (pc := 13) (tgt := 30) (by decide) dX12_restOf_13 (fun z => absurd (by decide) z) (fun _ => ?_)
  refine G_iload_n (pc := 16) rfl dX12_restOf_16 ?_
  refine G_aload_n (pc := 17) rfl dX12_restOf_17 ?_
  refine G_iconst (pc := 18) (v := (-1)) (by decide) dX12_restOf_18 ?_
  refine G_callV (pc := 19) (mc1 := 0) (ms1 := 0) (ci := 12) (mj := mX12_goesBy) (vs := [_]) dX12_restOf_19 rfl rfl cm_X12_goesBy wh_72 wh_74 wh_75 rfl (Nat.le_of_ble_eq_true rfl) (Nat.le_of_ble_eq_true rfl) (Nat.le_of_ble_eq_true rfl) (Nat.le_of_ble_eq_true rfl) (s10266_X12_goesBy J d  ) ?_
  rintro _ _ ⟨rfl, rfl⟩
  dsimp only [Option.toList, List.cons_append, List.nil_append]
  refine G_iadd (pc := 22) (z := 0) (by decide) dX12_restOf_22 ?_
  refine G_istore_n (pc := 23) (L1 := [some (.ref 67), some (.int 8), some (.int 0), some (.int 7)]) rfl rfl (by decide) dX12_restOf_23 ?_
  refine G_iinc (pc := 24) (v := 1) (w := 8) (L1 := [some (.ref 67), some (.int 8), some (.int 0), some (.int 8)]) (by decide) rfl rfl (by decide) rfl (by decide) dX12_restOf_24 ?_
  refine G_goto (pc := 27) (tgt := 4) (by decide) dX12_restOf_27 ?_
  refine G_iload_n (pc := 4) rfl dX12_restOf_4 ?_
  refine G_iload_n (pc := 5) rfl dX12_restOf_5 ?_
  refine G_icmp_ge (pc := 6) (tgt := 30) (by decide) dX12_restOf_6 (fun _ => ?_) (fun z => absurd (by decide) z)
  refine G_iload_n (pc := 30) rfl dX12_restOf_30 ?_
  exact G_iret (pc := 31) (Nat.le_of_ble_eq_true rfl) (Nat.le_of_ble_eq_true rfl) rfl dX12_restOf_31 ⟨rfl, rfl⟩
set_option maxRecDepth 100000 in
set_option maxHeartbeats 4000000 in
theorem s10290_X12_restOf (J : gI) (d : Nat)   : G (d + 2) mX12_restOf 0 0 0 0 0 (gent 4 [.ref 67, .int 9]) [] SH0 RF0 (gcp (gmx J) 68 70 0 0 65) (fun r h => r = some (.int 0) ∧ h = (SH0, RF0, (gup (gup (gup (gup (gup (gup (gup (gup (gup (gup (gup (gup (gup (gup (gup (gup (gup (gup (gcp (gmx J) 68 70 0 0 65) 68 0 1) 68 2 0) 68 0 2) 68 2 0) 68 0 3) 68 2 0) 68 0 4) 68 2 0) 68 0 5) 68 2 0) 68 0 6) 68 2 0) 68 0 7) 68 2 0) 68 0 8) 68 2 0) 68 0 9) 68 2 0))) := by
  refine G_iconst (pc := 0) (v := 0) (by decide) dX12_restOf_0 ?_
  refine G_istore_n (pc := 1) (L1 := [some (.ref 67), some (.int 9), some (.int 0), none]) rfl rfl (by decide) dX12_restOf_1 ?_
  refine G_iconst (pc := 2) (v := 0) (by decide) dX12_restOf_2 ?_
  refine G_istore_n (pc := 3) (L1 := [some (.ref 67), some (.int 9), some (.int 0), some (.int 0)]) rfl rfl (by decide) dX12_restOf_3 ?_
  refine G_iload_n (pc := 4) rfl dX12_restOf_4 ?_
  refine G_iload_n (pc := 5) rfl dX12_restOf_5 ?_
  refine G_icmp_ge (pc := 6) (tgt := 30) (by decide) dX12_restOf_6 (fun z => absurd z (by decide)) (fun _ => ?_)
  refine G_aload_n (pc := 9) rfl dX12_restOf_9 ?_
  refine G_callV (pc := 10) (mc1 := 0) (ms1 := 0) (ci := 12) (mj := mX12_isOver) (vs := []) dX12_restOf_10 rfl rfl cm_X12_isOver wh_22 wh_24 wh_25 rfl (Nat.le_of_ble_eq_true rfl) (Nat.le_of_ble_eq_true rfl) (Nat.le_of_ble_eq_true rfl) (Nat.le_of_ble_eq_true rfl) (s10244_X12_isOver J (d + 1)  ) ?_
  rintro _ _ ⟨rfl, rfl⟩
  dsimp only [Option.toList, List.cons_append, List.nil_append]
  refine G_if_ne (pc := 13) (tgt := 30) (by decide) dX12_restOf_13 (fun z => absurd (by decide) z) (fun _ => ?_)
  refine G_iload_n (pc := 16) rfl dX12_restOf_16 ?_
  refine G_aload_n (pc := 17) rfl dX12_restOf_17 ?_
  refine G_iconst (pc := 18) (v := (-1)) (by decide) dX12_restOf_18 ?_
  refine G_callV (pc := 19) (mc1 := 0) (ms1 := 0) (ci := 12) (mj := mX12_goesBy) (vs := [_]) dX12_restOf_19 rfl rfl cm_X12_goesBy wh_72 wh_74 wh_75 rfl (Nat.le_of_ble_eq_true rfl) (Nat.le_of_ble_eq_true rfl) (Nat.le_of_ble_eq_true rfl) (Nat.le_of_ble_eq_true rfl) (s10245_X12_goesBy J d  ) ?_
  rintro _ _ ⟨rfl, rfl⟩
  dsimp only [Option.toList, List.cons_append, List.nil_append]
  refine G_iadd (pc := 22) (z := 0) (by decide) dX12_restOf_22 ?_
  refine G_istore_n (pc := 23) (L1 := [some (.ref 67), some (.int 9), some (.int 0), some (.int 0)]) rfl rfl (by decide) dX12_restOf_23 ?_
  refine G_iinc (pc := 24) (v := 1) (w := 1) (L1 := [some (.ref 67), some (.int 9), some (.int 0), some (.int 1)]) (by decide) rfl rfl (by decide) rfl (by decide) dX12_restOf_24 ?_
  refine G_goto (pc := 27) (tgt := 4) (by decide) dX12_restOf_27 ?_
  refine G_iload_n (pc := 4) rfl dX12_restOf_4 ?_
  refine G_iload_n (pc := 5) rfl dX12_restOf_5 ?_
  refine G_icmp_ge (pc := 6) (tgt := 30) (by decide) dX12_restOf_6 (fun z => absurd z (by decide)) (fun _ => ?_)
  refine G_aload_n (pc := 9) rfl dX12_restOf_9 ?_
  refine G_callV (pc := 10) (mc1 := 0) (ms1 := 0) (ci := 12) (mj := mX12_isOver) (vs := []) dX12_restOf_10 rfl rfl cm_X12_isOver wh_22 wh_24 wh_25 rfl (Nat.le_of_ble_eq_true rfl) (Nat.le_of_ble_eq_true rfl) (Nat.le_of_ble_eq_true rfl) (Nat.le_of_ble_eq_true rfl) (s10247_X12_isOver J (d + 1)  ) ?_
  rintro _ _ ⟨rfl, rfl⟩
  dsimp only [Option.toList, List.cons_append, List.nil_append]
  refine G_if_ne (pc := 13) (tgt := 30) (by decide) dX12_restOf_13 (fun z => absurd (by decide) z) (fun _ => ?_)
  refine G_iload_n (pc := 16) rfl dX12_restOf_16 ?_
  refine G_aload_n (pc := 17) rfl dX12_restOf_17 ?_
  refine G_iconst (pc := 18) (v := (-1)) (by decide) dX12_restOf_18 ?_
  refine G_callV (pc := 19) (mc1 := 0) (ms1 := 0) (ci := 12) (mj := mX12_goesBy) (vs := [_]) dX12_restOf_19 rfl rfl cm_X12_goesBy wh_72 wh_74 wh_75 rfl (Nat.le_of_ble_eq_true rfl) (Nat.le_of_ble_eq_true rfl) (Nat.le_of_ble_eq_true rfl) (Nat.le_of_ble_eq_true rfl) (s10248_X12_goesBy J d  ) ?_
  rintro _ _ ⟨rfl, rfl⟩
  dsimp only [Option.toList, List.cons_append, List.nil_append]
  refine G_iadd (pc := 22) (z := 0) (by decide) dX12_restOf_22 ?_
  refine G_istore_n (pc := 23) (L1 := [some (.ref 67), some (.int 9), some (.int 0), some (.int 1)]) rfl rfl (by decide) dX12_restOf_23 ?_
  refine G_iinc (pc := 24) (v := 1) (w := 2) (L1 := [some (.ref 67), some (.int 9), some (.int 0), some (.int 2)]) (by decide) rfl rfl (by decide) rfl (by decide) dX12_restOf_24 ?_
  refine G_goto (pc := 27) (tgt := 4) (by decide) dX12_restOf_27 ?_
  refine G_iload_n (pc := 4) rfl dX12_restOf_4 ?_
  refine G_iload_n (pc := 5) rfl dX12_restOf_5 ?_
  refine G_icmp_ge (pc := 6) (tgt := 30) (by decide) dX12_restOf_6 (fun z => absurd z (by decide)) (fun _ => ?_)
  refine G_aload_n (pc := 9) rfl dX12_restOf_9 ?_
  refine G_callV (pc := 10) (mc1 := 0) (ms1 := 0) (ci := 12) (mj := mX12_isOver) (vs := []) dX12_restOf_10 rfl rfl cm_X12_isOver wh_22 wh_24 wh_25 rfl (Nat.le_of_ble_eq_true rfl) (Nat.le_of_ble_eq_true rfl) (Nat.le_of_ble_eq_true rfl) (Nat.le_of_ble_eq_true rfl) (s10250_X12_isOver J (d + 1)  ) ?_
  rintro _ _ ⟨rfl, rfl⟩
  dsimp only [Option.toList, List.cons_append, List.nil_append]
  refine G_if_ne (pc := 13) (tgt := 30) (by decide) dX12_restOf_13 (fun z => absurd (by decide) z) (fun _ => ?_)
  refine G_iload_n (pc := 16) rfl dX12_restOf_16 ?_
  refine G_aload_n (pc := 17) rfl dX12_restOf_17 ?_
  refine G_iconst (pc := 18) (v := (-1)) (by decide) dX12_restOf_18 ?_
  refine G_callV (pc := 19) (mc1 := 0) (ms1 := 0) (ci := 12) (mj := mX12_goesBy) (vs := [_]) dX12_restOf_19 rfl rfl cm_X12_goesBy wh_72 wh_74 wh_75 rfl (Nat.le_of_ble_eq_true rfl) (Nat.le_of_ble_eq_true rfl) (Nat.le_of_ble_eq_true rfl) (Nat.le_of_ble_eq_true rfl) (s10251_X12_goesBy J d  ) ?_
  rintro _ _ ⟨rfl, rfl⟩
  dsimp only [Option.toList, List.cons_append, List.nil_append]
  refine G_iadd (pc := 22) (z := 0) (by decide) dX12_restOf_22 ?_
  refine G_istore_n (pc := 23) (L1 := [some (.ref 67), some (.int 9), some (.int 0), some (.int 2)]) rfl rfl (by decide) dX12_restOf_23 ?_
  refine G_iinc (pc := 24) (v := 1) (w := 3) (L1 := [some (.ref 67), some (.int 9), some (.int 0), some (.int 3)]) (by decide) rfl rfl (by decide) rfl (by decide) dX12_restOf_24 ?_
  refine G_goto (pc := 27) (tgt := 4) (by decide) dX12_restOf_27 ?_
  refine G_iload_n (pc := 4) rfl dX12_restOf_4 ?_
  refine G_iload_n (pc := 5) rfl dX12_restOf_5 ?_
  refine G_icmp_ge (pc := 6) (tgt := 30) (by decide) dX12_restOf_6 (fun z => absurd z (by decide)) (fun _ => ?_)
  refine G_aload_n (pc := 9) rfl dX12_restOf_9 ?_
  refine G_callV (pc := 10) (mc1 := 0) (ms1 := 0) (ci := 12) (mj := mX12_isOver) (vs := []) dX12_restOf_10 rfl rfl cm_X12_isOver wh_22 wh_24 wh_25 rfl (Nat.le_of_ble_eq_true rfl) (Nat.le_of_ble_eq_true rfl) (Nat.le_of_ble_eq_true rfl) (Nat.le_of_ble_eq_true rfl) (s10253_X12_isOver J (d + 1)  ) ?_
  rintro _ _ ⟨rfl, rfl⟩
  dsimp only [Option.toList, List.cons_append, List.nil_append]
  refine G_if_ne (pc := 13) (tgt := 30) (by decide) dX12_restOf_13 (fun z => absurd (by decide) z) (fun _ => ?_)
  refine G_iload_n (pc := 16) rfl dX12_restOf_16 ?_
  refine G_aload_n (pc := 17) rfl dX12_restOf_17 ?_
  refine G_iconst (pc := 18) (v := (-1)) (by decide) dX12_restOf_18 ?_
  refine G_callV (pc := 19) (mc1 := 0) (ms1 := 0) (ci := 12) (mj := mX12_goesBy) (vs := [_]) dX12_restOf_19 rfl rfl cm_X12_goesBy wh_72 wh_74 wh_75 rfl (Nat.le_of_ble_eq_true rfl) (Nat.le_of_ble_eq_true rfl) (Nat.le_of_ble_eq_true rfl) (Nat.le_of_ble_eq_true rfl) (s10254_X12_goesBy J d  ) ?_
  rintro _ _ ⟨rfl, rfl⟩
  dsimp only [Option.toList, List.cons_append, List.nil_append]
  refine G_iadd (pc := 22) (z := 0) (by decide) dX12_restOf_22 ?_
  refine G_istore_n (pc := 23) (L1 := [some (.ref 67), some (.int 9), some (.int 0), some (.int 3)]) rfl rfl (by decide) dX12_restOf_23 ?_
  refine G_iinc (pc := 24) (v := 1) (w := 4) (L1 := [some (.ref 67), some (.int 9), some (.int 0), some (.int 4)]) (by decide) rfl rfl (by decide) rfl (by decide) dX12_restOf_24 ?_
  refine G_goto (pc := 27) (tgt := 4) (by decide) dX12_restOf_27 ?_
  refine G_iload_n (pc := 4) rfl dX12_restOf_4 ?_
  refine G_iload_n (pc := 5) rfl dX12_restOf_5 ?_
  refine G_icmp_ge (pc := 6) (tgt := 30) (by decide) dX12_restOf_6 (fun z => absurd z (by decide)) (fun _ => ?_)
  refine G_aload_n (pc := 9) rfl dX12_restOf_9 ?_
  refine G_callV (pc := 10) (mc1 := 0) (ms1 := 0) (ci := 12) (mj := mX12_isOver) (vs := []) dX12_restOf_10 rfl rfl cm_X12_isOver wh_22 wh_24 wh_25 rfl (Nat.le_of_ble_eq_true rfl) (Nat.le_of_ble_eq_true rfl) (Nat.le_of_ble_eq_true rfl) (Nat.le_of_ble_eq_true rfl) (s10256_X12_isOver J (d + 1)  ) ?_
  rintro _ _ ⟨rfl, rfl⟩
  dsimp only [Option.toList, List.cons_append, List.nil_append]
  refine G_if_ne (pc := 13) (tgt := 30) (by decide) dX12_restOf_13 (fun z => absurd (by decide) z) (fun _ => ?_)
  refine G_iload_n (pc := 16) rfl dX12_restOf_16 ?_
  refine G_aload_n (pc := 17) rfl dX12_restOf_17 ?_
  refine G_iconst (pc := 18) (v := (-1)) (by decide) dX12_restOf_18 ?_
  refine G_callV (pc := 19) (mc1 := 0) (ms1 := 0) (ci := 12) (mj := mX12_goesBy) (vs := [_]) dX12_restOf_19 rfl rfl cm_X12_goesBy wh_72 wh_74 wh_75 rfl (Nat.le_of_ble_eq_true rfl) (Nat.le_of_ble_eq_true rfl) (Nat.le_of_ble_eq_true rfl) (Nat.le_of_ble_eq_true rfl) (s10257_X12_goesBy J d  ) ?_
  rintro _ _ ⟨rfl, rfl⟩
  dsimp only [Option.toList, List.cons_append, List.nil_append]
  refine G_iadd (pc := 22) (z := 0) (by decide) dX12_restOf_22 ?_
  refine G_istore_n (pc := 23) (L1 := [some (.ref 67), some (.int 9), some (.int 0), some (.int 4)]) rfl rfl (by decide) dX12_restOf_23 ?_
  refine G_iinc (pc := 24) (v := 1) (w := 5) (L1 := [some (.ref 67), some (.int 9), some (.int 0), some (.int 5)]) (by decide) rfl rfl (by decide) rfl (by decide) dX12_restOf_24 ?_
  refine G_goto (pc := 27) (tgt := 4) (by decide) dX12_restOf_27 ?_
  refine G_iload_n (pc := 4) rfl dX12_restOf_4 ?_
  refine G_iload_n (pc := 5) rfl dX12_restOf_5 ?_
  refine G_icmp_ge (pc := 6) (tgt := 30) (by decide) dX12_restOf_6 (fun z => absurd z (by decide)) (fun _ => ?_)
  refine G_aload_n (pc := 9) rfl dX12_restOf_9 ?_
  refine G_callV (pc := 10) (mc1 := 0) (ms1 := 0) (ci := 12) (mj := mX12_isOver) (vs := []) dX12_restOf_10 rfl rfl cm_X12_isOver wh_22 wh_24 wh_25 rfl (Nat.le_of_ble_eq_true rfl) (Nat.le_of_ble_eq_true rfl) (Nat.le_of_ble_eq_true rfl) (Nat.le_of_ble_eq_true rfl) (s10259_X12_isOver J (d + 1)  ) ?_
  rintro _ _ ⟨rfl, rfl⟩
  dsimp only [Option.toList, List.cons_append, List.nil_append]
  refine G_if_ne (pc := 13) (tgt := 30) (by decide) dX12_restOf_13 (fun z => absurd (by decide) z) (fun _ => ?_)
  refine G_iload_n (pc := 16) rfl dX12_restOf_16 ?_
  refine G_aload_n (pc := 17) rfl dX12_restOf_17 ?_
  refine G_iconst (pc := 18) (v := (-1)) (by decide) dX12_restOf_18 ?_
  refine G_callV (pc := 19) (mc1 := 0) (ms1 := 0) (ci := 12) (mj := mX12_goesBy) (vs := [_]) dX12_restOf_19 rfl rfl cm_X12_goesBy wh_72 wh_74 wh_75 rfl (Nat.le_of_ble_eq_true rfl) (Nat.le_of_ble_eq_true rfl) (Nat.le_of_ble_eq_true rfl) (Nat.le_of_ble_eq_true rfl) (s10260_X12_goesBy J d  ) ?_
  rintro _ _ ⟨rfl, rfl⟩
  dsimp only [Option.toList, List.cons_append, List.nil_append]
  refine G_iadd (pc := 22) (z := 0) (by decide) dX12_restOf_22 ?_
  refine G_istore_n (pc := 23) (L1 := [some (.ref 67), some (.int 9), some (.int 0), some (.int 5)]) rfl rfl (by decide) dX12_restOf_23 ?_
  refine G_iinc (pc := 24) (v := 1) (w := 6) (L1 := [some (.ref 67), some (.int 9), some (.int 0), some (.int 6)]) (by decide) rfl rfl (by decide) rfl (by decide) dX12_restOf_24 ?_
  refine G_goto (pc := 27) (tgt := 4) (by decide) dX12_restOf_27 ?_
  refine G_iload_n (pc := 4) rfl dX12_restOf_4 ?_
  refine G_iload_n (pc := 5) rfl dX12_restOf_5 ?_
  refine G_icmp_ge (pc := 6) (tgt := 30) (by decide) dX12_restOf_6 (fun z => absurd z (by decide)) (fun _ => ?_)
  refine G_aload_n (pc := 9) rfl dX12_restOf_9 ?_
  refine G_callV (pc := 10) (mc1 := 0) (ms1 := 0) (ci := 12) (mj := mX12_isOver) (vs := []) dX12_restOf_10 rfl rfl cm_X12_isOver wh_22 wh_24 wh_25 rfl (Nat.le_of_ble_eq_true rfl) (Nat.le_of_ble_eq_true rfl) (Nat.le_of_ble_eq_true rfl) (Nat.le_of_ble_eq_true rfl) (s10262_X12_isOver J (d + 1)  ) ?_
  rintro _ _ ⟨rfl, rfl⟩
  dsimp only [Option.toList, List.cons_append, List.nil_append]
  refine G_if_ne (pc := 13) (tgt := 30) (by decide) dX12_restOf_13 (fun z => absurd (by decide) z) (fun _ => ?_)
  refine G_iload_n (pc := 16) rfl dX12_restOf_16 ?_
  refine G_aload_n (pc := 17) rfl dX12_restOf_17 ?_
  refine G_iconst (pc := 18) (v := (-1)) (by decide) dX12_restOf_18 ?_
  refine G_callV (pc := 19) (mc1 := 0) (ms1 := 0) (ci := 12) (mj := mX12_goesBy) (vs := [_]) dX12_restOf_19 rfl rfl cm_X12_goesBy wh_72 wh_74 wh_75 rfl (Nat.le_of_ble_eq_true rfl) (Nat.le_of_ble_eq_true rfl) (Nat.le_of_ble_eq_true rfl) (Nat.le_of_ble_eq_true rfl) (s10263_X12_goesBy J d  ) ?_
  rintro _ _ ⟨rfl, rfl⟩
  dsimp only [Option.toList, List.cons_append, List.nil_append]
  refine G_iadd (pc := 22) (z := 0) (by decide) dX12_restOf_22 ?_
  refine G_istore_n (pc := 23) (L1 := [some (.ref 67), some (.int 9), some (.int 0), some (.int 6)]) rfl rfl (by decide) dX12_restOf_23 ?_
  refine G_iinc (pc := 24) (v := 1) (w := 7) (L1 := [some (.ref 67), some (.int 9), some (.int 0), some (.int 7)]) (by decide) rfl rfl (by decide) rfl (by decide) dX12_restOf_24 ?_
  refine G_goto (pc := 27) (tgt := 4) (by decide) dX12_restOf_27 ?_
  refine G_iload_n (pc := 4) rfl dX12_restOf_4 ?_
  refine G_iload_n (pc := 5) rfl dX12_restOf_5 ?_
  refine G_icmp_ge (pc := 6) (tgt := 30) (by decide) dX12_restOf_6 (fun z => absurd z (by decide)) (fun _ => ?_)
  refine G_aload_n (pc := 9) rfl dX12_restOf_9 ?_
  refine G_callV (pc := 10) (mc1 := 0) (ms1 := 0) (ci := 12) (mj := mX12_isOver) (vs := []) dX12_restOf_10 rfl rfl cm_X12_isOver wh_22 wh_24 wh_25 rfl (Nat.le_of_ble_eq_true rfl) (Nat.le_of_ble_eq_true rfl) (Nat.le_of_ble_eq_true rfl) (Nat.le_of_ble_eq_true rfl) (s10265_X12_isOver J (d + 1)  ) ?_
  rintro _ _ ⟨rfl, rfl⟩
  dsimp only [Option.toList, List.cons_append, List.nil_append]
  refine G_if_ne (pc := 13) (tgt := 30) (by decide) dX12_restOf_13 (fun z => absurd (by decide) z) (fun _ => ?_)
  refine G_iload_n (pc := 16) rfl dX12_restOf_16 ?_
  refine G_aload_n (pc := 17) rfl dX12_restOf_17 ?_
  refine G_iconst (pc := 18) (v := (-1)) (by decide) dX12_restOf_18 ?_
  refine G_callV (pc := 19) (mc1 := 0) (ms1 := 0) (ci := 12) (mj := mX12_goesBy) (vs := [_]) dX12_restOf_19 rfl rfl cm_X12_goesBy wh_72 wh_74 wh_75 rfl (Nat.le_of_ble_eq_true rfl) (Nat.le_of_ble_eq_true rfl) (Nat.le_of_ble_eq_true rfl) (Nat.le_of_ble_eq_true rfl) (s10266_X12_goesBy J d  ) ?_
  rintro _ _ ⟨rfl, rfl⟩
  dsimp only [Option.toList, List.cons_append, List.nil_append]
  refine G_iadd (pc := 22) (z := 0) (by decide) dX12_restOf_22 ?_
  refine G_istore_n (pc := 23) (L1 := [some (.ref 67), some (.int 9), some (.int 0), some (.int 7)]) rfl rfl (by decide) dX12_restOf_23 ?_
  refine G_iinc (pc := 24) (v := 1) (w := 8) (L1 := [some (.ref 67), some (.int 9), some (.int 0), some (.int 8)]) (by decide) rfl rfl (by decide) rfl (by decide) dX12_restOf_24 ?_
  refine G_goto (pc := 27) (tgt := 4) (by decide) dX12_restOf_27 ?_
  refine G_iload_n (pc := 4) rfl dX12_restOf_4 ?_
  refine G_iload_n (pc := 5) rfl dX12_restOf_5 ?_
  refine G_icmp_ge (pc := 6) (tgt := 30) (by decide) dX12_restOf_6 (fun z => absurd z (by decide)) (fun _ => ?_)
  refine G_aload_n (pc := 9) rfl dX12_restOf_9 ?_
  refine G_callV (pc := 10) (mc1 := 0) (ms1 := 0) (ci := 12) (mj := mX12_isOver) (vs := []) dX12_restOf_10 rfl rfl cm_X12_isOver wh_22 wh_24 wh_25 rfl (Nat.le_of_ble_eq_true rfl) (Nat.le_of_ble_eq_true rfl) (Nat.le_of_ble_eq_true rfl) (Nat.le_of_ble_eq_true rfl) (s10268_X12_isOver J (d + 1)  ) ?_
  rintro _ _ ⟨rfl, rfl⟩
  dsimp only [Option.toList, List.cons_append, List.nil_append]
  refine G_if_ne (pc := 13) (tgt := 30) (by decide) dX12_restOf_13 (fun z => absurd (by decide) z) (fun _ => ?_)
  refine G_iload_n (pc := 16) rfl dX12_restOf_16 ?_
  refine G_aload_n (pc := 17) rfl dX12_restOf_17 ?_
  refine G_iconst (pc := 18) (v := (-1)) (by decide) dX12_restOf_18 ?_
  refine G_callV (pc := 19) (mc1 := 0) (ms1 := 0) (ci := 12) (mj := mX12_goesBy) (vs := [_]) dX12_restOf_19 rfl rfl cm_X12_goesBy wh_72 wh_74 wh_75 rfl (Nat.le_of_ble_eq_true rfl) (Nat.le_of_ble_eq_true rfl) (Nat.le_of_ble_eq_true rfl) (Nat.le_of_ble_eq_true rfl) (s10269_X12_goesBy J d  ) ?_
  rintro _ _ ⟨rfl, rfl⟩
  dsimp only [Option.toList, List.cons_append, List.nil_append]
  refine G_iadd (pc := 22) (z := 0) (by decide) dX12_restOf_22 ?_
  refine G_istore_n (pc := 23) (L1 := [some (.ref 67), some (.int 9), some (.int 0), some (.int 8)]) rfl rfl (by decide) dX12_restOf_23 ?_
  refine G_iinc (pc := 24) (v := 1) (w := 9) (L1 := [some (.ref 67), some (.int 9), some (.int 0), some (.int 9)]) (by decide) rfl rfl (by decide) rfl (by decide) dX12_restOf_24 ?_
  refine G_goto (pc := 27) (tgt := 4) (by decide) dX12_restOf_27 ?_
  refine G_iload_n (pc := 4) rfl dX12_restOf_4 ?_
  refine G_iload_n (pc := 5) rfl dX12_restOf_5 ?_
  refine G_icmp_ge (pc := 6) (tgt := 30) (by decide) dX12_restOf_6 (fun _ => ?_) (fun z => absurd (by decide) z)
  refine G_iload_n (pc := 30) rfl dX12_restOf_30 ?_
  exact G_iret (pc := 31) (Nat.le_of_ble_eq_true rfl) (Nat.le_of_ble_eq_true rfl) rfl dX12_restOf_31 ⟨rfl, rfl⟩
set_option maxRecDepth 100000 in
set_option maxHeartbeats 4000000 in
theorem s10291_X12_restOf (J : gI) (d : Nat)   : G (d + 2) mX12_restOf 0 0 0 0 0 (gent 4 [.ref 67, .int 10]) [] SH0 RF0 (gcp (gmx J) 68 70 0 0 65) (fun r h => r = some (.int 0) ∧ h = (SH0, RF0, (gup (gup (gup (gup (gup (gup (gup (gup (gup (gup (gup (gup (gup (gup (gup (gup (gup (gup (gup (gup (gcp (gmx J) 68 70 0 0 65) 68 0 1) 68 2 0) 68 0 2) 68 2 0) 68 0 3) 68 2 0) 68 0 4) 68 2 0) 68 0 5) 68 2 0) 68 0 6) 68 2 0) 68 0 7) 68 2 0) 68 0 8) 68 2 0) 68 0 9) 68 2 0) 68 0 10) 68 2 0))) := by
  refine G_iconst (pc := 0) (v := 0) (by decide) dX12_restOf_0 ?_
  refine G_istore_n (pc := 1) (L1 := [some (.ref 67), some (.int 10), some (.int 0), none]) rfl rfl (by decide) dX12_restOf_1 ?_
  refine G_iconst (pc := 2) (v := 0) (by decide) dX12_restOf_2 ?_
  refine G_istore_n (pc := 3) (L1 := [some (.ref 67), some (.int 10), some (.int 0), some (.int 0)]) rfl rfl (by decide) dX12_restOf_3 ?_
  refine G_iload_n (pc := 4) rfl dX12_restOf_4 ?_
  refine G_iload_n (pc := 5) rfl dX12_restOf_5 ?_
  refine G_icmp_ge (pc := 6) (tgt := 30) (by decide) dX12_restOf_6 (fun z => absurd z (by decide)) (fun _ => ?_)
  refine G_aload_n (pc := 9) rfl dX12_restOf_9 ?_
  refine G_callV (pc := 10) (mc1 := 0) (ms1 := 0) (ci := 12) (mj := mX12_isOver) (vs := []) dX12_restOf_10 rfl rfl cm_X12_isOver wh_22 wh_24 wh_25 rfl (Nat.le_of_ble_eq_true rfl) (Nat.le_of_ble_eq_true rfl) (Nat.le_of_ble_eq_true rfl) (Nat.le_of_ble_eq_true rfl) (s10244_X12_isOver J (d + 1)  ) ?_
  rintro _ _ ⟨rfl, rfl⟩
  dsimp only [Option.toList, List.cons_append, List.nil_append]
  refine G_if_ne (pc := 13) (tgt := 30) (by decide) dX12_restOf_13 (fun z => absurd (by decide) z) (fun _ => ?_)
  refine G_iload_n (pc := 16) rfl dX12_restOf_16 ?_
  refine G_aload_n (pc := 17) rfl dX12_restOf_17 ?_
  refine G_iconst (pc := 18) (v := (-1)) (by decide) dX12_restOf_18 ?_
  refine G_callV (pc := 19) (mc1 := 0) (ms1 := 0) (ci := 12) (mj := mX12_goesBy) (vs := [_]) dX12_restOf_19 rfl rfl cm_X12_goesBy wh_72 wh_74 wh_75 rfl (Nat.le_of_ble_eq_true rfl) (Nat.le_of_ble_eq_true rfl) (Nat.le_of_ble_eq_true rfl) (Nat.le_of_ble_eq_true rfl) (s10245_X12_goesBy J d  ) ?_
  rintro _ _ ⟨rfl, rfl⟩
  dsimp only [Option.toList, List.cons_append, List.nil_append]
  refine G_iadd (pc := 22) (z := 0) (by decide) dX12_restOf_22 ?_
  refine G_istore_n (pc := 23) (L1 := [some (.ref 67), some (.int 10), some (.int 0), some (.int 0)]) rfl rfl (by decide) dX12_restOf_23 ?_
  refine G_iinc (pc := 24) (v := 1) (w := 1) (L1 := [some (.ref 67), some (.int 10), some (.int 0), some (.int 1)]) (by decide) rfl rfl (by decide) rfl (by decide) dX12_restOf_24 ?_
  refine G_goto (pc := 27) (tgt := 4) (by decide) dX12_restOf_27 ?_
  refine G_iload_n (pc := 4) rfl dX12_restOf_4 ?_
  refine G_iload_n (pc := 5) rfl dX12_restOf_5 ?_
  refine G_icmp_ge (pc := 6) (tgt := 30) (by decide) dX12_restOf_6 (fun z => absurd z (by decide)) (fun _ => ?_)
  refine G_aload_n (pc := 9) rfl dX12_restOf_9 ?_
  refine G_callV (pc := 10) (mc1 := 0) (ms1 := 0) (ci := 12) (mj := mX12_isOver) (vs := []) dX12_restOf_10 rfl rfl cm_X12_isOver wh_22 wh_24 wh_25 rfl (Nat.le_of_ble_eq_true rfl) (Nat.le_of_ble_eq_true rfl) (Nat.le_of_ble_eq_true rfl) (Nat.le_of_ble_eq_true rfl) (s10247_X12_isOver J (d + 1)  ) ?_
  rintro _ _ ⟨rfl, rfl⟩
  dsimp only [Option.toList, List.cons_append, List.nil_append]
  refine G_if_ne (pc := 13) (tgt := 30) (by decide) dX12_restOf_13 (fun z => absurd (by decide) z) (fun _ => ?_)
  refine G_iload_n (pc := 16) rfl dX12_restOf_16 ?_
  refine G_aload_n (pc := 17) rfl dX12_restOf_17 ?_
  refine G_iconst (pc := 18) (v := (-1)) (by decide) dX12_restOf_18 ?_
  refine G_callV (pc := 19) (mc1 := 0) (ms1 := 0) (ci := 12) (mj := mX12_goesBy) (vs := [_]) dX12_restOf_19 rfl rfl cm_X12_goesBy wh_72 wh_74 wh_75 rfl (Nat.le_of_ble_eq_true rfl) (Nat.le_of_ble_eq_true rfl) (Nat.le_of_ble_eq_true rfl) (Nat.le_of_ble_eq_true rfl) (s10248_X12_goesBy J d  ) ?_
  rintro _ _ ⟨rfl, rfl⟩
  dsimp only [Option.toList, List.cons_append, List.nil_append]
  refine G_iadd (pc := 22) (z := 0) (by decide) dX12_restOf_22 ?_
  refine G_istore_n (pc := 23) (L1 := [some (.ref 67), some (.int 10), some (.int 0), some (.int 1)]) rfl rfl (by decide) dX12_restOf_23 ?_
  refine G_iinc (pc := 24) (v := 1) (w := 2) (L1 := [some (.ref 67), some (.int 10), some (.int 0), some (.int 2)]) (by decide) rfl rfl (by decide) rfl (by decide) dX12_restOf_24 ?_
  refine G_goto (pc := 27) (tgt := 4) (by decide) dX12_restOf_27 ?_
  refine G_iload_n (pc := 4) rfl dX12_restOf_4 ?_
  refine G_iload_n (pc := 5) rfl dX12_restOf_5 ?_
  refine G_icmp_ge (pc := 6) (tgt := 30) (by decide) dX12_restOf_6 (fun z => absurd z (by decide)) (fun _ => ?_)
  refine G_aload_n (pc := 9) rfl dX12_restOf_9 ?_
  refine G_callV (pc := 10) (mc1 := 0) (ms1 := 0) (ci := 12) (mj := mX12_isOver) (vs := []) dX12_restOf_10 rfl rfl cm_X12_isOver wh_22 wh_24 wh_25 rfl (Nat.le_of_ble_eq_true rfl) (Nat.le_of_ble_eq_true rfl) (Nat.le_of_ble_eq_true rfl) (Nat.le_of_ble_eq_true rfl) (s10250_X12_isOver J (d + 1)  ) ?_
  rintro _ _ ⟨rfl, rfl⟩
  dsimp only [Option.toList, List.cons_append, List.nil_append]
  refine G_if_ne (pc := 13) (tgt := 30) (by decide) dX12_restOf_13 (fun z => absurd (by decide) z) (fun _ => ?_)
  refine G_iload_n (pc := 16) rfl dX12_restOf_16 ?_
  refine G_aload_n (pc := 17) rfl dX12_restOf_17 ?_
  refine G_iconst (pc := 18) (v := (-1)) (by decide) dX12_restOf_18 ?_
  refine G_callV (pc := 19) (mc1 := 0) (ms1 := 0) (ci := 12) (mj := mX12_goesBy) (vs := [_]) dX12_restOf_19 rfl rfl cm_X12_goesBy wh_72 wh_74 wh_75 rfl (Nat.le_of_ble_eq_true rfl) (Nat.le_of_ble_eq_true rfl) (Nat.le_of_ble_eq_true rfl) (Nat.le_of_ble_eq_true rfl) (s10251_X12_goesBy J d  ) ?_
  rintro _ _ ⟨rfl, rfl⟩
  dsimp only [Option.toList, List.cons_append, List.nil_append]
  refine G_iadd (pc := 22) (z := 0) (by decide) dX12_restOf_22 ?_
  refine G_istore_n (pc := 23) (L1 := [some (.ref 67), some (.int 10), some (.int 0), some (.int 2)]) rfl rfl (by decide) dX12_restOf_23 ?_
  refine G_iinc (pc := 24) (v := 1) (w := 3) (L1 := [some (.ref 67), some (.int 10), some (.int 0), some (.int 3)]) (by decide) rfl rfl (by decide) rfl (by decide) dX12_restOf_24 ?_
  refine G_goto (pc := 27) (tgt := 4) (by decide) dX12_restOf_27 ?_
  refine G_iload_n (pc := 4) rfl dX12_restOf_4 ?_
  refine G_iload_n (pc := 5) rfl dX12_restOf_5 ?_
  refine G_icmp_ge (pc := 6) (tgt := 30) (by decide) dX12_restOf_6 (fun z => absurd z (by decide)) (fun _ => ?_)
  refine G_aload_n (pc := 9) rfl dX12_restOf_9 ?_
  refine G_callV (pc := 10) (mc1 := 0) (ms1 := 0) (ci := 12) (mj := mX12_isOver) (vs := []) dX12_restOf_10 rfl rfl cm_X12_isOver wh_22 wh_24 wh_25 rfl (Nat.le_of_ble_eq_true rfl) (Nat.le_of_ble_eq_true rfl) (Nat.le_of_ble_eq_true rfl) (Nat.le_of_ble_eq_true rfl) (s10253_X12_isOver J (d + 1)  ) ?_
  rintro _ _ ⟨rfl, rfl⟩
  dsimp only [Option.toList, List.cons_append, List.nil_append]
  refine G_if_ne (pc := 13) (tgt := 30) (by decide) dX12_restOf_13 (fun z => absurd (by decide) z) (fun _ => ?_)
  refine G_iload_n (pc := 16) rfl dX12_restOf_16 ?_
  refine G_aload_n (pc := 17) rfl dX12_restOf_17 ?_
  refine G_iconst (pc := 18) (v := (-1)) (by decide) dX12_restOf_18 ?_
  refine G_callV (pc := 19) (mc1 := 0) (ms1 := 0) (ci := 12) (mj := mX12_goesBy) (vs := [_]) dX12_restOf_19 rfl rfl cm_X12_goesBy wh_72 wh_74 wh_75 rfl (Nat.le_of_ble_eq_true rfl) (Nat.le_of_ble_eq_true rfl) (Nat.le_of_ble_eq_true rfl) (Nat.le_of_ble_eq_true rfl) (s10254_X12_goesBy J d  ) ?_
  rintro _ _ ⟨rfl, rfl⟩
  dsimp only [Option.toList, List.cons_append, List.nil_append]
  refine G_iadd (pc := 22) (z := 0) (by decide) dX12_restOf_22 ?_
  refine G_istore_n (pc := 23) (L1 := [some (.ref 67), some (.int 10), some (.int 0), some (.int 3)]) rfl rfl (by decide) dX12_restOf_23 ?_
  refine G_iinc (pc := 24) (v := 1) (w := 4) (L1 := [some (.ref 67), some (.int 10), some (.int 0), some (.int 4)]) (by decide) rfl rfl (by decide) rfl (by decide) dX12_restOf_24 ?_
  refine G_goto (pc := 27) (tgt := 4) (by decide) dX12_restOf_27 ?_
  refine G_iload_n (pc := 4) rfl dX12_restOf_4 ?_
  refine G_iload_n (pc := 5) rfl dX12_restOf_5 ?_
  refine G_icmp_ge (pc := 6) (tgt := 30) (by decide) dX12_restOf_6 (fun z => absurd z (by decide)) (fun _ => ?_)
  refine G_aload_n (pc := 9) rfl dX12_restOf_9 ?_
  refine G_callV (pc := 10) (mc1 := 0) (ms1 := 0) (ci := 12) (mj := mX12_isOver) (vs := []) dX12_restOf_10 rfl rfl cm_X12_isOver wh_22 wh_24 wh_25 rfl (Nat.le_of_ble_eq_true rfl) (Nat.le_of_ble_eq_true rfl) (Nat.le_of_ble_eq_true rfl) (Nat.le_of_ble_eq_true rfl) (s10256_X12_isOver J (d + 1)  ) ?_
  rintro _ _ ⟨rfl, rfl⟩
  dsimp only [Option.toList, List.cons_append, List.nil_append]
  refine G_if_ne (pc := 13) (tgt := 30) (by decide) dX12_restOf_13 (fun z => absurd (by decide) z) (fun _ => ?_)
  refine G_iload_n (pc := 16) rfl dX12_restOf_16 ?_
  refine G_aload_n (pc := 17) rfl dX12_restOf_17 ?_
  refine G_iconst (pc := 18) (v := (-1)) (by decide) dX12_restOf_18 ?_
  refine G_callV (pc := 19) (mc1 := 0) (ms1 := 0) (ci := 12) (mj := mX12_goesBy) (vs := [_]) dX12_restOf_19 rfl rfl cm_X12_goesBy wh_72 wh_74 wh_75 rfl (Nat.le_of_ble_eq_true rfl) (Nat.le_of_ble_eq_true rfl) (Nat.le_of_ble_eq_true rfl) (Nat.le_of_ble_eq_true rfl) (s10257_X12_goesBy J d  ) ?_
  rintro _ _ ⟨rfl, rfl⟩
  dsimp only [Option.toList, List.cons_append, List.nil_append]
  refine G_iadd (pc := 22) (z := 0) (by decide) dX12_restOf_22 ?_
  refine G_istore_n (pc := 23) (L1 := [some (.ref 67), some (.int 10), some (.int 0), some (.int 4)]) rfl rfl (by decide) dX12_restOf_23 ?_
  refine G_iinc (pc := 24) (v := 1) (w := 5) (L1 := [some (.ref 67), some (.int 10), some (.int 0), some (.int 5)]) (by decide) rfl rfl (by decide) rfl (by decide) dX12_restOf_24 ?_
  refine G_goto (pc := 27) (tgt := 4) (by decide) dX12_restOf_27 ?_
  refine G_iload_n (pc := 4) rfl dX12_restOf_4 ?_
  refine G_iload_n (pc := 5) rfl dX12_restOf_5 ?_
  refine G_icmp_ge (pc := 6) (tgt := 30) (by decide) dX12_restOf_6 (fun z => absurd z (by decide)) (fun _ => ?_)
  refine G_aload_n (pc := 9) rfl dX12_restOf_9 ?_
  refine G_callV (pc := 10) (mc1 := 0) (ms1 := 0) (ci := 12) (mj := mX12_isOver) (vs := []) dX12_restOf_10 rfl rfl cm_X12_isOver wh_22 wh_24 wh_25 rfl (Nat.le_of_ble_eq_true rfl) (Nat.le_of_ble_eq_true rfl) (Nat.le_of_ble_eq_true rfl) (Nat.le_of_ble_eq_true rfl) (s10259_X12_isOver J (d + 1)  ) ?_
  rintro _ _ ⟨rfl, rfl⟩
  dsimp only [Option.toList, List.cons_append, List.nil_append]
  refine G_if_ne (pc := 13) (tgt := 30) (by decide) dX12_restOf_13 (fun z => absurd (by decide) z) (fun _ => ?_)
  refine G_iload_n (pc := 16) rfl dX12_restOf_16 ?_
  refine G_aload_n (pc := 17) rfl dX12_restOf_17 ?_
  refine G_iconst (pc := 18) (v := (-1)) (by decide) dX12_restOf_18 ?_
  refine G_callV (pc := 19) (mc1 := 0) (ms1 := 0) (ci := 12) (mj := mX12_goesBy) (vs := [_]) dX12_restOf_19 rfl rfl cm_X12_goesBy wh_72 wh_74 wh_75 rfl (Nat.le_of_ble_eq_true rfl) (Nat.le_of_ble_eq_true rfl) (Nat.le_of_ble_eq_true rfl) (Nat.le_of_ble_eq_true rfl) (s10260_X12_goesBy J d  ) ?_
  rintro _ _ ⟨rfl, rfl⟩
  dsimp only [Option.toList, List.cons_append, List.nil_append]
  refine G_iadd (pc := 22) (z := 0) (by decide) dX12_restOf_22 ?_
  refine G_istore_n (pc := 23) (L1 := [some (.ref 67), some (.int 10), some (.int 0), some (.int 5)]) rfl rfl (by decide) dX12_restOf_23 ?_
  refine G_iinc (pc := 24) (v := 1) (w := 6) (L1 := [some (.ref 67), some (.int 10), some (.int 0), some (.int 6)]) (by decide) rfl rfl (by decide) rfl (by decide) dX12_restOf_24 ?_
  refine G_goto (pc := 27) (tgt := 4) (by decide) dX12_restOf_27 ?_
  refine G_iload_n (pc := 4) rfl dX12_restOf_4 ?_
  refine G_iload_n (pc := 5) rfl dX12_restOf_5 ?_
  refine G_icmp_ge (pc := 6) (tgt := 30) (by decide) dX12_restOf_6 (fun z => absurd z (by decide)) (fun _ => ?_)
  refine G_aload_n (pc := 9) rfl dX12_restOf_9 ?_
  refine G_callV (pc := 10) (mc1 := 0) (ms1 := 0) (ci := 12) (mj := mX12_isOver) (vs := []) dX12_restOf_10 rfl rfl cm_X12_isOver wh_22 wh_24 wh_25 rfl (Nat.le_of_ble_eq_true rfl) (Nat.le_of_ble_eq_true rfl) (Nat.le_of_ble_eq_true rfl) (Nat.le_of_ble_eq_true rfl) (s10262_X12_isOver J (d + 1)  ) ?_
  rintro _ _ ⟨rfl, rfl⟩
  dsimp only [Option.toList, List.cons_append, List.nil_append]
  refine G_if_ne (pc := 13) (tgt := 30) (by decide) dX12_restOf_13 (fun z => absurd (by decide) z) (fun _ => ?_)
  refine G_iload_n (pc := 16) rfl dX12_restOf_16 ?_
  refine G_aload_n (pc := 17) rfl dX12_restOf_17 ?_
  refine G_iconst (pc := 18) (v := (-1)) (by decide) dX12_restOf_18 ?_
  refine G_callV (pc := 19) (mc1 := 0) (ms1 := 0) (ci := 12) (mj := mX12_goesBy) (vs := [_]) dX12_restOf_19 rfl rfl cm_X12_goesBy wh_72 wh_74 wh_75 rfl (Nat.le_of_ble_eq_true rfl) (Nat.le_of_ble_eq_true rfl) (Nat.le_of_ble_eq_true rfl) (Nat.le_of_ble_eq_true rfl) (s10263_X12_goesBy J d  ) ?_
  rintro _ _ ⟨rfl, rfl⟩
  dsimp only [Option.toList, List.cons_append, List.nil_append]
  refine G_iadd (pc := 22) (z := 0) (by decide) dX12_restOf_22 ?_
  refine G_istore_n (pc := 23) (L1 := [some (.ref 67), some (.int 10), some (.int 0), some (.int 6)]) rfl rfl (by decide) dX12_restOf_23 ?_
  refine G_iinc (pc := 24) (v := 1) (w := 7) (L1 := [some (.ref 67), some (.int 10), some (.int 0), some (.int 7)]) (by decide) rfl rfl (by decide) rfl (by decide) dX12_restOf_24 ?_
  refine G_goto (pc := 27) (tgt := 4) (by decide) dX12_restOf_27 ?_
  refine G_iload_n (pc := 4) rfl dX12_restOf_4 ?_
  refine G_iload_n (pc := 5) rfl dX12_restOf_5 ?_
  refine G_icmp_ge (pc := 6) (tgt := 30) (by decide) dX12_restOf_6 (fun z => absurd z (by decide)) (fun _ => ?_)
  refine G_aload_n (pc := 9) rfl dX12_restOf_9 ?_
  refine G_callV (pc := 10) (mc1 := 0) (ms1 := 0) (ci := 12) (mj := mX12_isOver) (vs := []) dX12_restOf_10 rfl rfl cm_X12_isOver wh_22 wh_24 wh_25 rfl (Nat.le_of_ble_eq_true rfl) (Nat.le_of_ble_eq_true rfl) (Nat.le_of_ble_eq_true rfl) (Nat.le_of_ble_eq_true rfl) (s10265_X12_isOver J (d + 1)  ) ?_
  rintro _ _ ⟨rfl, rfl⟩
  dsimp only [Option.toList, List.cons_append, List.nil_append]
  refine G_if_ne (pc := 13) (tgt := 30) (by decide) dX12_restOf_13 (fun z => absurd (by decide) z) (fun _ => ?_)
  refine G_iload_n (pc := 16) rfl dX12_restOf_16 ?_
  refine G_aload_n (pc := 17) rfl dX12_restOf_17 ?_
  refine G_iconst (pc := 18) (v := (-1)) (by decide) dX12_restOf_18 ?_
  refine G_callV (pc := 19) (mc1 := 0) (ms1 := 0) (ci := 12) (mj := mX12_goesBy) (vs := [_]) dX12_restOf_19 rfl rfl cm_X12_goesBy wh_72 wh_74 wh_75 rfl (Nat.le_of_ble_eq_true rfl) (Nat.le_of_ble_eq_true rfl) (Nat.le_of_ble_eq_true rfl) (Nat.le_of_ble_eq_true rfl) (s10266_X12_goesBy J d  ) ?_
  rintro _ _ ⟨rfl, rfl⟩
  dsimp only [Option.toList, List.cons_append, List.nil_append]
  refine G_iadd (pc := 22) (z := 0) (by decide) dX12_restOf_22 ?_
  refine G_istore_n (pc := 23) (L1 := [some (.ref 67), some (.int 10), some (.int 0), some (.int 7)]) rfl rfl (by decide) dX12_restOf_23 ?_
  refine G_iinc (pc := 24) (v := 1) (w := 8) (L1 := [some (.ref 67), some (.int 10), some (.int 0), some (.int 8)]) (by decide) rfl rfl (by decide) rfl (by decide) dX12_restOf_24 ?_
  refine G_goto (pc := 27) (tgt := 4) (by decide) dX12_restOf_27 ?_
  refine G_iload_n (pc := 4) rfl dX12_restOf_4 ?_
  refine G_iload_n (pc := 5) rfl dX12_restOf_5 ?_
  refine G_icmp_ge (pc := 6) (tgt := 30) (by decide) dX12_restOf_6 (fun z => absurd z (by decide)) (fun _ => ?_)
  refine G_aload_n (pc := 9) rfl dX12_restOf_9 ?_
  refine G_callV (pc := 10) (mc1 := 0) (ms1 := 0) (ci := 12) (mj := mX12_isOver) (vs := []) dX12_restOf_10 rfl rfl cm_X12_isOver wh_22 wh_24 wh_25 rfl (Nat.le_of_ble_eq_true rfl) (Nat.le_of_ble_eq_true rfl) (Nat.le_of_ble_eq_true rfl) (Nat.le_of_ble_eq_true rfl) (s10268_X12_isOver J (d + 1)  ) ?_
  rintro _ _ ⟨rfl, rfl⟩
  dsimp only [Option.toList, List.cons_append, List.nil_append]
  refine G_if_ne (pc := 13) (tgt := 30) (by decide) dX12_restOf_13 (fun z => absurd (by decide) z) (fun _ => ?_)
  refine G_iload_n (pc := 16) rfl dX12_restOf_16 ?_
  refine G_aload_n (pc := 17) rfl dX12_restOf_17 ?_
  refine G_iconst (pc := 18) (v := (-1)) (by decide) dX12_restOf_18 ?_
  refine G_callV (pc := 19) (mc1 := 0) (ms1 := 0) (ci := 12) (mj := mX12_goesBy) (vs := [_]) dX12_restOf_19 rfl rfl cm_X12_goesBy wh_72 wh_74 wh_75 rfl (Nat.le_of_ble_eq_true rfl) (Nat.le_of_ble_eq_true rfl) (Nat.le_of_ble_eq_true rfl) (Nat.le_of_ble_eq_true rfl) (s10269_X12_goesBy J d  ) ?_
  rintro _ _ ⟨rfl, rfl⟩
  dsimp only [Option.toList, List.cons_append, List.nil_append]
  refine G_iadd (pc := 22) (z := 0) (by decide) dX12_restOf_22 ?_
  refine G_istore_n (pc := 23) (L1 := [some (.ref 67), some (.int 10), some (.int 0), some (.int 8)]) rfl rfl (by decide) dX12_restOf_23 ?_
  refine G_iinc (pc := 24) (v := 1) (w := 9) (L1 := [some (.ref 67), some (.int 10), some (.int 0), some (.int 9)]) (by decide) rfl rfl (by decide) rfl (by decide) dX12_restOf_24 ?_
  refine G_goto (pc := 27) (tgt := 4) (by decide) dX12_restOf_27 ?_
  refine G_iload_n (pc := 4) rfl dX12_restOf_4 ?_
  refine G_iload_n (pc := 5) rfl dX12_restOf_5 ?_
  refine G_icmp_ge (pc := 6) (tgt := 30) (by decide) dX12_restOf_6 (fun z => absurd z (by decide)) (fun _ => ?_)
  refine G_aload_n (pc := 9) rfl dX12_restOf_9 ?_
  refine G_callV (pc := 10) (mc1 := 0) (ms1 := 0) (ci := 12) (mj := mX12_isOver) (vs := []) dX12_restOf_10 rfl rfl cm_X12_isOver wh_22 wh_24 wh_25 rfl (Nat.le_of_ble_eq_true rfl) (Nat.le_of_ble_eq_true rfl) (Nat.le_of_ble_eq_true rfl) (Nat.le_of_ble_eq_true rfl) (s10271_X12_isOver J (d + 1)  ) ?_
  rintro _ _ ⟨rfl, rfl⟩
  dsimp only [Option.toList, List.cons_append, List.nil_append]
  refine G_if_ne (pc := 13) (tgt := 30) (by decide) dX12_restOf_13 (fun z => absurd (by decide) z) (fun _ => ?_)
  refine G_iload_n (pc := 16) rfl dX12_restOf_16 ?_
  refine G_aload_n (pc := 17) rfl dX12_restOf_17 ?_
  refine G_iconst (pc := 18) (v := (-1)) (by decide) dX12_restOf_18 ?_
  refine G_callV (pc := 19) (mc1 := 0) (ms1 := 0) (ci := 12) (mj := mX12_goesBy) (vs := [_]) dX12_restOf_19 rfl rfl cm_X12_goesBy wh_72 wh_74 wh_75 rfl (Nat.le_of_ble_eq_true rfl) (Nat.le_of_ble_eq_true rfl) (Nat.le_of_ble_eq_true rfl) (Nat.le_of_ble_eq_true rfl) (s10272_X12_goesBy J d  ) ?_
  rintro _ _ ⟨rfl, rfl⟩
  dsimp only [Option.toList, List.cons_append, List.nil_append]
  refine G_iadd (pc := 22) (z := 0) (by decide) dX12_restOf_22 ?_
  refine G_istore_n (pc := 23) (L1 := [some (.ref 67), some (.int 10), some (.int 0), some (.int 9)]) rfl rfl (by decide) dX12_restOf_23 ?_
  refine G_iinc (pc := 24) (v := 1) (w := 10) (L1 := [some (.ref 67), some (.int 10), some (.int 0), some (.int 10)]) (by decide) rfl rfl (by decide) rfl (by decide) dX12_restOf_24 ?_
  refine G_goto (pc := 27) (tgt := 4) (by decide) dX12_restOf_27 ?_
  refine G_iload_n (pc := 4) rfl dX12_restOf_4 ?_
  refine G_iload_n (pc := 5) rfl dX12_restOf_5 ?_
  refine G_icmp_ge (pc := 6) (tgt := 30) (by decide) dX12_restOf_6 (fun _ => ?_) (fun z => absurd (by decide) z)
  refine G_iload_n (pc := 30) rfl dX12_restOf_30 ?_
  exact G_iret (pc := 31) (Nat.le_of_ble_eq_true rfl) (Nat.le_of_ble_eq_true rfl) rfl dX12_restOf_31 ⟨rfl, rfl⟩
set_option maxRecDepth 100000 in
set_option maxHeartbeats 4000000 in
theorem s10292_X12_restOf (J : gI) (d : Nat)   : G (d + 2) mX12_restOf 0 0 0 0 0 (gent 4 [.ref 67, .int 11]) [] SH0 RF0 (gcp (gmx J) 68 70 0 0 65) (fun r h => r = some (.int 0) ∧ h = (SH0, RF0, (gup (gup (gup (gup (gup (gup (gup (gup (gup (gup (gup (gup (gup (gup (gup (gup (gup (gup (gup (gup (gup (gup (gcp (gmx J) 68 70 0 0 65) 68 0 1) 68 2 0) 68 0 2) 68 2 0) 68 0 3) 68 2 0) 68 0 4) 68 2 0) 68 0 5) 68 2 0) 68 0 6) 68 2 0) 68 0 7) 68 2 0) 68 0 8) 68 2 0) 68 0 9) 68 2 0) 68 0 10) 68 2 0) 68 0 11) 68 2 0))) := by
  refine G_iconst (pc := 0) (v := 0) (by decide) dX12_restOf_0 ?_
  refine G_istore_n (pc := 1) (L1 := [some (.ref 67), some (.int 11), some (.int 0), none]) rfl rfl (by decide) dX12_restOf_1 ?_
  refine G_iconst (pc := 2) (v := 0) (by decide) dX12_restOf_2 ?_
  refine G_istore_n (pc := 3) (L1 := [some (.ref 67), some (.int 11), some (.int 0), some (.int 0)]) rfl rfl (by decide) dX12_restOf_3 ?_
  refine G_iload_n (pc := 4) rfl dX12_restOf_4 ?_
  refine G_iload_n (pc := 5) rfl dX12_restOf_5 ?_
  refine G_icmp_ge (pc := 6) (tgt := 30) (by decide) dX12_restOf_6 (fun z => absurd z (by decide)) (fun _ => ?_)
  refine G_aload_n (pc := 9) rfl dX12_restOf_9 ?_
  refine G_callV (pc := 10) (mc1 := 0) (ms1 := 0) (ci := 12) (mj := mX12_isOver) (vs := []) dX12_restOf_10 rfl rfl cm_X12_isOver wh_22 wh_24 wh_25 rfl (Nat.le_of_ble_eq_true rfl) (Nat.le_of_ble_eq_true rfl) (Nat.le_of_ble_eq_true rfl) (Nat.le_of_ble_eq_true rfl) (s10244_X12_isOver J (d + 1)  ) ?_
  rintro _ _ ⟨rfl, rfl⟩
  dsimp only [Option.toList, List.cons_append, List.nil_append]
  refine G_if_ne (pc := 13) (tgt := 30) (by decide) dX12_restOf_13 (fun z => absurd (by decide) z) (fun _ => ?_)
  refine G_iload_n (pc := 16) rfl dX12_restOf_16 ?_
  refine G_aload_n (pc := 17) rfl dX12_restOf_17 ?_
  refine G_iconst (pc := 18) (v := (-1)) (by decide) dX12_restOf_18 ?_
  refine G_callV (pc := 19) (mc1 := 0) (ms1 := 0) (ci := 12) (mj := mX12_goesBy) (vs := [_]) dX12_restOf_19 rfl rfl cm_X12_goesBy wh_72 wh_74 wh_75 rfl (Nat.le_of_ble_eq_true rfl) (Nat.le_of_ble_eq_true rfl) (Nat.le_of_ble_eq_true rfl) (Nat.le_of_ble_eq_true rfl) (s10245_X12_goesBy J d  ) ?_
  rintro _ _ ⟨rfl, rfl⟩
  dsimp only [Option.toList, List.cons_append, List.nil_append]
  refine G_iadd (pc := 22) (z := 0) (by decide) dX12_restOf_22 ?_
  refine G_istore_n (pc := 23) (L1 := [some (.ref 67), some (.int 11), some (.int 0), some (.int 0)]) rfl rfl (by decide) dX12_restOf_23 ?_
  refine G_iinc (pc := 24) (v := 1) (w := 1) (L1 := [some (.ref 67), some (.int 11), some (.int 0), some (.int 1)]) (by decide) rfl rfl (by decide) rfl (by decide) dX12_restOf_24 ?_
  refine G_goto (pc := 27) (tgt := 4) (by decide) dX12_restOf_27 ?_
  refine G_iload_n (pc := 4) rfl dX12_restOf_4 ?_
  refine G_iload_n (pc := 5) rfl dX12_restOf_5 ?_
  refine G_icmp_ge (pc := 6) (tgt := 30) (by decide) dX12_restOf_6 (fun z => absurd z (by decide)) (fun _ => ?_)
  refine G_aload_n (pc := 9) rfl dX12_restOf_9 ?_
  refine G_callV (pc := 10) (mc1 := 0) (ms1 := 0) (ci := 12) (mj := mX12_isOver) (vs := []) dX12_restOf_10 rfl rfl cm_X12_isOver wh_22 wh_24 wh_25 rfl (Nat.le_of_ble_eq_true rfl) (Nat.le_of_ble_eq_true rfl) (Nat.le_of_ble_eq_true rfl) (Nat.le_of_ble_eq_true rfl) (s10247_X12_isOver J (d + 1)  ) ?_
  rintro _ _ ⟨rfl, rfl⟩
  dsimp only [Option.toList, List.cons_append, List.nil_append]
  refine G_if_ne (pc := 13) (tgt := 30) (by decide) dX12_restOf_13 (fun z => absurd (by decide) z) (fun _ => ?_)
  refine G_iload_n (pc := 16) rfl dX12_restOf_16 ?_
  refine G_aload_n (pc := 17) rfl dX12_restOf_17 ?_
  refine G_iconst (pc := 18) (v := (-1)) (by decide) dX12_restOf_18 ?_
  refine G_callV (pc := 19) (mc1 := 0) (ms1 := 0) (ci := 12) (mj := mX12_goesBy) (vs := [_]) dX12_restOf_19 rfl rfl cm_X12_goesBy wh_72 wh_74 wh_75 rfl (Nat.le_of_ble_eq_true rfl) (Nat.le_of_ble_eq_true rfl) (Nat.le_of_ble_eq_true rfl) (Nat.le_of_ble_eq_true rfl) (s10248_X12_goesBy J d  ) ?_
  rintro _ _ ⟨rfl, rfl⟩
  dsimp only [Option.toList, List.cons_append, List.nil_append]
  refine G_iadd (pc := 22) (z := 0) (by decide) dX12_restOf_22 ?_
  refine G_istore_n (pc := 23) (L1 := [some (.ref 67), some (.int 11), some (.int 0), some (.int 1)]) rfl rfl (by decide) dX12_restOf_23 ?_
  refine G_iinc (pc := 24) (v := 1) (w := 2) (L1 := [some (.ref 67), some (.int 11), some (.int 0), some (.int 2)]) (by decide) rfl rfl (by decide) rfl (by decide) dX12_restOf_24 ?_
  refine G_goto (pc := 27) (tgt := 4) (by decide) dX12_restOf_27 ?_
  refine G_iload_n (pc := 4) rfl dX12_restOf_4 ?_
  refine G_iload_n (pc := 5) rfl dX12_restOf_5 ?_
  refine G_icmp_ge (pc := 6) (tgt := 30) (by decide) dX12_restOf_6 (fun z => absurd z (by decide)) (fun _ => ?_)
  refine G_aload_n (pc := 9) rfl dX12_restOf_9 ?_
  refine G_callV (pc := 10) (mc1 := 0) (ms1 := 0) (ci := 12) (mj := mX12_isOver) (vs := []) dX12_restOf_10 rfl rfl cm_X12_isOver wh_22 wh_24 wh_25 rfl (Nat.le_of_ble_eq_true rfl) (Nat.le_of_ble_eq_true rfl) (Nat.le_of_ble_eq_true rfl) (Nat.le_of_ble_eq_true rfl) (s10250_X12_isOver J (d + 1)  ) ?_
  rintro _ _ ⟨rfl, rfl⟩
  dsimp only [Option.toList, List.cons_append, List.nil_append]
  refine G_if_ne (pc := 13) (tgt := 30) (by decide) dX12_restOf_13 (fun z => absurd (by decide) z) (fun _ => ?_)
  refine G_iload_n (pc := 16) rfl dX12_restOf_16 ?_
  refine G_aload_n (pc := 17) rfl dX12_restOf_17 ?_
  refine G_iconst (pc := 18) (v := (-1)) (by decide) dX12_restOf_18 ?_
  refine G_callV (pc := 19) (mc1 := 0) (ms1 := 0) (ci := 12) (mj := mX12_goesBy) (vs := [_]) dX12_restOf_19 rfl rfl cm_X12_goesBy wh_72 wh_74 wh_75 rfl (Nat.le_of_ble_eq_true rfl) (Nat.le_of_ble_eq_true rfl) (Nat.le_of_ble_eq_true rfl) (Nat.le_of_ble_eq_true rfl) (s10251_X12_goesBy J d  ) ?_
  rintro _ _ ⟨rfl, rfl⟩
  dsimp only [Option.toList, List.cons_append, List.nil_append]
  refine G_iadd (pc := 22) (z := 0) (by decide) dX12_restOf_22 ?_
  refine G_istore_n (pc := 23) (L1 := [some (.ref 67), some (.int 11), some (.int 0), some (.int 2)]) rfl rfl (by decide) dX12_restOf_23 ?_
  refine G_iinc (pc := 24) (v := 1) (w := 3) (L1 := [some (.ref 67), some (.int 11), some (.int 0), some (.int 3)]) (by decide) rfl rfl (by decide) rfl (by decide) dX12_restOf_24 ?_
  refine G_goto (pc := 27) (tgt := 4) (by decide) dX12_restOf_27 ?_
  refine G_iload_n (pc := 4) rfl dX12_restOf_4 ?_
  refine G_iload_n (pc := 5) rfl dX12_restOf_5 ?_
  refine G_icmp_ge (pc := 6) (tgt := 30) (by decide) dX12_restOf_6 (fun z => absurd z (by decide)) (fun _ => ?_)
  refine G_aload_n (pc := 9) rfl dX12_restOf_9 ?_
  refine G_callV (pc := 10) (mc1 := 0) (ms1 := 0) (ci := 12) (mj := mX12_isOver) (vs := []) dX12_restOf_10 rfl rfl cm_X12_isOver wh_22 wh_24 wh_25 rfl (Nat.le_of_ble_eq_true rfl) (Nat.le_of_ble_eq_true rfl) (Nat.le_of_ble_eq_true rfl) (Nat.le_of_ble_eq_true rfl) (s10253_X12_isOver J (d + 1)  ) ?_
  rintro _ _ ⟨rfl, rfl⟩
  dsimp only [Option.toList, List.cons_append, List.nil_append]
  refine G_if_ne (pc := 13) (tgt := 30) (by decide) dX12_restOf_13 (fun z => absurd (by decide) z) (fun _ => ?_)
  refine G_iload_n (pc := 16) rfl dX12_restOf_16 ?_
  refine G_aload_n (pc := 17) rfl dX12_restOf_17 ?_
  refine G_iconst (pc := 18) (v := (-1)) (by decide) dX12_restOf_18 ?_
  refine G_callV (pc := 19) (mc1 := 0) (ms1 := 0) (ci := 12) (mj := mX12_goesBy) (vs := [_]) dX12_restOf_19 rfl rfl cm_X12_goesBy wh_72 wh_74 wh_75 rfl (Nat.le_of_ble_eq_true rfl) (Nat.le_of_ble_eq_true rfl) (Nat.le_of_ble_eq_true rfl) (Nat.le_of_ble_eq_true rfl) (s10254_X12_goesBy J d  ) ?_
  rintro _ _ ⟨rfl, rfl⟩
  dsimp only [Option.toList, List.cons_append, List.nil_append]
  refine G_iadd (pc := 22) (z := 0) (by decide) dX12_restOf_22 ?_
  refine G_istore_n (pc := 23) (L1 := [some (.ref 67), some (.int 11), some (.int 0), some (.int 3)]) rfl rfl (by decide) dX12_restOf_23 ?_
  refine G_iinc (pc := 24) (v := 1) (w := 4) (L1 := [some (.ref 67), some (.int 11), some (.int 0), some (.int 4)]) (by decide) rfl rfl (by decide) rfl (by decide) dX12_restOf_24 ?_
  refine G_goto (pc := 27) (tgt := 4) (by decide) dX12_restOf_27 ?_
  refine G_iload_n (pc := 4) rfl dX12_restOf_4 ?_
  refine G_iload_n (pc := 5) rfl dX12_restOf_5 ?_
  refine G_icmp_ge (pc := 6) (tgt := 30) (by decide) dX12_restOf_6 (fun z => absurd z (by decide)) (fun _ => ?_)
  refine G_aload_n (pc := 9) rfl dX12_restOf_9 ?_
  refine G_callV (pc := 10) (mc1 := 0) (ms1 := 0) (ci := 12) (mj := mX12_isOver) (vs := []) dX12_restOf_10 rfl rfl cm_X12_isOver wh_22 wh_24 wh_25 rfl (Nat.le_of_ble_eq_true rfl) (Nat.le_of_ble_eq_true rfl) (Nat.le_of_ble_eq_true rfl) (Nat.le_of_ble_eq_true rfl) (s10256_X12_isOver J (d + 1)  ) ?_
  rintro _ _ ⟨rfl, rfl⟩
  dsimp only [Option.toList, List.cons_append, List.nil_append]
  refine G_if_ne (pc := 13) (tgt := 30) (by decide) dX12_restOf_13 (fun z => absurd (by decide) z) (fun _ => ?_)
  refine G_iload_n (pc := 16) rfl dX12_restOf_16 ?_
  refine G_aload_n (pc := 17) rfl dX12_restOf_17 ?_
  refine G_iconst (pc := 18) (v := (-1)) (by decide) dX12_restOf_18 ?_
  refine G_callV (pc := 19) (mc1 := 0) (ms1 := 0) (ci := 12) (mj := mX12_goesBy) (vs := [_]) dX12_restOf_19 rfl rfl cm_X12_goesBy wh_72 wh_74 wh_75 rfl (Nat.le_of_ble_eq_true rfl) (Nat.le_of_ble_eq_true rfl) (Nat.le_of_ble_eq_true rfl) (Nat.le_of_ble_eq_true rfl) (s10257_X12_goesBy J d  ) ?_
  rintro _ _ ⟨rfl, rfl⟩
  dsimp only [Option.toList, List.cons_append, List.nil_append]
  refine G_iadd (pc := 22) (z := 0) (by decide) dX12_restOf_22 ?_
  refine G_istore_n (pc := 23) (L1 := [some (.ref 67), some (.int 11), some (.int 0), some (.int 4)]) rfl rfl (by decide) dX12_restOf_23 ?_
  refine G_iinc (pc := 24) (v := 1) (w := 5) (L1 := [some (.ref 67), some (.int 11), some (.int 0), some (.int 5)]) (by decide) rfl rfl (by decide) rfl (by decide) dX12_restOf_24 ?_
  refine G_goto (pc := 27) (tgt := 4) (by decide) dX12_restOf_27 ?_
  refine G_iload_n (pc := 4) rfl dX12_restOf_4 ?_
  refine G_iload_n (pc := 5) rfl dX12_restOf_5 ?_
  refine G_icmp_ge (pc := 6) (tgt := 30) (by decide) dX12_restOf_6 (fun z => absurd z (by decide)) (fun _ => ?_)
  refine G_aload_n (pc := 9) rfl dX12_restOf_9 ?_
  refine G_callV (pc := 10) (mc1 := 0) (ms1 := 0) (ci := 12) (mj := mX12_isOver) (vs := []) dX12_restOf_10 rfl rfl cm_X12_isOver wh_22 wh_24 wh_25 rfl (Nat.le_of_ble_eq_true rfl) (Nat.le_of_ble_eq_true rfl) (Nat.le_of_ble_eq_true rfl) (Nat.le_of_ble_eq_true rfl) (s10259_X12_isOver J (d + 1)  ) ?_
  rintro _ _ ⟨rfl, rfl⟩
  dsimp only [Option.toList, List.cons_append, List.nil_append]
  refine G_if_ne (pc := 13) (tgt := 30) (by decide) dX12_restOf_13 (fun z => absurd (by decide) z) (fun _ => ?_)
  refine G_iload_n (pc := 16) rfl dX12_restOf_16 ?_
  refine G_aload_n (pc := 17) rfl dX12_restOf_17 ?_
  refine G_iconst (pc := 18) (v := (-1)) (by decide) dX12_restOf_18 ?_
  refine G_callV (pc := 19) (mc1 := 0) (ms1 := 0) (ci := 12) (mj := mX12_goesBy) (vs := [_]) dX12_restOf_19 rfl rfl cm_X12_goesBy wh_72 wh_74 wh_75 rfl (Nat.le_of_ble_eq_true rfl) (Nat.le_of_ble_eq_true rfl) (Nat.le_of_ble_eq_true rfl) (Nat.le_of_ble_eq_true rfl) (s10260_X12_goesBy J d  ) ?_
  rintro _ _ ⟨rfl, rfl⟩
  dsimp only [Option.toList, List.cons_append, List.nil_append]
  refine G_iadd (pc := 22) (z := 0) (by decide) dX12_restOf_22 ?_
  refine G_istore_n (pc := 23) (L1 := [some (.ref 67), some (.int 11), some (.int 0), some (.int 5)]) rfl rfl (by decide) dX12_restOf_23 ?_
  refine G_iinc (pc := 24) (v := 1) (w := 6) (L1 := [some (.ref 67), some (.int 11), some (.int 0), some (.int 6)]) (by decide) rfl rfl (by decide) rfl (by decide) dX12_restOf_24 ?_
  refine G_goto (pc := 27) (tgt := 4) (by decide) dX12_restOf_27 ?_
  refine G_iload_n (pc := 4) rfl dX12_restOf_4 ?_
  refine G_iload_n (pc := 5) rfl dX12_restOf_5 ?_
  refine G_icmp_ge (pc := 6) (tgt := 30) (by decide) dX12_restOf_6 (fun z => absurd z (by decide)) (fun _ => ?_)
  refine G_aload_n (pc := 9) rfl dX12_restOf_9 ?_
  refine G_callV (pc := 10) (mc1 := 0) (ms1 := 0) (ci := 12) (mj := mX12_isOver) (vs := []) dX12_restOf_10 rfl rfl cm_X12_isOver wh_22 wh_24 wh_25 rfl (Nat.le_of_ble_eq_true rfl) (Nat.le_of_ble_eq_true rfl) (Nat.le_of_ble_eq_true rfl) (Nat.le_of_ble_eq_true rfl) (s10262_X12_isOver J (d + 1)  ) ?_
  rintro _ _ ⟨rfl, rfl⟩
  dsimp only [Option.toList, List.cons_append, List.nil_append]
  refine G_if_ne (pc := 13) (tgt := 30) (by decide) dX12_restOf_13 (fun z => absurd (by decide) z) (fun _ => ?_)
  refine G_iload_n (pc := 16) rfl dX12_restOf_16 ?_
  refine G_aload_n (pc := 17) rfl dX12_restOf_17 ?_
  refine G_iconst (pc := 18) (v := (-1)) (by decide) dX12_restOf_18 ?_
  refine G_callV (pc := 19) (mc1 := 0) (ms1 := 0) (ci := 12) (mj := mX12_goesBy) (vs := [_]) dX12_restOf_19 rfl rfl cm_X12_goesBy wh_72 wh_74 wh_75 rfl (Nat.le_of_ble_eq_true rfl) (Nat.le_of_ble_eq_true rfl) (Nat.le_of_ble_eq_true rfl) (Nat.le_of_ble_eq_true rfl) (s10263_X12_goesBy J d  ) ?_
  rintro _ _ ⟨rfl, rfl⟩
  dsimp only [Option.toList, List.cons_append, List.nil_append]
  refine G_iadd (pc := 22) (z := 0) (by decide) dX12_restOf_22 ?_
  refine G_istore_n (pc := 23) (L1 := [some (.ref 67), some (.int 11), some (.int 0), some (.int 6)]) rfl rfl (by decide) dX12_restOf_23 ?_
  refine G_iinc (pc := 24) (v := 1) (w := 7) (L1 := [some (.ref 67), some (.int 11), some (.int 0), some (.int 7)]) (by decide) rfl rfl (by decide) rfl (by decide) dX12_restOf_24 ?_
  refine G_goto (pc := 27) (tgt := 4) (by decide) dX12_restOf_27 ?_
  refine G_iload_n (pc := 4) rfl dX12_restOf_4 ?_
  refine G_iload_n (pc := 5) rfl dX12_restOf_5 ?_
  refine G_icmp_ge (pc := 6) (tgt := 30) (by decide) dX12_restOf_6 (fun z => absurd z (by decide)) (fun _ => ?_)
  refine G_aload_n (pc := 9) rfl dX12_restOf_9 ?_
  refine G_callV (pc := 10) (mc1 := 0) (ms1 := 0) (ci := 12) (mj := mX12_isOver) (vs := []) dX12_restOf_10 rfl rfl cm_X12_isOver wh_22 wh_24 wh_25 rfl (Nat.le_of_ble_eq_true rfl) (Nat.le_of_ble_eq_true rfl) (Nat.le_of_ble_eq_true rfl) (Nat.le_of_ble_eq_true rfl) (s10265_X12_isOver J (d + 1)  ) ?_
  rintro _ _ ⟨rfl, rfl⟩
  dsimp only [Option.toList, List.cons_append, List.nil_append]
  refine G_if_ne (pc := 13) (tgt := 30) (by decide) dX12_restOf_13 (fun z => absurd (by decide) z) (fun _ => ?_)
  refine G_iload_n (pc := 16) rfl dX12_restOf_16 ?_
  refine G_aload_n (pc := 17) rfl dX12_restOf_17 ?_
  refine G_iconst (pc := 18) (v := (-1)) (by decide) dX12_restOf_18 ?_
  refine G_callV (pc := 19) (mc1 := 0) (ms1 := 0) (ci := 12) (mj := mX12_goesBy) (vs := [_]) dX12_restOf_19 rfl rfl cm_X12_goesBy wh_72 wh_74 wh_75 rfl (Nat.le_of_ble_eq_true rfl) (Nat.le_of_ble_eq_true rfl) (Nat.le_of_ble_eq_true rfl) (Nat.le_of_ble_eq_true rfl) (s10266_X12_goesBy J d  ) ?_
  rintro _ _ ⟨rfl, rfl⟩
  dsimp only [Option.toList, List.cons_append, List.nil_append]
  refine G_iadd (pc := 22) (z := 0) (by decide) dX12_restOf_22 ?_
  refine G_istore_n (pc := 23) (L1 := [some (.ref 67), some (.int 11), some (.int 0), some (.int 7)]) rfl rfl (by decide) dX12_restOf_23 ?_
  refine G_iinc (pc := 24) (v := 1) (w := 8) (L1 := [some (.ref 67), some (.int 11), some (.int 0), some (.int 8)]) (by decide) rfl rfl (by decide) rfl (by decide) dX12_restOf_24 ?_
  refine G_goto (pc := 27) (tgt := 4) (by decide) dX12_restOf_27 ?_
  refine G_iload_n (pc := 4) rfl dX12_restOf_4 ?_
  refine G_iload_n (pc := 5) rfl dX12_restOf_5 ?_
  refine G_icmp_ge (pc := 6) (tgt := 30) (by decide) dX12_restOf_6 (fun z => absurd z (by decide)) (fun _ => ?_)
  refine G_aload_n (pc := 9) rfl dX12_restOf_9 ?_
  refine G_callV (pc := 10) (mc1 := 0) (ms1 := 0) (ci := 12) (mj := mX12_isOver) (vs := []) dX12_restOf_10 rfl rfl cm_X12_isOver wh_22 wh_24 wh_25 rfl (Nat.le_of_ble_eq_true rfl) (Nat.le_of_ble_eq_true rfl) (Nat.le_of_ble_eq_true rfl) (Nat.le_of_ble_eq_true rfl) (s10268_X12_isOver J (d + 1)  ) ?_
  rintro _ _ ⟨rfl, rfl⟩
  dsimp only [Option.toList, List.cons_append, List.nil_append]
  refine G_if_ne (pc := 13) (tgt := 30) (by decide) dX12_restOf_13 (fun z => absurd (by decide) z) (fun _ => ?_)
  refine G_iload_n (pc := 16) rfl dX12_restOf_16 ?_
  refine G_aload_n (pc := 17) rfl dX12_restOf_17 ?_
  refine G_iconst (pc := 18) (v := (-1)) (by decide) dX12_restOf_18 ?_
  refine G_callV (pc := 19) (mc1 := 0) (ms1 := 0) (ci := 12) (mj := mX12_goesBy) (vs := [_]) dX12_restOf_19 rfl rfl cm_X12_goesBy wh_72 wh_74 wh_75 rfl (Nat.le_of_ble_eq_true rfl) (Nat.le_of_ble_eq_true rfl) (Nat.le_of_ble_eq_true rfl) (Nat.le_of_ble_eq_true rfl) (s10269_X12_goesBy J d  ) ?_
  rintro _ _ ⟨rfl, rfl⟩
  dsimp only [Option.toList, List.cons_append, List.nil_append]
  refine G_iadd (pc := 22) (z := 0) (by decide) dX12_restOf_22 ?_
  refine G_istore_n (pc := 23) (L1 := [some (.ref 67), some (.int 11), some (.int 0), some (.int 8)]) rfl rfl (by decide) dX12_restOf_23 ?_
  refine G_iinc (pc := 24) (v := 1) (w := 9) (L1 := [some (.ref 67), some (.int 11), some (.int 0), some (.int 9)]) (by decide) rfl rfl (by decide) rfl (by decide) dX12_restOf_24 ?_
  refine G_goto (pc := 27) (tgt := 4) (by decide) dX12_restOf_27 ?_
  refine G_iload_n (pc := 4) rfl dX12_restOf_4 ?_
  refine G_iload_n (pc := 5) rfl dX12_restOf_5 ?_
  refine G_icmp_ge (pc := 6) (tgt := 30) (by decide) dX12_restOf_6 (fun z => absurd z (by decide)) (fun _ => ?_)
  refine G_aload_n (pc := 9) rfl dX12_restOf_9 ?_
  refine G_callV (pc := 10) (mc1 := 0) (ms1 := 0) (ci := 12) (mj := mX12_isOver) (vs := []) dX12_restOf_10 rfl rfl cm_X12_isOver wh_22 wh_24 wh_25 rfl (Nat.le_of_ble_eq_true rfl) (Nat.le_of_ble_eq_true rfl) (Nat.le_of_ble_eq_true rfl) (Nat.le_of_ble_eq_true rfl) (s10271_X12_isOver J (d + 1)  ) ?_
  rintro _ _ ⟨rfl, rfl⟩
  dsimp only [Option.toList, List.cons_append, List.nil_append]
  refine G_if_ne (pc := 13) (tgt := 30) (by decide) dX12_restOf_13 (fun z => absurd (by decide) z) (fun _ => ?_)
  refine G_iload_n (pc := 16) rfl dX12_restOf_16 ?_
  refine G_aload_n (pc := 17) rfl dX12_restOf_17 ?_
  refine G_iconst (pc := 18) (v := (-1)) (by decide) dX12_restOf_18 ?_
  refine G_callV (pc := 19) (mc1 := 0) (ms1 := 0) (ci := 12) (mj := mX12_goesBy) (vs := [_]) dX12_restOf_19 rfl rfl cm_X12_goesBy wh_72 wh_74 wh_75 rfl (Nat.le_of_ble_eq_true rfl) (Nat.le_of_ble_eq_true rfl) (Nat.le_of_ble_eq_true rfl) (Nat.le_of_ble_eq_true rfl) (s10272_X12_goesBy J d  ) ?_
  rintro _ _ ⟨rfl, rfl⟩
  dsimp only [Option.toList, List.cons_append, List.nil_append]
  refine G_iadd (pc := 22) (z := 0) (by decide) dX12_restOf_22 ?_
  refine G_istore_n (pc := 23) (L1 := [some (.ref 67), some (.int 11), some (.int 0), some (.int 9)]) rfl rfl (by decide) dX12_restOf_23 ?_
  refine G_iinc (pc := 24) (v := 1) (w := 10) (L1 := [some (.ref 67), some (.int 11), some (.int 0), some (.int 10)]) (by decide) rfl rfl (by decide) rfl (by decide) dX12_restOf_24 ?_
  refine G_goto (pc := 27) (tgt := 4) (by decide) dX12_restOf_27 ?_
  refine G_iload_n (pc := 4) rfl dX12_restOf_4 ?_
  refine G_iload_n (pc := 5) rfl dX12_restOf_5 ?_
  refine G_icmp_ge (pc := 6) (tgt := 30) (by decide) dX12_restOf_6 (fun z => absurd z (by decide)) (fun _ => ?_)
  refine G_aload_n (pc := 9) rfl dX12_restOf_9 ?_
  refine G_callV (pc := 10) (mc1 := 0) (ms1 := 0) (ci := 12) (mj := mX12_isOver) (vs := []) dX12_restOf_10 rfl rfl cm_X12_isOver wh_22 wh_24 wh_25 rfl (Nat.le_of_ble_eq_true rfl) (Nat.le_of_ble_eq_true rfl) (Nat.le_of_ble_eq_true rfl) (Nat.le_of_ble_eq_true rfl) (s10274_X12_isOver J (d + 1)  ) ?_
  rintro _ _ ⟨rfl, rfl⟩
  dsimp only [Option.toList, List.cons_append, List.nil_append]
  refine G_if_ne (pc := 13) (tgt := 30) (by decide) dX12_restOf_13 (fun z => absurd (by decide) z) (fun _ => ?_)
  refine G_iload_n (pc := 16) rfl dX12_restOf_16 ?_
  refine G_aload_n (pc := 17) rfl dX12_restOf_17 ?_
  refine G_iconst (pc := 18) (v := (-1)) (by decide) dX12_restOf_18 ?_
  refine G_callV (pc := 19) (mc1 := 0) (ms1 := 0) (ci := 12) (mj := mX12_goesBy) (vs := [_]) dX12_restOf_19 rfl rfl cm_X12_goesBy wh_72 wh_74 wh_75 rfl (Nat.le_of_ble_eq_true rfl) (Nat.le_of_ble_eq_true rfl) (Nat.le_of_ble_eq_true rfl) (Nat.le_of_ble_eq_true rfl) (s10275_X12_goesBy J d  ) ?_
  rintro _ _ ⟨rfl, rfl⟩
  dsimp only [Option.toList, List.cons_append, List.nil_append]
  refine G_iadd (pc := 22) (z := 0) (by decide) dX12_restOf_22 ?_
  refine G_istore_n (pc := 23) (L1 := [some (.ref 67), some (.int 11), some (.int 0), some (.int 10)]) rfl rfl (by decide) dX12_restOf_23 ?_
  refine G_iinc (pc := 24) (v := 1) (w := 11) (L1 := [some (.ref 67), some (.int 11), some (.int 0), some (.int 11)]) (by decide) rfl rfl (by decide) rfl (by decide) dX12_restOf_24 ?_
  refine G_goto (pc := 27) (tgt := 4) (by decide) dX12_restOf_27 ?_
  refine G_iload_n (pc := 4) rfl dX12_restOf_4 ?_
  refine G_iload_n (pc := 5) rfl dX12_restOf_5 ?_
  refine G_icmp_ge (pc := 6) (tgt := 30) (by decide) dX12_restOf_6 (fun _ => ?_) (fun z => absurd (by decide) z)
  refine G_iload_n (pc := 30) rfl dX12_restOf_30 ?_
  exact G_iret (pc := 31) (Nat.le_of_ble_eq_true rfl) (Nat.le_of_ble_eq_true rfl) rfl dX12_restOf_31 ⟨rfl, rfl⟩
set_option maxRecDepth 100000 in
set_option maxHeartbeats 4000000 in
theorem s10293_X12_restOf (J : gI) (d : Nat)   : G (d + 2) mX12_restOf 0 0 0 0 0 (gent 4 [.ref 67, .int 12]) [] SH0 RF0 (gcp (gmx J) 68 70 0 0 65) (fun r h => r = some (.int 0) ∧ h = (SH0, RF0, (gup (gup (gup (gup (gup (gup (gup (gup (gup (gup (gup (gup (gup (gup (gup (gup (gup (gup (gup (gup (gup (gup (gup (gup (gcp (gmx J) 68 70 0 0 65) 68 0 1) 68 2 0) 68 0 2) 68 2 0) 68 0 3) 68 2 0) 68 0 4) 68 2 0) 68 0 5) 68 2 0) 68 0 6) 68 2 0) 68 0 7) 68 2 0) 68 0 8) 68 2 0) 68 0 9) 68 2 0) 68 0 10) 68 2 0) 68 0 11) 68 2 0) 68 0 12) 68 2 0))) := by
  refine G_iconst (pc := 0) (v := 0) (by decide) dX12_restOf_0 ?_
  refine G_istore_n (pc := 1) (L1 := [some (.ref 67), some (.int 12), some (.int 0), none]) rfl rfl (by decide) dX12_restOf_1 ?_
  refine G_iconst (pc := 2) (v := 0) (by decide) dX12_restOf_2 ?_
  refine G_istore_n (pc := 3) (L1 := [some (.ref 67), some (.int 12), some (.int 0), some (.int 0)]) rfl rfl (by decide) dX12_restOf_3 ?_
  refine G_iload_n (pc := 4) rfl dX12_restOf_4 ?_
  refine G_iload_n (pc := 5) rfl dX12_restOf_5 ?_
  refine G_icmp_ge (pc := 6) (tgt := 30) (by decide) dX12_restOf_6 (fun z => absurd z (by decide)) (fun _ => ?_)
  refine G_aload_n (pc := 9) rfl dX12_restOf_9 ?_
  refine G_callV (pc := 10) (mc1 := 0) (ms1 := 0) (ci := 12) (mj := mX12_isOver) (vs := []) dX12_restOf_10 rfl rfl cm_X12_isOver wh_22 wh_24 wh_25 rfl (Nat.le_of_ble_eq_true rfl) (Nat.le_of_ble_eq_true rfl) (Nat.le_of_ble_eq_true rfl) (Nat.le_of_ble_eq_true rfl) (s10244_X12_isOver J (d + 1)  ) ?_
  rintro _ _ ⟨rfl, rfl⟩
  dsimp only [Option.toList, List.cons_append, List.nil_append]
  refine G_if_ne (pc := 13) (tgt := 30) (by decide) dX12_restOf_13 (fun z => absurd (by decide) z) (fun _ => ?_)
  refine G_iload_n (pc := 16) rfl dX12_restOf_16 ?_
  refine G_aload_n (pc := 17) rfl dX12_restOf_17 ?_
  refine G_iconst (pc := 18) (v := (-1)) (by decide) dX12_restOf_18 ?_
  refine G_callV (pc := 19) (mc1 := 0) (ms1 := 0) (ci := 12) (mj := mX12_goesBy) (vs := [_]) dX12_restOf_19 rfl rfl cm_X12_goesBy wh_72 wh_74 wh_75 rfl (Nat.le_of_ble_eq_true rfl) (Nat.le_of_ble_eq_true rfl) (Nat.le_of_ble_eq_true rfl) (Nat.le_of_ble_eq_true rfl) (s10245_X12_goesBy J d  ) ?_
  rintro _ _ ⟨rfl, rfl⟩
  dsimp only [Option.toList, List.cons_append, List.nil_append]
  refine G_iadd (pc := 22) (z := 0) (by decide) dX12_restOf_22 ?_
  refine G_istore_n (pc := 23) (L1 := [some (.ref 67), some (.int 12), some (.int 0), some (.int 0)]) rfl rfl (by decide) dX12_restOf_23 ?_
  refine G_iinc (pc := 24) (v := 1) (w := 1) (L1 := [some (.ref 67), some (.int 12), some (.int 0), some (.int 1)]) (by decide) rfl rfl (by decide) rfl (by decide) dX12_restOf_24 ?_
  refine G_goto (pc := 27) (tgt := 4) (by decide) dX12_restOf_27 ?_
  refine G_iload_n (pc := 4) rfl dX12_restOf_4 ?_
  refine G_iload_n (pc := 5) rfl dX12_restOf_5 ?_
  refine G_icmp_ge (pc := 6) (tgt := 30) (by decide) dX12_restOf_6 (fun z => absurd z (by decide)) (fun _ => ?_)
  refine G_aload_n (pc := 9) rfl dX12_restOf_9 ?_
  refine G_callV (pc := 10) (mc1 := 0) (ms1 := 0) (ci := 12) (mj := mX12_isOver) (vs := []) dX12_restOf_10 rfl rfl cm_X12_isOver wh_22 wh_24 wh_25 rfl (Nat.le_of_ble_eq_true rfl) (Nat.le_of_ble_eq_true rfl) (Nat.le_of_ble_eq_true rfl) (Nat.le_of_ble_eq_true rfl) (s10247_X12_isOver J (d + 1)  ) ?_
  rintro _ _ ⟨rfl, rfl⟩
  dsimp only [Option.toList, List.cons_append, List.nil_append]
  refine G_if_ne (pc := 13) (tgt := 30) (by decide) dX12_restOf_13 (fun z => absurd (by decide) z) (fun _ => ?_)
  refine G_iload_n (pc := 16) rfl dX12_restOf_16 ?_
  refine G_aload_n (pc := 17) rfl dX12_restOf_17 ?_
  refine G_iconst (pc := 18) (v := (-1)) (by decide) dX12_restOf_18 ?_
  refine G_callV (pc := 19) (mc1 := 0) (ms1 := 0) (ci := 12) (mj := mX12_goesBy) (vs := [_]) dX12_restOf_19 rfl rfl cm_X12_goesBy wh_72 wh_74 wh_75 rfl (Nat.le_of_ble_eq_true rfl) (Nat.le_of_ble_eq_true rfl) (Nat.le_of_ble_eq_true rfl) (Nat.le_of_ble_eq_true rfl) (s10248_X12_goesBy J d  ) ?_
  rintro _ _ ⟨rfl, rfl⟩
  dsimp only [Option.toList, List.cons_append, List.nil_append]
  refine G_iadd (pc := 22) (z := 0) (by decide) dX12_restOf_22 ?_
  refine G_istore_n (pc := 23) (L1 := [some (.ref 67), some (.int 12), some (.int 0), some (.int 1)]) rfl rfl (by decide) dX12_restOf_23 ?_
  refine G_iinc (pc := 24) (v := 1) (w := 2) (L1 := [some (.ref 67), some (.int 12), some (.int 0), some (.int 2)]) (by decide) rfl rfl (by decide) rfl (by decide) dX12_restOf_24 ?_
  refine G_goto (pc := 27) (tgt := 4) (by decide) dX12_restOf_27 ?_
  refine G_iload_n (pc := 4) rfl dX12_restOf_4 ?_
  refine G_iload_n (pc := 5) rfl dX12_restOf_5 ?_
  refine G_icmp_ge (pc := 6) (tgt := 30) (by decide) dX12_restOf_6 (fun z => absurd z (by decide)) (fun _ => ?_)
  refine G_aload_n (pc := 9) rfl dX12_restOf_9 ?_
  refine G_callV (pc := 10) (mc1 := 0) (ms1 := 0) (ci := 12) (mj := mX12_isOver) (vs := []) dX12_restOf_10 rfl rfl cm_X12_isOver wh_22 wh_24 wh_25 rfl (Nat.le_of_ble_eq_true rfl) (Nat.le_of_ble_eq_true rfl) (Nat.le_of_ble_eq_true rfl) (Nat.le_of_ble_eq_true rfl) (s10250_X12_isOver J (d + 1)  ) ?_
  rintro _ _ ⟨rfl, rfl⟩
  dsimp only [Option.toList, List.cons_append, List.nil_append]
  refine G_if_ne (pc := 13) (tgt := 30) (by decide) dX12_restOf_13 (fun z => absurd (by decide) z) (fun _ => ?_)
  refine G_iload_n (pc := 16) rfl dX12_restOf_16 ?_
  refine G_aload_n (pc := 17) rfl dX12_restOf_17 ?_
  refine G_iconst (pc := 18) (v := (-1)) (by decide) dX12_restOf_18 ?_
  refine G_callV (pc := 19) (mc1 := 0) (ms1 := 0) (ci := 12) (mj := mX12_goesBy) (vs := [_]) dX12_restOf_19 rfl rfl cm_X12_goesBy wh_72 wh_74 wh_75 rfl (Nat.le_of_ble_eq_true rfl) (Nat.le_of_ble_eq_true rfl) (Nat.le_of_ble_eq_true rfl) (Nat.le_of_ble_eq_true rfl) (s10251_X12_goesBy J d  ) ?_
  rintro _ _ ⟨rfl, rfl⟩
  dsimp only [Option.toList, List.cons_append, List.nil_append]
  refine G_iadd (pc := 22) (z := 0) (by decide) dX12_restOf_22 ?_
  refine G_istore_n (pc := 23) (L1 := [some (.ref 67), some (.int 12), some (.int 0), some (.int 2)]) rfl rfl (by decide) dX12_restOf_23 ?_
  refine G_iinc (pc := 24) (v := 1) (w := 3) (L1 := [some (.ref 67), some (.int 12), some (.int 0), some (.int 3)]) (by decide) rfl rfl (by decide) rfl (by decide) dX12_restOf_24 ?_
  refine G_goto (pc := 27) (tgt := 4) (by decide) dX12_restOf_27 ?_
  refine G_iload_n (pc := 4) rfl dX12_restOf_4 ?_
  refine G_iload_n (pc := 5) rfl dX12_restOf_5 ?_
  refine G_icmp_ge (pc := 6) (tgt := 30) (by decide) dX12_restOf_6 (fun z => absurd z (by decide)) (fun _ => ?_)
  refine G_aload_n (pc := 9) rfl dX12_restOf_9 ?_
  refine G_callV (pc := 10) (mc1 := 0) (ms1 := 0) (ci := 12) (mj := mX12_isOver) (vs := []) dX12_restOf_10 rfl rfl cm_X12_isOver wh_22 wh_24 wh_25 rfl (Nat.le_of_ble_eq_true rfl) (Nat.le_of_ble_eq_true rfl) (Nat.le_of_ble_eq_true rfl) (Nat.le_of_ble_eq_true rfl) (s10253_X12_isOver J (d + 1)  ) ?_
  rintro _ _ ⟨rfl, rfl⟩
  dsimp only [Option.toList, List.cons_append, List.nil_append]
  refine G_if_ne (pc := 13) (tgt := 30) (by decide) dX12_restOf_13 (fun z => absurd (by decide) z) (fun _ => ?_)
  refine G_iload_n (pc := 16) rfl dX12_restOf_16 ?_
  refine G_aload_n (pc := 17) rfl dX12_restOf_17 ?_
  refine G_iconst (pc := 18) (v := (-1)) (by decide) dX12_restOf_18 ?_
  refine G_callV (pc := 19) (mc1 := 0) (ms1 := 0) (ci := 12) (mj := mX12_goesBy) (vs := [_]) dX12_restOf_19 rfl rfl cm_X12_goesBy wh_72 wh_74 wh_75 rfl (Nat.le_of_ble_eq_true rfl) (Nat.le_of_ble_eq_true rfl) (Nat.le_of_ble_eq_true rfl) (Nat.le_of_ble_eq_true rfl) (s10254_X12_goesBy J d  ) ?_
  rintro _ _ ⟨rfl, rfl⟩
  dsimp only [Option.toList, List.cons_append, List.nil_append]
  refine G_iadd (pc := 22) (z := 0) (by decide) dX12_restOf_22 ?_
  refine G_istore_n (pc := 23) (L1 := [some (.ref 67), some (.int 12), some (.int 0), some (.int 3)]) rfl rfl (by decide) dX12_restOf_23 ?_
  refine G_iinc (pc := 24) (v := 1) (w := 4) (L1 := [some (.ref 67), some (.int 12), some (.int 0), some (.int 4)]) (by decide) rfl rfl (by decide) rfl (by decide) dX12_restOf_24 ?_
  refine G_goto (pc := 27) (tgt := 4) (by decide) dX12_restOf_27 ?_
  refine G_iload_n (pc := 4) rfl dX12_restOf_4 ?_
  refine G_iload_n (pc := 5) rfl dX12_restOf_5 ?_
  refine G_icmp_ge (pc := 6) (tgt := 30) (by decide) dX12_restOf_6 (fun z => absurd z (by decide)) (fun _ => ?_)
  refine G_aload_n (pc := 9) rfl dX12_restOf_9 ?_
  refine G_callV (pc := 10) (mc1 := 0) (ms1 := 0) (ci := 12) (mj := mX12_isOver) (vs := []) dX12_restOf_10 rfl rfl cm_X12_isOver wh_22 wh_24 wh_25 rfl (Nat.le_of_ble_eq_true rfl) (Nat.le_of_ble_eq_true rfl) (Nat.le_of_ble_eq_true rfl) (Nat.le_of_ble_eq_true rfl) (s10256_X12_isOver J (d + 1)  ) ?_
  rintro _ _ ⟨rfl, rfl⟩
  dsimp only [Option.toList, List.cons_append, List.nil_append]
  refine G_if_ne (pc := 13) (tgt := 30) (by decide) dX12_restOf_13 (fun z => absurd (by decide) z) (fun _ => ?_)
  refine G_iload_n (pc := 16) rfl dX12_restOf_16 ?_
  refine G_aload_n (pc := 17) rfl dX12_restOf_17 ?_
  refine G_iconst (pc := 18) (v := (-1)) (by decide) dX12_restOf_18 ?_
  refine G_callV (pc := 19) (mc1 := 0) (ms1 := 0) (ci := 12) (mj := mX12_goesBy) (vs := [_]) dX12_restOf_19 rfl rfl cm_X12_goesBy wh_72 wh_74 wh_75 rfl (Nat.le_of_ble_eq_true rfl) (Nat.le_of_ble_eq_true rfl) (Nat.le_of_ble_eq_true rfl) (Nat.le_of_ble_eq_true rfl) (s10257_X12_goesBy J d  ) ?_
  rintro _ _ ⟨rfl, rfl⟩
  dsimp only [Option.toList, List.cons_append, List.nil_append]
  refine G_iadd (pc := 22) (z := 0) (by decide) dX12_restOf_22 ?_
  refine G_istore_n (pc := 23) (L1 := [some (.ref 67), some (.int 12), some (.int 0), some (.int 4)]) rfl rfl (by decide) dX12_restOf_23 ?_
  refine G_iinc (pc := 24) (v := 1) (w := 5) (L1 := [some (.ref 67), some (.int 12), some (.int 0), some (.int 5)]) (by decide) rfl rfl (by decide) rfl (by decide) dX12_restOf_24 ?_
  refine G_goto (pc := 27) (tgt := 4) (by decide) dX12_restOf_27 ?_
  refine G_iload_n (pc := 4) rfl dX12_restOf_4 ?_
  refine G_iload_n (pc := 5) rfl dX12_restOf_5 ?_
  refine G_icmp_ge (pc := 6) (tgt := 30) (by decide) dX12_restOf_6 (fun z => absurd z (by decide)) (fun _ => ?_)
  refine G_aload_n (pc := 9) rfl dX12_restOf_9 ?_
  refine G_callV (pc := 10) (mc1 := 0) (ms1 := 0) (ci := 12) (mj := mX12_isOver) (vs := []) dX12_restOf_10 rfl rfl cm_X12_isOver wh_22 wh_24 wh_25 rfl (Nat.le_of_ble_eq_true rfl) (Nat.le_of_ble_eq_true rfl) (Nat.le_of_ble_eq_true rfl) (Nat.le_of_ble_eq_true rfl) (s10259_X12_isOver J (d + 1)  ) ?_
  rintro _ _ ⟨rfl, rfl⟩
  dsimp only [Option.toList, List.cons_append, List.nil_append]
  refine G_if_ne (pc := 13) (tgt := 30) (by decide) dX12_restOf_13 (fun z => absurd (by decide) z) (fun _ => ?_)
  refine G_iload_n (pc := 16) rfl dX12_restOf_16 ?_
  refine G_aload_n (pc := 17) rfl dX12_restOf_17 ?_
  refine G_iconst (pc := 18) (v := (-1)) (by decide) dX12_restOf_18 ?_
  refine G_callV (pc := 19) (mc1 := 0) (ms1 := 0) (ci := 12) (mj := mX12_goesBy) (vs := [_]) dX12_restOf_19 rfl rfl cm_X12_goesBy wh_72 wh_74 wh_75 rfl (Nat.le_of_ble_eq_true rfl) (Nat.le_of_ble_eq_true rfl) (Nat.le_of_ble_eq_true rfl) (Nat.le_of_ble_eq_true rfl) (s10260_X12_goesBy J d  ) ?_
  rintro _ _ ⟨rfl, rfl⟩
  dsimp only [Option.toList, List.cons_append, List.nil_append]
  refine G_iadd (pc := 22) (z := 0) (by decide) dX12_restOf_22 ?_
  refine G_istore_n (pc := 23) (L1 := [some (.ref 67), some (.int 12), some (.int 0), some (.int 5)]) rfl rfl (by decide) dX12_restOf_23 ?_
  refine G_iinc (pc := 24) (v := 1) (w := 6) (L1 := [some (.ref 67), some (.int 12), some (.int 0), some (.int 6)]) (by decide) rfl rfl (by decide) rfl (by decide) dX12_restOf_24 ?_
  refine G_goto (pc := 27) (tgt := 4) (by decide) dX12_restOf_27 ?_
  refine G_iload_n (pc := 4) rfl dX12_restOf_4 ?_
  refine G_iload_n (pc := 5) rfl dX12_restOf_5 ?_
  refine G_icmp_ge (pc := 6) (tgt := 30) (by decide) dX12_restOf_6 (fun z => absurd z (by decide)) (fun _ => ?_)
  refine G_aload_n (pc := 9) rfl dX12_restOf_9 ?_
  refine G_callV (pc := 10) (mc1 := 0) (ms1 := 0) (ci := 12) (mj := mX12_isOver) (vs := []) dX12_restOf_10 rfl rfl cm_X12_isOver wh_22 wh_24 wh_25 rfl (Nat.le_of_ble_eq_true rfl) (Nat.le_of_ble_eq_true rfl) (Nat.le_of_ble_eq_true rfl) (Nat.le_of_ble_eq_true rfl) (s10262_X12_isOver J (d + 1)  ) ?_
  rintro _ _ ⟨rfl, rfl⟩
  dsimp only [Option.toList, List.cons_append, List.nil_append]
  refine G_if_ne (pc := 13) (tgt := 30) (by decide) dX12_restOf_13 (fun z => absurd (by decide) z) (fun _ => ?_)
  refine G_iload_n (pc := 16) rfl dX12_restOf_16 ?_
  refine G_aload_n (pc := 17) rfl dX12_restOf_17 ?_
  refine G_iconst (pc := 18) (v := (-1)) (by decide) dX12_restOf_18 ?_
  refine G_callV (pc := 19) (mc1 := 0) (ms1 := 0) (ci := 12) (mj := mX12_goesBy) (vs := [_]) dX12_restOf_19 rfl rfl cm_X12_goesBy wh_72 wh_74 wh_75 rfl (Nat.le_of_ble_eq_true rfl) (Nat.le_of_ble_eq_true rfl) (Nat.le_of_ble_eq_true rfl) (Nat.le_of_ble_eq_true rfl) (s10263_X12_goesBy J d  ) ?_
  rintro _ _ ⟨rfl, rfl⟩
  dsimp only [Option.toList, List.cons_append, List.nil_append]
  refine G_iadd (pc := 22) (z := 0) (by decide) dX12_restOf_22 ?_
  refine G_istore_n (pc := 23) (L1 := [some (.ref 67), some (.int 12), some (.int 0), some (.int 6)]) rfl rfl (by decide) dX12_restOf_23 ?_
  refine G_iinc (pc := 24) (v := 1) (w := 7) (L1 := [some (.ref 67), some (.int 12), some (.int 0), some (.int 7)]) (by decide) rfl rfl (by decide) rfl (by decide) dX12_restOf_24 ?_
  refine G_goto (pc := 27) (tgt := 4) (by decide) dX12_restOf_27 ?_
  refine G_iload_n (pc := 4) rfl dX12_restOf_4 ?_
  refine G_iload_n (pc := 5) rfl dX12_restOf_5 ?_
  refine G_icmp_ge (pc := 6) (tgt := 30) (by decide) dX12_restOf_6 (fun z => absurd z (by decide)) (fun _ => ?_)
  refine G_aload_n (pc := 9) rfl dX12_restOf_9 ?_
  refine G_callV (pc := 10) (mc1 := 0) (ms1 := 0) (ci := 12) (mj := mX12_isOver) (vs := []) dX12_restOf_10 rfl rfl cm_X12_isOver wh_22 wh_24 wh_25 rfl (Nat.le_of_ble_eq_true rfl) (Nat.le_of_ble_eq_true rfl) (Nat.le_of_ble_eq_true rfl) (Nat.le_of_ble_eq_true rfl) (s10265_X12_isOver J (d + 1)  ) ?_
  rintro _ _ ⟨rfl, rfl⟩
  dsimp only [Option.toList, List.cons_append, List.nil_append]
  refine G_if_ne (pc := 13) (tgt := 30) (by decide) dX12_restOf_13 (fun z => absurd (by decide) z) (fun _ => ?_)
  refine G_iload_n (pc := 16) rfl dX12_restOf_16 ?_
  refine G_aload_n (pc := 17) rfl dX12_restOf_17 ?_
  refine G_iconst (pc := 18) (v := (-1)) (by decide) dX12_restOf_18 ?_
  refine G_callV (pc := 19) (mc1 := 0) (ms1 := 0) (ci := 12) (mj := mX12_goesBy) (vs := [_]) dX12_restOf_19 rfl rfl cm_X12_goesBy wh_72 wh_74 wh_75 rfl (Nat.le_of_ble_eq_true rfl) (Nat.le_of_ble_eq_true rfl) (Nat.le_of_ble_eq_true rfl) (Nat.le_of_ble_eq_true rfl) (s10266_X12_goesBy J d  ) ?_
  rintro _ _ ⟨rfl, rfl⟩
  dsimp only [Option.toList, List.cons_append, List.nil_append]
  refine G_iadd (pc := 22) (z := 0) (by decide) dX12_restOf_22 ?_
  refine G_istore_n (pc := 23) (L1 := [some (.ref 67), some (.int 12), some (.int 0), some (.int 7)]) rfl rfl (by decide) dX12_restOf_23 ?_
  refine G_iinc (pc := 24) (v := 1) (w := 8) (L1 := [some (.ref 67), some (.int 12), some (.int 0), some (.int 8)]) (by decide) rfl rfl (by decide) rfl (by decide) dX12_restOf_24 ?_
  refine G_goto (pc := 27) (tgt := 4) (by decide) dX12_restOf_27 ?_
  refine G_iload_n (pc := 4) rfl dX12_restOf_4 ?_
  refine G_iload_n (pc := 5) rfl dX12_restOf_5 ?_
  refine G_icmp_ge (pc := 6) (tgt := 30) (by decide) dX12_restOf_6 (fun z => absurd z (by decide)) (fun _ => ?_)
  refine G_aload_n (pc := 9) rfl dX12_restOf_9 ?_
  refine G_callV (pc := 10) (mc1 := 0) (ms1 := 0) (ci := 12) (mj := mX12_isOver) (vs := []) dX12_restOf_10 rfl rfl cm_X12_isOver wh_22 wh_24 wh_25 rfl (Nat.le_of_ble_eq_true rfl) (Nat.le_of_ble_eq_true rfl) (Nat.le_of_ble_eq_true rfl) (Nat.le_of_ble_eq_true rfl) (s10268_X12_isOver J (d + 1)  ) ?_
  rintro _ _ ⟨rfl, rfl⟩
  dsimp only [Option.toList, List.cons_append, List.nil_append]
  refine G_if_ne (pc := 13) (tgt := 30) (by decide) dX12_restOf_13 (fun z => absurd (by decide) z) (fun _ => ?_)
  refine G_iload_n (pc := 16) rfl dX12_restOf_16 ?_
  refine G_aload_n (pc := 17) rfl dX12_restOf_17 ?_
  refine G_iconst (pc := 18) (v := (-1)) (by decide) dX12_restOf_18 ?_
  refine G_callV (pc := 19) (mc1 := 0) (ms1 := 0) (ci := 12) (mj := mX12_goesBy) (vs := [_]) dX12_restOf_19 rfl rfl cm_X12_goesBy wh_72 wh_74 wh_75 rfl (Nat.le_of_ble_eq_true rfl) (Nat.le_of_ble_eq_true rfl) (Nat.le_of_ble_eq_true rfl) (Nat.le_of_ble_eq_true rfl) (s10269_X12_goesBy J d  ) ?_
  rintro _ _ ⟨rfl, rfl⟩
  dsimp only [Option.toList, List.cons_append, List.nil_append]
  refine G_iadd (pc := 22) (z := 0) (by decide) dX12_restOf_22 ?_
  refine G_istore_n (pc := 23) (L1 := [some (.ref 67), some (.int 12), some (.int 0), some (.int 8)]) rfl rfl (by decide) dX12_restOf_23 ?_
  refine G_iinc (pc := 24) (v := 1) (w := 9) (L1 := [some (.ref 67), some (.int 12), some (.int 0), some (.int 9)]) (by decide) rfl rfl (by decide) rfl (by decide) dX12_restOf_24 ?_
  refine G_goto (pc := 27) (tgt := 4) (by decide) dX12_restOf_27 ?_
  refine G_iload_n (pc := 4) rfl dX12_restOf_4 ?_
  refine G_iload_n (pc := 5) rfl dX12_restOf_5 ?_
  refine G_icmp_ge (pc := 6) (tgt := 30) (by decide) dX12_restOf_6 (fun z => absurd z (by decide)) (fun _ => ?_)
  refine G_aload_n (pc := 9) rfl dX12_restOf_9 ?_
  refine G_callV (pc := 10) (mc1 := 0) (ms1 := 0) (ci := 12) (mj := mX12_isOver) (vs := []) dX12_restOf_10 rfl rfl cm_X12_isOver wh_22 wh_24 wh_25 rfl (Nat.le_of_ble_eq_true rfl) (Nat.le_of_ble_eq_true rfl) (Nat.le_of_ble_eq_true rfl) (Nat.le_of_ble_eq_true rfl) (s10271_X12_isOver J (d + 1)  ) ?_
  rintro _ _ ⟨rfl, rfl⟩
  dsimp only [Option.toList, List.cons_append, List.nil_append]
  refine G_if_ne (pc := 13) (tgt := 30) (by decide) dX12_restOf_13 (fun z => absurd (by decide) z) (fun _ => ?_)
  refine G_iload_n (pc := 16) rfl dX12_restOf_16 ?_
  refine G_aload_n (pc := 17) rfl dX12_restOf_17 ?_
  refine G_iconst (pc := 18) (v := (-1)) (by decide) dX12_restOf_18 ?_
  refine G_callV (pc := 19) (mc1 := 0) (ms1 := 0) (ci := 12) (mj := mX12_goesBy) (vs := [_]) dX12_restOf_19 rfl rfl cm_X12_goesBy wh_72 wh_74 wh_75 rfl (Nat.le_of_ble_eq_true rfl) (Nat.le_of_ble_eq_true rfl) (Nat.le_of_ble_eq_true rfl) (Nat.le_of_ble_eq_true rfl) (s10272_X12_goesBy J d  ) ?_
  rintro _ _ ⟨rfl, rfl⟩
  dsimp only [Option.toList, List.cons_append, List.nil_append]
  refine G_iadd (pc := 22) (z := 0) (by decide) dX12_restOf_22 ?_
  refine G_istore_n (pc := 23) (L1 := [some (.ref 67), some (.int 12), some (.int 0), some (.int 9)]) rfl rfl (by decide) dX12_restOf_23 ?_
  refine G_iinc (pc := 24) (v := 1) (w := 10) (L1 := [some (.ref 67), some (.int 12), some (.int 0), some (.int 10)]) (by decide) rfl rfl (by decide) rfl (by decide) dX12_restOf_24 ?_
  refine G_goto (pc := 27) (tgt := 4) (by decide) dX12_restOf_27 ?_
  refine G_iload_n (pc := 4) rfl dX12_restOf_4 ?_
  refine G_iload_n (pc := 5) rfl dX12_restOf_5 ?_
  refine G_icmp_ge (pc := 6) (tgt := 30) (by decide) dX12_restOf_6 (fun z => absurd z (by decide)) (fun _ => ?_)
  refine G_aload_n (pc := 9) rfl dX12_restOf_9 ?_
  refine G_callV (pc := 10) (mc1 := 0) (ms1 := 0) (ci := 12) (mj := mX12_isOver) (vs := []) dX12_restOf_10 rfl rfl cm_X12_isOver wh_22 wh_24 wh_25 rfl (Nat.le_of_ble_eq_true rfl) (Nat.le_of_ble_eq_true rfl) (Nat.le_of_ble_eq_true rfl) (Nat.le_of_ble_eq_true rfl) (s10274_X12_isOver J (d + 1)  ) ?_
  rintro _ _ ⟨rfl, rfl⟩
  dsimp only [Option.toList, List.cons_append, List.nil_append]
  refine G_if_ne (pc := 13) (tgt := 30) (by decide) dX12_restOf_13 (fun z => absurd (by decide) z) (fun _ => ?_)
  refine G_iload_n (pc := 16) rfl dX12_restOf_16 ?_
  refine G_aload_n (pc := 17) rfl dX12_restOf_17 ?_
  refine G_iconst (pc := 18) (v := (-1)) (by decide) dX12_restOf_18 ?_
  refine G_callV (pc := 19) (mc1 := 0) (ms1 := 0) (ci := 12) (mj := mX12_goesBy) (vs := [_]) dX12_restOf_19 rfl rfl cm_X12_goesBy wh_72 wh_74 wh_75 rfl (Nat.le_of_ble_eq_true rfl) (Nat.le_of_ble_eq_true rfl) (Nat.le_of_ble_eq_true rfl) (Nat.le_of_ble_eq_true rfl) (s10275_X12_goesBy J d  ) ?_
  rintro _ _ ⟨rfl, rfl⟩
  dsimp only [Option.toList, List.cons_append, List.nil_append]
  refine G_iadd (pc := 22) (z := 0) (by decide) dX12_restOf_22 ?_
  refine G_istore_n (pc := 23) (L1 := [some (.ref 67), some (.int 12), some (.int 0), some (.int 10)]) rfl rfl (by decide) dX12_restOf_23 ?_
  refine G_iinc (pc := 24) (v := 1) (w := 11) (L1 := [some (.ref 67), some (.int 12), some (.int 0), some (.int 11)]) (by decide) rfl rfl (by decide) rfl (by decide) dX12_restOf_24 ?_
  refine G_goto (pc := 27) (tgt := 4) (by decide) dX12_restOf_27 ?_
  refine G_iload_n (pc := 4) rfl dX12_restOf_4 ?_
  refine G_iload_n (pc := 5) rfl dX12_restOf_5 ?_
  refine G_icmp_ge (pc := 6) (tgt := 30) (by decide) dX12_restOf_6 (fun z => absurd z (by decide)) (fun _ => ?_)
  refine G_aload_n (pc := 9) rfl dX12_restOf_9 ?_
  refine G_callV (pc := 10) (mc1 := 0) (ms1 := 0) (ci := 12) (mj := mX12_isOver) (vs := []) dX12_restOf_10 rfl rfl cm_X12_isOver wh_22 wh_24 wh_25 rfl (Nat.le_of_ble_eq_true rfl) (Nat.le_of_ble_eq_true rfl) (Nat.le_of_ble_eq_true rfl) (Nat.le_of_ble_eq_true rfl) (s10277_X12_isOver J (d + 1)  ) ?_
  rintro _ _ ⟨rfl, rfl⟩
  dsimp only [Option.toList, List.cons_append, List.nil_append]
  refine G_if_ne (pc := 13) (tgt := 30) (by decide) dX12_restOf_13 (fun z => absurd (by decide) z) (fun _ => ?_)
  refine G_iload_n (pc := 16) rfl dX12_restOf_16 ?_
  refine G_aload_n (pc := 17) rfl dX12_restOf_17 ?_
  refine G_iconst (pc := 18) (v := (-1)) (by decide) dX12_restOf_18 ?_
  refine G_callV (pc := 19) (mc1 := 0) (ms1 := 0) (ci := 12) (mj := mX12_goesBy) (vs := [_]) dX12_restOf_19 rfl rfl cm_X12_goesBy wh_72 wh_74 wh_75 rfl (Nat.le_of_ble_eq_true rfl) (Nat.le_of_ble_eq_true rfl) (Nat.le_of_ble_eq_true rfl) (Nat.le_of_ble_eq_true rfl) (s10278_X12_goesBy J d  ) ?_
  rintro _ _ ⟨rfl, rfl⟩
  dsimp only [Option.toList, List.cons_append, List.nil_append]
  refine G_iadd (pc := 22) (z := 0) (by decide) dX12_restOf_22 ?_
  refine G_istore_n (pc := 23) (L1 := [some (.ref 67), some (.int 12), some (.int 0), some (.int 11)]) rfl rfl (by decide) dX12_restOf_23 ?_
  refine G_iinc (pc := 24) (v := 1) (w := 12) (L1 := [some (.ref 67), some (.int 12), some (.int 0), some (.int 12)]) (by decide) rfl rfl (by decide) rfl (by decide) dX12_restOf_24 ?_
  refine G_goto (pc := 27) (tgt := 4) (by decide) dX12_restOf_27 ?_
  refine G_iload_n (pc := 4) rfl dX12_restOf_4 ?_
  refine G_iload_n (pc := 5) rfl dX12_restOf_5 ?_
  refine G_icmp_ge (pc := 6) (tgt := 30) (by decide) dX12_restOf_6 (fun _ => ?_) (fun z => absurd (by decide) z)
  refine G_iload_n (pc := 30) rfl dX12_restOf_30 ?_
  exact G_iret (pc := 31) (Nat.le_of_ble_eq_true rfl) (Nat.le_of_ble_eq_true rfl) rfl dX12_restOf_31 ⟨rfl, rfl⟩
set_option maxRecDepth 100000 in
set_option maxHeartbeats 4000000 in
theorem s10294_X12_restOf (J : gI) (d : Nat)   : G (d + 2) mX12_restOf 0 0 0 0 0 (gent 4 [.ref 67, .int 13]) [] SH0 RF0 (gcp (gmx J) 68 70 0 0 65) (fun r h => r = some (.int 0) ∧ h = (SH0, RF0, (gup (gup (gup (gup (gup (gup (gup (gup (gup (gup (gup (gup (gup (gup (gup (gup (gup (gup (gup (gup (gup (gup (gup (gup (gcp (gmx J) 68 70 0 0 65) 68 0 1) 68 2 0) 68 0 2) 68 2 0) 68 0 3) 68 2 0) 68 0 4) 68 2 0) 68 0 5) 68 2 0) 68 0 6) 68 2 0) 68 0 7) 68 2 0) 68 0 8) 68 2 0) 68 0 9) 68 2 0) 68 0 10) 68 2 0) 68 0 11) 68 2 0) 68 0 12) 68 2 0))) := by
  refine G_iconst (pc := 0) (v := 0) (by decide) dX12_restOf_0 ?_
  refine G_istore_n (pc := 1) (L1 := [some (.ref 67), some (.int 13), some (.int 0), none]) rfl rfl (by decide) dX12_restOf_1 ?_
  refine G_iconst (pc := 2) (v := 0) (by decide) dX12_restOf_2 ?_
  refine G_istore_n (pc := 3) (L1 := [some (.ref 67), some (.int 13), some (.int 0), some (.int 0)]) rfl rfl (by decide) dX12_restOf_3 ?_
  refine G_iload_n (pc := 4) rfl dX12_restOf_4 ?_
  refine G_iload_n (pc := 5) rfl dX12_restOf_5 ?_
  refine G_icmp_ge (pc := 6) (tgt := 30) (by decide) dX12_restOf_6 (fun z => absurd z (by decide)) (fun _ => ?_)
  refine G_aload_n (pc := 9) rfl dX12_restOf_9 ?_
  refine G_callV (pc := 10) (mc1 := 0) (ms1 := 0) (ci := 12) (mj := mX12_isOver) (vs := []) dX12_restOf_10 rfl rfl cm_X12_isOver wh_22 wh_24 wh_25 rfl (Nat.le_of_ble_eq_true rfl) (Nat.le_of_ble_eq_true rfl) (Nat.le_of_ble_eq_true rfl) (Nat.le_of_ble_eq_true rfl) (s10244_X12_isOver J (d + 1)  ) ?_
  rintro _ _ ⟨rfl, rfl⟩
  dsimp only [Option.toList, List.cons_append, List.nil_append]
  refine G_if_ne (pc := 13) (tgt := 30) (by decide) dX12_restOf_13 (fun z => absurd (by decide) z) (fun _ => ?_)
  refine G_iload_n (pc := 16) rfl dX12_restOf_16 ?_
  refine G_aload_n (pc := 17) rfl dX12_restOf_17 ?_
  refine G_iconst (pc := 18) (v := (-1)) (by decide) dX12_restOf_18 ?_
  refine G_callV (pc := 19) (mc1 := 0) (ms1 := 0) (ci := 12) (mj := mX12_goesBy) (vs := [_]) dX12_restOf_19 rfl rfl cm_X12_goesBy wh_72 wh_74 wh_75 rfl (Nat.le_of_ble_eq_true rfl) (Nat.le_of_ble_eq_true rfl) (Nat.le_of_ble_eq_true rfl) (Nat.le_of_ble_eq_true rfl) (s10245_X12_goesBy J d  ) ?_
  rintro _ _ ⟨rfl, rfl⟩
  dsimp only [Option.toList, List.cons_append, List.nil_append]
  refine G_iadd (pc := 22) (z := 0) (by decide) dX12_restOf_22 ?_
  refine G_istore_n (pc := 23) (L1 := [some (.ref 67), some (.int 13), some (.int 0), some (.int 0)]) rfl rfl (by decide) dX12_restOf_23 ?_
  refine G_iinc (pc := 24) (v := 1) (w := 1) (L1 := [some (.ref 67), some (.int 13), some (.int 0), some (.int 1)]) (by decide) rfl rfl (by decide) rfl (by decide) dX12_restOf_24 ?_
  refine G_goto (pc := 27) (tgt := 4) (by decide) dX12_restOf_27 ?_
  refine G_iload_n (pc := 4) rfl dX12_restOf_4 ?_
  refine G_iload_n (pc := 5) rfl dX12_restOf_5 ?_
  refine G_icmp_ge (pc := 6) (tgt := 30) (by decide) dX12_restOf_6 (fun z => absurd z (by decide)) (fun _ => ?_)
  refine G_aload_n (pc := 9) rfl dX12_restOf_9 ?_
  refine G_callV (pc := 10) (mc1 := 0) (ms1 := 0) (ci := 12) (mj := mX12_isOver) (vs := []) dX12_restOf_10 rfl rfl cm_X12_isOver wh_22 wh_24 wh_25 rfl (Nat.le_of_ble_eq_true rfl) (Nat.le_of_ble_eq_true rfl) (Nat.le_of_ble_eq_true rfl) (Nat.le_of_ble_eq_true rfl) (s10247_X12_isOver J (d + 1)  ) ?_
  rintro _ _ ⟨rfl, rfl⟩
  dsimp only [Option.toList, List.cons_append, List.nil_append]
  refine G_if_ne (pc := 13) (tgt := 30) (by decide) dX12_restOf_13 (fun z => absurd (by decide) z) (fun _ => ?_)
  refine G_iload_n (pc := 16) rfl dX12_restOf_16 ?_
  refine G_aload_n (pc := 17) rfl dX12_restOf_17 ?_
  refine G_iconst (pc := 18) (v := (-1)) (by decide) dX12_restOf_18 ?_
  refine G_callV (pc := 19) (mc1 := 0) (ms1 := 0) (ci := 12) (mj := mX12_goesBy) (vs := [_]) dX12_restOf_19 rfl rfl cm_X12_goesBy wh_72 wh_74 wh_75 rfl (Nat.le_of_ble_eq_true rfl) (Nat.le_of_ble_eq_true rfl) (Nat.le_of_ble_eq_true rfl) (Nat.le_of_ble_eq_true rfl) (s10248_X12_goesBy J d  ) ?_
  rintro _ _ ⟨rfl, rfl⟩
  dsimp only [Option.toList, List.cons_append, List.nil_append]
  refine G_iadd (pc := 22) (z := 0) (by decide) dX12_restOf_22 ?_
  refine G_istore_n (pc := 23) (L1 := [some (.ref 67), some (.int 13), some (.int 0), some (.int 1)]) rfl rfl (by decide) dX12_restOf_23 ?_
  refine G_iinc (pc := 24) (v := 1) (w := 2) (L1 := [some (.ref 67), some (.int 13), some (.int 0), some (.int 2)]) (by decide) rfl rfl (by decide) rfl (by decide) dX12_restOf_24 ?_
  refine G_goto (pc := 27) (tgt := 4) (by decide) dX12_restOf_27 ?_
  refine G_iload_n (pc := 4) rfl dX12_restOf_4 ?_
  refine G_iload_n (pc := 5) rfl dX12_restOf_5 ?_
  refine G_icmp_ge (pc := 6) (tgt := 30) (by decide) dX12_restOf_6 (fun z => absurd z (by decide)) (fun _ => ?_)
  refine G_aload_n (pc := 9) rfl dX12_restOf_9 ?_
  refine G_callV (pc := 10) (mc1 := 0) (ms1 := 0) (ci := 12) (mj := mX12_isOver) (vs := []) dX12_restOf_10 rfl rfl cm_X12_isOver wh_22 wh_24 wh_25 rfl (Nat.le_of_ble_eq_true rfl) (Nat.le_of_ble_eq_true rfl) (Nat.le_of_ble_eq_true rfl) (Nat.le_of_ble_eq_true rfl) (s10250_X12_isOver J (d + 1)  ) ?_
  rintro _ _ ⟨rfl, rfl⟩
  dsimp only [Option.toList, List.cons_append, List.nil_append]
  refine G_if_ne (pc := 13) (tgt := 30) (by decide) dX12_restOf_13 (fun z => absurd (by decide) z) (fun _ => ?_)
  refine G_iload_n (pc := 16) rfl dX12_restOf_16 ?_
  refine G_aload_n (pc := 17) rfl dX12_restOf_17 ?_
  refine G_iconst (pc := 18) (v := (-1)) (by decide) dX12_restOf_18 ?_
  refine G_callV (pc := 19) (mc1 := 0) (ms1 := 0) (ci := 12) (mj := mX12_goesBy) (vs := [_]) dX12_restOf_19 rfl rfl cm_X12_goesBy wh_72 wh_74 wh_75 rfl (Nat.le_of_ble_eq_true rfl) (Nat.le_of_ble_eq_true rfl) (Nat.le_of_ble_eq_true rfl) (Nat.le_of_ble_eq_true rfl) (s10251_X12_goesBy J d  ) ?_
  rintro _ _ ⟨rfl, rfl⟩
  dsimp only [Option.toList, List.cons_append, List.nil_append]
  refine G_iadd (pc := 22) (z := 0) (by decide) dX12_restOf_22 ?_
  refine G_istore_n (pc := 23) (L1 := [some (.ref 67), some (.int 13), some (.int 0), some (.int 2)]) rfl rfl (by decide) dX12_restOf_23 ?_
  refine G_iinc (pc := 24) (v := 1) (w := 3) (L1 := [some (.ref 67), some (.int 13), some (.int 0), some (.int 3)]) (by decide) rfl rfl (by decide) rfl (by decide) dX12_restOf_24 ?_
  refine G_goto (pc := 27) (tgt := 4) (by decide) dX12_restOf_27 ?_
  refine G_iload_n (pc := 4) rfl dX12_restOf_4 ?_
  refine G_iload_n (pc := 5) rfl dX12_restOf_5 ?_
  refine G_icmp_ge (pc := 6) (tgt := 30) (by decide) dX12_restOf_6 (fun z => absurd z (by decide)) (fun _ => ?_)
  refine G_aload_n (pc := 9) rfl dX12_restOf_9 ?_
  refine G_callV (pc := 10) (mc1 := 0) (ms1 := 0) (ci := 12) (mj := mX12_isOver) (vs := []) dX12_restOf_10 rfl rfl cm_X12_isOver wh_22 wh_24 wh_25 rfl (Nat.le_of_ble_eq_true rfl) (Nat.le_of_ble_eq_true rfl) (Nat.le_of_ble_eq_true rfl) (Nat.le_of_ble_eq_true rfl) (s10253_X12_isOver J (d + 1)  ) ?_
  rintro _ _ ⟨rfl, rfl⟩
  dsimp only [Option.toList, List.cons_append, List.nil_append]
  refine G_if_ne (pc := 13) (tgt := 30) (by decide) dX12_restOf_13 (fun z => absurd (by decide) z) (fun _ => ?_)
  refine G_iload_n (pc := 16) rfl dX12_restOf_16 ?_
  refine G_aload_n (pc := 17) rfl dX12_restOf_17 ?_
  refine G_iconst (pc := 18) (v := (-1)) (by decide) dX12_restOf_18 ?_
  refine G_callV (pc := 19) (mc1 := 0) (ms1 := 0) (ci := 12) (mj := mX12_goesBy) (vs := [_]) dX12_restOf_19 rfl rfl cm_X12_goesBy wh_72 wh_74 wh_75 rfl (Nat.le_of_ble_eq_true rfl) (Nat.le_of_ble_eq_true rfl) (Nat.le_of_ble_eq_true rfl) (Nat.le_of_ble_eq_true rfl) (s10254_X12_goesBy J d  ) ?_
  rintro _ _ ⟨rfl, rfl⟩
  dsimp only [Option.toList, List.cons_append, List.nil_append]
  refine G_iadd (pc := 22) (z := 0) (by decide) dX12_restOf_22 ?_
  refine G_istore_n (pc := 23) (L1 := [some (.ref 67), some (.int 13), some (.int 0), some (.int 3)]) rfl rfl (by decide) dX12_restOf_23 ?_
  refine G_iinc (pc := 24) (v := 1) (w := 4) (L1 := [some (.ref 67), some (.int 13), some (.int 0), some (.int 4)]) (by decide) rfl rfl (by decide) rfl (by decide) dX12_restOf_24 ?_
  refine G_goto (pc := 27) (tgt := 4) (by decide) dX12_restOf_27 ?_
  refine G_iload_n (pc := 4) rfl dX12_restOf_4 ?_
  refine G_iload_n (pc := 5) rfl dX12_restOf_5 ?_
  refine G_icmp_ge (pc := 6) (tgt := 30) (by decide) dX12_restOf_6 (fun z => absurd z (by decide)) (fun _ => ?_)
  refine G_aload_n (pc := 9) rfl dX12_restOf_9 ?_
  refine G_callV (pc := 10) (mc1 := 0) (ms1 := 0) (ci := 12) (mj := mX12_isOver) (vs := []) dX12_restOf_10 rfl rfl cm_X12_isOver wh_22 wh_24 wh_25 rfl (Nat.le_of_ble_eq_true rfl) (Nat.le_of_ble_eq_true rfl) (Nat.le_of_ble_eq_true rfl) (Nat.le_of_ble_eq_true rfl) (s10256_X12_isOver J (d + 1)  ) ?_
  rintro _ _ ⟨rfl, rfl⟩
  dsimp only [Option.toList, List.cons_append, List.nil_append]
  refine G_if_ne (pc := 13) (tgt := 30) (by decide) dX12_restOf_13 (fun z => absurd (by decide) z) (fun _ => ?_)
  refine G_iload_n (pc := 16) rfl dX12_restOf_16 ?_
  refine G_aload_n (pc := 17) rfl dX12_restOf_17 ?_
  refine G_iconst (pc := 18) (v := (-1)) (by decide) dX12_restOf_18 ?_
  refine G_callV (pc := 19) (mc1 := 0) (ms1 := 0) (ci := 12) (mj := mX12_goesBy) (vs := [_]) dX12_restOf_19 rfl rfl cm_X12_goesBy wh_72 wh_74 wh_75 rfl (Nat.le_of_ble_eq_true rfl) (Nat.le_of_ble_eq_true rfl) (Nat.le_of_ble_eq_true rfl) (Nat.le_of_ble_eq_true rfl) (s10257_X12_goesBy J d  ) ?_
  rintro _ _ ⟨rfl, rfl⟩
  dsimp only [Option.toList, List.cons_append, List.nil_append]
  refine G_iadd (pc := 22) (z := 0) (by decide) dX12_restOf_22 ?_
  refine G_istore_n (pc := 23) (L1 := [some (.ref 67), some (.int 13), some (.int 0), some (.int 4)]) rfl rfl (by decide) dX12_restOf_23 ?_
  refine G_iinc (pc := 24) (v := 1) (w := 5) (L1 := [some (.ref 67), some (.int 13), some (.int 0), some (.int 5)]) (by decide) rfl rfl (by decide) rfl (by decide) dX12_restOf_24 ?_
  refine G_goto (pc := 27) (tgt := 4) (by decide) dX12_restOf_27 ?_
  refine G_iload_n (pc := 4) rfl dX12_restOf_4 ?_
  refine G_iload_n (pc := 5) rfl dX12_restOf_5 ?_
  refine G_icmp_ge (pc := 6) (tgt := 30) (by decide) dX12_restOf_6 (fun z => absurd z (by decide)) (fun _ => ?_)
  refine G_aload_n (pc := 9) rfl dX12_restOf_9 ?_
  refine G_callV (pc := 10) (mc1 := 0) (ms1 := 0) (ci := 12) (mj := mX12_isOver) (vs := []) dX12_restOf_10 rfl rfl cm_X12_isOver wh_22 wh_24 wh_25 rfl (Nat.le_of_ble_eq_true rfl) (Nat.le_of_ble_eq_true rfl) (Nat.le_of_ble_eq_true rfl) (Nat.le_of_ble_eq_true rfl) (s10259_X12_isOver J (d + 1)  ) ?_
  rintro _ _ ⟨rfl, rfl⟩
  dsimp only [Option.toList, List.cons_append, List.nil_append]
  refine G_if_ne (pc := 13) (tgt := 30) (by decide) dX12_restOf_13 (fun z => absurd (by decide) z) (fun _ => ?_)
  refine G_iload_n (pc := 16) rfl dX12_restOf_16 ?_
  refine G_aload_n (pc := 17) rfl dX12_restOf_17 ?_
  refine G_iconst (pc := 18) (v := (-1)) (by decide) dX12_restOf_18 ?_
  refine G_callV (pc := 19) (mc1 := 0) (ms1 := 0) (ci := 12) (mj := mX12_goesBy) (vs := [_]) dX12_restOf_19 rfl rfl cm_X12_goesBy wh_72 wh_74 wh_75 rfl (Nat.le_of_ble_eq_true rfl) (Nat.le_of_ble_eq_true rfl) (Nat.le_of_ble_eq_true rfl) (Nat.le_of_ble_eq_true rfl) (s10260_X12_goesBy J d  ) ?_
  rintro _ _ ⟨rfl, rfl⟩
  dsimp only [Option.toList, List.cons_append, List.nil_append]
  refine G_iadd (pc := 22) (z := 0) (by decide) dX12_restOf_22 ?_
  refine G_istore_n (pc := 23) (L1 := [some (.ref 67), some (.int 13), some (.int 0), some (.int 5)]) rfl rfl (by decide) dX12_restOf_23 ?_
  refine G_iinc (pc := 24) (v := 1) (w := 6) (L1 := [some (.ref 67), some (.int 13), some (.int 0), some (.int 6)]) (by decide) rfl rfl (by decide) rfl (by decide) dX12_restOf_24 ?_
  refine G_goto (pc := 27) (tgt := 4) (by decide) dX12_restOf_27 ?_
  refine G_iload_n (pc := 4) rfl dX12_restOf_4 ?_
  refine G_iload_n (pc := 5) rfl dX12_restOf_5 ?_
  refine G_icmp_ge (pc := 6) (tgt := 30) (by decide) dX12_restOf_6 (fun z => absurd z (by decide)) (fun _ => ?_)
  refine G_aload_n (pc := 9) rfl dX12_restOf_9 ?_
  refine G_callV (pc := 10) (mc1 := 0) (ms1 := 0) (ci := 12) (mj := mX12_isOver) (vs := []) dX12_restOf_10 rfl rfl cm_X12_isOver wh_22 wh_24 wh_25 rfl (Nat.le_of_ble_eq_true rfl) (Nat.le_of_ble_eq_true rfl) (Nat.le_of_ble_eq_true rfl) (Nat.le_of_ble_eq_true rfl) (s10262_X12_isOver J (d + 1)  ) ?_
  rintro _ _ ⟨rfl, rfl⟩
  dsimp only [Option.toList, List.cons_append, List.nil_append]
  refine G_if_ne (pc := 13) (tgt := 30) (by decide) dX12_restOf_13 (fun z => absurd (by decide) z) (fun _ => ?_)
  refine G_iload_n (pc := 16) rfl dX12_restOf_16 ?_
  refine G_aload_n (pc := 17) rfl dX12_restOf_17 ?_
  refine G_iconst (pc := 18) (v := (-1)) (by decide) dX12_restOf_18 ?_
  refine G_callV (pc := 19) (mc1 := 0) (ms1 := 0) (ci := 12) (mj := mX12_goesBy) (vs := [_]) dX12_restOf_19 rfl rfl cm_X12_goesBy wh_72 wh_74 wh_75 rfl (Nat.le_of_ble_eq_true rfl) (Nat.le_of_ble_eq_true rfl) (Nat.le_of_ble_eq_true rfl) (Nat.le_of_ble_eq_true rfl) (s10263_X12_goesBy J d  ) ?_
  rintro _ _ ⟨rfl, rfl⟩
  dsimp only [Option.toList, List.cons_append, List.nil_append]
  refine G_iadd (pc := 22) (z := 0) (by decide) dX12_restOf_22 ?_
  refine G_istore_n (pc := 23) (L1 := [some (.ref 67), some (.int 13), some (.int 0), some (.int 6)]) rfl rfl (by decide) dX12_restOf_23 ?_
  refine G_iinc (pc := 24) (v := 1) (w := 7) (L1 := [some (.ref 67), some (.int 13), some (.int 0), some (.int 7)]) (by decide) rfl rfl (by decide) rfl (by decide) dX12_restOf_24 ?_
  refine G_goto (pc := 27) (tgt := 4) (by decide) dX12_restOf_27 ?_
  refine G_iload_n (pc := 4) rfl dX12_restOf_4 ?_
  refine G_iload_n (pc := 5) rfl dX12_restOf_5 ?_
  refine G_icmp_ge (pc := 6) (tgt := 30) (by decide) dX12_restOf_6 (fun z => absurd z (by decide)) (fun _ => ?_)
  refine G_aload_n (pc := 9) rfl dX12_restOf_9 ?_
  refine G_callV (pc := 10) (mc1 := 0) (ms1 := 0) (ci := 12) (mj := mX12_isOver) (vs := []) dX12_restOf_10 rfl rfl cm_X12_isOver wh_22 wh_24 wh_25 rfl (Nat.le_of_ble_eq_true rfl) (Nat.le_of_ble_eq_true rfl) (Nat.le_of_ble_eq_true rfl) (Nat.le_of_ble_eq_true rfl) (s10265_X12_isOver J (d + 1)  ) ?_
  rintro _ _ ⟨rfl, rfl⟩
  dsimp only [Option.toList, List.cons_append, List.nil_append]
  refine G_if_ne (pc := 13) (tgt := 30) (by decide) dX12_restOf_13 (fun z => absurd (by decide) z) (fun _ => ?_)
  refine G_iload_n (pc := 16) rfl dX12_restOf_16 ?_
  refine G_aload_n (pc := 17) rfl dX12_restOf_17 ?_
  refine G_iconst (pc := 18) (v := (-1)) (by decide) dX12_restOf_18 ?_
  refine G_callV (pc := 19) (mc1 := 0) (ms1 := 0) (ci := 12) (mj := mX12_goesBy) (vs := [_]) dX12_restOf_19 rfl rfl cm_X12_goesBy wh_72 wh_74 wh_75 rfl (Nat.le_of_ble_eq_true rfl) (Nat.le_of_ble_eq_true rfl) (Nat.le_of_ble_eq_true rfl) (Nat.le_of_ble_eq_true rfl) (s10266_X12_goesBy J d  ) ?_
  rintro _ _ ⟨rfl, rfl⟩
  dsimp only [Option.toList, List.cons_append, List.nil_append]
  refine G_iadd (pc := 22) (z := 0) (by decide) dX12_restOf_22 ?_
  refine G_istore_n (pc := 23) (L1 := [some (.ref 67), some (.int 13), some (.int 0), some (.int 7)]) rfl rfl (by decide) dX12_restOf_23 ?_
  refine G_iinc (pc := 24) (v := 1) (w := 8) (L1 := [some (.ref 67), some (.int 13), some (.int 0), some (.int 8)]) (by decide) rfl rfl (by decide) rfl (by decide) dX12_restOf_24 ?_
  refine G_goto (pc := 27) (tgt := 4) (by decide) dX12_restOf_27 ?_
  refine G_iload_n (pc := 4) rfl dX12_restOf_4 ?_
  refine G_iload_n (pc := 5) rfl dX12_restOf_5 ?_
  refine G_icmp_ge (pc := 6) (tgt := 30) (by decide) dX12_restOf_6 (fun z => absurd z (by decide)) (fun _ => ?_)
  refine G_aload_n (pc := 9) rfl dX12_restOf_9 ?_
  refine G_callV (pc := 10) (mc1 := 0) (ms1 := 0) (ci := 12) (mj := mX12_isOver) (vs := []) dX12_restOf_10 rfl rfl cm_X12_isOver wh_22 wh_24 wh_25 rfl (Nat.le_of_ble_eq_true rfl) (Nat.le_of_ble_eq_true rfl) (Nat.le_of_ble_eq_true rfl) (Nat.le_of_ble_eq_true rfl) (s10268_X12_isOver J (d + 1)  ) ?_
  rintro _ _ ⟨rfl, rfl⟩
  dsimp only [Option.toList, List.cons_append, List.nil_append]
  refine G_if_ne (pc := 13) (tgt := 30) (by decide) dX12_restOf_13 (fun z => absurd (by decide) z) (fun _ => ?_)
  refine G_iload_n (pc := 16) rfl dX12_restOf_16 ?_
  refine G_aload_n (pc := 17) rfl dX12_restOf_17 ?_
  refine G_iconst (pc := 18) (v := (-1)) (by decide) dX12_restOf_18 ?_
  refine G_callV (pc := 19) (mc1 := 0) (ms1 := 0) (ci := 12) (mj := mX12_goesBy) (vs := [_]) dX12_restOf_19 rfl rfl cm_X12_goesBy wh_72 wh_74 wh_75 rfl (Nat.le_of_ble_eq_true rfl) (Nat.le_of_ble_eq_true rfl) (Nat.le_of_ble_eq_true rfl) (Nat.le_of_ble_eq_true rfl) (s10269_X12_goesBy J d  ) ?_
  rintro _ _ ⟨rfl, rfl⟩
  dsimp only [Option.toList, List.cons_append, List.nil_append]
  refine G_iadd (pc := 22) (z := 0) (by decide) dX12_restOf_22 ?_
  refine G_istore_n (pc := 23) (L1 := [some (.ref 67), some (.int 13), some (.int 0), some (.int 8)]) rfl rfl (by decide) dX12_restOf_23 ?_
  refine G_iinc (pc := 24) (v := 1) (w := 9) (L1 := [some (.ref 67), some (.int 13), some (.int 0), some (.int 9)]) (by decide) rfl rfl (by decide) rfl (by decide) dX12_restOf_24 ?_
  refine G_goto (pc := 27) (tgt := 4) (by decide) dX12_restOf_27 ?_
  refine G_iload_n (pc := 4) rfl dX12_restOf_4 ?_
  refine G_iload_n (pc := 5) rfl dX12_restOf_5 ?_
  refine G_icmp_ge (pc := 6) (tgt := 30) (by decide) dX12_restOf_6 (fun z => absurd z (by decide)) (fun _ => ?_)
  refine G_aload_n (pc := 9) rfl dX12_restOf_9 ?_
  refine G_callV (pc := 10) (mc1 := 0) (ms1 := 0) (ci := 12) (mj := mX12_isOver) (vs := []) dX12_restOf_10 rfl rfl cm_X12_isOver wh_22 wh_24 wh_25 rfl (Nat.le_of_ble_eq_true rfl) (Nat.le_of_ble_eq_true rfl) (Nat.le_of_ble_eq_true rfl) (Nat.le_of_ble_eq_true rfl) (s10271_X12_isOver J (d + 1)  ) ?_
  rintro _ _ ⟨rfl, rfl⟩
  dsimp only [Option.toList, List.cons_append, List.nil_append]
  refine G_if_ne (pc := 13) (tgt := 30) (by decide) dX12_restOf_13 (fun z => absurd (by decide) z) (fun _ => ?_)
  refine G_iload_n (pc := 16) rfl dX12_restOf_16 ?_
  refine G_aload_n (pc := 17) rfl dX12_restOf_17 ?_
  refine G_iconst (pc := 18) (v := (-1)) (by decide) dX12_restOf_18 ?_
  refine G_callV (pc := 19) (mc1 := 0) (ms1 := 0) (ci := 12) (mj := mX12_goesBy) (vs := [_]) dX12_restOf_19 rfl rfl cm_X12_goesBy wh_72 wh_74 wh_75 rfl (Nat.le_of_ble_eq_true rfl) (Nat.le_of_ble_eq_true rfl) (Nat.le_of_ble_eq_true rfl) (Nat.le_of_ble_eq_true rfl) (s10272_X12_goesBy J d  ) ?_
  rintro _ _ ⟨rfl, rfl⟩
  dsimp only [Option.toList, List.cons_append, List.nil_append]
  refine G_iadd (pc := 22) (z := 0) (by decide) dX12_restOf_22 ?_
  refine G_istore_n (pc := 23) (L1 := [some (.ref 67), some (.int 13), some (.int 0), some (.int 9)]) rfl rfl (by decide) dX12_restOf_23 ?_
  refine G_iinc (pc := 24) (v := 1) (w := 10) (L1 := [some (.ref 67), some (.int 13), some (.int 0), some (.int 10)]) (by decide) rfl rfl (by decide) rfl (by decide) dX12_restOf_24 ?_
  refine G_goto (pc := 27) (tgt := 4) (by decide) dX12_restOf_27 ?_
  refine G_iload_n (pc := 4) rfl dX12_restOf_4 ?_
  refine G_iload_n (pc := 5) rfl dX12_restOf_5 ?_
  refine G_icmp_ge (pc := 6) (tgt := 30) (by decide) dX12_restOf_6 (fun z => absurd z (by decide)) (fun _ => ?_)
  refine G_aload_n (pc := 9) rfl dX12_restOf_9 ?_
  refine G_callV (pc := 10) (mc1 := 0) (ms1 := 0) (ci := 12) (mj := mX12_isOver) (vs := []) dX12_restOf_10 rfl rfl cm_X12_isOver wh_22 wh_24 wh_25 rfl (Nat.le_of_ble_eq_true rfl) (Nat.le_of_ble_eq_true rfl) (Nat.le_of_ble_eq_true rfl) (Nat.le_of_ble_eq_true rfl) (s10274_X12_isOver J (d + 1)  ) ?_
  rintro _ _ ⟨rfl, rfl⟩
  dsimp only [Option.toList, List.cons_append, List.nil_append]
  refine G_if_ne (pc := 13) (tgt := 30) (by decide) dX12_restOf_13 (fun z => absurd (by decide) z) (fun _ => ?_)
  refine G_iload_n (pc := 16) rfl dX12_restOf_16 ?_
  refine G_aload_n (pc := 17) rfl dX12_restOf_17 ?_
  refine G_iconst (pc := 18) (v := (-1)) (by decide) dX12_restOf_18 ?_
  refine G_callV (pc := 19) (mc1 := 0) (ms1 := 0) (ci := 12) (mj := mX12_goesBy) (vs := [_]) dX12_restOf_19 rfl rfl cm_X12_goesBy wh_72 wh_74 wh_75 rfl (Nat.le_of_ble_eq_true rfl) (Nat.le_of_ble_eq_true rfl) (Nat.le_of_ble_eq_true rfl) (Nat.le_of_ble_eq_true rfl) (s10275_X12_goesBy J d  ) ?_
  rintro _ _ ⟨rfl, rfl⟩
  dsimp only [Option.toList, List.cons_append, List.nil_append]
  refine G_iadd (pc := 22) (z := 0) (by decide) dX12_restOf_22 ?_
  refine G_istore_n (pc := 23) (L1 := [some (.ref 67), some (.int 13), some (.int 0), some (.int 10)]) rfl rfl (by decide) dX12_restOf_23 ?_
  refine G_iinc (pc := 24) (v := 1) (w := 11) (L1 := [some (.ref 67), some (.int 13), some (.int 0), some (.int 11)]) (by decide) rfl rfl (by decide) rfl (by decide) dX12_restOf_24 ?_
  refine G_goto (pc := 27) (tgt := 4) (by decide) dX12_restOf_27 ?_
  refine G_iload_n (pc := 4) rfl dX12_restOf_4 ?_
  refine G_iload_n (pc := 5) rfl dX12_restOf_5 ?_
  refine G_icmp_ge (pc := 6) (tgt := 30) (by decide) dX12_restOf_6 (fun z => absurd z (by decide)) (fun _ => ?_)
  refine G_aload_n (pc := 9) rfl dX12_restOf_9 ?_
  refine G_callV (pc := 10) (mc1 := 0) (ms1 := 0) (ci := 12) (mj := mX12_isOver) (vs := []) dX12_restOf_10 rfl rfl cm_X12_isOver wh_22 wh_24 wh_25 rfl (Nat.le_of_ble_eq_true rfl) (Nat.le_of_ble_eq_true rfl) (Nat.le_of_ble_eq_true rfl) (Nat.le_of_ble_eq_true rfl) (s10277_X12_isOver J (d + 1)  ) ?_
  rintro _ _ ⟨rfl, rfl⟩
  dsimp only [Option.toList, List.cons_append, List.nil_append]
  refine G_if_ne (pc := 13) (tgt := 30) (by decide) dX12_restOf_13 (fun z => absurd (by decide) z) (fun _ => ?_)
  refine G_iload_n (pc := 16) rfl dX12_restOf_16 ?_
  refine G_aload_n (pc := 17) rfl dX12_restOf_17 ?_
  refine G_iconst (pc := 18) (v := (-1)) (by decide) dX12_restOf_18 ?_
  refine G_callV (pc := 19) (mc1 := 0) (ms1 := 0) (ci := 12) (mj := mX12_goesBy) (vs := [_]) dX12_restOf_19 rfl rfl cm_X12_goesBy wh_72 wh_74 wh_75 rfl (Nat.le_of_ble_eq_true rfl) (Nat.le_of_ble_eq_true rfl) (Nat.le_of_ble_eq_true rfl) (Nat.le_of_ble_eq_true rfl) (s10278_X12_goesBy J d  ) ?_
  rintro _ _ ⟨rfl, rfl⟩
  dsimp only [Option.toList, List.cons_append, List.nil_append]
  refine G_iadd (pc := 22) (z := 0) (by decide) dX12_restOf_22 ?_
  refine G_istore_n (pc := 23) (L1 := [some (.ref 67), some (.int 13), some (.int 0), some (.int 11)]) rfl rfl (by decide) dX12_restOf_23 ?_
  refine G_iinc (pc := 24) (v := 1) (w := 12) (L1 := [some (.ref 67), some (.int 13), some (.int 0), some (.int 12)]) (by decide) rfl rfl (by decide) rfl (by decide) dX12_restOf_24 ?_
  refine G_goto (pc := 27) (tgt := 4) (by decide) dX12_restOf_27 ?_
  refine G_iload_n (pc := 4) rfl dX12_restOf_4 ?_
  refine G_iload_n (pc := 5) rfl dX12_restOf_5 ?_
  refine G_icmp_ge (pc := 6) (tgt := 30) (by decide) dX12_restOf_6 (fun z => absurd z (by decide)) (fun _ => ?_)
  refine G_aload_n (pc := 9) rfl dX12_restOf_9 ?_
  refine G_callV (pc := 10) (mc1 := 0) (ms1 := 0) (ci := 12) (mj := mX12_isOver) (vs := []) dX12_restOf_10 rfl rfl cm_X12_isOver wh_22 wh_24 wh_25 rfl (Nat.le_of_ble_eq_true rfl) (Nat.le_of_ble_eq_true rfl) (Nat.le_of_ble_eq_true rfl) (Nat.le_of_ble_eq_true rfl) (s10280_X12_isOver J (d + 1)  ) ?_
  rintro _ _ ⟨rfl, rfl⟩
  dsimp only [Option.toList, List.cons_append, List.nil_append]
  refine G_if_ne (pc := 13) (tgt := 30) (by decide) dX12_restOf_13 (fun _ => ?_) (fun z => absurd z (by decide))
  refine G_iload_n (pc := 30) rfl dX12_restOf_30 ?_
  exact G_iret (pc := 31) (Nat.le_of_ble_eq_true rfl) (Nat.le_of_ble_eq_true rfl) rfl dX12_restOf_31 ⟨rfl, rfl⟩
set_option maxRecDepth 100000 in
set_option maxHeartbeats 4000000 in
theorem s10295_X12_restOf (J : gI) (d : Nat)   : G (d + 2) mX12_restOf 0 0 0 0 0 (gent 4 [.ref 67, .int 14]) [] SH0 RF0 (gcp (gmx J) 68 70 0 0 65) (fun r h => r = some (.int 0) ∧ h = (SH0, RF0, (gup (gup (gup (gup (gup (gup (gup (gup (gup (gup (gup (gup (gup (gup (gup (gup (gup (gup (gup (gup (gup (gup (gup (gup (gcp (gmx J) 68 70 0 0 65) 68 0 1) 68 2 0) 68 0 2) 68 2 0) 68 0 3) 68 2 0) 68 0 4) 68 2 0) 68 0 5) 68 2 0) 68 0 6) 68 2 0) 68 0 7) 68 2 0) 68 0 8) 68 2 0) 68 0 9) 68 2 0) 68 0 10) 68 2 0) 68 0 11) 68 2 0) 68 0 12) 68 2 0))) := by
  refine G_iconst (pc := 0) (v := 0) (by decide) dX12_restOf_0 ?_
  refine G_istore_n (pc := 1) (L1 := [some (.ref 67), some (.int 14), some (.int 0), none]) rfl rfl (by decide) dX12_restOf_1 ?_
  refine G_iconst (pc := 2) (v := 0) (by decide) dX12_restOf_2 ?_
  refine G_istore_n (pc := 3) (L1 := [some (.ref 67), some (.int 14), some (.int 0), some (.int 0)]) rfl rfl (by decide) dX12_restOf_3 ?_
  refine G_iload_n (pc := 4) rfl dX12_restOf_4 ?_
  refine G_iload_n (pc := 5) rfl dX12_restOf_5 ?_
  refine G_icmp_ge (pc := 6) (tgt := 30) (by decide) dX12_restOf_6 (fun z => absurd z (by decide)) (fun _ => ?_)
  refine G_aload_n (pc := 9) rfl dX12_restOf_9 ?_
  refine G_callV (pc := 10) (mc1 := 0) (ms1 := 0) (ci := 12) (mj := mX12_isOver) (vs := []) dX12_restOf_10 rfl rfl cm_X12_isOver wh_22 wh_24 wh_25 rfl (Nat.le_of_ble_eq_true rfl) (Nat.le_of_ble_eq_true rfl) (Nat.le_of_ble_eq_true rfl) (Nat.le_of_ble_eq_true rfl) (s10244_X12_isOver J (d + 1)  ) ?_
  rintro _ _ ⟨rfl, rfl⟩
  dsimp only [Option.toList, List.cons_append, List.nil_append]
  refine G_if_ne (pc := 13) (tgt := 30) (by decide) dX12_restOf_13 (fun z => absurd (by decide) z) (fun _ => ?_)
  refine G_iload_n (pc := 16) rfl dX12_restOf_16 ?_
  refine G_aload_n (pc := 17) rfl dX12_restOf_17 ?_
  refine G_iconst (pc := 18) (v := (-1)) (by decide) dX12_restOf_18 ?_
  refine G_callV (pc := 19) (mc1 := 0) (ms1 := 0) (ci := 12) (mj := mX12_goesBy) (vs := [_]) dX12_restOf_19 rfl rfl cm_X12_goesBy wh_72 wh_74 wh_75 rfl (Nat.le_of_ble_eq_true rfl) (Nat.le_of_ble_eq_true rfl) (Nat.le_of_ble_eq_true rfl) (Nat.le_of_ble_eq_true rfl) (s10245_X12_goesBy J d  ) ?_
  rintro _ _ ⟨rfl, rfl⟩
  dsimp only [Option.toList, List.cons_append, List.nil_append]
  refine G_iadd (pc := 22) (z := 0) (by decide) dX12_restOf_22 ?_
  refine G_istore_n (pc := 23) (L1 := [some (.ref 67), some (.int 14), some (.int 0), some (.int 0)]) rfl rfl (by decide) dX12_restOf_23 ?_
  refine G_iinc (pc := 24) (v := 1) (w := 1) (L1 := [some (.ref 67), some (.int 14), some (.int 0), some (.int 1)]) (by decide) rfl rfl (by decide) rfl (by decide) dX12_restOf_24 ?_
  refine G_goto (pc := 27) (tgt := 4) (by decide) dX12_restOf_27 ?_
  refine G_iload_n (pc := 4) rfl dX12_restOf_4 ?_
  refine G_iload_n (pc := 5) rfl dX12_restOf_5 ?_
  refine G_icmp_ge (pc := 6) (tgt := 30) (by decide) dX12_restOf_6 (fun z => absurd z (by decide)) (fun _ => ?_)
  refine G_aload_n (pc := 9) rfl dX12_restOf_9 ?_
  refine G_callV (pc := 10) (mc1 := 0) (ms1 := 0) (ci := 12) (mj := mX12_isOver) (vs := []) dX12_restOf_10 rfl rfl cm_X12_isOver wh_22 wh_24 wh_25 rfl (Nat.le_of_ble_eq_true rfl) (Nat.le_of_ble_eq_true rfl) (Nat.le_of_ble_eq_true rfl) (Nat.le_of_ble_eq_true rfl) (s10247_X12_isOver J (d + 1)  ) ?_
  rintro _ _ ⟨rfl, rfl⟩
  dsimp only [Option.toList, List.cons_append, List.nil_append]
  refine G_if_ne (pc := 13) (tgt := 30) (by decide) dX12_restOf_13 (fun z => absurd (by decide) z) (fun _ => ?_)
  refine G_iload_n (pc := 16) rfl dX12_restOf_16 ?_
  refine G_aload_n (pc := 17) rfl dX12_restOf_17 ?_
  refine G_iconst (pc := 18) (v := (-1)) (by decide) dX12_restOf_18 ?_
  refine G_callV (pc := 19) (mc1 := 0) (ms1 := 0) (ci := 12) (mj := mX12_goesBy) (vs := [_]) dX12_restOf_19 rfl rfl cm_X12_goesBy wh_72 wh_74 wh_75 rfl (Nat.le_of_ble_eq_true rfl) (Nat.le_of_ble_eq_true rfl) (Nat.le_of_ble_eq_true rfl) (Nat.le_of_ble_eq_true rfl) (s10248_X12_goesBy J d  ) ?_
  rintro _ _ ⟨rfl, rfl⟩
  dsimp only [Option.toList, List.cons_append, List.nil_append]
  refine G_iadd (pc := 22) (z := 0) (by decide) dX12_restOf_22 ?_
  refine G_istore_n (pc := 23) (L1 := [some (.ref 67), some (.int 14), some (.int 0), some (.int 1)]) rfl rfl (by decide) dX12_restOf_23 ?_
  refine G_iinc (pc := 24) (v := 1) (w := 2) (L1 := [some (.ref 67), some (.int 14), some (.int 0), some (.int 2)]) (by decide) rfl rfl (by decide) rfl (by decide) dX12_restOf_24 ?_
  refine G_goto (pc := 27) (tgt := 4) (by decide) dX12_restOf_27 ?_
  refine G_iload_n (pc := 4) rfl dX12_restOf_4 ?_
  refine G_iload_n (pc := 5) rfl dX12_restOf_5 ?_
  refine G_icmp_ge (pc := 6) (tgt := 30) (by decide) dX12_restOf_6 (fun z => absurd z (by decide)) (fun _ => ?_)
  refine G_aload_n (pc := 9) rfl dX12_restOf_9 ?_
  refine G_callV (pc := 10) (mc1 := 0) (ms1 := 0) (ci := 12) (mj := mX12_isOver) (vs := []) dX12_restOf_10 rfl rfl cm_X12_isOver wh_22 wh_24 wh_25 rfl (Nat.le_of_ble_eq_true rfl) (Nat.le_of_ble_eq_true rfl) (Nat.le_of_ble_eq_true rfl) (Nat.le_of_ble_eq_true rfl) (s10250_X12_isOver J (d + 1)  ) ?_
  rintro _ _ ⟨rfl, rfl⟩
  dsimp only [Option.toList, List.cons_append, List.nil_append]
  refine G_if_ne (pc := 13) (tgt := 30) (by decide) dX12_restOf_13 (fun z => absurd (by decide) z) (fun _ => ?_)
  refine G_iload_n (pc := 16) rfl dX12_restOf_16 ?_
  refine G_aload_n (pc := 17) rfl dX12_restOf_17 ?_
  refine G_iconst (pc := 18) (v := (-1)) (by decide) dX12_restOf_18 ?_
  refine G_callV (pc := 19) (mc1 := 0) (ms1 := 0) (ci := 12) (mj := mX12_goesBy) (vs := [_]) dX12_restOf_19 rfl rfl cm_X12_goesBy wh_72 wh_74 wh_75 rfl (Nat.le_of_ble_eq_true rfl) (Nat.le_of_ble_eq_true rfl) (Nat.le_of_ble_eq_true rfl) (Nat.le_of_ble_eq_true rfl) (s10251_X12_goesBy J d  ) ?_
  rintro _ _ ⟨rfl, rfl⟩
  dsimp only [Option.toList, List.cons_append, List.nil_append]
  refine G_iadd (pc := 22) (z := 0) (by decide) dX12_restOf_22 ?_
  refine G_istore_n (pc := 23) (L1 := [some (.ref 67), some (.int 14), some (.int 0), some (.int 2)]) rfl rfl (by decide) dX12_restOf_23 ?_
  refine G_iinc (pc := 24) (v := 1) (w := 3) (L1 := [some (.ref 67), some (.int 14), some (.int 0), some (.int 3)]) (by decide) rfl rfl (by decide) rfl (by decide) dX12_restOf_24 ?_
  refine G_goto (pc := 27) (tgt := 4) (by decide) dX12_restOf_27 ?_
  refine G_iload_n (pc := 4) rfl dX12_restOf_4 ?_
  refine G_iload_n (pc := 5) rfl dX12_restOf_5 ?_
  refine G_icmp_ge (pc := 6) (tgt := 30) (by decide) dX12_restOf_6 (fun z => absurd z (by decide)) (fun _ => ?_)
  refine G_aload_n (pc := 9) rfl dX12_restOf_9 ?_
  refine G_callV (pc := 10) (mc1 := 0) (ms1 := 0) (ci := 12) (mj := mX12_isOver) (vs := []) dX12_restOf_10 rfl rfl cm_X12_isOver wh_22 wh_24 wh_25 rfl (Nat.le_of_ble_eq_true rfl) (Nat.le_of_ble_eq_true rfl) (Nat.le_of_ble_eq_true rfl) (Nat.le_of_ble_eq_true rfl) (s10253_X12_isOver J (d + 1)  ) ?_
  rintro _ _ ⟨rfl, rfl⟩
  dsimp only [Option.toList, List.cons_append, List.nil_append]
  refine G_if_ne (pc := 13) (tgt := 30) (by decide) dX12_restOf_13 (fun z => absurd (by decide) z) (fun _ => ?_)
  refine G_iload_n (pc := 16) rfl dX12_restOf_16 ?_
  refine G_aload_n (pc := 17) rfl dX12_restOf_17 ?_
  refine G_iconst (pc := 18) (v := (-1)) (by decide) dX12_restOf_18 ?_
  refine G_callV (pc := 19) (mc1 := 0) (ms1 := 0) (ci := 12) (mj := mX12_goesBy) (vs := [_]) dX12_restOf_19 rfl rfl cm_X12_goesBy wh_72 wh_74 wh_75 rfl (Nat.le_of_ble_eq_true rfl) (Nat.le_of_ble_eq_true rfl) (Nat.le_of_ble_eq_true rfl) (Nat.le_of_ble_eq_true rfl) (s10254_X12_goesBy J d  ) ?_
  rintro _ _ ⟨rfl, rfl⟩
  dsimp only [Option.toList, List.cons_append, List.nil_append]
  refine G_iadd (pc := 22) (z := 0) (by decide) dX12_restOf_22 ?_
  refine G_istore_n (pc := 23) (L1 := [some (.ref 67), some (.int 14), some (.int 0), some (.int 3)]) rfl rfl (by decide) dX12_restOf_23 ?_
  refine G_iinc (pc := 24) (v := 1) (w := 4) (L1 := [some (.ref 67), some (.int 14), some (.int 0), some (.int 4)]) (by decide) rfl rfl (by decide) rfl (by decide) dX12_restOf_24 ?_
  refine G_goto (pc := 27) (tgt := 4) (by decide) dX12_restOf_27 ?_
  refine G_iload_n (pc := 4) rfl dX12_restOf_4 ?_
  refine G_iload_n (pc := 5) rfl dX12_restOf_5 ?_
  refine G_icmp_ge (pc := 6) (tgt := 30) (by decide) dX12_restOf_6 (fun z => absurd z (by decide)) (fun _ => ?_)
  refine G_aload_n (pc := 9) rfl dX12_restOf_9 ?_
  refine G_callV (pc := 10) (mc1 := 0) (ms1 := 0) (ci := 12) (mj := mX12_isOver) (vs := []) dX12_restOf_10 rfl rfl cm_X12_isOver wh_22 wh_24 wh_25 rfl (Nat.le_of_ble_eq_true rfl) (Nat.le_of_ble_eq_true rfl) (Nat.le_of_ble_eq_true rfl) (Nat.le_of_ble_eq_true rfl) (s10256_X12_isOver J (d + 1)  ) ?_
  rintro _ _ ⟨rfl, rfl⟩
  dsimp only [Option.toList, List.cons_append, List.nil_append]
  refine G_if_ne (pc := 13) (tgt := 30) (by decide) dX12_restOf_13 (fun z => absurd (by decide) z) (fun _ => ?_)
  refine G_iload_n (pc := 16) rfl dX12_restOf_16 ?_
  refine G_aload_n (pc := 17) rfl dX12_restOf_17 ?_
  refine G_iconst (pc := 18) (v := (-1)) (by decide) dX12_restOf_18 ?_
  refine G_callV (pc := 19) (mc1 := 0) (ms1 := 0) (ci := 12) (mj := mX12_goesBy) (vs := [_]) dX12_restOf_19 rfl rfl cm_X12_goesBy wh_72 wh_74 wh_75 rfl (Nat.le_of_ble_eq_true rfl) (Nat.le_of_ble_eq_true rfl) (Nat.le_of_ble_eq_true rfl) (Nat.le_of_ble_eq_true rfl) (s10257_X12_goesBy J d  ) ?_
  rintro _ _ ⟨rfl, rfl⟩
  dsimp only [Option.toList, List.cons_append, List.nil_append]
  refine G_iadd (pc := 22) (z := 0) (by decide) dX12_restOf_22 ?_
  refine G_istore_n (pc := 23) (L1 := [some (.ref 67), some (.int 14), some (.int 0), some (.int 4)]) rfl rfl (by decide) dX12_restOf_23 ?_
  refine G_iinc (pc := 24) (v := 1) (w := 5) (L1 := [some (.ref 67), some (.int 14), some (.int 0), some (.int 5)]) (by decide) rfl rfl (by decide) rfl (by decide) dX12_restOf_24 ?_
  refine G_goto (pc := 27) (tgt := 4) (by decide) dX12_restOf_27 ?_
  refine G_iload_n (pc := 4) rfl dX12_restOf_4 ?_
  refine G_iload_n (pc := 5) rfl dX12_restOf_5 ?_
  refine G_icmp_ge (pc := 6) (tgt := 30) (by decide) dX12_restOf_6 (fun z => absurd z (by decide)) (fun _ => ?_)
  refine G_aload_n (pc := 9) rfl dX12_restOf_9 ?_
  refine G_callV (pc := 10) (mc1 := 0) (ms1 := 0) (ci := 12) (mj := mX12_isOver) (vs := []) dX12_restOf_10 rfl rfl cm_X12_isOver wh_22 wh_24 wh_25 rfl (Nat.le_of_ble_eq_true rfl) (Nat.le_of_ble_eq_true rfl) (Nat.le_of_ble_eq_true rfl) (Nat.le_of_ble_eq_true rfl) (s10259_X12_isOver J (d + 1)  ) ?_
  rintro _ _ ⟨rfl, rfl⟩
  dsimp only [Option.toList, List.cons_append, List.nil_append]
  refine G_if_ne (pc := 13) (tgt := 30) (by decide) dX12_restOf_13 (fun z => absurd (by decide) z) (fun _ => ?_)
  refine G_iload_n (pc := 16) rfl dX12_restOf_16 ?_
  refine G_aload_n (pc := 17) rfl dX12_restOf_17 ?_
  refine G_iconst (pc := 18) (v := (-1)) (by decide) dX12_restOf_18 ?_
  refine G_callV (pc := 19) (mc1 := 0) (ms1 := 0) (ci := 12) (mj := mX12_goesBy) (vs := [_]) dX12_restOf_19 rfl rfl cm_X12_goesBy wh_72 wh_74 wh_75 rfl (Nat.le_of_ble_eq_true rfl) (Nat.le_of_ble_eq_true rfl) (Nat.le_of_ble_eq_true rfl) (Nat.le_of_ble_eq_true rfl) (s10260_X12_goesBy J d  ) ?_
  rintro _ _ ⟨rfl, rfl⟩
  dsimp only [Option.toList, List.cons_append, List.nil_append]
  refine G_iadd (pc := 22) (z := 0) (by decide) dX12_restOf_22 ?_
  refine G_istore_n (pc := 23) (L1 := [some (.ref 67), some (.int 14), some (.int 0), some (.int 5)]) rfl rfl (by decide) dX12_restOf_23 ?_
  refine G_iinc (pc := 24) (v := 1) (w := 6) (L1 := [some (.ref 67), some (.int 14), some (.int 0), some (.int 6)]) (by decide) rfl rfl (by decide) rfl (by decide) dX12_restOf_24 ?_
  refine G_goto (pc := 27) (tgt := 4) (by decide) dX12_restOf_27 ?_
  refine G_iload_n (pc := 4) rfl dX12_restOf_4 ?_
  refine G_iload_n (pc := 5) rfl dX12_restOf_5 ?_
  refine G_icmp_ge (pc := 6) (tgt := 30) (by decide) dX12_restOf_6 (fun z => absurd z (by decide)) (fun _ => ?_)
  refine G_aload_n (pc := 9) rfl dX12_restOf_9 ?_
  refine G_callV (pc := 10) (mc1 := 0) (ms1 := 0) (ci := 12) (mj := mX12_isOver) (vs := []) dX12_restOf_10 rfl rfl cm_X12_isOver wh_22 wh_24 wh_25 rfl (Nat.le_of_ble_eq_true rfl) (Nat.le_of_ble_eq_true rfl) (Nat.le_of_ble_eq_true rfl) (Nat.le_of_ble_eq_true rfl) (s10262_X12_isOver J (d + 1)  ) ?_
  rintro _ _ ⟨rfl, rfl⟩
  dsimp only [Option.toList, List.cons_append, List.nil_append]
  refine G_if_ne (pc := 13) (tgt := 30) (by decide) dX12_restOf_13 (fun z => absurd (by decide) z) (fun _ => ?_)
  refine G_iload_n (pc := 16) rfl dX12_restOf_16 ?_
  refine G_aload_n (pc := 17) rfl dX12_restOf_17 ?_
  refine G_iconst (pc := 18) (v := (-1)) (by decide) dX12_restOf_18 ?_
  refine G_callV (pc := 19) (mc1 := 0) (ms1 := 0) (ci := 12) (mj := mX12_goesBy) (vs := [_]) dX12_restOf_19 rfl rfl cm_X12_goesBy wh_72 wh_74 wh_75 rfl (Nat.le_of_ble_eq_true rfl) (Nat.le_of_ble_eq_true rfl) (Nat.le_of_ble_eq_true rfl) (Nat.le_of_ble_eq_true rfl) (s10263_X12_goesBy J d  ) ?_
  rintro _ _ ⟨rfl, rfl⟩
  dsimp only [Option.toList, List.cons_append, List.nil_append]
  refine G_iadd (pc := 22) (z := 0) (by decide) dX12_restOf_22 ?_
  refine G_istore_n (pc := 23) (L1 := [some (.ref 67), some (.int 14), some (.int 0), some (.int 6)]) rfl rfl (by decide) dX12_restOf_23 ?_
  refine G_iinc (pc := 24) (v := 1) (w := 7) (L1 := [some (.ref 67), some (.int 14), some (.int 0), some (.int 7)]) (by decide) rfl rfl (by decide) rfl (by decide) dX12_restOf_24 ?_
  refine G_goto (pc := 27) (tgt := 4) (by decide) dX12_restOf_27 ?_
  refine G_iload_n (pc := 4) rfl dX12_restOf_4 ?_
  refine G_iload_n (pc := 5) rfl dX12_restOf_5 ?_
  refine G_icmp_ge (pc := 6) (tgt := 30) (by decide) dX12_restOf_6 (fun z => absurd z (by decide)) (fun _ => ?_)
  refine G_aload_n (pc := 9) rfl dX12_restOf_9 ?_
  refine G_callV (pc := 10) (mc1 := 0) (ms1 := 0) (ci := 12) (mj := mX12_isOver) (vs := []) dX12_restOf_10 rfl rfl cm_X12_isOver wh_22 wh_24 wh_25 rfl (Nat.le_of_ble_eq_true rfl) (Nat.le_of_ble_eq_true rfl) (Nat.le_of_ble_eq_true rfl) (Nat.le_of_ble_eq_true rfl) (s10265_X12_isOver J (d + 1)  ) ?_
  rintro _ _ ⟨rfl, rfl⟩
  dsimp only [Option.toList, List.cons_append, List.nil_append]
  refine G_if_ne (pc := 13) (tgt := 30) (by decide) dX12_restOf_13 (fun z => absurd (by decide) z) (fun _ => ?_)
  refine G_iload_n (pc := 16) rfl dX12_restOf_16 ?_
  refine G_aload_n (pc := 17) rfl dX12_restOf_17 ?_
  refine G_iconst (pc := 18) (v := (-1)) (by decide) dX12_restOf_18 ?_
  refine G_callV (pc := 19) (mc1 := 0) (ms1 := 0) (ci := 12) (mj := mX12_goesBy) (vs := [_]) dX12_restOf_19 rfl rfl cm_X12_goesBy wh_72 wh_74 wh_75 rfl (Nat.le_of_ble_eq_true rfl) (Nat.le_of_ble_eq_true rfl) (Nat.le_of_ble_eq_true rfl) (Nat.le_of_ble_eq_true rfl) (s10266_X12_goesBy J d  ) ?_
  rintro _ _ ⟨rfl, rfl⟩
  dsimp only [Option.toList, List.cons_append, List.nil_append]
  refine G_iadd (pc := 22) (z := 0) (by decide) dX12_restOf_22 ?_
  refine G_istore_n (pc := 23) (L1 := [some (.ref 67), some (.int 14), some (.int 0), some (.int 7)]) rfl rfl (by decide) dX12_restOf_23 ?_
  refine G_iinc (pc := 24) (v := 1) (w := 8) (L1 := [some (.ref 67), some (.int 14), some (.int 0), some (.int 8)]) (by decide) rfl rfl (by decide) rfl (by decide) dX12_restOf_24 ?_
  refine G_goto (pc := 27) (tgt := 4) (by decide) dX12_restOf_27 ?_
  refine G_iload_n (pc := 4) rfl dX12_restOf_4 ?_
  refine G_iload_n (pc := 5) rfl dX12_restOf_5 ?_
  refine G_icmp_ge (pc := 6) (tgt := 30) (by decide) dX12_restOf_6 (fun z => absurd z (by decide)) (fun _ => ?_)
  refine G_aload_n (pc := 9) rfl dX12_restOf_9 ?_
  refine G_callV (pc := 10) (mc1 := 0) (ms1 := 0) (ci := 12) (mj := mX12_isOver) (vs := []) dX12_restOf_10 rfl rfl cm_X12_isOver wh_22 wh_24 wh_25 rfl (Nat.le_of_ble_eq_true rfl) (Nat.le_of_ble_eq_true rfl) (Nat.le_of_ble_eq_true rfl) (Nat.le_of_ble_eq_true rfl) (s10268_X12_isOver J (d + 1)  ) ?_
  rintro _ _ ⟨rfl, rfl⟩
  dsimp only [Option.toList, List.cons_append, List.nil_append]
  refine G_if_ne (pc := 13) (tgt := 30) (by decide) dX12_restOf_13 (fun z => absurd (by decide) z) (fun _ => ?_)
  refine G_iload_n (pc := 16) rfl dX12_restOf_16 ?_
  refine G_aload_n (pc := 17) rfl dX12_restOf_17 ?_
  refine G_iconst (pc := 18) (v := (-1)) (by decide) dX12_restOf_18 ?_
  refine G_callV (pc := 19) (mc1 := 0) (ms1 := 0) (ci := 12) (mj := mX12_goesBy) (vs := [_]) dX12_restOf_19 rfl rfl cm_X12_goesBy wh_72 wh_74 wh_75 rfl (Nat.le_of_ble_eq_true rfl) (Nat.le_of_ble_eq_true rfl) (Nat.le_of_ble_eq_true rfl) (Nat.le_of_ble_eq_true rfl) (s10269_X12_goesBy J d  ) ?_
  rintro _ _ ⟨rfl, rfl⟩
  dsimp only [Option.toList, List.cons_append, List.nil_append]
  refine G_iadd (pc := 22) (z := 0) (by decide) dX12_restOf_22 ?_
  refine G_istore_n (pc := 23) (L1 := [some (.ref 67), some (.int 14), some (.int 0), some (.int 8)]) rfl rfl (by decide) dX12_restOf_23 ?_
  refine G_iinc (pc := 24) (v := 1) (w := 9) (L1 := [some (.ref 67), some (.int 14), some (.int 0), some (.int 9)]) (by decide) rfl rfl (by decide) rfl (by decide) dX12_restOf_24 ?_
  refine G_goto (pc := 27) (tgt := 4) (by decide) dX12_restOf_27 ?_
  refine G_iload_n (pc := 4) rfl dX12_restOf_4 ?_
  refine G_iload_n (pc := 5) rfl dX12_restOf_5 ?_
  refine G_icmp_ge (pc := 6) (tgt := 30) (by decide) dX12_restOf_6 (fun z => absurd z (by decide)) (fun _ => ?_)
  refine G_aload_n (pc := 9) rfl dX12_restOf_9 ?_
  refine G_callV (pc := 10) (mc1 := 0) (ms1 := 0) (ci := 12) (mj := mX12_isOver) (vs := []) dX12_restOf_10 rfl rfl cm_X12_isOver wh_22 wh_24 wh_25 rfl (Nat.le_of_ble_eq_true rfl) (Nat.le_of_ble_eq_true rfl) (Nat.le_of_ble_eq_true rfl) (Nat.le_of_ble_eq_true rfl) (s10271_X12_isOver J (d + 1)  ) ?_
  rintro _ _ ⟨rfl, rfl⟩
  dsimp only [Option.toList, List.cons_append, List.nil_append]
  refine G_if_ne (pc := 13) (tgt := 30) (by decide) dX12_restOf_13 (fun z => absurd (by decide) z) (fun _ => ?_)
  refine G_iload_n (pc := 16) rfl dX12_restOf_16 ?_
  refine G_aload_n (pc := 17) rfl dX12_restOf_17 ?_
  refine G_iconst (pc := 18) (v := (-1)) (by decide) dX12_restOf_18 ?_
  refine G_callV (pc := 19) (mc1 := 0) (ms1 := 0) (ci := 12) (mj := mX12_goesBy) (vs := [_]) dX12_restOf_19 rfl rfl cm_X12_goesBy wh_72 wh_74 wh_75 rfl (Nat.le_of_ble_eq_true rfl) (Nat.le_of_ble_eq_true rfl) (Nat.le_of_ble_eq_true rfl) (Nat.le_of_ble_eq_true rfl) (s10272_X12_goesBy J d  ) ?_
  rintro _ _ ⟨rfl, rfl⟩
  dsimp only [Option.toList, List.cons_append, List.nil_append]
  refine G_iadd (pc := 22) (z := 0) (by decide) dX12_restOf_22 ?_
  refine G_istore_n (pc := 23) (L1 := [some (.ref 67), some (.int 14), some (.int 0), some (.int 9)]) rfl rfl (by decide) dX12_restOf_23 ?_
  refine G_iinc (pc := 24) (v := 1) (w := 10) (L1 := [some (.ref 67), some (.int 14), some (.int 0), some (.int 10)]) (by decide) rfl rfl (by decide) rfl (by decide) dX12_restOf_24 ?_
  refine G_goto (pc := 27) (tgt := 4) (by decide) dX12_restOf_27 ?_
  refine G_iload_n (pc := 4) rfl dX12_restOf_4 ?_
  refine G_iload_n (pc := 5) rfl dX12_restOf_5 ?_
  refine G_icmp_ge (pc := 6) (tgt := 30) (by decide) dX12_restOf_6 (fun z => absurd z (by decide)) (fun _ => ?_)
  refine G_aload_n (pc := 9) rfl dX12_restOf_9 ?_
  refine G_callV (pc := 10) (mc1 := 0) (ms1 := 0) (ci := 12) (mj := mX12_isOver) (vs := []) dX12_restOf_10 rfl rfl cm_X12_isOver wh_22 wh_24 wh_25 rfl (Nat.le_of_ble_eq_true rfl) (Nat.le_of_ble_eq_true rfl) (Nat.le_of_ble_eq_true rfl) (Nat.le_of_ble_eq_true rfl) (s10274_X12_isOver J (d + 1)  ) ?_
  rintro _ _ ⟨rfl, rfl⟩
  dsimp only [Option.toList, List.cons_append, List.nil_append]
  refine G_if_ne (pc := 13) (tgt := 30) (by decide) dX12_restOf_13 (fun z => absurd (by decide) z) (fun _ => ?_)
  refine G_iload_n (pc := 16) rfl dX12_restOf_16 ?_
  refine G_aload_n (pc := 17) rfl dX12_restOf_17 ?_
  refine G_iconst (pc := 18) (v := (-1)) (by decide) dX12_restOf_18 ?_
  refine G_callV (pc := 19) (mc1 := 0) (ms1 := 0) (ci := 12) (mj := mX12_goesBy) (vs := [_]) dX12_restOf_19 rfl rfl cm_X12_goesBy wh_72 wh_74 wh_75 rfl (Nat.le_of_ble_eq_true rfl) (Nat.le_of_ble_eq_true rfl) (Nat.le_of_ble_eq_true rfl) (Nat.le_of_ble_eq_true rfl) (s10275_X12_goesBy J d  ) ?_
  rintro _ _ ⟨rfl, rfl⟩
  dsimp only [Option.toList, List.cons_append, List.nil_append]
  refine G_iadd (pc := 22) (z := 0) (by decide) dX12_restOf_22 ?_
  refine G_istore_n (pc := 23) (L1 := [some (.ref 67), some (.int 14), some (.int 0), some (.int 10)]) rfl rfl (by decide) dX12_restOf_23 ?_
  refine G_iinc (pc := 24) (v := 1) (w := 11) (L1 := [some (.ref 67), some (.int 14), some (.int 0), some (.int 11)]) (by decide) rfl rfl (by decide) rfl (by decide) dX12_restOf_24 ?_
  refine G_goto (pc := 27) (tgt := 4) (by decide) dX12_restOf_27 ?_
  refine G_iload_n (pc := 4) rfl dX12_restOf_4 ?_
  refine G_iload_n (pc := 5) rfl dX12_restOf_5 ?_
  refine G_icmp_ge (pc := 6) (tgt := 30) (by decide) dX12_restOf_6 (fun z => absurd z (by decide)) (fun _ => ?_)
  refine G_aload_n (pc := 9) rfl dX12_restOf_9 ?_
  refine G_callV (pc := 10) (mc1 := 0) (ms1 := 0) (ci := 12) (mj := mX12_isOver) (vs := []) dX12_restOf_10 rfl rfl cm_X12_isOver wh_22 wh_24 wh_25 rfl (Nat.le_of_ble_eq_true rfl) (Nat.le_of_ble_eq_true rfl) (Nat.le_of_ble_eq_true rfl) (Nat.le_of_ble_eq_true rfl) (s10277_X12_isOver J (d + 1)  ) ?_
  rintro _ _ ⟨rfl, rfl⟩
  dsimp only [Option.toList, List.cons_append, List.nil_append]
  refine G_if_ne (pc := 13) (tgt := 30) (by decide) dX12_restOf_13 (fun z => absurd (by decide) z) (fun _ => ?_)
  refine G_iload_n (pc := 16) rfl dX12_restOf_16 ?_
  refine G_aload_n (pc := 17) rfl dX12_restOf_17 ?_
  refine G_iconst (pc := 18) (v := (-1)) (by decide) dX12_restOf_18 ?_
  refine G_callV (pc := 19) (mc1 := 0) (ms1 := 0) (ci := 12) (mj := mX12_goesBy) (vs := [_]) dX12_restOf_19 rfl rfl cm_X12_goesBy wh_72 wh_74 wh_75 rfl (Nat.le_of_ble_eq_true rfl) (Nat.le_of_ble_eq_true rfl) (Nat.le_of_ble_eq_true rfl) (Nat.le_of_ble_eq_true rfl) (s10278_X12_goesBy J d  ) ?_
  rintro _ _ ⟨rfl, rfl⟩
  dsimp only [Option.toList, List.cons_append, List.nil_append]
  refine G_iadd (pc := 22) (z := 0) (by decide) dX12_restOf_22 ?_
  refine G_istore_n (pc := 23) (L1 := [some (.ref 67), some (.int 14), some (.int 0), some (.int 11)]) rfl rfl (by decide) dX12_restOf_23 ?_
  refine G_iinc (pc := 24) (v := 1) (w := 12) (L1 := [some (.ref 67), some (.int 14), some (.int 0), some (.int 12)]) (by decide) rfl rfl (by decide) rfl (by decide) dX12_restOf_24 ?_
  refine G_goto (pc := 27) (tgt := 4) (by decide) dX12_restOf_27 ?_
  refine G_iload_n (pc := 4) rfl dX12_restOf_4 ?_
  refine G_iload_n (pc := 5) rfl dX12_restOf_5 ?_
  refine G_icmp_ge (pc := 6) (tgt := 30) (by decide) dX12_restOf_6 (fun z => absurd z (by decide)) (fun _ => ?_)
  refine G_aload_n (pc := 9) rfl dX12_restOf_9 ?_
  refine G_callV (pc := 10) (mc1 := 0) (ms1 := 0) (ci := 12) (mj := mX12_isOver) (vs := []) dX12_restOf_10 rfl rfl cm_X12_isOver wh_22 wh_24 wh_25 rfl (Nat.le_of_ble_eq_true rfl) (Nat.le_of_ble_eq_true rfl) (Nat.le_of_ble_eq_true rfl) (Nat.le_of_ble_eq_true rfl) (s10280_X12_isOver J (d + 1)  ) ?_
  rintro _ _ ⟨rfl, rfl⟩
  dsimp only [Option.toList, List.cons_append, List.nil_append]
  refine G_if_ne (pc := 13) (tgt := 30) (by decide) dX12_restOf_13 (fun _ => ?_) (fun z => absurd z (by decide))
  refine G_iload_n (pc := 30) rfl dX12_restOf_30 ?_
  exact G_iret (pc := 31) (Nat.le_of_ble_eq_true rfl) (Nat.le_of_ble_eq_true rfl) rfl dX12_restOf_31 ⟨rfl, rfl⟩
set_option maxRecDepth 100000 in
set_option maxHeartbeats 4000000 in
theorem s10296_X12_restOf (J : gI) (d : Nat)   : G (d + 2) mX12_restOf 0 0 0 0 0 (gent 4 [.ref 67, .int 15]) [] SH0 RF0 (gcp (gmx J) 68 70 0 0 65) (fun r h => r = some (.int 0) ∧ h = (SH0, RF0, (gup (gup (gup (gup (gup (gup (gup (gup (gup (gup (gup (gup (gup (gup (gup (gup (gup (gup (gup (gup (gup (gup (gup (gup (gcp (gmx J) 68 70 0 0 65) 68 0 1) 68 2 0) 68 0 2) 68 2 0) 68 0 3) 68 2 0) 68 0 4) 68 2 0) 68 0 5) 68 2 0) 68 0 6) 68 2 0) 68 0 7) 68 2 0) 68 0 8) 68 2 0) 68 0 9) 68 2 0) 68 0 10) 68 2 0) 68 0 11) 68 2 0) 68 0 12) 68 2 0))) := by
  refine G_iconst (pc := 0) (v := 0) (by decide) dX12_restOf_0 ?_
  refine G_istore_n (pc := 1) (L1 := [some (.ref 67), some (.int 15), some (.int 0), none]) rfl rfl (by decide) dX12_restOf_1 ?_
  refine G_iconst (pc := 2) (v := 0) (by decide) dX12_restOf_2 ?_
  refine G_istore_n (pc := 3) (L1 := [some (.ref 67), some (.int 15), some (.int 0), some (.int 0)]) rfl rfl (by decide) dX12_restOf_3 ?_
  refine G_iload_n (pc := 4) rfl dX12_restOf_4 ?_
  refine G_iload_n (pc := 5) rfl dX12_restOf_5 ?_
  refine G_icmp_ge (pc := 6) (tgt := 30) (by decide) dX12_restOf_6 (fun z => absurd z (by decide)) (fun _ => ?_)
  refine G_aload_n (pc := 9) rfl dX12_restOf_9 ?_
  refine G_callV (pc := 10) (mc1 := 0) (ms1 := 0) (ci := 12) (mj := mX12_isOver) (vs := []) dX12_restOf_10 rfl rfl cm_X12_isOver wh_22 wh_24 wh_25 rfl (Nat.le_of_ble_eq_true rfl) (Nat.le_of_ble_eq_true rfl) (Nat.le_of_ble_eq_true rfl) (Nat.le_of_ble_eq_true rfl) (s10244_X12_isOver J (d + 1)  ) ?_
  rintro _ _ ⟨rfl, rfl⟩
  dsimp only [Option.toList, List.cons_append, List.nil_append]
  refine G_if_ne (pc := 13) (tgt := 30) (by decide) dX12_restOf_13 (fun z => absurd (by decide) z) (fun _ => ?_)
  refine G_iload_n (pc := 16) rfl dX12_restOf_16 ?_
  refine G_aload_n (pc := 17) rfl dX12_restOf_17 ?_
  refine G_iconst (pc := 18) (v := (-1)) (by decide) dX12_restOf_18 ?_
  refine G_callV (pc := 19) (mc1 := 0) (ms1 := 0) (ci := 12) (mj := mX12_goesBy) (vs := [_]) dX12_restOf_19 rfl rfl cm_X12_goesBy wh_72 wh_74 wh_75 rfl (Nat.le_of_ble_eq_true rfl) (Nat.le_of_ble_eq_true rfl) (Nat.le_of_ble_eq_true rfl) (Nat.le_of_ble_eq_true rfl) (s10245_X12_goesBy J d  ) ?_
  rintro _ _ ⟨rfl, rfl⟩
  dsimp only [Option.toList, List.cons_append, List.nil_append]
  refine G_iadd (pc := 22) (z := 0) (by decide) dX12_restOf_22 ?_
  refine G_istore_n (pc := 23) (L1 := [some (.ref 67), some (.int 15), some (.int 0), some (.int 0)]) rfl rfl (by decide) dX12_restOf_23 ?_
  refine G_iinc (pc := 24) (v := 1) (w := 1) (L1 := [some (.ref 67), some (.int 15), some (.int 0), some (.int 1)]) (by decide) rfl rfl (by decide) rfl (by decide) dX12_restOf_24 ?_
  refine G_goto (pc := 27) (tgt := 4) (by decide) dX12_restOf_27 ?_
  refine G_iload_n (pc := 4) rfl dX12_restOf_4 ?_
  refine G_iload_n (pc := 5) rfl dX12_restOf_5 ?_
  refine G_icmp_ge (pc := 6) (tgt := 30) (by decide) dX12_restOf_6 (fun z => absurd z (by decide)) (fun _ => ?_)
  refine G_aload_n (pc := 9) rfl dX12_restOf_9 ?_
  refine G_callV (pc := 10) (mc1 := 0) (ms1 := 0) (ci := 12) (mj := mX12_isOver) (vs := []) dX12_restOf_10 rfl rfl cm_X12_isOver wh_22 wh_24 wh_25 rfl (Nat.le_of_ble_eq_true rfl) (Nat.le_of_ble_eq_true rfl) (Nat.le_of_ble_eq_true rfl) (Nat.le_of_ble_eq_true rfl) (s10247_X12_isOver J (d + 1)  ) ?_
  rintro _ _ ⟨rfl, rfl⟩
  dsimp only [Option.toList, List.cons_append, List.nil_append]
  refine G_if_ne (pc := 13) (tgt := 30) (by decide) dX12_restOf_13 (fun z => absurd (by decide) z) (fun _ => ?_)
  refine G_iload_n (pc := 16) rfl dX12_restOf_16 ?_
  refine G_aload_n (pc := 17) rfl dX12_restOf_17 ?_
  refine G_iconst (pc := 18) (v := (-1)) (by decide) dX12_restOf_18 ?_
  refine G_callV (pc := 19) (mc1 := 0) (ms1 := 0) (ci := 12) (mj := mX12_goesBy) (vs := [_]) dX12_restOf_19 rfl rfl cm_X12_goesBy wh_72 wh_74 wh_75 rfl (Nat.le_of_ble_eq_true rfl) (Nat.le_of_ble_eq_true rfl) (Nat.le_of_ble_eq_true rfl) (Nat.le_of_ble_eq_true rfl) (s10248_X12_goesBy J d  ) ?_
  rintro _ _ ⟨rfl, rfl⟩
  dsimp only [Option.toList, List.cons_append, List.nil_append]
  refine G_iadd (pc := 22) (z := 0) (by decide) dX12_restOf_22 ?_
  refine G_istore_n (pc := 23) (L1 := [some (.ref 67), some (.int 15), some (.int 0), some (.int 1)]) rfl rfl (by decide) dX12_restOf_23 ?_
  refine G_iinc (pc := 24) (v := 1) (w := 2) (L1 := [some (.ref 67), some (.int 15), some (.int 0), some (.int 2)]) (by decide) rfl rfl (by decide) rfl (by decide) dX12_restOf_24 ?_
  refine G_goto (pc := 27) (tgt := 4) (by decide) dX12_restOf_27 ?_
  refine G_iload_n (pc := 4) rfl dX12_restOf_4 ?_
  refine G_iload_n (pc := 5) rfl dX12_restOf_5 ?_
  refine G_icmp_ge (pc := 6) (tgt := 30) (by decide) dX12_restOf_6 (fun z => absurd z (by decide)) (fun _ => ?_)
  refine G_aload_n (pc := 9) rfl dX12_restOf_9 ?_
  refine G_callV (pc := 10) (mc1 := 0) (ms1 := 0) (ci := 12) (mj := mX12_isOver) (vs := []) dX12_restOf_10 rfl rfl cm_X12_isOver wh_22 wh_24 wh_25 rfl (Nat.le_of_ble_eq_true rfl) (Nat.le_of_ble_eq_true rfl) (Nat.le_of_ble_eq_true rfl) (Nat.le_of_ble_eq_true rfl) (s10250_X12_isOver J (d + 1)  ) ?_
  rintro _ _ ⟨rfl, rfl⟩
  dsimp only [Option.toList, List.cons_append, List.nil_append]
  refine G_if_ne (pc := 13) (tgt := 30) (by decide) dX12_restOf_13 (fun z => absurd (by decide) z) (fun _ => ?_)
  refine G_iload_n (pc := 16) rfl dX12_restOf_16 ?_
  refine G_aload_n (pc := 17) rfl dX12_restOf_17 ?_
  refine G_iconst (pc := 18) (v := (-1)) (by decide) dX12_restOf_18 ?_
  refine G_callV (pc := 19) (mc1 := 0) (ms1 := 0) (ci := 12) (mj := mX12_goesBy) (vs := [_]) dX12_restOf_19 rfl rfl cm_X12_goesBy wh_72 wh_74 wh_75 rfl (Nat.le_of_ble_eq_true rfl) (Nat.le_of_ble_eq_true rfl) (Nat.le_of_ble_eq_true rfl) (Nat.le_of_ble_eq_true rfl) (s10251_X12_goesBy J d  ) ?_
  rintro _ _ ⟨rfl, rfl⟩
  dsimp only [Option.toList, List.cons_append, List.nil_append]
  refine G_iadd (pc := 22) (z := 0) (by decide) dX12_restOf_22 ?_
  refine G_istore_n (pc := 23) (L1 := [some (.ref 67), some (.int 15), some (.int 0), some (.int 2)]) rfl rfl (by decide) dX12_restOf_23 ?_
  refine G_iinc (pc := 24) (v := 1) (w := 3) (L1 := [some (.ref 67), some (.int 15), some (.int 0), some (.int 3)]) (by decide) rfl rfl (by decide) rfl (by decide) dX12_restOf_24 ?_
  refine G_goto (pc := 27) (tgt := 4) (by decide) dX12_restOf_27 ?_
  refine G_iload_n (pc := 4) rfl dX12_restOf_4 ?_
  refine G_iload_n (pc := 5) rfl dX12_restOf_5 ?_
  refine G_icmp_ge (pc := 6) (tgt := 30) (by decide) dX12_restOf_6 (fun z => absurd z (by decide)) (fun _ => ?_)
  refine G_aload_n (pc := 9) rfl dX12_restOf_9 ?_
  refine G_callV (pc := 10) (mc1 := 0) (ms1 := 0) (ci := 12) (mj := mX12_isOver) (vs := []) dX12_restOf_10 rfl rfl cm_X12_isOver wh_22 wh_24 wh_25 rfl (Nat.le_of_ble_eq_true rfl) (Nat.le_of_ble_eq_true rfl) (Nat.le_of_ble_eq_true rfl) (Nat.le_of_ble_eq_true rfl) (s10253_X12_isOver J (d + 1)  ) ?_
  rintro _ _ ⟨rfl, rfl⟩
  dsimp only [Option.toList, List.cons_append, List.nil_append]
  refine G_if_ne (pc := 13) (tgt := 30) (by decide) dX12_restOf_13 (fun z => absurd (by decide) z) (fun _ => ?_)
  refine G_iload_n (pc := 16) rfl dX12_restOf_16 ?_
  refine G_aload_n (pc := 17) rfl dX12_restOf_17 ?_
  refine G_iconst (pc := 18) (v := (-1)) (by decide) dX12_restOf_18 ?_
  refine G_callV (pc := 19) (mc1 := 0) (ms1 := 0) (ci := 12) (mj := mX12_goesBy) (vs := [_]) dX12_restOf_19 rfl rfl cm_X12_goesBy wh_72 wh_74 wh_75 rfl (Nat.le_of_ble_eq_true rfl) (Nat.le_of_ble_eq_true rfl) (Nat.le_of_ble_eq_true rfl) (Nat.le_of_ble_eq_true rfl) (s10254_X12_goesBy J d  ) ?_
  rintro _ _ ⟨rfl, rfl⟩
  dsimp only [Option.toList, List.cons_append, List.nil_append]
  refine G_iadd (pc := 22) (z := 0) (by decide) dX12_restOf_22 ?_
  refine G_istore_n (pc := 23) (L1 := [some (.ref 67), some (.int 15), some (.int 0), some (.int 3)]) rfl rfl (by decide) dX12_restOf_23 ?_
  refine G_iinc (pc := 24) (v := 1) (w := 4) (L1 := [some (.ref 67), some (.int 15), some (.int 0), some (.int 4)]) (by decide) rfl rfl (by decide) rfl (by decide) dX12_restOf_24 ?_
  refine G_goto (pc := 27) (tgt := 4) (by decide) dX12_restOf_27 ?_
  refine G_iload_n (pc := 4) rfl dX12_restOf_4 ?_
  refine G_iload_n (pc := 5) rfl dX12_restOf_5 ?_
  refine G_icmp_ge (pc := 6) (tgt := 30) (by decide) dX12_restOf_6 (fun z => absurd z (by decide)) (fun _ => ?_)
  refine G_aload_n (pc := 9) rfl dX12_restOf_9 ?_
  refine G_callV (pc := 10) (mc1 := 0) (ms1 := 0) (ci := 12) (mj := mX12_isOver) (vs := []) dX12_restOf_10 rfl rfl cm_X12_isOver wh_22 wh_24 wh_25 rfl (Nat.le_of_ble_eq_true rfl) (Nat.le_of_ble_eq_true rfl) (Nat.le_of_ble_eq_true rfl) (Nat.le_of_ble_eq_true rfl) (s10256_X12_isOver J (d + 1)  ) ?_
  rintro _ _ ⟨rfl, rfl⟩
  dsimp only [Option.toList, List.cons_append, List.nil_append]
  refine G_if_ne (pc := 13) (tgt := 30) (by decide) dX12_restOf_13 (fun z => absurd (by decide) z) (fun _ => ?_)
  refine G_iload_n (pc := 16) rfl dX12_restOf_16 ?_
  refine G_aload_n (pc := 17) rfl dX12_restOf_17 ?_
  refine G_iconst (pc := 18) (v := (-1)) (by decide) dX12_restOf_18 ?_
  refine G_callV (pc := 19) (mc1 := 0) (ms1 := 0) (ci := 12) (mj := mX12_goesBy) (vs := [_]) dX12_restOf_19 rfl rfl cm_X12_goesBy wh_72 wh_74 wh_75 rfl (Nat.le_of_ble_eq_true rfl) (Nat.le_of_ble_eq_true rfl) (Nat.le_of_ble_eq_true rfl) (Nat.le_of_ble_eq_true rfl) (s10257_X12_goesBy J d  ) ?_
  rintro _ _ ⟨rfl, rfl⟩
  dsimp only [Option.toList, List.cons_append, List.nil_append]
  refine G_iadd (pc := 22) (z := 0) (by decide) dX12_restOf_22 ?_
  refine G_istore_n (pc := 23) (L1 := [some (.ref 67), some (.int 15), some (.int 0), some (.int 4)]) rfl rfl (by decide) dX12_restOf_23 ?_
  refine G_iinc (pc := 24) (v := 1) (w := 5) (L1 := [some (.ref 67), some (.int 15), some (.int 0), some (.int 5)]) (by decide) rfl rfl (by decide) rfl (by decide) dX12_restOf_24 ?_
  refine G_goto (pc := 27) (tgt := 4) (by decide) dX12_restOf_27 ?_
  refine G_iload_n (pc := 4) rfl dX12_restOf_4 ?_
  refine G_iload_n (pc := 5) rfl dX12_restOf_5 ?_
  refine G_icmp_ge (pc := 6) (tgt := 30) (by decide) dX12_restOf_6 (fun z => absurd z (by decide)) (fun _ => ?_)
  refine G_aload_n (pc := 9) rfl dX12_restOf_9 ?_
  refine G_callV (pc := 10) (mc1 := 0) (ms1 := 0) (ci := 12) (mj := mX12_isOver) (vs := []) dX12_restOf_10 rfl rfl cm_X12_isOver wh_22 wh_24 wh_25 rfl (Nat.le_of_ble_eq_true rfl) (Nat.le_of_ble_eq_true rfl) (Nat.le_of_ble_eq_true rfl) (Nat.le_of_ble_eq_true rfl) (s10259_X12_isOver J (d + 1)  ) ?_
  rintro _ _ ⟨rfl, rfl⟩
  dsimp only [Option.toList, List.cons_append, List.nil_append]
  refine G_if_ne (pc := 13) (tgt := 30) (by decide) dX12_restOf_13 (fun z => absurd (by decide) z) (fun _ => ?_)
  refine G_iload_n (pc := 16) rfl dX12_restOf_16 ?_
  refine G_aload_n (pc := 17) rfl dX12_restOf_17 ?_
  refine G_iconst (pc := 18) (v := (-1)) (by decide) dX12_restOf_18 ?_
  refine G_callV (pc := 19) (mc1 := 0) (ms1 := 0) (ci := 12) (mj := mX12_goesBy) (vs := [_]) dX12_restOf_19 rfl rfl cm_X12_goesBy wh_72 wh_74 wh_75 rfl (Nat.le_of_ble_eq_true rfl) (Nat.le_of_ble_eq_true rfl) (Nat.le_of_ble_eq_true rfl) (Nat.le_of_ble_eq_true rfl) (s10260_X12_goesBy J d  ) ?_
  rintro _ _ ⟨rfl, rfl⟩
  dsimp only [Option.toList, List.cons_append, List.nil_append]
  refine G_iadd (pc := 22) (z := 0) (by decide) dX12_restOf_22 ?_
  refine G_istore_n (pc := 23) (L1 := [some (.ref 67), some (.int 15), some (.int 0), some (.int 5)]) rfl rfl (by decide) dX12_restOf_23 ?_
  refine G_iinc (pc := 24) (v := 1) (w := 6) (L1 := [some (.ref 67), some (.int 15), some (.int 0), some (.int 6)]) (by decide) rfl rfl (by decide) rfl (by decide) dX12_restOf_24 ?_
  refine G_goto (pc := 27) (tgt := 4) (by decide) dX12_restOf_27 ?_
  refine G_iload_n (pc := 4) rfl dX12_restOf_4 ?_
  refine G_iload_n (pc := 5) rfl dX12_restOf_5 ?_
  refine G_icmp_ge (pc := 6) (tgt := 30) (by decide) dX12_restOf_6 (fun z => absurd z (by decide)) (fun _ => ?_)
  refine G_aload_n (pc := 9) rfl dX12_restOf_9 ?_
  refine G_callV (pc := 10) (mc1 := 0) (ms1 := 0) (ci := 12) (mj := mX12_isOver) (vs := []) dX12_restOf_10 rfl rfl cm_X12_isOver wh_22 wh_24 wh_25 rfl (Nat.le_of_ble_eq_true rfl) (Nat.le_of_ble_eq_true rfl) (Nat.le_of_ble_eq_true rfl) (Nat.le_of_ble_eq_true rfl) (s10262_X12_isOver J (d + 1)  ) ?_
  rintro _ _ ⟨rfl, rfl⟩
  dsimp only [Option.toList, List.cons_append, List.nil_append]
  refine G_if_ne (pc := 13) (tgt := 30) (by decide) dX12_restOf_13 (fun z => absurd (by decide) z) (fun _ => ?_)
  refine G_iload_n (pc := 16) rfl dX12_restOf_16 ?_
  refine G_aload_n (pc := 17) rfl dX12_restOf_17 ?_
  refine G_iconst (pc := 18) (v := (-1)) (by decide) dX12_restOf_18 ?_
  refine G_callV (pc := 19) (mc1 := 0) (ms1 := 0) (ci := 12) (mj := mX12_goesBy) (vs := [_]) dX12_restOf_19 rfl rfl cm_X12_goesBy wh_72 wh_74 wh_75 rfl (Nat.le_of_ble_eq_true rfl) (Nat.le_of_ble_eq_true rfl) (Nat.le_of_ble_eq_true rfl) (Nat.le_of_ble_eq_true rfl) (s10263_X12_goesBy J d  ) ?_
  rintro _ _ ⟨rfl, rfl⟩
  dsimp only [Option.toList, List.cons_append, List.nil_append]
  refine G_iadd (pc := 22) (z := 0) (by decide) dX12_restOf_22 ?_
  refine G_istore_n (pc := 23) (L1 := [some (.ref 67), some (.int 15), some (.int 0), some (.int 6)]) rfl rfl (by decide) dX12_restOf_23 ?_
  refine G_iinc (pc := 24) (v := 1) (w := 7) (L1 := [some (.ref 67), some (.int 15), some (.int 0), some (.int 7)]) (by decide) rfl rfl (by decide) rfl (by decide) dX12_restOf_24 ?_
  refine G_goto (pc := 27) (tgt := 4) (by decide) dX12_restOf_27 ?_
  refine G_iload_n (pc := 4) rfl dX12_restOf_4 ?_
  refine G_iload_n (pc := 5) rfl dX12_restOf_5 ?_
  refine G_icmp_ge (pc := 6) (tgt := 30) (by decide) dX12_restOf_6 (fun z => absurd z (by decide)) (fun _ => ?_)
  refine G_aload_n (pc := 9) rfl dX12_restOf_9 ?_
  refine G_callV (pc := 10) (mc1 := 0) (ms1 := 0) (ci := 12) (mj := mX12_isOver) (vs := []) dX12_restOf_10 rfl rfl cm_X12_isOver wh_22 wh_24 wh_25 rfl (Nat.le_of_ble_eq_true rfl) (Nat.le_of_ble_eq_true rfl) (Nat.le_of_ble_eq_true rfl) (Nat.le_of_ble_eq_true rfl) (s10265_X12_isOver J (d + 1)  ) ?_
  rintro _ _ ⟨rfl, rfl⟩
  dsimp only [Option.toList, List.cons_append, List.nil_append]
  refine G_if_ne (pc := 13) (tgt := 30) (by decide) dX12_restOf_13 (fun z => absurd (by decide) z) (fun _ => ?_)
  refine G_iload_n (pc := 16) rfl dX12_restOf_16 ?_
  refine G_aload_n (pc := 17) rfl dX12_restOf_17 ?_
  refine G_iconst (pc := 18) (v := (-1)) (by decide) dX12_restOf_18 ?_
  refine G_callV (pc := 19) (mc1 := 0) (ms1 := 0) (ci := 12) (mj := mX12_goesBy) (vs := [_]) dX12_restOf_19 rfl rfl cm_X12_goesBy wh_72 wh_74 wh_75 rfl (Nat.le_of_ble_eq_true rfl) (Nat.le_of_ble_eq_true rfl) (Nat.le_of_ble_eq_true rfl) (Nat.le_of_ble_eq_true rfl) (s10266_X12_goesBy J d  ) ?_
  rintro _ _ ⟨rfl, rfl⟩
  dsimp only [Option.toList, List.cons_append, List.nil_append]
  refine G_iadd (pc := 22) (z := 0) (by decide) dX12_restOf_22 ?_
  refine G_istore_n (pc := 23) (L1 := [some (.ref 67), some (.int 15), some (.int 0), some (.int 7)]) rfl rfl (by decide) dX12_restOf_23 ?_
  refine G_iinc (pc := 24) (v := 1) (w := 8) (L1 := [some (.ref 67), some (.int 15), some (.int 0), some (.int 8)]) (by decide) rfl rfl (by decide) rfl (by decide) dX12_restOf_24 ?_
  refine G_goto (pc := 27) (tgt := 4) (by decide) dX12_restOf_27 ?_
  refine G_iload_n (pc := 4) rfl dX12_restOf_4 ?_
  refine G_iload_n (pc := 5) rfl dX12_restOf_5 ?_
  refine G_icmp_ge (pc := 6) (tgt := 30) (by decide) dX12_restOf_6 (fun z => absurd z (by decide)) (fun _ => ?_)
  refine G_aload_n (pc := 9) rfl dX12_restOf_9 ?_
  refine G_callV (pc := 10) (mc1 := 0) (ms1 := 0) (ci := 12) (mj := mX12_isOver) (vs := []) dX12_restOf_10 rfl rfl cm_X12_isOver wh_22 wh_24 wh_25 rfl (Nat.le_of_ble_eq_true rfl) (Nat.le_of_ble_eq_true rfl) (Nat.le_of_ble_eq_true rfl) (Nat.le_of_ble_eq_true rfl) (s10268_X12_isOver J (d + 1)  ) ?_
  rintro _ _ ⟨rfl, rfl⟩
  dsimp only [Option.toList, List.cons_append, List.nil_append]
  refine G_if_ne (pc := 13) (tgt := 30) (by decide) dX12_restOf_13 (fun z => absurd (by decide) z) (fun _ => ?_)
  refine G_iload_n (pc := 16) rfl dX12_restOf_16 ?_
  refine G_aload_n (pc := 17) rfl dX12_restOf_17 ?_
  refine G_iconst (pc := 18) (v := (-1)) (by decide) dX12_restOf_18 ?_
  refine G_callV (pc := 19) (mc1 := 0) (ms1 := 0) (ci := 12) (mj := mX12_goesBy) (vs := [_]) dX12_restOf_19 rfl rfl cm_X12_goesBy wh_72 wh_74 wh_75 rfl (Nat.le_of_ble_eq_true rfl) (Nat.le_of_ble_eq_true rfl) (Nat.le_of_ble_eq_true rfl) (Nat.le_of_ble_eq_true rfl) (s10269_X12_goesBy J d  ) ?_
  rintro _ _ ⟨rfl, rfl⟩
  dsimp only [Option.toList, List.cons_append, List.nil_append]
  refine G_iadd (pc := 22) (z := 0) (by decide) dX12_restOf_22 ?_
  refine G_istore_n (pc := 23) (L1 := [some (.ref 67), some (.int 15), some (.int 0), some (.int 8)]) rfl rfl (by decide) dX12_restOf_23 ?_
  refine G_iinc (pc := 24) (v := 1) (w := 9) (L1 := [some (.ref 67), some (.int 15), some (.int 0), some (.int 9)]) (by decide) rfl rfl (by decide) rfl (by decide) dX12_restOf_24 ?_
  refine G_goto (pc := 27) (tgt := 4) (by decide) dX12_restOf_27 ?_
  refine G_iload_n (pc := 4) rfl dX12_restOf_4 ?_
  refine G_iload_n (pc := 5) rfl dX12_restOf_5 ?_
  refine G_icmp_ge (pc := 6) (tgt := 30) (by decide) dX12_restOf_6 (fun z => absurd z (by decide)) (fun _ => ?_)
  refine G_aload_n (pc := 9) rfl dX12_restOf_9 ?_
  refine G_callV (pc := 10) (mc1 := 0) (ms1 := 0) (ci := 12) (mj := mX12_isOver) (vs := []) dX12_restOf_10 rfl rfl cm_X12_isOver wh_22 wh_24 wh_25 rfl (Nat.le_of_ble_eq_true rfl) (Nat.le_of_ble_eq_true rfl) (Nat.le_of_ble_eq_true rfl) (Nat.le_of_ble_eq_true rfl) (s10271_X12_isOver J (d + 1)  ) ?_
  rintro _ _ ⟨rfl, rfl⟩
  dsimp only [Option.toList, List.cons_append, List.nil_append]
  refine G_if_ne (pc := 13) (tgt := 30) (by decide) dX12_restOf_13 (fun z => absurd (by decide) z) (fun _ => ?_)
  refine G_iload_n (pc := 16) rfl dX12_restOf_16 ?_
  refine G_aload_n (pc := 17) rfl dX12_restOf_17 ?_
  refine G_iconst (pc := 18) (v := (-1)) (by decide) dX12_restOf_18 ?_
  refine G_callV (pc := 19) (mc1 := 0) (ms1 := 0) (ci := 12) (mj := mX12_goesBy) (vs := [_]) dX12_restOf_19 rfl rfl cm_X12_goesBy wh_72 wh_74 wh_75 rfl (Nat.le_of_ble_eq_true rfl) (Nat.le_of_ble_eq_true rfl) (Nat.le_of_ble_eq_true rfl) (Nat.le_of_ble_eq_true rfl) (s10272_X12_goesBy J d  ) ?_
  rintro _ _ ⟨rfl, rfl⟩
  dsimp only [Option.toList, List.cons_append, List.nil_append]
  refine G_iadd (pc := 22) (z := 0) (by decide) dX12_restOf_22 ?_
  refine G_istore_n (pc := 23) (L1 := [some (.ref 67), some (.int 15), some (.int 0), some (.int 9)]) rfl rfl (by decide) dX12_restOf_23 ?_
  refine G_iinc (pc := 24) (v := 1) (w := 10) (L1 := [some (.ref 67), some (.int 15), some (.int 0), some (.int 10)]) (by decide) rfl rfl (by decide) rfl (by decide) dX12_restOf_24 ?_
  refine G_goto (pc := 27) (tgt := 4) (by decide) dX12_restOf_27 ?_
  refine G_iload_n (pc := 4) rfl dX12_restOf_4 ?_
  refine G_iload_n (pc := 5) rfl dX12_restOf_5 ?_
  refine G_icmp_ge (pc := 6) (tgt := 30) (by decide) dX12_restOf_6 (fun z => absurd z (by decide)) (fun _ => ?_)
  refine G_aload_n (pc := 9) rfl dX12_restOf_9 ?_
  refine G_callV (pc := 10) (mc1 := 0) (ms1 := 0) (ci := 12) (mj := mX12_isOver) (vs := []) dX12_restOf_10 rfl rfl cm_X12_isOver wh_22 wh_24 wh_25 rfl (Nat.le_of_ble_eq_true rfl) (Nat.le_of_ble_eq_true rfl) (Nat.le_of_ble_eq_true rfl) (Nat.le_of_ble_eq_true rfl) (s10274_X12_isOver J (d + 1)  ) ?_
  rintro _ _ ⟨rfl, rfl⟩
  dsimp only [Option.toList, List.cons_append, List.nil_append]
  refine G_if_ne (pc := 13) (tgt := 30) (by decide) dX12_restOf_13 (fun z => absurd (by decide) z) (fun _ => ?_)
  refine G_iload_n (pc := 16) rfl dX12_restOf_16 ?_
  refine G_aload_n (pc := 17) rfl dX12_restOf_17 ?_
  refine G_iconst (pc := 18) (v := (-1)) (by decide) dX12_restOf_18 ?_
  refine G_callV (pc := 19) (mc1 := 0) (ms1 := 0) (ci := 12) (mj := mX12_goesBy) (vs := [_]) dX12_restOf_19 rfl rfl cm_X12_goesBy wh_72 wh_74 wh_75 rfl (Nat.le_of_ble_eq_true rfl) (Nat.le_of_ble_eq_true rfl) (Nat.le_of_ble_eq_true rfl) (Nat.le_of_ble_eq_true rfl) (s10275_X12_goesBy J d  ) ?_
  rintro _ _ ⟨rfl, rfl⟩
  dsimp only [Option.toList, List.cons_append, List.nil_append]
  refine G_iadd (pc := 22) (z := 0) (by decide) dX12_restOf_22 ?_
  refine G_istore_n (pc := 23) (L1 := [some (.ref 67), some (.int 15), some (.int 0), some (.int 10)]) rfl rfl (by decide) dX12_restOf_23 ?_
  refine G_iinc (pc := 24) (v := 1) (w := 11) (L1 := [some (.ref 67), some (.int 15), some (.int 0), some (.int 11)]) (by decide) rfl rfl (by decide) rfl (by decide) dX12_restOf_24 ?_
  refine G_goto (pc := 27) (tgt := 4) (by decide) dX12_restOf_27 ?_
  refine G_iload_n (pc := 4) rfl dX12_restOf_4 ?_
  refine G_iload_n (pc := 5) rfl dX12_restOf_5 ?_
  refine G_icmp_ge (pc := 6) (tgt := 30) (by decide) dX12_restOf_6 (fun z => absurd z (by decide)) (fun _ => ?_)
  refine G_aload_n (pc := 9) rfl dX12_restOf_9 ?_
  refine G_callV (pc := 10) (mc1 := 0) (ms1 := 0) (ci := 12) (mj := mX12_isOver) (vs := []) dX12_restOf_10 rfl rfl cm_X12_isOver wh_22 wh_24 wh_25 rfl (Nat.le_of_ble_eq_true rfl) (Nat.le_of_ble_eq_true rfl) (Nat.le_of_ble_eq_true rfl) (Nat.le_of_ble_eq_true rfl) (s10277_X12_isOver J (d + 1)  ) ?_
  rintro _ _ ⟨rfl, rfl⟩
  dsimp only [Option.toList, List.cons_append, List.nil_append]
  refine G_if_ne (pc := 13) (tgt := 30) (by decide) dX12_restOf_13 (fun z => absurd (by decide) z) (fun _ => ?_)
  refine G_iload_n (pc := 16) rfl dX12_restOf_16 ?_
  refine G_aload_n (pc := 17) rfl dX12_restOf_17 ?_
  refine G_iconst (pc := 18) (v := (-1)) (by decide) dX12_restOf_18 ?_
  refine G_callV (pc := 19) (mc1 := 0) (ms1 := 0) (ci := 12) (mj := mX12_goesBy) (vs := [_]) dX12_restOf_19 rfl rfl cm_X12_goesBy wh_72 wh_74 wh_75 rfl (Nat.le_of_ble_eq_true rfl) (Nat.le_of_ble_eq_true rfl) (Nat.le_of_ble_eq_true rfl) (Nat.le_of_ble_eq_true rfl) (s10278_X12_goesBy J d  ) ?_
  rintro _ _ ⟨rfl, rfl⟩
  dsimp only [Option.toList, List.cons_append, List.nil_append]
  refine G_iadd (pc := 22) (z := 0) (by decide) dX12_restOf_22 ?_
  refine G_istore_n (pc := 23) (L1 := [some (.ref 67), some (.int 15), some (.int 0), some (.int 11)]) rfl rfl (by decide) dX12_restOf_23 ?_
  refine G_iinc (pc := 24) (v := 1) (w := 12) (L1 := [some (.ref 67), some (.int 15), some (.int 0), some (.int 12)]) (by decide) rfl rfl (by decide) rfl (by decide) dX12_restOf_24 ?_
  refine G_goto (pc := 27) (tgt := 4) (by decide) dX12_restOf_27 ?_
  refine G_iload_n (pc := 4) rfl dX12_restOf_4 ?_
  refine G_iload_n (pc := 5) rfl dX12_restOf_5 ?_
  refine G_icmp_ge (pc := 6) (tgt := 30) (by decide) dX12_restOf_6 (fun z => absurd z (by decide)) (fun _ => ?_)
  refine G_aload_n (pc := 9) rfl dX12_restOf_9 ?_
  refine G_callV (pc := 10) (mc1 := 0) (ms1 := 0) (ci := 12) (mj := mX12_isOver) (vs := []) dX12_restOf_10 rfl rfl cm_X12_isOver wh_22 wh_24 wh_25 rfl (Nat.le_of_ble_eq_true rfl) (Nat.le_of_ble_eq_true rfl) (Nat.le_of_ble_eq_true rfl) (Nat.le_of_ble_eq_true rfl) (s10280_X12_isOver J (d + 1)  ) ?_
  rintro _ _ ⟨rfl, rfl⟩
  dsimp only [Option.toList, List.cons_append, List.nil_append]
  refine G_if_ne (pc := 13) (tgt := 30) (by decide) dX12_restOf_13 (fun _ => ?_) (fun z => absurd z (by decide))
  refine G_iload_n (pc := 30) rfl dX12_restOf_30 ?_
  exact G_iret (pc := 31) (Nat.le_of_ble_eq_true rfl) (Nat.le_of_ble_eq_true rfl) rfl dX12_restOf_31 ⟨rfl, rfl⟩
