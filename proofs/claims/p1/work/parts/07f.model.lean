set_option maxRecDepth 100000 in
set_option maxHeartbeats 4000000 in
theorem z_lone (J : gI) (d : Nat) (what : Int32) : G (d + 3) mX12_lone 0 0 0 0 0 (gent 3 [.ref 67, .int what]) [] SH0 RF0 (gmx J) (fun r _ => r = some (.int (F_lone what))) := by
  refine G_iload_n (pc := 0) rfl dX12_lone_0 ?_
  refine G_iconst (pc := 1) (v := 0) (by decide) dX12_lone_1 ?_
  refine G_iconst (pc := 2) (v := 3) (by decide) dX12_lone_2 ?_
  refine G_callS (pc := 3) (mc1 := 0) (ms1 := 0) (mj := mX12_in1) (vs := [_, _, _]) dX12_lone_3 cm_X12_in1 wh_0 wh_3 rfl (Nat.le_of_ble_eq_true rfl) (Nat.le_of_ble_eq_true rfl) (Nat.le_of_ble_eq_true rfl) (Nat.le_of_ble_eq_true rfl) (in1_s (d + 2) what 0 3) ?_
  rintro _ _ ⟨rfl, rfl⟩
  dsimp only [Option.toList, List.cons_append, List.nil_append]
  refine G_if_ne (pc := 6) (tgt := 11) (by decide) dX12_lone_6 (fun c450 => ?_) (fun c450 => ?_)
  · have c450 := gB_o c450
    refine G_aload_n (pc := 11) rfl dX12_lone_11 ?_
    refine G_iconst (pc := 12) (v := (-1)) (by decide) dX12_lone_12 ?_
    refine G_callV (pc := 13) (mc1 := 0) (ms1 := 0) (ci := 12) (mj := mX12_fitting) (vs := [_]) dX12_lone_13 rfl rfl cm_X12_fitting wh_140 wh_142 wh_143 rfl (Nat.le_of_ble_eq_true rfl) (Nat.le_of_ble_eq_true rfl) (Nat.le_of_ble_eq_true rfl) (Nat.le_of_ble_eq_true rfl) (fit_s J d) ?_
    rintro _ _ ⟨rfl, I451, rfl, h451⟩
    dsimp only [Option.toList, List.cons_append, List.nil_append]
    refine G_istore_n (pc := 16) (L1 := [some (.ref 67), some (.int what), some (.int 500)]) rfl rfl (by decide) dX12_lone_16 ?_
    refine G_iload_n (pc := 17) rfl dX12_lone_17 ?_
    refine G_if_le (pc := 18) (tgt := 28) (by decide) dX12_lone_18 (fun c452 => ?_) (fun c452 => ?_)
    · refine G_iload_n (pc := 28) rfl dX12_lone_28 ?_
      refine G_if_ne (pc := 29) (tgt := 36) (by decide) dX12_lone_29 (fun c453 => ?_) (fun c453 => ?_)
      · exfalso; have : 0 ≤ (what).toInt := Int32.le_iff_toInt_le.mp (c450.1); have : (what).toInt ≤ 3 := Int32.le_iff_toInt_le.mp (c450.2); have : (what).toInt ≤ 0 := Int32.le_iff_toInt_le.mp (c452); have : (what).toInt ≠ 0 := g_ne (c453); omega
      · refine G_iload_n (pc := 32) rfl dX12_lone_32 ?_
        refine G_goto (pc := 33) (tgt := 84) (by decide) dX12_lone_33 ?_
        exact G_iret (pc := 84) (Nat.le_of_ble_eq_true rfl) (Nat.le_of_ble_eq_true rfl) rfl dX12_lone_84 (by first | rfl | (simp [F_lone, *]; done) | (have : 0 ≤ (what).toInt := Int32.le_iff_toInt_le.mp (c450.1); have : (what).toInt ≤ 3 := Int32.le_iff_toInt_le.mp (c450.2); have : (what).toInt ≤ 0 := Int32.le_iff_toInt_le.mp (c452); have : (what).toInt = 0 := congrArg Int32.toInt (c453); simp only [F_lone, Int32.le_iff_toInt_le, Int32.lt_iff_toInt_lt, ← Int32.toInt_inj]; simp; omega) | (have : 0 ≤ (what).toInt := Int32.le_iff_toInt_le.mp (c450.1); have : (what).toInt ≤ 3 := Int32.le_iff_toInt_le.mp (c450.2); have : (what).toInt ≤ 0 := Int32.le_iff_toInt_le.mp (c452); have : (what).toInt = 0 := congrArg Int32.toInt (c453); simp only [F_lone, Int32.le_iff_toInt_le, Int32.lt_iff_toInt_lt, ← Int32.toInt_inj]; split <;> first | rfl | (exfalso; simp at *; omega)) | (have : 0 ≤ (what).toInt := Int32.le_iff_toInt_le.mp (c450.1); have : (what).toInt ≤ 3 := Int32.le_iff_toInt_le.mp (c450.2); have : (what).toInt ≤ 0 := Int32.le_iff_toInt_le.mp (c452); have : (what).toInt = 0 := congrArg Int32.toInt (c453); unfold F_lone; (repeat' split) <;> first | rfl | (exfalso; (try simp only [Int32.le_iff_toInt_le, Int32.lt_iff_toInt_lt, ← Int32.toInt_inj] at *); first | omega | (simp at *; done) | (simp at *; omega))))
    · refine G_iload_n (pc := 21) rfl dX12_lone_21 ?_
      refine G_if_ne (pc := 22) (tgt := 28) (by decide) dX12_lone_22 (fun _ => ?_) (fun z => absurd z (by decide))
      refine G_iload_n (pc := 28) rfl dX12_lone_28 ?_
      refine G_if_ne (pc := 29) (tgt := 36) (by decide) dX12_lone_29 (fun c454 => ?_) (fun c454 => ?_)
      · refine G_iload_n (pc := 36) rfl dX12_lone_36 ?_
        refine G_iconst (pc := 37) (v := 1) (by decide) dX12_lone_37 ?_
        refine G_icmp_ne (pc := 38) (tgt := 53) (by decide) dX12_lone_38 (fun c455 => ?_) (fun c455 => ?_)
        · refine G_iload_n (pc := 53) rfl dX12_lone_53 ?_
          refine G_iconst (pc := 54) (v := 2) (by decide) dX12_lone_54 ?_
          refine G_icmp_ne (pc := 55) (tgt := 71) (by decide) dX12_lone_55 (fun c456 => ?_) (fun c456 => ?_)
          · refine G_bipush (pc := 71) (v := 10) (by decide) dX12_lone_71 ?_
            refine G_aload_n (pc := 73) rfl dX12_lone_73 ?_
            refine G_getI (pc := 74) (v := 0) (ci := 12) (j := 25) (h451.2.1) rfl lk_RX12_301 rfl rfl dX12_lone_74 ?_
            refine G_bipush (pc := 77) (v := 10) (by decide) dX12_lone_77 ?_
            refine G_irem (pc := 79) (z := 0) (by decide) (by decide) dX12_lone_79 ?_
            refine G_imul (pc := 80) (z := 0) (by decide) dX12_lone_80 ?_
            refine G_bipush (pc := 81) (v := 9) (by decide) dX12_lone_81 ?_
            refine G_iadd (pc := 83) (z := 9) (by decide) dX12_lone_83 ?_
            exact G_iret (pc := 84) (Nat.le_of_ble_eq_true rfl) (Nat.le_of_ble_eq_true rfl) rfl dX12_lone_84 (by first | rfl | (simp [F_lone, *]; done) | (have : 0 ≤ (what).toInt := Int32.le_iff_toInt_le.mp (c450.1); have : (what).toInt ≤ 3 := Int32.le_iff_toInt_le.mp (c450.2); have : 0 < (what).toInt := Int32.lt_iff_toInt_lt.mp (Int32.not_le.mp c452); have : (what).toInt ≠ 0 := g_ne (c454); have : (what).toInt ≠ 1 := g_ne (c455); have : (what).toInt ≠ 2 := g_ne (c456); simp only [F_lone, Int32.le_iff_toInt_le, Int32.lt_iff_toInt_lt, ← Int32.toInt_inj]; simp; omega) | (have : 0 ≤ (what).toInt := Int32.le_iff_toInt_le.mp (c450.1); have : (what).toInt ≤ 3 := Int32.le_iff_toInt_le.mp (c450.2); have : 0 < (what).toInt := Int32.lt_iff_toInt_lt.mp (Int32.not_le.mp c452); have : (what).toInt ≠ 0 := g_ne (c454); have : (what).toInt ≠ 1 := g_ne (c455); have : (what).toInt ≠ 2 := g_ne (c456); simp only [F_lone, Int32.le_iff_toInt_le, Int32.lt_iff_toInt_lt, ← Int32.toInt_inj]; split <;> first | rfl | (exfalso; simp at *; omega)) | (have : 0 ≤ (what).toInt := Int32.le_iff_toInt_le.mp (c450.1); have : (what).toInt ≤ 3 := Int32.le_iff_toInt_le.mp (c450.2); have : 0 < (what).toInt := Int32.lt_iff_toInt_lt.mp (Int32.not_le.mp c452); have : (what).toInt ≠ 0 := g_ne (c454); have : (what).toInt ≠ 1 := g_ne (c455); have : (what).toInt ≠ 2 := g_ne (c456); unfold F_lone; (repeat' split) <;> first | rfl | (exfalso; (try simp only [Int32.le_iff_toInt_le, Int32.lt_iff_toInt_lt, ← Int32.toInt_inj] at *); first | omega | (simp at *; done) | (simp at *; omega))))
          · refine G_aload_n (pc := 58) rfl dX12_lone_58 ?_
            refine G_getI (pc := 59) (v := 0) (ci := 12) (j := 25) (h451.2.1) rfl lk_RX12_301 rfl rfl dX12_lone_59 ?_
            refine G_bipush (pc := 62) (v := 10) (by decide) dX12_lone_62 ?_
            refine G_idiv (pc := 64) (z := 0) (by decide) (by decide) dX12_lone_64 ?_
            refine G_bipush (pc := 65) (v := 10) (by decide) dX12_lone_65 ?_
            refine G_irem (pc := 67) (z := 0) (by decide) (by decide) dX12_lone_67 ?_
            refine G_goto (pc := 68) (tgt := 84) (by decide) dX12_lone_68 ?_
            exact G_iret (pc := 84) (Nat.le_of_ble_eq_true rfl) (Nat.le_of_ble_eq_true rfl) rfl dX12_lone_84 (by first | rfl | (simp [F_lone, *]; done) | (have : 0 ≤ (what).toInt := Int32.le_iff_toInt_le.mp (c450.1); have : (what).toInt ≤ 3 := Int32.le_iff_toInt_le.mp (c450.2); have : 0 < (what).toInt := Int32.lt_iff_toInt_lt.mp (Int32.not_le.mp c452); have : (what).toInt ≠ 0 := g_ne (c454); have : (what).toInt ≠ 1 := g_ne (c455); have : (what).toInt = 2 := congrArg Int32.toInt (c456); simp only [F_lone, Int32.le_iff_toInt_le, Int32.lt_iff_toInt_lt, ← Int32.toInt_inj]; simp; omega) | (have : 0 ≤ (what).toInt := Int32.le_iff_toInt_le.mp (c450.1); have : (what).toInt ≤ 3 := Int32.le_iff_toInt_le.mp (c450.2); have : 0 < (what).toInt := Int32.lt_iff_toInt_lt.mp (Int32.not_le.mp c452); have : (what).toInt ≠ 0 := g_ne (c454); have : (what).toInt ≠ 1 := g_ne (c455); have : (what).toInt = 2 := congrArg Int32.toInt (c456); simp only [F_lone, Int32.le_iff_toInt_le, Int32.lt_iff_toInt_lt, ← Int32.toInt_inj]; split <;> first | rfl | (exfalso; simp at *; omega)) | (have : 0 ≤ (what).toInt := Int32.le_iff_toInt_le.mp (c450.1); have : (what).toInt ≤ 3 := Int32.le_iff_toInt_le.mp (c450.2); have : 0 < (what).toInt := Int32.lt_iff_toInt_lt.mp (Int32.not_le.mp c452); have : (what).toInt ≠ 0 := g_ne (c454); have : (what).toInt ≠ 1 := g_ne (c455); have : (what).toInt = 2 := congrArg Int32.toInt (c456); unfold F_lone; (repeat' split) <;> first | rfl | (exfalso; (try simp only [Int32.le_iff_toInt_le, Int32.lt_iff_toInt_lt, ← Int32.toInt_inj] at *); first | omega | (simp at *; done) | (simp at *; omega))))
        · refine G_iconst (pc := 41) (v := 1) (by decide) dX12_lone_41 ?_
          refine G_aload_n (pc := 42) rfl dX12_lone_42 ?_
          refine G_getI (pc := 43) (v := 0) (ci := 12) (j := 25) (h451.2.1) rfl lk_RX12_301 rfl rfl dX12_lone_43 ?_
          refine G_bipush (pc := 46) (v := 100) (by decide) dX12_lone_46 ?_
          refine G_idiv (pc := 48) (z := 0) (by decide) (by decide) dX12_lone_48 ?_
          refine G_iadd (pc := 49) (z := 1) (by decide) dX12_lone_49 ?_
          refine G_goto (pc := 50) (tgt := 84) (by decide) dX12_lone_50 ?_
          exact G_iret (pc := 84) (Nat.le_of_ble_eq_true rfl) (Nat.le_of_ble_eq_true rfl) rfl dX12_lone_84 (by first | rfl | (simp [F_lone, *]; done) | (have : 0 ≤ (what).toInt := Int32.le_iff_toInt_le.mp (c450.1); have : (what).toInt ≤ 3 := Int32.le_iff_toInt_le.mp (c450.2); have : 0 < (what).toInt := Int32.lt_iff_toInt_lt.mp (Int32.not_le.mp c452); have : (what).toInt ≠ 0 := g_ne (c454); have : (what).toInt = 1 := congrArg Int32.toInt (c455); simp only [F_lone, Int32.le_iff_toInt_le, Int32.lt_iff_toInt_lt, ← Int32.toInt_inj]; simp; omega) | (have : 0 ≤ (what).toInt := Int32.le_iff_toInt_le.mp (c450.1); have : (what).toInt ≤ 3 := Int32.le_iff_toInt_le.mp (c450.2); have : 0 < (what).toInt := Int32.lt_iff_toInt_lt.mp (Int32.not_le.mp c452); have : (what).toInt ≠ 0 := g_ne (c454); have : (what).toInt = 1 := congrArg Int32.toInt (c455); simp only [F_lone, Int32.le_iff_toInt_le, Int32.lt_iff_toInt_lt, ← Int32.toInt_inj]; split <;> first | rfl | (exfalso; simp at *; omega)) | (have : 0 ≤ (what).toInt := Int32.le_iff_toInt_le.mp (c450.1); have : (what).toInt ≤ 3 := Int32.le_iff_toInt_le.mp (c450.2); have : 0 < (what).toInt := Int32.lt_iff_toInt_lt.mp (Int32.not_le.mp c452); have : (what).toInt ≠ 0 := g_ne (c454); have : (what).toInt = 1 := congrArg Int32.toInt (c455); unfold F_lone; (repeat' split) <;> first | rfl | (exfalso; (try simp only [Int32.le_iff_toInt_le, Int32.lt_iff_toInt_lt, ← Int32.toInt_inj] at *); first | omega | (simp at *; done) | (simp at *; omega))))
      · exfalso; have : 0 ≤ (what).toInt := Int32.le_iff_toInt_le.mp (c450.1); have : (what).toInt ≤ 3 := Int32.le_iff_toInt_le.mp (c450.2); have : 0 < (what).toInt := Int32.lt_iff_toInt_lt.mp (Int32.not_le.mp c452); have : (what).toInt = 0 := congrArg Int32.toInt (c454); omega
  · have c450 := gB_z c450
    refine G_iconst (pc := 9) (v := (-1)) (by decide) dX12_lone_9 ?_
    exact G_iret (pc := 10) (Nat.le_of_ble_eq_true rfl) (Nat.le_of_ble_eq_true rfl) rfl dX12_lone_10 (by first | rfl | (simp [F_lone, *]; done) | (have : ¬ (0 ≤ (what).toInt ∧ (what).toInt ≤ 3) := fun z => c450 ⟨Int32.le_iff_toInt_le.mpr z.1, Int32.le_iff_toInt_le.mpr z.2⟩; simp only [F_lone, Int32.le_iff_toInt_le, Int32.lt_iff_toInt_lt, ← Int32.toInt_inj]; simp; omega) | (have : ¬ (0 ≤ (what).toInt ∧ (what).toInt ≤ 3) := fun z => c450 ⟨Int32.le_iff_toInt_le.mpr z.1, Int32.le_iff_toInt_le.mpr z.2⟩; simp only [F_lone, Int32.le_iff_toInt_le, Int32.lt_iff_toInt_lt, ← Int32.toInt_inj]; split <;> first | rfl | (exfalso; simp at *; omega)) | (have : ¬ (0 ≤ (what).toInt ∧ (what).toInt ≤ 3) := fun z => c450 ⟨Int32.le_iff_toInt_le.mpr z.1, Int32.le_iff_toInt_le.mpr z.2⟩; unfold F_lone; (repeat' split) <;> first | rfl | (exfalso; (try simp only [Int32.le_iff_toInt_le, Int32.lt_iff_toInt_lt, ← Int32.toInt_inj] at *); first | omega | (simp at *; done) | (simp at *; omega))))
set_option maxRecDepth 100000 in
set_option maxHeartbeats 4000000 in
theorem z_liar (J : gI) (d : Nat)  : G (d + 3) mX12_liar 0 0 0 0 0 (gent 2 [.ref 67]) [] SH0 RF0 (gmx J) (fun r _ => r = some (.int (F_liar ))) := by
  refine G_aload_n (pc := 0) rfl dX12_liar_0 ?_
  refine G_iconst (pc := 1) (v := (-1)) (by decide) dX12_liar_1 ?_
  refine G_callV (pc := 2) (mc1 := 0) (ms1 := 0) (ci := 12) (mj := mX12_fitting) (vs := [_]) dX12_liar_2 rfl rfl cm_X12_fitting wh_140 wh_142 wh_143 rfl (Nat.le_of_ble_eq_true rfl) (Nat.le_of_ble_eq_true rfl) (Nat.le_of_ble_eq_true rfl) (Nat.le_of_ble_eq_true rfl) (fit_s J d) ?_
  rintro _ _ ⟨rfl, I457, rfl, h457⟩
  dsimp only [Option.toList, List.cons_append, List.nil_append]
  refine G_if_le (pc := 5) (tgt := 11) (by decide) dX12_liar_5 (fun z => absurd z (by decide)) (fun _ => ?_)
  refine G_bipush (pc := 8) (v := (-3)) (by decide) dX12_liar_8 ?_
  exact G_iret (pc := 10) (Nat.le_of_ble_eq_true rfl) (Nat.le_of_ble_eq_true rfl) rfl dX12_liar_10 (by first | rfl | (simp [F_liar, *]; done) | (simp only [F_liar, Int32.le_iff_toInt_le, Int32.lt_iff_toInt_lt, ← Int32.toInt_inj]; simp; omega) | (simp only [F_liar, Int32.le_iff_toInt_le, Int32.lt_iff_toInt_lt, ← Int32.toInt_inj]; split <;> first | rfl | (exfalso; simp at *; omega)) | (unfold F_liar; (repeat' split) <;> first | rfl | (exfalso; (try simp only [Int32.le_iff_toInt_le, Int32.lt_iff_toInt_lt, ← Int32.toInt_inj] at *); first | omega | (simp at *; done) | (simp at *; omega))))
