theorem in1_s (d : Nat) {sh : List (Nat × Nat)} {R : gR} {I : gI} (v lo hi : Int32) : G (d) mX12_in1 0 0 0 0 0 (gent 3 [.int v, .int lo, .int hi]) [] sh R I (fun r h => r = some (.int (gB (lo ≤ v ∧ v ≤ hi))) ∧ h = (sh, R, I)) := by
  refine G_iload_n (pc := 0) rfl dX12_in1_0 ?_
  refine G_iload_n (pc := 1) rfl dX12_in1_1 ?_
  refine G_icmp_lt (pc := 2) (tgt := 14) (by decide) dX12_in1_2 (fun c_2 => ?_) (fun c_2 => ?_)
  · refine G_iconst (pc := 14) (v := 0) (by decide) dX12_in1_14 ?_
    exact G_zret (pc := 15) (Nat.le_refl _) (Nat.le_refl _) rfl (by decide) dX12_in1_15 ⟨gB_f (fun z => absurd z.1 (Int32.not_le.mpr c_2)), rfl⟩
  · refine G_iload_n (pc := 5) rfl dX12_in1_5 ?_
    refine G_iload_n (pc := 6) rfl dX12_in1_6 ?_
    refine G_icmp_gt (pc := 7) (tgt := 14) (by decide) dX12_in1_7 (fun c_7 => ?_) (fun c_7 => ?_)
    · refine G_iconst (pc := 14) (v := 0) (by decide) dX12_in1_14 ?_
      exact G_zret (pc := 15) (Nat.le_refl _) (Nat.le_refl _) rfl (by decide) dX12_in1_15 ⟨gB_f (fun z => absurd z.2 (Int32.not_le.mpr c_7)), rfl⟩
    · refine G_iconst (pc := 10) (v := 1) (by decide) dX12_in1_10 ?_
      refine G_goto (pc := 11) (tgt := 15) (by decide) dX12_in1_11 ?_
      exact G_zret (pc := 15) (Nat.le_refl _) (Nat.le_refl _) rfl (by decide) dX12_in1_15 ⟨gB_t ⟨Int32.not_lt.mp c_2, Int32.not_lt.mp c_7⟩, rfl⟩
set_option maxRecDepth 100000 in
set_option maxHeartbeats 4000000 in
theorem layDown_s_l (d : Nat) (I : gI) (f : Nat) : ∀ (i : Int32), 0 ≤ i.toInt → i.toInt ≤ 65 → 65 - i.toInt < f → G d mX12_layDown 0 0 0 0 2 [some (.ref 67), some (.int i)] [] SH0 RF0 (gcp I 68 70 0 0 (i).toNatClampNeg) (fun r h => r = none ∧ h = (SH0, RF0, gcp I 68 70 0 0 65)) := by
  induction f with
  | zero => intro i h0 h1 hf; exfalso; omega
  | succ f ih =>
    intro i h0 h1 hf
    refine G_iload_n (pc := 2) rfl dX12_layDown_2 ?_
    refine G_bipush (pc := 3) (v := 65) (by decide) dX12_layDown_3 ?_
    refine G_icmp_ge (pc := 5) (tgt := 26) (by decide) dX12_layDown_5 (fun c1 => ?_) (fun c1 => ?_)
    · exact G_vret (pc := 26) (Nat.le_of_ble_eq_true rfl) (Nat.le_of_ble_eq_true rfl) rfl dX12_layDown_26 ⟨rfl, by rw [show i = 65 from Int32.toInt_inj.mp (by have := Int32.le_iff_toInt_le.mp c1; have e1 : (65 : Int32).toInt = 65 := rfl; omega)]; rfl⟩
    · refine G_aload_n (pc := 8) rfl dX12_layDown_8 ?_
      refine G_getR (pc := 9) (r := 70) (ci := 12) (j := 2) rfl lk_RX12_16 rfl rfl rfl dX12_layDown_9 ?_
      refine G_iload_n (pc := 12) rfl dX12_layDown_12 ?_
      refine G_aload_n (pc := 13) rfl dX12_layDown_13 ?_
      refine G_getR (pc := 14) (r := 68) (ci := 12) (j := 0) rfl lk_RX12_9 rfl rfl rfl dX12_layDown_14 ?_
      refine G_iload_n (pc := 17) rfl dX12_layDown_17 ?_
      refine G_iald (pc := 18) (nn := 313) rfl rfl rfl (by have e := Int32.lt_iff_toInt_lt.mp (Int32.not_le.mp c1); have e1 : (65 : Int32).toInt = 65 := rfl; exact g_in (by omega) (by omega)) dX12_layDown_18 ?_
      refine G_iast (pc := 19) (nn := 65) rfl rfl (by have e := Int32.lt_iff_toInt_lt.mp (Int32.not_le.mp c1); have e1 : (65 : Int32).toInt = 65 := rfl; exact g_in (by omega) (by omega)) dX12_layDown_19 ?_
      refine G_iinc (pc := 20) (v := 1) (w := (i + 1)) (L1 := [some (.ref 67), some (.int (i + 1))]) rfl rfl rfl (by decide) rfl (by decide) dX12_layDown_20 ?_
      refine G_goto (pc := 23) (tgt := 2) (by decide) dX12_layDown_23 ?_
      have e := Int32.lt_iff_toInt_lt.mp (Int32.not_le.mp c1)
      have e1 : (65 : Int32).toInt = 65 := rfl
      have e2 : (i + 1).toInt = i.toInt + 1 := g_inc (by omega)
      have e5 : (gup (gcp I 68 70 0 0 (i).toNatClampNeg) 70 (i).toNatClampNeg ((gcp I 68 70 0 0 (i).toNatClampNeg) 68 (i).toNatClampNeg)) = gcp I 68 70 0 0 (i + 1).toNatClampNeg := by
        have n1 : (i + 1).toNatClampNeg = i.toNatClampNeg + 1 := by show (i + 1).toInt.toNat = i.toInt.toNat + 1; omega
        rw [n1]
        exact gcp_step (by decide) (by omega) (by omega)
      rw [e5]
      exact ih (i + 1) (by omega) (by omega) (by omega)
set_option maxRecDepth 100000 in
set_option maxHeartbeats 4000000 in
theorem layDown_s (d : Nat) (I : gI) : G d mX12_layDown 0 0 0 0 0 (gent 2 [.ref 67]) [] SH0 RF0 I (fun r h => r = none ∧ h = (SH0, RF0, gcp I 68 70 0 0 65)) := by
  have z : G d mX12_layDown 0 0 0 0 0 (gent 2 [.ref 67]) [] SH0 RF0 (gcp I 68 70 0 0 (0 : Int32).toNatClampNeg) (fun r h => r = none ∧ h = (SH0, RF0, gcp I 68 70 0 0 65)) := by
    refine G_iconst (pc := 0) (v := 0) (by decide) dX12_layDown_0 ?_
    refine G_istore_n (pc := 1) (L1 := [some (.ref 67), some (.int 0)]) rfl rfl (by decide) dX12_layDown_1 ?_
    exact layDown_s_l d I 66 0 (by decide) (by decide) (by decide)
  rw [show gcp I 68 70 0 0 (0 : Int32).toNatClampNeg = I from gcp_zero] at z
  exact z
set_option maxRecDepth 100000 in
set_option maxHeartbeats 4000000 in
theorem layBack_s_l (d : Nat) (I : gI) (f : Nat) : ∀ (i : Int32), 0 ≤ i.toInt → i.toInt ≤ 65 → 65 - i.toInt < f → G d mX12_layBack 0 0 0 0 2 [some (.ref 67), some (.int i)] [] SH0 RF0 (gcp I 70 68 0 0 (i).toNatClampNeg) (fun r h => r = none ∧ h = (SH0, RF0, gcp I 70 68 0 0 65)) := by
  induction f with
  | zero => intro i h0 h1 hf; exfalso; omega
  | succ f ih =>
    intro i h0 h1 hf
    refine G_iload_n (pc := 2) rfl dX12_layBack_2 ?_
    refine G_bipush (pc := 3) (v := 65) (by decide) dX12_layBack_3 ?_
    refine G_icmp_ge (pc := 5) (tgt := 26) (by decide) dX12_layBack_5 (fun c2 => ?_) (fun c2 => ?_)
    · exact G_vret (pc := 26) (Nat.le_of_ble_eq_true rfl) (Nat.le_of_ble_eq_true rfl) rfl dX12_layBack_26 ⟨rfl, by rw [show i = 65 from Int32.toInt_inj.mp (by have := Int32.le_iff_toInt_le.mp c2; have e1 : (65 : Int32).toInt = 65 := rfl; omega)]; rfl⟩
    · refine G_aload_n (pc := 8) rfl dX12_layBack_8 ?_
      refine G_getR (pc := 9) (r := 68) (ci := 12) (j := 0) rfl lk_RX12_9 rfl rfl rfl dX12_layBack_9 ?_
      refine G_iload_n (pc := 12) rfl dX12_layBack_12 ?_
      refine G_aload_n (pc := 13) rfl dX12_layBack_13 ?_
      refine G_getR (pc := 14) (r := 70) (ci := 12) (j := 2) rfl lk_RX12_16 rfl rfl rfl dX12_layBack_14 ?_
      refine G_iload_n (pc := 17) rfl dX12_layBack_17 ?_
      refine G_iald (pc := 18) (nn := 65) rfl rfl rfl (by have e := Int32.lt_iff_toInt_lt.mp (Int32.not_le.mp c2); have e1 : (65 : Int32).toInt = 65 := rfl; exact g_in (by omega) (by omega)) dX12_layBack_18 ?_
      refine G_iast (pc := 19) (nn := 313) rfl rfl (by have e := Int32.lt_iff_toInt_lt.mp (Int32.not_le.mp c2); have e1 : (65 : Int32).toInt = 65 := rfl; exact g_in (by omega) (by omega)) dX12_layBack_19 ?_
      refine G_iinc (pc := 20) (v := 1) (w := (i + 1)) (L1 := [some (.ref 67), some (.int (i + 1))]) rfl rfl rfl (by decide) rfl (by decide) dX12_layBack_20 ?_
      refine G_goto (pc := 23) (tgt := 2) (by decide) dX12_layBack_23 ?_
      have e := Int32.lt_iff_toInt_lt.mp (Int32.not_le.mp c2)
      have e1 : (65 : Int32).toInt = 65 := rfl
      have e2 : (i + 1).toInt = i.toInt + 1 := g_inc (by omega)
      have e5 : (gup (gcp I 70 68 0 0 (i).toNatClampNeg) 68 (i).toNatClampNeg ((gcp I 70 68 0 0 (i).toNatClampNeg) 70 (i).toNatClampNeg)) = gcp I 70 68 0 0 (i + 1).toNatClampNeg := by
        have n1 : (i + 1).toNatClampNeg = i.toNatClampNeg + 1 := by show (i + 1).toInt.toNat = i.toInt.toNat + 1; omega
        rw [n1]
        exact gcp_step (by decide) (by omega) (by omega)
      rw [e5]
      exact ih (i + 1) (by omega) (by omega) (by omega)
set_option maxRecDepth 100000 in
set_option maxHeartbeats 4000000 in
theorem layBack_s (d : Nat) (I : gI) : G d mX12_layBack 0 0 0 0 0 (gent 2 [.ref 67]) [] SH0 RF0 I (fun r h => r = none ∧ h = (SH0, RF0, gcp I 70 68 0 0 65)) := by
  have z : G d mX12_layBack 0 0 0 0 0 (gent 2 [.ref 67]) [] SH0 RF0 (gcp I 70 68 0 0 (0 : Int32).toNatClampNeg) (fun r h => r = none ∧ h = (SH0, RF0, gcp I 70 68 0 0 65)) := by
    refine G_iconst (pc := 0) (v := 0) (by decide) dX12_layBack_0 ?_
    refine G_istore_n (pc := 1) (L1 := [some (.ref 67), some (.int 0)]) rfl rfl (by decide) dX12_layBack_1 ?_
    exact layBack_s_l d I 66 0 (by decide) (by decide) (by decide)
  rw [show gcp I 70 68 0 0 (0 : Int32).toNatClampNeg = I from gcp_zero] at z
  exact z
set_option maxRecDepth 100000 in
set_option maxHeartbeats 4000000 in
theorem saves_0_l (d : Nat) (I : gI) (f : Nat) : ∀ (i : Int32), 0 ≤ i.toInt → i.toInt ≤ 65 → 65 - i.toInt < f → G d mX12_saves 0 0 0 0 2 [some (.ref 67), some (.int 0), some (.int i)] [] SH0 RF0 (gcp I 68 76 0 0 (i).toNatClampNeg) (fun r h => r = none ∧ h = (SH0, RF0, gcp I 68 76 0 0 65)) := by
  induction f with
  | zero => intro i h0 h1 hf; exfalso; omega
  | succ f ih =>
    intro i h0 h1 hf
    refine G_iload_n (pc := 2) rfl dX12_saves_2 ?_
    refine G_bipush (pc := 3) (v := 65) (by decide) dX12_saves_3 ?_
    refine G_icmp_ge (pc := 5) (tgt := 31) (by decide) dX12_saves_5 (fun c3 => ?_) (fun c3 => ?_)
    · exact G_vret (pc := 31) (Nat.le_of_ble_eq_true rfl) (Nat.le_of_ble_eq_true rfl) rfl dX12_saves_31 ⟨rfl, by rw [show i = 65 from Int32.toInt_inj.mp (by have := Int32.le_iff_toInt_le.mp c3; have e1 : (65 : Int32).toInt = 65 := rfl; omega)]; rfl⟩
    · refine G_aload_n (pc := 8) rfl dX12_saves_8 ?_
      refine G_getR (pc := 9) (r := 76) (ci := 12) (j := 16) rfl lk_RX12_35 rfl rfl rfl dX12_saves_9 ?_
      refine G_bipush (pc := 12) (v := 65) (by decide) dX12_saves_12 ?_
      refine G_iload_n (pc := 14) rfl dX12_saves_14 ?_
      refine G_imul (pc := 15) (z := 0) (by decide) dX12_saves_15 ?_
      refine G_iload_n (pc := 16) rfl dX12_saves_16 ?_
      refine G_iadd (pc := 17) rfl dX12_saves_17 ?_
      refine G_aload_n (pc := 18) rfl dX12_saves_18 ?_
      refine G_getR (pc := 19) (r := 68) (ci := 12) (j := 0) rfl lk_RX12_9 rfl rfl rfl dX12_saves_19 ?_
      refine G_iload_n (pc := 22) rfl dX12_saves_22 ?_
      refine G_iald (pc := 23) (nn := 313) rfl rfl rfl (by have e := Int32.lt_iff_toInt_lt.mp (Int32.not_le.mp c3); have e1 : (65 : Int32).toInt = 65 := rfl; exact g_in (by omega) (by omega)) dX12_saves_23 ?_
      refine G_iast (pc := 24) (nn := 325) rfl rfl (by have e := Int32.lt_iff_toInt_lt.mp (Int32.not_le.mp c3); have e1 : (65 : Int32).toInt = 65 := rfl; have e4 : ((0 + i) : Int32).toInt = 0 + i.toInt := g_addc rfl (by omega) (by omega); exact g_in (by omega) (by omega)) dX12_saves_24 ?_
      refine G_iinc (pc := 25) (v := 1) (w := (i + 1)) (L1 := [some (.ref 67), some (.int 0), some (.int (i + 1))]) rfl rfl rfl (by decide) rfl (by decide) dX12_saves_25 ?_
      refine G_goto (pc := 28) (tgt := 2) (by decide) dX12_saves_28 ?_
      have e := Int32.lt_iff_toInt_lt.mp (Int32.not_le.mp c3)
      have e1 : (65 : Int32).toInt = 65 := rfl
      have e2 : (i + 1).toInt = i.toInt + 1 := g_inc (by omega)
      have e5 : (gup (gcp I 68 76 0 0 (i).toNatClampNeg) 76 ((0 + i)).toNatClampNeg ((gcp I 68 76 0 0 (i).toNatClampNeg) 68 (i).toNatClampNeg)) = gcp I 68 76 0 0 (i + 1).toNatClampNeg := by
        have n1 : (i + 1).toNatClampNeg = i.toNatClampNeg + 1 := by show (i + 1).toInt.toNat = i.toInt.toNat + 1; omega
        have n2 : ((0 + i) : Int32).toNatClampNeg = 0 + i.toNatClampNeg := by have e4 : ((0 + i) : Int32).toInt = 0 + i.toInt := g_addc rfl (by omega) (by omega); show ((0 + i) : Int32).toInt.toNat = 0 + i.toInt.toNat; omega
        rw [n1, n2]
        exact gcp_step (by decide) (by omega) (by omega)
      rw [e5]
      exact ih (i + 1) (by omega) (by omega) (by omega)
set_option maxRecDepth 100000 in
set_option maxHeartbeats 4000000 in
theorem saves_0 (d : Nat) (I : gI) : G d mX12_saves 0 0 0 0 0 (gent 3 [.ref 67, .int 0]) [] SH0 RF0 I (fun r h => r = none ∧ h = (SH0, RF0, gcp I 68 76 0 0 65)) := by
  have z : G d mX12_saves 0 0 0 0 0 (gent 3 [.ref 67, .int 0]) [] SH0 RF0 (gcp I 68 76 0 0 (0 : Int32).toNatClampNeg) (fun r h => r = none ∧ h = (SH0, RF0, gcp I 68 76 0 0 65)) := by
    refine G_iconst (pc := 0) (v := 0) (by decide) dX12_saves_0 ?_
    refine G_istore_n (pc := 1) (L1 := [some (.ref 67), some (.int 0), some (.int 0)]) rfl rfl (by decide) dX12_saves_1 ?_
    exact saves_0_l d I 66 0 (by decide) (by decide) (by decide)
  rw [show gcp I 68 76 0 0 (0 : Int32).toNatClampNeg = I from gcp_zero] at z
  exact z
set_option maxRecDepth 100000 in
set_option maxHeartbeats 4000000 in
theorem restores_0_l (d : Nat) (I : gI) (f : Nat) : ∀ (i : Int32), 0 ≤ i.toInt → i.toInt ≤ 65 → 65 - i.toInt < f → G d mX12_restores 0 0 0 0 2 [some (.ref 67), some (.int 0), some (.int i)] [] SH0 RF0 (gcp I 76 68 0 0 (i).toNatClampNeg) (fun r h => r = none ∧ h = (SH0, RF0, gcp I 76 68 0 0 65)) := by
  induction f with
  | zero => intro i h0 h1 hf; exfalso; omega
  | succ f ih =>
    intro i h0 h1 hf
    refine G_iload_n (pc := 2) rfl dX12_restores_2 ?_
    refine G_bipush (pc := 3) (v := 65) (by decide) dX12_restores_3 ?_
    refine G_icmp_ge (pc := 5) (tgt := 31) (by decide) dX12_restores_5 (fun c4 => ?_) (fun c4 => ?_)
    · exact G_vret (pc := 31) (Nat.le_of_ble_eq_true rfl) (Nat.le_of_ble_eq_true rfl) rfl dX12_restores_31 ⟨rfl, by rw [show i = 65 from Int32.toInt_inj.mp (by have := Int32.le_iff_toInt_le.mp c4; have e1 : (65 : Int32).toInt = 65 := rfl; omega)]; rfl⟩
    · refine G_aload_n (pc := 8) rfl dX12_restores_8 ?_
      refine G_getR (pc := 9) (r := 68) (ci := 12) (j := 0) rfl lk_RX12_9 rfl rfl rfl dX12_restores_9 ?_
      refine G_iload_n (pc := 12) rfl dX12_restores_12 ?_
      refine G_aload_n (pc := 13) rfl dX12_restores_13 ?_
      refine G_getR (pc := 14) (r := 76) (ci := 12) (j := 16) rfl lk_RX12_35 rfl rfl rfl dX12_restores_14 ?_
      refine G_bipush (pc := 17) (v := 65) (by decide) dX12_restores_17 ?_
      refine G_iload_n (pc := 19) rfl dX12_restores_19 ?_
      refine G_imul (pc := 20) (z := 0) (by decide) dX12_restores_20 ?_
      refine G_iload_n (pc := 21) rfl dX12_restores_21 ?_
      refine G_iadd (pc := 22) rfl dX12_restores_22 ?_
      refine G_iald (pc := 23) (nn := 325) rfl rfl rfl (by have e := Int32.lt_iff_toInt_lt.mp (Int32.not_le.mp c4); have e1 : (65 : Int32).toInt = 65 := rfl; have e4 : ((0 + i) : Int32).toInt = 0 + i.toInt := g_addc rfl (by omega) (by omega); exact g_in (by omega) (by omega)) dX12_restores_23 ?_
      refine G_iast (pc := 24) (nn := 313) rfl rfl (by have e := Int32.lt_iff_toInt_lt.mp (Int32.not_le.mp c4); have e1 : (65 : Int32).toInt = 65 := rfl; exact g_in (by omega) (by omega)) dX12_restores_24 ?_
      refine G_iinc (pc := 25) (v := 1) (w := (i + 1)) (L1 := [some (.ref 67), some (.int 0), some (.int (i + 1))]) rfl rfl rfl (by decide) rfl (by decide) dX12_restores_25 ?_
      refine G_goto (pc := 28) (tgt := 2) (by decide) dX12_restores_28 ?_
      have e := Int32.lt_iff_toInt_lt.mp (Int32.not_le.mp c4)
      have e1 : (65 : Int32).toInt = 65 := rfl
      have e2 : (i + 1).toInt = i.toInt + 1 := g_inc (by omega)
      have e5 : (gup (gcp I 76 68 0 0 (i).toNatClampNeg) 68 (i).toNatClampNeg ((gcp I 76 68 0 0 (i).toNatClampNeg) 76 ((0 + i)).toNatClampNeg)) = gcp I 76 68 0 0 (i + 1).toNatClampNeg := by
        have n1 : (i + 1).toNatClampNeg = i.toNatClampNeg + 1 := by show (i + 1).toInt.toNat = i.toInt.toNat + 1; omega
        have n2 : ((0 + i) : Int32).toNatClampNeg = 0 + i.toNatClampNeg := by have e4 : ((0 + i) : Int32).toInt = 0 + i.toInt := g_addc rfl (by omega) (by omega); show ((0 + i) : Int32).toInt.toNat = 0 + i.toInt.toNat; omega
        rw [n1, n2]
        exact gcp_step (by decide) (by omega) (by omega)
      rw [e5]
      exact ih (i + 1) (by omega) (by omega) (by omega)
set_option maxRecDepth 100000 in
set_option maxHeartbeats 4000000 in
theorem restores_0 (d : Nat) (I : gI) : G d mX12_restores 0 0 0 0 0 (gent 3 [.ref 67, .int 0]) [] SH0 RF0 I (fun r h => r = none ∧ h = (SH0, RF0, gcp I 76 68 0 0 65)) := by
  have z : G d mX12_restores 0 0 0 0 0 (gent 3 [.ref 67, .int 0]) [] SH0 RF0 (gcp I 76 68 0 0 (0 : Int32).toNatClampNeg) (fun r h => r = none ∧ h = (SH0, RF0, gcp I 76 68 0 0 65)) := by
    refine G_iconst (pc := 0) (v := 0) (by decide) dX12_restores_0 ?_
    refine G_istore_n (pc := 1) (L1 := [some (.ref 67), some (.int 0), some (.int 0)]) rfl rfl (by decide) dX12_restores_1 ?_
    exact restores_0_l d I 66 0 (by decide) (by decide) (by decide)
  rw [show gcp I 76 68 0 0 (0 : Int32).toNatClampNeg = I from gcp_zero] at z
  exact z
set_option maxRecDepth 100000 in
set_option maxHeartbeats 4000000 in
theorem saves_1_l (d : Nat) (I : gI) (f : Nat) : ∀ (i : Int32), 0 ≤ i.toInt → i.toInt ≤ 65 → 65 - i.toInt < f → G d mX12_saves 0 0 0 0 2 [some (.ref 67), some (.int 1), some (.int i)] [] SH0 RF0 (gcp I 68 76 0 65 (i).toNatClampNeg) (fun r h => r = none ∧ h = (SH0, RF0, gcp I 68 76 0 65 65)) := by
  induction f with
  | zero => intro i h0 h1 hf; exfalso; omega
  | succ f ih =>
    intro i h0 h1 hf
    refine G_iload_n (pc := 2) rfl dX12_saves_2 ?_
    refine G_bipush (pc := 3) (v := 65) (by decide) dX12_saves_3 ?_
    refine G_icmp_ge (pc := 5) (tgt := 31) (by decide) dX12_saves_5 (fun c5 => ?_) (fun c5 => ?_)
    · exact G_vret (pc := 31) (Nat.le_of_ble_eq_true rfl) (Nat.le_of_ble_eq_true rfl) rfl dX12_saves_31 ⟨rfl, by rw [show i = 65 from Int32.toInt_inj.mp (by have := Int32.le_iff_toInt_le.mp c5; have e1 : (65 : Int32).toInt = 65 := rfl; omega)]; rfl⟩
    · refine G_aload_n (pc := 8) rfl dX12_saves_8 ?_
      refine G_getR (pc := 9) (r := 76) (ci := 12) (j := 16) rfl lk_RX12_35 rfl rfl rfl dX12_saves_9 ?_
      refine G_bipush (pc := 12) (v := 65) (by decide) dX12_saves_12 ?_
      refine G_iload_n (pc := 14) rfl dX12_saves_14 ?_
      refine G_imul (pc := 15) (z := 65) (by decide) dX12_saves_15 ?_
      refine G_iload_n (pc := 16) rfl dX12_saves_16 ?_
      refine G_iadd (pc := 17) rfl dX12_saves_17 ?_
      refine G_aload_n (pc := 18) rfl dX12_saves_18 ?_
      refine G_getR (pc := 19) (r := 68) (ci := 12) (j := 0) rfl lk_RX12_9 rfl rfl rfl dX12_saves_19 ?_
      refine G_iload_n (pc := 22) rfl dX12_saves_22 ?_
      refine G_iald (pc := 23) (nn := 313) rfl rfl rfl (by have e := Int32.lt_iff_toInt_lt.mp (Int32.not_le.mp c5); have e1 : (65 : Int32).toInt = 65 := rfl; exact g_in (by omega) (by omega)) dX12_saves_23 ?_
      refine G_iast (pc := 24) (nn := 325) rfl rfl (by have e := Int32.lt_iff_toInt_lt.mp (Int32.not_le.mp c5); have e1 : (65 : Int32).toInt = 65 := rfl; have e4 : ((65 + i) : Int32).toInt = 65 + i.toInt := g_addc rfl (by omega) (by omega); exact g_in (by omega) (by omega)) dX12_saves_24 ?_
      refine G_iinc (pc := 25) (v := 1) (w := (i + 1)) (L1 := [some (.ref 67), some (.int 1), some (.int (i + 1))]) rfl rfl rfl (by decide) rfl (by decide) dX12_saves_25 ?_
      refine G_goto (pc := 28) (tgt := 2) (by decide) dX12_saves_28 ?_
      have e := Int32.lt_iff_toInt_lt.mp (Int32.not_le.mp c5)
      have e1 : (65 : Int32).toInt = 65 := rfl
      have e2 : (i + 1).toInt = i.toInt + 1 := g_inc (by omega)
      have e5 : (gup (gcp I 68 76 0 65 (i).toNatClampNeg) 76 ((65 + i)).toNatClampNeg ((gcp I 68 76 0 65 (i).toNatClampNeg) 68 (i).toNatClampNeg)) = gcp I 68 76 0 65 (i + 1).toNatClampNeg := by
        have n1 : (i + 1).toNatClampNeg = i.toNatClampNeg + 1 := by show (i + 1).toInt.toNat = i.toInt.toNat + 1; omega
        have n3 : ((65 + i) : Int32).toNatClampNeg = 65 + i.toNatClampNeg := by have e4 : ((65 + i) : Int32).toInt = 65 + i.toInt := g_addc rfl (by omega) (by omega); show ((65 + i) : Int32).toInt.toNat = 65 + i.toInt.toNat; omega
        rw [n1, n3]
        exact gcp_step (by decide) (by omega) (by omega)
      rw [e5]
      exact ih (i + 1) (by omega) (by omega) (by omega)
set_option maxRecDepth 100000 in
set_option maxHeartbeats 4000000 in
theorem saves_1 (d : Nat) (I : gI) : G d mX12_saves 0 0 0 0 0 (gent 3 [.ref 67, .int 1]) [] SH0 RF0 I (fun r h => r = none ∧ h = (SH0, RF0, gcp I 68 76 0 65 65)) := by
  have z : G d mX12_saves 0 0 0 0 0 (gent 3 [.ref 67, .int 1]) [] SH0 RF0 (gcp I 68 76 0 65 (0 : Int32).toNatClampNeg) (fun r h => r = none ∧ h = (SH0, RF0, gcp I 68 76 0 65 65)) := by
    refine G_iconst (pc := 0) (v := 0) (by decide) dX12_saves_0 ?_
    refine G_istore_n (pc := 1) (L1 := [some (.ref 67), some (.int 1), some (.int 0)]) rfl rfl (by decide) dX12_saves_1 ?_
    exact saves_1_l d I 66 0 (by decide) (by decide) (by decide)
  rw [show gcp I 68 76 0 65 (0 : Int32).toNatClampNeg = I from gcp_zero] at z
  exact z
set_option maxRecDepth 100000 in
set_option maxHeartbeats 4000000 in
theorem restores_1_l (d : Nat) (I : gI) (f : Nat) : ∀ (i : Int32), 0 ≤ i.toInt → i.toInt ≤ 65 → 65 - i.toInt < f → G d mX12_restores 0 0 0 0 2 [some (.ref 67), some (.int 1), some (.int i)] [] SH0 RF0 (gcp I 76 68 65 0 (i).toNatClampNeg) (fun r h => r = none ∧ h = (SH0, RF0, gcp I 76 68 65 0 65)) := by
  induction f with
  | zero => intro i h0 h1 hf; exfalso; omega
  | succ f ih =>
    intro i h0 h1 hf
    refine G_iload_n (pc := 2) rfl dX12_restores_2 ?_
    refine G_bipush (pc := 3) (v := 65) (by decide) dX12_restores_3 ?_
    refine G_icmp_ge (pc := 5) (tgt := 31) (by decide) dX12_restores_5 (fun c6 => ?_) (fun c6 => ?_)
    · exact G_vret (pc := 31) (Nat.le_of_ble_eq_true rfl) (Nat.le_of_ble_eq_true rfl) rfl dX12_restores_31 ⟨rfl, by rw [show i = 65 from Int32.toInt_inj.mp (by have := Int32.le_iff_toInt_le.mp c6; have e1 : (65 : Int32).toInt = 65 := rfl; omega)]; rfl⟩
    · refine G_aload_n (pc := 8) rfl dX12_restores_8 ?_
      refine G_getR (pc := 9) (r := 68) (ci := 12) (j := 0) rfl lk_RX12_9 rfl rfl rfl dX12_restores_9 ?_
      refine G_iload_n (pc := 12) rfl dX12_restores_12 ?_
      refine G_aload_n (pc := 13) rfl dX12_restores_13 ?_
      refine G_getR (pc := 14) (r := 76) (ci := 12) (j := 16) rfl lk_RX12_35 rfl rfl rfl dX12_restores_14 ?_
      refine G_bipush (pc := 17) (v := 65) (by decide) dX12_restores_17 ?_
      refine G_iload_n (pc := 19) rfl dX12_restores_19 ?_
      refine G_imul (pc := 20) (z := 65) (by decide) dX12_restores_20 ?_
      refine G_iload_n (pc := 21) rfl dX12_restores_21 ?_
      refine G_iadd (pc := 22) rfl dX12_restores_22 ?_
      refine G_iald (pc := 23) (nn := 325) rfl rfl rfl (by have e := Int32.lt_iff_toInt_lt.mp (Int32.not_le.mp c6); have e1 : (65 : Int32).toInt = 65 := rfl; have e4 : ((65 + i) : Int32).toInt = 65 + i.toInt := g_addc rfl (by omega) (by omega); exact g_in (by omega) (by omega)) dX12_restores_23 ?_
      refine G_iast (pc := 24) (nn := 313) rfl rfl (by have e := Int32.lt_iff_toInt_lt.mp (Int32.not_le.mp c6); have e1 : (65 : Int32).toInt = 65 := rfl; exact g_in (by omega) (by omega)) dX12_restores_24 ?_
      refine G_iinc (pc := 25) (v := 1) (w := (i + 1)) (L1 := [some (.ref 67), some (.int 1), some (.int (i + 1))]) rfl rfl rfl (by decide) rfl (by decide) dX12_restores_25 ?_
      refine G_goto (pc := 28) (tgt := 2) (by decide) dX12_restores_28 ?_
      have e := Int32.lt_iff_toInt_lt.mp (Int32.not_le.mp c6)
      have e1 : (65 : Int32).toInt = 65 := rfl
      have e2 : (i + 1).toInt = i.toInt + 1 := g_inc (by omega)
      have e5 : (gup (gcp I 76 68 65 0 (i).toNatClampNeg) 68 (i).toNatClampNeg ((gcp I 76 68 65 0 (i).toNatClampNeg) 76 ((65 + i)).toNatClampNeg)) = gcp I 76 68 65 0 (i + 1).toNatClampNeg := by
        have n1 : (i + 1).toNatClampNeg = i.toNatClampNeg + 1 := by show (i + 1).toInt.toNat = i.toInt.toNat + 1; omega
        have n3 : ((65 + i) : Int32).toNatClampNeg = 65 + i.toNatClampNeg := by have e4 : ((65 + i) : Int32).toInt = 65 + i.toInt := g_addc rfl (by omega) (by omega); show ((65 + i) : Int32).toInt.toNat = 65 + i.toInt.toNat; omega
        rw [n1, n3]
        exact gcp_step (by decide) (by omega) (by omega)
      rw [e5]
      exact ih (i + 1) (by omega) (by omega) (by omega)
set_option maxRecDepth 100000 in
set_option maxHeartbeats 4000000 in
theorem restores_1 (d : Nat) (I : gI) : G d mX12_restores 0 0 0 0 0 (gent 3 [.ref 67, .int 1]) [] SH0 RF0 I (fun r h => r = none ∧ h = (SH0, RF0, gcp I 76 68 65 0 65)) := by
  have z : G d mX12_restores 0 0 0 0 0 (gent 3 [.ref 67, .int 1]) [] SH0 RF0 (gcp I 76 68 65 0 (0 : Int32).toNatClampNeg) (fun r h => r = none ∧ h = (SH0, RF0, gcp I 76 68 65 0 65)) := by
    refine G_iconst (pc := 0) (v := 0) (by decide) dX12_restores_0 ?_
    refine G_istore_n (pc := 1) (L1 := [some (.ref 67), some (.int 1), some (.int 0)]) rfl rfl (by decide) dX12_restores_1 ?_
    exact restores_1_l d I 66 0 (by decide) (by decide) (by decide)
  rw [show gcp I 76 68 65 0 (0 : Int32).toNatClampNeg = I from gcp_zero] at z
  exact z
set_option maxRecDepth 100000 in
set_option maxHeartbeats 4000000 in
theorem saves_2_l (d : Nat) (I : gI) (f : Nat) : ∀ (i : Int32), 0 ≤ i.toInt → i.toInt ≤ 65 → 65 - i.toInt < f → G d mX12_saves 0 0 0 0 2 [some (.ref 67), some (.int 2), some (.int i)] [] SH0 RF0 (gcp I 68 76 0 130 (i).toNatClampNeg) (fun r h => r = none ∧ h = (SH0, RF0, gcp I 68 76 0 130 65)) := by
  induction f with
  | zero => intro i h0 h1 hf; exfalso; omega
  | succ f ih =>
    intro i h0 h1 hf
    refine G_iload_n (pc := 2) rfl dX12_saves_2 ?_
    refine G_bipush (pc := 3) (v := 65) (by decide) dX12_saves_3 ?_
    refine G_icmp_ge (pc := 5) (tgt := 31) (by decide) dX12_saves_5 (fun c7 => ?_) (fun c7 => ?_)
    · exact G_vret (pc := 31) (Nat.le_of_ble_eq_true rfl) (Nat.le_of_ble_eq_true rfl) rfl dX12_saves_31 ⟨rfl, by rw [show i = 65 from Int32.toInt_inj.mp (by have := Int32.le_iff_toInt_le.mp c7; have e1 : (65 : Int32).toInt = 65 := rfl; omega)]; rfl⟩
    · refine G_aload_n (pc := 8) rfl dX12_saves_8 ?_
      refine G_getR (pc := 9) (r := 76) (ci := 12) (j := 16) rfl lk_RX12_35 rfl rfl rfl dX12_saves_9 ?_
      refine G_bipush (pc := 12) (v := 65) (by decide) dX12_saves_12 ?_
      refine G_iload_n (pc := 14) rfl dX12_saves_14 ?_
      refine G_imul (pc := 15) (z := 130) (by decide) dX12_saves_15 ?_
      refine G_iload_n (pc := 16) rfl dX12_saves_16 ?_
      refine G_iadd (pc := 17) rfl dX12_saves_17 ?_
      refine G_aload_n (pc := 18) rfl dX12_saves_18 ?_
      refine G_getR (pc := 19) (r := 68) (ci := 12) (j := 0) rfl lk_RX12_9 rfl rfl rfl dX12_saves_19 ?_
      refine G_iload_n (pc := 22) rfl dX12_saves_22 ?_
      refine G_iald (pc := 23) (nn := 313) rfl rfl rfl (by have e := Int32.lt_iff_toInt_lt.mp (Int32.not_le.mp c7); have e1 : (65 : Int32).toInt = 65 := rfl; exact g_in (by omega) (by omega)) dX12_saves_23 ?_
      refine G_iast (pc := 24) (nn := 325) rfl rfl (by have e := Int32.lt_iff_toInt_lt.mp (Int32.not_le.mp c7); have e1 : (65 : Int32).toInt = 65 := rfl; have e4 : ((130 + i) : Int32).toInt = 130 + i.toInt := g_addc rfl (by omega) (by omega); exact g_in (by omega) (by omega)) dX12_saves_24 ?_
      refine G_iinc (pc := 25) (v := 1) (w := (i + 1)) (L1 := [some (.ref 67), some (.int 2), some (.int (i + 1))]) rfl rfl rfl (by decide) rfl (by decide) dX12_saves_25 ?_
      refine G_goto (pc := 28) (tgt := 2) (by decide) dX12_saves_28 ?_
      have e := Int32.lt_iff_toInt_lt.mp (Int32.not_le.mp c7)
      have e1 : (65 : Int32).toInt = 65 := rfl
      have e2 : (i + 1).toInt = i.toInt + 1 := g_inc (by omega)
      have e5 : (gup (gcp I 68 76 0 130 (i).toNatClampNeg) 76 ((130 + i)).toNatClampNeg ((gcp I 68 76 0 130 (i).toNatClampNeg) 68 (i).toNatClampNeg)) = gcp I 68 76 0 130 (i + 1).toNatClampNeg := by
        have n1 : (i + 1).toNatClampNeg = i.toNatClampNeg + 1 := by show (i + 1).toInt.toNat = i.toInt.toNat + 1; omega
        have n3 : ((130 + i) : Int32).toNatClampNeg = 130 + i.toNatClampNeg := by have e4 : ((130 + i) : Int32).toInt = 130 + i.toInt := g_addc rfl (by omega) (by omega); show ((130 + i) : Int32).toInt.toNat = 130 + i.toInt.toNat; omega
        rw [n1, n3]
        exact gcp_step (by decide) (by omega) (by omega)
      rw [e5]
      exact ih (i + 1) (by omega) (by omega) (by omega)
set_option maxRecDepth 100000 in
set_option maxHeartbeats 4000000 in
theorem saves_2 (d : Nat) (I : gI) : G d mX12_saves 0 0 0 0 0 (gent 3 [.ref 67, .int 2]) [] SH0 RF0 I (fun r h => r = none ∧ h = (SH0, RF0, gcp I 68 76 0 130 65)) := by
  have z : G d mX12_saves 0 0 0 0 0 (gent 3 [.ref 67, .int 2]) [] SH0 RF0 (gcp I 68 76 0 130 (0 : Int32).toNatClampNeg) (fun r h => r = none ∧ h = (SH0, RF0, gcp I 68 76 0 130 65)) := by
    refine G_iconst (pc := 0) (v := 0) (by decide) dX12_saves_0 ?_
    refine G_istore_n (pc := 1) (L1 := [some (.ref 67), some (.int 2), some (.int 0)]) rfl rfl (by decide) dX12_saves_1 ?_
    exact saves_2_l d I 66 0 (by decide) (by decide) (by decide)
  rw [show gcp I 68 76 0 130 (0 : Int32).toNatClampNeg = I from gcp_zero] at z
  exact z
set_option maxRecDepth 100000 in
set_option maxHeartbeats 4000000 in
theorem restores_2_l (d : Nat) (I : gI) (f : Nat) : ∀ (i : Int32), 0 ≤ i.toInt → i.toInt ≤ 65 → 65 - i.toInt < f → G d mX12_restores 0 0 0 0 2 [some (.ref 67), some (.int 2), some (.int i)] [] SH0 RF0 (gcp I 76 68 130 0 (i).toNatClampNeg) (fun r h => r = none ∧ h = (SH0, RF0, gcp I 76 68 130 0 65)) := by
  induction f with
  | zero => intro i h0 h1 hf; exfalso; omega
  | succ f ih =>
    intro i h0 h1 hf
    refine G_iload_n (pc := 2) rfl dX12_restores_2 ?_
    refine G_bipush (pc := 3) (v := 65) (by decide) dX12_restores_3 ?_
    refine G_icmp_ge (pc := 5) (tgt := 31) (by decide) dX12_restores_5 (fun c8 => ?_) (fun c8 => ?_)
    · exact G_vret (pc := 31) (Nat.le_of_ble_eq_true rfl) (Nat.le_of_ble_eq_true rfl) rfl dX12_restores_31 ⟨rfl, by rw [show i = 65 from Int32.toInt_inj.mp (by have := Int32.le_iff_toInt_le.mp c8; have e1 : (65 : Int32).toInt = 65 := rfl; omega)]; rfl⟩
    · refine G_aload_n (pc := 8) rfl dX12_restores_8 ?_
      refine G_getR (pc := 9) (r := 68) (ci := 12) (j := 0) rfl lk_RX12_9 rfl rfl rfl dX12_restores_9 ?_
      refine G_iload_n (pc := 12) rfl dX12_restores_12 ?_
      refine G_aload_n (pc := 13) rfl dX12_restores_13 ?_
      refine G_getR (pc := 14) (r := 76) (ci := 12) (j := 16) rfl lk_RX12_35 rfl rfl rfl dX12_restores_14 ?_
      refine G_bipush (pc := 17) (v := 65) (by decide) dX12_restores_17 ?_
      refine G_iload_n (pc := 19) rfl dX12_restores_19 ?_
      refine G_imul (pc := 20) (z := 130) (by decide) dX12_restores_20 ?_
      refine G_iload_n (pc := 21) rfl dX12_restores_21 ?_
      refine G_iadd (pc := 22) rfl dX12_restores_22 ?_
      refine G_iald (pc := 23) (nn := 325) rfl rfl rfl (by have e := Int32.lt_iff_toInt_lt.mp (Int32.not_le.mp c8); have e1 : (65 : Int32).toInt = 65 := rfl; have e4 : ((130 + i) : Int32).toInt = 130 + i.toInt := g_addc rfl (by omega) (by omega); exact g_in (by omega) (by omega)) dX12_restores_23 ?_
      refine G_iast (pc := 24) (nn := 313) rfl rfl (by have e := Int32.lt_iff_toInt_lt.mp (Int32.not_le.mp c8); have e1 : (65 : Int32).toInt = 65 := rfl; exact g_in (by omega) (by omega)) dX12_restores_24 ?_
      refine G_iinc (pc := 25) (v := 1) (w := (i + 1)) (L1 := [some (.ref 67), some (.int 2), some (.int (i + 1))]) rfl rfl rfl (by decide) rfl (by decide) dX12_restores_25 ?_
      refine G_goto (pc := 28) (tgt := 2) (by decide) dX12_restores_28 ?_
      have e := Int32.lt_iff_toInt_lt.mp (Int32.not_le.mp c8)
      have e1 : (65 : Int32).toInt = 65 := rfl
      have e2 : (i + 1).toInt = i.toInt + 1 := g_inc (by omega)
      have e5 : (gup (gcp I 76 68 130 0 (i).toNatClampNeg) 68 (i).toNatClampNeg ((gcp I 76 68 130 0 (i).toNatClampNeg) 76 ((130 + i)).toNatClampNeg)) = gcp I 76 68 130 0 (i + 1).toNatClampNeg := by
        have n1 : (i + 1).toNatClampNeg = i.toNatClampNeg + 1 := by show (i + 1).toInt.toNat = i.toInt.toNat + 1; omega
        have n3 : ((130 + i) : Int32).toNatClampNeg = 130 + i.toNatClampNeg := by have e4 : ((130 + i) : Int32).toInt = 130 + i.toInt := g_addc rfl (by omega) (by omega); show ((130 + i) : Int32).toInt.toNat = 130 + i.toInt.toNat; omega
        rw [n1, n3]
        exact gcp_step (by decide) (by omega) (by omega)
      rw [e5]
      exact ih (i + 1) (by omega) (by omega) (by omega)
set_option maxRecDepth 100000 in
set_option maxHeartbeats 4000000 in
theorem restores_2 (d : Nat) (I : gI) : G d mX12_restores 0 0 0 0 0 (gent 3 [.ref 67, .int 2]) [] SH0 RF0 I (fun r h => r = none ∧ h = (SH0, RF0, gcp I 76 68 130 0 65)) := by
  have z : G d mX12_restores 0 0 0 0 0 (gent 3 [.ref 67, .int 2]) [] SH0 RF0 (gcp I 76 68 130 0 (0 : Int32).toNatClampNeg) (fun r h => r = none ∧ h = (SH0, RF0, gcp I 76 68 130 0 65)) := by
    refine G_iconst (pc := 0) (v := 0) (by decide) dX12_restores_0 ?_
    refine G_istore_n (pc := 1) (L1 := [some (.ref 67), some (.int 2), some (.int 0)]) rfl rfl (by decide) dX12_restores_1 ?_
    exact restores_2_l d I 66 0 (by decide) (by decide) (by decide)
  rw [show gcp I 76 68 130 0 (0 : Int32).toNatClampNeg = I from gcp_zero] at z
  exact z
set_option maxRecDepth 100000 in
set_option maxHeartbeats 4000000 in
theorem saves_3_l (d : Nat) (I : gI) (f : Nat) : ∀ (i : Int32), 0 ≤ i.toInt → i.toInt ≤ 65 → 65 - i.toInt < f → G d mX12_saves 0 0 0 0 2 [some (.ref 67), some (.int 3), some (.int i)] [] SH0 RF0 (gcp I 68 76 0 195 (i).toNatClampNeg) (fun r h => r = none ∧ h = (SH0, RF0, gcp I 68 76 0 195 65)) := by
  induction f with
  | zero => intro i h0 h1 hf; exfalso; omega
  | succ f ih =>
    intro i h0 h1 hf
    refine G_iload_n (pc := 2) rfl dX12_saves_2 ?_
    refine G_bipush (pc := 3) (v := 65) (by decide) dX12_saves_3 ?_
    refine G_icmp_ge (pc := 5) (tgt := 31) (by decide) dX12_saves_5 (fun c9 => ?_) (fun c9 => ?_)
    · exact G_vret (pc := 31) (Nat.le_of_ble_eq_true rfl) (Nat.le_of_ble_eq_true rfl) rfl dX12_saves_31 ⟨rfl, by rw [show i = 65 from Int32.toInt_inj.mp (by have := Int32.le_iff_toInt_le.mp c9; have e1 : (65 : Int32).toInt = 65 := rfl; omega)]; rfl⟩
    · refine G_aload_n (pc := 8) rfl dX12_saves_8 ?_
      refine G_getR (pc := 9) (r := 76) (ci := 12) (j := 16) rfl lk_RX12_35 rfl rfl rfl dX12_saves_9 ?_
      refine G_bipush (pc := 12) (v := 65) (by decide) dX12_saves_12 ?_
      refine G_iload_n (pc := 14) rfl dX12_saves_14 ?_
      refine G_imul (pc := 15) (z := 195) (by decide) dX12_saves_15 ?_
      refine G_iload_n (pc := 16) rfl dX12_saves_16 ?_
      refine G_iadd (pc := 17) rfl dX12_saves_17 ?_
      refine G_aload_n (pc := 18) rfl dX12_saves_18 ?_
      refine G_getR (pc := 19) (r := 68) (ci := 12) (j := 0) rfl lk_RX12_9 rfl rfl rfl dX12_saves_19 ?_
      refine G_iload_n (pc := 22) rfl dX12_saves_22 ?_
      refine G_iald (pc := 23) (nn := 313) rfl rfl rfl (by have e := Int32.lt_iff_toInt_lt.mp (Int32.not_le.mp c9); have e1 : (65 : Int32).toInt = 65 := rfl; exact g_in (by omega) (by omega)) dX12_saves_23 ?_
      refine G_iast (pc := 24) (nn := 325) rfl rfl (by have e := Int32.lt_iff_toInt_lt.mp (Int32.not_le.mp c9); have e1 : (65 : Int32).toInt = 65 := rfl; have e4 : ((195 + i) : Int32).toInt = 195 + i.toInt := g_addc rfl (by omega) (by omega); exact g_in (by omega) (by omega)) dX12_saves_24 ?_
      refine G_iinc (pc := 25) (v := 1) (w := (i + 1)) (L1 := [some (.ref 67), some (.int 3), some (.int (i + 1))]) rfl rfl rfl (by decide) rfl (by decide) dX12_saves_25 ?_
      refine G_goto (pc := 28) (tgt := 2) (by decide) dX12_saves_28 ?_
      have e := Int32.lt_iff_toInt_lt.mp (Int32.not_le.mp c9)
      have e1 : (65 : Int32).toInt = 65 := rfl
      have e2 : (i + 1).toInt = i.toInt + 1 := g_inc (by omega)
      have e5 : (gup (gcp I 68 76 0 195 (i).toNatClampNeg) 76 ((195 + i)).toNatClampNeg ((gcp I 68 76 0 195 (i).toNatClampNeg) 68 (i).toNatClampNeg)) = gcp I 68 76 0 195 (i + 1).toNatClampNeg := by
        have n1 : (i + 1).toNatClampNeg = i.toNatClampNeg + 1 := by show (i + 1).toInt.toNat = i.toInt.toNat + 1; omega
        have n3 : ((195 + i) : Int32).toNatClampNeg = 195 + i.toNatClampNeg := by have e4 : ((195 + i) : Int32).toInt = 195 + i.toInt := g_addc rfl (by omega) (by omega); show ((195 + i) : Int32).toInt.toNat = 195 + i.toInt.toNat; omega
        rw [n1, n3]
        exact gcp_step (by decide) (by omega) (by omega)
      rw [e5]
      exact ih (i + 1) (by omega) (by omega) (by omega)
set_option maxRecDepth 100000 in
set_option maxHeartbeats 4000000 in
theorem saves_3 (d : Nat) (I : gI) : G d mX12_saves 0 0 0 0 0 (gent 3 [.ref 67, .int 3]) [] SH0 RF0 I (fun r h => r = none ∧ h = (SH0, RF0, gcp I 68 76 0 195 65)) := by
  have z : G d mX12_saves 0 0 0 0 0 (gent 3 [.ref 67, .int 3]) [] SH0 RF0 (gcp I 68 76 0 195 (0 : Int32).toNatClampNeg) (fun r h => r = none ∧ h = (SH0, RF0, gcp I 68 76 0 195 65)) := by
    refine G_iconst (pc := 0) (v := 0) (by decide) dX12_saves_0 ?_
    refine G_istore_n (pc := 1) (L1 := [some (.ref 67), some (.int 3), some (.int 0)]) rfl rfl (by decide) dX12_saves_1 ?_
    exact saves_3_l d I 66 0 (by decide) (by decide) (by decide)
  rw [show gcp I 68 76 0 195 (0 : Int32).toNatClampNeg = I from gcp_zero] at z
  exact z
set_option maxRecDepth 100000 in
set_option maxHeartbeats 4000000 in
theorem restores_3_l (d : Nat) (I : gI) (f : Nat) : ∀ (i : Int32), 0 ≤ i.toInt → i.toInt ≤ 65 → 65 - i.toInt < f → G d mX12_restores 0 0 0 0 2 [some (.ref 67), some (.int 3), some (.int i)] [] SH0 RF0 (gcp I 76 68 195 0 (i).toNatClampNeg) (fun r h => r = none ∧ h = (SH0, RF0, gcp I 76 68 195 0 65)) := by
  induction f with
  | zero => intro i h0 h1 hf; exfalso; omega
  | succ f ih =>
    intro i h0 h1 hf
    refine G_iload_n (pc := 2) rfl dX12_restores_2 ?_
    refine G_bipush (pc := 3) (v := 65) (by decide) dX12_restores_3 ?_
    refine G_icmp_ge (pc := 5) (tgt := 31) (by decide) dX12_restores_5 (fun c10 => ?_) (fun c10 => ?_)
    · exact G_vret (pc := 31) (Nat.le_of_ble_eq_true rfl) (Nat.le_of_ble_eq_true rfl) rfl dX12_restores_31 ⟨rfl, by rw [show i = 65 from Int32.toInt_inj.mp (by have := Int32.le_iff_toInt_le.mp c10; have e1 : (65 : Int32).toInt = 65 := rfl; omega)]; rfl⟩
    · refine G_aload_n (pc := 8) rfl dX12_restores_8 ?_
      refine G_getR (pc := 9) (r := 68) (ci := 12) (j := 0) rfl lk_RX12_9 rfl rfl rfl dX12_restores_9 ?_
      refine G_iload_n (pc := 12) rfl dX12_restores_12 ?_
      refine G_aload_n (pc := 13) rfl dX12_restores_13 ?_
      refine G_getR (pc := 14) (r := 76) (ci := 12) (j := 16) rfl lk_RX12_35 rfl rfl rfl dX12_restores_14 ?_
      refine G_bipush (pc := 17) (v := 65) (by decide) dX12_restores_17 ?_
      refine G_iload_n (pc := 19) rfl dX12_restores_19 ?_
      refine G_imul (pc := 20) (z := 195) (by decide) dX12_restores_20 ?_
      refine G_iload_n (pc := 21) rfl dX12_restores_21 ?_
      refine G_iadd (pc := 22) rfl dX12_restores_22 ?_
      refine G_iald (pc := 23) (nn := 325) rfl rfl rfl (by have e := Int32.lt_iff_toInt_lt.mp (Int32.not_le.mp c10); have e1 : (65 : Int32).toInt = 65 := rfl; have e4 : ((195 + i) : Int32).toInt = 195 + i.toInt := g_addc rfl (by omega) (by omega); exact g_in (by omega) (by omega)) dX12_restores_23 ?_
      refine G_iast (pc := 24) (nn := 313) rfl rfl (by have e := Int32.lt_iff_toInt_lt.mp (Int32.not_le.mp c10); have e1 : (65 : Int32).toInt = 65 := rfl; exact g_in (by omega) (by omega)) dX12_restores_24 ?_
      refine G_iinc (pc := 25) (v := 1) (w := (i + 1)) (L1 := [some (.ref 67), some (.int 3), some (.int (i + 1))]) rfl rfl rfl (by decide) rfl (by decide) dX12_restores_25 ?_
      refine G_goto (pc := 28) (tgt := 2) (by decide) dX12_restores_28 ?_
      have e := Int32.lt_iff_toInt_lt.mp (Int32.not_le.mp c10)
      have e1 : (65 : Int32).toInt = 65 := rfl
      have e2 : (i + 1).toInt = i.toInt + 1 := g_inc (by omega)
      have e5 : (gup (gcp I 76 68 195 0 (i).toNatClampNeg) 68 (i).toNatClampNeg ((gcp I 76 68 195 0 (i).toNatClampNeg) 76 ((195 + i)).toNatClampNeg)) = gcp I 76 68 195 0 (i + 1).toNatClampNeg := by
        have n1 : (i + 1).toNatClampNeg = i.toNatClampNeg + 1 := by show (i + 1).toInt.toNat = i.toInt.toNat + 1; omega
        have n3 : ((195 + i) : Int32).toNatClampNeg = 195 + i.toNatClampNeg := by have e4 : ((195 + i) : Int32).toInt = 195 + i.toInt := g_addc rfl (by omega) (by omega); show ((195 + i) : Int32).toInt.toNat = 195 + i.toInt.toNat; omega
        rw [n1, n3]
        exact gcp_step (by decide) (by omega) (by omega)
      rw [e5]
      exact ih (i + 1) (by omega) (by omega) (by omega)
set_option maxRecDepth 100000 in
set_option maxHeartbeats 4000000 in
theorem restores_3 (d : Nat) (I : gI) : G d mX12_restores 0 0 0 0 0 (gent 3 [.ref 67, .int 3]) [] SH0 RF0 I (fun r h => r = none ∧ h = (SH0, RF0, gcp I 76 68 195 0 65)) := by
  have z : G d mX12_restores 0 0 0 0 0 (gent 3 [.ref 67, .int 3]) [] SH0 RF0 (gcp I 76 68 195 0 (0 : Int32).toNatClampNeg) (fun r h => r = none ∧ h = (SH0, RF0, gcp I 76 68 195 0 65)) := by
    refine G_iconst (pc := 0) (v := 0) (by decide) dX12_restores_0 ?_
    refine G_istore_n (pc := 1) (L1 := [some (.ref 67), some (.int 3), some (.int 0)]) rfl rfl (by decide) dX12_restores_1 ?_
    exact restores_3_l d I 66 0 (by decide) (by decide) (by decide)
  rw [show gcp I 76 68 195 0 (0 : Int32).toNatClampNeg = I from gcp_zero] at z
  exact z
set_option maxRecDepth 100000 in
set_option maxHeartbeats 4000000 in
theorem saves_4_l (d : Nat) (I : gI) (f : Nat) : ∀ (i : Int32), 0 ≤ i.toInt → i.toInt ≤ 65 → 65 - i.toInt < f → G d mX12_saves 0 0 0 0 2 [some (.ref 67), some (.int 4), some (.int i)] [] SH0 RF0 (gcp I 68 76 0 260 (i).toNatClampNeg) (fun r h => r = none ∧ h = (SH0, RF0, gcp I 68 76 0 260 65)) := by
  induction f with
  | zero => intro i h0 h1 hf; exfalso; omega
  | succ f ih =>
    intro i h0 h1 hf
    refine G_iload_n (pc := 2) rfl dX12_saves_2 ?_
    refine G_bipush (pc := 3) (v := 65) (by decide) dX12_saves_3 ?_
    refine G_icmp_ge (pc := 5) (tgt := 31) (by decide) dX12_saves_5 (fun c11 => ?_) (fun c11 => ?_)
    · exact G_vret (pc := 31) (Nat.le_of_ble_eq_true rfl) (Nat.le_of_ble_eq_true rfl) rfl dX12_saves_31 ⟨rfl, by rw [show i = 65 from Int32.toInt_inj.mp (by have := Int32.le_iff_toInt_le.mp c11; have e1 : (65 : Int32).toInt = 65 := rfl; omega)]; rfl⟩
    · refine G_aload_n (pc := 8) rfl dX12_saves_8 ?_
      refine G_getR (pc := 9) (r := 76) (ci := 12) (j := 16) rfl lk_RX12_35 rfl rfl rfl dX12_saves_9 ?_
      refine G_bipush (pc := 12) (v := 65) (by decide) dX12_saves_12 ?_
      refine G_iload_n (pc := 14) rfl dX12_saves_14 ?_
      refine G_imul (pc := 15) (z := 260) (by decide) dX12_saves_15 ?_
      refine G_iload_n (pc := 16) rfl dX12_saves_16 ?_
      refine G_iadd (pc := 17) rfl dX12_saves_17 ?_
      refine G_aload_n (pc := 18) rfl dX12_saves_18 ?_
      refine G_getR (pc := 19) (r := 68) (ci := 12) (j := 0) rfl lk_RX12_9 rfl rfl rfl dX12_saves_19 ?_
      refine G_iload_n (pc := 22) rfl dX12_saves_22 ?_
      refine G_iald (pc := 23) (nn := 313) rfl rfl rfl (by have e := Int32.lt_iff_toInt_lt.mp (Int32.not_le.mp c11); have e1 : (65 : Int32).toInt = 65 := rfl; exact g_in (by omega) (by omega)) dX12_saves_23 ?_
      refine G_iast (pc := 24) (nn := 325) rfl rfl (by have e := Int32.lt_iff_toInt_lt.mp (Int32.not_le.mp c11); have e1 : (65 : Int32).toInt = 65 := rfl; have e4 : ((260 + i) : Int32).toInt = 260 + i.toInt := g_addc rfl (by omega) (by omega); exact g_in (by omega) (by omega)) dX12_saves_24 ?_
      refine G_iinc (pc := 25) (v := 1) (w := (i + 1)) (L1 := [some (.ref 67), some (.int 4), some (.int (i + 1))]) rfl rfl rfl (by decide) rfl (by decide) dX12_saves_25 ?_
      refine G_goto (pc := 28) (tgt := 2) (by decide) dX12_saves_28 ?_
      have e := Int32.lt_iff_toInt_lt.mp (Int32.not_le.mp c11)
      have e1 : (65 : Int32).toInt = 65 := rfl
      have e2 : (i + 1).toInt = i.toInt + 1 := g_inc (by omega)
      have e5 : (gup (gcp I 68 76 0 260 (i).toNatClampNeg) 76 ((260 + i)).toNatClampNeg ((gcp I 68 76 0 260 (i).toNatClampNeg) 68 (i).toNatClampNeg)) = gcp I 68 76 0 260 (i + 1).toNatClampNeg := by
        have n1 : (i + 1).toNatClampNeg = i.toNatClampNeg + 1 := by show (i + 1).toInt.toNat = i.toInt.toNat + 1; omega
        have n3 : ((260 + i) : Int32).toNatClampNeg = 260 + i.toNatClampNeg := by have e4 : ((260 + i) : Int32).toInt = 260 + i.toInt := g_addc rfl (by omega) (by omega); show ((260 + i) : Int32).toInt.toNat = 260 + i.toInt.toNat; omega
        rw [n1, n3]
        exact gcp_step (by decide) (by omega) (by omega)
      rw [e5]
      exact ih (i + 1) (by omega) (by omega) (by omega)
set_option maxRecDepth 100000 in
set_option maxHeartbeats 4000000 in
theorem saves_4 (d : Nat) (I : gI) : G d mX12_saves 0 0 0 0 0 (gent 3 [.ref 67, .int 4]) [] SH0 RF0 I (fun r h => r = none ∧ h = (SH0, RF0, gcp I 68 76 0 260 65)) := by
  have z : G d mX12_saves 0 0 0 0 0 (gent 3 [.ref 67, .int 4]) [] SH0 RF0 (gcp I 68 76 0 260 (0 : Int32).toNatClampNeg) (fun r h => r = none ∧ h = (SH0, RF0, gcp I 68 76 0 260 65)) := by
    refine G_iconst (pc := 0) (v := 0) (by decide) dX12_saves_0 ?_
    refine G_istore_n (pc := 1) (L1 := [some (.ref 67), some (.int 4), some (.int 0)]) rfl rfl (by decide) dX12_saves_1 ?_
    exact saves_4_l d I 66 0 (by decide) (by decide) (by decide)
  rw [show gcp I 68 76 0 260 (0 : Int32).toNatClampNeg = I from gcp_zero] at z
  exact z
set_option maxRecDepth 100000 in
set_option maxHeartbeats 4000000 in
theorem restores_4_l (d : Nat) (I : gI) (f : Nat) : ∀ (i : Int32), 0 ≤ i.toInt → i.toInt ≤ 65 → 65 - i.toInt < f → G d mX12_restores 0 0 0 0 2 [some (.ref 67), some (.int 4), some (.int i)] [] SH0 RF0 (gcp I 76 68 260 0 (i).toNatClampNeg) (fun r h => r = none ∧ h = (SH0, RF0, gcp I 76 68 260 0 65)) := by
  induction f with
  | zero => intro i h0 h1 hf; exfalso; omega
  | succ f ih =>
    intro i h0 h1 hf
    refine G_iload_n (pc := 2) rfl dX12_restores_2 ?_
    refine G_bipush (pc := 3) (v := 65) (by decide) dX12_restores_3 ?_
    refine G_icmp_ge (pc := 5) (tgt := 31) (by decide) dX12_restores_5 (fun c12 => ?_) (fun c12 => ?_)
    · exact G_vret (pc := 31) (Nat.le_of_ble_eq_true rfl) (Nat.le_of_ble_eq_true rfl) rfl dX12_restores_31 ⟨rfl, by rw [show i = 65 from Int32.toInt_inj.mp (by have := Int32.le_iff_toInt_le.mp c12; have e1 : (65 : Int32).toInt = 65 := rfl; omega)]; rfl⟩
    · refine G_aload_n (pc := 8) rfl dX12_restores_8 ?_
      refine G_getR (pc := 9) (r := 68) (ci := 12) (j := 0) rfl lk_RX12_9 rfl rfl rfl dX12_restores_9 ?_
      refine G_iload_n (pc := 12) rfl dX12_restores_12 ?_
      refine G_aload_n (pc := 13) rfl dX12_restores_13 ?_
      refine G_getR (pc := 14) (r := 76) (ci := 12) (j := 16) rfl lk_RX12_35 rfl rfl rfl dX12_restores_14 ?_
      refine G_bipush (pc := 17) (v := 65) (by decide) dX12_restores_17 ?_
      refine G_iload_n (pc := 19) rfl dX12_restores_19 ?_
      refine G_imul (pc := 20) (z := 260) (by decide) dX12_restores_20 ?_
      refine G_iload_n (pc := 21) rfl dX12_restores_21 ?_
      refine G_iadd (pc := 22) rfl dX12_restores_22 ?_
      refine G_iald (pc := 23) (nn := 325) rfl rfl rfl (by have e := Int32.lt_iff_toInt_lt.mp (Int32.not_le.mp c12); have e1 : (65 : Int32).toInt = 65 := rfl; have e4 : ((260 + i) : Int32).toInt = 260 + i.toInt := g_addc rfl (by omega) (by omega); exact g_in (by omega) (by omega)) dX12_restores_23 ?_
      refine G_iast (pc := 24) (nn := 313) rfl rfl (by have e := Int32.lt_iff_toInt_lt.mp (Int32.not_le.mp c12); have e1 : (65 : Int32).toInt = 65 := rfl; exact g_in (by omega) (by omega)) dX12_restores_24 ?_
      refine G_iinc (pc := 25) (v := 1) (w := (i + 1)) (L1 := [some (.ref 67), some (.int 4), some (.int (i + 1))]) rfl rfl rfl (by decide) rfl (by decide) dX12_restores_25 ?_
      refine G_goto (pc := 28) (tgt := 2) (by decide) dX12_restores_28 ?_
      have e := Int32.lt_iff_toInt_lt.mp (Int32.not_le.mp c12)
      have e1 : (65 : Int32).toInt = 65 := rfl
      have e2 : (i + 1).toInt = i.toInt + 1 := g_inc (by omega)
      have e5 : (gup (gcp I 76 68 260 0 (i).toNatClampNeg) 68 (i).toNatClampNeg ((gcp I 76 68 260 0 (i).toNatClampNeg) 76 ((260 + i)).toNatClampNeg)) = gcp I 76 68 260 0 (i + 1).toNatClampNeg := by
        have n1 : (i + 1).toNatClampNeg = i.toNatClampNeg + 1 := by show (i + 1).toInt.toNat = i.toInt.toNat + 1; omega
        have n3 : ((260 + i) : Int32).toNatClampNeg = 260 + i.toNatClampNeg := by have e4 : ((260 + i) : Int32).toInt = 260 + i.toInt := g_addc rfl (by omega) (by omega); show ((260 + i) : Int32).toInt.toNat = 260 + i.toInt.toNat; omega
        rw [n1, n3]
        exact gcp_step (by decide) (by omega) (by omega)
      rw [e5]
      exact ih (i + 1) (by omega) (by omega) (by omega)
set_option maxRecDepth 100000 in
set_option maxHeartbeats 4000000 in
theorem restores_4 (d : Nat) (I : gI) : G d mX12_restores 0 0 0 0 0 (gent 3 [.ref 67, .int 4]) [] SH0 RF0 I (fun r h => r = none ∧ h = (SH0, RF0, gcp I 76 68 260 0 65)) := by
  have z : G d mX12_restores 0 0 0 0 0 (gent 3 [.ref 67, .int 4]) [] SH0 RF0 (gcp I 76 68 260 0 (0 : Int32).toNatClampNeg) (fun r h => r = none ∧ h = (SH0, RF0, gcp I 76 68 260 0 65)) := by
    refine G_iconst (pc := 0) (v := 0) (by decide) dX12_restores_0 ?_
    refine G_istore_n (pc := 1) (L1 := [some (.ref 67), some (.int 4), some (.int 0)]) rfl rfl (by decide) dX12_restores_1 ?_
    exact restores_4_l d I 66 0 (by decide) (by decide) (by decide)
  rw [show gcp I 76 68 260 0 (0 : Int32).toNatClampNeg = I from gcp_zero] at z
  exact z
set_option maxRecDepth 100000 in
set_option maxHeartbeats 4000000 in
theorem s10001_X12_isDigit (J : gI) (d : Nat)  (a0 : Int32) : G (d + 1) mX12_isDigit 0 0 0 0 0 (gent 1 [.int a0]) [] SH0 RF0 (gmx J) (fun r h => r = some (.int (gB (0 ≤ a0 ∧ a0 ≤ 9))) ∧ h = (SH0, RF0, (gmx J))) := by
  refine G_iload_n (pc := 0) rfl dX12_isDigit_0 ?_
  refine G_iconst (pc := 1) (v := 0) (by decide) dX12_isDigit_1 ?_
  refine G_bipush (pc := 2) (v := 9) (by decide) dX12_isDigit_2 ?_
  refine G_callS (pc := 4) (mc1 := 0) (ms1 := 0) (mj := mX12_in1) (vs := [_, _, _]) dX12_isDigit_4 cm_X12_in1 wh_0 wh_3 rfl (Nat.le_of_ble_eq_true rfl) (Nat.le_of_ble_eq_true rfl) (Nat.le_of_ble_eq_true rfl) (Nat.le_of_ble_eq_true rfl) (in1_s d a0 0 9) ?_
  rintro _ _ ⟨rfl, rfl⟩
  dsimp only [Option.toList, List.cons_append, List.nil_append]
  exact G_zret (pc := 7) (Nat.le_of_ble_eq_true rfl) (Nat.le_of_ble_eq_true rfl) rfl gB_01 dX12_isDigit_7 ⟨rfl, rfl⟩
set_option maxRecDepth 100000 in
set_option maxHeartbeats 4000000 in
theorem s10002_X12_isGate (J : gI) (d : Nat)  (a0 : Int32) : G (d + 1) mX12_isGate 0 0 0 0 0 (gent 1 [.int a0]) [] SH0 RF0 (gmx J) (fun r h => r = some (.int (gB (0 ≤ a0 ∧ a0 ≤ 5))) ∧ h = (SH0, RF0, (gmx J))) := by
  refine G_iload_n (pc := 0) rfl dX12_isGate_0 ?_
  refine G_iconst (pc := 1) (v := 0) (by decide) dX12_isGate_1 ?_
  refine G_iconst (pc := 2) (v := 5) (by decide) dX12_isGate_2 ?_
  refine G_callS (pc := 3) (mc1 := 0) (ms1 := 0) (mj := mX12_in1) (vs := [_, _, _]) dX12_isGate_3 cm_X12_in1 wh_0 wh_3 rfl (Nat.le_of_ble_eq_true rfl) (Nat.le_of_ble_eq_true rfl) (Nat.le_of_ble_eq_true rfl) (Nat.le_of_ble_eq_true rfl) (in1_s d a0 0 5) ?_
  rintro _ _ ⟨rfl, rfl⟩
  dsimp only [Option.toList, List.cons_append, List.nil_append]
  exact G_zret (pc := 6) (Nat.le_of_ble_eq_true rfl) (Nat.le_of_ble_eq_true rfl) rfl gB_01 dX12_isGate_6 ⟨rfl, rfl⟩
set_option maxRecDepth 100000 in
set_option maxHeartbeats 4000000 in
theorem s10003_X12_puts (J : gI) (d : Nat)  (a0 : Int32) : G (d) mX12_puts 0 0 0 0 0 (gent 4 [.ref 67, .int 0, .int 0, .int a0]) [] SH0 RF0 (gmx J) (fun r h => r = none ∧ h = (SH0, RF0, (gup (gmx J) 68 35 a0))) := by
  refine G_aload_n (pc := 0) rfl dX12_puts_0 ?_
  refine G_getR (pc := 1) (r := 68) (ci := 12) (j := 0) rfl lk_RX12_9 rfl rfl rfl dX12_puts_1 ?_
  refine G_bipush (pc := 4) (v := 35) (by decide) dX12_puts_4 ?_
  refine G_iconst (pc := 6) (v := 5) (by decide) dX12_puts_6 ?_
  refine G_iload_n (pc := 7) rfl dX12_puts_7 ?_
  refine G_imul (pc := 8) (z := 0) (by decide) dX12_puts_8 ?_
  refine G_iadd (pc := 9) (z := 35) (by decide) dX12_puts_9 ?_
  refine G_iload_n (pc := 10) rfl dX12_puts_10 ?_
  refine G_iadd (pc := 11) (z := 35) (by decide) dX12_puts_11 ?_
  refine G_iload_n (pc := 12) rfl dX12_puts_12 ?_
  refine G_iast (pc := 13) (jj := 35) (by decide) rfl (by unfold vp_in; decide) dX12_puts_13 ?_
  exact G_vret (pc := 14) (Nat.le_of_ble_eq_true rfl) (Nat.le_of_ble_eq_true rfl) rfl dX12_puts_14 ⟨rfl, rfl⟩
set_option maxRecDepth 100000 in
set_option maxHeartbeats 4000000 in
theorem s10004_X12_puts (J : gI) (d : Nat)  (a0 : Int32) (w0 : Int32) : G (d) mX12_puts 0 0 0 0 0 (gent 4 [.ref 67, .int 0, .int 1, .int a0]) [] SH0 RF0 (gup (gmx J) 68 35 w0) (fun r h => r = none ∧ h = (SH0, RF0, (gup (gup (gmx J) 68 35 w0) 68 36 a0))) := by
  refine G_aload_n (pc := 0) rfl dX12_puts_0 ?_
  refine G_getR (pc := 1) (r := 68) (ci := 12) (j := 0) rfl lk_RX12_9 rfl rfl rfl dX12_puts_1 ?_
  refine G_bipush (pc := 4) (v := 35) (by decide) dX12_puts_4 ?_
  refine G_iconst (pc := 6) (v := 5) (by decide) dX12_puts_6 ?_
  refine G_iload_n (pc := 7) rfl dX12_puts_7 ?_
  refine G_imul (pc := 8) (z := 0) (by decide) dX12_puts_8 ?_
  refine G_iadd (pc := 9) (z := 35) (by decide) dX12_puts_9 ?_
  refine G_iload_n (pc := 10) rfl dX12_puts_10 ?_
  refine G_iadd (pc := 11) (z := 36) (by decide) dX12_puts_11 ?_
  refine G_iload_n (pc := 12) rfl dX12_puts_12 ?_
  refine G_iast (pc := 13) (jj := 36) (by decide) rfl (by unfold vp_in; decide) dX12_puts_13 ?_
  exact G_vret (pc := 14) (Nat.le_of_ble_eq_true rfl) (Nat.le_of_ble_eq_true rfl) rfl dX12_puts_14 ⟨rfl, rfl⟩
set_option maxRecDepth 100000 in
set_option maxHeartbeats 4000000 in
theorem s10005_X12_puts (J : gI) (d : Nat)  (a0 : Int32) (w0 : Int32) (w1 : Int32) : G (d) mX12_puts 0 0 0 0 0 (gent 4 [.ref 67, .int 0, .int 2, .int a0]) [] SH0 RF0 (gup (gup (gmx J) 68 35 w0) 68 36 w1) (fun r h => r = none ∧ h = (SH0, RF0, (gup (gup (gup (gmx J) 68 35 w0) 68 36 w1) 68 37 a0))) := by
  refine G_aload_n (pc := 0) rfl dX12_puts_0 ?_
  refine G_getR (pc := 1) (r := 68) (ci := 12) (j := 0) rfl lk_RX12_9 rfl rfl rfl dX12_puts_1 ?_
  refine G_bipush (pc := 4) (v := 35) (by decide) dX12_puts_4 ?_
  refine G_iconst (pc := 6) (v := 5) (by decide) dX12_puts_6 ?_
  refine G_iload_n (pc := 7) rfl dX12_puts_7 ?_
  refine G_imul (pc := 8) (z := 0) (by decide) dX12_puts_8 ?_
  refine G_iadd (pc := 9) (z := 35) (by decide) dX12_puts_9 ?_
  refine G_iload_n (pc := 10) rfl dX12_puts_10 ?_
  refine G_iadd (pc := 11) (z := 37) (by decide) dX12_puts_11 ?_
  refine G_iload_n (pc := 12) rfl dX12_puts_12 ?_
  refine G_iast (pc := 13) (jj := 37) (by decide) rfl (by unfold vp_in; decide) dX12_puts_13 ?_
  exact G_vret (pc := 14) (Nat.le_of_ble_eq_true rfl) (Nat.le_of_ble_eq_true rfl) rfl dX12_puts_14 ⟨rfl, rfl⟩
set_option maxRecDepth 100000 in
set_option maxHeartbeats 4000000 in
theorem s10006_X12_puts (J : gI) (d : Nat)  (a0 : Int32) (w0 : Int32) (w1 : Int32) (w2 : Int32) : G (d) mX12_puts 0 0 0 0 0 (gent 4 [.ref 67, .int 0, .int 3, .int a0]) [] SH0 RF0 (gup (gup (gup (gmx J) 68 35 w0) 68 36 w1) 68 37 w2) (fun r h => r = none ∧ h = (SH0, RF0, (gup (gup (gup (gup (gmx J) 68 35 w0) 68 36 w1) 68 37 w2) 68 38 a0))) := by
  refine G_aload_n (pc := 0) rfl dX12_puts_0 ?_
  refine G_getR (pc := 1) (r := 68) (ci := 12) (j := 0) rfl lk_RX12_9 rfl rfl rfl dX12_puts_1 ?_
  refine G_bipush (pc := 4) (v := 35) (by decide) dX12_puts_4 ?_
  refine G_iconst (pc := 6) (v := 5) (by decide) dX12_puts_6 ?_
  refine G_iload_n (pc := 7) rfl dX12_puts_7 ?_
  refine G_imul (pc := 8) (z := 0) (by decide) dX12_puts_8 ?_
  refine G_iadd (pc := 9) (z := 35) (by decide) dX12_puts_9 ?_
  refine G_iload_n (pc := 10) rfl dX12_puts_10 ?_
  refine G_iadd (pc := 11) (z := 38) (by decide) dX12_puts_11 ?_
  refine G_iload_n (pc := 12) rfl dX12_puts_12 ?_
  refine G_iast (pc := 13) (jj := 38) (by decide) rfl (by unfold vp_in; decide) dX12_puts_13 ?_
  exact G_vret (pc := 14) (Nat.le_of_ble_eq_true rfl) (Nat.le_of_ble_eq_true rfl) rfl dX12_puts_14 ⟨rfl, rfl⟩
set_option maxRecDepth 100000 in
set_option maxHeartbeats 4000000 in
theorem s10007_X12_puts (J : gI) (d : Nat)   (w0 : Int32) (w1 : Int32) (w2 : Int32) (w3 : Int32) : G (d) mX12_puts 0 0 0 0 0 (gent 4 [.ref 67, .int 0, .int 4, .int 0]) [] SH0 RF0 (gup (gup (gup (gup (gmx J) 68 35 w0) 68 36 w1) 68 37 w2) 68 38 w3) (fun r h => r = none ∧ h = (SH0, RF0, (gup (gup (gup (gup (gup (gmx J) 68 35 w0) 68 36 w1) 68 37 w2) 68 38 w3) 68 39 0))) := by
  refine G_aload_n (pc := 0) rfl dX12_puts_0 ?_
  refine G_getR (pc := 1) (r := 68) (ci := 12) (j := 0) rfl lk_RX12_9 rfl rfl rfl dX12_puts_1 ?_
  refine G_bipush (pc := 4) (v := 35) (by decide) dX12_puts_4 ?_
  refine G_iconst (pc := 6) (v := 5) (by decide) dX12_puts_6 ?_
  refine G_iload_n (pc := 7) rfl dX12_puts_7 ?_
  refine G_imul (pc := 8) (z := 0) (by decide) dX12_puts_8 ?_
  refine G_iadd (pc := 9) (z := 35) (by decide) dX12_puts_9 ?_
  refine G_iload_n (pc := 10) rfl dX12_puts_10 ?_
  refine G_iadd (pc := 11) (z := 39) (by decide) dX12_puts_11 ?_
  refine G_iload_n (pc := 12) rfl dX12_puts_12 ?_
  refine G_iast (pc := 13) (jj := 39) (by decide) rfl (by unfold vp_in; decide) dX12_puts_13 ?_
  exact G_vret (pc := 14) (Nat.le_of_ble_eq_true rfl) (Nat.le_of_ble_eq_true rfl) rfl dX12_puts_14 ⟨rfl, rfl⟩
set_option maxRecDepth 100000 in
set_option maxHeartbeats 4000000 in
theorem z_key (J : gI) (d : Nat) (kind : Int32) (teeth : Int32) (straw : Int32) (gate : Int32) : G (d + 2) mX12_key 0 0 0 0 0 (gent 6 [.ref 67, .int kind, .int teeth, .int straw, .int gate]) [] SH0 RF0 (gmx J) (fun r _ => r = some (.int (F_key kind teeth straw gate))) := by
  refine G_iload_n (pc := 0) rfl dX12_key_0 ?_
  refine G_iconst (pc := 1) (v := 1) (by decide) dX12_key_1 ?_
  refine G_iconst (pc := 2) (v := 5) (by decide) dX12_key_2 ?_
  refine G_callS (pc := 3) (mc1 := 0) (ms1 := 0) (mj := mX12_in1) (vs := [_, _, _]) dX12_key_3 cm_X12_in1 wh_0 wh_3 rfl (Nat.le_of_ble_eq_true rfl) (Nat.le_of_ble_eq_true rfl) (Nat.le_of_ble_eq_true rfl) (Nat.le_of_ble_eq_true rfl) (in1_s (d + 1) kind 1 5) ?_
  rintro _ _ ⟨rfl, rfl⟩
  dsimp only [Option.toList, List.cons_append, List.nil_append]
  refine G_if_eq (pc := 6) (tgt := 34) (by decide) dX12_key_6 (fun c13 => ?_) (fun c13 => ?_)
  · have c13 := gB_z c13
    refine G_iconst (pc := 34) (v := (-1)) (by decide) dX12_key_34 ?_
    exact G_iret (pc := 35) (Nat.le_of_ble_eq_true rfl) (Nat.le_of_ble_eq_true rfl) rfl dX12_key_35 (by first | rfl | (simp [F_key, *]; done) | (have : ¬ (1 ≤ (kind).toInt ∧ (kind).toInt ≤ 5) := fun z => c13 ⟨Int32.le_iff_toInt_le.mpr z.1, Int32.le_iff_toInt_le.mpr z.2⟩; simp only [F_key, Int32.le_iff_toInt_le, Int32.lt_iff_toInt_lt, ← Int32.toInt_inj]; simp; omega) | (have : ¬ (1 ≤ (kind).toInt ∧ (kind).toInt ≤ 5) := fun z => c13 ⟨Int32.le_iff_toInt_le.mpr z.1, Int32.le_iff_toInt_le.mpr z.2⟩; simp only [F_key, Int32.le_iff_toInt_le, Int32.lt_iff_toInt_lt, ← Int32.toInt_inj]; split <;> first | rfl | (exfalso; simp at *; omega)) | (have : ¬ (1 ≤ (kind).toInt ∧ (kind).toInt ≤ 5) := fun z => c13 ⟨Int32.le_iff_toInt_le.mpr z.1, Int32.le_iff_toInt_le.mpr z.2⟩; unfold F_key; (repeat' split) <;> first | rfl | (exfalso; (try simp only [Int32.le_iff_toInt_le, Int32.lt_iff_toInt_lt, ← Int32.toInt_inj] at *); first | omega | (simp at *; done) | (simp at *; omega))))
  · have c13 := gB_o c13
    refine G_iload_n (pc := 9) rfl dX12_key_9 ?_
    refine G_iconst (pc := 10) (v := 0) (by decide) dX12_key_10 ?_
    refine G_bipush (pc := 11) (v := 99) (by decide) dX12_key_11 ?_
    refine G_callS (pc := 13) (mc1 := 0) (ms1 := 0) (mj := mX12_in1) (vs := [_, _, _]) dX12_key_13 cm_X12_in1 wh_0 wh_3 rfl (Nat.le_of_ble_eq_true rfl) (Nat.le_of_ble_eq_true rfl) (Nat.le_of_ble_eq_true rfl) (Nat.le_of_ble_eq_true rfl) (in1_s (d + 1) teeth 0 99) ?_
    rintro _ _ ⟨rfl, rfl⟩
    dsimp only [Option.toList, List.cons_append, List.nil_append]
    refine G_if_eq (pc := 16) (tgt := 34) (by decide) dX12_key_16 (fun c14 => ?_) (fun c14 => ?_)
    · have c14 := gB_z c14
      refine G_iconst (pc := 34) (v := (-1)) (by decide) dX12_key_34 ?_
      exact G_iret (pc := 35) (Nat.le_of_ble_eq_true rfl) (Nat.le_of_ble_eq_true rfl) rfl dX12_key_35 (by first | rfl | (simp [F_key, *]; done) | (have : 1 ≤ (kind).toInt := Int32.le_iff_toInt_le.mp (c13.1); have : (kind).toInt ≤ 5 := Int32.le_iff_toInt_le.mp (c13.2); have : ¬ (0 ≤ (teeth).toInt ∧ (teeth).toInt ≤ 99) := fun z => c14 ⟨Int32.le_iff_toInt_le.mpr z.1, Int32.le_iff_toInt_le.mpr z.2⟩; simp only [F_key, Int32.le_iff_toInt_le, Int32.lt_iff_toInt_lt, ← Int32.toInt_inj]; simp; omega) | (have : 1 ≤ (kind).toInt := Int32.le_iff_toInt_le.mp (c13.1); have : (kind).toInt ≤ 5 := Int32.le_iff_toInt_le.mp (c13.2); have : ¬ (0 ≤ (teeth).toInt ∧ (teeth).toInt ≤ 99) := fun z => c14 ⟨Int32.le_iff_toInt_le.mpr z.1, Int32.le_iff_toInt_le.mpr z.2⟩; simp only [F_key, Int32.le_iff_toInt_le, Int32.lt_iff_toInt_lt, ← Int32.toInt_inj]; split <;> first | rfl | (exfalso; simp at *; omega)) | (have : 1 ≤ (kind).toInt := Int32.le_iff_toInt_le.mp (c13.1); have : (kind).toInt ≤ 5 := Int32.le_iff_toInt_le.mp (c13.2); have : ¬ (0 ≤ (teeth).toInt ∧ (teeth).toInt ≤ 99) := fun z => c14 ⟨Int32.le_iff_toInt_le.mpr z.1, Int32.le_iff_toInt_le.mpr z.2⟩; unfold F_key; (repeat' split) <;> first | rfl | (exfalso; (try simp only [Int32.le_iff_toInt_le, Int32.lt_iff_toInt_lt, ← Int32.toInt_inj] at *); first | omega | (simp at *; done) | (simp at *; omega))))
    · have c14 := gB_o c14
      refine G_iload_n (pc := 19) rfl dX12_key_19 ?_
      refine G_callS (pc := 20) (mc1 := 0) (ms1 := 0) (mj := mX12_isDigit) (vs := [_]) dX12_key_20 cm_X12_isDigit wh_4 wh_6 rfl (Nat.le_of_ble_eq_true rfl) (Nat.le_of_ble_eq_true rfl) (Nat.le_of_ble_eq_true rfl) (Nat.le_of_ble_eq_true rfl) (s10001_X12_isDigit J d  _) ?_
      rintro _ _ ⟨rfl, rfl⟩
      dsimp only [Option.toList, List.cons_append, List.nil_append]
      refine G_if_eq (pc := 23) (tgt := 34) (by decide) dX12_key_23 (fun c15 => ?_) (fun c15 => ?_)
      · have c15 := gB_z c15
        refine G_iconst (pc := 34) (v := (-1)) (by decide) dX12_key_34 ?_
        exact G_iret (pc := 35) (Nat.le_of_ble_eq_true rfl) (Nat.le_of_ble_eq_true rfl) rfl dX12_key_35 (by first | rfl | (simp [F_key, *]; done) | (have : 1 ≤ (kind).toInt := Int32.le_iff_toInt_le.mp (c13.1); have : (kind).toInt ≤ 5 := Int32.le_iff_toInt_le.mp (c13.2); have : 0 ≤ (teeth).toInt := Int32.le_iff_toInt_le.mp (c14.1); have : (teeth).toInt ≤ 99 := Int32.le_iff_toInt_le.mp (c14.2); have : ¬ (0 ≤ (straw).toInt ∧ (straw).toInt ≤ 9) := fun z => c15 ⟨Int32.le_iff_toInt_le.mpr z.1, Int32.le_iff_toInt_le.mpr z.2⟩; simp only [F_key, Int32.le_iff_toInt_le, Int32.lt_iff_toInt_lt, ← Int32.toInt_inj]; simp; omega) | (have : 1 ≤ (kind).toInt := Int32.le_iff_toInt_le.mp (c13.1); have : (kind).toInt ≤ 5 := Int32.le_iff_toInt_le.mp (c13.2); have : 0 ≤ (teeth).toInt := Int32.le_iff_toInt_le.mp (c14.1); have : (teeth).toInt ≤ 99 := Int32.le_iff_toInt_le.mp (c14.2); have : ¬ (0 ≤ (straw).toInt ∧ (straw).toInt ≤ 9) := fun z => c15 ⟨Int32.le_iff_toInt_le.mpr z.1, Int32.le_iff_toInt_le.mpr z.2⟩; simp only [F_key, Int32.le_iff_toInt_le, Int32.lt_iff_toInt_lt, ← Int32.toInt_inj]; split <;> first | rfl | (exfalso; simp at *; omega)) | (have : 1 ≤ (kind).toInt := Int32.le_iff_toInt_le.mp (c13.1); have : (kind).toInt ≤ 5 := Int32.le_iff_toInt_le.mp (c13.2); have : 0 ≤ (teeth).toInt := Int32.le_iff_toInt_le.mp (c14.1); have : (teeth).toInt ≤ 99 := Int32.le_iff_toInt_le.mp (c14.2); have : ¬ (0 ≤ (straw).toInt ∧ (straw).toInt ≤ 9) := fun z => c15 ⟨Int32.le_iff_toInt_le.mpr z.1, Int32.le_iff_toInt_le.mpr z.2⟩; unfold F_key; (repeat' split) <;> first | rfl | (exfalso; (try simp only [Int32.le_iff_toInt_le, Int32.lt_iff_toInt_lt, ← Int32.toInt_inj] at *); first | omega | (simp at *; done) | (simp at *; omega))))
      · have c15 := gB_o c15
        refine G_iload (pc := 26) rfl dX12_key_26 ?_
        refine G_callS (pc := 28) (mc1 := 0) (ms1 := 0) (mj := mX12_isGate) (vs := [_]) dX12_key_28 cm_X12_isGate wh_7 wh_9 rfl (Nat.le_of_ble_eq_true rfl) (Nat.le_of_ble_eq_true rfl) (Nat.le_of_ble_eq_true rfl) (Nat.le_of_ble_eq_true rfl) (s10002_X12_isGate J d  _) ?_
        rintro _ _ ⟨rfl, rfl⟩
        dsimp only [Option.toList, List.cons_append, List.nil_append]
        refine G_if_ne (pc := 31) (tgt := 36) (by decide) dX12_key_31 (fun c16 => ?_) (fun c16 => ?_)
        · have c16 := gB_o c16
          refine G_aload_n (pc := 36) rfl dX12_key_36 ?_
          refine G_getR (pc := 37) (r := 68) (ci := 12) (j := 0) rfl lk_RX12_9 rfl rfl rfl dX12_key_37 ?_
          refine G_iconst (pc := 40) (v := 4) (by decide) dX12_key_40 ?_
          refine G_iald (pc := 41) (jj := 4) (v := 0) (by decide) rfl rfl (by unfold vp_in; decide) dX12_key_41 ?_
          refine G_bipush (pc := 42) (v := 6) (by decide) dX12_key_42 ?_
          refine G_icmp_ne (pc := 44) (tgt := 50) (by decide) dX12_key_44 (fun _ => ?_) (fun z => absurd z (by decide))
          refine G_aload_n (pc := 50) rfl dX12_key_50 ?_
          refine G_getR (pc := 51) (r := 68) (ci := 12) (j := 0) rfl lk_RX12_9 rfl rfl rfl dX12_key_51 ?_
          refine G_iconst (pc := 54) (v := 4) (by decide) dX12_key_54 ?_
          refine G_iald (pc := 55) (jj := 4) (v := 0) (by decide) rfl rfl (by unfold vp_in; decide) dX12_key_55 ?_
          refine G_istore (pc := 56) (L1 := [some (.ref 67), some (.int kind), some (.int teeth), some (.int straw), some (.int gate), some (.int 0)]) rfl rfl (by decide) dX12_key_56 ?_
          refine G_aload_n (pc := 58) rfl dX12_key_58 ?_
          refine G_iload (pc := 59) rfl dX12_key_59 ?_
          refine G_iconst (pc := 61) (v := 0) (by decide) dX12_key_61 ?_
          refine G_iload_n (pc := 62) rfl dX12_key_62 ?_
          refine G_callV (pc := 63) (mc1 := 0) (ms1 := 0) (ci := 12) (mj := mX12_puts) (vs := [_, _, _]) dX12_key_63 rfl rfl cm_X12_puts wh_10 wh_12 wh_13 rfl (Nat.le_of_ble_eq_true rfl) (Nat.le_of_ble_eq_true rfl) (Nat.le_of_ble_eq_true rfl) (Nat.le_of_ble_eq_true rfl) (s10003_X12_puts J (d + 1)  _) ?_
          rintro _ _ ⟨rfl, rfl⟩
          dsimp only [Option.toList, List.cons_append, List.nil_append]
          refine G_aload_n (pc := 66) rfl dX12_key_66 ?_
          refine G_iload (pc := 67) rfl dX12_key_67 ?_
          refine G_iconst (pc := 69) (v := 1) (by decide) dX12_key_69 ?_
          refine G_iload_n (pc := 70) rfl dX12_key_70 ?_
          refine G_callV (pc := 71) (mc1 := 0) (ms1 := 0) (ci := 12) (mj := mX12_puts) (vs := [_, _, _]) dX12_key_71 rfl rfl cm_X12_puts wh_10 wh_12 wh_13 rfl (Nat.le_of_ble_eq_true rfl) (Nat.le_of_ble_eq_true rfl) (Nat.le_of_ble_eq_true rfl) (Nat.le_of_ble_eq_true rfl) (s10004_X12_puts J (d + 1)  _ _) ?_
          rintro _ _ ⟨rfl, rfl⟩
          dsimp only [Option.toList, List.cons_append, List.nil_append]
          refine G_aload_n (pc := 74) rfl dX12_key_74 ?_
          refine G_iload (pc := 75) rfl dX12_key_75 ?_
          refine G_iconst (pc := 77) (v := 2) (by decide) dX12_key_77 ?_
          refine G_iload_n (pc := 78) rfl dX12_key_78 ?_
          refine G_callV (pc := 79) (mc1 := 0) (ms1 := 0) (ci := 12) (mj := mX12_puts) (vs := [_, _, _]) dX12_key_79 rfl rfl cm_X12_puts wh_10 wh_12 wh_13 rfl (Nat.le_of_ble_eq_true rfl) (Nat.le_of_ble_eq_true rfl) (Nat.le_of_ble_eq_true rfl) (Nat.le_of_ble_eq_true rfl) (s10005_X12_puts J (d + 1)  _ _ _) ?_
          rintro _ _ ⟨rfl, rfl⟩
          dsimp only [Option.toList, List.cons_append, List.nil_append]
          refine G_aload_n (pc := 82) rfl dX12_key_82 ?_
          refine G_iload (pc := 83) rfl dX12_key_83 ?_
          refine G_iconst (pc := 85) (v := 3) (by decide) dX12_key_85 ?_
          refine G_iload (pc := 86) rfl dX12_key_86 ?_
          refine G_callV (pc := 88) (mc1 := 0) (ms1 := 0) (ci := 12) (mj := mX12_puts) (vs := [_, _, _]) dX12_key_88 rfl rfl cm_X12_puts wh_10 wh_12 wh_13 rfl (Nat.le_of_ble_eq_true rfl) (Nat.le_of_ble_eq_true rfl) (Nat.le_of_ble_eq_true rfl) (Nat.le_of_ble_eq_true rfl) (s10006_X12_puts J (d + 1)  _ _ _ _) ?_
          rintro _ _ ⟨rfl, rfl⟩
          dsimp only [Option.toList, List.cons_append, List.nil_append]
          refine G_aload_n (pc := 91) rfl dX12_key_91 ?_
          refine G_iload (pc := 92) rfl dX12_key_92 ?_
          refine G_iconst (pc := 94) (v := 4) (by decide) dX12_key_94 ?_
          refine G_iconst (pc := 95) (v := 0) (by decide) dX12_key_95 ?_
          refine G_callV (pc := 96) (mc1 := 0) (ms1 := 0) (ci := 12) (mj := mX12_puts) (vs := [_, _, _]) dX12_key_96 rfl rfl cm_X12_puts wh_10 wh_12 wh_13 rfl (Nat.le_of_ble_eq_true rfl) (Nat.le_of_ble_eq_true rfl) (Nat.le_of_ble_eq_true rfl) (Nat.le_of_ble_eq_true rfl) (s10007_X12_puts J (d + 1)   _ _ _ _) ?_
          rintro _ _ ⟨rfl, rfl⟩
          dsimp only [Option.toList, List.cons_append, List.nil_append]
          refine G_aload_n (pc := 99) rfl dX12_key_99 ?_
          refine G_getR (pc := 100) (r := 68) (ci := 12) (j := 0) rfl lk_RX12_9 rfl rfl rfl dX12_key_100 ?_
          refine G_iconst (pc := 103) (v := 4) (by decide) dX12_key_103 ?_
          refine G_dup2 (pc := 104) rfl rfl dX12_key_104 ?_
          refine G_iald (pc := 105) (jj := 4) (v := 0) (by decide) rfl rfl (by unfold vp_in; decide) dX12_key_105 ?_
          refine G_iconst (pc := 106) (v := 1) (by decide) dX12_key_106 ?_
          refine G_iadd (pc := 107) (z := 1) (by decide) dX12_key_107 ?_
          refine G_iast (pc := 108) (jj := 4) (by decide) rfl (by unfold vp_in; decide) dX12_key_108 ?_
          refine G_iload (pc := 109) rfl dX12_key_109 ?_
          exact G_iret (pc := 111) (Nat.le_of_ble_eq_true rfl) (Nat.le_of_ble_eq_true rfl) rfl dX12_key_111 (by first | rfl | (simp [F_key, *]; done) | (have : 1 ≤ (kind).toInt := Int32.le_iff_toInt_le.mp (c13.1); have : (kind).toInt ≤ 5 := Int32.le_iff_toInt_le.mp (c13.2); have : 0 ≤ (teeth).toInt := Int32.le_iff_toInt_le.mp (c14.1); have : (teeth).toInt ≤ 99 := Int32.le_iff_toInt_le.mp (c14.2); have : 0 ≤ (straw).toInt := Int32.le_iff_toInt_le.mp (c15.1); have : (straw).toInt ≤ 9 := Int32.le_iff_toInt_le.mp (c15.2); have : 0 ≤ (gate).toInt := Int32.le_iff_toInt_le.mp (c16.1); have : (gate).toInt ≤ 5 := Int32.le_iff_toInt_le.mp (c16.2); simp only [F_key, Int32.le_iff_toInt_le, Int32.lt_iff_toInt_lt, ← Int32.toInt_inj]; simp; omega) | (have : 1 ≤ (kind).toInt := Int32.le_iff_toInt_le.mp (c13.1); have : (kind).toInt ≤ 5 := Int32.le_iff_toInt_le.mp (c13.2); have : 0 ≤ (teeth).toInt := Int32.le_iff_toInt_le.mp (c14.1); have : (teeth).toInt ≤ 99 := Int32.le_iff_toInt_le.mp (c14.2); have : 0 ≤ (straw).toInt := Int32.le_iff_toInt_le.mp (c15.1); have : (straw).toInt ≤ 9 := Int32.le_iff_toInt_le.mp (c15.2); have : 0 ≤ (gate).toInt := Int32.le_iff_toInt_le.mp (c16.1); have : (gate).toInt ≤ 5 := Int32.le_iff_toInt_le.mp (c16.2); simp only [F_key, Int32.le_iff_toInt_le, Int32.lt_iff_toInt_lt, ← Int32.toInt_inj]; split <;> first | rfl | (exfalso; simp at *; omega)) | (have : 1 ≤ (kind).toInt := Int32.le_iff_toInt_le.mp (c13.1); have : (kind).toInt ≤ 5 := Int32.le_iff_toInt_le.mp (c13.2); have : 0 ≤ (teeth).toInt := Int32.le_iff_toInt_le.mp (c14.1); have : (teeth).toInt ≤ 99 := Int32.le_iff_toInt_le.mp (c14.2); have : 0 ≤ (straw).toInt := Int32.le_iff_toInt_le.mp (c15.1); have : (straw).toInt ≤ 9 := Int32.le_iff_toInt_le.mp (c15.2); have : 0 ≤ (gate).toInt := Int32.le_iff_toInt_le.mp (c16.1); have : (gate).toInt ≤ 5 := Int32.le_iff_toInt_le.mp (c16.2); unfold F_key; (repeat' split) <;> first | rfl | (exfalso; (try simp only [Int32.le_iff_toInt_le, Int32.lt_iff_toInt_lt, ← Int32.toInt_inj] at *); first | omega | (simp at *; done) | (simp at *; omega))))
        · have c16 := gB_z c16
          refine G_iconst (pc := 34) (v := (-1)) (by decide) dX12_key_34 ?_
          exact G_iret (pc := 35) (Nat.le_of_ble_eq_true rfl) (Nat.le_of_ble_eq_true rfl) rfl dX12_key_35 (by first | rfl | (simp [F_key, *]; done) | (have : 1 ≤ (kind).toInt := Int32.le_iff_toInt_le.mp (c13.1); have : (kind).toInt ≤ 5 := Int32.le_iff_toInt_le.mp (c13.2); have : 0 ≤ (teeth).toInt := Int32.le_iff_toInt_le.mp (c14.1); have : (teeth).toInt ≤ 99 := Int32.le_iff_toInt_le.mp (c14.2); have : 0 ≤ (straw).toInt := Int32.le_iff_toInt_le.mp (c15.1); have : (straw).toInt ≤ 9 := Int32.le_iff_toInt_le.mp (c15.2); have : ¬ (0 ≤ (gate).toInt ∧ (gate).toInt ≤ 5) := fun z => c16 ⟨Int32.le_iff_toInt_le.mpr z.1, Int32.le_iff_toInt_le.mpr z.2⟩; simp only [F_key, Int32.le_iff_toInt_le, Int32.lt_iff_toInt_lt, ← Int32.toInt_inj]; simp; omega) | (have : 1 ≤ (kind).toInt := Int32.le_iff_toInt_le.mp (c13.1); have : (kind).toInt ≤ 5 := Int32.le_iff_toInt_le.mp (c13.2); have : 0 ≤ (teeth).toInt := Int32.le_iff_toInt_le.mp (c14.1); have : (teeth).toInt ≤ 99 := Int32.le_iff_toInt_le.mp (c14.2); have : 0 ≤ (straw).toInt := Int32.le_iff_toInt_le.mp (c15.1); have : (straw).toInt ≤ 9 := Int32.le_iff_toInt_le.mp (c15.2); have : ¬ (0 ≤ (gate).toInt ∧ (gate).toInt ≤ 5) := fun z => c16 ⟨Int32.le_iff_toInt_le.mpr z.1, Int32.le_iff_toInt_le.mpr z.2⟩; simp only [F_key, Int32.le_iff_toInt_le, Int32.lt_iff_toInt_lt, ← Int32.toInt_inj]; split <;> first | rfl | (exfalso; simp at *; omega)) | (have : 1 ≤ (kind).toInt := Int32.le_iff_toInt_le.mp (c13.1); have : (kind).toInt ≤ 5 := Int32.le_iff_toInt_le.mp (c13.2); have : 0 ≤ (teeth).toInt := Int32.le_iff_toInt_le.mp (c14.1); have : (teeth).toInt ≤ 99 := Int32.le_iff_toInt_le.mp (c14.2); have : 0 ≤ (straw).toInt := Int32.le_iff_toInt_le.mp (c15.1); have : (straw).toInt ≤ 9 := Int32.le_iff_toInt_le.mp (c15.2); have : ¬ (0 ≤ (gate).toInt ∧ (gate).toInt ≤ 5) := fun z => c16 ⟨Int32.le_iff_toInt_le.mpr z.1, Int32.le_iff_toInt_le.mpr z.2⟩; unfold F_key; (repeat' split) <;> first | rfl | (exfalso; (try simp only [Int32.le_iff_toInt_le, Int32.lt_iff_toInt_lt, ← Int32.toInt_inj] at *); first | omega | (simp at *; done) | (simp at *; omega))))
set_option maxRecDepth 100000 in
set_option maxHeartbeats 4000000 in
theorem s10008_X12_isKey (J : gI) (d : Nat)  (a0 : Int32) : G (d + 1) mX12_isKey 0 0 0 0 0 (gent 2 [.ref 67, .int a0]) [] SH0 RF0 (gmx J) (fun r h => r = some (.int (gB (0 ≤ a0 ∧ a0 ≤ (-1)))) ∧ h = (SH0, RF0, (gmx J))) := by
  refine G_iload_n (pc := 0) rfl dX12_isKey_0 ?_
  refine G_iconst (pc := 1) (v := 0) (by decide) dX12_isKey_1 ?_
  refine G_aload_n (pc := 2) rfl dX12_isKey_2 ?_
  refine G_getR (pc := 3) (r := 68) (ci := 12) (j := 0) rfl lk_RX12_9 rfl rfl rfl dX12_isKey_3 ?_
  refine G_iconst (pc := 6) (v := 4) (by decide) dX12_isKey_6 ?_
  refine G_iald (pc := 7) (jj := 4) (v := 0) (by decide) rfl rfl (by unfold vp_in; decide) dX12_isKey_7 ?_
  refine G_iconst (pc := 8) (v := 1) (by decide) dX12_isKey_8 ?_
  refine G_isub (pc := 9) (z := (-1)) (by decide) dX12_isKey_9 ?_
  refine G_callS (pc := 10) (mc1 := 0) (ms1 := 0) (mj := mX12_in1) (vs := [_, _, _]) dX12_isKey_10 cm_X12_in1 wh_0 wh_3 rfl (Nat.le_of_ble_eq_true rfl) (Nat.le_of_ble_eq_true rfl) (Nat.le_of_ble_eq_true rfl) (Nat.le_of_ble_eq_true rfl) (in1_s d a0 0 ((-1))) ?_
  rintro _ _ ⟨rfl, rfl⟩
  dsimp only [Option.toList, List.cons_append, List.nil_append]
  exact G_zret (pc := 13) (Nat.le_of_ble_eq_true rfl) (Nat.le_of_ble_eq_true rfl) rfl gB_01 dX12_isKey_13 ⟨rfl, rfl⟩
set_option maxRecDepth 100000 in
set_option maxHeartbeats 4000000 in
theorem z_keyOf (J : gI) (d : Nat) (k : Int32) (what : Int32) : G (d + 2) mX12_keyOf 0 0 0 0 0 (gent 3 [.ref 67, .int k, .int what]) [] SH0 RF0 (gmx J) (fun r _ => r = some (.int (F_keyOf k what))) := by
  refine G_aload_n (pc := 0) rfl dX12_keyOf_0 ?_
  refine G_iload_n (pc := 1) rfl dX12_keyOf_1 ?_
  refine G_callV (pc := 2) (mc1 := 0) (ms1 := 0) (ci := 12) (mj := mX12_isKey) (vs := [_]) dX12_keyOf_2 rfl rfl cm_X12_isKey wh_14 wh_16 wh_17 rfl (Nat.le_of_ble_eq_true rfl) (Nat.le_of_ble_eq_true rfl) (Nat.le_of_ble_eq_true rfl) (Nat.le_of_ble_eq_true rfl) (s10008_X12_isKey J d  _) ?_
  rintro _ _ ⟨rfl, rfl⟩
  dsimp only [Option.toList, List.cons_append, List.nil_append]
  refine G_if_eq (pc := 5) (tgt := 18) (by decide) dX12_keyOf_5 (fun c17 => ?_) (fun c17 => ?_)
  · have c17 := gB_z c17
    refine G_iconst (pc := 18) (v := (-1)) (by decide) dX12_keyOf_18 ?_
    exact G_iret (pc := 19) (Nat.le_of_ble_eq_true rfl) (Nat.le_of_ble_eq_true rfl) rfl dX12_keyOf_19 (by first | rfl | (simp [F_keyOf, *]; done) | (have : ¬ (0 ≤ (k).toInt ∧ (k).toInt ≤ -1) := fun z => c17 ⟨Int32.le_iff_toInt_le.mpr z.1, Int32.le_iff_toInt_le.mpr z.2⟩; simp only [F_keyOf, Int32.le_iff_toInt_le, Int32.lt_iff_toInt_lt, ← Int32.toInt_inj]; simp; omega) | (have : ¬ (0 ≤ (k).toInt ∧ (k).toInt ≤ -1) := fun z => c17 ⟨Int32.le_iff_toInt_le.mpr z.1, Int32.le_iff_toInt_le.mpr z.2⟩; simp only [F_keyOf, Int32.le_iff_toInt_le, Int32.lt_iff_toInt_lt, ← Int32.toInt_inj]; split <;> first | rfl | (exfalso; simp at *; omega)) | (have : ¬ (0 ≤ (k).toInt ∧ (k).toInt ≤ -1) := fun z => c17 ⟨Int32.le_iff_toInt_le.mpr z.1, Int32.le_iff_toInt_le.mpr z.2⟩; unfold F_keyOf; (repeat' split) <;> first | rfl | (exfalso; (try simp only [Int32.le_iff_toInt_le, Int32.lt_iff_toInt_lt, ← Int32.toInt_inj] at *); first | omega | (simp at *; done) | (simp at *; omega))))
  · have c17 := gB_o c17
    exfalso; have : 0 ≤ (k).toInt := Int32.le_iff_toInt_le.mp (c17.1); have : (k).toInt ≤ -1 := Int32.le_iff_toInt_le.mp (c17.2); omega
set_option maxRecDepth 100000 in
set_option maxHeartbeats 4000000 in
theorem z_change (J : gI) (d : Nat) (k : Int32) (what : Int32) (v : Int32) : G (d + 2) mX12_change 0 0 0 0 0 (gent 5 [.ref 67, .int k, .int what, .int v]) [] SH0 RF0 (gmx J) (fun r _ => r = some (.int (F_change k what v))) := by
  refine G_iload_n (pc := 0) rfl dX12_change_0 ?_
  refine G_iconst (pc := 1) (v := 1) (by decide) dX12_change_1 ?_
  refine G_icmp_ne (pc := 2) (tgt := 10) (by decide) dX12_change_2 (fun c18 => ?_) (fun c18 => ?_)
  · refine G_iload_n (pc := 10) rfl dX12_change_10 ?_
    refine G_iconst (pc := 11) (v := 3) (by decide) dX12_change_11 ?_
    refine G_icmp_ne (pc := 12) (tgt := 19) (by decide) dX12_change_12 (fun c19 => ?_) (fun c19 => ?_)
    · refine G_iload_n (pc := 19) rfl dX12_change_19 ?_
      refine G_iconst (pc := 20) (v := 4) (by decide) dX12_change_20 ?_
      refine G_icmp_ne (pc := 21) (tgt := 28) (by decide) dX12_change_21 (fun c20 => ?_) (fun c20 => ?_)
      · refine G_bipush (pc := 28) (v := 9) (by decide) dX12_change_28 ?_
        refine G_istore (pc := 30) (L1 := [some (.ref 67), some (.int k), some (.int what), some (.int v), some (.int 9)]) rfl rfl (by decide) dX12_change_30 ?_
        refine G_aload_n (pc := 32) rfl dX12_change_32 ?_
        refine G_iload_n (pc := 33) rfl dX12_change_33 ?_
        refine G_callV (pc := 34) (mc1 := 0) (ms1 := 0) (ci := 12) (mj := mX12_isKey) (vs := [_]) dX12_change_34 rfl rfl cm_X12_isKey wh_14 wh_16 wh_17 rfl (Nat.le_of_ble_eq_true rfl) (Nat.le_of_ble_eq_true rfl) (Nat.le_of_ble_eq_true rfl) (Nat.le_of_ble_eq_true rfl) (s10008_X12_isKey J d  _) ?_
        rintro _ _ ⟨rfl, rfl⟩
        dsimp only [Option.toList, List.cons_append, List.nil_append]
        refine G_if_eq (pc := 37) (tgt := 75) (by decide) dX12_change_37 (fun c21 => ?_) (fun c21 => ?_)
        · have c21 := gB_z c21
          refine G_iconst (pc := 75) (v := (-1)) (by decide) dX12_change_75 ?_
          exact G_iret (pc := 76) (Nat.le_of_ble_eq_true rfl) (Nat.le_of_ble_eq_true rfl) rfl dX12_change_76 (by first | rfl | (simp [F_change, *]; done) | (have : ¬ (0 ≤ (k).toInt ∧ (k).toInt ≤ -1) := fun z => c21 ⟨Int32.le_iff_toInt_le.mpr z.1, Int32.le_iff_toInt_le.mpr z.2⟩; have : (what).toInt ≠ 1 := g_ne (c18); have : (what).toInt ≠ 3 := g_ne (c19); have : (what).toInt ≠ 4 := g_ne (c20); simp only [F_change, Int32.le_iff_toInt_le, Int32.lt_iff_toInt_lt, ← Int32.toInt_inj]; simp; omega) | (have : ¬ (0 ≤ (k).toInt ∧ (k).toInt ≤ -1) := fun z => c21 ⟨Int32.le_iff_toInt_le.mpr z.1, Int32.le_iff_toInt_le.mpr z.2⟩; have : (what).toInt ≠ 1 := g_ne (c18); have : (what).toInt ≠ 3 := g_ne (c19); have : (what).toInt ≠ 4 := g_ne (c20); simp only [F_change, Int32.le_iff_toInt_le, Int32.lt_iff_toInt_lt, ← Int32.toInt_inj]; split <;> first | rfl | (exfalso; simp at *; omega)) | (have : ¬ (0 ≤ (k).toInt ∧ (k).toInt ≤ -1) := fun z => c21 ⟨Int32.le_iff_toInt_le.mpr z.1, Int32.le_iff_toInt_le.mpr z.2⟩; have : (what).toInt ≠ 1 := g_ne (c18); have : (what).toInt ≠ 3 := g_ne (c19); have : (what).toInt ≠ 4 := g_ne (c20); unfold F_change; (repeat' split) <;> first | rfl | (exfalso; (try simp only [Int32.le_iff_toInt_le, Int32.lt_iff_toInt_lt, ← Int32.toInt_inj] at *); first | omega | (simp at *; done) | (simp at *; omega))))
        · have c21 := gB_o c21
          exfalso; have : 0 ≤ (k).toInt := Int32.le_iff_toInt_le.mp (c21.1); have : (k).toInt ≤ -1 := Int32.le_iff_toInt_le.mp (c21.2); omega
      · refine G_iconst (pc := 24) (v := 1) (by decide) dX12_change_24 ?_
        refine G_goto (pc := 25) (tgt := 30) (by decide) dX12_change_25 ?_
        refine G_istore (pc := 30) (L1 := [some (.ref 67), some (.int k), some (.int what), some (.int v), some (.int 1)]) rfl rfl (by decide) dX12_change_30 ?_
        refine G_aload_n (pc := 32) rfl dX12_change_32 ?_
        refine G_iload_n (pc := 33) rfl dX12_change_33 ?_
        refine G_callV (pc := 34) (mc1 := 0) (ms1 := 0) (ci := 12) (mj := mX12_isKey) (vs := [_]) dX12_change_34 rfl rfl cm_X12_isKey wh_14 wh_16 wh_17 rfl (Nat.le_of_ble_eq_true rfl) (Nat.le_of_ble_eq_true rfl) (Nat.le_of_ble_eq_true rfl) (Nat.le_of_ble_eq_true rfl) (s10008_X12_isKey J d  _) ?_
        rintro _ _ ⟨rfl, rfl⟩
        dsimp only [Option.toList, List.cons_append, List.nil_append]
        refine G_if_eq (pc := 37) (tgt := 75) (by decide) dX12_change_37 (fun c22 => ?_) (fun c22 => ?_)
        · have c22 := gB_z c22
          refine G_iconst (pc := 75) (v := (-1)) (by decide) dX12_change_75 ?_
          exact G_iret (pc := 76) (Nat.le_of_ble_eq_true rfl) (Nat.le_of_ble_eq_true rfl) rfl dX12_change_76 (by first | rfl | (simp [F_change, *]; done) | (have : ¬ (0 ≤ (k).toInt ∧ (k).toInt ≤ -1) := fun z => c22 ⟨Int32.le_iff_toInt_le.mpr z.1, Int32.le_iff_toInt_le.mpr z.2⟩; have : (what).toInt ≠ 1 := g_ne (c18); have : (what).toInt ≠ 3 := g_ne (c19); have : (what).toInt = 4 := congrArg Int32.toInt (c20); simp only [F_change, Int32.le_iff_toInt_le, Int32.lt_iff_toInt_lt, ← Int32.toInt_inj]; simp; omega) | (have : ¬ (0 ≤ (k).toInt ∧ (k).toInt ≤ -1) := fun z => c22 ⟨Int32.le_iff_toInt_le.mpr z.1, Int32.le_iff_toInt_le.mpr z.2⟩; have : (what).toInt ≠ 1 := g_ne (c18); have : (what).toInt ≠ 3 := g_ne (c19); have : (what).toInt = 4 := congrArg Int32.toInt (c20); simp only [F_change, Int32.le_iff_toInt_le, Int32.lt_iff_toInt_lt, ← Int32.toInt_inj]; split <;> first | rfl | (exfalso; simp at *; omega)) | (have : ¬ (0 ≤ (k).toInt ∧ (k).toInt ≤ -1) := fun z => c22 ⟨Int32.le_iff_toInt_le.mpr z.1, Int32.le_iff_toInt_le.mpr z.2⟩; have : (what).toInt ≠ 1 := g_ne (c18); have : (what).toInt ≠ 3 := g_ne (c19); have : (what).toInt = 4 := congrArg Int32.toInt (c20); unfold F_change; (repeat' split) <;> first | rfl | (exfalso; (try simp only [Int32.le_iff_toInt_le, Int32.lt_iff_toInt_lt, ← Int32.toInt_inj] at *); first | omega | (simp at *; done) | (simp at *; omega))))
        · have c22 := gB_o c22
          exfalso; have : 0 ≤ (k).toInt := Int32.le_iff_toInt_le.mp (c22.1); have : (k).toInt ≤ -1 := Int32.le_iff_toInt_le.mp (c22.2); omega
    · refine G_iconst (pc := 15) (v := 5) (by decide) dX12_change_15 ?_
      refine G_goto (pc := 16) (tgt := 30) (by decide) dX12_change_16 ?_
      refine G_istore (pc := 30) (L1 := [some (.ref 67), some (.int k), some (.int what), some (.int v), some (.int 5)]) rfl rfl (by decide) dX12_change_30 ?_
      refine G_aload_n (pc := 32) rfl dX12_change_32 ?_
      refine G_iload_n (pc := 33) rfl dX12_change_33 ?_
      refine G_callV (pc := 34) (mc1 := 0) (ms1 := 0) (ci := 12) (mj := mX12_isKey) (vs := [_]) dX12_change_34 rfl rfl cm_X12_isKey wh_14 wh_16 wh_17 rfl (Nat.le_of_ble_eq_true rfl) (Nat.le_of_ble_eq_true rfl) (Nat.le_of_ble_eq_true rfl) (Nat.le_of_ble_eq_true rfl) (s10008_X12_isKey J d  _) ?_
      rintro _ _ ⟨rfl, rfl⟩
      dsimp only [Option.toList, List.cons_append, List.nil_append]
      refine G_if_eq (pc := 37) (tgt := 75) (by decide) dX12_change_37 (fun c23 => ?_) (fun c23 => ?_)
      · have c23 := gB_z c23
        refine G_iconst (pc := 75) (v := (-1)) (by decide) dX12_change_75 ?_
        exact G_iret (pc := 76) (Nat.le_of_ble_eq_true rfl) (Nat.le_of_ble_eq_true rfl) rfl dX12_change_76 (by first | rfl | (simp [F_change, *]; done) | (have : ¬ (0 ≤ (k).toInt ∧ (k).toInt ≤ -1) := fun z => c23 ⟨Int32.le_iff_toInt_le.mpr z.1, Int32.le_iff_toInt_le.mpr z.2⟩; have : (what).toInt ≠ 1 := g_ne (c18); have : (what).toInt = 3 := congrArg Int32.toInt (c19); simp only [F_change, Int32.le_iff_toInt_le, Int32.lt_iff_toInt_lt, ← Int32.toInt_inj]; simp; omega) | (have : ¬ (0 ≤ (k).toInt ∧ (k).toInt ≤ -1) := fun z => c23 ⟨Int32.le_iff_toInt_le.mpr z.1, Int32.le_iff_toInt_le.mpr z.2⟩; have : (what).toInt ≠ 1 := g_ne (c18); have : (what).toInt = 3 := congrArg Int32.toInt (c19); simp only [F_change, Int32.le_iff_toInt_le, Int32.lt_iff_toInt_lt, ← Int32.toInt_inj]; split <;> first | rfl | (exfalso; simp at *; omega)) | (have : ¬ (0 ≤ (k).toInt ∧ (k).toInt ≤ -1) := fun z => c23 ⟨Int32.le_iff_toInt_le.mpr z.1, Int32.le_iff_toInt_le.mpr z.2⟩; have : (what).toInt ≠ 1 := g_ne (c18); have : (what).toInt = 3 := congrArg Int32.toInt (c19); unfold F_change; (repeat' split) <;> first | rfl | (exfalso; (try simp only [Int32.le_iff_toInt_le, Int32.lt_iff_toInt_lt, ← Int32.toInt_inj] at *); first | omega | (simp at *; done) | (simp at *; omega))))
      · have c23 := gB_o c23
        exfalso; have : 0 ≤ (k).toInt := Int32.le_iff_toInt_le.mp (c23.1); have : (k).toInt ≤ -1 := Int32.le_iff_toInt_le.mp (c23.2); omega
  · refine G_bipush (pc := 5) (v := 99) (by decide) dX12_change_5 ?_
    refine G_goto (pc := 7) (tgt := 30) (by decide) dX12_change_7 ?_
    refine G_istore (pc := 30) (L1 := [some (.ref 67), some (.int k), some (.int what), some (.int v), some (.int 99)]) rfl rfl (by decide) dX12_change_30 ?_
    refine G_aload_n (pc := 32) rfl dX12_change_32 ?_
    refine G_iload_n (pc := 33) rfl dX12_change_33 ?_
    refine G_callV (pc := 34) (mc1 := 0) (ms1 := 0) (ci := 12) (mj := mX12_isKey) (vs := [_]) dX12_change_34 rfl rfl cm_X12_isKey wh_14 wh_16 wh_17 rfl (Nat.le_of_ble_eq_true rfl) (Nat.le_of_ble_eq_true rfl) (Nat.le_of_ble_eq_true rfl) (Nat.le_of_ble_eq_true rfl) (s10008_X12_isKey J d  _) ?_
    rintro _ _ ⟨rfl, rfl⟩
    dsimp only [Option.toList, List.cons_append, List.nil_append]
    refine G_if_eq (pc := 37) (tgt := 75) (by decide) dX12_change_37 (fun c24 => ?_) (fun c24 => ?_)
    · have c24 := gB_z c24
      refine G_iconst (pc := 75) (v := (-1)) (by decide) dX12_change_75 ?_
      exact G_iret (pc := 76) (Nat.le_of_ble_eq_true rfl) (Nat.le_of_ble_eq_true rfl) rfl dX12_change_76 (by first | rfl | (simp [F_change, *]; done) | (have : ¬ (0 ≤ (k).toInt ∧ (k).toInt ≤ -1) := fun z => c24 ⟨Int32.le_iff_toInt_le.mpr z.1, Int32.le_iff_toInt_le.mpr z.2⟩; have : (what).toInt = 1 := congrArg Int32.toInt (c18); simp only [F_change, Int32.le_iff_toInt_le, Int32.lt_iff_toInt_lt, ← Int32.toInt_inj]; simp; omega) | (have : ¬ (0 ≤ (k).toInt ∧ (k).toInt ≤ -1) := fun z => c24 ⟨Int32.le_iff_toInt_le.mpr z.1, Int32.le_iff_toInt_le.mpr z.2⟩; have : (what).toInt = 1 := congrArg Int32.toInt (c18); simp only [F_change, Int32.le_iff_toInt_le, Int32.lt_iff_toInt_lt, ← Int32.toInt_inj]; split <;> first | rfl | (exfalso; simp at *; omega)) | (have : ¬ (0 ≤ (k).toInt ∧ (k).toInt ≤ -1) := fun z => c24 ⟨Int32.le_iff_toInt_le.mpr z.1, Int32.le_iff_toInt_le.mpr z.2⟩; have : (what).toInt = 1 := congrArg Int32.toInt (c18); unfold F_change; (repeat' split) <;> first | rfl | (exfalso; (try simp only [Int32.le_iff_toInt_le, Int32.lt_iff_toInt_lt, ← Int32.toInt_inj] at *); first | omega | (simp at *; done) | (simp at *; omega))))
    · have c24 := gB_o c24
      exfalso; have : 0 ≤ (k).toInt := Int32.le_iff_toInt_le.mp (c24.1); have : (k).toInt ≤ -1 := Int32.le_iff_toInt_le.mp (c24.2); omega
set_option maxRecDepth 100000 in
set_option maxHeartbeats 4000000 in
theorem z_remake (J : gI) (d : Nat) (k : Int32) (kind : Int32) : G (d + 2) mX12_remake 0 0 0 0 0 (gent 3 [.ref 67, .int k, .int kind]) [] SH0 RF0 (gmx J) (fun r _ => r = some (.int (F_remake k kind))) := by
  refine G_aload_n (pc := 0) rfl dX12_remake_0 ?_
  refine G_iload_n (pc := 1) rfl dX12_remake_1 ?_
  refine G_callV (pc := 2) (mc1 := 0) (ms1 := 0) (ci := 12) (mj := mX12_isKey) (vs := [_]) dX12_remake_2 rfl rfl cm_X12_isKey wh_14 wh_16 wh_17 rfl (Nat.le_of_ble_eq_true rfl) (Nat.le_of_ble_eq_true rfl) (Nat.le_of_ble_eq_true rfl) (Nat.le_of_ble_eq_true rfl) (s10008_X12_isKey J d  _) ?_
  rintro _ _ ⟨rfl, rfl⟩
  dsimp only [Option.toList, List.cons_append, List.nil_append]
  refine G_if_eq (pc := 5) (tgt := 31) (by decide) dX12_remake_5 (fun c25 => ?_) (fun c25 => ?_)
  · have c25 := gB_z c25
    refine G_iconst (pc := 31) (v := (-1)) (by decide) dX12_remake_31 ?_
    exact G_iret (pc := 32) (Nat.le_of_ble_eq_true rfl) (Nat.le_of_ble_eq_true rfl) rfl dX12_remake_32 (by first | rfl | (simp [F_remake, *]; done) | (have : ¬ (0 ≤ (k).toInt ∧ (k).toInt ≤ -1) := fun z => c25 ⟨Int32.le_iff_toInt_le.mpr z.1, Int32.le_iff_toInt_le.mpr z.2⟩; simp only [F_remake, Int32.le_iff_toInt_le, Int32.lt_iff_toInt_lt, ← Int32.toInt_inj]; simp; omega) | (have : ¬ (0 ≤ (k).toInt ∧ (k).toInt ≤ -1) := fun z => c25 ⟨Int32.le_iff_toInt_le.mpr z.1, Int32.le_iff_toInt_le.mpr z.2⟩; simp only [F_remake, Int32.le_iff_toInt_le, Int32.lt_iff_toInt_lt, ← Int32.toInt_inj]; split <;> first | rfl | (exfalso; simp at *; omega)) | (have : ¬ (0 ≤ (k).toInt ∧ (k).toInt ≤ -1) := fun z => c25 ⟨Int32.le_iff_toInt_le.mpr z.1, Int32.le_iff_toInt_le.mpr z.2⟩; unfold F_remake; (repeat' split) <;> first | rfl | (exfalso; (try simp only [Int32.le_iff_toInt_le, Int32.lt_iff_toInt_lt, ← Int32.toInt_inj] at *); first | omega | (simp at *; done) | (simp at *; omega))))
  · have c25 := gB_o c25
    exfalso; have : 0 ≤ (k).toInt := Int32.le_iff_toInt_le.mp (c25.1); have : (k).toInt ≤ -1 := Int32.le_iff_toInt_le.mp (c25.2); omega
set_option maxRecDepth 100000 in
set_option maxHeartbeats 4000000 in
theorem s10009_X12_becomes (J : gI) (d : Nat)  (a0 : Int32) : G (d) mX12_becomes 0 0 0 0 0 (gent 4 [.ref 67, .int 1, .int a0]) [] SH0 RF0 (gmx J) (fun r h => r = some (.int 12) ∧ h = (SH0, RF0, (gup (gmx J) 68 1 a0))) := by
  refine G_aload_n (pc := 0) rfl dX12_becomes_0 ?_
  refine G_getR (pc := 1) (r := 68) (ci := 12) (j := 0) rfl lk_RX12_9 rfl rfl rfl dX12_becomes_1 ?_
  refine G_iload_n (pc := 4) rfl dX12_becomes_4 ?_
  refine G_iald (pc := 5) (jj := 1) (v := 12) (by decide) rfl rfl (by unfold vp_in; decide) dX12_becomes_5 ?_
  refine G_istore_n (pc := 6) (L1 := [some (.ref 67), some (.int 1), some (.int a0), some (.int 12)]) rfl rfl (by decide) dX12_becomes_6 ?_
  refine G_aload_n (pc := 7) rfl dX12_becomes_7 ?_
  refine G_getR (pc := 8) (r := 68) (ci := 12) (j := 0) rfl lk_RX12_9 rfl rfl rfl dX12_becomes_8 ?_
  refine G_iload_n (pc := 11) rfl dX12_becomes_11 ?_
  refine G_iload_n (pc := 12) rfl dX12_becomes_12 ?_
  refine G_iast (pc := 13) (jj := 1) (by decide) rfl (by unfold vp_in; decide) dX12_becomes_13 ?_
  refine G_iload_n (pc := 14) rfl dX12_becomes_14 ?_
  exact G_iret (pc := 15) (Nat.le_of_ble_eq_true rfl) (Nat.le_of_ble_eq_true rfl) rfl dX12_becomes_15 ⟨rfl, rfl⟩
set_option maxRecDepth 100000 in
set_option maxHeartbeats 4000000 in
theorem z_ends (J : gI) (d : Nat) (v : Int32) : G (d + 1) mX12_ends 0 0 0 0 0 (gent 2 [.ref 67, .int v]) [] SH0 RF0 (gmx J) (fun r _ => r = some (.int (F_ends v))) := by
  refine G_iload_n (pc := 0) rfl dX12_ends_0 ?_
  refine G_iconst (pc := 1) (v := 1) (by decide) dX12_ends_1 ?_
  refine G_bipush (pc := 2) (v := 16) (by decide) dX12_ends_2 ?_
  refine G_callS (pc := 4) (mc1 := 0) (ms1 := 0) (mj := mX12_in1) (vs := [_, _, _]) dX12_ends_4 cm_X12_in1 wh_0 wh_3 rfl (Nat.le_of_ble_eq_true rfl) (Nat.le_of_ble_eq_true rfl) (Nat.le_of_ble_eq_true rfl) (Nat.le_of_ble_eq_true rfl) (in1_s d v 1 16) ?_
  rintro _ _ ⟨rfl, rfl⟩
  dsimp only [Option.toList, List.cons_append, List.nil_append]
  refine G_if_ne (pc := 7) (tgt := 14) (by decide) dX12_ends_7 (fun c26 => ?_) (fun c26 => ?_)
  · have c26 := gB_o c26
    refine G_iload_n (pc := 14) rfl dX12_ends_14 ?_
    refine G_aload_n (pc := 15) rfl dX12_ends_15 ?_
    refine G_getR (pc := 16) (r := 68) (ci := 12) (j := 0) rfl lk_RX12_9 rfl rfl rfl dX12_ends_16 ?_
    refine G_iconst (pc := 19) (v := 0) (by decide) dX12_ends_19 ?_
    refine G_iald (pc := 20) (jj := 0) (v := 0) (by decide) rfl rfl (by unfold vp_in; decide) dX12_ends_20 ?_
    refine G_icmp_ge (pc := 21) (tgt := 29) (by decide) dX12_ends_21 (fun c27 => ?_) (fun c27 => ?_)
    · refine G_aload_n (pc := 29) rfl dX12_ends_29 ?_
      refine G_iconst (pc := 30) (v := 1) (by decide) dX12_ends_30 ?_
      refine G_iload_n (pc := 31) rfl dX12_ends_31 ?_
      refine G_callV (pc := 32) (mc1 := 0) (ms1 := 0) (ci := 12) (mj := mX12_becomes) (vs := [_, _]) dX12_ends_32 rfl rfl cm_X12_becomes wh_18 wh_20 wh_21 rfl (Nat.le_of_ble_eq_true rfl) (Nat.le_of_ble_eq_true rfl) (Nat.le_of_ble_eq_true rfl) (Nat.le_of_ble_eq_true rfl) (s10009_X12_becomes J d  _) ?_
      rintro _ _ ⟨rfl, rfl⟩
      dsimp only [Option.toList, List.cons_append, List.nil_append]
      exact G_iret (pc := 35) (Nat.le_of_ble_eq_true rfl) (Nat.le_of_ble_eq_true rfl) rfl dX12_ends_35 (by first | rfl | (simp [F_ends, *]; done) | (have : 1 ≤ (v).toInt := Int32.le_iff_toInt_le.mp (c26.1); have : (v).toInt ≤ 16 := Int32.le_iff_toInt_le.mp (c26.2); have : 0 ≤ (v).toInt := Int32.le_iff_toInt_le.mp (c27); simp only [F_ends, Int32.le_iff_toInt_le, Int32.lt_iff_toInt_lt, ← Int32.toInt_inj]; simp; omega) | (have : 1 ≤ (v).toInt := Int32.le_iff_toInt_le.mp (c26.1); have : (v).toInt ≤ 16 := Int32.le_iff_toInt_le.mp (c26.2); have : 0 ≤ (v).toInt := Int32.le_iff_toInt_le.mp (c27); simp only [F_ends, Int32.le_iff_toInt_le, Int32.lt_iff_toInt_lt, ← Int32.toInt_inj]; split <;> first | rfl | (exfalso; simp at *; omega)) | (have : 1 ≤ (v).toInt := Int32.le_iff_toInt_le.mp (c26.1); have : (v).toInt ≤ 16 := Int32.le_iff_toInt_le.mp (c26.2); have : 0 ≤ (v).toInt := Int32.le_iff_toInt_le.mp (c27); unfold F_ends; (repeat' split) <;> first | rfl | (exfalso; (try simp only [Int32.le_iff_toInt_le, Int32.lt_iff_toInt_lt, ← Int32.toInt_inj] at *); first | omega | (simp at *; done) | (simp at *; omega))))
    · exfalso; have : 1 ≤ (v).toInt := Int32.le_iff_toInt_le.mp (c26.1); have : (v).toInt ≤ 16 := Int32.le_iff_toInt_le.mp (c26.2); have : (v).toInt < 0 := Int32.lt_iff_toInt_lt.mp (Int32.not_le.mp c27); omega
  · have c26 := gB_z c26
    refine G_iconst (pc := 10) (v := (-1)) (by decide) dX12_ends_10 ?_
    refine G_goto (pc := 11) (tgt := 35) (by decide) dX12_ends_11 ?_
    exact G_iret (pc := 35) (Nat.le_of_ble_eq_true rfl) (Nat.le_of_ble_eq_true rfl) rfl dX12_ends_35 (by first | rfl | (simp [F_ends, *]; done) | (have : ¬ (1 ≤ (v).toInt ∧ (v).toInt ≤ 16) := fun z => c26 ⟨Int32.le_iff_toInt_le.mpr z.1, Int32.le_iff_toInt_le.mpr z.2⟩; simp only [F_ends, Int32.le_iff_toInt_le, Int32.lt_iff_toInt_lt, ← Int32.toInt_inj]; simp; omega) | (have : ¬ (1 ≤ (v).toInt ∧ (v).toInt ≤ 16) := fun z => c26 ⟨Int32.le_iff_toInt_le.mpr z.1, Int32.le_iff_toInt_le.mpr z.2⟩; simp only [F_ends, Int32.le_iff_toInt_le, Int32.lt_iff_toInt_lt, ← Int32.toInt_inj]; split <;> first | rfl | (exfalso; simp at *; omega)) | (have : ¬ (1 ≤ (v).toInt ∧ (v).toInt ≤ 16) := fun z => c26 ⟨Int32.le_iff_toInt_le.mpr z.1, Int32.le_iff_toInt_le.mpr z.2⟩; unfold F_ends; (repeat' split) <;> first | rfl | (exfalso; (try simp only [Int32.le_iff_toInt_le, Int32.lt_iff_toInt_lt, ← Int32.toInt_inj] at *); first | omega | (simp at *; done) | (simp at *; omega))))
set_option maxRecDepth 100000 in
set_option maxHeartbeats 4000000 in
theorem s10010_X12_becomes (J : gI) (d : Nat)   : G (d) mX12_becomes 0 0 0 0 0 (gent 4 [.ref 67, .int 0, .int 0]) [] SH0 RF0 (gup (gmx J) 68 2 0) (fun r h => r = some (.int 0) ∧ h = (SH0, RF0, (gup (gup (gmx J) 68 2 0) 68 0 0))) := by
  refine G_aload_n (pc := 0) rfl dX12_becomes_0 ?_
  refine G_getR (pc := 1) (r := 68) (ci := 12) (j := 0) rfl lk_RX12_9 rfl rfl rfl dX12_becomes_1 ?_
  refine G_iload_n (pc := 4) rfl dX12_becomes_4 ?_
  refine G_iald (pc := 5) (jj := 0) (v := 0) (by decide) rfl rfl (by unfold vp_in; decide) dX12_becomes_5 ?_
  refine G_istore_n (pc := 6) (L1 := [some (.ref 67), some (.int 0), some (.int 0), some (.int 0)]) rfl rfl (by decide) dX12_becomes_6 ?_
  refine G_aload_n (pc := 7) rfl dX12_becomes_7 ?_
  refine G_getR (pc := 8) (r := 68) (ci := 12) (j := 0) rfl lk_RX12_9 rfl rfl rfl dX12_becomes_8 ?_
  refine G_iload_n (pc := 11) rfl dX12_becomes_11 ?_
  refine G_iload_n (pc := 12) rfl dX12_becomes_12 ?_
  refine G_iast (pc := 13) (jj := 0) (by decide) rfl (by unfold vp_in; decide) dX12_becomes_13 ?_
  refine G_iload_n (pc := 14) rfl dX12_becomes_14 ?_
  exact G_iret (pc := 15) (Nat.le_of_ble_eq_true rfl) (Nat.le_of_ble_eq_true rfl) rfl dX12_becomes_15 ⟨rfl, rfl⟩
set_option maxRecDepth 100000 in
set_option maxHeartbeats 4000000 in
theorem z_anew (J : gI) (d : Nat)  : G (d + 1) mX12_anew 0 0 0 0 0 (gent 2 [.ref 67]) [] SH0 RF0 (gmx J) (fun r _ => r = some (.int (F_anew ))) := by
  refine G_aload_n (pc := 0) rfl dX12_anew_0 ?_
  refine G_getR (pc := 1) (r := 68) (ci := 12) (j := 0) rfl lk_RX12_9 rfl rfl rfl dX12_anew_1 ?_
  refine G_iconst (pc := 4) (v := 2) (by decide) dX12_anew_4 ?_
  refine G_iconst (pc := 5) (v := 0) (by decide) dX12_anew_5 ?_
  refine G_iast (pc := 6) (jj := 2) (by decide) rfl (by unfold vp_in; decide) dX12_anew_6 ?_
  refine G_iconst (pc := 7) (v := 0) (by decide) dX12_anew_7 ?_
  refine G_istore_n (pc := 8) (L1 := [some (.ref 67), some (.int 0)]) rfl rfl (by decide) dX12_anew_8 ?_
  refine G_iload_n (pc := 9) rfl dX12_anew_9 ?_
  refine G_aload_n (pc := 10) rfl dX12_anew_10 ?_
  refine G_getR (pc := 11) (r := 68) (ci := 12) (j := 0) rfl lk_RX12_9 rfl rfl rfl dX12_anew_11 ?_
  refine G_iconst (pc := 14) (v := 4) (by decide) dX12_anew_14 ?_
  refine G_iald (pc := 15) (jj := 4) (v := 0) (by decide) rfl rfl (by unfold vp_in; decide) dX12_anew_15 ?_
  refine G_icmp_ge (pc := 16) (tgt := 32) (by decide) dX12_anew_16 (fun _ => ?_) (fun z => absurd (by decide) z)
  refine G_aload_n (pc := 32) rfl dX12_anew_32 ?_
  refine G_iconst (pc := 33) (v := 0) (by decide) dX12_anew_33 ?_
  refine G_iconst (pc := 34) (v := 0) (by decide) dX12_anew_34 ?_
  refine G_callV (pc := 35) (mc1 := 0) (ms1 := 0) (ci := 12) (mj := mX12_becomes) (vs := [_, _]) dX12_anew_35 rfl rfl cm_X12_becomes wh_18 wh_20 wh_21 rfl (Nat.le_of_ble_eq_true rfl) (Nat.le_of_ble_eq_true rfl) (Nat.le_of_ble_eq_true rfl) (Nat.le_of_ble_eq_true rfl) (s10010_X12_becomes J d  ) ?_
  rintro _ _ ⟨rfl, rfl⟩
  dsimp only [Option.toList, List.cons_append, List.nil_append]
  exact G_iret (pc := 38) (Nat.le_of_ble_eq_true rfl) (Nat.le_of_ble_eq_true rfl) rfl dX12_anew_38 (by first | rfl | (simp [F_anew, *]; done) | (simp only [F_anew, Int32.le_iff_toInt_le, Int32.lt_iff_toInt_lt, ← Int32.toInt_inj]; simp; omega) | (simp only [F_anew, Int32.le_iff_toInt_le, Int32.lt_iff_toInt_lt, ← Int32.toInt_inj]; split <;> first | rfl | (exfalso; simp at *; omega)) | (unfold F_anew; (repeat' split) <;> first | rfl | (exfalso; (try simp only [Int32.le_iff_toInt_le, Int32.lt_iff_toInt_lt, ← Int32.toInt_inj] at *); first | omega | (simp at *; done) | (simp at *; omega))))
set_option maxRecDepth 100000 in
set_option maxHeartbeats 4000000 in
theorem s10011_X12_isOver (J : gI) (d : Nat)   : G (d) mX12_isOver 0 0 0 0 0 (gent 1 [.ref 67]) [] SH0 RF0 (gmx J) (fun r h => r = some (.int 0) ∧ h = (SH0, RF0, (gmx J))) := by
  refine G_aload_n (pc := 0) rfl dX12_isOver_0 ?_
  refine G_getR (pc := 1) (r := 68) (ci := 12) (j := 0) rfl lk_RX12_9 rfl rfl rfl dX12_isOver_1 ?_
  refine G_iconst (pc := 4) (v := 0) (by decide) dX12_isOver_4 ?_
  refine G_iald (pc := 5) (jj := 0) (v := 0) (by decide) rfl rfl (by unfold vp_in; decide) dX12_isOver_5 ?_
  refine G_aload_n (pc := 6) rfl dX12_isOver_6 ?_
  refine G_getR (pc := 7) (r := 68) (ci := 12) (j := 0) rfl lk_RX12_9 rfl rfl rfl dX12_isOver_7 ?_
  refine G_iconst (pc := 10) (v := 1) (by decide) dX12_isOver_10 ?_
  refine G_iald (pc := 11) (jj := 1) (v := 12) (by decide) rfl rfl (by unfold vp_in; decide) dX12_isOver_11 ?_
  refine G_icmp_lt (pc := 12) (tgt := 19) (by decide) dX12_isOver_12 (fun _ => ?_) (fun z => absurd (by decide) z)
  refine G_iconst (pc := 19) (v := 0) (by decide) dX12_isOver_19 ?_
  exact G_zret (pc := 20) (Nat.le_of_ble_eq_true rfl) (Nat.le_of_ble_eq_true rfl) rfl (by decide) dX12_isOver_20 ⟨rfl, rfl⟩
set_option maxRecDepth 100000 in
set_option maxHeartbeats 4000000 in
theorem s10012_X12_those (J : gI) (d : Nat)   : G (d) mX12_those 0 0 0 0 0 (gent 4 [.ref 67, .int 4]) [] SH0 RF0 (gmx J) (fun r h => r = some (.int 0) ∧ h = (SH0, RF0, (gmx J))) := by
  refine G_iconst (pc := 0) (v := 0) (by decide) dX12_those_0 ?_
  refine G_istore_n (pc := 1) (L1 := [some (.ref 67), some (.int 4), some (.int 0), none]) rfl rfl (by decide) dX12_those_1 ?_
  refine G_iconst (pc := 2) (v := 0) (by decide) dX12_those_2 ?_
  refine G_istore_n (pc := 3) (L1 := [some (.ref 67), some (.int 4), some (.int 0), some (.int 0)]) rfl rfl (by decide) dX12_those_3 ?_
  refine G_iload_n (pc := 4) rfl dX12_those_4 ?_
  refine G_aload_n (pc := 5) rfl dX12_those_5 ?_
  refine G_getR (pc := 6) (r := 68) (ci := 12) (j := 0) rfl lk_RX12_9 rfl rfl rfl dX12_those_6 ?_
  refine G_iconst (pc := 9) (v := 4) (by decide) dX12_those_9 ?_
  refine G_iald (pc := 10) (jj := 4) (v := 0) (by decide) rfl rfl (by unfold vp_in; decide) dX12_those_10 ?_
  refine G_icmp_ge (pc := 11) (tgt := 39) (by decide) dX12_those_11 (fun _ => ?_) (fun z => absurd (by decide) z)
  refine G_iload_n (pc := 39) rfl dX12_those_39 ?_
  exact G_iret (pc := 40) (Nat.le_of_ble_eq_true rfl) (Nat.le_of_ble_eq_true rfl) rfl dX12_those_40 ⟨rfl, rfl⟩
set_option maxRecDepth 100000 in
set_option maxHeartbeats 4000000 in
theorem s10013_X12_sunNow (J : gI) (d : Nat)   : G (d) mX12_sunNow 0 0 0 0 0 (gent 1 [.ref 67]) [] SH0 RF0 (gmx J) (fun r h => r = some (.int 5) ∧ h = (SH0, RF0, (gmx J))) := by
  refine G_aload_n (pc := 0) rfl dX12_sunNow_0 ?_
  refine G_getR (pc := 1) (r := 68) (ci := 12) (j := 0) rfl lk_RX12_9 rfl rfl rfl dX12_sunNow_1 ?_
  refine G_iconst (pc := 4) (v := 0) (by decide) dX12_sunNow_4 ?_
  refine G_iald (pc := 5) (jj := 0) (v := 0) (by decide) rfl rfl (by unfold vp_in; decide) dX12_sunNow_5 ?_
  refine G_bipush (pc := 6) (v := 16) (by decide) dX12_sunNow_6 ?_
  refine G_icmp_ge (pc := 8) (tgt := 28) (by decide) dX12_sunNow_8 (fun z => absurd z (by decide)) (fun _ => ?_)
  refine G_aload_n (pc := 11) rfl dX12_sunNow_11 ?_
  refine G_getR (pc := 12) (r := 68) (ci := 12) (j := 0) rfl lk_RX12_9 rfl rfl rfl dX12_sunNow_12 ?_
  refine G_bipush (pc := 15) (v := 7) (by decide) dX12_sunNow_15 ?_
  refine G_aload_n (pc := 17) rfl dX12_sunNow_17 ?_
  refine G_getR (pc := 18) (r := 68) (ci := 12) (j := 0) rfl lk_RX12_9 rfl rfl rfl dX12_sunNow_18 ?_
  refine G_iconst (pc := 21) (v := 0) (by decide) dX12_sunNow_21 ?_
  refine G_iald (pc := 22) (jj := 0) (v := 0) (by decide) rfl rfl (by unfold vp_in; decide) dX12_sunNow_22 ?_
  refine G_iadd (pc := 23) (z := 7) (by decide) dX12_sunNow_23 ?_
  refine G_iald (pc := 24) (jj := 7) (v := 5) (by decide) rfl rfl (by unfold vp_in; decide) dX12_sunNow_24 ?_
  refine G_goto (pc := 25) (tgt := 29) (by decide) dX12_sunNow_25 ?_
  exact G_iret (pc := 29) (Nat.le_of_ble_eq_true rfl) (Nat.le_of_ble_eq_true rfl) rfl dX12_sunNow_29 ⟨rfl, rfl⟩
set_option maxRecDepth 100000 in
set_option maxHeartbeats 4000000 in
theorem s10014_X12_teethAll (J : gI) (d : Nat)   : G (d) mX12_teethAll 0 0 0 0 0 (gent 3 [.ref 67]) [] SH0 RF0 (gmx J) (fun r h => r = some (.int 0) ∧ h = (SH0, RF0, (gmx J))) := by
  refine G_iconst (pc := 0) (v := 0) (by decide) dX12_teethAll_0 ?_
  refine G_istore_n (pc := 1) (L1 := [some (.ref 67), some (.int 0), none]) rfl rfl (by decide) dX12_teethAll_1 ?_
  refine G_iconst (pc := 2) (v := 0) (by decide) dX12_teethAll_2 ?_
  refine G_istore_n (pc := 3) (L1 := [some (.ref 67), some (.int 0), some (.int 0)]) rfl rfl (by decide) dX12_teethAll_3 ?_
  refine G_iload_n (pc := 4) rfl dX12_teethAll_4 ?_
  refine G_aload_n (pc := 5) rfl dX12_teethAll_5 ?_
  refine G_getR (pc := 6) (r := 68) (ci := 12) (j := 0) rfl lk_RX12_9 rfl rfl rfl dX12_teethAll_6 ?_
  refine G_iconst (pc := 9) (v := 4) (by decide) dX12_teethAll_9 ?_
  refine G_iald (pc := 10) (jj := 4) (v := 0) (by decide) rfl rfl (by unfold vp_in; decide) dX12_teethAll_10 ?_
  refine G_icmp_ge (pc := 11) (tgt := 29) (by decide) dX12_teethAll_11 (fun _ => ?_) (fun z => absurd (by decide) z)
  refine G_iload_n (pc := 29) rfl dX12_teethAll_29 ?_
  exact G_iret (pc := 30) (Nat.le_of_ble_eq_true rfl) (Nat.le_of_ble_eq_true rfl) rfl dX12_teethAll_30 ⟨rfl, rfl⟩
set_option maxRecDepth 100000 in
set_option maxHeartbeats 4000000 in
theorem z_state (J : gI) (d : Nat) (what : Int32) : G (d + 1) mX12_state 0 0 0 0 0 (gent 2 [.ref 67, .int what]) [] SH0 RF0 (gmx J) (fun r _ => r = some (.int (F_state what))) := by
  refine G_iload_n (pc := 0) rfl dX12_state_0 ?_
  by_cases c28 : what = 0
  · subst c28
    refine G_tabIn (pc := 1) (tgt := 44) (off := 43) (by decide) (by decide) (by decide) (by decide) dX12_state_1 ?_
    refine G_aload_n (pc := 44) rfl dX12_state_44 ?_
    refine G_getR (pc := 45) (r := 68) (ci := 12) (j := 0) rfl lk_RX12_9 rfl rfl rfl dX12_state_45 ?_
    refine G_iconst (pc := 48) (v := 0) (by decide) dX12_state_48 ?_
    refine G_iald (pc := 49) (jj := 0) (v := 0) (by decide) rfl rfl (by unfold vp_in; decide) dX12_state_49 ?_
    exact G_iret (pc := 50) (Nat.le_of_ble_eq_true rfl) (Nat.le_of_ble_eq_true rfl) rfl dX12_state_50 (by first | rfl | (simp [F_state, *]; done) | (simp only [F_state, Int32.le_iff_toInt_le, Int32.lt_iff_toInt_lt, ← Int32.toInt_inj]; simp; omega) | (simp only [F_state, Int32.le_iff_toInt_le, Int32.lt_iff_toInt_lt, ← Int32.toInt_inj]; split <;> first | rfl | (exfalso; simp at *; omega)) | (unfold F_state; (repeat' split) <;> first | rfl | (exfalso; (try simp only [Int32.le_iff_toInt_le, Int32.lt_iff_toInt_lt, ← Int32.toInt_inj] at *); first | omega | (simp at *; done) | (simp at *; omega))))
  by_cases c29 : what = 1
  · subst c29
    refine G_tabIn (pc := 1) (tgt := 51) (off := 50) (by decide) (by decide) (by decide) (by decide) dX12_state_1 ?_
    refine G_aload_n (pc := 51) rfl dX12_state_51 ?_
    refine G_getR (pc := 52) (r := 68) (ci := 12) (j := 0) rfl lk_RX12_9 rfl rfl rfl dX12_state_52 ?_
    refine G_iconst (pc := 55) (v := 1) (by decide) dX12_state_55 ?_
    refine G_iald (pc := 56) (jj := 1) (v := 12) (by decide) rfl rfl (by unfold vp_in; decide) dX12_state_56 ?_
    exact G_iret (pc := 57) (Nat.le_of_ble_eq_true rfl) (Nat.le_of_ble_eq_true rfl) rfl dX12_state_57 (by first | rfl | (simp [F_state, *]; done) | (simp only [F_state, Int32.le_iff_toInt_le, Int32.lt_iff_toInt_lt, ← Int32.toInt_inj]; simp; omega) | (simp only [F_state, Int32.le_iff_toInt_le, Int32.lt_iff_toInt_lt, ← Int32.toInt_inj]; split <;> first | rfl | (exfalso; simp at *; omega)) | (unfold F_state; (repeat' split) <;> first | rfl | (exfalso; (try simp only [Int32.le_iff_toInt_le, Int32.lt_iff_toInt_lt, ← Int32.toInt_inj] at *); first | omega | (simp at *; done) | (simp at *; omega))))
  by_cases c30 : what = 2
  · subst c30
    refine G_tabIn (pc := 1) (tgt := 58) (off := 57) (by decide) (by decide) (by decide) (by decide) dX12_state_1 ?_
    refine G_aload_n (pc := 58) rfl dX12_state_58 ?_
    refine G_getR (pc := 59) (r := 68) (ci := 12) (j := 0) rfl lk_RX12_9 rfl rfl rfl dX12_state_59 ?_
    refine G_iconst (pc := 62) (v := 2) (by decide) dX12_state_62 ?_
    refine G_iald (pc := 63) (jj := 2) (v := 0) (by decide) rfl rfl (by unfold vp_in; decide) dX12_state_63 ?_
    exact G_iret (pc := 64) (Nat.le_of_ble_eq_true rfl) (Nat.le_of_ble_eq_true rfl) rfl dX12_state_64 (by first | rfl | (simp [F_state, *]; done) | (simp only [F_state, Int32.le_iff_toInt_le, Int32.lt_iff_toInt_lt, ← Int32.toInt_inj]; simp; omega) | (simp only [F_state, Int32.le_iff_toInt_le, Int32.lt_iff_toInt_lt, ← Int32.toInt_inj]; split <;> first | rfl | (exfalso; simp at *; omega)) | (unfold F_state; (repeat' split) <;> first | rfl | (exfalso; (try simp only [Int32.le_iff_toInt_le, Int32.lt_iff_toInt_lt, ← Int32.toInt_inj] at *); first | omega | (simp at *; done) | (simp at *; omega))))
  by_cases c31 : what = 3
  · subst c31
    refine G_tabIn (pc := 1) (tgt := 65) (off := 64) (by decide) (by decide) (by decide) (by decide) dX12_state_1 ?_
    refine G_aload_n (pc := 65) rfl dX12_state_65 ?_
    refine G_callV (pc := 66) (mc1 := 0) (ms1 := 0) (ci := 12) (mj := mX12_isOver) (vs := []) dX12_state_66 rfl rfl cm_X12_isOver wh_22 wh_24 wh_25 rfl (Nat.le_of_ble_eq_true rfl) (Nat.le_of_ble_eq_true rfl) (Nat.le_of_ble_eq_true rfl) (Nat.le_of_ble_eq_true rfl) (s10011_X12_isOver J d  ) ?_
    rintro _ _ ⟨rfl, rfl⟩
    dsimp only [Option.toList, List.cons_append, List.nil_append]
    refine G_if_eq (pc := 69) (tgt := 76) (by decide) dX12_state_69 (fun _ => ?_) (fun z => absurd (by decide) z)
    refine G_iconst (pc := 76) (v := 0) (by decide) dX12_state_76 ?_
    exact G_iret (pc := 77) (Nat.le_of_ble_eq_true rfl) (Nat.le_of_ble_eq_true rfl) rfl dX12_state_77 (by first | rfl | (simp [F_state, *]; done) | (simp only [F_state, Int32.le_iff_toInt_le, Int32.lt_iff_toInt_lt, ← Int32.toInt_inj]; simp; omega) | (simp only [F_state, Int32.le_iff_toInt_le, Int32.lt_iff_toInt_lt, ← Int32.toInt_inj]; split <;> first | rfl | (exfalso; simp at *; omega)) | (unfold F_state; (repeat' split) <;> first | rfl | (exfalso; (try simp only [Int32.le_iff_toInt_le, Int32.lt_iff_toInt_lt, ← Int32.toInt_inj] at *); first | omega | (simp at *; done) | (simp at *; omega))))
  by_cases c32 : what = 4
  · subst c32
    refine G_tabIn (pc := 1) (tgt := 78) (off := 77) (by decide) (by decide) (by decide) (by decide) dX12_state_1 ?_
    refine G_aload_n (pc := 78) rfl dX12_state_78 ?_
    refine G_iconst (pc := 79) (v := 4) (by decide) dX12_state_79 ?_
    refine G_callV (pc := 80) (mc1 := 0) (ms1 := 0) (ci := 12) (mj := mX12_those) (vs := [_]) dX12_state_80 rfl rfl cm_X12_those wh_26 wh_28 wh_29 rfl (Nat.le_of_ble_eq_true rfl) (Nat.le_of_ble_eq_true rfl) (Nat.le_of_ble_eq_true rfl) (Nat.le_of_ble_eq_true rfl) (s10012_X12_those J d  ) ?_
    rintro _ _ ⟨rfl, rfl⟩
    dsimp only [Option.toList, List.cons_append, List.nil_append]
    exact G_iret (pc := 83) (Nat.le_of_ble_eq_true rfl) (Nat.le_of_ble_eq_true rfl) rfl dX12_state_83 (by first | rfl | (simp [F_state, *]; done) | (simp only [F_state, Int32.le_iff_toInt_le, Int32.lt_iff_toInt_lt, ← Int32.toInt_inj]; simp; omega) | (simp only [F_state, Int32.le_iff_toInt_le, Int32.lt_iff_toInt_lt, ← Int32.toInt_inj]; split <;> first | rfl | (exfalso; simp at *; omega)) | (unfold F_state; (repeat' split) <;> first | rfl | (exfalso; (try simp only [Int32.le_iff_toInt_le, Int32.lt_iff_toInt_lt, ← Int32.toInt_inj] at *); first | omega | (simp at *; done) | (simp at *; omega))))
  by_cases c33 : what = 5
  · subst c33
    refine G_tabIn (pc := 1) (tgt := 84) (off := 83) (by decide) (by decide) (by decide) (by decide) dX12_state_1 ?_
    refine G_aload_n (pc := 84) rfl dX12_state_84 ?_
    refine G_callV (pc := 85) (mc1 := 0) (ms1 := 0) (ci := 12) (mj := mX12_sunNow) (vs := []) dX12_state_85 rfl rfl cm_X12_sunNow wh_30 wh_32 wh_33 rfl (Nat.le_of_ble_eq_true rfl) (Nat.le_of_ble_eq_true rfl) (Nat.le_of_ble_eq_true rfl) (Nat.le_of_ble_eq_true rfl) (s10013_X12_sunNow J d  ) ?_
    rintro _ _ ⟨rfl, rfl⟩
    dsimp only [Option.toList, List.cons_append, List.nil_append]
    exact G_iret (pc := 88) (Nat.le_of_ble_eq_true rfl) (Nat.le_of_ble_eq_true rfl) rfl dX12_state_88 (by first | rfl | (simp [F_state, *]; done) | (simp only [F_state, Int32.le_iff_toInt_le, Int32.lt_iff_toInt_lt, ← Int32.toInt_inj]; simp; omega) | (simp only [F_state, Int32.le_iff_toInt_le, Int32.lt_iff_toInt_lt, ← Int32.toInt_inj]; split <;> first | rfl | (exfalso; simp at *; omega)) | (unfold F_state; (repeat' split) <;> first | rfl | (exfalso; (try simp only [Int32.le_iff_toInt_le, Int32.lt_iff_toInt_lt, ← Int32.toInt_inj] at *); first | omega | (simp at *; done) | (simp at *; omega))))
  by_cases c34 : what = 6
  · subst c34
    refine G_tabIn (pc := 1) (tgt := 89) (off := 88) (by decide) (by decide) (by decide) (by decide) dX12_state_1 ?_
    refine G_aload_n (pc := 89) rfl dX12_state_89 ?_
    refine G_callV (pc := 90) (mc1 := 0) (ms1 := 0) (ci := 12) (mj := mX12_teethAll) (vs := []) dX12_state_90 rfl rfl cm_X12_teethAll wh_34 wh_36 wh_37 rfl (Nat.le_of_ble_eq_true rfl) (Nat.le_of_ble_eq_true rfl) (Nat.le_of_ble_eq_true rfl) (Nat.le_of_ble_eq_true rfl) (s10014_X12_teethAll J d  ) ?_
    rintro _ _ ⟨rfl, rfl⟩
    dsimp only [Option.toList, List.cons_append, List.nil_append]
    exact G_iret (pc := 93) (Nat.le_of_ble_eq_true rfl) (Nat.le_of_ble_eq_true rfl) rfl dX12_state_93 (by first | rfl | (simp [F_state, *]; done) | (simp only [F_state, Int32.le_iff_toInt_le, Int32.lt_iff_toInt_lt, ← Int32.toInt_inj]; simp; omega) | (simp only [F_state, Int32.le_iff_toInt_le, Int32.lt_iff_toInt_lt, ← Int32.toInt_inj]; split <;> first | rfl | (exfalso; simp at *; omega)) | (unfold F_state; (repeat' split) <;> first | rfl | (exfalso; (try simp only [Int32.le_iff_toInt_le, Int32.lt_iff_toInt_lt, ← Int32.toInt_inj] at *); first | omega | (simp at *; done) | (simp at *; omega))))
  refine G_tabOut (pc := 1) (tgt := 94) (by decide) (by have : (what).toInt ≠ 0 := g_ne c28; have : (what).toInt ≠ 1 := g_ne c29; have : (what).toInt ≠ 2 := g_ne c30; have : (what).toInt ≠ 3 := g_ne c31; have : (what).toInt ≠ 4 := g_ne c32; have : (what).toInt ≠ 5 := g_ne c33; have : (what).toInt ≠ 6 := g_ne c34; omega) dX12_state_1 ?_
  refine G_iconst (pc := 94) (v := (-1)) (by decide) dX12_state_94 ?_
  exact G_iret (pc := 95) (Nat.le_of_ble_eq_true rfl) (Nat.le_of_ble_eq_true rfl) rfl dX12_state_95 (by first | rfl | (simp [F_state, *]; done) | (have : (what).toInt ≠ 0 := g_ne (c28); have : (what).toInt ≠ 1 := g_ne (c29); have : (what).toInt ≠ 2 := g_ne (c30); have : (what).toInt ≠ 3 := g_ne (c31); have : (what).toInt ≠ 4 := g_ne (c32); have : (what).toInt ≠ 5 := g_ne (c33); have : (what).toInt ≠ 6 := g_ne (c34); simp only [F_state, Int32.le_iff_toInt_le, Int32.lt_iff_toInt_lt, ← Int32.toInt_inj]; simp; omega) | (have : (what).toInt ≠ 0 := g_ne (c28); have : (what).toInt ≠ 1 := g_ne (c29); have : (what).toInt ≠ 2 := g_ne (c30); have : (what).toInt ≠ 3 := g_ne (c31); have : (what).toInt ≠ 4 := g_ne (c32); have : (what).toInt ≠ 5 := g_ne (c33); have : (what).toInt ≠ 6 := g_ne (c34); simp only [F_state, Int32.le_iff_toInt_le, Int32.lt_iff_toInt_lt, ← Int32.toInt_inj]; split <;> first | rfl | (exfalso; simp at *; omega)) | (have : (what).toInt ≠ 0 := g_ne (c28); have : (what).toInt ≠ 1 := g_ne (c29); have : (what).toInt ≠ 2 := g_ne (c30); have : (what).toInt ≠ 3 := g_ne (c31); have : (what).toInt ≠ 4 := g_ne (c32); have : (what).toInt ≠ 5 := g_ne (c33); have : (what).toInt ≠ 6 := g_ne (c34); unfold F_state; (repeat' split) <;> first | rfl | (exfalso; (try simp only [Int32.le_iff_toInt_le, Int32.lt_iff_toInt_lt, ← Int32.toInt_inj] at *); first | omega | (simp at *; done) | (simp at *; omega))))
set_option maxRecDepth 100000 in
set_option maxHeartbeats 4000000 in
theorem s10015_X12_isGate (J : gI) (d : Nat)  (a0 : Int32) : G (d + 1) mX12_isGate 0 0 0 0 0 (gent 1 [.int a0]) [] SH0 RF0 (gmx J) (fun r h => r = some (.int (gB (0 ≤ a0 ∧ a0 ≤ 5))) ∧ h = (SH0, RF0, (gmx J))) := by
  refine G_iload_n (pc := 0) rfl dX12_isGate_0 ?_
  refine G_iconst (pc := 1) (v := 0) (by decide) dX12_isGate_1 ?_
  refine G_iconst (pc := 2) (v := 5) (by decide) dX12_isGate_2 ?_
  refine G_callS (pc := 3) (mc1 := 0) (ms1 := 0) (mj := mX12_in1) (vs := [_, _, _]) dX12_isGate_3 cm_X12_in1 wh_0 wh_3 rfl (Nat.le_of_ble_eq_true rfl) (Nat.le_of_ble_eq_true rfl) (Nat.le_of_ble_eq_true rfl) (Nat.le_of_ble_eq_true rfl) (in1_s d a0 0 5) ?_
  rintro _ _ ⟨rfl, rfl⟩
  dsimp only [Option.toList, List.cons_append, List.nil_append]
  exact G_zret (pc := 6) (Nat.le_of_ble_eq_true rfl) (Nat.le_of_ble_eq_true rfl) rfl gB_01 dX12_isGate_6 ⟨rfl, rfl⟩
set_option maxRecDepth 100000 in
set_option maxHeartbeats 4000000 in
theorem z_gateOf (J : gI) (d : Nat) (f : Int32) (what : Int32) : G (d + 2) mX12_gateOf 0 0 0 0 0 (gent 3 [.ref 67, .int f, .int what]) [] SH0 RF0 (gmx J) (fun r _ => r = some (.int (F_gateOf f what))) := by
  refine G_iload_n (pc := 0) rfl dX12_gateOf_0 ?_
  refine G_callS (pc := 1) (mc1 := 0) (ms1 := 0) (mj := mX12_isGate) (vs := [_]) dX12_gateOf_1 cm_X12_isGate wh_7 wh_9 rfl (Nat.le_of_ble_eq_true rfl) (Nat.le_of_ble_eq_true rfl) (Nat.le_of_ble_eq_true rfl) (Nat.le_of_ble_eq_true rfl) (s10015_X12_isGate J d  _) ?_
  rintro _ _ ⟨rfl, rfl⟩
  dsimp only [Option.toList, List.cons_append, List.nil_append]
  refine G_if_eq (pc := 4) (tgt := 37) (by decide) dX12_gateOf_4 (fun c35 => ?_) (fun c35 => ?_)
  · have c35 := gB_z c35
    refine G_iconst (pc := 37) (v := (-1)) (by decide) dX12_gateOf_37 ?_
    exact G_iret (pc := 38) (Nat.le_of_ble_eq_true rfl) (Nat.le_of_ble_eq_true rfl) rfl dX12_gateOf_38 (by first | rfl | (simp [F_gateOf, *]; done) | (have : ¬ (0 ≤ (f).toInt ∧ (f).toInt ≤ 5) := fun z => c35 ⟨Int32.le_iff_toInt_le.mpr z.1, Int32.le_iff_toInt_le.mpr z.2⟩; simp only [F_gateOf, Int32.le_iff_toInt_le, Int32.lt_iff_toInt_lt, ← Int32.toInt_inj]; simp; omega) | (have : ¬ (0 ≤ (f).toInt ∧ (f).toInt ≤ 5) := fun z => c35 ⟨Int32.le_iff_toInt_le.mpr z.1, Int32.le_iff_toInt_le.mpr z.2⟩; simp only [F_gateOf, Int32.le_iff_toInt_le, Int32.lt_iff_toInt_lt, ← Int32.toInt_inj]; split <;> first | rfl | (exfalso; simp at *; omega)) | (have : ¬ (0 ≤ (f).toInt ∧ (f).toInt ≤ 5) := fun z => c35 ⟨Int32.le_iff_toInt_le.mpr z.1, Int32.le_iff_toInt_le.mpr z.2⟩; unfold F_gateOf; (repeat' split) <;> first | rfl | (exfalso; (try simp only [Int32.le_iff_toInt_le, Int32.lt_iff_toInt_lt, ← Int32.toInt_inj] at *); first | omega | (simp at *; done) | (simp at *; omega))))
  · have c35 := gB_o c35
    refine G_iload_n (pc := 7) rfl dX12_gateOf_7 ?_
    refine G_iconst (pc := 8) (v := 0) (by decide) dX12_gateOf_8 ?_
    refine G_iconst (pc := 9) (v := 1) (by decide) dX12_gateOf_9 ?_
    refine G_callS (pc := 10) (mc1 := 0) (ms1 := 0) (mj := mX12_in1) (vs := [_, _, _]) dX12_gateOf_10 cm_X12_in1 wh_0 wh_3 rfl (Nat.le_of_ble_eq_true rfl) (Nat.le_of_ble_eq_true rfl) (Nat.le_of_ble_eq_true rfl) (Nat.le_of_ble_eq_true rfl) (in1_s (d + 1) what 0 1) ?_
    rintro _ _ ⟨rfl, rfl⟩
    dsimp only [Option.toList, List.cons_append, List.nil_append]
    refine G_if_eq (pc := 13) (tgt := 37) (by decide) dX12_gateOf_13 (fun c36 => ?_) (fun c36 => ?_)
    · have c36 := gB_z c36
      refine G_iconst (pc := 37) (v := (-1)) (by decide) dX12_gateOf_37 ?_
      exact G_iret (pc := 38) (Nat.le_of_ble_eq_true rfl) (Nat.le_of_ble_eq_true rfl) rfl dX12_gateOf_38 (by first | rfl | (simp [F_gateOf, *]; done) | (have : 0 ≤ (f).toInt := Int32.le_iff_toInt_le.mp (c35.1); have : (f).toInt ≤ 5 := Int32.le_iff_toInt_le.mp (c35.2); have : ¬ (0 ≤ (what).toInt ∧ (what).toInt ≤ 1) := fun z => c36 ⟨Int32.le_iff_toInt_le.mpr z.1, Int32.le_iff_toInt_le.mpr z.2⟩; simp only [F_gateOf, Int32.le_iff_toInt_le, Int32.lt_iff_toInt_lt, ← Int32.toInt_inj]; simp; omega) | (have : 0 ≤ (f).toInt := Int32.le_iff_toInt_le.mp (c35.1); have : (f).toInt ≤ 5 := Int32.le_iff_toInt_le.mp (c35.2); have : ¬ (0 ≤ (what).toInt ∧ (what).toInt ≤ 1) := fun z => c36 ⟨Int32.le_iff_toInt_le.mpr z.1, Int32.le_iff_toInt_le.mpr z.2⟩; simp only [F_gateOf, Int32.le_iff_toInt_le, Int32.lt_iff_toInt_lt, ← Int32.toInt_inj]; split <;> first | rfl | (exfalso; simp at *; omega)) | (have : 0 ≤ (f).toInt := Int32.le_iff_toInt_le.mp (c35.1); have : (f).toInt ≤ 5 := Int32.le_iff_toInt_le.mp (c35.2); have : ¬ (0 ≤ (what).toInt ∧ (what).toInt ≤ 1) := fun z => c36 ⟨Int32.le_iff_toInt_le.mpr z.1, Int32.le_iff_toInt_le.mpr z.2⟩; unfold F_gateOf; (repeat' split) <;> first | rfl | (exfalso; (try simp only [Int32.le_iff_toInt_le, Int32.lt_iff_toInt_lt, ← Int32.toInt_inj] at *); first | omega | (simp at *; done) | (simp at *; omega))))
    · have c36 := gB_o c36
      refine G_aload_n (pc := 16) rfl dX12_gateOf_16 ?_
      refine G_getR (pc := 17) (r := 68) (ci := 12) (j := 0) rfl lk_RX12_9 rfl rfl rfl dX12_gateOf_17 ?_
      refine G_iload_n (pc := 20) rfl dX12_gateOf_20 ?_
      refine G_if_ne (pc := 21) (tgt := 29) (by decide) dX12_gateOf_21 (fun c37 => ?_) (fun c37 => ?_)
      · refine G_bipush (pc := 29) (v := 29) (by decide) dX12_gateOf_29 ?_
        refine G_iload_n (pc := 31) rfl dX12_gateOf_31 ?_
        by_cases c38 : f = 0
        · subst c38
          refine G_iadd (pc := 32) (z := 29) (by decide) dX12_gateOf_32 ?_
          refine G_iald (pc := 33) (jj := 29) (v := 0) (by decide) rfl rfl (by unfold vp_in; decide) dX12_gateOf_33 ?_
          refine G_goto (pc := 34) (tgt := 38) (by decide) dX12_gateOf_34 ?_
          exact G_iret (pc := 38) (Nat.le_of_ble_eq_true rfl) (Nat.le_of_ble_eq_true rfl) rfl dX12_gateOf_38 (by first | rfl | (simp [F_gateOf, *]; done) | (have : 0 ≤ (what).toInt := Int32.le_iff_toInt_le.mp (c36.1); have : (what).toInt ≤ 1 := Int32.le_iff_toInt_le.mp (c36.2); have : (what).toInt ≠ 0 := g_ne (c37); simp only [F_gateOf, Int32.le_iff_toInt_le, Int32.lt_iff_toInt_lt, ← Int32.toInt_inj]; simp; omega) | (have : 0 ≤ (what).toInt := Int32.le_iff_toInt_le.mp (c36.1); have : (what).toInt ≤ 1 := Int32.le_iff_toInt_le.mp (c36.2); have : (what).toInt ≠ 0 := g_ne (c37); simp only [F_gateOf, Int32.le_iff_toInt_le, Int32.lt_iff_toInt_lt, ← Int32.toInt_inj]; split <;> first | rfl | (exfalso; simp at *; omega)) | (have : 0 ≤ (what).toInt := Int32.le_iff_toInt_le.mp (c36.1); have : (what).toInt ≤ 1 := Int32.le_iff_toInt_le.mp (c36.2); have : (what).toInt ≠ 0 := g_ne (c37); unfold F_gateOf; (repeat' split) <;> first | rfl | (exfalso; (try simp only [Int32.le_iff_toInt_le, Int32.lt_iff_toInt_lt, ← Int32.toInt_inj] at *); first | omega | (simp at *; done) | (simp at *; omega))))
        by_cases c39 : f = 1
        · subst c39
          refine G_iadd (pc := 32) (z := 30) (by decide) dX12_gateOf_32 ?_
          refine G_iald (pc := 33) (jj := 30) (v := 0) (by decide) rfl rfl (by unfold vp_in; decide) dX12_gateOf_33 ?_
          refine G_goto (pc := 34) (tgt := 38) (by decide) dX12_gateOf_34 ?_
          exact G_iret (pc := 38) (Nat.le_of_ble_eq_true rfl) (Nat.le_of_ble_eq_true rfl) rfl dX12_gateOf_38 (by first | rfl | (simp [F_gateOf, *]; done) | (have : 0 ≤ (what).toInt := Int32.le_iff_toInt_le.mp (c36.1); have : (what).toInt ≤ 1 := Int32.le_iff_toInt_le.mp (c36.2); have : (what).toInt ≠ 0 := g_ne (c37); simp only [F_gateOf, Int32.le_iff_toInt_le, Int32.lt_iff_toInt_lt, ← Int32.toInt_inj]; simp; omega) | (have : 0 ≤ (what).toInt := Int32.le_iff_toInt_le.mp (c36.1); have : (what).toInt ≤ 1 := Int32.le_iff_toInt_le.mp (c36.2); have : (what).toInt ≠ 0 := g_ne (c37); simp only [F_gateOf, Int32.le_iff_toInt_le, Int32.lt_iff_toInt_lt, ← Int32.toInt_inj]; split <;> first | rfl | (exfalso; simp at *; omega)) | (have : 0 ≤ (what).toInt := Int32.le_iff_toInt_le.mp (c36.1); have : (what).toInt ≤ 1 := Int32.le_iff_toInt_le.mp (c36.2); have : (what).toInt ≠ 0 := g_ne (c37); unfold F_gateOf; (repeat' split) <;> first | rfl | (exfalso; (try simp only [Int32.le_iff_toInt_le, Int32.lt_iff_toInt_lt, ← Int32.toInt_inj] at *); first | omega | (simp at *; done) | (simp at *; omega))))
        by_cases c40 : f = 2
        · subst c40
          refine G_iadd (pc := 32) (z := 31) (by decide) dX12_gateOf_32 ?_
          refine G_iald (pc := 33) (jj := 31) (v := 0) (by decide) rfl rfl (by unfold vp_in; decide) dX12_gateOf_33 ?_
          refine G_goto (pc := 34) (tgt := 38) (by decide) dX12_gateOf_34 ?_
          exact G_iret (pc := 38) (Nat.le_of_ble_eq_true rfl) (Nat.le_of_ble_eq_true rfl) rfl dX12_gateOf_38 (by first | rfl | (simp [F_gateOf, *]; done) | (have : 0 ≤ (what).toInt := Int32.le_iff_toInt_le.mp (c36.1); have : (what).toInt ≤ 1 := Int32.le_iff_toInt_le.mp (c36.2); have : (what).toInt ≠ 0 := g_ne (c37); simp only [F_gateOf, Int32.le_iff_toInt_le, Int32.lt_iff_toInt_lt, ← Int32.toInt_inj]; simp; omega) | (have : 0 ≤ (what).toInt := Int32.le_iff_toInt_le.mp (c36.1); have : (what).toInt ≤ 1 := Int32.le_iff_toInt_le.mp (c36.2); have : (what).toInt ≠ 0 := g_ne (c37); simp only [F_gateOf, Int32.le_iff_toInt_le, Int32.lt_iff_toInt_lt, ← Int32.toInt_inj]; split <;> first | rfl | (exfalso; simp at *; omega)) | (have : 0 ≤ (what).toInt := Int32.le_iff_toInt_le.mp (c36.1); have : (what).toInt ≤ 1 := Int32.le_iff_toInt_le.mp (c36.2); have : (what).toInt ≠ 0 := g_ne (c37); unfold F_gateOf; (repeat' split) <;> first | rfl | (exfalso; (try simp only [Int32.le_iff_toInt_le, Int32.lt_iff_toInt_lt, ← Int32.toInt_inj] at *); first | omega | (simp at *; done) | (simp at *; omega))))
        by_cases c41 : f = 3
        · subst c41
          refine G_iadd (pc := 32) (z := 32) (by decide) dX12_gateOf_32 ?_
          refine G_iald (pc := 33) (jj := 32) (v := 0) (by decide) rfl rfl (by unfold vp_in; decide) dX12_gateOf_33 ?_
          refine G_goto (pc := 34) (tgt := 38) (by decide) dX12_gateOf_34 ?_
          exact G_iret (pc := 38) (Nat.le_of_ble_eq_true rfl) (Nat.le_of_ble_eq_true rfl) rfl dX12_gateOf_38 (by first | rfl | (simp [F_gateOf, *]; done) | (have : 0 ≤ (what).toInt := Int32.le_iff_toInt_le.mp (c36.1); have : (what).toInt ≤ 1 := Int32.le_iff_toInt_le.mp (c36.2); have : (what).toInt ≠ 0 := g_ne (c37); simp only [F_gateOf, Int32.le_iff_toInt_le, Int32.lt_iff_toInt_lt, ← Int32.toInt_inj]; simp; omega) | (have : 0 ≤ (what).toInt := Int32.le_iff_toInt_le.mp (c36.1); have : (what).toInt ≤ 1 := Int32.le_iff_toInt_le.mp (c36.2); have : (what).toInt ≠ 0 := g_ne (c37); simp only [F_gateOf, Int32.le_iff_toInt_le, Int32.lt_iff_toInt_lt, ← Int32.toInt_inj]; split <;> first | rfl | (exfalso; simp at *; omega)) | (have : 0 ≤ (what).toInt := Int32.le_iff_toInt_le.mp (c36.1); have : (what).toInt ≤ 1 := Int32.le_iff_toInt_le.mp (c36.2); have : (what).toInt ≠ 0 := g_ne (c37); unfold F_gateOf; (repeat' split) <;> first | rfl | (exfalso; (try simp only [Int32.le_iff_toInt_le, Int32.lt_iff_toInt_lt, ← Int32.toInt_inj] at *); first | omega | (simp at *; done) | (simp at *; omega))))
        by_cases c42 : f = 4
        · subst c42
          refine G_iadd (pc := 32) (z := 33) (by decide) dX12_gateOf_32 ?_
          refine G_iald (pc := 33) (jj := 33) (v := 0) (by decide) rfl rfl (by unfold vp_in; decide) dX12_gateOf_33 ?_
          refine G_goto (pc := 34) (tgt := 38) (by decide) dX12_gateOf_34 ?_
          exact G_iret (pc := 38) (Nat.le_of_ble_eq_true rfl) (Nat.le_of_ble_eq_true rfl) rfl dX12_gateOf_38 (by first | rfl | (simp [F_gateOf, *]; done) | (have : 0 ≤ (what).toInt := Int32.le_iff_toInt_le.mp (c36.1); have : (what).toInt ≤ 1 := Int32.le_iff_toInt_le.mp (c36.2); have : (what).toInt ≠ 0 := g_ne (c37); simp only [F_gateOf, Int32.le_iff_toInt_le, Int32.lt_iff_toInt_lt, ← Int32.toInt_inj]; simp; omega) | (have : 0 ≤ (what).toInt := Int32.le_iff_toInt_le.mp (c36.1); have : (what).toInt ≤ 1 := Int32.le_iff_toInt_le.mp (c36.2); have : (what).toInt ≠ 0 := g_ne (c37); simp only [F_gateOf, Int32.le_iff_toInt_le, Int32.lt_iff_toInt_lt, ← Int32.toInt_inj]; split <;> first | rfl | (exfalso; simp at *; omega)) | (have : 0 ≤ (what).toInt := Int32.le_iff_toInt_le.mp (c36.1); have : (what).toInt ≤ 1 := Int32.le_iff_toInt_le.mp (c36.2); have : (what).toInt ≠ 0 := g_ne (c37); unfold F_gateOf; (repeat' split) <;> first | rfl | (exfalso; (try simp only [Int32.le_iff_toInt_le, Int32.lt_iff_toInt_lt, ← Int32.toInt_inj] at *); first | omega | (simp at *; done) | (simp at *; omega))))
        by_cases c43 : f = 5
        · subst c43
          refine G_iadd (pc := 32) (z := 34) (by decide) dX12_gateOf_32 ?_
          refine G_iald (pc := 33) (jj := 34) (v := 0) (by decide) rfl rfl (by unfold vp_in; decide) dX12_gateOf_33 ?_
          refine G_goto (pc := 34) (tgt := 38) (by decide) dX12_gateOf_34 ?_
          exact G_iret (pc := 38) (Nat.le_of_ble_eq_true rfl) (Nat.le_of_ble_eq_true rfl) rfl dX12_gateOf_38 (by first | rfl | (simp [F_gateOf, *]; done) | (have : 0 ≤ (what).toInt := Int32.le_iff_toInt_le.mp (c36.1); have : (what).toInt ≤ 1 := Int32.le_iff_toInt_le.mp (c36.2); have : (what).toInt ≠ 0 := g_ne (c37); simp only [F_gateOf, Int32.le_iff_toInt_le, Int32.lt_iff_toInt_lt, ← Int32.toInt_inj]; simp; omega) | (have : 0 ≤ (what).toInt := Int32.le_iff_toInt_le.mp (c36.1); have : (what).toInt ≤ 1 := Int32.le_iff_toInt_le.mp (c36.2); have : (what).toInt ≠ 0 := g_ne (c37); simp only [F_gateOf, Int32.le_iff_toInt_le, Int32.lt_iff_toInt_lt, ← Int32.toInt_inj]; split <;> first | rfl | (exfalso; simp at *; omega)) | (have : 0 ≤ (what).toInt := Int32.le_iff_toInt_le.mp (c36.1); have : (what).toInt ≤ 1 := Int32.le_iff_toInt_le.mp (c36.2); have : (what).toInt ≠ 0 := g_ne (c37); unfold F_gateOf; (repeat' split) <;> first | rfl | (exfalso; (try simp only [Int32.le_iff_toInt_le, Int32.lt_iff_toInt_lt, ← Int32.toInt_inj] at *); first | omega | (simp at *; done) | (simp at *; omega))))
        exfalso
        have : 0 ≤ (f).toInt := Int32.le_iff_toInt_le.mp (c35.1)
        have : (f).toInt ≤ 5 := Int32.le_iff_toInt_le.mp (c35.2)
        have : (f).toInt ≠ 0 := g_ne (c38)
        have : (f).toInt ≠ 1 := g_ne (c39)
        have : (f).toInt ≠ 2 := g_ne (c40)
        have : (f).toInt ≠ 3 := g_ne (c41)
        have : (f).toInt ≠ 4 := g_ne (c42)
        have : (f).toInt ≠ 5 := g_ne (c43)
        omega
      · refine G_bipush (pc := 24) (v := 23) (by decide) dX12_gateOf_24 ?_
        refine G_goto (pc := 26) (tgt := 31) (by decide) dX12_gateOf_26 ?_
        refine G_iload_n (pc := 31) rfl dX12_gateOf_31 ?_
        by_cases c44 : f = 0
        · subst c44
          refine G_iadd (pc := 32) (z := 23) (by decide) dX12_gateOf_32 ?_
          refine G_iald (pc := 33) (jj := 23) (v := 0) (by decide) rfl rfl (by unfold vp_in; decide) dX12_gateOf_33 ?_
          refine G_goto (pc := 34) (tgt := 38) (by decide) dX12_gateOf_34 ?_
          exact G_iret (pc := 38) (Nat.le_of_ble_eq_true rfl) (Nat.le_of_ble_eq_true rfl) rfl dX12_gateOf_38 (by first | rfl | (simp [F_gateOf, *]; done) | (have : 0 ≤ (what).toInt := Int32.le_iff_toInt_le.mp (c36.1); have : (what).toInt ≤ 1 := Int32.le_iff_toInt_le.mp (c36.2); have : (what).toInt = 0 := congrArg Int32.toInt (c37); simp only [F_gateOf, Int32.le_iff_toInt_le, Int32.lt_iff_toInt_lt, ← Int32.toInt_inj]; simp; omega) | (have : 0 ≤ (what).toInt := Int32.le_iff_toInt_le.mp (c36.1); have : (what).toInt ≤ 1 := Int32.le_iff_toInt_le.mp (c36.2); have : (what).toInt = 0 := congrArg Int32.toInt (c37); simp only [F_gateOf, Int32.le_iff_toInt_le, Int32.lt_iff_toInt_lt, ← Int32.toInt_inj]; split <;> first | rfl | (exfalso; simp at *; omega)) | (have : 0 ≤ (what).toInt := Int32.le_iff_toInt_le.mp (c36.1); have : (what).toInt ≤ 1 := Int32.le_iff_toInt_le.mp (c36.2); have : (what).toInt = 0 := congrArg Int32.toInt (c37); unfold F_gateOf; (repeat' split) <;> first | rfl | (exfalso; (try simp only [Int32.le_iff_toInt_le, Int32.lt_iff_toInt_lt, ← Int32.toInt_inj] at *); first | omega | (simp at *; done) | (simp at *; omega))))
        by_cases c45 : f = 1
        · subst c45
          refine G_iadd (pc := 32) (z := 24) (by decide) dX12_gateOf_32 ?_
          refine G_iald (pc := 33) (jj := 24) (v := 0) (by decide) rfl rfl (by unfold vp_in; decide) dX12_gateOf_33 ?_
          refine G_goto (pc := 34) (tgt := 38) (by decide) dX12_gateOf_34 ?_
          exact G_iret (pc := 38) (Nat.le_of_ble_eq_true rfl) (Nat.le_of_ble_eq_true rfl) rfl dX12_gateOf_38 (by first | rfl | (simp [F_gateOf, *]; done) | (have : 0 ≤ (what).toInt := Int32.le_iff_toInt_le.mp (c36.1); have : (what).toInt ≤ 1 := Int32.le_iff_toInt_le.mp (c36.2); have : (what).toInt = 0 := congrArg Int32.toInt (c37); simp only [F_gateOf, Int32.le_iff_toInt_le, Int32.lt_iff_toInt_lt, ← Int32.toInt_inj]; simp; omega) | (have : 0 ≤ (what).toInt := Int32.le_iff_toInt_le.mp (c36.1); have : (what).toInt ≤ 1 := Int32.le_iff_toInt_le.mp (c36.2); have : (what).toInt = 0 := congrArg Int32.toInt (c37); simp only [F_gateOf, Int32.le_iff_toInt_le, Int32.lt_iff_toInt_lt, ← Int32.toInt_inj]; split <;> first | rfl | (exfalso; simp at *; omega)) | (have : 0 ≤ (what).toInt := Int32.le_iff_toInt_le.mp (c36.1); have : (what).toInt ≤ 1 := Int32.le_iff_toInt_le.mp (c36.2); have : (what).toInt = 0 := congrArg Int32.toInt (c37); unfold F_gateOf; (repeat' split) <;> first | rfl | (exfalso; (try simp only [Int32.le_iff_toInt_le, Int32.lt_iff_toInt_lt, ← Int32.toInt_inj] at *); first | omega | (simp at *; done) | (simp at *; omega))))
        by_cases c46 : f = 2
        · subst c46
          refine G_iadd (pc := 32) (z := 25) (by decide) dX12_gateOf_32 ?_
          refine G_iald (pc := 33) (jj := 25) (v := 0) (by decide) rfl rfl (by unfold vp_in; decide) dX12_gateOf_33 ?_
          refine G_goto (pc := 34) (tgt := 38) (by decide) dX12_gateOf_34 ?_
          exact G_iret (pc := 38) (Nat.le_of_ble_eq_true rfl) (Nat.le_of_ble_eq_true rfl) rfl dX12_gateOf_38 (by first | rfl | (simp [F_gateOf, *]; done) | (have : 0 ≤ (what).toInt := Int32.le_iff_toInt_le.mp (c36.1); have : (what).toInt ≤ 1 := Int32.le_iff_toInt_le.mp (c36.2); have : (what).toInt = 0 := congrArg Int32.toInt (c37); simp only [F_gateOf, Int32.le_iff_toInt_le, Int32.lt_iff_toInt_lt, ← Int32.toInt_inj]; simp; omega) | (have : 0 ≤ (what).toInt := Int32.le_iff_toInt_le.mp (c36.1); have : (what).toInt ≤ 1 := Int32.le_iff_toInt_le.mp (c36.2); have : (what).toInt = 0 := congrArg Int32.toInt (c37); simp only [F_gateOf, Int32.le_iff_toInt_le, Int32.lt_iff_toInt_lt, ← Int32.toInt_inj]; split <;> first | rfl | (exfalso; simp at *; omega)) | (have : 0 ≤ (what).toInt := Int32.le_iff_toInt_le.mp (c36.1); have : (what).toInt ≤ 1 := Int32.le_iff_toInt_le.mp (c36.2); have : (what).toInt = 0 := congrArg Int32.toInt (c37); unfold F_gateOf; (repeat' split) <;> first | rfl | (exfalso; (try simp only [Int32.le_iff_toInt_le, Int32.lt_iff_toInt_lt, ← Int32.toInt_inj] at *); first | omega | (simp at *; done) | (simp at *; omega))))
        by_cases c47 : f = 3
        · subst c47
          refine G_iadd (pc := 32) (z := 26) (by decide) dX12_gateOf_32 ?_
          refine G_iald (pc := 33) (jj := 26) (v := 0) (by decide) rfl rfl (by unfold vp_in; decide) dX12_gateOf_33 ?_
          refine G_goto (pc := 34) (tgt := 38) (by decide) dX12_gateOf_34 ?_
          exact G_iret (pc := 38) (Nat.le_of_ble_eq_true rfl) (Nat.le_of_ble_eq_true rfl) rfl dX12_gateOf_38 (by first | rfl | (simp [F_gateOf, *]; done) | (have : 0 ≤ (what).toInt := Int32.le_iff_toInt_le.mp (c36.1); have : (what).toInt ≤ 1 := Int32.le_iff_toInt_le.mp (c36.2); have : (what).toInt = 0 := congrArg Int32.toInt (c37); simp only [F_gateOf, Int32.le_iff_toInt_le, Int32.lt_iff_toInt_lt, ← Int32.toInt_inj]; simp; omega) | (have : 0 ≤ (what).toInt := Int32.le_iff_toInt_le.mp (c36.1); have : (what).toInt ≤ 1 := Int32.le_iff_toInt_le.mp (c36.2); have : (what).toInt = 0 := congrArg Int32.toInt (c37); simp only [F_gateOf, Int32.le_iff_toInt_le, Int32.lt_iff_toInt_lt, ← Int32.toInt_inj]; split <;> first | rfl | (exfalso; simp at *; omega)) | (have : 0 ≤ (what).toInt := Int32.le_iff_toInt_le.mp (c36.1); have : (what).toInt ≤ 1 := Int32.le_iff_toInt_le.mp (c36.2); have : (what).toInt = 0 := congrArg Int32.toInt (c37); unfold F_gateOf; (repeat' split) <;> first | rfl | (exfalso; (try simp only [Int32.le_iff_toInt_le, Int32.lt_iff_toInt_lt, ← Int32.toInt_inj] at *); first | omega | (simp at *; done) | (simp at *; omega))))
        by_cases c48 : f = 4
        · subst c48
          refine G_iadd (pc := 32) (z := 27) (by decide) dX12_gateOf_32 ?_
          refine G_iald (pc := 33) (jj := 27) (v := 0) (by decide) rfl rfl (by unfold vp_in; decide) dX12_gateOf_33 ?_
          refine G_goto (pc := 34) (tgt := 38) (by decide) dX12_gateOf_34 ?_
          exact G_iret (pc := 38) (Nat.le_of_ble_eq_true rfl) (Nat.le_of_ble_eq_true rfl) rfl dX12_gateOf_38 (by first | rfl | (simp [F_gateOf, *]; done) | (have : 0 ≤ (what).toInt := Int32.le_iff_toInt_le.mp (c36.1); have : (what).toInt ≤ 1 := Int32.le_iff_toInt_le.mp (c36.2); have : (what).toInt = 0 := congrArg Int32.toInt (c37); simp only [F_gateOf, Int32.le_iff_toInt_le, Int32.lt_iff_toInt_lt, ← Int32.toInt_inj]; simp; omega) | (have : 0 ≤ (what).toInt := Int32.le_iff_toInt_le.mp (c36.1); have : (what).toInt ≤ 1 := Int32.le_iff_toInt_le.mp (c36.2); have : (what).toInt = 0 := congrArg Int32.toInt (c37); simp only [F_gateOf, Int32.le_iff_toInt_le, Int32.lt_iff_toInt_lt, ← Int32.toInt_inj]; split <;> first | rfl | (exfalso; simp at *; omega)) | (have : 0 ≤ (what).toInt := Int32.le_iff_toInt_le.mp (c36.1); have : (what).toInt ≤ 1 := Int32.le_iff_toInt_le.mp (c36.2); have : (what).toInt = 0 := congrArg Int32.toInt (c37); unfold F_gateOf; (repeat' split) <;> first | rfl | (exfalso; (try simp only [Int32.le_iff_toInt_le, Int32.lt_iff_toInt_lt, ← Int32.toInt_inj] at *); first | omega | (simp at *; done) | (simp at *; omega))))
        by_cases c49 : f = 5
        · subst c49
          refine G_iadd (pc := 32) (z := 28) (by decide) dX12_gateOf_32 ?_
          refine G_iald (pc := 33) (jj := 28) (v := 0) (by decide) rfl rfl (by unfold vp_in; decide) dX12_gateOf_33 ?_
          refine G_goto (pc := 34) (tgt := 38) (by decide) dX12_gateOf_34 ?_
          exact G_iret (pc := 38) (Nat.le_of_ble_eq_true rfl) (Nat.le_of_ble_eq_true rfl) rfl dX12_gateOf_38 (by first | rfl | (simp [F_gateOf, *]; done) | (have : 0 ≤ (what).toInt := Int32.le_iff_toInt_le.mp (c36.1); have : (what).toInt ≤ 1 := Int32.le_iff_toInt_le.mp (c36.2); have : (what).toInt = 0 := congrArg Int32.toInt (c37); simp only [F_gateOf, Int32.le_iff_toInt_le, Int32.lt_iff_toInt_lt, ← Int32.toInt_inj]; simp; omega) | (have : 0 ≤ (what).toInt := Int32.le_iff_toInt_le.mp (c36.1); have : (what).toInt ≤ 1 := Int32.le_iff_toInt_le.mp (c36.2); have : (what).toInt = 0 := congrArg Int32.toInt (c37); simp only [F_gateOf, Int32.le_iff_toInt_le, Int32.lt_iff_toInt_lt, ← Int32.toInt_inj]; split <;> first | rfl | (exfalso; simp at *; omega)) | (have : 0 ≤ (what).toInt := Int32.le_iff_toInt_le.mp (c36.1); have : (what).toInt ≤ 1 := Int32.le_iff_toInt_le.mp (c36.2); have : (what).toInt = 0 := congrArg Int32.toInt (c37); unfold F_gateOf; (repeat' split) <;> first | rfl | (exfalso; (try simp only [Int32.le_iff_toInt_le, Int32.lt_iff_toInt_lt, ← Int32.toInt_inj] at *); first | omega | (simp at *; done) | (simp at *; omega))))
        exfalso
        have : 0 ≤ (f).toInt := Int32.le_iff_toInt_le.mp (c35.1)
        have : (f).toInt ≤ 5 := Int32.le_iff_toInt_le.mp (c35.2)
        have : (f).toInt ≠ 0 := g_ne (c44)
        have : (f).toInt ≠ 1 := g_ne (c45)
        have : (f).toInt ≠ 2 := g_ne (c46)
        have : (f).toInt ≠ 3 := g_ne (c47)
        have : (f).toInt ≠ 4 := g_ne (c48)
        have : (f).toInt ≠ 5 := g_ne (c49)
        omega
set_option maxRecDepth 100000 in
set_option maxHeartbeats 4000000 in
theorem z_when (J : gI) (d : Nat) (k : Int32) : G (d + 2) mX12_when 0 0 0 0 0 (gent 5 [.ref 67, .int k]) [] SH0 RF0 (gmx J) (fun r _ => r = some (.int (F_when k))) := by
  refine G_aload_n (pc := 0) rfl dX12_when_0 ?_
  refine G_iload_n (pc := 1) rfl dX12_when_1 ?_
  refine G_callV (pc := 2) (mc1 := 0) (ms1 := 0) (ci := 12) (mj := mX12_isKey) (vs := [_]) dX12_when_2 rfl rfl cm_X12_isKey wh_14 wh_16 wh_17 rfl (Nat.le_of_ble_eq_true rfl) (Nat.le_of_ble_eq_true rfl) (Nat.le_of_ble_eq_true rfl) (Nat.le_of_ble_eq_true rfl) (s10008_X12_isKey J d  _) ?_
  rintro _ _ ⟨rfl, rfl⟩
  dsimp only [Option.toList, List.cons_append, List.nil_append]
  refine G_if_ne (pc := 5) (tgt := 10) (by decide) dX12_when_5 (fun c50 => ?_) (fun c50 => ?_)
  · have c50 := gB_o c50
    exfalso; have : 0 ≤ (k).toInt := Int32.le_iff_toInt_le.mp (c50.1); have : (k).toInt ≤ -1 := Int32.le_iff_toInt_le.mp (c50.2); omega
  · have c50 := gB_z c50
    refine G_iconst (pc := 8) (v := (-1)) (by decide) dX12_when_8 ?_
    exact G_iret (pc := 9) (Nat.le_of_ble_eq_true rfl) (Nat.le_of_ble_eq_true rfl) rfl dX12_when_9 (by first | rfl | (simp [F_when, *]; done) | (have : ¬ (0 ≤ (k).toInt ∧ (k).toInt ≤ -1) := fun z => c50 ⟨Int32.le_iff_toInt_le.mpr z.1, Int32.le_iff_toInt_le.mpr z.2⟩; simp only [F_when, Int32.le_iff_toInt_le, Int32.lt_iff_toInt_lt, ← Int32.toInt_inj]; simp; omega) | (have : ¬ (0 ≤ (k).toInt ∧ (k).toInt ≤ -1) := fun z => c50 ⟨Int32.le_iff_toInt_le.mpr z.1, Int32.le_iff_toInt_le.mpr z.2⟩; simp only [F_when, Int32.le_iff_toInt_le, Int32.lt_iff_toInt_lt, ← Int32.toInt_inj]; split <;> first | rfl | (exfalso; simp at *; omega)) | (have : ¬ (0 ≤ (k).toInt ∧ (k).toInt ≤ -1) := fun z => c50 ⟨Int32.le_iff_toInt_le.mpr z.1, Int32.le_iff_toInt_le.mpr z.2⟩; unfold F_when; (repeat' split) <;> first | rfl | (exfalso; (try simp only [Int32.le_iff_toInt_le, Int32.lt_iff_toInt_lt, ← Int32.toInt_inj] at *); first | omega | (simp at *; done) | (simp at *; omega))))
set_option maxRecDepth 100000 in
set_option maxHeartbeats 4000000 in
theorem s10017_X12_isKey (J : gI) (d : Nat)  (a0 : Int32) : G (d + 1) mX12_isKey 0 0 0 0 0 (gent 2 [.ref 67, .int a0]) [] SH0 RF0 (gmx J) (fun r h => r = some (.int (gB (0 ≤ a0 ∧ a0 ≤ (-1)))) ∧ h = (SH0, RF0, (gmx J))) := by
  refine G_iload_n (pc := 0) rfl dX12_isKey_0 ?_
  refine G_iconst (pc := 1) (v := 0) (by decide) dX12_isKey_1 ?_
  refine G_aload_n (pc := 2) rfl dX12_isKey_2 ?_
  refine G_getR (pc := 3) (r := 68) (ci := 12) (j := 0) rfl lk_RX12_9 rfl rfl rfl dX12_isKey_3 ?_
  refine G_iconst (pc := 6) (v := 4) (by decide) dX12_isKey_6 ?_
  refine G_iald (pc := 7) (jj := 4) (v := 0) (by decide) rfl rfl (by unfold vp_in; decide) dX12_isKey_7 ?_
  refine G_iconst (pc := 8) (v := 1) (by decide) dX12_isKey_8 ?_
  refine G_isub (pc := 9) (z := (-1)) (by decide) dX12_isKey_9 ?_
  refine G_callS (pc := 10) (mc1 := 0) (ms1 := 0) (mj := mX12_in1) (vs := [_, _, _]) dX12_isKey_10 cm_X12_in1 wh_0 wh_3 rfl (Nat.le_of_ble_eq_true rfl) (Nat.le_of_ble_eq_true rfl) (Nat.le_of_ble_eq_true rfl) (Nat.le_of_ble_eq_true rfl) (in1_s d a0 0 ((-1))) ?_
  rintro _ _ ⟨rfl, rfl⟩
  dsimp only [Option.toList, List.cons_append, List.nil_append]
  exact G_zret (pc := 13) (Nat.le_of_ble_eq_true rfl) (Nat.le_of_ble_eq_true rfl) rfl gB_01 dX12_isKey_13 ⟨rfl, rfl⟩
set_option maxRecDepth 100000 in
set_option maxHeartbeats 4000000 in
theorem s10016_X12_bestFor (J : gI) (d : Nat)  (a0 : Int32) : G (d + 2) mX12_bestFor 0 0 0 0 0 (gent 8 [.ref 67, .int a0, .int 2, .int 9]) [] SH0 RF0 (gmx J) (fun r h => r = some (.int (-1)) ∧ h = (SH0, RF0, (gmx J))) := by
  refine G_aload_n (pc := 0) rfl dX12_bestFor_0 ?_
  refine G_iload_n (pc := 1) rfl dX12_bestFor_1 ?_
  refine G_callV (pc := 2) (mc1 := 0) (ms1 := 0) (ci := 12) (mj := mX12_isKey) (vs := [_]) dX12_bestFor_2 rfl rfl cm_X12_isKey wh_14 wh_16 wh_17 rfl (Nat.le_of_ble_eq_true rfl) (Nat.le_of_ble_eq_true rfl) (Nat.le_of_ble_eq_true rfl) (Nat.le_of_ble_eq_true rfl) (s10017_X12_isKey J d  _) ?_
  rintro _ _ ⟨rfl, rfl⟩
  dsimp only [Option.toList, List.cons_append, List.nil_append]
  refine G_if_ne (pc := 5) (tgt := 10) (by decide) dX12_bestFor_5 (fun c51 => ?_) (fun c51 => ?_)
  · have c51 := gB_o c51
    exfalso; have : 0 ≤ (a0).toInt := Int32.le_iff_toInt_le.mp (c51.1); have : (a0).toInt ≤ -1 := Int32.le_iff_toInt_le.mp (c51.2); omega
  · have c51 := gB_z c51
    refine G_iconst (pc := 8) (v := (-1)) (by decide) dX12_bestFor_8 ?_
    exact G_iret (pc := 9) (Nat.le_of_ble_eq_true rfl) (Nat.le_of_ble_eq_true rfl) rfl dX12_bestFor_9 ⟨rfl, rfl⟩
set_option maxRecDepth 100000 in
set_option maxHeartbeats 4000000 in
theorem z_strawFor (J : gI) (d : Nat) (k : Int32) : G (d + 3) mX12_strawFor 0 0 0 0 0 (gent 2 [.ref 67, .int k]) [] SH0 RF0 (gmx J) (fun r _ => r = some (.int (F_strawFor k))) := by
  refine G_aload_n (pc := 0) rfl dX12_strawFor_0 ?_
  refine G_iload_n (pc := 1) rfl dX12_strawFor_1 ?_
  refine G_iconst (pc := 2) (v := 2) (by decide) dX12_strawFor_2 ?_
  refine G_bipush (pc := 3) (v := 9) (by decide) dX12_strawFor_3 ?_
  refine G_callV (pc := 5) (mc1 := 0) (ms1 := 0) (ci := 12) (mj := mX12_bestFor) (vs := [_, _, _]) dX12_strawFor_5 rfl rfl cm_X12_bestFor wh_38 wh_40 wh_41 rfl (Nat.le_of_ble_eq_true rfl) (Nat.le_of_ble_eq_true rfl) (Nat.le_of_ble_eq_true rfl) (Nat.le_of_ble_eq_true rfl) (s10016_X12_bestFor J d  _) ?_
  rintro _ _ ⟨rfl, rfl⟩
  dsimp only [Option.toList, List.cons_append, List.nil_append]
  exact G_iret (pc := 8) (Nat.le_of_ble_eq_true rfl) (Nat.le_of_ble_eq_true rfl) rfl dX12_strawFor_8 (by first | rfl | (simp [F_strawFor, *]; done) | (simp only [F_strawFor, Int32.le_iff_toInt_le, Int32.lt_iff_toInt_lt, ← Int32.toInt_inj]; simp; omega) | (simp only [F_strawFor, Int32.le_iff_toInt_le, Int32.lt_iff_toInt_lt, ← Int32.toInt_inj]; split <;> first | rfl | (exfalso; simp at *; omega)) | (unfold F_strawFor; (repeat' split) <;> first | rfl | (exfalso; (try simp only [Int32.le_iff_toInt_le, Int32.lt_iff_toInt_lt, ← Int32.toInt_inj] at *); first | omega | (simp at *; done) | (simp at *; omega))))
set_option maxRecDepth 100000 in
set_option maxHeartbeats 4000000 in
theorem s10018_X12_bestFor (J : gI) (d : Nat)  (a0 : Int32) : G (d + 2) mX12_bestFor 0 0 0 0 0 (gent 8 [.ref 67, .int a0, .int 3, .int 5]) [] SH0 RF0 (gmx J) (fun r h => r = some (.int (-1)) ∧ h = (SH0, RF0, (gmx J))) := by
  refine G_aload_n (pc := 0) rfl dX12_bestFor_0 ?_
  refine G_iload_n (pc := 1) rfl dX12_bestFor_1 ?_
  refine G_callV (pc := 2) (mc1 := 0) (ms1 := 0) (ci := 12) (mj := mX12_isKey) (vs := [_]) dX12_bestFor_2 rfl rfl cm_X12_isKey wh_14 wh_16 wh_17 rfl (Nat.le_of_ble_eq_true rfl) (Nat.le_of_ble_eq_true rfl) (Nat.le_of_ble_eq_true rfl) (Nat.le_of_ble_eq_true rfl) (s10017_X12_isKey J d  _) ?_
  rintro _ _ ⟨rfl, rfl⟩
  dsimp only [Option.toList, List.cons_append, List.nil_append]
  refine G_if_ne (pc := 5) (tgt := 10) (by decide) dX12_bestFor_5 (fun c52 => ?_) (fun c52 => ?_)
  · have c52 := gB_o c52
    exfalso; have : 0 ≤ (a0).toInt := Int32.le_iff_toInt_le.mp (c52.1); have : (a0).toInt ≤ -1 := Int32.le_iff_toInt_le.mp (c52.2); omega
  · have c52 := gB_z c52
    refine G_iconst (pc := 8) (v := (-1)) (by decide) dX12_bestFor_8 ?_
    exact G_iret (pc := 9) (Nat.le_of_ble_eq_true rfl) (Nat.le_of_ble_eq_true rfl) rfl dX12_bestFor_9 ⟨rfl, rfl⟩
set_option maxRecDepth 100000 in
set_option maxHeartbeats 4000000 in
theorem z_gateFor (J : gI) (d : Nat) (k : Int32) : G (d + 3) mX12_gateFor 0 0 0 0 0 (gent 2 [.ref 67, .int k]) [] SH0 RF0 (gmx J) (fun r _ => r = some (.int (F_gateFor k))) := by
  refine G_aload_n (pc := 0) rfl dX12_gateFor_0 ?_
  refine G_iload_n (pc := 1) rfl dX12_gateFor_1 ?_
  refine G_iconst (pc := 2) (v := 3) (by decide) dX12_gateFor_2 ?_
  refine G_iconst (pc := 3) (v := 5) (by decide) dX12_gateFor_3 ?_
  refine G_callV (pc := 4) (mc1 := 0) (ms1 := 0) (ci := 12) (mj := mX12_bestFor) (vs := [_, _, _]) dX12_gateFor_4 rfl rfl cm_X12_bestFor wh_38 wh_40 wh_41 rfl (Nat.le_of_ble_eq_true rfl) (Nat.le_of_ble_eq_true rfl) (Nat.le_of_ble_eq_true rfl) (Nat.le_of_ble_eq_true rfl) (s10018_X12_bestFor J d  _) ?_
  rintro _ _ ⟨rfl, rfl⟩
  dsimp only [Option.toList, List.cons_append, List.nil_append]
  exact G_iret (pc := 7) (Nat.le_of_ble_eq_true rfl) (Nat.le_of_ble_eq_true rfl) rfl dX12_gateFor_7 (by first | rfl | (simp [F_gateFor, *]; done) | (simp only [F_gateFor, Int32.le_iff_toInt_le, Int32.lt_iff_toInt_lt, ← Int32.toInt_inj]; simp; omega) | (simp only [F_gateFor, Int32.le_iff_toInt_le, Int32.lt_iff_toInt_lt, ← Int32.toInt_inj]; split <;> first | rfl | (exfalso; simp at *; omega)) | (unfold F_gateFor; (repeat' split) <;> first | rfl | (exfalso; (try simp only [Int32.le_iff_toInt_le, Int32.lt_iff_toInt_lt, ← Int32.toInt_inj] at *); first | omega | (simp at *; done) | (simp at *; omega))))
set_option maxRecDepth 100000 in
set_option maxHeartbeats 4000000 in
theorem z_gone (J : gI) (d : Nat) (k : Int32) : G (d + 2) mX12_gone 0 0 0 0 0 (gent 4 [.ref 67, .int k]) [] SH0 RF0 (gmx J) (fun r _ => r = some (.int (F_gone k))) := by
  refine G_aload_n (pc := 0) rfl dX12_gone_0 ?_
  refine G_iload_n (pc := 1) rfl dX12_gone_1 ?_
  refine G_callV (pc := 2) (mc1 := 0) (ms1 := 0) (ci := 12) (mj := mX12_isKey) (vs := [_]) dX12_gone_2 rfl rfl cm_X12_isKey wh_14 wh_16 wh_17 rfl (Nat.le_of_ble_eq_true rfl) (Nat.le_of_ble_eq_true rfl) (Nat.le_of_ble_eq_true rfl) (Nat.le_of_ble_eq_true rfl) (s10008_X12_isKey J d  _) ?_
  rintro _ _ ⟨rfl, rfl⟩
  dsimp only [Option.toList, List.cons_append, List.nil_append]
  refine G_if_ne (pc := 5) (tgt := 10) (by decide) dX12_gone_5 (fun c53 => ?_) (fun c53 => ?_)
  · have c53 := gB_o c53
    exfalso; have : 0 ≤ (k).toInt := Int32.le_iff_toInt_le.mp (c53.1); have : (k).toInt ≤ -1 := Int32.le_iff_toInt_le.mp (c53.2); omega
  · have c53 := gB_z c53
    refine G_iconst (pc := 8) (v := (-1)) (by decide) dX12_gone_8 ?_
    exact G_iret (pc := 9) (Nat.le_of_ble_eq_true rfl) (Nat.le_of_ble_eq_true rfl) rfl dX12_gone_9 (by first | rfl | (simp [F_gone, *]; done) | (have : ¬ (0 ≤ (k).toInt ∧ (k).toInt ≤ -1) := fun z => c53 ⟨Int32.le_iff_toInt_le.mpr z.1, Int32.le_iff_toInt_le.mpr z.2⟩; simp only [F_gone, Int32.le_iff_toInt_le, Int32.lt_iff_toInt_lt, ← Int32.toInt_inj]; simp; omega) | (have : ¬ (0 ≤ (k).toInt ∧ (k).toInt ≤ -1) := fun z => c53 ⟨Int32.le_iff_toInt_le.mpr z.1, Int32.le_iff_toInt_le.mpr z.2⟩; simp only [F_gone, Int32.le_iff_toInt_le, Int32.lt_iff_toInt_lt, ← Int32.toInt_inj]; split <;> first | rfl | (exfalso; simp at *; omega)) | (have : ¬ (0 ≤ (k).toInt ∧ (k).toInt ≤ -1) := fun z => c53 ⟨Int32.le_iff_toInt_le.mpr z.1, Int32.le_iff_toInt_le.mpr z.2⟩; unfold F_gone; (repeat' split) <;> first | rfl | (exfalso; (try simp only [Int32.le_iff_toInt_le, Int32.lt_iff_toInt_lt, ← Int32.toInt_inj] at *); first | omega | (simp at *; done) | (simp at *; omega))))
set_option maxRecDepth 100000 in
set_option maxHeartbeats 4000000 in
theorem z_opens (J : gI) (d : Nat) (k : Int32) : G (d + 2) mX12_opens 0 0 0 0 0 (gent 4 [.ref 67, .int k]) [] SH0 RF0 (gmx J) (fun r _ => r = some (.int (F_opens k))) := by
  refine G_aload_n (pc := 0) rfl dX12_opens_0 ?_
  refine G_iload_n (pc := 1) rfl dX12_opens_1 ?_
  refine G_callV (pc := 2) (mc1 := 0) (ms1 := 0) (ci := 12) (mj := mX12_isKey) (vs := [_]) dX12_opens_2 rfl rfl cm_X12_isKey wh_14 wh_16 wh_17 rfl (Nat.le_of_ble_eq_true rfl) (Nat.le_of_ble_eq_true rfl) (Nat.le_of_ble_eq_true rfl) (Nat.le_of_ble_eq_true rfl) (s10008_X12_isKey J d  _) ?_
  rintro _ _ ⟨rfl, rfl⟩
  dsimp only [Option.toList, List.cons_append, List.nil_append]
  refine G_if_ne (pc := 5) (tgt := 10) (by decide) dX12_opens_5 (fun c54 => ?_) (fun c54 => ?_)
  · have c54 := gB_o c54
    exfalso; have : 0 ≤ (k).toInt := Int32.le_iff_toInt_le.mp (c54.1); have : (k).toInt ≤ -1 := Int32.le_iff_toInt_le.mp (c54.2); omega
  · have c54 := gB_z c54
    refine G_iconst (pc := 8) (v := (-1)) (by decide) dX12_opens_8 ?_
    exact G_iret (pc := 9) (Nat.le_of_ble_eq_true rfl) (Nat.le_of_ble_eq_true rfl) rfl dX12_opens_9 (by first | rfl | (simp [F_opens, *]; done) | (have : ¬ (0 ≤ (k).toInt ∧ (k).toInt ≤ -1) := fun z => c54 ⟨Int32.le_iff_toInt_le.mpr z.1, Int32.le_iff_toInt_le.mpr z.2⟩; simp only [F_opens, Int32.le_iff_toInt_le, Int32.lt_iff_toInt_lt, ← Int32.toInt_inj]; simp; omega) | (have : ¬ (0 ≤ (k).toInt ∧ (k).toInt ≤ -1) := fun z => c54 ⟨Int32.le_iff_toInt_le.mpr z.1, Int32.le_iff_toInt_le.mpr z.2⟩; simp only [F_opens, Int32.le_iff_toInt_le, Int32.lt_iff_toInt_lt, ← Int32.toInt_inj]; split <;> first | rfl | (exfalso; simp at *; omega)) | (have : ¬ (0 ≤ (k).toInt ∧ (k).toInt ≤ -1) := fun z => c54 ⟨Int32.le_iff_toInt_le.mpr z.1, Int32.le_iff_toInt_le.mpr z.2⟩; unfold F_opens; (repeat' split) <;> first | rfl | (exfalso; (try simp only [Int32.le_iff_toInt_le, Int32.lt_iff_toInt_lt, ← Int32.toInt_inj] at *); first | omega | (simp at *; done) | (simp at *; omega))))
set_option maxRecDepth 100000 in
set_option maxHeartbeats 4000000 in
theorem s10019_X12_isKey (J : gI) (d : Nat)  (a0 : Int32) : G (d + 1) mX12_isKey 0 0 0 0 0 (gent 2 [.ref 67, .int a0]) [] SH0 RF0 (gmx J) (fun r h => r = some (.int (gB (0 ≤ a0 ∧ a0 ≤ (-1)))) ∧ h = (SH0, RF0, (gmx J))) := by
  refine G_iload_n (pc := 0) rfl dX12_isKey_0 ?_
  refine G_iconst (pc := 1) (v := 0) (by decide) dX12_isKey_1 ?_
  refine G_aload_n (pc := 2) rfl dX12_isKey_2 ?_
  refine G_getR (pc := 3) (r := 68) (ci := 12) (j := 0) rfl lk_RX12_9 rfl rfl rfl dX12_isKey_3 ?_
  refine G_iconst (pc := 6) (v := 4) (by decide) dX12_isKey_6 ?_
  refine G_iald (pc := 7) (jj := 4) (v := 0) (by decide) rfl rfl (by unfold vp_in; decide) dX12_isKey_7 ?_
  refine G_iconst (pc := 8) (v := 1) (by decide) dX12_isKey_8 ?_
  refine G_isub (pc := 9) (z := (-1)) (by decide) dX12_isKey_9 ?_
  refine G_callS (pc := 10) (mc1 := 0) (ms1 := 0) (mj := mX12_in1) (vs := [_, _, _]) dX12_isKey_10 cm_X12_in1 wh_0 wh_3 rfl (Nat.le_of_ble_eq_true rfl) (Nat.le_of_ble_eq_true rfl) (Nat.le_of_ble_eq_true rfl) (Nat.le_of_ble_eq_true rfl) (in1_s d a0 0 ((-1))) ?_
  rintro _ _ ⟨rfl, rfl⟩
  dsimp only [Option.toList, List.cons_append, List.nil_append]
  exact G_zret (pc := 13) (Nat.le_of_ble_eq_true rfl) (Nat.le_of_ble_eq_true rfl) rfl gB_01 dX12_isKey_13 ⟨rfl, rfl⟩
set_option maxRecDepth 100000 in
set_option maxHeartbeats 4000000 in
theorem z_bunches (J : gI) (d : Nat) (what : Int32) : G (d + 2) mX12_bunches 0 0 0 0 0 (gent 5 [.ref 67, .int what]) [] SH0 RF0 (gmx J) (fun r _ => r = some (.int (F_bunches what))) := by
  refine G_iload_n (pc := 0) rfl dX12_bunches_0 ?_
  refine G_iconst (pc := 1) (v := (-1)) (by decide) dX12_bunches_1 ?_
  refine G_icmp_eq (pc := 2) (tgt := 15) (by decide) dX12_bunches_2 (fun c55 => ?_) (fun c55 => ?_)
  · refine G_iload_n (pc := 15) rfl dX12_bunches_15 ?_
    refine G_if_lt (pc := 16) (tgt := 25) (by decide) dX12_bunches_16 (fun c56 => ?_) (fun c56 => ?_)
    · refine G_iconst (pc := 25) (v := 0) (by decide) dX12_bunches_25 ?_
      refine G_istore_n (pc := 26) (L1 := [some (.ref 67), some (.int what), some (.int 0), none, none]) rfl rfl (by decide) dX12_bunches_26 ?_
      refine G_iconst (pc := 27) (v := 0) (by decide) dX12_bunches_27 ?_
      refine G_istore_n (pc := 28) (L1 := [some (.ref 67), some (.int what), some (.int 0), some (.int 0), none]) rfl rfl (by decide) dX12_bunches_28 ?_
      refine G_iload_n (pc := 29) rfl dX12_bunches_29 ?_
      refine G_aload_n (pc := 30) rfl dX12_bunches_30 ?_
      refine G_getR (pc := 31) (r := 68) (ci := 12) (j := 0) rfl lk_RX12_9 rfl rfl rfl dX12_bunches_31 ?_
      refine G_iconst (pc := 34) (v := 4) (by decide) dX12_bunches_34 ?_
      refine G_iald (pc := 35) (jj := 4) (v := 0) (by decide) rfl rfl (by unfold vp_in; decide) dX12_bunches_35 ?_
      refine G_icmp_ge (pc := 36) (tgt := 74) (by decide) dX12_bunches_36 (fun _ => ?_) (fun z => absurd (by decide) z)
      refine G_iload_n (pc := 74) rfl dX12_bunches_74 ?_
      exact G_iret (pc := 75) (Nat.le_of_ble_eq_true rfl) (Nat.le_of_ble_eq_true rfl) rfl dX12_bunches_75 (by first | rfl | (simp [F_bunches, *]; done) | (have : (what).toInt = -1 := congrArg Int32.toInt (c55); have : (what).toInt < 0 := Int32.lt_iff_toInt_lt.mp (c56); simp only [F_bunches, Int32.le_iff_toInt_le, Int32.lt_iff_toInt_lt, ← Int32.toInt_inj]; simp; omega) | (have : (what).toInt = -1 := congrArg Int32.toInt (c55); have : (what).toInt < 0 := Int32.lt_iff_toInt_lt.mp (c56); simp only [F_bunches, Int32.le_iff_toInt_le, Int32.lt_iff_toInt_lt, ← Int32.toInt_inj]; split <;> first | rfl | (exfalso; simp at *; omega)) | (have : (what).toInt = -1 := congrArg Int32.toInt (c55); have : (what).toInt < 0 := Int32.lt_iff_toInt_lt.mp (c56); unfold F_bunches; (repeat' split) <;> first | rfl | (exfalso; (try simp only [Int32.le_iff_toInt_le, Int32.lt_iff_toInt_lt, ← Int32.toInt_inj] at *); first | omega | (simp at *; done) | (simp at *; omega))))
    · exfalso; have : (what).toInt = -1 := congrArg Int32.toInt (c55); have : 0 ≤ (what).toInt := Int32.le_iff_toInt_le.mp (Int32.not_lt.mp c56); omega
  · refine G_aload_n (pc := 5) rfl dX12_bunches_5 ?_
    refine G_iload_n (pc := 6) rfl dX12_bunches_6 ?_
    refine G_callV (pc := 7) (mc1 := 0) (ms1 := 0) (ci := 12) (mj := mX12_isKey) (vs := [_]) dX12_bunches_7 rfl rfl cm_X12_isKey wh_14 wh_16 wh_17 rfl (Nat.le_of_ble_eq_true rfl) (Nat.le_of_ble_eq_true rfl) (Nat.le_of_ble_eq_true rfl) (Nat.le_of_ble_eq_true rfl) (s10019_X12_isKey J d  _) ?_
    rintro _ _ ⟨rfl, rfl⟩
    dsimp only [Option.toList, List.cons_append, List.nil_append]
    refine G_if_ne (pc := 10) (tgt := 15) (by decide) dX12_bunches_10 (fun c57 => ?_) (fun c57 => ?_)
    · have c57 := gB_o c57
      exfalso; have : (what).toInt ≠ -1 := g_ne (c55); have : 0 ≤ (what).toInt := Int32.le_iff_toInt_le.mp (c57.1); have : (what).toInt ≤ -1 := Int32.le_iff_toInt_le.mp (c57.2); omega
    · have c57 := gB_z c57
      refine G_iconst (pc := 13) (v := (-1)) (by decide) dX12_bunches_13 ?_
      exact G_iret (pc := 14) (Nat.le_of_ble_eq_true rfl) (Nat.le_of_ble_eq_true rfl) rfl dX12_bunches_14 (by first | rfl | (simp [F_bunches, *]; done) | (have : (what).toInt ≠ -1 := g_ne (c55); have : ¬ (0 ≤ (what).toInt ∧ (what).toInt ≤ -1) := fun z => c57 ⟨Int32.le_iff_toInt_le.mpr z.1, Int32.le_iff_toInt_le.mpr z.2⟩; simp only [F_bunches, Int32.le_iff_toInt_le, Int32.lt_iff_toInt_lt, ← Int32.toInt_inj]; simp; omega) | (have : (what).toInt ≠ -1 := g_ne (c55); have : ¬ (0 ≤ (what).toInt ∧ (what).toInt ≤ -1) := fun z => c57 ⟨Int32.le_iff_toInt_le.mpr z.1, Int32.le_iff_toInt_le.mpr z.2⟩; simp only [F_bunches, Int32.le_iff_toInt_le, Int32.lt_iff_toInt_lt, ← Int32.toInt_inj]; split <;> first | rfl | (exfalso; simp at *; omega)) | (have : (what).toInt ≠ -1 := g_ne (c55); have : ¬ (0 ≤ (what).toInt ∧ (what).toInt ≤ -1) := fun z => c57 ⟨Int32.le_iff_toInt_le.mpr z.1, Int32.le_iff_toInt_le.mpr z.2⟩; unfold F_bunches; (repeat' split) <;> first | rfl | (exfalso; (try simp only [Int32.le_iff_toInt_le, Int32.lt_iff_toInt_lt, ← Int32.toInt_inj] at *); first | omega | (simp at *; done) | (simp at *; omega))))
set_option maxRecDepth 100000 in
set_option maxHeartbeats 4000000 in
theorem s10020_X12_becomes (J : gI) (d : Nat)   : G (d) mX12_becomes 0 0 0 0 0 (gent 4 [.ref 67, .int 6, .int 0]) [] SH0 RF0 (gmx J) (fun r h => r = some (.int 0) ∧ h = (SH0, RF0, (gup (gmx J) 68 6 0))) := by
  refine G_aload_n (pc := 0) rfl dX12_becomes_0 ?_
  refine G_getR (pc := 1) (r := 68) (ci := 12) (j := 0) rfl lk_RX12_9 rfl rfl rfl dX12_becomes_1 ?_
  refine G_iload_n (pc := 4) rfl dX12_becomes_4 ?_
  refine G_iald (pc := 5) (jj := 6) (v := 0) (by decide) rfl rfl (by unfold vp_in; decide) dX12_becomes_5 ?_
  refine G_istore_n (pc := 6) (L1 := [some (.ref 67), some (.int 6), some (.int 0), some (.int 0)]) rfl rfl (by decide) dX12_becomes_6 ?_
  refine G_aload_n (pc := 7) rfl dX12_becomes_7 ?_
  refine G_getR (pc := 8) (r := 68) (ci := 12) (j := 0) rfl lk_RX12_9 rfl rfl rfl dX12_becomes_8 ?_
  refine G_iload_n (pc := 11) rfl dX12_becomes_11 ?_
  refine G_iload_n (pc := 12) rfl dX12_becomes_12 ?_
  refine G_iast (pc := 13) (jj := 6) (by decide) rfl (by unfold vp_in; decide) dX12_becomes_13 ?_
  refine G_iload_n (pc := 14) rfl dX12_becomes_14 ?_
  exact G_iret (pc := 15) (Nat.le_of_ble_eq_true rfl) (Nat.le_of_ble_eq_true rfl) rfl dX12_becomes_15 ⟨rfl, rfl⟩
set_option maxRecDepth 100000 in
set_option maxHeartbeats 4000000 in
theorem z_forget (J : gI) (d : Nat)  : G (d + 1) mX12_forget 0 0 0 0 0 (gent 1 [.ref 67]) [] SH0 RF0 (gmx J) (fun r _ => r = some (.int (F_forget ))) := by
  refine G_aload_n (pc := 0) rfl dX12_forget_0 ?_
  refine G_bipush (pc := 1) (v := 6) (by decide) dX12_forget_1 ?_
  refine G_iconst (pc := 3) (v := 0) (by decide) dX12_forget_3 ?_
  refine G_callV (pc := 4) (mc1 := 0) (ms1 := 0) (ci := 12) (mj := mX12_becomes) (vs := [_, _]) dX12_forget_4 rfl rfl cm_X12_becomes wh_18 wh_20 wh_21 rfl (Nat.le_of_ble_eq_true rfl) (Nat.le_of_ble_eq_true rfl) (Nat.le_of_ble_eq_true rfl) (Nat.le_of_ble_eq_true rfl) (s10020_X12_becomes J d  ) ?_
  rintro _ _ ⟨rfl, rfl⟩
  dsimp only [Option.toList, List.cons_append, List.nil_append]
  exact G_iret (pc := 7) (Nat.le_of_ble_eq_true rfl) (Nat.le_of_ble_eq_true rfl) rfl dX12_forget_7 (by first | rfl | (simp [F_forget, *]; done) | (simp only [F_forget, Int32.le_iff_toInt_le, Int32.lt_iff_toInt_lt, ← Int32.toInt_inj]; simp; omega) | (simp only [F_forget, Int32.le_iff_toInt_le, Int32.lt_iff_toInt_lt, ← Int32.toInt_inj]; split <;> first | rfl | (exfalso; simp at *; omega)) | (unfold F_forget; (repeat' split) <;> first | rfl | (exfalso; (try simp only [Int32.le_iff_toInt_le, Int32.lt_iff_toInt_lt, ← Int32.toInt_inj] at *); first | omega | (simp at *; done) | (simp at *; omega))))
set_option maxRecDepth 100000 in
set_option maxHeartbeats 4000000 in
theorem s10021_X12_becomes (J : gI) (d : Nat)  (a0 : Int32) : G (d) mX12_becomes 0 0 0 0 0 (gent 4 [.ref 67, .int 3, .int a0]) [] SH0 RF0 (gmx J) (fun r h => r = some (.int 1) ∧ h = (SH0, RF0, (gup (gmx J) 68 3 a0))) := by
  refine G_aload_n (pc := 0) rfl dX12_becomes_0 ?_
  refine G_getR (pc := 1) (r := 68) (ci := 12) (j := 0) rfl lk_RX12_9 rfl rfl rfl dX12_becomes_1 ?_
  refine G_iload_n (pc := 4) rfl dX12_becomes_4 ?_
  refine G_iald (pc := 5) (jj := 3) (v := 1) (by decide) rfl rfl (by unfold vp_in; decide) dX12_becomes_5 ?_
  refine G_istore_n (pc := 6) (L1 := [some (.ref 67), some (.int 3), some (.int a0), some (.int 1)]) rfl rfl (by decide) dX12_becomes_6 ?_
  refine G_aload_n (pc := 7) rfl dX12_becomes_7 ?_
  refine G_getR (pc := 8) (r := 68) (ci := 12) (j := 0) rfl lk_RX12_9 rfl rfl rfl dX12_becomes_8 ?_
  refine G_iload_n (pc := 11) rfl dX12_becomes_11 ?_
  refine G_iload_n (pc := 12) rfl dX12_becomes_12 ?_
  refine G_iast (pc := 13) (jj := 3) (by decide) rfl (by unfold vp_in; decide) dX12_becomes_13 ?_
  refine G_iload_n (pc := 14) rfl dX12_becomes_14 ?_
  exact G_iret (pc := 15) (Nat.le_of_ble_eq_true rfl) (Nat.le_of_ble_eq_true rfl) rfl dX12_becomes_15 ⟨rfl, rfl⟩
set_option maxRecDepth 100000 in
set_option maxHeartbeats 4000000 in
theorem z_seed (J : gI) (d : Nat) (v : Int32) : G (d + 1) mX12_seed 0 0 0 0 0 (gent 2 [.ref 67, .int v]) [] SH0 RF0 (gmx J) (fun r _ => r = some (.int (F_seed v))) := by
  refine G_aload_n (pc := 0) rfl dX12_seed_0 ?_
  refine G_iconst (pc := 1) (v := 3) (by decide) dX12_seed_1 ?_
  refine G_iload_n (pc := 2) rfl dX12_seed_2 ?_
  refine G_callV (pc := 3) (mc1 := 0) (ms1 := 0) (ci := 12) (mj := mX12_becomes) (vs := [_, _]) dX12_seed_3 rfl rfl cm_X12_becomes wh_18 wh_20 wh_21 rfl (Nat.le_of_ble_eq_true rfl) (Nat.le_of_ble_eq_true rfl) (Nat.le_of_ble_eq_true rfl) (Nat.le_of_ble_eq_true rfl) (s10021_X12_becomes J d  _) ?_
  rintro _ _ ⟨rfl, rfl⟩
  dsimp only [Option.toList, List.cons_append, List.nil_append]
  exact G_iret (pc := 6) (Nat.le_of_ble_eq_true rfl) (Nat.le_of_ble_eq_true rfl) rfl dX12_seed_6 (by first | rfl | (simp [F_seed, *]; done) | (simp only [F_seed, Int32.le_iff_toInt_le, Int32.lt_iff_toInt_lt, ← Int32.toInt_inj]; simp; omega) | (simp only [F_seed, Int32.le_iff_toInt_le, Int32.lt_iff_toInt_lt, ← Int32.toInt_inj]; split <;> first | rfl | (exfalso; simp at *; omega)) | (unfold F_seed; (repeat' split) <;> first | rfl | (exfalso; (try simp only [Int32.le_iff_toInt_le, Int32.lt_iff_toInt_lt, ← Int32.toInt_inj] at *); first | omega | (simp at *; done) | (simp at *; omega))))
set_option maxRecDepth 100000 in
set_option maxHeartbeats 4000000 in
theorem s10022_X12_isRow (J : gI) (d : Nat)  (a0 : Int32) (a1 : Int32) : G (d + 1) mX12_isRow 0 0 0 0 0 (gent 3 [.ref 67, .int a0, .int a1]) [] SH0 RF0 (gmx J) (fun r h => r = some (.int 0) ∧ h = (SH0, RF0, (gmx J))) := by
  refine G_iload_n (pc := 0) rfl dX12_isRow_0 ?_
  refine G_iconst (pc := 1) (v := 0) (by decide) dX12_isRow_1 ?_
  refine G_aload_n (pc := 2) rfl dX12_isRow_2 ?_
  refine G_getI (pc := 3) (v := 0) (ci := 12) (j := 27) rfl rfl lk_RX12_317 rfl rfl dX12_isRow_3 ?_
  refine G_iconst (pc := 6) (v := 1) (by decide) dX12_isRow_6 ?_
  refine G_isub (pc := 7) (z := (-1)) (by decide) dX12_isRow_7 ?_
  refine G_callS (pc := 8) (mc1 := 0) (ms1 := 0) (mj := mX12_in1) (vs := [_, _, _]) dX12_isRow_8 cm_X12_in1 wh_0 wh_3 rfl (Nat.le_of_ble_eq_true rfl) (Nat.le_of_ble_eq_true rfl) (Nat.le_of_ble_eq_true rfl) (Nat.le_of_ble_eq_true rfl) (in1_s d a0 0 ((-1))) ?_
  rintro _ _ ⟨rfl, rfl⟩
  dsimp only [Option.toList, List.cons_append, List.nil_append]
  refine G_if_eq (pc := 11) (tgt := 27) (by decide) dX12_isRow_11 (fun c58 => ?_) (fun c58 => ?_)
  · have c58 := gB_z c58
    refine G_iconst (pc := 27) (v := 0) (by decide) dX12_isRow_27 ?_
    exact G_zret (pc := 28) (Nat.le_of_ble_eq_true rfl) (Nat.le_of_ble_eq_true rfl) rfl (by decide) dX12_isRow_28 ⟨rfl, rfl⟩
  · have c58 := gB_o c58
    exfalso; have : 0 ≤ (a0).toInt := Int32.le_iff_toInt_le.mp (c58.1); have : (a0).toInt ≤ -1 := Int32.le_iff_toInt_le.mp (c58.2); omega
set_option maxRecDepth 100000 in
set_option maxHeartbeats 4000000 in
theorem z_row (J : gI) (d : Nat) (k : Int32) (what : Int32) : G (d + 2) mX12_row 0 0 0 0 0 (gent 3 [.ref 67, .int k, .int what]) [] SH0 RF0 (gmx J) (fun r _ => r = some (.int (F_row k what))) := by
  refine G_aload_n (pc := 0) rfl dX12_row_0 ?_
  refine G_iload_n (pc := 1) rfl dX12_row_1 ?_
  refine G_iload_n (pc := 2) rfl dX12_row_2 ?_
  refine G_callV (pc := 3) (mc1 := 0) (ms1 := 0) (ci := 12) (mj := mX12_isRow) (vs := [_, _]) dX12_row_3 rfl rfl cm_X12_isRow wh_42 wh_44 wh_45 rfl (Nat.le_of_ble_eq_true rfl) (Nat.le_of_ble_eq_true rfl) (Nat.le_of_ble_eq_true rfl) (Nat.le_of_ble_eq_true rfl) (s10022_X12_isRow J d  _ _) ?_
  rintro _ _ ⟨rfl, rfl⟩
  dsimp only [Option.toList, List.cons_append, List.nil_append]
  refine G_if_eq (pc := 6) (tgt := 22) (by decide) dX12_row_6 (fun _ => ?_) (fun z => absurd (by decide) z)
  refine G_bipush (pc := 22) (v := (-9)) (by decide) dX12_row_22 ?_
  exact G_iret (pc := 24) (Nat.le_of_ble_eq_true rfl) (Nat.le_of_ble_eq_true rfl) rfl dX12_row_24 (by first | rfl | (simp [F_row, *]; done) | (simp only [F_row, Int32.le_iff_toInt_le, Int32.lt_iff_toInt_lt, ← Int32.toInt_inj]; simp; omega) | (simp only [F_row, Int32.le_iff_toInt_le, Int32.lt_iff_toInt_lt, ← Int32.toInt_inj]; split <;> first | rfl | (exfalso; simp at *; omega)) | (unfold F_row; (repeat' split) <;> first | rfl | (exfalso; (try simp only [Int32.le_iff_toInt_le, Int32.lt_iff_toInt_lt, ← Int32.toInt_inj] at *); first | omega | (simp at *; done) | (simp at *; omega))))
set_option maxRecDepth 100000 in
set_option maxHeartbeats 4000000 in
theorem z_alterRow (J : gI) (d : Nat) (k : Int32) (what : Int32) (v : Int32) : G (d + 2) mX12_alterRow 0 0 0 0 0 (gent 5 [.ref 67, .int k, .int what, .int v]) [] SH0 RF0 (gmx J) (fun r _ => r = some (.int (F_alterRow k what v))) := by
  refine G_aload_n (pc := 0) rfl dX12_alterRow_0 ?_
  refine G_iload_n (pc := 1) rfl dX12_alterRow_1 ?_
  refine G_iload_n (pc := 2) rfl dX12_alterRow_2 ?_
  refine G_callV (pc := 3) (mc1 := 0) (ms1 := 0) (ci := 12) (mj := mX12_isRow) (vs := [_, _]) dX12_alterRow_3 rfl rfl cm_X12_isRow wh_42 wh_44 wh_45 rfl (Nat.le_of_ble_eq_true rfl) (Nat.le_of_ble_eq_true rfl) (Nat.le_of_ble_eq_true rfl) (Nat.le_of_ble_eq_true rfl) (s10022_X12_isRow J d  _ _) ?_
  rintro _ _ ⟨rfl, rfl⟩
  dsimp only [Option.toList, List.cons_append, List.nil_append]
  refine G_if_ne (pc := 6) (tgt := 12) (by decide) dX12_alterRow_6 (fun z => absurd (by decide) z) (fun _ => ?_)
  refine G_bipush (pc := 9) (v := (-9)) (by decide) dX12_alterRow_9 ?_
  exact G_iret (pc := 11) (Nat.le_of_ble_eq_true rfl) (Nat.le_of_ble_eq_true rfl) rfl dX12_alterRow_11 (by first | rfl | (simp [F_alterRow, *]; done) | (simp only [F_alterRow, Int32.le_iff_toInt_le, Int32.lt_iff_toInt_lt, ← Int32.toInt_inj]; simp; omega) | (simp only [F_alterRow, Int32.le_iff_toInt_le, Int32.lt_iff_toInt_lt, ← Int32.toInt_inj]; split <;> first | rfl | (exfalso; simp at *; omega)) | (unfold F_alterRow; (repeat' split) <;> first | rfl | (exfalso; (try simp only [Int32.le_iff_toInt_le, Int32.lt_iff_toInt_lt, ← Int32.toInt_inj] at *); first | omega | (simp at *; done) | (simp at *; omega))))
set_option maxRecDepth 100000 in
set_option maxHeartbeats 4000000 in
theorem s10023_X12_isSheet (J : gI) (d : Nat)  (a0 : Int32) : G (d + 1) mX12_isSheet 0 0 0 0 0 (gent 1 [.int a0]) [] SH0 RF0 (gmx J) (fun r h => r = some (.int (gB (0 ≤ a0 ∧ a0 ≤ 3))) ∧ h = (SH0, RF0, (gmx J))) := by
  refine G_iload_n (pc := 0) rfl dX12_isSheet_0 ?_
  refine G_iconst (pc := 1) (v := 0) (by decide) dX12_isSheet_1 ?_
  refine G_iconst (pc := 2) (v := 3) (by decide) dX12_isSheet_2 ?_
  refine G_callS (pc := 3) (mc1 := 0) (ms1 := 0) (mj := mX12_in1) (vs := [_, _, _]) dX12_isSheet_3 cm_X12_in1 wh_0 wh_3 rfl (Nat.le_of_ble_eq_true rfl) (Nat.le_of_ble_eq_true rfl) (Nat.le_of_ble_eq_true rfl) (Nat.le_of_ble_eq_true rfl) (in1_s d a0 0 3) ?_
  rintro _ _ ⟨rfl, rfl⟩
  dsimp only [Option.toList, List.cons_append, List.nil_append]
  exact G_zret (pc := 6) (Nat.le_of_ble_eq_true rfl) (Nat.le_of_ble_eq_true rfl) rfl gB_01 dX12_isSheet_6 ⟨rfl, rfl⟩
set_option maxRecDepth 100000 in
set_option maxHeartbeats 4000000 in
theorem z_write (J : gI) (d : Nat) (sheet : Int32) (i : Int32) (v : Int32) : G (d + 2) mX12_write 0 0 0 0 0 (gent 4 [.ref 67, .int sheet, .int i, .int v]) [] SH0 RF0 (gmx J) (fun r _ => r = some (.int (F_write sheet i v))) := by
  refine G_iload_n (pc := 0) rfl dX12_write_0 ?_
  refine G_callS (pc := 1) (mc1 := 0) (ms1 := 0) (mj := mX12_isSheet) (vs := [_]) dX12_write_1 cm_X12_isSheet wh_46 wh_48 rfl (Nat.le_of_ble_eq_true rfl) (Nat.le_of_ble_eq_true rfl) (Nat.le_of_ble_eq_true rfl) (Nat.le_of_ble_eq_true rfl) (s10023_X12_isSheet J d  _) ?_
  rintro _ _ ⟨rfl, rfl⟩
  dsimp only [Option.toList, List.cons_append, List.nil_append]
  refine G_if_ne (pc := 4) (tgt := 9) (by decide) dX12_write_4 (fun c59 => ?_) (fun c59 => ?_)
  · have c59 := gB_o c59
    refine G_aload_n (pc := 9) rfl dX12_write_9 ?_
    refine G_getR (pc := 10) (r := 82) (ci := 12) (j := 28) rfl lk_RX12_53 rfl rfl rfl dX12_write_10 ?_
    refine G_iload_n (pc := 13) rfl dX12_write_13 ?_
    by_cases c60 : sheet = 0
    · subst c60
      refine G_iald (pc := 14) (jj := 0) (v := (-1)) (by decide) rfl rfl (by unfold vp_in; decide) dX12_write_14 ?_
      refine G_if_ge (pc := 15) (tgt := 21) (by decide) dX12_write_15 (fun z => absurd z (by decide)) (fun _ => ?_)
      refine G_bipush (pc := 18) (v := (-11)) (by decide) dX12_write_18 ?_
      exact G_iret (pc := 20) (Nat.le_of_ble_eq_true rfl) (Nat.le_of_ble_eq_true rfl) rfl dX12_write_20 (by first | rfl | (simp [F_write, *]; done) | (simp only [F_write, Int32.le_iff_toInt_le, Int32.lt_iff_toInt_lt, ← Int32.toInt_inj]; simp; omega) | (simp only [F_write, Int32.le_iff_toInt_le, Int32.lt_iff_toInt_lt, ← Int32.toInt_inj]; split <;> first | rfl | (exfalso; simp at *; omega)) | (unfold F_write; (repeat' split) <;> first | rfl | (exfalso; (try simp only [Int32.le_iff_toInt_le, Int32.lt_iff_toInt_lt, ← Int32.toInt_inj] at *); first | omega | (simp at *; done) | (simp at *; omega))))
    by_cases c61 : sheet = 1
    · subst c61
      refine G_iald (pc := 14) (jj := 1) (v := (-1)) (by decide) rfl rfl (by unfold vp_in; decide) dX12_write_14 ?_
      refine G_if_ge (pc := 15) (tgt := 21) (by decide) dX12_write_15 (fun z => absurd z (by decide)) (fun _ => ?_)
      refine G_bipush (pc := 18) (v := (-11)) (by decide) dX12_write_18 ?_
      exact G_iret (pc := 20) (Nat.le_of_ble_eq_true rfl) (Nat.le_of_ble_eq_true rfl) rfl dX12_write_20 (by first | rfl | (simp [F_write, *]; done) | (simp only [F_write, Int32.le_iff_toInt_le, Int32.lt_iff_toInt_lt, ← Int32.toInt_inj]; simp; omega) | (simp only [F_write, Int32.le_iff_toInt_le, Int32.lt_iff_toInt_lt, ← Int32.toInt_inj]; split <;> first | rfl | (exfalso; simp at *; omega)) | (unfold F_write; (repeat' split) <;> first | rfl | (exfalso; (try simp only [Int32.le_iff_toInt_le, Int32.lt_iff_toInt_lt, ← Int32.toInt_inj] at *); first | omega | (simp at *; done) | (simp at *; omega))))
    by_cases c62 : sheet = 2
    · subst c62
      refine G_iald (pc := 14) (jj := 2) (v := (-1)) (by decide) rfl rfl (by unfold vp_in; decide) dX12_write_14 ?_
      refine G_if_ge (pc := 15) (tgt := 21) (by decide) dX12_write_15 (fun z => absurd z (by decide)) (fun _ => ?_)
      refine G_bipush (pc := 18) (v := (-11)) (by decide) dX12_write_18 ?_
      exact G_iret (pc := 20) (Nat.le_of_ble_eq_true rfl) (Nat.le_of_ble_eq_true rfl) rfl dX12_write_20 (by first | rfl | (simp [F_write, *]; done) | (simp only [F_write, Int32.le_iff_toInt_le, Int32.lt_iff_toInt_lt, ← Int32.toInt_inj]; simp; omega) | (simp only [F_write, Int32.le_iff_toInt_le, Int32.lt_iff_toInt_lt, ← Int32.toInt_inj]; split <;> first | rfl | (exfalso; simp at *; omega)) | (unfold F_write; (repeat' split) <;> first | rfl | (exfalso; (try simp only [Int32.le_iff_toInt_le, Int32.lt_iff_toInt_lt, ← Int32.toInt_inj] at *); first | omega | (simp at *; done) | (simp at *; omega))))
    by_cases c63 : sheet = 3
    · subst c63
      refine G_iald (pc := 14) (jj := 3) (v := (-1)) (by decide) rfl rfl (by unfold vp_in; decide) dX12_write_14 ?_
      refine G_if_ge (pc := 15) (tgt := 21) (by decide) dX12_write_15 (fun z => absurd z (by decide)) (fun _ => ?_)
      refine G_bipush (pc := 18) (v := (-11)) (by decide) dX12_write_18 ?_
      exact G_iret (pc := 20) (Nat.le_of_ble_eq_true rfl) (Nat.le_of_ble_eq_true rfl) rfl dX12_write_20 (by first | rfl | (simp [F_write, *]; done) | (simp only [F_write, Int32.le_iff_toInt_le, Int32.lt_iff_toInt_lt, ← Int32.toInt_inj]; simp; omega) | (simp only [F_write, Int32.le_iff_toInt_le, Int32.lt_iff_toInt_lt, ← Int32.toInt_inj]; split <;> first | rfl | (exfalso; simp at *; omega)) | (unfold F_write; (repeat' split) <;> first | rfl | (exfalso; (try simp only [Int32.le_iff_toInt_le, Int32.lt_iff_toInt_lt, ← Int32.toInt_inj] at *); first | omega | (simp at *; done) | (simp at *; omega))))
    exfalso
    have : 0 ≤ (sheet).toInt := Int32.le_iff_toInt_le.mp (c59.1)
    have : (sheet).toInt ≤ 3 := Int32.le_iff_toInt_le.mp (c59.2)
    have : (sheet).toInt ≠ 0 := g_ne (c60)
    have : (sheet).toInt ≠ 1 := g_ne (c61)
    have : (sheet).toInt ≠ 2 := g_ne (c62)
    have : (sheet).toInt ≠ 3 := g_ne (c63)
    omega
  · have c59 := gB_z c59
    refine G_iconst (pc := 7) (v := (-1)) (by decide) dX12_write_7 ?_
    exact G_iret (pc := 8) (Nat.le_of_ble_eq_true rfl) (Nat.le_of_ble_eq_true rfl) rfl dX12_write_8 (by first | rfl | (simp [F_write, *]; done) | (have : ¬ (0 ≤ (sheet).toInt ∧ (sheet).toInt ≤ 3) := fun z => c59 ⟨Int32.le_iff_toInt_le.mpr z.1, Int32.le_iff_toInt_le.mpr z.2⟩; simp only [F_write, Int32.le_iff_toInt_le, Int32.lt_iff_toInt_lt, ← Int32.toInt_inj]; simp; omega) | (have : ¬ (0 ≤ (sheet).toInt ∧ (sheet).toInt ≤ 3) := fun z => c59 ⟨Int32.le_iff_toInt_le.mpr z.1, Int32.le_iff_toInt_le.mpr z.2⟩; simp only [F_write, Int32.le_iff_toInt_le, Int32.lt_iff_toInt_lt, ← Int32.toInt_inj]; split <;> first | rfl | (exfalso; simp at *; omega)) | (have : ¬ (0 ≤ (sheet).toInt ∧ (sheet).toInt ≤ 3) := fun z => c59 ⟨Int32.le_iff_toInt_le.mpr z.1, Int32.le_iff_toInt_le.mpr z.2⟩; unfold F_write; (repeat' split) <;> first | rfl | (exfalso; (try simp only [Int32.le_iff_toInt_le, Int32.lt_iff_toInt_lt, ← Int32.toInt_inj] at *); first | omega | (simp at *; done) | (simp at *; omega))))
set_option maxRecDepth 100000 in
set_option maxHeartbeats 4000000 in
theorem s10025_X12_lacks (J : gI) (d : Nat)  (a0 : Int32) : G (d) mX12_lacks 0 0 0 0 0 (gent 3 [.ref 67, .int 0, .int a0]) [] SH0 RF0 (gmx J) (fun r h => r = some (.int (-11)) ∧ h = (SH0, RF0, (gmx J))) := by
  refine G_aload_n (pc := 0) rfl dX12_lacks_0 ?_
  refine G_getR (pc := 1) (r := 82) (ci := 12) (j := 28) rfl lk_RX12_53 rfl rfl rfl dX12_lacks_1 ?_
  refine G_iload_n (pc := 4) rfl dX12_lacks_4 ?_
  refine G_iald (pc := 5) (jj := 0) (v := (-1)) (by decide) rfl rfl (by unfold vp_in; decide) dX12_lacks_5 ?_
  refine G_if_ge (pc := 6) (tgt := 14) (by decide) dX12_lacks_6 (fun z => absurd z (by decide)) (fun _ => ?_)
  refine G_bipush (pc := 9) (v := (-11)) (by decide) dX12_lacks_9 ?_
  refine G_goto (pc := 11) (tgt := 30) (by decide) dX12_lacks_11 ?_
  exact G_iret (pc := 30) (Nat.le_of_ble_eq_true rfl) (Nat.le_of_ble_eq_true rfl) rfl dX12_lacks_30 ⟨rfl, rfl⟩
set_option maxRecDepth 100000 in
set_option maxHeartbeats 4000000 in
theorem s10026_X12_lacks (J : gI) (d : Nat)  (a0 : Int32) : G (d) mX12_lacks 0 0 0 0 0 (gent 3 [.ref 67, .int 1, .int a0]) [] SH0 RF0 (gmx J) (fun r h => r = some (.int (-11)) ∧ h = (SH0, RF0, (gmx J))) := by
  refine G_aload_n (pc := 0) rfl dX12_lacks_0 ?_
  refine G_getR (pc := 1) (r := 82) (ci := 12) (j := 28) rfl lk_RX12_53 rfl rfl rfl dX12_lacks_1 ?_
  refine G_iload_n (pc := 4) rfl dX12_lacks_4 ?_
  refine G_iald (pc := 5) (jj := 1) (v := (-1)) (by decide) rfl rfl (by unfold vp_in; decide) dX12_lacks_5 ?_
  refine G_if_ge (pc := 6) (tgt := 14) (by decide) dX12_lacks_6 (fun z => absurd z (by decide)) (fun _ => ?_)
  refine G_bipush (pc := 9) (v := (-11)) (by decide) dX12_lacks_9 ?_
  refine G_goto (pc := 11) (tgt := 30) (by decide) dX12_lacks_11 ?_
  exact G_iret (pc := 30) (Nat.le_of_ble_eq_true rfl) (Nat.le_of_ble_eq_true rfl) rfl dX12_lacks_30 ⟨rfl, rfl⟩
set_option maxRecDepth 100000 in
set_option maxHeartbeats 4000000 in
theorem s10027_X12_lacks (J : gI) (d : Nat)  (a0 : Int32) : G (d) mX12_lacks 0 0 0 0 0 (gent 3 [.ref 67, .int 2, .int a0]) [] SH0 RF0 (gmx J) (fun r h => r = some (.int (-11)) ∧ h = (SH0, RF0, (gmx J))) := by
  refine G_aload_n (pc := 0) rfl dX12_lacks_0 ?_
  refine G_getR (pc := 1) (r := 82) (ci := 12) (j := 28) rfl lk_RX12_53 rfl rfl rfl dX12_lacks_1 ?_
  refine G_iload_n (pc := 4) rfl dX12_lacks_4 ?_
  refine G_iald (pc := 5) (jj := 2) (v := (-1)) (by decide) rfl rfl (by unfold vp_in; decide) dX12_lacks_5 ?_
  refine G_if_ge (pc := 6) (tgt := 14) (by decide) dX12_lacks_6 (fun z => absurd z (by decide)) (fun _ => ?_)
  refine G_bipush (pc := 9) (v := (-11)) (by decide) dX12_lacks_9 ?_
  refine G_goto (pc := 11) (tgt := 30) (by decide) dX12_lacks_11 ?_
  exact G_iret (pc := 30) (Nat.le_of_ble_eq_true rfl) (Nat.le_of_ble_eq_true rfl) rfl dX12_lacks_30 ⟨rfl, rfl⟩
set_option maxRecDepth 100000 in
set_option maxHeartbeats 4000000 in
theorem s10028_X12_lacks (J : gI) (d : Nat)  (a0 : Int32) : G (d) mX12_lacks 0 0 0 0 0 (gent 3 [.ref 67, .int 3, .int a0]) [] SH0 RF0 (gmx J) (fun r h => r = some (.int (-11)) ∧ h = (SH0, RF0, (gmx J))) := by
  refine G_aload_n (pc := 0) rfl dX12_lacks_0 ?_
  refine G_getR (pc := 1) (r := 82) (ci := 12) (j := 28) rfl lk_RX12_53 rfl rfl rfl dX12_lacks_1 ?_
  refine G_iload_n (pc := 4) rfl dX12_lacks_4 ?_
  refine G_iald (pc := 5) (jj := 3) (v := (-1)) (by decide) rfl rfl (by unfold vp_in; decide) dX12_lacks_5 ?_
  refine G_if_ge (pc := 6) (tgt := 14) (by decide) dX12_lacks_6 (fun z => absurd z (by decide)) (fun _ => ?_)
  refine G_bipush (pc := 9) (v := (-11)) (by decide) dX12_lacks_9 ?_
  refine G_goto (pc := 11) (tgt := 30) (by decide) dX12_lacks_11 ?_
  exact G_iret (pc := 30) (Nat.le_of_ble_eq_true rfl) (Nat.le_of_ble_eq_true rfl) rfl dX12_lacks_30 ⟨rfl, rfl⟩
set_option maxRecDepth 100000 in
set_option maxHeartbeats 4000000 in
theorem z_item (J : gI) (d : Nat) (sheet : Int32) (sort : Int32) (i : Int32) : G (d + 2) mX12_item 0 0 0 0 0 (gent 5 [.ref 67, .int sheet, .int sort, .int i]) [] SH0 RF0 (gmx J) (fun r _ => r = some (.int (F_item sheet sort i))) := by
  refine G_iload_n (pc := 0) rfl dX12_item_0 ?_
  refine G_callS (pc := 1) (mc1 := 0) (ms1 := 0) (mj := mX12_isSheet) (vs := [_]) dX12_item_1 cm_X12_isSheet wh_46 wh_48 rfl (Nat.le_of_ble_eq_true rfl) (Nat.le_of_ble_eq_true rfl) (Nat.le_of_ble_eq_true rfl) (Nat.le_of_ble_eq_true rfl) (s10023_X12_isSheet J d  _) ?_
  rintro _ _ ⟨rfl, rfl⟩
  dsimp only [Option.toList, List.cons_append, List.nil_append]
  refine G_if_eq (pc := 4) (tgt := 16) (by decide) dX12_item_4 (fun c64 => ?_) (fun c64 => ?_)
  · have c64 := gB_z c64
    refine G_iconst (pc := 16) (v := (-1)) (by decide) dX12_item_16 ?_
    exact G_iret (pc := 17) (Nat.le_of_ble_eq_true rfl) (Nat.le_of_ble_eq_true rfl) rfl dX12_item_17 (by first | rfl | (simp [F_item, *]; done) | (have : ¬ (0 ≤ (sheet).toInt ∧ (sheet).toInt ≤ 3) := fun z => c64 ⟨Int32.le_iff_toInt_le.mpr z.1, Int32.le_iff_toInt_le.mpr z.2⟩; simp only [F_item, Int32.le_iff_toInt_le, Int32.lt_iff_toInt_lt, ← Int32.toInt_inj]; simp; omega) | (have : ¬ (0 ≤ (sheet).toInt ∧ (sheet).toInt ≤ 3) := fun z => c64 ⟨Int32.le_iff_toInt_le.mpr z.1, Int32.le_iff_toInt_le.mpr z.2⟩; simp only [F_item, Int32.le_iff_toInt_le, Int32.lt_iff_toInt_lt, ← Int32.toInt_inj]; split <;> first | rfl | (exfalso; simp at *; omega)) | (have : ¬ (0 ≤ (sheet).toInt ∧ (sheet).toInt ≤ 3) := fun z => c64 ⟨Int32.le_iff_toInt_le.mpr z.1, Int32.le_iff_toInt_le.mpr z.2⟩; unfold F_item; (repeat' split) <;> first | rfl | (exfalso; (try simp only [Int32.le_iff_toInt_le, Int32.lt_iff_toInt_lt, ← Int32.toInt_inj] at *); first | omega | (simp at *; done) | (simp at *; omega))))
  · have c64 := gB_o c64
    refine G_iload_n (pc := 7) rfl dX12_item_7 ?_
    refine G_iconst (pc := 8) (v := 0) (by decide) dX12_item_8 ?_
    refine G_iconst (pc := 9) (v := 4) (by decide) dX12_item_9 ?_
    refine G_callS (pc := 10) (mc1 := 0) (ms1 := 0) (mj := mX12_in1) (vs := [_, _, _]) dX12_item_10 cm_X12_in1 wh_0 wh_3 rfl (Nat.le_of_ble_eq_true rfl) (Nat.le_of_ble_eq_true rfl) (Nat.le_of_ble_eq_true rfl) (Nat.le_of_ble_eq_true rfl) (in1_s (d + 1) sort 0 4) ?_
    rintro _ _ ⟨rfl, rfl⟩
    dsimp only [Option.toList, List.cons_append, List.nil_append]
    refine G_if_ne (pc := 13) (tgt := 18) (by decide) dX12_item_13 (fun c65 => ?_) (fun c65 => ?_)
    · have c65 := gB_o c65
      refine G_aload_n (pc := 18) rfl dX12_item_18 ?_
      refine G_iload_n (pc := 19) rfl dX12_item_19 ?_
      refine G_iload_n (pc := 20) rfl dX12_item_20 ?_
      by_cases c66 : sheet = 0
      · subst c66
        refine G_callV (pc := 21) (mc1 := 0) (ms1 := 0) (ci := 12) (mj := mX12_lacks) (vs := [_, _]) dX12_item_21 rfl rfl cm_X12_lacks wh_49 wh_51 wh_52 rfl (Nat.le_of_ble_eq_true rfl) (Nat.le_of_ble_eq_true rfl) (Nat.le_of_ble_eq_true rfl) (Nat.le_of_ble_eq_true rfl) (s10025_X12_lacks J (d + 1)  _) ?_
        rintro _ _ ⟨rfl, rfl⟩
        dsimp only [Option.toList, List.cons_append, List.nil_append]
        refine G_istore (pc := 24) (L1 := [some (.ref 67), some (.int 0), some (.int sort), some (.int i), some (.int (-11))]) rfl rfl (by decide) dX12_item_24 ?_
        refine G_iload (pc := 26) rfl dX12_item_26 ?_
        refine G_if_eq (pc := 28) (tgt := 36) (by decide) dX12_item_28 (fun z => absurd z (by decide)) (fun _ => ?_)
        refine G_iload (pc := 31) rfl dX12_item_31 ?_
        refine G_goto (pc := 33) (tgt := 68) (by decide) dX12_item_33 ?_
        exact G_iret (pc := 68) (Nat.le_of_ble_eq_true rfl) (Nat.le_of_ble_eq_true rfl) rfl dX12_item_68 (by first | rfl | (simp [F_item, *]; done) | (have : 0 ≤ (sort).toInt := Int32.le_iff_toInt_le.mp (c65.1); have : (sort).toInt ≤ 4 := Int32.le_iff_toInt_le.mp (c65.2); simp only [F_item, Int32.le_iff_toInt_le, Int32.lt_iff_toInt_lt, ← Int32.toInt_inj]; simp; omega) | (have : 0 ≤ (sort).toInt := Int32.le_iff_toInt_le.mp (c65.1); have : (sort).toInt ≤ 4 := Int32.le_iff_toInt_le.mp (c65.2); simp only [F_item, Int32.le_iff_toInt_le, Int32.lt_iff_toInt_lt, ← Int32.toInt_inj]; split <;> first | rfl | (exfalso; simp at *; omega)) | (have : 0 ≤ (sort).toInt := Int32.le_iff_toInt_le.mp (c65.1); have : (sort).toInt ≤ 4 := Int32.le_iff_toInt_le.mp (c65.2); unfold F_item; (repeat' split) <;> first | rfl | (exfalso; (try simp only [Int32.le_iff_toInt_le, Int32.lt_iff_toInt_lt, ← Int32.toInt_inj] at *); first | omega | (simp at *; done) | (simp at *; omega))))
      by_cases c67 : sheet = 1
      · subst c67
        refine G_callV (pc := 21) (mc1 := 0) (ms1 := 0) (ci := 12) (mj := mX12_lacks) (vs := [_, _]) dX12_item_21 rfl rfl cm_X12_lacks wh_49 wh_51 wh_52 rfl (Nat.le_of_ble_eq_true rfl) (Nat.le_of_ble_eq_true rfl) (Nat.le_of_ble_eq_true rfl) (Nat.le_of_ble_eq_true rfl) (s10026_X12_lacks J (d + 1)  _) ?_
        rintro _ _ ⟨rfl, rfl⟩
        dsimp only [Option.toList, List.cons_append, List.nil_append]
        refine G_istore (pc := 24) (L1 := [some (.ref 67), some (.int 1), some (.int sort), some (.int i), some (.int (-11))]) rfl rfl (by decide) dX12_item_24 ?_
        refine G_iload (pc := 26) rfl dX12_item_26 ?_
        refine G_if_eq (pc := 28) (tgt := 36) (by decide) dX12_item_28 (fun z => absurd z (by decide)) (fun _ => ?_)
        refine G_iload (pc := 31) rfl dX12_item_31 ?_
        refine G_goto (pc := 33) (tgt := 68) (by decide) dX12_item_33 ?_
        exact G_iret (pc := 68) (Nat.le_of_ble_eq_true rfl) (Nat.le_of_ble_eq_true rfl) rfl dX12_item_68 (by first | rfl | (simp [F_item, *]; done) | (have : 0 ≤ (sort).toInt := Int32.le_iff_toInt_le.mp (c65.1); have : (sort).toInt ≤ 4 := Int32.le_iff_toInt_le.mp (c65.2); simp only [F_item, Int32.le_iff_toInt_le, Int32.lt_iff_toInt_lt, ← Int32.toInt_inj]; simp; omega) | (have : 0 ≤ (sort).toInt := Int32.le_iff_toInt_le.mp (c65.1); have : (sort).toInt ≤ 4 := Int32.le_iff_toInt_le.mp (c65.2); simp only [F_item, Int32.le_iff_toInt_le, Int32.lt_iff_toInt_lt, ← Int32.toInt_inj]; split <;> first | rfl | (exfalso; simp at *; omega)) | (have : 0 ≤ (sort).toInt := Int32.le_iff_toInt_le.mp (c65.1); have : (sort).toInt ≤ 4 := Int32.le_iff_toInt_le.mp (c65.2); unfold F_item; (repeat' split) <;> first | rfl | (exfalso; (try simp only [Int32.le_iff_toInt_le, Int32.lt_iff_toInt_lt, ← Int32.toInt_inj] at *); first | omega | (simp at *; done) | (simp at *; omega))))
      by_cases c68 : sheet = 2
      · subst c68
        refine G_callV (pc := 21) (mc1 := 0) (ms1 := 0) (ci := 12) (mj := mX12_lacks) (vs := [_, _]) dX12_item_21 rfl rfl cm_X12_lacks wh_49 wh_51 wh_52 rfl (Nat.le_of_ble_eq_true rfl) (Nat.le_of_ble_eq_true rfl) (Nat.le_of_ble_eq_true rfl) (Nat.le_of_ble_eq_true rfl) (s10027_X12_lacks J (d + 1)  _) ?_
        rintro _ _ ⟨rfl, rfl⟩
        dsimp only [Option.toList, List.cons_append, List.nil_append]
        refine G_istore (pc := 24) (L1 := [some (.ref 67), some (.int 2), some (.int sort), some (.int i), some (.int (-11))]) rfl rfl (by decide) dX12_item_24 ?_
        refine G_iload (pc := 26) rfl dX12_item_26 ?_
        refine G_if_eq (pc := 28) (tgt := 36) (by decide) dX12_item_28 (fun z => absurd z (by decide)) (fun _ => ?_)
        refine G_iload (pc := 31) rfl dX12_item_31 ?_
        refine G_goto (pc := 33) (tgt := 68) (by decide) dX12_item_33 ?_
        exact G_iret (pc := 68) (Nat.le_of_ble_eq_true rfl) (Nat.le_of_ble_eq_true rfl) rfl dX12_item_68 (by first | rfl | (simp [F_item, *]; done) | (have : 0 ≤ (sort).toInt := Int32.le_iff_toInt_le.mp (c65.1); have : (sort).toInt ≤ 4 := Int32.le_iff_toInt_le.mp (c65.2); simp only [F_item, Int32.le_iff_toInt_le, Int32.lt_iff_toInt_lt, ← Int32.toInt_inj]; simp; omega) | (have : 0 ≤ (sort).toInt := Int32.le_iff_toInt_le.mp (c65.1); have : (sort).toInt ≤ 4 := Int32.le_iff_toInt_le.mp (c65.2); simp only [F_item, Int32.le_iff_toInt_le, Int32.lt_iff_toInt_lt, ← Int32.toInt_inj]; split <;> first | rfl | (exfalso; simp at *; omega)) | (have : 0 ≤ (sort).toInt := Int32.le_iff_toInt_le.mp (c65.1); have : (sort).toInt ≤ 4 := Int32.le_iff_toInt_le.mp (c65.2); unfold F_item; (repeat' split) <;> first | rfl | (exfalso; (try simp only [Int32.le_iff_toInt_le, Int32.lt_iff_toInt_lt, ← Int32.toInt_inj] at *); first | omega | (simp at *; done) | (simp at *; omega))))
      by_cases c69 : sheet = 3
      · subst c69
        refine G_callV (pc := 21) (mc1 := 0) (ms1 := 0) (ci := 12) (mj := mX12_lacks) (vs := [_, _]) dX12_item_21 rfl rfl cm_X12_lacks wh_49 wh_51 wh_52 rfl (Nat.le_of_ble_eq_true rfl) (Nat.le_of_ble_eq_true rfl) (Nat.le_of_ble_eq_true rfl) (Nat.le_of_ble_eq_true rfl) (s10028_X12_lacks J (d + 1)  _) ?_
        rintro _ _ ⟨rfl, rfl⟩
        dsimp only [Option.toList, List.cons_append, List.nil_append]
        refine G_istore (pc := 24) (L1 := [some (.ref 67), some (.int 3), some (.int sort), some (.int i), some (.int (-11))]) rfl rfl (by decide) dX12_item_24 ?_
        refine G_iload (pc := 26) rfl dX12_item_26 ?_
        refine G_if_eq (pc := 28) (tgt := 36) (by decide) dX12_item_28 (fun z => absurd z (by decide)) (fun _ => ?_)
        refine G_iload (pc := 31) rfl dX12_item_31 ?_
        refine G_goto (pc := 33) (tgt := 68) (by decide) dX12_item_33 ?_
        exact G_iret (pc := 68) (Nat.le_of_ble_eq_true rfl) (Nat.le_of_ble_eq_true rfl) rfl dX12_item_68 (by first | rfl | (simp [F_item, *]; done) | (have : 0 ≤ (sort).toInt := Int32.le_iff_toInt_le.mp (c65.1); have : (sort).toInt ≤ 4 := Int32.le_iff_toInt_le.mp (c65.2); simp only [F_item, Int32.le_iff_toInt_le, Int32.lt_iff_toInt_lt, ← Int32.toInt_inj]; simp; omega) | (have : 0 ≤ (sort).toInt := Int32.le_iff_toInt_le.mp (c65.1); have : (sort).toInt ≤ 4 := Int32.le_iff_toInt_le.mp (c65.2); simp only [F_item, Int32.le_iff_toInt_le, Int32.lt_iff_toInt_lt, ← Int32.toInt_inj]; split <;> first | rfl | (exfalso; simp at *; omega)) | (have : 0 ≤ (sort).toInt := Int32.le_iff_toInt_le.mp (c65.1); have : (sort).toInt ≤ 4 := Int32.le_iff_toInt_le.mp (c65.2); unfold F_item; (repeat' split) <;> first | rfl | (exfalso; (try simp only [Int32.le_iff_toInt_le, Int32.lt_iff_toInt_lt, ← Int32.toInt_inj] at *); first | omega | (simp at *; done) | (simp at *; omega))))
      exfalso
      have : 0 ≤ (sheet).toInt := Int32.le_iff_toInt_le.mp (c64.1)
      have : (sheet).toInt ≤ 3 := Int32.le_iff_toInt_le.mp (c64.2)
      have : (sheet).toInt ≠ 0 := g_ne (c66)
      have : (sheet).toInt ≠ 1 := g_ne (c67)
      have : (sheet).toInt ≠ 2 := g_ne (c68)
      have : (sheet).toInt ≠ 3 := g_ne (c69)
      omega
    · have c65 := gB_z c65
      refine G_iconst (pc := 16) (v := (-1)) (by decide) dX12_item_16 ?_
      exact G_iret (pc := 17) (Nat.le_of_ble_eq_true rfl) (Nat.le_of_ble_eq_true rfl) rfl dX12_item_17 (by first | rfl | (simp [F_item, *]; done) | (have : 0 ≤ (sheet).toInt := Int32.le_iff_toInt_le.mp (c64.1); have : (sheet).toInt ≤ 3 := Int32.le_iff_toInt_le.mp (c64.2); have : ¬ (0 ≤ (sort).toInt ∧ (sort).toInt ≤ 4) := fun z => c65 ⟨Int32.le_iff_toInt_le.mpr z.1, Int32.le_iff_toInt_le.mpr z.2⟩; simp only [F_item, Int32.le_iff_toInt_le, Int32.lt_iff_toInt_lt, ← Int32.toInt_inj]; simp; omega) | (have : 0 ≤ (sheet).toInt := Int32.le_iff_toInt_le.mp (c64.1); have : (sheet).toInt ≤ 3 := Int32.le_iff_toInt_le.mp (c64.2); have : ¬ (0 ≤ (sort).toInt ∧ (sort).toInt ≤ 4) := fun z => c65 ⟨Int32.le_iff_toInt_le.mpr z.1, Int32.le_iff_toInt_le.mpr z.2⟩; simp only [F_item, Int32.le_iff_toInt_le, Int32.lt_iff_toInt_lt, ← Int32.toInt_inj]; split <;> first | rfl | (exfalso; simp at *; omega)) | (have : 0 ≤ (sheet).toInt := Int32.le_iff_toInt_le.mp (c64.1); have : (sheet).toInt ≤ 3 := Int32.le_iff_toInt_le.mp (c64.2); have : ¬ (0 ≤ (sort).toInt ∧ (sort).toInt ≤ 4) := fun z => c65 ⟨Int32.le_iff_toInt_le.mpr z.1, Int32.le_iff_toInt_le.mpr z.2⟩; unfold F_item; (repeat' split) <;> first | rfl | (exfalso; (try simp only [Int32.le_iff_toInt_le, Int32.lt_iff_toInt_lt, ← Int32.toInt_inj] at *); first | omega | (simp at *; done) | (simp at *; omega))))
set_option maxRecDepth 100000 in
set_option maxHeartbeats 4000000 in
theorem s10030_X12_lacks (J : gI) (d : Nat)   : G (d) mX12_lacks 0 0 0 0 0 (gent 3 [.ref 67, .int 0, .int 0]) [] SH0 RF0 (gmx J) (fun r h => r = some (.int (-11)) ∧ h = (SH0, RF0, (gmx J))) := by
  refine G_aload_n (pc := 0) rfl dX12_lacks_0 ?_
  refine G_getR (pc := 1) (r := 82) (ci := 12) (j := 28) rfl lk_RX12_53 rfl rfl rfl dX12_lacks_1 ?_
  refine G_iload_n (pc := 4) rfl dX12_lacks_4 ?_
  refine G_iald (pc := 5) (jj := 0) (v := (-1)) (by decide) rfl rfl (by unfold vp_in; decide) dX12_lacks_5 ?_
  refine G_if_ge (pc := 6) (tgt := 14) (by decide) dX12_lacks_6 (fun z => absurd z (by decide)) (fun _ => ?_)
  refine G_bipush (pc := 9) (v := (-11)) (by decide) dX12_lacks_9 ?_
  refine G_goto (pc := 11) (tgt := 30) (by decide) dX12_lacks_11 ?_
  exact G_iret (pc := 30) (Nat.le_of_ble_eq_true rfl) (Nat.le_of_ble_eq_true rfl) rfl dX12_lacks_30 ⟨rfl, rfl⟩
set_option maxRecDepth 100000 in
set_option maxHeartbeats 4000000 in
theorem s10031_X12_lacks (J : gI) (d : Nat)   : G (d) mX12_lacks 0 0 0 0 0 (gent 3 [.ref 67, .int 1, .int 0]) [] SH0 RF0 (gmx J) (fun r h => r = some (.int (-11)) ∧ h = (SH0, RF0, (gmx J))) := by
  refine G_aload_n (pc := 0) rfl dX12_lacks_0 ?_
  refine G_getR (pc := 1) (r := 82) (ci := 12) (j := 28) rfl lk_RX12_53 rfl rfl rfl dX12_lacks_1 ?_
  refine G_iload_n (pc := 4) rfl dX12_lacks_4 ?_
  refine G_iald (pc := 5) (jj := 1) (v := (-1)) (by decide) rfl rfl (by unfold vp_in; decide) dX12_lacks_5 ?_
  refine G_if_ge (pc := 6) (tgt := 14) (by decide) dX12_lacks_6 (fun z => absurd z (by decide)) (fun _ => ?_)
  refine G_bipush (pc := 9) (v := (-11)) (by decide) dX12_lacks_9 ?_
  refine G_goto (pc := 11) (tgt := 30) (by decide) dX12_lacks_11 ?_
  exact G_iret (pc := 30) (Nat.le_of_ble_eq_true rfl) (Nat.le_of_ble_eq_true rfl) rfl dX12_lacks_30 ⟨rfl, rfl⟩
set_option maxRecDepth 100000 in
set_option maxHeartbeats 4000000 in
theorem s10032_X12_lacks (J : gI) (d : Nat)   : G (d) mX12_lacks 0 0 0 0 0 (gent 3 [.ref 67, .int 2, .int 0]) [] SH0 RF0 (gmx J) (fun r h => r = some (.int (-11)) ∧ h = (SH0, RF0, (gmx J))) := by
  refine G_aload_n (pc := 0) rfl dX12_lacks_0 ?_
  refine G_getR (pc := 1) (r := 82) (ci := 12) (j := 28) rfl lk_RX12_53 rfl rfl rfl dX12_lacks_1 ?_
  refine G_iload_n (pc := 4) rfl dX12_lacks_4 ?_
  refine G_iald (pc := 5) (jj := 2) (v := (-1)) (by decide) rfl rfl (by unfold vp_in; decide) dX12_lacks_5 ?_
  refine G_if_ge (pc := 6) (tgt := 14) (by decide) dX12_lacks_6 (fun z => absurd z (by decide)) (fun _ => ?_)
  refine G_bipush (pc := 9) (v := (-11)) (by decide) dX12_lacks_9 ?_
  refine G_goto (pc := 11) (tgt := 30) (by decide) dX12_lacks_11 ?_
  exact G_iret (pc := 30) (Nat.le_of_ble_eq_true rfl) (Nat.le_of_ble_eq_true rfl) rfl dX12_lacks_30 ⟨rfl, rfl⟩
set_option maxRecDepth 100000 in
set_option maxHeartbeats 4000000 in
theorem s10033_X12_lacks (J : gI) (d : Nat)   : G (d) mX12_lacks 0 0 0 0 0 (gent 3 [.ref 67, .int 3, .int 0]) [] SH0 RF0 (gmx J) (fun r h => r = some (.int (-11)) ∧ h = (SH0, RF0, (gmx J))) := by
  refine G_aload_n (pc := 0) rfl dX12_lacks_0 ?_
  refine G_getR (pc := 1) (r := 82) (ci := 12) (j := 28) rfl lk_RX12_53 rfl rfl rfl dX12_lacks_1 ?_
  refine G_iload_n (pc := 4) rfl dX12_lacks_4 ?_
  refine G_iald (pc := 5) (jj := 3) (v := (-1)) (by decide) rfl rfl (by unfold vp_in; decide) dX12_lacks_5 ?_
  refine G_if_ge (pc := 6) (tgt := 14) (by decide) dX12_lacks_6 (fun z => absurd z (by decide)) (fun _ => ?_)
  refine G_bipush (pc := 9) (v := (-11)) (by decide) dX12_lacks_9 ?_
  refine G_goto (pc := 11) (tgt := 30) (by decide) dX12_lacks_11 ?_
  exact G_iret (pc := 30) (Nat.le_of_ble_eq_true rfl) (Nat.le_of_ble_eq_true rfl) rfl dX12_lacks_30 ⟨rfl, rfl⟩
set_option maxRecDepth 100000 in
set_option maxHeartbeats 4000000 in
theorem z_goAll (J : gI) (d : Nat) (sheet : Int32) (i : Int32) (n : Int32) : G (d + 2) mX12_goAll 0 0 0 0 0 (gent 8 [.ref 67, .int sheet, .int i, .int n]) [] SH0 RF0 (gmx J) (fun r _ => r = some (.int (F_goAll sheet i n))) := by
  refine G_iload_n (pc := 0) rfl dX12_goAll_0 ?_
  refine G_callS (pc := 1) (mc1 := 0) (ms1 := 0) (mj := mX12_isSheet) (vs := [_]) dX12_goAll_1 cm_X12_isSheet wh_46 wh_48 rfl (Nat.le_of_ble_eq_true rfl) (Nat.le_of_ble_eq_true rfl) (Nat.le_of_ble_eq_true rfl) (Nat.le_of_ble_eq_true rfl) (s10023_X12_isSheet J d  _) ?_
  rintro _ _ ⟨rfl, rfl⟩
  dsimp only [Option.toList, List.cons_append, List.nil_append]
  refine G_if_eq (pc := 4) (tgt := 17) (by decide) dX12_goAll_4 (fun c70 => ?_) (fun c70 => ?_)
  · have c70 := gB_z c70
    refine G_iconst (pc := 17) (v := (-1)) (by decide) dX12_goAll_17 ?_
    exact G_iret (pc := 18) (Nat.le_of_ble_eq_true rfl) (Nat.le_of_ble_eq_true rfl) rfl dX12_goAll_18 (by first | rfl | (simp [F_goAll, *]; done) | (have : ¬ (0 ≤ (sheet).toInt ∧ (sheet).toInt ≤ 3) := fun z => c70 ⟨Int32.le_iff_toInt_le.mpr z.1, Int32.le_iff_toInt_le.mpr z.2⟩; simp only [F_goAll, Int32.le_iff_toInt_le, Int32.lt_iff_toInt_lt, ← Int32.toInt_inj]; simp; omega) | (have : ¬ (0 ≤ (sheet).toInt ∧ (sheet).toInt ≤ 3) := fun z => c70 ⟨Int32.le_iff_toInt_le.mpr z.1, Int32.le_iff_toInt_le.mpr z.2⟩; simp only [F_goAll, Int32.le_iff_toInt_le, Int32.lt_iff_toInt_lt, ← Int32.toInt_inj]; split <;> first | rfl | (exfalso; simp at *; omega)) | (have : ¬ (0 ≤ (sheet).toInt ∧ (sheet).toInt ≤ 3) := fun z => c70 ⟨Int32.le_iff_toInt_le.mpr z.1, Int32.le_iff_toInt_le.mpr z.2⟩; unfold F_goAll; (repeat' split) <;> first | rfl | (exfalso; (try simp only [Int32.le_iff_toInt_le, Int32.lt_iff_toInt_lt, ← Int32.toInt_inj] at *); first | omega | (simp at *; done) | (simp at *; omega))))
  · have c70 := gB_o c70
    refine G_iload_n (pc := 7) rfl dX12_goAll_7 ?_
    refine G_iconst (pc := 8) (v := 0) (by decide) dX12_goAll_8 ?_
    refine G_bipush (pc := 9) (v := 20) (by decide) dX12_goAll_9 ?_
    refine G_callS (pc := 11) (mc1 := 0) (ms1 := 0) (mj := mX12_in1) (vs := [_, _, _]) dX12_goAll_11 cm_X12_in1 wh_0 wh_3 rfl (Nat.le_of_ble_eq_true rfl) (Nat.le_of_ble_eq_true rfl) (Nat.le_of_ble_eq_true rfl) (Nat.le_of_ble_eq_true rfl) (in1_s (d + 1) n 0 20) ?_
    rintro _ _ ⟨rfl, rfl⟩
    dsimp only [Option.toList, List.cons_append, List.nil_append]
    refine G_if_ne (pc := 14) (tgt := 19) (by decide) dX12_goAll_14 (fun c71 => ?_) (fun c71 => ?_)
    · have c71 := gB_o c71
      refine G_aload_n (pc := 19) rfl dX12_goAll_19 ?_
      refine G_iload_n (pc := 20) rfl dX12_goAll_20 ?_
      refine G_iconst (pc := 21) (v := 0) (by decide) dX12_goAll_21 ?_
      by_cases c72 : sheet = 0
      · subst c72
        refine G_callV (pc := 22) (mc1 := 0) (ms1 := 0) (ci := 12) (mj := mX12_lacks) (vs := [_, _]) dX12_goAll_22 rfl rfl cm_X12_lacks wh_49 wh_51 wh_52 rfl (Nat.le_of_ble_eq_true rfl) (Nat.le_of_ble_eq_true rfl) (Nat.le_of_ble_eq_true rfl) (Nat.le_of_ble_eq_true rfl) (s10030_X12_lacks J (d + 1)  ) ?_
        rintro _ _ ⟨rfl, rfl⟩
        dsimp only [Option.toList, List.cons_append, List.nil_append]
        refine G_istore (pc := 25) (L1 := [some (.ref 67), some (.int 0), some (.int i), some (.int n), some (.int (-11)), none, none, none]) rfl rfl (by decide) dX12_goAll_25 ?_
        refine G_iload (pc := 27) rfl dX12_goAll_27 ?_
        refine G_if_eq (pc := 29) (tgt := 35) (by decide) dX12_goAll_29 (fun z => absurd z (by decide)) (fun _ => ?_)
        refine G_iload (pc := 32) rfl dX12_goAll_32 ?_
        exact G_iret (pc := 34) (Nat.le_of_ble_eq_true rfl) (Nat.le_of_ble_eq_true rfl) rfl dX12_goAll_34 (by first | rfl | (simp [F_goAll, *]; done) | (have : 0 ≤ (n).toInt := Int32.le_iff_toInt_le.mp (c71.1); have : (n).toInt ≤ 20 := Int32.le_iff_toInt_le.mp (c71.2); simp only [F_goAll, Int32.le_iff_toInt_le, Int32.lt_iff_toInt_lt, ← Int32.toInt_inj]; simp; omega) | (have : 0 ≤ (n).toInt := Int32.le_iff_toInt_le.mp (c71.1); have : (n).toInt ≤ 20 := Int32.le_iff_toInt_le.mp (c71.2); simp only [F_goAll, Int32.le_iff_toInt_le, Int32.lt_iff_toInt_lt, ← Int32.toInt_inj]; split <;> first | rfl | (exfalso; simp at *; omega)) | (have : 0 ≤ (n).toInt := Int32.le_iff_toInt_le.mp (c71.1); have : (n).toInt ≤ 20 := Int32.le_iff_toInt_le.mp (c71.2); unfold F_goAll; (repeat' split) <;> first | rfl | (exfalso; (try simp only [Int32.le_iff_toInt_le, Int32.lt_iff_toInt_lt, ← Int32.toInt_inj] at *); first | omega | (simp at *; done) | (simp at *; omega))))
      by_cases c73 : sheet = 1
      · subst c73
        refine G_callV (pc := 22) (mc1 := 0) (ms1 := 0) (ci := 12) (mj := mX12_lacks) (vs := [_, _]) dX12_goAll_22 rfl rfl cm_X12_lacks wh_49 wh_51 wh_52 rfl (Nat.le_of_ble_eq_true rfl) (Nat.le_of_ble_eq_true rfl) (Nat.le_of_ble_eq_true rfl) (Nat.le_of_ble_eq_true rfl) (s10031_X12_lacks J (d + 1)  ) ?_
        rintro _ _ ⟨rfl, rfl⟩
        dsimp only [Option.toList, List.cons_append, List.nil_append]
        refine G_istore (pc := 25) (L1 := [some (.ref 67), some (.int 1), some (.int i), some (.int n), some (.int (-11)), none, none, none]) rfl rfl (by decide) dX12_goAll_25 ?_
        refine G_iload (pc := 27) rfl dX12_goAll_27 ?_
        refine G_if_eq (pc := 29) (tgt := 35) (by decide) dX12_goAll_29 (fun z => absurd z (by decide)) (fun _ => ?_)
        refine G_iload (pc := 32) rfl dX12_goAll_32 ?_
        exact G_iret (pc := 34) (Nat.le_of_ble_eq_true rfl) (Nat.le_of_ble_eq_true rfl) rfl dX12_goAll_34 (by first | rfl | (simp [F_goAll, *]; done) | (have : 0 ≤ (n).toInt := Int32.le_iff_toInt_le.mp (c71.1); have : (n).toInt ≤ 20 := Int32.le_iff_toInt_le.mp (c71.2); simp only [F_goAll, Int32.le_iff_toInt_le, Int32.lt_iff_toInt_lt, ← Int32.toInt_inj]; simp; omega) | (have : 0 ≤ (n).toInt := Int32.le_iff_toInt_le.mp (c71.1); have : (n).toInt ≤ 20 := Int32.le_iff_toInt_le.mp (c71.2); simp only [F_goAll, Int32.le_iff_toInt_le, Int32.lt_iff_toInt_lt, ← Int32.toInt_inj]; split <;> first | rfl | (exfalso; simp at *; omega)) | (have : 0 ≤ (n).toInt := Int32.le_iff_toInt_le.mp (c71.1); have : (n).toInt ≤ 20 := Int32.le_iff_toInt_le.mp (c71.2); unfold F_goAll; (repeat' split) <;> first | rfl | (exfalso; (try simp only [Int32.le_iff_toInt_le, Int32.lt_iff_toInt_lt, ← Int32.toInt_inj] at *); first | omega | (simp at *; done) | (simp at *; omega))))
      by_cases c74 : sheet = 2
      · subst c74
        refine G_callV (pc := 22) (mc1 := 0) (ms1 := 0) (ci := 12) (mj := mX12_lacks) (vs := [_, _]) dX12_goAll_22 rfl rfl cm_X12_lacks wh_49 wh_51 wh_52 rfl (Nat.le_of_ble_eq_true rfl) (Nat.le_of_ble_eq_true rfl) (Nat.le_of_ble_eq_true rfl) (Nat.le_of_ble_eq_true rfl) (s10032_X12_lacks J (d + 1)  ) ?_
        rintro _ _ ⟨rfl, rfl⟩
        dsimp only [Option.toList, List.cons_append, List.nil_append]
        refine G_istore (pc := 25) (L1 := [some (.ref 67), some (.int 2), some (.int i), some (.int n), some (.int (-11)), none, none, none]) rfl rfl (by decide) dX12_goAll_25 ?_
        refine G_iload (pc := 27) rfl dX12_goAll_27 ?_
        refine G_if_eq (pc := 29) (tgt := 35) (by decide) dX12_goAll_29 (fun z => absurd z (by decide)) (fun _ => ?_)
        refine G_iload (pc := 32) rfl dX12_goAll_32 ?_
        exact G_iret (pc := 34) (Nat.le_of_ble_eq_true rfl) (Nat.le_of_ble_eq_true rfl) rfl dX12_goAll_34 (by first | rfl | (simp [F_goAll, *]; done) | (have : 0 ≤ (n).toInt := Int32.le_iff_toInt_le.mp (c71.1); have : (n).toInt ≤ 20 := Int32.le_iff_toInt_le.mp (c71.2); simp only [F_goAll, Int32.le_iff_toInt_le, Int32.lt_iff_toInt_lt, ← Int32.toInt_inj]; simp; omega) | (have : 0 ≤ (n).toInt := Int32.le_iff_toInt_le.mp (c71.1); have : (n).toInt ≤ 20 := Int32.le_iff_toInt_le.mp (c71.2); simp only [F_goAll, Int32.le_iff_toInt_le, Int32.lt_iff_toInt_lt, ← Int32.toInt_inj]; split <;> first | rfl | (exfalso; simp at *; omega)) | (have : 0 ≤ (n).toInt := Int32.le_iff_toInt_le.mp (c71.1); have : (n).toInt ≤ 20 := Int32.le_iff_toInt_le.mp (c71.2); unfold F_goAll; (repeat' split) <;> first | rfl | (exfalso; (try simp only [Int32.le_iff_toInt_le, Int32.lt_iff_toInt_lt, ← Int32.toInt_inj] at *); first | omega | (simp at *; done) | (simp at *; omega))))
      by_cases c75 : sheet = 3
      · subst c75
        refine G_callV (pc := 22) (mc1 := 0) (ms1 := 0) (ci := 12) (mj := mX12_lacks) (vs := [_, _]) dX12_goAll_22 rfl rfl cm_X12_lacks wh_49 wh_51 wh_52 rfl (Nat.le_of_ble_eq_true rfl) (Nat.le_of_ble_eq_true rfl) (Nat.le_of_ble_eq_true rfl) (Nat.le_of_ble_eq_true rfl) (s10033_X12_lacks J (d + 1)  ) ?_
        rintro _ _ ⟨rfl, rfl⟩
        dsimp only [Option.toList, List.cons_append, List.nil_append]
        refine G_istore (pc := 25) (L1 := [some (.ref 67), some (.int 3), some (.int i), some (.int n), some (.int (-11)), none, none, none]) rfl rfl (by decide) dX12_goAll_25 ?_
        refine G_iload (pc := 27) rfl dX12_goAll_27 ?_
        refine G_if_eq (pc := 29) (tgt := 35) (by decide) dX12_goAll_29 (fun z => absurd z (by decide)) (fun _ => ?_)
        refine G_iload (pc := 32) rfl dX12_goAll_32 ?_
        exact G_iret (pc := 34) (Nat.le_of_ble_eq_true rfl) (Nat.le_of_ble_eq_true rfl) rfl dX12_goAll_34 (by first | rfl | (simp [F_goAll, *]; done) | (have : 0 ≤ (n).toInt := Int32.le_iff_toInt_le.mp (c71.1); have : (n).toInt ≤ 20 := Int32.le_iff_toInt_le.mp (c71.2); simp only [F_goAll, Int32.le_iff_toInt_le, Int32.lt_iff_toInt_lt, ← Int32.toInt_inj]; simp; omega) | (have : 0 ≤ (n).toInt := Int32.le_iff_toInt_le.mp (c71.1); have : (n).toInt ≤ 20 := Int32.le_iff_toInt_le.mp (c71.2); simp only [F_goAll, Int32.le_iff_toInt_le, Int32.lt_iff_toInt_lt, ← Int32.toInt_inj]; split <;> first | rfl | (exfalso; simp at *; omega)) | (have : 0 ≤ (n).toInt := Int32.le_iff_toInt_le.mp (c71.1); have : (n).toInt ≤ 20 := Int32.le_iff_toInt_le.mp (c71.2); unfold F_goAll; (repeat' split) <;> first | rfl | (exfalso; (try simp only [Int32.le_iff_toInt_le, Int32.lt_iff_toInt_lt, ← Int32.toInt_inj] at *); first | omega | (simp at *; done) | (simp at *; omega))))
      exfalso
      have : 0 ≤ (sheet).toInt := Int32.le_iff_toInt_le.mp (c70.1)
      have : (sheet).toInt ≤ 3 := Int32.le_iff_toInt_le.mp (c70.2)
      have : (sheet).toInt ≠ 0 := g_ne (c72)
      have : (sheet).toInt ≠ 1 := g_ne (c73)
      have : (sheet).toInt ≠ 2 := g_ne (c74)
      have : (sheet).toInt ≠ 3 := g_ne (c75)
      omega
    · have c71 := gB_z c71
      refine G_iconst (pc := 17) (v := (-1)) (by decide) dX12_goAll_17 ?_
      exact G_iret (pc := 18) (Nat.le_of_ble_eq_true rfl) (Nat.le_of_ble_eq_true rfl) rfl dX12_goAll_18 (by first | rfl | (simp [F_goAll, *]; done) | (have : 0 ≤ (sheet).toInt := Int32.le_iff_toInt_le.mp (c70.1); have : (sheet).toInt ≤ 3 := Int32.le_iff_toInt_le.mp (c70.2); have : ¬ (0 ≤ (n).toInt ∧ (n).toInt ≤ 20) := fun z => c71 ⟨Int32.le_iff_toInt_le.mpr z.1, Int32.le_iff_toInt_le.mpr z.2⟩; simp only [F_goAll, Int32.le_iff_toInt_le, Int32.lt_iff_toInt_lt, ← Int32.toInt_inj]; simp; omega) | (have : 0 ≤ (sheet).toInt := Int32.le_iff_toInt_le.mp (c70.1); have : (sheet).toInt ≤ 3 := Int32.le_iff_toInt_le.mp (c70.2); have : ¬ (0 ≤ (n).toInt ∧ (n).toInt ≤ 20) := fun z => c71 ⟨Int32.le_iff_toInt_le.mpr z.1, Int32.le_iff_toInt_le.mpr z.2⟩; simp only [F_goAll, Int32.le_iff_toInt_le, Int32.lt_iff_toInt_lt, ← Int32.toInt_inj]; split <;> first | rfl | (exfalso; simp at *; omega)) | (have : 0 ≤ (sheet).toInt := Int32.le_iff_toInt_le.mp (c70.1); have : (sheet).toInt ≤ 3 := Int32.le_iff_toInt_le.mp (c70.2); have : ¬ (0 ≤ (n).toInt ∧ (n).toInt ≤ 20) := fun z => c71 ⟨Int32.le_iff_toInt_le.mpr z.1, Int32.le_iff_toInt_le.mpr z.2⟩; unfold F_goAll; (repeat' split) <;> first | rfl | (exfalso; (try simp only [Int32.le_iff_toInt_le, Int32.lt_iff_toInt_lt, ← Int32.toInt_inj] at *); first | omega | (simp at *; done) | (simp at *; omega))))
set_option maxRecDepth 100000 in
set_option maxHeartbeats 4000000 in
theorem z_wouldBe (J : gI) (d : Nat) (sheet : Int32) (i : Int32) (n : Int32) : G (d + 2) mX12_wouldBe 0 0 0 0 0 (gent 8 [.ref 67, .int sheet, .int i, .int n]) [] SH0 RF0 (gmx J) (fun r _ => r = some (.int (F_wouldBe sheet i n))) := by
  refine G_iload_n (pc := 0) rfl dX12_wouldBe_0 ?_
  refine G_callS (pc := 1) (mc1 := 0) (ms1 := 0) (mj := mX12_isSheet) (vs := [_]) dX12_wouldBe_1 cm_X12_isSheet wh_46 wh_48 rfl (Nat.le_of_ble_eq_true rfl) (Nat.le_of_ble_eq_true rfl) (Nat.le_of_ble_eq_true rfl) (Nat.le_of_ble_eq_true rfl) (s10023_X12_isSheet J d  _) ?_
  rintro _ _ ⟨rfl, rfl⟩
  dsimp only [Option.toList, List.cons_append, List.nil_append]
  refine G_if_eq (pc := 4) (tgt := 17) (by decide) dX12_wouldBe_4 (fun c76 => ?_) (fun c76 => ?_)
  · have c76 := gB_z c76
    refine G_iconst (pc := 17) (v := (-1)) (by decide) dX12_wouldBe_17 ?_
    exact G_iret (pc := 18) (Nat.le_of_ble_eq_true rfl) (Nat.le_of_ble_eq_true rfl) rfl dX12_wouldBe_18 (by first | rfl | (simp [F_wouldBe, *]; done) | (have : ¬ (0 ≤ (sheet).toInt ∧ (sheet).toInt ≤ 3) := fun z => c76 ⟨Int32.le_iff_toInt_le.mpr z.1, Int32.le_iff_toInt_le.mpr z.2⟩; simp only [F_wouldBe, Int32.le_iff_toInt_le, Int32.lt_iff_toInt_lt, ← Int32.toInt_inj]; simp; omega) | (have : ¬ (0 ≤ (sheet).toInt ∧ (sheet).toInt ≤ 3) := fun z => c76 ⟨Int32.le_iff_toInt_le.mpr z.1, Int32.le_iff_toInt_le.mpr z.2⟩; simp only [F_wouldBe, Int32.le_iff_toInt_le, Int32.lt_iff_toInt_lt, ← Int32.toInt_inj]; split <;> first | rfl | (exfalso; simp at *; omega)) | (have : ¬ (0 ≤ (sheet).toInt ∧ (sheet).toInt ≤ 3) := fun z => c76 ⟨Int32.le_iff_toInt_le.mpr z.1, Int32.le_iff_toInt_le.mpr z.2⟩; unfold F_wouldBe; (repeat' split) <;> first | rfl | (exfalso; (try simp only [Int32.le_iff_toInt_le, Int32.lt_iff_toInt_lt, ← Int32.toInt_inj] at *); first | omega | (simp at *; done) | (simp at *; omega))))
  · have c76 := gB_o c76
    refine G_iload_n (pc := 7) rfl dX12_wouldBe_7 ?_
    refine G_iconst (pc := 8) (v := 0) (by decide) dX12_wouldBe_8 ?_
    refine G_bipush (pc := 9) (v := 20) (by decide) dX12_wouldBe_9 ?_
    refine G_callS (pc := 11) (mc1 := 0) (ms1 := 0) (mj := mX12_in1) (vs := [_, _, _]) dX12_wouldBe_11 cm_X12_in1 wh_0 wh_3 rfl (Nat.le_of_ble_eq_true rfl) (Nat.le_of_ble_eq_true rfl) (Nat.le_of_ble_eq_true rfl) (Nat.le_of_ble_eq_true rfl) (in1_s (d + 1) n 0 20) ?_
    rintro _ _ ⟨rfl, rfl⟩
    dsimp only [Option.toList, List.cons_append, List.nil_append]
    refine G_if_ne (pc := 14) (tgt := 19) (by decide) dX12_wouldBe_14 (fun c77 => ?_) (fun c77 => ?_)
    · have c77 := gB_o c77
      refine G_aload_n (pc := 19) rfl dX12_wouldBe_19 ?_
      refine G_iload_n (pc := 20) rfl dX12_wouldBe_20 ?_
      refine G_iconst (pc := 21) (v := 0) (by decide) dX12_wouldBe_21 ?_
      by_cases c78 : sheet = 0
      · subst c78
        refine G_callV (pc := 22) (mc1 := 0) (ms1 := 0) (ci := 12) (mj := mX12_lacks) (vs := [_, _]) dX12_wouldBe_22 rfl rfl cm_X12_lacks wh_49 wh_51 wh_52 rfl (Nat.le_of_ble_eq_true rfl) (Nat.le_of_ble_eq_true rfl) (Nat.le_of_ble_eq_true rfl) (Nat.le_of_ble_eq_true rfl) (s10030_X12_lacks J (d + 1)  ) ?_
        rintro _ _ ⟨rfl, rfl⟩
        dsimp only [Option.toList, List.cons_append, List.nil_append]
        refine G_istore (pc := 25) (L1 := [some (.ref 67), some (.int 0), some (.int i), some (.int n), some (.int (-11)), none, none, none]) rfl rfl (by decide) dX12_wouldBe_25 ?_
        refine G_iconst (pc := 27) (v := 0) (by decide) dX12_wouldBe_27 ?_
        refine G_istore (pc := 28) (L1 := [some (.ref 67), some (.int 0), some (.int i), some (.int n), some (.int (-11)), some (.int 0), none, none]) rfl rfl (by decide) dX12_wouldBe_28 ?_
        refine G_aload_n (pc := 30) rfl dX12_wouldBe_30 ?_
        refine G_callV (pc := 31) (mc1 := 0) (ms1 := 0) (ci := 12) (mj := mX12_layDown) (vs := []) dX12_wouldBe_31 rfl rfl cm_X12_layDown wh_53 wh_55 wh_56 rfl (Nat.le_of_ble_eq_true rfl) (Nat.le_of_ble_eq_true rfl) (Nat.le_of_ble_eq_true rfl) (Nat.le_of_ble_eq_true rfl) (layDown_s (d + 1) (gmx J)) ?_
        rintro _ _ ⟨rfl, rfl⟩
        dsimp only [Option.toList, List.cons_append, List.nil_append]
        refine G_iconst (pc := 34) (v := 0) (by decide) dX12_wouldBe_34 ?_
        refine G_istore (pc := 35) (L1 := [some (.ref 67), some (.int 0), some (.int i), some (.int n), some (.int (-11)), some (.int 0), some (.int 0), none]) rfl rfl (by decide) dX12_wouldBe_35 ?_
        refine G_iload (pc := 37) rfl dX12_wouldBe_37 ?_
        refine G_iload_n (pc := 39) rfl dX12_wouldBe_39 ?_
        refine G_icmp_ge (pc := 40) (tgt := 145) (by decide) dX12_wouldBe_40 (fun c79 => ?_) (fun c79 => ?_)
        · refine G_aload_n (pc := 145) rfl dX12_wouldBe_145 ?_
          refine G_callV (pc := 146) (mc1 := 0) (ms1 := 0) (ci := 12) (mj := mX12_layBack) (vs := []) dX12_wouldBe_146 rfl rfl cm_X12_layBack wh_57 wh_59 wh_60 rfl (Nat.le_of_ble_eq_true rfl) (Nat.le_of_ble_eq_true rfl) (Nat.le_of_ble_eq_true rfl) (Nat.le_of_ble_eq_true rfl) (layBack_s (d + 1) (gcp (gmx J) 68 70 0 0 65)) ?_
          rintro _ _ ⟨rfl, rfl⟩
          dsimp only [Option.toList, List.cons_append, List.nil_append]
          refine G_iload (pc := 149) rfl dX12_wouldBe_149 ?_
          refine G_if_eq (pc := 151) (tgt := 159) (by decide) dX12_wouldBe_151 (fun z => absurd z (by decide)) (fun _ => ?_)
          refine G_iload (pc := 154) rfl dX12_wouldBe_154 ?_
          refine G_goto (pc := 156) (tgt := 161) (by decide) dX12_wouldBe_156 ?_
          exact G_iret (pc := 161) (Nat.le_of_ble_eq_true rfl) (Nat.le_of_ble_eq_true rfl) rfl dX12_wouldBe_161 (by first | rfl | (simp [F_wouldBe, *]; done) | (have : 0 ≤ (n).toInt := Int32.le_iff_toInt_le.mp (c77.1); have : (n).toInt ≤ 20 := Int32.le_iff_toInt_le.mp (c77.2); have : (n).toInt ≤ 0 := Int32.le_iff_toInt_le.mp (c79); simp only [F_wouldBe, Int32.le_iff_toInt_le, Int32.lt_iff_toInt_lt, ← Int32.toInt_inj]; simp; omega) | (have : 0 ≤ (n).toInt := Int32.le_iff_toInt_le.mp (c77.1); have : (n).toInt ≤ 20 := Int32.le_iff_toInt_le.mp (c77.2); have : (n).toInt ≤ 0 := Int32.le_iff_toInt_le.mp (c79); simp only [F_wouldBe, Int32.le_iff_toInt_le, Int32.lt_iff_toInt_lt, ← Int32.toInt_inj]; split <;> first | rfl | (exfalso; simp at *; omega)) | (have : 0 ≤ (n).toInt := Int32.le_iff_toInt_le.mp (c77.1); have : (n).toInt ≤ 20 := Int32.le_iff_toInt_le.mp (c77.2); have : (n).toInt ≤ 0 := Int32.le_iff_toInt_le.mp (c79); unfold F_wouldBe; (repeat' split) <;> first | rfl | (exfalso; (try simp only [Int32.le_iff_toInt_le, Int32.lt_iff_toInt_lt, ← Int32.toInt_inj] at *); first | omega | (simp at *; done) | (simp at *; omega))))
        · refine G_iload (pc := 43) rfl dX12_wouldBe_43 ?_
          refine G_if_ne (pc := 45) (tgt := 145) (by decide) dX12_wouldBe_45 (fun _ => ?_) (fun z => absurd z (by decide))
          refine G_aload_n (pc := 145) rfl dX12_wouldBe_145 ?_
          refine G_callV (pc := 146) (mc1 := 0) (ms1 := 0) (ci := 12) (mj := mX12_layBack) (vs := []) dX12_wouldBe_146 rfl rfl cm_X12_layBack wh_57 wh_59 wh_60 rfl (Nat.le_of_ble_eq_true rfl) (Nat.le_of_ble_eq_true rfl) (Nat.le_of_ble_eq_true rfl) (Nat.le_of_ble_eq_true rfl) (layBack_s (d + 1) (gcp (gmx J) 68 70 0 0 65)) ?_
          rintro _ _ ⟨rfl, rfl⟩
          dsimp only [Option.toList, List.cons_append, List.nil_append]
          refine G_iload (pc := 149) rfl dX12_wouldBe_149 ?_
          refine G_if_eq (pc := 151) (tgt := 159) (by decide) dX12_wouldBe_151 (fun z => absurd z (by decide)) (fun _ => ?_)
          refine G_iload (pc := 154) rfl dX12_wouldBe_154 ?_
          refine G_goto (pc := 156) (tgt := 161) (by decide) dX12_wouldBe_156 ?_
          exact G_iret (pc := 161) (Nat.le_of_ble_eq_true rfl) (Nat.le_of_ble_eq_true rfl) rfl dX12_wouldBe_161 (by first | rfl | (simp [F_wouldBe, *]; done) | (have : 0 ≤ (n).toInt := Int32.le_iff_toInt_le.mp (c77.1); have : (n).toInt ≤ 20 := Int32.le_iff_toInt_le.mp (c77.2); have : 0 < (n).toInt := Int32.lt_iff_toInt_lt.mp (Int32.not_le.mp c79); simp only [F_wouldBe, Int32.le_iff_toInt_le, Int32.lt_iff_toInt_lt, ← Int32.toInt_inj]; simp; omega) | (have : 0 ≤ (n).toInt := Int32.le_iff_toInt_le.mp (c77.1); have : (n).toInt ≤ 20 := Int32.le_iff_toInt_le.mp (c77.2); have : 0 < (n).toInt := Int32.lt_iff_toInt_lt.mp (Int32.not_le.mp c79); simp only [F_wouldBe, Int32.le_iff_toInt_le, Int32.lt_iff_toInt_lt, ← Int32.toInt_inj]; split <;> first | rfl | (exfalso; simp at *; omega)) | (have : 0 ≤ (n).toInt := Int32.le_iff_toInt_le.mp (c77.1); have : (n).toInt ≤ 20 := Int32.le_iff_toInt_le.mp (c77.2); have : 0 < (n).toInt := Int32.lt_iff_toInt_lt.mp (Int32.not_le.mp c79); unfold F_wouldBe; (repeat' split) <;> first | rfl | (exfalso; (try simp only [Int32.le_iff_toInt_le, Int32.lt_iff_toInt_lt, ← Int32.toInt_inj] at *); first | omega | (simp at *; done) | (simp at *; omega))))
      by_cases c80 : sheet = 1
      · subst c80
        refine G_callV (pc := 22) (mc1 := 0) (ms1 := 0) (ci := 12) (mj := mX12_lacks) (vs := [_, _]) dX12_wouldBe_22 rfl rfl cm_X12_lacks wh_49 wh_51 wh_52 rfl (Nat.le_of_ble_eq_true rfl) (Nat.le_of_ble_eq_true rfl) (Nat.le_of_ble_eq_true rfl) (Nat.le_of_ble_eq_true rfl) (s10031_X12_lacks J (d + 1)  ) ?_
        rintro _ _ ⟨rfl, rfl⟩
        dsimp only [Option.toList, List.cons_append, List.nil_append]
        refine G_istore (pc := 25) (L1 := [some (.ref 67), some (.int 1), some (.int i), some (.int n), some (.int (-11)), none, none, none]) rfl rfl (by decide) dX12_wouldBe_25 ?_
        refine G_iconst (pc := 27) (v := 0) (by decide) dX12_wouldBe_27 ?_
        refine G_istore (pc := 28) (L1 := [some (.ref 67), some (.int 1), some (.int i), some (.int n), some (.int (-11)), some (.int 0), none, none]) rfl rfl (by decide) dX12_wouldBe_28 ?_
        refine G_aload_n (pc := 30) rfl dX12_wouldBe_30 ?_
        refine G_callV (pc := 31) (mc1 := 0) (ms1 := 0) (ci := 12) (mj := mX12_layDown) (vs := []) dX12_wouldBe_31 rfl rfl cm_X12_layDown wh_53 wh_55 wh_56 rfl (Nat.le_of_ble_eq_true rfl) (Nat.le_of_ble_eq_true rfl) (Nat.le_of_ble_eq_true rfl) (Nat.le_of_ble_eq_true rfl) (layDown_s (d + 1) (gmx J)) ?_
        rintro _ _ ⟨rfl, rfl⟩
        dsimp only [Option.toList, List.cons_append, List.nil_append]
        refine G_iconst (pc := 34) (v := 0) (by decide) dX12_wouldBe_34 ?_
        refine G_istore (pc := 35) (L1 := [some (.ref 67), some (.int 1), some (.int i), some (.int n), some (.int (-11)), some (.int 0), some (.int 0), none]) rfl rfl (by decide) dX12_wouldBe_35 ?_
        refine G_iload (pc := 37) rfl dX12_wouldBe_37 ?_
        refine G_iload_n (pc := 39) rfl dX12_wouldBe_39 ?_
        refine G_icmp_ge (pc := 40) (tgt := 145) (by decide) dX12_wouldBe_40 (fun c81 => ?_) (fun c81 => ?_)
        · refine G_aload_n (pc := 145) rfl dX12_wouldBe_145 ?_
          refine G_callV (pc := 146) (mc1 := 0) (ms1 := 0) (ci := 12) (mj := mX12_layBack) (vs := []) dX12_wouldBe_146 rfl rfl cm_X12_layBack wh_57 wh_59 wh_60 rfl (Nat.le_of_ble_eq_true rfl) (Nat.le_of_ble_eq_true rfl) (Nat.le_of_ble_eq_true rfl) (Nat.le_of_ble_eq_true rfl) (layBack_s (d + 1) (gcp (gmx J) 68 70 0 0 65)) ?_
          rintro _ _ ⟨rfl, rfl⟩
          dsimp only [Option.toList, List.cons_append, List.nil_append]
          refine G_iload (pc := 149) rfl dX12_wouldBe_149 ?_
          refine G_if_eq (pc := 151) (tgt := 159) (by decide) dX12_wouldBe_151 (fun z => absurd z (by decide)) (fun _ => ?_)
          refine G_iload (pc := 154) rfl dX12_wouldBe_154 ?_
          refine G_goto (pc := 156) (tgt := 161) (by decide) dX12_wouldBe_156 ?_
          exact G_iret (pc := 161) (Nat.le_of_ble_eq_true rfl) (Nat.le_of_ble_eq_true rfl) rfl dX12_wouldBe_161 (by first | rfl | (simp [F_wouldBe, *]; done) | (have : 0 ≤ (n).toInt := Int32.le_iff_toInt_le.mp (c77.1); have : (n).toInt ≤ 20 := Int32.le_iff_toInt_le.mp (c77.2); have : (n).toInt ≤ 0 := Int32.le_iff_toInt_le.mp (c81); simp only [F_wouldBe, Int32.le_iff_toInt_le, Int32.lt_iff_toInt_lt, ← Int32.toInt_inj]; simp; omega) | (have : 0 ≤ (n).toInt := Int32.le_iff_toInt_le.mp (c77.1); have : (n).toInt ≤ 20 := Int32.le_iff_toInt_le.mp (c77.2); have : (n).toInt ≤ 0 := Int32.le_iff_toInt_le.mp (c81); simp only [F_wouldBe, Int32.le_iff_toInt_le, Int32.lt_iff_toInt_lt, ← Int32.toInt_inj]; split <;> first | rfl | (exfalso; simp at *; omega)) | (have : 0 ≤ (n).toInt := Int32.le_iff_toInt_le.mp (c77.1); have : (n).toInt ≤ 20 := Int32.le_iff_toInt_le.mp (c77.2); have : (n).toInt ≤ 0 := Int32.le_iff_toInt_le.mp (c81); unfold F_wouldBe; (repeat' split) <;> first | rfl | (exfalso; (try simp only [Int32.le_iff_toInt_le, Int32.lt_iff_toInt_lt, ← Int32.toInt_inj] at *); first | omega | (simp at *; done) | (simp at *; omega))))
        · refine G_iload (pc := 43) rfl dX12_wouldBe_43 ?_
          refine G_if_ne (pc := 45) (tgt := 145) (by decide) dX12_wouldBe_45 (fun _ => ?_) (fun z => absurd z (by decide))
          refine G_aload_n (pc := 145) rfl dX12_wouldBe_145 ?_
          refine G_callV (pc := 146) (mc1 := 0) (ms1 := 0) (ci := 12) (mj := mX12_layBack) (vs := []) dX12_wouldBe_146 rfl rfl cm_X12_layBack wh_57 wh_59 wh_60 rfl (Nat.le_of_ble_eq_true rfl) (Nat.le_of_ble_eq_true rfl) (Nat.le_of_ble_eq_true rfl) (Nat.le_of_ble_eq_true rfl) (layBack_s (d + 1) (gcp (gmx J) 68 70 0 0 65)) ?_
          rintro _ _ ⟨rfl, rfl⟩
          dsimp only [Option.toList, List.cons_append, List.nil_append]
          refine G_iload (pc := 149) rfl dX12_wouldBe_149 ?_
          refine G_if_eq (pc := 151) (tgt := 159) (by decide) dX12_wouldBe_151 (fun z => absurd z (by decide)) (fun _ => ?_)
          refine G_iload (pc := 154) rfl dX12_wouldBe_154 ?_
          refine G_goto (pc := 156) (tgt := 161) (by decide) dX12_wouldBe_156 ?_
          exact G_iret (pc := 161) (Nat.le_of_ble_eq_true rfl) (Nat.le_of_ble_eq_true rfl) rfl dX12_wouldBe_161 (by first | rfl | (simp [F_wouldBe, *]; done) | (have : 0 ≤ (n).toInt := Int32.le_iff_toInt_le.mp (c77.1); have : (n).toInt ≤ 20 := Int32.le_iff_toInt_le.mp (c77.2); have : 0 < (n).toInt := Int32.lt_iff_toInt_lt.mp (Int32.not_le.mp c81); simp only [F_wouldBe, Int32.le_iff_toInt_le, Int32.lt_iff_toInt_lt, ← Int32.toInt_inj]; simp; omega) | (have : 0 ≤ (n).toInt := Int32.le_iff_toInt_le.mp (c77.1); have : (n).toInt ≤ 20 := Int32.le_iff_toInt_le.mp (c77.2); have : 0 < (n).toInt := Int32.lt_iff_toInt_lt.mp (Int32.not_le.mp c81); simp only [F_wouldBe, Int32.le_iff_toInt_le, Int32.lt_iff_toInt_lt, ← Int32.toInt_inj]; split <;> first | rfl | (exfalso; simp at *; omega)) | (have : 0 ≤ (n).toInt := Int32.le_iff_toInt_le.mp (c77.1); have : (n).toInt ≤ 20 := Int32.le_iff_toInt_le.mp (c77.2); have : 0 < (n).toInt := Int32.lt_iff_toInt_lt.mp (Int32.not_le.mp c81); unfold F_wouldBe; (repeat' split) <;> first | rfl | (exfalso; (try simp only [Int32.le_iff_toInt_le, Int32.lt_iff_toInt_lt, ← Int32.toInt_inj] at *); first | omega | (simp at *; done) | (simp at *; omega))))
      by_cases c82 : sheet = 2
      · subst c82
        refine G_callV (pc := 22) (mc1 := 0) (ms1 := 0) (ci := 12) (mj := mX12_lacks) (vs := [_, _]) dX12_wouldBe_22 rfl rfl cm_X12_lacks wh_49 wh_51 wh_52 rfl (Nat.le_of_ble_eq_true rfl) (Nat.le_of_ble_eq_true rfl) (Nat.le_of_ble_eq_true rfl) (Nat.le_of_ble_eq_true rfl) (s10032_X12_lacks J (d + 1)  ) ?_
        rintro _ _ ⟨rfl, rfl⟩
        dsimp only [Option.toList, List.cons_append, List.nil_append]
        refine G_istore (pc := 25) (L1 := [some (.ref 67), some (.int 2), some (.int i), some (.int n), some (.int (-11)), none, none, none]) rfl rfl (by decide) dX12_wouldBe_25 ?_
        refine G_iconst (pc := 27) (v := 0) (by decide) dX12_wouldBe_27 ?_
        refine G_istore (pc := 28) (L1 := [some (.ref 67), some (.int 2), some (.int i), some (.int n), some (.int (-11)), some (.int 0), none, none]) rfl rfl (by decide) dX12_wouldBe_28 ?_
        refine G_aload_n (pc := 30) rfl dX12_wouldBe_30 ?_
        refine G_callV (pc := 31) (mc1 := 0) (ms1 := 0) (ci := 12) (mj := mX12_layDown) (vs := []) dX12_wouldBe_31 rfl rfl cm_X12_layDown wh_53 wh_55 wh_56 rfl (Nat.le_of_ble_eq_true rfl) (Nat.le_of_ble_eq_true rfl) (Nat.le_of_ble_eq_true rfl) (Nat.le_of_ble_eq_true rfl) (layDown_s (d + 1) (gmx J)) ?_
        rintro _ _ ⟨rfl, rfl⟩
        dsimp only [Option.toList, List.cons_append, List.nil_append]
        refine G_iconst (pc := 34) (v := 0) (by decide) dX12_wouldBe_34 ?_
        refine G_istore (pc := 35) (L1 := [some (.ref 67), some (.int 2), some (.int i), some (.int n), some (.int (-11)), some (.int 0), some (.int 0), none]) rfl rfl (by decide) dX12_wouldBe_35 ?_
        refine G_iload (pc := 37) rfl dX12_wouldBe_37 ?_
        refine G_iload_n (pc := 39) rfl dX12_wouldBe_39 ?_
        refine G_icmp_ge (pc := 40) (tgt := 145) (by decide) dX12_wouldBe_40 (fun c83 => ?_) (fun c83 => ?_)
        · refine G_aload_n (pc := 145) rfl dX12_wouldBe_145 ?_
          refine G_callV (pc := 146) (mc1 := 0) (ms1 := 0) (ci := 12) (mj := mX12_layBack) (vs := []) dX12_wouldBe_146 rfl rfl cm_X12_layBack wh_57 wh_59 wh_60 rfl (Nat.le_of_ble_eq_true rfl) (Nat.le_of_ble_eq_true rfl) (Nat.le_of_ble_eq_true rfl) (Nat.le_of_ble_eq_true rfl) (layBack_s (d + 1) (gcp (gmx J) 68 70 0 0 65)) ?_
          rintro _ _ ⟨rfl, rfl⟩
          dsimp only [Option.toList, List.cons_append, List.nil_append]
          refine G_iload (pc := 149) rfl dX12_wouldBe_149 ?_
          refine G_if_eq (pc := 151) (tgt := 159) (by decide) dX12_wouldBe_151 (fun z => absurd z (by decide)) (fun _ => ?_)
          refine G_iload (pc := 154) rfl dX12_wouldBe_154 ?_
          refine G_goto (pc := 156) (tgt := 161) (by decide) dX12_wouldBe_156 ?_
          exact G_iret (pc := 161) (Nat.le_of_ble_eq_true rfl) (Nat.le_of_ble_eq_true rfl) rfl dX12_wouldBe_161 (by first | rfl | (simp [F_wouldBe, *]; done) | (have : 0 ≤ (n).toInt := Int32.le_iff_toInt_le.mp (c77.1); have : (n).toInt ≤ 20 := Int32.le_iff_toInt_le.mp (c77.2); have : (n).toInt ≤ 0 := Int32.le_iff_toInt_le.mp (c83); simp only [F_wouldBe, Int32.le_iff_toInt_le, Int32.lt_iff_toInt_lt, ← Int32.toInt_inj]; simp; omega) | (have : 0 ≤ (n).toInt := Int32.le_iff_toInt_le.mp (c77.1); have : (n).toInt ≤ 20 := Int32.le_iff_toInt_le.mp (c77.2); have : (n).toInt ≤ 0 := Int32.le_iff_toInt_le.mp (c83); simp only [F_wouldBe, Int32.le_iff_toInt_le, Int32.lt_iff_toInt_lt, ← Int32.toInt_inj]; split <;> first | rfl | (exfalso; simp at *; omega)) | (have : 0 ≤ (n).toInt := Int32.le_iff_toInt_le.mp (c77.1); have : (n).toInt ≤ 20 := Int32.le_iff_toInt_le.mp (c77.2); have : (n).toInt ≤ 0 := Int32.le_iff_toInt_le.mp (c83); unfold F_wouldBe; (repeat' split) <;> first | rfl | (exfalso; (try simp only [Int32.le_iff_toInt_le, Int32.lt_iff_toInt_lt, ← Int32.toInt_inj] at *); first | omega | (simp at *; done) | (simp at *; omega))))
        · refine G_iload (pc := 43) rfl dX12_wouldBe_43 ?_
          refine G_if_ne (pc := 45) (tgt := 145) (by decide) dX12_wouldBe_45 (fun _ => ?_) (fun z => absurd z (by decide))
          refine G_aload_n (pc := 145) rfl dX12_wouldBe_145 ?_
          refine G_callV (pc := 146) (mc1 := 0) (ms1 := 0) (ci := 12) (mj := mX12_layBack) (vs := []) dX12_wouldBe_146 rfl rfl cm_X12_layBack wh_57 wh_59 wh_60 rfl (Nat.le_of_ble_eq_true rfl) (Nat.le_of_ble_eq_true rfl) (Nat.le_of_ble_eq_true rfl) (Nat.le_of_ble_eq_true rfl) (layBack_s (d + 1) (gcp (gmx J) 68 70 0 0 65)) ?_
          rintro _ _ ⟨rfl, rfl⟩
          dsimp only [Option.toList, List.cons_append, List.nil_append]
          refine G_iload (pc := 149) rfl dX12_wouldBe_149 ?_
          refine G_if_eq (pc := 151) (tgt := 159) (by decide) dX12_wouldBe_151 (fun z => absurd z (by decide)) (fun _ => ?_)
          refine G_iload (pc := 154) rfl dX12_wouldBe_154 ?_
          refine G_goto (pc := 156) (tgt := 161) (by decide) dX12_wouldBe_156 ?_
          exact G_iret (pc := 161) (Nat.le_of_ble_eq_true rfl) (Nat.le_of_ble_eq_true rfl) rfl dX12_wouldBe_161 (by first | rfl | (simp [F_wouldBe, *]; done) | (have : 0 ≤ (n).toInt := Int32.le_iff_toInt_le.mp (c77.1); have : (n).toInt ≤ 20 := Int32.le_iff_toInt_le.mp (c77.2); have : 0 < (n).toInt := Int32.lt_iff_toInt_lt.mp (Int32.not_le.mp c83); simp only [F_wouldBe, Int32.le_iff_toInt_le, Int32.lt_iff_toInt_lt, ← Int32.toInt_inj]; simp; omega) | (have : 0 ≤ (n).toInt := Int32.le_iff_toInt_le.mp (c77.1); have : (n).toInt ≤ 20 := Int32.le_iff_toInt_le.mp (c77.2); have : 0 < (n).toInt := Int32.lt_iff_toInt_lt.mp (Int32.not_le.mp c83); simp only [F_wouldBe, Int32.le_iff_toInt_le, Int32.lt_iff_toInt_lt, ← Int32.toInt_inj]; split <;> first | rfl | (exfalso; simp at *; omega)) | (have : 0 ≤ (n).toInt := Int32.le_iff_toInt_le.mp (c77.1); have : (n).toInt ≤ 20 := Int32.le_iff_toInt_le.mp (c77.2); have : 0 < (n).toInt := Int32.lt_iff_toInt_lt.mp (Int32.not_le.mp c83); unfold F_wouldBe; (repeat' split) <;> first | rfl | (exfalso; (try simp only [Int32.le_iff_toInt_le, Int32.lt_iff_toInt_lt, ← Int32.toInt_inj] at *); first | omega | (simp at *; done) | (simp at *; omega))))
      by_cases c84 : sheet = 3
      · subst c84
        refine G_callV (pc := 22) (mc1 := 0) (ms1 := 0) (ci := 12) (mj := mX12_lacks) (vs := [_, _]) dX12_wouldBe_22 rfl rfl cm_X12_lacks wh_49 wh_51 wh_52 rfl (Nat.le_of_ble_eq_true rfl) (Nat.le_of_ble_eq_true rfl) (Nat.le_of_ble_eq_true rfl) (Nat.le_of_ble_eq_true rfl) (s10033_X12_lacks J (d + 1)  ) ?_
        rintro _ _ ⟨rfl, rfl⟩
        dsimp only [Option.toList, List.cons_append, List.nil_append]
        refine G_istore (pc := 25) (L1 := [some (.ref 67), some (.int 3), some (.int i), some (.int n), some (.int (-11)), none, none, none]) rfl rfl (by decide) dX12_wouldBe_25 ?_
        refine G_iconst (pc := 27) (v := 0) (by decide) dX12_wouldBe_27 ?_
        refine G_istore (pc := 28) (L1 := [some (.ref 67), some (.int 3), some (.int i), some (.int n), some (.int (-11)), some (.int 0), none, none]) rfl rfl (by decide) dX12_wouldBe_28 ?_
        refine G_aload_n (pc := 30) rfl dX12_wouldBe_30 ?_
        refine G_callV (pc := 31) (mc1 := 0) (ms1 := 0) (ci := 12) (mj := mX12_layDown) (vs := []) dX12_wouldBe_31 rfl rfl cm_X12_layDown wh_53 wh_55 wh_56 rfl (Nat.le_of_ble_eq_true rfl) (Nat.le_of_ble_eq_true rfl) (Nat.le_of_ble_eq_true rfl) (Nat.le_of_ble_eq_true rfl) (layDown_s (d + 1) (gmx J)) ?_
        rintro _ _ ⟨rfl, rfl⟩
        dsimp only [Option.toList, List.cons_append, List.nil_append]
        refine G_iconst (pc := 34) (v := 0) (by decide) dX12_wouldBe_34 ?_
        refine G_istore (pc := 35) (L1 := [some (.ref 67), some (.int 3), some (.int i), some (.int n), some (.int (-11)), some (.int 0), some (.int 0), none]) rfl rfl (by decide) dX12_wouldBe_35 ?_
        refine G_iload (pc := 37) rfl dX12_wouldBe_37 ?_
        refine G_iload_n (pc := 39) rfl dX12_wouldBe_39 ?_
        refine G_icmp_ge (pc := 40) (tgt := 145) (by decide) dX12_wouldBe_40 (fun c85 => ?_) (fun c85 => ?_)
        · refine G_aload_n (pc := 145) rfl dX12_wouldBe_145 ?_
          refine G_callV (pc := 146) (mc1 := 0) (ms1 := 0) (ci := 12) (mj := mX12_layBack) (vs := []) dX12_wouldBe_146 rfl rfl cm_X12_layBack wh_57 wh_59 wh_60 rfl (Nat.le_of_ble_eq_true rfl) (Nat.le_of_ble_eq_true rfl) (Nat.le_of_ble_eq_true rfl) (Nat.le_of_ble_eq_true rfl) (layBack_s (d + 1) (gcp (gmx J) 68 70 0 0 65)) ?_
          rintro _ _ ⟨rfl, rfl⟩
          dsimp only [Option.toList, List.cons_append, List.nil_append]
          refine G_iload (pc := 149) rfl dX12_wouldBe_149 ?_
          refine G_if_eq (pc := 151) (tgt := 159) (by decide) dX12_wouldBe_151 (fun z => absurd z (by decide)) (fun _ => ?_)
          refine G_iload (pc := 154) rfl dX12_wouldBe_154 ?_
          refine G_goto (pc := 156) (tgt := 161) (by decide) dX12_wouldBe_156 ?_
          exact G_iret (pc := 161) (Nat.le_of_ble_eq_true rfl) (Nat.le_of_ble_eq_true rfl) rfl dX12_wouldBe_161 (by first | rfl | (simp [F_wouldBe, *]; done) | (have : 0 ≤ (n).toInt := Int32.le_iff_toInt_le.mp (c77.1); have : (n).toInt ≤ 20 := Int32.le_iff_toInt_le.mp (c77.2); have : (n).toInt ≤ 0 := Int32.le_iff_toInt_le.mp (c85); simp only [F_wouldBe, Int32.le_iff_toInt_le, Int32.lt_iff_toInt_lt, ← Int32.toInt_inj]; simp; omega) | (have : 0 ≤ (n).toInt := Int32.le_iff_toInt_le.mp (c77.1); have : (n).toInt ≤ 20 := Int32.le_iff_toInt_le.mp (c77.2); have : (n).toInt ≤ 0 := Int32.le_iff_toInt_le.mp (c85); simp only [F_wouldBe, Int32.le_iff_toInt_le, Int32.lt_iff_toInt_lt, ← Int32.toInt_inj]; split <;> first | rfl | (exfalso; simp at *; omega)) | (have : 0 ≤ (n).toInt := Int32.le_iff_toInt_le.mp (c77.1); have : (n).toInt ≤ 20 := Int32.le_iff_toInt_le.mp (c77.2); have : (n).toInt ≤ 0 := Int32.le_iff_toInt_le.mp (c85); unfold F_wouldBe; (repeat' split) <;> first | rfl | (exfalso; (try simp only [Int32.le_iff_toInt_le, Int32.lt_iff_toInt_lt, ← Int32.toInt_inj] at *); first | omega | (simp at *; done) | (simp at *; omega))))
        · refine G_iload (pc := 43) rfl dX12_wouldBe_43 ?_
          refine G_if_ne (pc := 45) (tgt := 145) (by decide) dX12_wouldBe_45 (fun _ => ?_) (fun z => absurd z (by decide))
          refine G_aload_n (pc := 145) rfl dX12_wouldBe_145 ?_
          refine G_callV (pc := 146) (mc1 := 0) (ms1 := 0) (ci := 12) (mj := mX12_layBack) (vs := []) dX12_wouldBe_146 rfl rfl cm_X12_layBack wh_57 wh_59 wh_60 rfl (Nat.le_of_ble_eq_true rfl) (Nat.le_of_ble_eq_true rfl) (Nat.le_of_ble_eq_true rfl) (Nat.le_of_ble_eq_true rfl) (layBack_s (d + 1) (gcp (gmx J) 68 70 0 0 65)) ?_
          rintro _ _ ⟨rfl, rfl⟩
          dsimp only [Option.toList, List.cons_append, List.nil_append]
          refine G_iload (pc := 149) rfl dX12_wouldBe_149 ?_
          refine G_if_eq (pc := 151) (tgt := 159) (by decide) dX12_wouldBe_151 (fun z => absurd z (by decide)) (fun _ => ?_)
          refine G_iload (pc := 154) rfl dX12_wouldBe_154 ?_
          refine G_goto (pc := 156) (tgt := 161) (by decide) dX12_wouldBe_156 ?_
          exact G_iret (pc := 161) (Nat.le_of_ble_eq_true rfl) (Nat.le_of_ble_eq_true rfl) rfl dX12_wouldBe_161 (by first | rfl | (simp [F_wouldBe, *]; done) | (have : 0 ≤ (n).toInt := Int32.le_iff_toInt_le.mp (c77.1); have : (n).toInt ≤ 20 := Int32.le_iff_toInt_le.mp (c77.2); have : 0 < (n).toInt := Int32.lt_iff_toInt_lt.mp (Int32.not_le.mp c85); simp only [F_wouldBe, Int32.le_iff_toInt_le, Int32.lt_iff_toInt_lt, ← Int32.toInt_inj]; simp; omega) | (have : 0 ≤ (n).toInt := Int32.le_iff_toInt_le.mp (c77.1); have : (n).toInt ≤ 20 := Int32.le_iff_toInt_le.mp (c77.2); have : 0 < (n).toInt := Int32.lt_iff_toInt_lt.mp (Int32.not_le.mp c85); simp only [F_wouldBe, Int32.le_iff_toInt_le, Int32.lt_iff_toInt_lt, ← Int32.toInt_inj]; split <;> first | rfl | (exfalso; simp at *; omega)) | (have : 0 ≤ (n).toInt := Int32.le_iff_toInt_le.mp (c77.1); have : (n).toInt ≤ 20 := Int32.le_iff_toInt_le.mp (c77.2); have : 0 < (n).toInt := Int32.lt_iff_toInt_lt.mp (Int32.not_le.mp c85); unfold F_wouldBe; (repeat' split) <;> first | rfl | (exfalso; (try simp only [Int32.le_iff_toInt_le, Int32.lt_iff_toInt_lt, ← Int32.toInt_inj] at *); first | omega | (simp at *; done) | (simp at *; omega))))
      exfalso
      have : 0 ≤ (sheet).toInt := Int32.le_iff_toInt_le.mp (c76.1)
      have : (sheet).toInt ≤ 3 := Int32.le_iff_toInt_le.mp (c76.2)
      have : (sheet).toInt ≠ 0 := g_ne (c78)
      have : (sheet).toInt ≠ 1 := g_ne (c80)
      have : (sheet).toInt ≠ 2 := g_ne (c82)
      have : (sheet).toInt ≠ 3 := g_ne (c84)
      omega
    · have c77 := gB_z c77
      refine G_iconst (pc := 17) (v := (-1)) (by decide) dX12_wouldBe_17 ?_
      exact G_iret (pc := 18) (Nat.le_of_ble_eq_true rfl) (Nat.le_of_ble_eq_true rfl) rfl dX12_wouldBe_18 (by first | rfl | (simp [F_wouldBe, *]; done) | (have : 0 ≤ (sheet).toInt := Int32.le_iff_toInt_le.mp (c76.1); have : (sheet).toInt ≤ 3 := Int32.le_iff_toInt_le.mp (c76.2); have : ¬ (0 ≤ (n).toInt ∧ (n).toInt ≤ 20) := fun z => c77 ⟨Int32.le_iff_toInt_le.mpr z.1, Int32.le_iff_toInt_le.mpr z.2⟩; simp only [F_wouldBe, Int32.le_iff_toInt_le, Int32.lt_iff_toInt_lt, ← Int32.toInt_inj]; simp; omega) | (have : 0 ≤ (sheet).toInt := Int32.le_iff_toInt_le.mp (c76.1); have : (sheet).toInt ≤ 3 := Int32.le_iff_toInt_le.mp (c76.2); have : ¬ (0 ≤ (n).toInt ∧ (n).toInt ≤ 20) := fun z => c77 ⟨Int32.le_iff_toInt_le.mpr z.1, Int32.le_iff_toInt_le.mpr z.2⟩; simp only [F_wouldBe, Int32.le_iff_toInt_le, Int32.lt_iff_toInt_lt, ← Int32.toInt_inj]; split <;> first | rfl | (exfalso; simp at *; omega)) | (have : 0 ≤ (sheet).toInt := Int32.le_iff_toInt_le.mp (c76.1); have : (sheet).toInt ≤ 3 := Int32.le_iff_toInt_le.mp (c76.2); have : ¬ (0 ≤ (n).toInt ∧ (n).toInt ≤ 20) := fun z => c77 ⟨Int32.le_iff_toInt_le.mpr z.1, Int32.le_iff_toInt_le.mpr z.2⟩; unfold F_wouldBe; (repeat' split) <;> first | rfl | (exfalso; (try simp only [Int32.le_iff_toInt_le, Int32.lt_iff_toInt_lt, ← Int32.toInt_inj] at *); first | omega | (simp at *; done) | (simp at *; omega))))
set_option maxRecDepth 100000 in
set_option maxHeartbeats 4000000 in
theorem s10035_X12_isSheet (J : gI) (d : Nat)  (a0 : Int32) : G (d + 1) mX12_isSheet 0 0 0 0 0 (gent 1 [.int a0]) [] SH0 RF0 (gmx J) (fun r h => r = some (.int (gB (0 ≤ a0 ∧ a0 ≤ 3))) ∧ h = (SH0, RF0, (gmx J))) := by
  refine G_iload_n (pc := 0) rfl dX12_isSheet_0 ?_
  refine G_iconst (pc := 1) (v := 0) (by decide) dX12_isSheet_1 ?_
  refine G_iconst (pc := 2) (v := 3) (by decide) dX12_isSheet_2 ?_
  refine G_callS (pc := 3) (mc1 := 0) (ms1 := 0) (mj := mX12_in1) (vs := [_, _, _]) dX12_isSheet_3 cm_X12_in1 wh_0 wh_3 rfl (Nat.le_of_ble_eq_true rfl) (Nat.le_of_ble_eq_true rfl) (Nat.le_of_ble_eq_true rfl) (Nat.le_of_ble_eq_true rfl) (in1_s d a0 0 3) ?_
  rintro _ _ ⟨rfl, rfl⟩
  dsimp only [Option.toList, List.cons_append, List.nil_append]
  exact G_zret (pc := 6) (Nat.le_of_ble_eq_true rfl) (Nat.le_of_ble_eq_true rfl) rfl gB_01 dX12_isSheet_6 ⟨rfl, rfl⟩
set_option maxRecDepth 100000 in
set_option maxHeartbeats 4000000 in
theorem s10036_X12_isSheet (J : gI) (d : Nat)  (a0 : Int32) : G (d + 1) mX12_isSheet 0 0 0 0 0 (gent 1 [.int a0]) [] SH0 RF0 (gmx J) (fun r h => r = some (.int (gB (0 ≤ a0 ∧ a0 ≤ 3))) ∧ h = (SH0, RF0, (gmx J))) := by
  refine G_iload_n (pc := 0) rfl dX12_isSheet_0 ?_
  refine G_iconst (pc := 1) (v := 0) (by decide) dX12_isSheet_1 ?_
  refine G_iconst (pc := 2) (v := 3) (by decide) dX12_isSheet_2 ?_
  refine G_callS (pc := 3) (mc1 := 0) (ms1 := 0) (mj := mX12_in1) (vs := [_, _, _]) dX12_isSheet_3 cm_X12_in1 wh_0 wh_3 rfl (Nat.le_of_ble_eq_true rfl) (Nat.le_of_ble_eq_true rfl) (Nat.le_of_ble_eq_true rfl) (Nat.le_of_ble_eq_true rfl) (in1_s d a0 0 3) ?_
  rintro _ _ ⟨rfl, rfl⟩
  dsimp only [Option.toList, List.cons_append, List.nil_append]
  exact G_zret (pc := 6) (Nat.le_of_ble_eq_true rfl) (Nat.le_of_ble_eq_true rfl) rfl gB_01 dX12_isSheet_6 ⟨rfl, rfl⟩
set_option maxRecDepth 100000 in
set_option maxHeartbeats 4000000 in
theorem s10037_X12_isKey (J : gI) (d : Nat)  (a0 : Int32) : G (d + 1) mX12_isKey 0 0 0 0 0 (gent 2 [.ref 67, .int a0]) [] SH0 RF0 (gmx J) (fun r h => r = some (.int (gB (0 ≤ a0 ∧ a0 ≤ (-1)))) ∧ h = (SH0, RF0, (gmx J))) := by
  refine G_iload_n (pc := 0) rfl dX12_isKey_0 ?_
  refine G_iconst (pc := 1) (v := 0) (by decide) dX12_isKey_1 ?_
  refine G_aload_n (pc := 2) rfl dX12_isKey_2 ?_
  refine G_getR (pc := 3) (r := 68) (ci := 12) (j := 0) rfl lk_RX12_9 rfl rfl rfl dX12_isKey_3 ?_
  refine G_iconst (pc := 6) (v := 4) (by decide) dX12_isKey_6 ?_
  refine G_iald (pc := 7) (jj := 4) (v := 0) (by decide) rfl rfl (by unfold vp_in; decide) dX12_isKey_7 ?_
  refine G_iconst (pc := 8) (v := 1) (by decide) dX12_isKey_8 ?_
  refine G_isub (pc := 9) (z := (-1)) (by decide) dX12_isKey_9 ?_
  refine G_callS (pc := 10) (mc1 := 0) (ms1 := 0) (mj := mX12_in1) (vs := [_, _, _]) dX12_isKey_10 cm_X12_in1 wh_0 wh_3 rfl (Nat.le_of_ble_eq_true rfl) (Nat.le_of_ble_eq_true rfl) (Nat.le_of_ble_eq_true rfl) (Nat.le_of_ble_eq_true rfl) (in1_s d a0 0 ((-1))) ?_
  rintro _ _ ⟨rfl, rfl⟩
  dsimp only [Option.toList, List.cons_append, List.nil_append]
  exact G_zret (pc := 13) (Nat.le_of_ble_eq_true rfl) (Nat.le_of_ble_eq_true rfl) rfl gB_01 dX12_isKey_13 ⟨rfl, rfl⟩
set_option maxRecDepth 100000 in
set_option maxHeartbeats 4000000 in
theorem z_shelf (J : gI) (d : Nat) (shelf : Int32) (what : Int32) (n : Int32) : G (d + 2) mX12_shelf 0 0 0 0 0 (gent 4 [.ref 67, .int shelf, .int what, .int n]) [] SH0 RF0 (gmx J) (fun r _ => r = some (.int (F_shelf shelf what n))) := by
  refine G_iload_n (pc := 0) rfl dX12_shelf_0 ?_
  refine G_callS (pc := 1) (mc1 := 0) (ms1 := 0) (mj := mX12_isSheet) (vs := [_]) dX12_shelf_1 cm_X12_isSheet wh_46 wh_48 rfl (Nat.le_of_ble_eq_true rfl) (Nat.le_of_ble_eq_true rfl) (Nat.le_of_ble_eq_true rfl) (Nat.le_of_ble_eq_true rfl) (s10035_X12_isSheet J d  _) ?_
  rintro _ _ ⟨rfl, rfl⟩
  dsimp only [Option.toList, List.cons_append, List.nil_append]
  refine G_if_eq (pc := 4) (tgt := 40) (by decide) dX12_shelf_4 (fun c86 => ?_) (fun c86 => ?_)
  · have c86 := gB_z c86
    refine G_iconst (pc := 40) (v := (-1)) (by decide) dX12_shelf_40 ?_
    exact G_iret (pc := 41) (Nat.le_of_ble_eq_true rfl) (Nat.le_of_ble_eq_true rfl) rfl dX12_shelf_41 (by first | rfl | (simp [F_shelf, *]; done) | (have : ¬ (0 ≤ (shelf).toInt ∧ (shelf).toInt ≤ 3) := fun z => c86 ⟨Int32.le_iff_toInt_le.mpr z.1, Int32.le_iff_toInt_le.mpr z.2⟩; simp only [F_shelf, Int32.le_iff_toInt_le, Int32.lt_iff_toInt_lt, ← Int32.toInt_inj]; simp; omega) | (have : ¬ (0 ≤ (shelf).toInt ∧ (shelf).toInt ≤ 3) := fun z => c86 ⟨Int32.le_iff_toInt_le.mpr z.1, Int32.le_iff_toInt_le.mpr z.2⟩; simp only [F_shelf, Int32.le_iff_toInt_le, Int32.lt_iff_toInt_lt, ← Int32.toInt_inj]; split <;> first | rfl | (exfalso; simp at *; omega)) | (have : ¬ (0 ≤ (shelf).toInt ∧ (shelf).toInt ≤ 3) := fun z => c86 ⟨Int32.le_iff_toInt_le.mpr z.1, Int32.le_iff_toInt_le.mpr z.2⟩; unfold F_shelf; (repeat' split) <;> first | rfl | (exfalso; (try simp only [Int32.le_iff_toInt_le, Int32.lt_iff_toInt_lt, ← Int32.toInt_inj] at *); first | omega | (simp at *; done) | (simp at *; omega))))
  · have c86 := gB_o c86
    refine G_iload_n (pc := 7) rfl dX12_shelf_7 ?_
    refine G_iconst (pc := 8) (v := 0) (by decide) dX12_shelf_8 ?_
    refine G_iconst (pc := 9) (v := 2) (by decide) dX12_shelf_9 ?_
    refine G_callS (pc := 10) (mc1 := 0) (ms1 := 0) (mj := mX12_in1) (vs := [_, _, _]) dX12_shelf_10 cm_X12_in1 wh_0 wh_3 rfl (Nat.le_of_ble_eq_true rfl) (Nat.le_of_ble_eq_true rfl) (Nat.le_of_ble_eq_true rfl) (Nat.le_of_ble_eq_true rfl) (in1_s (d + 1) what 0 2) ?_
    rintro _ _ ⟨rfl, rfl⟩
    dsimp only [Option.toList, List.cons_append, List.nil_append]
    refine G_if_eq (pc := 13) (tgt := 40) (by decide) dX12_shelf_13 (fun c87 => ?_) (fun c87 => ?_)
    · have c87 := gB_z c87
      refine G_iconst (pc := 40) (v := (-1)) (by decide) dX12_shelf_40 ?_
      exact G_iret (pc := 41) (Nat.le_of_ble_eq_true rfl) (Nat.le_of_ble_eq_true rfl) rfl dX12_shelf_41 (by first | rfl | (simp [F_shelf, *]; done) | (have : 0 ≤ (shelf).toInt := Int32.le_iff_toInt_le.mp (c86.1); have : (shelf).toInt ≤ 3 := Int32.le_iff_toInt_le.mp (c86.2); have : ¬ (0 ≤ (what).toInt ∧ (what).toInt ≤ 2) := fun z => c87 ⟨Int32.le_iff_toInt_le.mpr z.1, Int32.le_iff_toInt_le.mpr z.2⟩; simp only [F_shelf, Int32.le_iff_toInt_le, Int32.lt_iff_toInt_lt, ← Int32.toInt_inj]; simp; omega) | (have : 0 ≤ (shelf).toInt := Int32.le_iff_toInt_le.mp (c86.1); have : (shelf).toInt ≤ 3 := Int32.le_iff_toInt_le.mp (c86.2); have : ¬ (0 ≤ (what).toInt ∧ (what).toInt ≤ 2) := fun z => c87 ⟨Int32.le_iff_toInt_le.mpr z.1, Int32.le_iff_toInt_le.mpr z.2⟩; simp only [F_shelf, Int32.le_iff_toInt_le, Int32.lt_iff_toInt_lt, ← Int32.toInt_inj]; split <;> first | rfl | (exfalso; simp at *; omega)) | (have : 0 ≤ (shelf).toInt := Int32.le_iff_toInt_le.mp (c86.1); have : (shelf).toInt ≤ 3 := Int32.le_iff_toInt_le.mp (c86.2); have : ¬ (0 ≤ (what).toInt ∧ (what).toInt ≤ 2) := fun z => c87 ⟨Int32.le_iff_toInt_le.mpr z.1, Int32.le_iff_toInt_le.mpr z.2⟩; unfold F_shelf; (repeat' split) <;> first | rfl | (exfalso; (try simp only [Int32.le_iff_toInt_le, Int32.lt_iff_toInt_lt, ← Int32.toInt_inj] at *); first | omega | (simp at *; done) | (simp at *; omega))))
    · have c87 := gB_o c87
      refine G_iload_n (pc := 16) rfl dX12_shelf_16 ?_
      refine G_if_ne (pc := 17) (tgt := 28) (by decide) dX12_shelf_17 (fun c88 => ?_) (fun c88 => ?_)
      · refine G_iload_n (pc := 28) rfl dX12_shelf_28 ?_
        refine G_iconst (pc := 29) (v := 1) (by decide) dX12_shelf_29 ?_
        refine G_icmp_ne (pc := 30) (tgt := 42) (by decide) dX12_shelf_30 (fun c89 => ?_) (fun c89 => ?_)
        · refine G_aload_n (pc := 42) rfl dX12_shelf_42 ?_
          refine G_getR (pc := 43) (r := 85) (ci := 12) (j := 31) rfl lk_RX12_62 rfl rfl rfl dX12_shelf_43 ?_
          refine G_iload_n (pc := 46) rfl dX12_shelf_46 ?_
          refine G_iload_n (pc := 47) rfl dX12_shelf_47 ?_
          refine G_if_ne (pc := 48) (tgt := 55) (by decide) dX12_shelf_48 (fun c90 => ?_) (fun c90 => ?_)
          · refine G_iload_n (pc := 55) rfl dX12_shelf_55 ?_
            refine G_iconst (pc := 56) (v := 1) (by decide) dX12_shelf_56 ?_
            refine G_icmp_ne (pc := 57) (tgt := 81) (by decide) dX12_shelf_57 (fun c91 => ?_) (fun c91 => ?_)
            · refine G_iconst (pc := 81) (v := (-1)) (by decide) dX12_shelf_81 ?_
              by_cases c92 : shelf = 0
              · subst c92
                refine G_iast (pc := 82) (jj := 0) (by decide) rfl (by unfold vp_in; decide) dX12_shelf_82 ?_
                refine G_aload_n (pc := 83) rfl dX12_shelf_83 ?_
                refine G_getR (pc := 84) (r := 86) (ci := 12) (j := 32) rfl lk_RX12_65 rfl rfl rfl dX12_shelf_84 ?_
                refine G_iload_n (pc := 87) rfl dX12_shelf_87 ?_
                refine G_iload_n (pc := 88) rfl dX12_shelf_88 ?_
                refine G_if_ne (pc := 89) (tgt := 96) (by decide) dX12_shelf_89 (fun c93 => ?_) (fun c93 => ?_)
                · refine G_iload_n (pc := 96) rfl dX12_shelf_96 ?_
                  refine G_iconst (pc := 97) (v := 1) (by decide) dX12_shelf_97 ?_
                  refine G_icmp_ne (pc := 98) (tgt := 110) (by decide) dX12_shelf_98 (fun c94 => ?_) (fun c94 => ?_)
                  · refine G_iconst (pc := 110) (v := 0) (by decide) dX12_shelf_110 ?_
                    refine G_iast (pc := 111) (jj := 0) (by decide) rfl (by unfold vp_in; decide) dX12_shelf_111 ?_
                    refine G_iconst (pc := 112) (v := 1) (by decide) dX12_shelf_112 ?_
                    exact G_iret (pc := 113) (Nat.le_of_ble_eq_true rfl) (Nat.le_of_ble_eq_true rfl) rfl dX12_shelf_113 (by first | rfl | (simp [F_shelf, *]; done) | (have : 0 ≤ (what).toInt := Int32.le_iff_toInt_le.mp (c87.1); have : (what).toInt ≤ 2 := Int32.le_iff_toInt_le.mp (c87.2); have : (what).toInt ≠ 0 := g_ne (c88); have : (what).toInt ≠ 1 := g_ne (c89); have : (what).toInt ≠ 0 := g_ne (c90); have : (what).toInt ≠ 1 := g_ne (c91); have : (what).toInt ≠ 0 := g_ne (c93); have : (what).toInt ≠ 1 := g_ne (c94); simp only [F_shelf, Int32.le_iff_toInt_le, Int32.lt_iff_toInt_lt, ← Int32.toInt_inj]; simp; omega) | (have : 0 ≤ (what).toInt := Int32.le_iff_toInt_le.mp (c87.1); have : (what).toInt ≤ 2 := Int32.le_iff_toInt_le.mp (c87.2); have : (what).toInt ≠ 0 := g_ne (c88); have : (what).toInt ≠ 1 := g_ne (c89); have : (what).toInt ≠ 0 := g_ne (c90); have : (what).toInt ≠ 1 := g_ne (c91); have : (what).toInt ≠ 0 := g_ne (c93); have : (what).toInt ≠ 1 := g_ne (c94); simp only [F_shelf, Int32.le_iff_toInt_le, Int32.lt_iff_toInt_lt, ← Int32.toInt_inj]; split <;> first | rfl | (exfalso; simp at *; omega)) | (have : 0 ≤ (what).toInt := Int32.le_iff_toInt_le.mp (c87.1); have : (what).toInt ≤ 2 := Int32.le_iff_toInt_le.mp (c87.2); have : (what).toInt ≠ 0 := g_ne (c88); have : (what).toInt ≠ 1 := g_ne (c89); have : (what).toInt ≠ 0 := g_ne (c90); have : (what).toInt ≠ 1 := g_ne (c91); have : (what).toInt ≠ 0 := g_ne (c93); have : (what).toInt ≠ 1 := g_ne (c94); unfold F_shelf; (repeat' split) <;> first | rfl | (exfalso; (try simp only [Int32.le_iff_toInt_le, Int32.lt_iff_toInt_lt, ← Int32.toInt_inj] at *); first | omega | (simp at *; done) | (simp at *; omega))))
                  · exact absurd c94 c89
                · exact absurd c93 c88
              by_cases c95 : shelf = 1
              · subst c95
                refine G_iast (pc := 82) (jj := 1) (by decide) rfl (by unfold vp_in; decide) dX12_shelf_82 ?_
                refine G_aload_n (pc := 83) rfl dX12_shelf_83 ?_
                refine G_getR (pc := 84) (r := 86) (ci := 12) (j := 32) rfl lk_RX12_65 rfl rfl rfl dX12_shelf_84 ?_
                refine G_iload_n (pc := 87) rfl dX12_shelf_87 ?_
                refine G_iload_n (pc := 88) rfl dX12_shelf_88 ?_
                refine G_if_ne (pc := 89) (tgt := 96) (by decide) dX12_shelf_89 (fun c96 => ?_) (fun c96 => ?_)
                · refine G_iload_n (pc := 96) rfl dX12_shelf_96 ?_
                  refine G_iconst (pc := 97) (v := 1) (by decide) dX12_shelf_97 ?_
                  refine G_icmp_ne (pc := 98) (tgt := 110) (by decide) dX12_shelf_98 (fun c97 => ?_) (fun c97 => ?_)
                  · refine G_iconst (pc := 110) (v := 0) (by decide) dX12_shelf_110 ?_
                    refine G_iast (pc := 111) (jj := 1) (by decide) rfl (by unfold vp_in; decide) dX12_shelf_111 ?_
                    refine G_iconst (pc := 112) (v := 1) (by decide) dX12_shelf_112 ?_
                    exact G_iret (pc := 113) (Nat.le_of_ble_eq_true rfl) (Nat.le_of_ble_eq_true rfl) rfl dX12_shelf_113 (by first | rfl | (simp [F_shelf, *]; done) | (have : 0 ≤ (what).toInt := Int32.le_iff_toInt_le.mp (c87.1); have : (what).toInt ≤ 2 := Int32.le_iff_toInt_le.mp (c87.2); have : (what).toInt ≠ 0 := g_ne (c88); have : (what).toInt ≠ 1 := g_ne (c89); have : (what).toInt ≠ 0 := g_ne (c90); have : (what).toInt ≠ 1 := g_ne (c91); have : (what).toInt ≠ 0 := g_ne (c96); have : (what).toInt ≠ 1 := g_ne (c97); simp only [F_shelf, Int32.le_iff_toInt_le, Int32.lt_iff_toInt_lt, ← Int32.toInt_inj]; simp; omega) | (have : 0 ≤ (what).toInt := Int32.le_iff_toInt_le.mp (c87.1); have : (what).toInt ≤ 2 := Int32.le_iff_toInt_le.mp (c87.2); have : (what).toInt ≠ 0 := g_ne (c88); have : (what).toInt ≠ 1 := g_ne (c89); have : (what).toInt ≠ 0 := g_ne (c90); have : (what).toInt ≠ 1 := g_ne (c91); have : (what).toInt ≠ 0 := g_ne (c96); have : (what).toInt ≠ 1 := g_ne (c97); simp only [F_shelf, Int32.le_iff_toInt_le, Int32.lt_iff_toInt_lt, ← Int32.toInt_inj]; split <;> first | rfl | (exfalso; simp at *; omega)) | (have : 0 ≤ (what).toInt := Int32.le_iff_toInt_le.mp (c87.1); have : (what).toInt ≤ 2 := Int32.le_iff_toInt_le.mp (c87.2); have : (what).toInt ≠ 0 := g_ne (c88); have : (what).toInt ≠ 1 := g_ne (c89); have : (what).toInt ≠ 0 := g_ne (c90); have : (what).toInt ≠ 1 := g_ne (c91); have : (what).toInt ≠ 0 := g_ne (c96); have : (what).toInt ≠ 1 := g_ne (c97); unfold F_shelf; (repeat' split) <;> first | rfl | (exfalso; (try simp only [Int32.le_iff_toInt_le, Int32.lt_iff_toInt_lt, ← Int32.toInt_inj] at *); first | omega | (simp at *; done) | (simp at *; omega))))
                  · exact absurd c97 c89
                · exact absurd c96 c88
              by_cases c98 : shelf = 2
              · subst c98
                refine G_iast (pc := 82) (jj := 2) (by decide) rfl (by unfold vp_in; decide) dX12_shelf_82 ?_
                refine G_aload_n (pc := 83) rfl dX12_shelf_83 ?_
                refine G_getR (pc := 84) (r := 86) (ci := 12) (j := 32) rfl lk_RX12_65 rfl rfl rfl dX12_shelf_84 ?_
                refine G_iload_n (pc := 87) rfl dX12_shelf_87 ?_
                refine G_iload_n (pc := 88) rfl dX12_shelf_88 ?_
                refine G_if_ne (pc := 89) (tgt := 96) (by decide) dX12_shelf_89 (fun c99 => ?_) (fun c99 => ?_)
                · refine G_iload_n (pc := 96) rfl dX12_shelf_96 ?_
                  refine G_iconst (pc := 97) (v := 1) (by decide) dX12_shelf_97 ?_
                  refine G_icmp_ne (pc := 98) (tgt := 110) (by decide) dX12_shelf_98 (fun c100 => ?_) (fun c100 => ?_)
                  · refine G_iconst (pc := 110) (v := 0) (by decide) dX12_shelf_110 ?_
                    refine G_iast (pc := 111) (jj := 2) (by decide) rfl (by unfold vp_in; decide) dX12_shelf_111 ?_
                    refine G_iconst (pc := 112) (v := 1) (by decide) dX12_shelf_112 ?_
                    exact G_iret (pc := 113) (Nat.le_of_ble_eq_true rfl) (Nat.le_of_ble_eq_true rfl) rfl dX12_shelf_113 (by first | rfl | (simp [F_shelf, *]; done) | (have : 0 ≤ (what).toInt := Int32.le_iff_toInt_le.mp (c87.1); have : (what).toInt ≤ 2 := Int32.le_iff_toInt_le.mp (c87.2); have : (what).toInt ≠ 0 := g_ne (c88); have : (what).toInt ≠ 1 := g_ne (c89); have : (what).toInt ≠ 0 := g_ne (c90); have : (what).toInt ≠ 1 := g_ne (c91); have : (what).toInt ≠ 0 := g_ne (c99); have : (what).toInt ≠ 1 := g_ne (c100); simp only [F_shelf, Int32.le_iff_toInt_le, Int32.lt_iff_toInt_lt, ← Int32.toInt_inj]; simp; omega) | (have : 0 ≤ (what).toInt := Int32.le_iff_toInt_le.mp (c87.1); have : (what).toInt ≤ 2 := Int32.le_iff_toInt_le.mp (c87.2); have : (what).toInt ≠ 0 := g_ne (c88); have : (what).toInt ≠ 1 := g_ne (c89); have : (what).toInt ≠ 0 := g_ne (c90); have : (what).toInt ≠ 1 := g_ne (c91); have : (what).toInt ≠ 0 := g_ne (c99); have : (what).toInt ≠ 1 := g_ne (c100); simp only [F_shelf, Int32.le_iff_toInt_le, Int32.lt_iff_toInt_lt, ← Int32.toInt_inj]; split <;> first | rfl | (exfalso; simp at *; omega)) | (have : 0 ≤ (what).toInt := Int32.le_iff_toInt_le.mp (c87.1); have : (what).toInt ≤ 2 := Int32.le_iff_toInt_le.mp (c87.2); have : (what).toInt ≠ 0 := g_ne (c88); have : (what).toInt ≠ 1 := g_ne (c89); have : (what).toInt ≠ 0 := g_ne (c90); have : (what).toInt ≠ 1 := g_ne (c91); have : (what).toInt ≠ 0 := g_ne (c99); have : (what).toInt ≠ 1 := g_ne (c100); unfold F_shelf; (repeat' split) <;> first | rfl | (exfalso; (try simp only [Int32.le_iff_toInt_le, Int32.lt_iff_toInt_lt, ← Int32.toInt_inj] at *); first | omega | (simp at *; done) | (simp at *; omega))))
                  · exact absurd c100 c89
                · exact absurd c99 c88
              by_cases c101 : shelf = 3
              · subst c101
                refine G_iast (pc := 82) (jj := 3) (by decide) rfl (by unfold vp_in; decide) dX12_shelf_82 ?_
                refine G_aload_n (pc := 83) rfl dX12_shelf_83 ?_
                refine G_getR (pc := 84) (r := 86) (ci := 12) (j := 32) rfl lk_RX12_65 rfl rfl rfl dX12_shelf_84 ?_
                refine G_iload_n (pc := 87) rfl dX12_shelf_87 ?_
                refine G_iload_n (pc := 88) rfl dX12_shelf_88 ?_
                refine G_if_ne (pc := 89) (tgt := 96) (by decide) dX12_shelf_89 (fun c102 => ?_) (fun c102 => ?_)
                · refine G_iload_n (pc := 96) rfl dX12_shelf_96 ?_
                  refine G_iconst (pc := 97) (v := 1) (by decide) dX12_shelf_97 ?_
                  refine G_icmp_ne (pc := 98) (tgt := 110) (by decide) dX12_shelf_98 (fun c103 => ?_) (fun c103 => ?_)
                  · refine G_iconst (pc := 110) (v := 0) (by decide) dX12_shelf_110 ?_
                    refine G_iast (pc := 111) (jj := 3) (by decide) rfl (by unfold vp_in; decide) dX12_shelf_111 ?_
                    refine G_iconst (pc := 112) (v := 1) (by decide) dX12_shelf_112 ?_
                    exact G_iret (pc := 113) (Nat.le_of_ble_eq_true rfl) (Nat.le_of_ble_eq_true rfl) rfl dX12_shelf_113 (by first | rfl | (simp [F_shelf, *]; done) | (have : 0 ≤ (what).toInt := Int32.le_iff_toInt_le.mp (c87.1); have : (what).toInt ≤ 2 := Int32.le_iff_toInt_le.mp (c87.2); have : (what).toInt ≠ 0 := g_ne (c88); have : (what).toInt ≠ 1 := g_ne (c89); have : (what).toInt ≠ 0 := g_ne (c90); have : (what).toInt ≠ 1 := g_ne (c91); have : (what).toInt ≠ 0 := g_ne (c102); have : (what).toInt ≠ 1 := g_ne (c103); simp only [F_shelf, Int32.le_iff_toInt_le, Int32.lt_iff_toInt_lt, ← Int32.toInt_inj]; simp; omega) | (have : 0 ≤ (what).toInt := Int32.le_iff_toInt_le.mp (c87.1); have : (what).toInt ≤ 2 := Int32.le_iff_toInt_le.mp (c87.2); have : (what).toInt ≠ 0 := g_ne (c88); have : (what).toInt ≠ 1 := g_ne (c89); have : (what).toInt ≠ 0 := g_ne (c90); have : (what).toInt ≠ 1 := g_ne (c91); have : (what).toInt ≠ 0 := g_ne (c102); have : (what).toInt ≠ 1 := g_ne (c103); simp only [F_shelf, Int32.le_iff_toInt_le, Int32.lt_iff_toInt_lt, ← Int32.toInt_inj]; split <;> first | rfl | (exfalso; simp at *; omega)) | (have : 0 ≤ (what).toInt := Int32.le_iff_toInt_le.mp (c87.1); have : (what).toInt ≤ 2 := Int32.le_iff_toInt_le.mp (c87.2); have : (what).toInt ≠ 0 := g_ne (c88); have : (what).toInt ≠ 1 := g_ne (c89); have : (what).toInt ≠ 0 := g_ne (c90); have : (what).toInt ≠ 1 := g_ne (c91); have : (what).toInt ≠ 0 := g_ne (c102); have : (what).toInt ≠ 1 := g_ne (c103); unfold F_shelf; (repeat' split) <;> first | rfl | (exfalso; (try simp only [Int32.le_iff_toInt_le, Int32.lt_iff_toInt_lt, ← Int32.toInt_inj] at *); first | omega | (simp at *; done) | (simp at *; omega))))
                  · exact absurd c103 c89
                · exact absurd c102 c88
              exfalso
              have : 0 ≤ (shelf).toInt := Int32.le_iff_toInt_le.mp (c86.1)
              have : (shelf).toInt ≤ 3 := Int32.le_iff_toInt_le.mp (c86.2)
              have : (shelf).toInt ≠ 0 := g_ne (c92)
              have : (shelf).toInt ≠ 1 := g_ne (c95)
              have : (shelf).toInt ≠ 2 := g_ne (c98)
              have : (shelf).toInt ≠ 3 := g_ne (c101)
              omega
            · exact absurd c91 c89
          · exact absurd c90 c88
        · refine G_iload_n (pc := 33) rfl dX12_shelf_33 ?_
          refine G_callS (pc := 34) (mc1 := 0) (ms1 := 0) (mj := mX12_isSheet) (vs := [_]) dX12_shelf_34 cm_X12_isSheet wh_46 wh_48 rfl (Nat.le_of_ble_eq_true rfl) (Nat.le_of_ble_eq_true rfl) (Nat.le_of_ble_eq_true rfl) (Nat.le_of_ble_eq_true rfl) (s10036_X12_isSheet J d  _) ?_
          rintro _ _ ⟨rfl, rfl⟩
          dsimp only [Option.toList, List.cons_append, List.nil_append]
          refine G_if_ne (pc := 37) (tgt := 42) (by decide) dX12_shelf_37 (fun c104 => ?_) (fun c104 => ?_)
          · have c104 := gB_o c104
            refine G_aload_n (pc := 42) rfl dX12_shelf_42 ?_
            refine G_getR (pc := 43) (r := 85) (ci := 12) (j := 31) rfl lk_RX12_62 rfl rfl rfl dX12_shelf_43 ?_
            refine G_iload_n (pc := 46) rfl dX12_shelf_46 ?_
            refine G_iload_n (pc := 47) rfl dX12_shelf_47 ?_
            refine G_if_ne (pc := 48) (tgt := 55) (by decide) dX12_shelf_48 (fun c105 => ?_) (fun c105 => ?_)
            · refine G_iload_n (pc := 55) rfl dX12_shelf_55 ?_
              refine G_iconst (pc := 56) (v := 1) (by decide) dX12_shelf_56 ?_
              refine G_icmp_ne (pc := 57) (tgt := 81) (by decide) dX12_shelf_57 (fun c106 => ?_) (fun c106 => ?_)
              · exact absurd c89 c106
              · refine G_aload_n (pc := 60) rfl dX12_shelf_60 ?_
                refine G_getR (pc := 61) (r := 82) (ci := 12) (j := 28) rfl lk_RX12_53 rfl rfl rfl dX12_shelf_61 ?_
                refine G_iload_n (pc := 64) rfl dX12_shelf_64 ?_
                by_cases c107 : n = 0
                · subst c107
                  refine G_iald (pc := 65) (jj := 0) (v := (-1)) (by decide) rfl rfl (by unfold vp_in; decide) dX12_shelf_65 ?_
                  refine G_if_lt (pc := 66) (tgt := 81) (by decide) dX12_shelf_66 (fun _ => ?_) (fun z => absurd (by decide) z)
                  refine G_iconst (pc := 81) (v := (-1)) (by decide) dX12_shelf_81 ?_
                  by_cases c108 : shelf = 0
                  · subst c108
                    refine G_iast (pc := 82) (jj := 0) (by decide) rfl (by unfold vp_in; decide) dX12_shelf_82 ?_
                    refine G_aload_n (pc := 83) rfl dX12_shelf_83 ?_
                    refine G_getR (pc := 84) (r := 86) (ci := 12) (j := 32) rfl lk_RX12_65 rfl rfl rfl dX12_shelf_84 ?_
                    refine G_iload_n (pc := 87) rfl dX12_shelf_87 ?_
                    refine G_iload_n (pc := 88) rfl dX12_shelf_88 ?_
                    refine G_if_ne (pc := 89) (tgt := 96) (by decide) dX12_shelf_89 (fun c109 => ?_) (fun c109 => ?_)
                    · refine G_iload_n (pc := 96) rfl dX12_shelf_96 ?_
                      refine G_iconst (pc := 97) (v := 1) (by decide) dX12_shelf_97 ?_
                      refine G_icmp_ne (pc := 98) (tgt := 110) (by decide) dX12_shelf_98 (fun c110 => ?_) (fun c110 => ?_)
                      · exact absurd c89 c110
                      · refine G_aload_n (pc := 101) rfl dX12_shelf_101 ?_
                        refine G_getR (pc := 102) (r := 83) (ci := 12) (j := 29) rfl lk_RX12_56 rfl rfl rfl dX12_shelf_102 ?_
                        refine G_iload_n (pc := 105) rfl dX12_shelf_105 ?_
                        refine G_iald (pc := 106) (jj := 0) (v := 0) (by decide) rfl rfl (by unfold vp_in; decide) dX12_shelf_106 ?_
                        refine G_goto (pc := 107) (tgt := 111) (by decide) dX12_shelf_107 ?_
                        refine G_iast (pc := 111) (jj := 0) (by decide) rfl (by unfold vp_in; decide) dX12_shelf_111 ?_
                        refine G_iconst (pc := 112) (v := 1) (by decide) dX12_shelf_112 ?_
                        exact G_iret (pc := 113) (Nat.le_of_ble_eq_true rfl) (Nat.le_of_ble_eq_true rfl) rfl dX12_shelf_113 (by first | rfl | (simp [F_shelf, *]; done) | (have : 0 ≤ (what).toInt := Int32.le_iff_toInt_le.mp (c87.1); have : (what).toInt ≤ 2 := Int32.le_iff_toInt_le.mp (c87.2); have : (what).toInt ≠ 0 := g_ne (c88); have : (what).toInt = 1 := congrArg Int32.toInt (c89); have : (what).toInt ≠ 0 := g_ne (c105); have : (what).toInt = 1 := congrArg Int32.toInt (c106); have : (what).toInt ≠ 0 := g_ne (c109); have : (what).toInt = 1 := congrArg Int32.toInt (c110); simp only [F_shelf, Int32.le_iff_toInt_le, Int32.lt_iff_toInt_lt, ← Int32.toInt_inj]; simp; omega) | (have : 0 ≤ (what).toInt := Int32.le_iff_toInt_le.mp (c87.1); have : (what).toInt ≤ 2 := Int32.le_iff_toInt_le.mp (c87.2); have : (what).toInt ≠ 0 := g_ne (c88); have : (what).toInt = 1 := congrArg Int32.toInt (c89); have : (what).toInt ≠ 0 := g_ne (c105); have : (what).toInt = 1 := congrArg Int32.toInt (c106); have : (what).toInt ≠ 0 := g_ne (c109); have : (what).toInt = 1 := congrArg Int32.toInt (c110); simp only [F_shelf, Int32.le_iff_toInt_le, Int32.lt_iff_toInt_lt, ← Int32.toInt_inj]; split <;> first | rfl | (exfalso; simp at *; omega)) | (have : 0 ≤ (what).toInt := Int32.le_iff_toInt_le.mp (c87.1); have : (what).toInt ≤ 2 := Int32.le_iff_toInt_le.mp (c87.2); have : (what).toInt ≠ 0 := g_ne (c88); have : (what).toInt = 1 := congrArg Int32.toInt (c89); have : (what).toInt ≠ 0 := g_ne (c105); have : (what).toInt = 1 := congrArg Int32.toInt (c106); have : (what).toInt ≠ 0 := g_ne (c109); have : (what).toInt = 1 := congrArg Int32.toInt (c110); unfold F_shelf; (repeat' split) <;> first | rfl | (exfalso; (try simp only [Int32.le_iff_toInt_le, Int32.lt_iff_toInt_lt, ← Int32.toInt_inj] at *); first | omega | (simp at *; done) | (simp at *; omega))))
                    · exact absurd c109 c88
                  by_cases c111 : shelf = 1
                  · subst c111
                    refine G_iast (pc := 82) (jj := 1) (by decide) rfl (by unfold vp_in; decide) dX12_shelf_82 ?_
                    refine G_aload_n (pc := 83) rfl dX12_shelf_83 ?_
                    refine G_getR (pc := 84) (r := 86) (ci := 12) (j := 32) rfl lk_RX12_65 rfl rfl rfl dX12_shelf_84 ?_
                    refine G_iload_n (pc := 87) rfl dX12_shelf_87 ?_
                    refine G_iload_n (pc := 88) rfl dX12_shelf_88 ?_
                    refine G_if_ne (pc := 89) (tgt := 96) (by decide) dX12_shelf_89 (fun c112 => ?_) (fun c112 => ?_)
                    · refine G_iload_n (pc := 96) rfl dX12_shelf_96 ?_
                      refine G_iconst (pc := 97) (v := 1) (by decide) dX12_shelf_97 ?_
                      refine G_icmp_ne (pc := 98) (tgt := 110) (by decide) dX12_shelf_98 (fun c113 => ?_) (fun c113 => ?_)
                      · exact absurd c89 c113
                      · refine G_aload_n (pc := 101) rfl dX12_shelf_101 ?_
                        refine G_getR (pc := 102) (r := 83) (ci := 12) (j := 29) rfl lk_RX12_56 rfl rfl rfl dX12_shelf_102 ?_
                        refine G_iload_n (pc := 105) rfl dX12_shelf_105 ?_
                        refine G_iald (pc := 106) (jj := 0) (v := 0) (by decide) rfl rfl (by unfold vp_in; decide) dX12_shelf_106 ?_
                        refine G_goto (pc := 107) (tgt := 111) (by decide) dX12_shelf_107 ?_
                        refine G_iast (pc := 111) (jj := 1) (by decide) rfl (by unfold vp_in; decide) dX12_shelf_111 ?_
                        refine G_iconst (pc := 112) (v := 1) (by decide) dX12_shelf_112 ?_
                        exact G_iret (pc := 113) (Nat.le_of_ble_eq_true rfl) (Nat.le_of_ble_eq_true rfl) rfl dX12_shelf_113 (by first | rfl | (simp [F_shelf, *]; done) | (have : 0 ≤ (what).toInt := Int32.le_iff_toInt_le.mp (c87.1); have : (what).toInt ≤ 2 := Int32.le_iff_toInt_le.mp (c87.2); have : (what).toInt ≠ 0 := g_ne (c88); have : (what).toInt = 1 := congrArg Int32.toInt (c89); have : (what).toInt ≠ 0 := g_ne (c105); have : (what).toInt = 1 := congrArg Int32.toInt (c106); have : (what).toInt ≠ 0 := g_ne (c112); have : (what).toInt = 1 := congrArg Int32.toInt (c113); simp only [F_shelf, Int32.le_iff_toInt_le, Int32.lt_iff_toInt_lt, ← Int32.toInt_inj]; simp; omega) | (have : 0 ≤ (what).toInt := Int32.le_iff_toInt_le.mp (c87.1); have : (what).toInt ≤ 2 := Int32.le_iff_toInt_le.mp (c87.2); have : (what).toInt ≠ 0 := g_ne (c88); have : (what).toInt = 1 := congrArg Int32.toInt (c89); have : (what).toInt ≠ 0 := g_ne (c105); have : (what).toInt = 1 := congrArg Int32.toInt (c106); have : (what).toInt ≠ 0 := g_ne (c112); have : (what).toInt = 1 := congrArg Int32.toInt (c113); simp only [F_shelf, Int32.le_iff_toInt_le, Int32.lt_iff_toInt_lt, ← Int32.toInt_inj]; split <;> first | rfl | (exfalso; simp at *; omega)) | (have : 0 ≤ (what).toInt := Int32.le_iff_toInt_le.mp (c87.1); have : (what).toInt ≤ 2 := Int32.le_iff_toInt_le.mp (c87.2); have : (what).toInt ≠ 0 := g_ne (c88); have : (what).toInt = 1 := congrArg Int32.toInt (c89); have : (what).toInt ≠ 0 := g_ne (c105); have : (what).toInt = 1 := congrArg Int32.toInt (c106); have : (what).toInt ≠ 0 := g_ne (c112); have : (what).toInt = 1 := congrArg Int32.toInt (c113); unfold F_shelf; (repeat' split) <;> first | rfl | (exfalso; (try simp only [Int32.le_iff_toInt_le, Int32.lt_iff_toInt_lt, ← Int32.toInt_inj] at *); first | omega | (simp at *; done) | (simp at *; omega))))
                    · exact absurd c112 c88
                  by_cases c114 : shelf = 2
                  · subst c114
                    refine G_iast (pc := 82) (jj := 2) (by decide) rfl (by unfold vp_in; decide) dX12_shelf_82 ?_
                    refine G_aload_n (pc := 83) rfl dX12_shelf_83 ?_
                    refine G_getR (pc := 84) (r := 86) (ci := 12) (j := 32) rfl lk_RX12_65 rfl rfl rfl dX12_shelf_84 ?_
                    refine G_iload_n (pc := 87) rfl dX12_shelf_87 ?_
                    refine G_iload_n (pc := 88) rfl dX12_shelf_88 ?_
                    refine G_if_ne (pc := 89) (tgt := 96) (by decide) dX12_shelf_89 (fun c115 => ?_) (fun c115 => ?_)
                    · refine G_iload_n (pc := 96) rfl dX12_shelf_96 ?_
                      refine G_iconst (pc := 97) (v := 1) (by decide) dX12_shelf_97 ?_
                      refine G_icmp_ne (pc := 98) (tgt := 110) (by decide) dX12_shelf_98 (fun c116 => ?_) (fun c116 => ?_)
                      · exact absurd c89 c116
                      · refine G_aload_n (pc := 101) rfl dX12_shelf_101 ?_
                        refine G_getR (pc := 102) (r := 83) (ci := 12) (j := 29) rfl lk_RX12_56 rfl rfl rfl dX12_shelf_102 ?_
                        refine G_iload_n (pc := 105) rfl dX12_shelf_105 ?_
                        refine G_iald (pc := 106) (jj := 0) (v := 0) (by decide) rfl rfl (by unfold vp_in; decide) dX12_shelf_106 ?_
                        refine G_goto (pc := 107) (tgt := 111) (by decide) dX12_shelf_107 ?_
                        refine G_iast (pc := 111) (jj := 2) (by decide) rfl (by unfold vp_in; decide) dX12_shelf_111 ?_
                        refine G_iconst (pc := 112) (v := 1) (by decide) dX12_shelf_112 ?_
                        exact G_iret (pc := 113) (Nat.le_of_ble_eq_true rfl) (Nat.le_of_ble_eq_true rfl) rfl dX12_shelf_113 (by first | rfl | (simp [F_shelf, *]; done) | (have : 0 ≤ (what).toInt := Int32.le_iff_toInt_le.mp (c87.1); have : (what).toInt ≤ 2 := Int32.le_iff_toInt_le.mp (c87.2); have : (what).toInt ≠ 0 := g_ne (c88); have : (what).toInt = 1 := congrArg Int32.toInt (c89); have : (what).toInt ≠ 0 := g_ne (c105); have : (what).toInt = 1 := congrArg Int32.toInt (c106); have : (what).toInt ≠ 0 := g_ne (c115); have : (what).toInt = 1 := congrArg Int32.toInt (c116); simp only [F_shelf, Int32.le_iff_toInt_le, Int32.lt_iff_toInt_lt, ← Int32.toInt_inj]; simp; omega) | (have : 0 ≤ (what).toInt := Int32.le_iff_toInt_le.mp (c87.1); have : (what).toInt ≤ 2 := Int32.le_iff_toInt_le.mp (c87.2); have : (what).toInt ≠ 0 := g_ne (c88); have : (what).toInt = 1 := congrArg Int32.toInt (c89); have : (what).toInt ≠ 0 := g_ne (c105); have : (what).toInt = 1 := congrArg Int32.toInt (c106); have : (what).toInt ≠ 0 := g_ne (c115); have : (what).toInt = 1 := congrArg Int32.toInt (c116); simp only [F_shelf, Int32.le_iff_toInt_le, Int32.lt_iff_toInt_lt, ← Int32.toInt_inj]; split <;> first | rfl | (exfalso; simp at *; omega)) | (have : 0 ≤ (what).toInt := Int32.le_iff_toInt_le.mp (c87.1); have : (what).toInt ≤ 2 := Int32.le_iff_toInt_le.mp (c87.2); have : (what).toInt ≠ 0 := g_ne (c88); have : (what).toInt = 1 := congrArg Int32.toInt (c89); have : (what).toInt ≠ 0 := g_ne (c105); have : (what).toInt = 1 := congrArg Int32.toInt (c106); have : (what).toInt ≠ 0 := g_ne (c115); have : (what).toInt = 1 := congrArg Int32.toInt (c116); unfold F_shelf; (repeat' split) <;> first | rfl | (exfalso; (try simp only [Int32.le_iff_toInt_le, Int32.lt_iff_toInt_lt, ← Int32.toInt_inj] at *); first | omega | (simp at *; done) | (simp at *; omega))))
                    · exact absurd c115 c88
                  by_cases c117 : shelf = 3
                  · subst c117
                    refine G_iast (pc := 82) (jj := 3) (by decide) rfl (by unfold vp_in; decide) dX12_shelf_82 ?_
                    refine G_aload_n (pc := 83) rfl dX12_shelf_83 ?_
                    refine G_getR (pc := 84) (r := 86) (ci := 12) (j := 32) rfl lk_RX12_65 rfl rfl rfl dX12_shelf_84 ?_
                    refine G_iload_n (pc := 87) rfl dX12_shelf_87 ?_
                    refine G_iload_n (pc := 88) rfl dX12_shelf_88 ?_
                    refine G_if_ne (pc := 89) (tgt := 96) (by decide) dX12_shelf_89 (fun c118 => ?_) (fun c118 => ?_)
                    · refine G_iload_n (pc := 96) rfl dX12_shelf_96 ?_
                      refine G_iconst (pc := 97) (v := 1) (by decide) dX12_shelf_97 ?_
                      refine G_icmp_ne (pc := 98) (tgt := 110) (by decide) dX12_shelf_98 (fun c119 => ?_) (fun c119 => ?_)
                      · exact absurd c89 c119
                      · refine G_aload_n (pc := 101) rfl dX12_shelf_101 ?_
                        refine G_getR (pc := 102) (r := 83) (ci := 12) (j := 29) rfl lk_RX12_56 rfl rfl rfl dX12_shelf_102 ?_
                        refine G_iload_n (pc := 105) rfl dX12_shelf_105 ?_
                        refine G_iald (pc := 106) (jj := 0) (v := 0) (by decide) rfl rfl (by unfold vp_in; decide) dX12_shelf_106 ?_
                        refine G_goto (pc := 107) (tgt := 111) (by decide) dX12_shelf_107 ?_
                        refine G_iast (pc := 111) (jj := 3) (by decide) rfl (by unfold vp_in; decide) dX12_shelf_111 ?_
                        refine G_iconst (pc := 112) (v := 1) (by decide) dX12_shelf_112 ?_
                        exact G_iret (pc := 113) (Nat.le_of_ble_eq_true rfl) (Nat.le_of_ble_eq_true rfl) rfl dX12_shelf_113 (by first | rfl | (simp [F_shelf, *]; done) | (have : 0 ≤ (what).toInt := Int32.le_iff_toInt_le.mp (c87.1); have : (what).toInt ≤ 2 := Int32.le_iff_toInt_le.mp (c87.2); have : (what).toInt ≠ 0 := g_ne (c88); have : (what).toInt = 1 := congrArg Int32.toInt (c89); have : (what).toInt ≠ 0 := g_ne (c105); have : (what).toInt = 1 := congrArg Int32.toInt (c106); have : (what).toInt ≠ 0 := g_ne (c118); have : (what).toInt = 1 := congrArg Int32.toInt (c119); simp only [F_shelf, Int32.le_iff_toInt_le, Int32.lt_iff_toInt_lt, ← Int32.toInt_inj]; simp; omega) | (have : 0 ≤ (what).toInt := Int32.le_iff_toInt_le.mp (c87.1); have : (what).toInt ≤ 2 := Int32.le_iff_toInt_le.mp (c87.2); have : (what).toInt ≠ 0 := g_ne (c88); have : (what).toInt = 1 := congrArg Int32.toInt (c89); have : (what).toInt ≠ 0 := g_ne (c105); have : (what).toInt = 1 := congrArg Int32.toInt (c106); have : (what).toInt ≠ 0 := g_ne (c118); have : (what).toInt = 1 := congrArg Int32.toInt (c119); simp only [F_shelf, Int32.le_iff_toInt_le, Int32.lt_iff_toInt_lt, ← Int32.toInt_inj]; split <;> first | rfl | (exfalso; simp at *; omega)) | (have : 0 ≤ (what).toInt := Int32.le_iff_toInt_le.mp (c87.1); have : (what).toInt ≤ 2 := Int32.le_iff_toInt_le.mp (c87.2); have : (what).toInt ≠ 0 := g_ne (c88); have : (what).toInt = 1 := congrArg Int32.toInt (c89); have : (what).toInt ≠ 0 := g_ne (c105); have : (what).toInt = 1 := congrArg Int32.toInt (c106); have : (what).toInt ≠ 0 := g_ne (c118); have : (what).toInt = 1 := congrArg Int32.toInt (c119); unfold F_shelf; (repeat' split) <;> first | rfl | (exfalso; (try simp only [Int32.le_iff_toInt_le, Int32.lt_iff_toInt_lt, ← Int32.toInt_inj] at *); first | omega | (simp at *; done) | (simp at *; omega))))
                    · exact absurd c118 c88
                  exfalso
                  have : 0 ≤ (shelf).toInt := Int32.le_iff_toInt_le.mp (c86.1)
                  have : (shelf).toInt ≤ 3 := Int32.le_iff_toInt_le.mp (c86.2)
                  have : (shelf).toInt ≠ 0 := g_ne (c108)
                  have : (shelf).toInt ≠ 1 := g_ne (c111)
                  have : (shelf).toInt ≠ 2 := g_ne (c114)
                  have : (shelf).toInt ≠ 3 := g_ne (c117)
                  omega
                by_cases c120 : n = 1
                · subst c120
                  refine G_iald (pc := 65) (jj := 1) (v := (-1)) (by decide) rfl rfl (by unfold vp_in; decide) dX12_shelf_65 ?_
                  refine G_if_lt (pc := 66) (tgt := 81) (by decide) dX12_shelf_66 (fun _ => ?_) (fun z => absurd (by decide) z)
                  refine G_iconst (pc := 81) (v := (-1)) (by decide) dX12_shelf_81 ?_
                  by_cases c121 : shelf = 0
                  · subst c121
                    refine G_iast (pc := 82) (jj := 0) (by decide) rfl (by unfold vp_in; decide) dX12_shelf_82 ?_
                    refine G_aload_n (pc := 83) rfl dX12_shelf_83 ?_
                    refine G_getR (pc := 84) (r := 86) (ci := 12) (j := 32) rfl lk_RX12_65 rfl rfl rfl dX12_shelf_84 ?_
                    refine G_iload_n (pc := 87) rfl dX12_shelf_87 ?_
                    refine G_iload_n (pc := 88) rfl dX12_shelf_88 ?_
                    refine G_if_ne (pc := 89) (tgt := 96) (by decide) dX12_shelf_89 (fun c122 => ?_) (fun c122 => ?_)
                    · refine G_iload_n (pc := 96) rfl dX12_shelf_96 ?_
                      refine G_iconst (pc := 97) (v := 1) (by decide) dX12_shelf_97 ?_
                      refine G_icmp_ne (pc := 98) (tgt := 110) (by decide) dX12_shelf_98 (fun c123 => ?_) (fun c123 => ?_)
                      · exact absurd c89 c123
                      · refine G_aload_n (pc := 101) rfl dX12_shelf_101 ?_
                        refine G_getR (pc := 102) (r := 83) (ci := 12) (j := 29) rfl lk_RX12_56 rfl rfl rfl dX12_shelf_102 ?_
                        refine G_iload_n (pc := 105) rfl dX12_shelf_105 ?_
                        refine G_iald (pc := 106) (jj := 1) (v := 0) (by decide) rfl rfl (by unfold vp_in; decide) dX12_shelf_106 ?_
                        refine G_goto (pc := 107) (tgt := 111) (by decide) dX12_shelf_107 ?_
                        refine G_iast (pc := 111) (jj := 0) (by decide) rfl (by unfold vp_in; decide) dX12_shelf_111 ?_
                        refine G_iconst (pc := 112) (v := 1) (by decide) dX12_shelf_112 ?_
                        exact G_iret (pc := 113) (Nat.le_of_ble_eq_true rfl) (Nat.le_of_ble_eq_true rfl) rfl dX12_shelf_113 (by first | rfl | (simp [F_shelf, *]; done) | (have : 0 ≤ (what).toInt := Int32.le_iff_toInt_le.mp (c87.1); have : (what).toInt ≤ 2 := Int32.le_iff_toInt_le.mp (c87.2); have : (what).toInt ≠ 0 := g_ne (c88); have : (what).toInt = 1 := congrArg Int32.toInt (c89); have : (what).toInt ≠ 0 := g_ne (c105); have : (what).toInt = 1 := congrArg Int32.toInt (c106); have : (what).toInt ≠ 0 := g_ne (c122); have : (what).toInt = 1 := congrArg Int32.toInt (c123); simp only [F_shelf, Int32.le_iff_toInt_le, Int32.lt_iff_toInt_lt, ← Int32.toInt_inj]; simp; omega) | (have : 0 ≤ (what).toInt := Int32.le_iff_toInt_le.mp (c87.1); have : (what).toInt ≤ 2 := Int32.le_iff_toInt_le.mp (c87.2); have : (what).toInt ≠ 0 := g_ne (c88); have : (what).toInt = 1 := congrArg Int32.toInt (c89); have : (what).toInt ≠ 0 := g_ne (c105); have : (what).toInt = 1 := congrArg Int32.toInt (c106); have : (what).toInt ≠ 0 := g_ne (c122); have : (what).toInt = 1 := congrArg Int32.toInt (c123); simp only [F_shelf, Int32.le_iff_toInt_le, Int32.lt_iff_toInt_lt, ← Int32.toInt_inj]; split <;> first | rfl | (exfalso; simp at *; omega)) | (have : 0 ≤ (what).toInt := Int32.le_iff_toInt_le.mp (c87.1); have : (what).toInt ≤ 2 := Int32.le_iff_toInt_le.mp (c87.2); have : (what).toInt ≠ 0 := g_ne (c88); have : (what).toInt = 1 := congrArg Int32.toInt (c89); have : (what).toInt ≠ 0 := g_ne (c105); have : (what).toInt = 1 := congrArg Int32.toInt (c106); have : (what).toInt ≠ 0 := g_ne (c122); have : (what).toInt = 1 := congrArg Int32.toInt (c123); unfold F_shelf; (repeat' split) <;> first | rfl | (exfalso; (try simp only [Int32.le_iff_toInt_le, Int32.lt_iff_toInt_lt, ← Int32.toInt_inj] at *); first | omega | (simp at *; done) | (simp at *; omega))))
                    · exact absurd c122 c88
                  by_cases c124 : shelf = 1
                  · subst c124
                    refine G_iast (pc := 82) (jj := 1) (by decide) rfl (by unfold vp_in; decide) dX12_shelf_82 ?_
                    refine G_aload_n (pc := 83) rfl dX12_shelf_83 ?_
                    refine G_getR (pc := 84) (r := 86) (ci := 12) (j := 32) rfl lk_RX12_65 rfl rfl rfl dX12_shelf_84 ?_
                    refine G_iload_n (pc := 87) rfl dX12_shelf_87 ?_
                    refine G_iload_n (pc := 88) rfl dX12_shelf_88 ?_
                    refine G_if_ne (pc := 89) (tgt := 96) (by decide) dX12_shelf_89 (fun c125 => ?_) (fun c125 => ?_)
                    · refine G_iload_n (pc := 96) rfl dX12_shelf_96 ?_
                      refine G_iconst (pc := 97) (v := 1) (by decide) dX12_shelf_97 ?_
                      refine G_icmp_ne (pc := 98) (tgt := 110) (by decide) dX12_shelf_98 (fun c126 => ?_) (fun c126 => ?_)
                      · exact absurd c89 c126
                      · refine G_aload_n (pc := 101) rfl dX12_shelf_101 ?_
                        refine G_getR (pc := 102) (r := 83) (ci := 12) (j := 29) rfl lk_RX12_56 rfl rfl rfl dX12_shelf_102 ?_
                        refine G_iload_n (pc := 105) rfl dX12_shelf_105 ?_
                        refine G_iald (pc := 106) (jj := 1) (v := 0) (by decide) rfl rfl (by unfold vp_in; decide) dX12_shelf_106 ?_
                        refine G_goto (pc := 107) (tgt := 111) (by decide) dX12_shelf_107 ?_
                        refine G_iast (pc := 111) (jj := 1) (by decide) rfl (by unfold vp_in; decide) dX12_shelf_111 ?_
                        refine G_iconst (pc := 112) (v := 1) (by decide) dX12_shelf_112 ?_
                        exact G_iret (pc := 113) (Nat.le_of_ble_eq_true rfl) (Nat.le_of_ble_eq_true rfl) rfl dX12_shelf_113 (by first | rfl | (simp [F_shelf, *]; done) | (have : 0 ≤ (what).toInt := Int32.le_iff_toInt_le.mp (c87.1); have : (what).toInt ≤ 2 := Int32.le_iff_toInt_le.mp (c87.2); have : (what).toInt ≠ 0 := g_ne (c88); have : (what).toInt = 1 := congrArg Int32.toInt (c89); have : (what).toInt ≠ 0 := g_ne (c105); have : (what).toInt = 1 := congrArg Int32.toInt (c106); have : (what).toInt ≠ 0 := g_ne (c125); have : (what).toInt = 1 := congrArg Int32.toInt (c126); simp only [F_shelf, Int32.le_iff_toInt_le, Int32.lt_iff_toInt_lt, ← Int32.toInt_inj]; simp; omega) | (have : 0 ≤ (what).toInt := Int32.le_iff_toInt_le.mp (c87.1); have : (what).toInt ≤ 2 := Int32.le_iff_toInt_le.mp (c87.2); have : (what).toInt ≠ 0 := g_ne (c88); have : (what).toInt = 1 := congrArg Int32.toInt (c89); have : (what).toInt ≠ 0 := g_ne (c105); have : (what).toInt = 1 := congrArg Int32.toInt (c106); have : (what).toInt ≠ 0 := g_ne (c125); have : (what).toInt = 1 := congrArg Int32.toInt (c126); simp only [F_shelf, Int32.le_iff_toInt_le, Int32.lt_iff_toInt_lt, ← Int32.toInt_inj]; split <;> first | rfl | (exfalso; simp at *; omega)) | (have : 0 ≤ (what).toInt := Int32.le_iff_toInt_le.mp (c87.1); have : (what).toInt ≤ 2 := Int32.le_iff_toInt_le.mp (c87.2); have : (what).toInt ≠ 0 := g_ne (c88); have : (what).toInt = 1 := congrArg Int32.toInt (c89); have : (what).toInt ≠ 0 := g_ne (c105); have : (what).toInt = 1 := congrArg Int32.toInt (c106); have : (what).toInt ≠ 0 := g_ne (c125); have : (what).toInt = 1 := congrArg Int32.toInt (c126); unfold F_shelf; (repeat' split) <;> first | rfl | (exfalso; (try simp only [Int32.le_iff_toInt_le, Int32.lt_iff_toInt_lt, ← Int32.toInt_inj] at *); first | omega | (simp at *; done) | (simp at *; omega))))
                    · exact absurd c125 c88
                  by_cases c127 : shelf = 2
                  · subst c127
                    refine G_iast (pc := 82) (jj := 2) (by decide) rfl (by unfold vp_in; decide) dX12_shelf_82 ?_
                    refine G_aload_n (pc := 83) rfl dX12_shelf_83 ?_
                    refine G_getR (pc := 84) (r := 86) (ci := 12) (j := 32) rfl lk_RX12_65 rfl rfl rfl dX12_shelf_84 ?_
                    refine G_iload_n (pc := 87) rfl dX12_shelf_87 ?_
                    refine G_iload_n (pc := 88) rfl dX12_shelf_88 ?_
                    refine G_if_ne (pc := 89) (tgt := 96) (by decide) dX12_shelf_89 (fun c128 => ?_) (fun c128 => ?_)
                    · refine G_iload_n (pc := 96) rfl dX12_shelf_96 ?_
                      refine G_iconst (pc := 97) (v := 1) (by decide) dX12_shelf_97 ?_
                      refine G_icmp_ne (pc := 98) (tgt := 110) (by decide) dX12_shelf_98 (fun c129 => ?_) (fun c129 => ?_)
                      · exact absurd c89 c129
                      · refine G_aload_n (pc := 101) rfl dX12_shelf_101 ?_
                        refine G_getR (pc := 102) (r := 83) (ci := 12) (j := 29) rfl lk_RX12_56 rfl rfl rfl dX12_shelf_102 ?_
                        refine G_iload_n (pc := 105) rfl dX12_shelf_105 ?_
                        refine G_iald (pc := 106) (jj := 1) (v := 0) (by decide) rfl rfl (by unfold vp_in; decide) dX12_shelf_106 ?_
                        refine G_goto (pc := 107) (tgt := 111) (by decide) dX12_shelf_107 ?_
                        refine G_iast (pc := 111) (jj := 2) (by decide) rfl (by unfold vp_in; decide) dX12_shelf_111 ?_
                        refine G_iconst (pc := 112) (v := 1) (by decide) dX12_shelf_112 ?_
                        exact G_iret (pc := 113) (Nat.le_of_ble_eq_true rfl) (Nat.le_of_ble_eq_true rfl) rfl dX12_shelf_113 (by first | rfl | (simp [F_shelf, *]; done) | (have : 0 ≤ (what).toInt := Int32.le_iff_toInt_le.mp (c87.1); have : (what).toInt ≤ 2 := Int32.le_iff_toInt_le.mp (c87.2); have : (what).toInt ≠ 0 := g_ne (c88); have : (what).toInt = 1 := congrArg Int32.toInt (c89); have : (what).toInt ≠ 0 := g_ne (c105); have : (what).toInt = 1 := congrArg Int32.toInt (c106); have : (what).toInt ≠ 0 := g_ne (c128); have : (what).toInt = 1 := congrArg Int32.toInt (c129); simp only [F_shelf, Int32.le_iff_toInt_le, Int32.lt_iff_toInt_lt, ← Int32.toInt_inj]; simp; omega) | (have : 0 ≤ (what).toInt := Int32.le_iff_toInt_le.mp (c87.1); have : (what).toInt ≤ 2 := Int32.le_iff_toInt_le.mp (c87.2); have : (what).toInt ≠ 0 := g_ne (c88); have : (what).toInt = 1 := congrArg Int32.toInt (c89); have : (what).toInt ≠ 0 := g_ne (c105); have : (what).toInt = 1 := congrArg Int32.toInt (c106); have : (what).toInt ≠ 0 := g_ne (c128); have : (what).toInt = 1 := congrArg Int32.toInt (c129); simp only [F_shelf, Int32.le_iff_toInt_le, Int32.lt_iff_toInt_lt, ← Int32.toInt_inj]; split <;> first | rfl | (exfalso; simp at *; omega)) | (have : 0 ≤ (what).toInt := Int32.le_iff_toInt_le.mp (c87.1); have : (what).toInt ≤ 2 := Int32.le_iff_toInt_le.mp (c87.2); have : (what).toInt ≠ 0 := g_ne (c88); have : (what).toInt = 1 := congrArg Int32.toInt (c89); have : (what).toInt ≠ 0 := g_ne (c105); have : (what).toInt = 1 := congrArg Int32.toInt (c106); have : (what).toInt ≠ 0 := g_ne (c128); have : (what).toInt = 1 := congrArg Int32.toInt (c129); unfold F_shelf; (repeat' split) <;> first | rfl | (exfalso; (try simp only [Int32.le_iff_toInt_le, Int32.lt_iff_toInt_lt, ← Int32.toInt_inj] at *); first | omega | (simp at *; done) | (simp at *; omega))))
                    · exact absurd c128 c88
                  by_cases c130 : shelf = 3
                  · subst c130
                    refine G_iast (pc := 82) (jj := 3) (by decide) rfl (by unfold vp_in; decide) dX12_shelf_82 ?_
                    refine G_aload_n (pc := 83) rfl dX12_shelf_83 ?_
                    refine G_getR (pc := 84) (r := 86) (ci := 12) (j := 32) rfl lk_RX12_65 rfl rfl rfl dX12_shelf_84 ?_
                    refine G_iload_n (pc := 87) rfl dX12_shelf_87 ?_
                    refine G_iload_n (pc := 88) rfl dX12_shelf_88 ?_
                    refine G_if_ne (pc := 89) (tgt := 96) (by decide) dX12_shelf_89 (fun c131 => ?_) (fun c131 => ?_)
                    · refine G_iload_n (pc := 96) rfl dX12_shelf_96 ?_
                      refine G_iconst (pc := 97) (v := 1) (by decide) dX12_shelf_97 ?_
                      refine G_icmp_ne (pc := 98) (tgt := 110) (by decide) dX12_shelf_98 (fun c132 => ?_) (fun c132 => ?_)
                      · exact absurd c89 c132
                      · refine G_aload_n (pc := 101) rfl dX12_shelf_101 ?_
                        refine G_getR (pc := 102) (r := 83) (ci := 12) (j := 29) rfl lk_RX12_56 rfl rfl rfl dX12_shelf_102 ?_
                        refine G_iload_n (pc := 105) rfl dX12_shelf_105 ?_
                        refine G_iald (pc := 106) (jj := 1) (v := 0) (by decide) rfl rfl (by unfold vp_in; decide) dX12_shelf_106 ?_
                        refine G_goto (pc := 107) (tgt := 111) (by decide) dX12_shelf_107 ?_
                        refine G_iast (pc := 111) (jj := 3) (by decide) rfl (by unfold vp_in; decide) dX12_shelf_111 ?_
                        refine G_iconst (pc := 112) (v := 1) (by decide) dX12_shelf_112 ?_
                        exact G_iret (pc := 113) (Nat.le_of_ble_eq_true rfl) (Nat.le_of_ble_eq_true rfl) rfl dX12_shelf_113 (by first | rfl | (simp [F_shelf, *]; done) | (have : 0 ≤ (what).toInt := Int32.le_iff_toInt_le.mp (c87.1); have : (what).toInt ≤ 2 := Int32.le_iff_toInt_le.mp (c87.2); have : (what).toInt ≠ 0 := g_ne (c88); have : (what).toInt = 1 := congrArg Int32.toInt (c89); have : (what).toInt ≠ 0 := g_ne (c105); have : (what).toInt = 1 := congrArg Int32.toInt (c106); have : (what).toInt ≠ 0 := g_ne (c131); have : (what).toInt = 1 := congrArg Int32.toInt (c132); simp only [F_shelf, Int32.le_iff_toInt_le, Int32.lt_iff_toInt_lt, ← Int32.toInt_inj]; simp; omega) | (have : 0 ≤ (what).toInt := Int32.le_iff_toInt_le.mp (c87.1); have : (what).toInt ≤ 2 := Int32.le_iff_toInt_le.mp (c87.2); have : (what).toInt ≠ 0 := g_ne (c88); have : (what).toInt = 1 := congrArg Int32.toInt (c89); have : (what).toInt ≠ 0 := g_ne (c105); have : (what).toInt = 1 := congrArg Int32.toInt (c106); have : (what).toInt ≠ 0 := g_ne (c131); have : (what).toInt = 1 := congrArg Int32.toInt (c132); simp only [F_shelf, Int32.le_iff_toInt_le, Int32.lt_iff_toInt_lt, ← Int32.toInt_inj]; split <;> first | rfl | (exfalso; simp at *; omega)) | (have : 0 ≤ (what).toInt := Int32.le_iff_toInt_le.mp (c87.1); have : (what).toInt ≤ 2 := Int32.le_iff_toInt_le.mp (c87.2); have : (what).toInt ≠ 0 := g_ne (c88); have : (what).toInt = 1 := congrArg Int32.toInt (c89); have : (what).toInt ≠ 0 := g_ne (c105); have : (what).toInt = 1 := congrArg Int32.toInt (c106); have : (what).toInt ≠ 0 := g_ne (c131); have : (what).toInt = 1 := congrArg Int32.toInt (c132); unfold F_shelf; (repeat' split) <;> first | rfl | (exfalso; (try simp only [Int32.le_iff_toInt_le, Int32.lt_iff_toInt_lt, ← Int32.toInt_inj] at *); first | omega | (simp at *; done) | (simp at *; omega))))
                    · exact absurd c131 c88
                  exfalso
                  have : 0 ≤ (shelf).toInt := Int32.le_iff_toInt_le.mp (c86.1)
                  have : (shelf).toInt ≤ 3 := Int32.le_iff_toInt_le.mp (c86.2)
                  have : (shelf).toInt ≠ 0 := g_ne (c121)
                  have : (shelf).toInt ≠ 1 := g_ne (c124)
                  have : (shelf).toInt ≠ 2 := g_ne (c127)
                  have : (shelf).toInt ≠ 3 := g_ne (c130)
                  omega
                by_cases c133 : n = 2
                · subst c133
                  refine G_iald (pc := 65) (jj := 2) (v := (-1)) (by decide) rfl rfl (by unfold vp_in; decide) dX12_shelf_65 ?_
                  refine G_if_lt (pc := 66) (tgt := 81) (by decide) dX12_shelf_66 (fun _ => ?_) (fun z => absurd (by decide) z)
                  refine G_iconst (pc := 81) (v := (-1)) (by decide) dX12_shelf_81 ?_
                  by_cases c134 : shelf = 0
                  · subst c134
                    refine G_iast (pc := 82) (jj := 0) (by decide) rfl (by unfold vp_in; decide) dX12_shelf_82 ?_
                    refine G_aload_n (pc := 83) rfl dX12_shelf_83 ?_
                    refine G_getR (pc := 84) (r := 86) (ci := 12) (j := 32) rfl lk_RX12_65 rfl rfl rfl dX12_shelf_84 ?_
                    refine G_iload_n (pc := 87) rfl dX12_shelf_87 ?_
                    refine G_iload_n (pc := 88) rfl dX12_shelf_88 ?_
                    refine G_if_ne (pc := 89) (tgt := 96) (by decide) dX12_shelf_89 (fun c135 => ?_) (fun c135 => ?_)
                    · refine G_iload_n (pc := 96) rfl dX12_shelf_96 ?_
                      refine G_iconst (pc := 97) (v := 1) (by decide) dX12_shelf_97 ?_
                      refine G_icmp_ne (pc := 98) (tgt := 110) (by decide) dX12_shelf_98 (fun c136 => ?_) (fun c136 => ?_)
                      · exact absurd c89 c136
                      · refine G_aload_n (pc := 101) rfl dX12_shelf_101 ?_
                        refine G_getR (pc := 102) (r := 83) (ci := 12) (j := 29) rfl lk_RX12_56 rfl rfl rfl dX12_shelf_102 ?_
                        refine G_iload_n (pc := 105) rfl dX12_shelf_105 ?_
                        refine G_iald (pc := 106) (jj := 2) (v := 0) (by decide) rfl rfl (by unfold vp_in; decide) dX12_shelf_106 ?_
                        refine G_goto (pc := 107) (tgt := 111) (by decide) dX12_shelf_107 ?_
                        refine G_iast (pc := 111) (jj := 0) (by decide) rfl (by unfold vp_in; decide) dX12_shelf_111 ?_
                        refine G_iconst (pc := 112) (v := 1) (by decide) dX12_shelf_112 ?_
                        exact G_iret (pc := 113) (Nat.le_of_ble_eq_true rfl) (Nat.le_of_ble_eq_true rfl) rfl dX12_shelf_113 (by first | rfl | (simp [F_shelf, *]; done) | (have : 0 ≤ (what).toInt := Int32.le_iff_toInt_le.mp (c87.1); have : (what).toInt ≤ 2 := Int32.le_iff_toInt_le.mp (c87.2); have : (what).toInt ≠ 0 := g_ne (c88); have : (what).toInt = 1 := congrArg Int32.toInt (c89); have : (what).toInt ≠ 0 := g_ne (c105); have : (what).toInt = 1 := congrArg Int32.toInt (c106); have : (what).toInt ≠ 0 := g_ne (c135); have : (what).toInt = 1 := congrArg Int32.toInt (c136); simp only [F_shelf, Int32.le_iff_toInt_le, Int32.lt_iff_toInt_lt, ← Int32.toInt_inj]; simp; omega) | (have : 0 ≤ (what).toInt := Int32.le_iff_toInt_le.mp (c87.1); have : (what).toInt ≤ 2 := Int32.le_iff_toInt_le.mp (c87.2); have : (what).toInt ≠ 0 := g_ne (c88); have : (what).toInt = 1 := congrArg Int32.toInt (c89); have : (what).toInt ≠ 0 := g_ne (c105); have : (what).toInt = 1 := congrArg Int32.toInt (c106); have : (what).toInt ≠ 0 := g_ne (c135); have : (what).toInt = 1 := congrArg Int32.toInt (c136); simp only [F_shelf, Int32.le_iff_toInt_le, Int32.lt_iff_toInt_lt, ← Int32.toInt_inj]; split <;> first | rfl | (exfalso; simp at *; omega)) | (have : 0 ≤ (what).toInt := Int32.le_iff_toInt_le.mp (c87.1); have : (what).toInt ≤ 2 := Int32.le_iff_toInt_le.mp (c87.2); have : (what).toInt ≠ 0 := g_ne (c88); have : (what).toInt = 1 := congrArg Int32.toInt (c89); have : (what).toInt ≠ 0 := g_ne (c105); have : (what).toInt = 1 := congrArg Int32.toInt (c106); have : (what).toInt ≠ 0 := g_ne (c135); have : (what).toInt = 1 := congrArg Int32.toInt (c136); unfold F_shelf; (repeat' split) <;> first | rfl | (exfalso; (try simp only [Int32.le_iff_toInt_le, Int32.lt_iff_toInt_lt, ← Int32.toInt_inj] at *); first | omega | (simp at *; done) | (simp at *; omega))))
                    · exact absurd c135 c88
                  by_cases c137 : shelf = 1
                  · subst c137
                    refine G_iast (pc := 82) (jj := 1) (by decide) rfl (by unfold vp_in; decide) dX12_shelf_82 ?_
                    refine G_aload_n (pc := 83) rfl dX12_shelf_83 ?_
                    refine G_getR (pc := 84) (r := 86) (ci := 12) (j := 32) rfl lk_RX12_65 rfl rfl rfl dX12_shelf_84 ?_
                    refine G_iload_n (pc := 87) rfl dX12_shelf_87 ?_
                    refine G_iload_n (pc := 88) rfl dX12_shelf_88 ?_
                    refine G_if_ne (pc := 89) (tgt := 96) (by decide) dX12_shelf_89 (fun c138 => ?_) (fun c138 => ?_)
                    · refine G_iload_n (pc := 96) rfl dX12_shelf_96 ?_
                      refine G_iconst (pc := 97) (v := 1) (by decide) dX12_shelf_97 ?_
                      refine G_icmp_ne (pc := 98) (tgt := 110) (by decide) dX12_shelf_98 (fun c139 => ?_) (fun c139 => ?_)
                      · exact absurd c89 c139
                      · refine G_aload_n (pc := 101) rfl dX12_shelf_101 ?_
                        refine G_getR (pc := 102) (r := 83) (ci := 12) (j := 29) rfl lk_RX12_56 rfl rfl rfl dX12_shelf_102 ?_
                        refine G_iload_n (pc := 105) rfl dX12_shelf_105 ?_
                        refine G_iald (pc := 106) (jj := 2) (v := 0) (by decide) rfl rfl (by unfold vp_in; decide) dX12_shelf_106 ?_
                        refine G_goto (pc := 107) (tgt := 111) (by decide) dX12_shelf_107 ?_
                        refine G_iast (pc := 111) (jj := 1) (by decide) rfl (by unfold vp_in; decide) dX12_shelf_111 ?_
                        refine G_iconst (pc := 112) (v := 1) (by decide) dX12_shelf_112 ?_
                        exact G_iret (pc := 113) (Nat.le_of_ble_eq_true rfl) (Nat.le_of_ble_eq_true rfl) rfl dX12_shelf_113 (by first | rfl | (simp [F_shelf, *]; done) | (have : 0 ≤ (what).toInt := Int32.le_iff_toInt_le.mp (c87.1); have : (what).toInt ≤ 2 := Int32.le_iff_toInt_le.mp (c87.2); have : (what).toInt ≠ 0 := g_ne (c88); have : (what).toInt = 1 := congrArg Int32.toInt (c89); have : (what).toInt ≠ 0 := g_ne (c105); have : (what).toInt = 1 := congrArg Int32.toInt (c106); have : (what).toInt ≠ 0 := g_ne (c138); have : (what).toInt = 1 := congrArg Int32.toInt (c139); simp only [F_shelf, Int32.le_iff_toInt_le, Int32.lt_iff_toInt_lt, ← Int32.toInt_inj]; simp; omega) | (have : 0 ≤ (what).toInt := Int32.le_iff_toInt_le.mp (c87.1); have : (what).toInt ≤ 2 := Int32.le_iff_toInt_le.mp (c87.2); have : (what).toInt ≠ 0 := g_ne (c88); have : (what).toInt = 1 := congrArg Int32.toInt (c89); have : (what).toInt ≠ 0 := g_ne (c105); have : (what).toInt = 1 := congrArg Int32.toInt (c106); have : (what).toInt ≠ 0 := g_ne (c138); have : (what).toInt = 1 := congrArg Int32.toInt (c139); simp only [F_shelf, Int32.le_iff_toInt_le, Int32.lt_iff_toInt_lt, ← Int32.toInt_inj]; split <;> first | rfl | (exfalso; simp at *; omega)) | (have : 0 ≤ (what).toInt := Int32.le_iff_toInt_le.mp (c87.1); have : (what).toInt ≤ 2 := Int32.le_iff_toInt_le.mp (c87.2); have : (what).toInt ≠ 0 := g_ne (c88); have : (what).toInt = 1 := congrArg Int32.toInt (c89); have : (what).toInt ≠ 0 := g_ne (c105); have : (what).toInt = 1 := congrArg Int32.toInt (c106); have : (what).toInt ≠ 0 := g_ne (c138); have : (what).toInt = 1 := congrArg Int32.toInt (c139); unfold F_shelf; (repeat' split) <;> first | rfl | (exfalso; (try simp only [Int32.le_iff_toInt_le, Int32.lt_iff_toInt_lt, ← Int32.toInt_inj] at *); first | omega | (simp at *; done) | (simp at *; omega))))
                    · exact absurd c138 c88
                  by_cases c140 : shelf = 2
                  · subst c140
                    refine G_iast (pc := 82) (jj := 2) (by decide) rfl (by unfold vp_in; decide) dX12_shelf_82 ?_
                    refine G_aload_n (pc := 83) rfl dX12_shelf_83 ?_
                    refine G_getR (pc := 84) (r := 86) (ci := 12) (j := 32) rfl lk_RX12_65 rfl rfl rfl dX12_shelf_84 ?_
                    refine G_iload_n (pc := 87) rfl dX12_shelf_87 ?_
                    refine G_iload_n (pc := 88) rfl dX12_shelf_88 ?_
                    refine G_if_ne (pc := 89) (tgt := 96) (by decide) dX12_shelf_89 (fun c141 => ?_) (fun c141 => ?_)
                    · refine G_iload_n (pc := 96) rfl dX12_shelf_96 ?_
                      refine G_iconst (pc := 97) (v := 1) (by decide) dX12_shelf_97 ?_
                      refine G_icmp_ne (pc := 98) (tgt := 110) (by decide) dX12_shelf_98 (fun c142 => ?_) (fun c142 => ?_)
                      · exact absurd c89 c142
                      · refine G_aload_n (pc := 101) rfl dX12_shelf_101 ?_
                        refine G_getR (pc := 102) (r := 83) (ci := 12) (j := 29) rfl lk_RX12_56 rfl rfl rfl dX12_shelf_102 ?_
                        refine G_iload_n (pc := 105) rfl dX12_shelf_105 ?_
                        refine G_iald (pc := 106) (jj := 2) (v := 0) (by decide) rfl rfl (by unfold vp_in; decide) dX12_shelf_106 ?_
                        refine G_goto (pc := 107) (tgt := 111) (by decide) dX12_shelf_107 ?_
                        refine G_iast (pc := 111) (jj := 2) (by decide) rfl (by unfold vp_in; decide) dX12_shelf_111 ?_
                        refine G_iconst (pc := 112) (v := 1) (by decide) dX12_shelf_112 ?_
                        exact G_iret (pc := 113) (Nat.le_of_ble_eq_true rfl) (Nat.le_of_ble_eq_true rfl) rfl dX12_shelf_113 (by first | rfl | (simp [F_shelf, *]; done) | (have : 0 ≤ (what).toInt := Int32.le_iff_toInt_le.mp (c87.1); have : (what).toInt ≤ 2 := Int32.le_iff_toInt_le.mp (c87.2); have : (what).toInt ≠ 0 := g_ne (c88); have : (what).toInt = 1 := congrArg Int32.toInt (c89); have : (what).toInt ≠ 0 := g_ne (c105); have : (what).toInt = 1 := congrArg Int32.toInt (c106); have : (what).toInt ≠ 0 := g_ne (c141); have : (what).toInt = 1 := congrArg Int32.toInt (c142); simp only [F_shelf, Int32.le_iff_toInt_le, Int32.lt_iff_toInt_lt, ← Int32.toInt_inj]; simp; omega) | (have : 0 ≤ (what).toInt := Int32.le_iff_toInt_le.mp (c87.1); have : (what).toInt ≤ 2 := Int32.le_iff_toInt_le.mp (c87.2); have : (what).toInt ≠ 0 := g_ne (c88); have : (what).toInt = 1 := congrArg Int32.toInt (c89); have : (what).toInt ≠ 0 := g_ne (c105); have : (what).toInt = 1 := congrArg Int32.toInt (c106); have : (what).toInt ≠ 0 := g_ne (c141); have : (what).toInt = 1 := congrArg Int32.toInt (c142); simp only [F_shelf, Int32.le_iff_toInt_le, Int32.lt_iff_toInt_lt, ← Int32.toInt_inj]; split <;> first | rfl | (exfalso; simp at *; omega)) | (have : 0 ≤ (what).toInt := Int32.le_iff_toInt_le.mp (c87.1); have : (what).toInt ≤ 2 := Int32.le_iff_toInt_le.mp (c87.2); have : (what).toInt ≠ 0 := g_ne (c88); have : (what).toInt = 1 := congrArg Int32.toInt (c89); have : (what).toInt ≠ 0 := g_ne (c105); have : (what).toInt = 1 := congrArg Int32.toInt (c106); have : (what).toInt ≠ 0 := g_ne (c141); have : (what).toInt = 1 := congrArg Int32.toInt (c142); unfold F_shelf; (repeat' split) <;> first | rfl | (exfalso; (try simp only [Int32.le_iff_toInt_le, Int32.lt_iff_toInt_lt, ← Int32.toInt_inj] at *); first | omega | (simp at *; done) | (simp at *; omega))))
                    · exact absurd c141 c88
                  by_cases c143 : shelf = 3
                  · subst c143
                    refine G_iast (pc := 82) (jj := 3) (by decide) rfl (by unfold vp_in; decide) dX12_shelf_82 ?_
                    refine G_aload_n (pc := 83) rfl dX12_shelf_83 ?_
                    refine G_getR (pc := 84) (r := 86) (ci := 12) (j := 32) rfl lk_RX12_65 rfl rfl rfl dX12_shelf_84 ?_
                    refine G_iload_n (pc := 87) rfl dX12_shelf_87 ?_
                    refine G_iload_n (pc := 88) rfl dX12_shelf_88 ?_
                    refine G_if_ne (pc := 89) (tgt := 96) (by decide) dX12_shelf_89 (fun c144 => ?_) (fun c144 => ?_)
                    · refine G_iload_n (pc := 96) rfl dX12_shelf_96 ?_
                      refine G_iconst (pc := 97) (v := 1) (by decide) dX12_shelf_97 ?_
                      refine G_icmp_ne (pc := 98) (tgt := 110) (by decide) dX12_shelf_98 (fun c145 => ?_) (fun c145 => ?_)
                      · exact absurd c89 c145
                      · refine G_aload_n (pc := 101) rfl dX12_shelf_101 ?_
                        refine G_getR (pc := 102) (r := 83) (ci := 12) (j := 29) rfl lk_RX12_56 rfl rfl rfl dX12_shelf_102 ?_
                        refine G_iload_n (pc := 105) rfl dX12_shelf_105 ?_
                        refine G_iald (pc := 106) (jj := 2) (v := 0) (by decide) rfl rfl (by unfold vp_in; decide) dX12_shelf_106 ?_
                        refine G_goto (pc := 107) (tgt := 111) (by decide) dX12_shelf_107 ?_
                        refine G_iast (pc := 111) (jj := 3) (by decide) rfl (by unfold vp_in; decide) dX12_shelf_111 ?_
                        refine G_iconst (pc := 112) (v := 1) (by decide) dX12_shelf_112 ?_
                        exact G_iret (pc := 113) (Nat.le_of_ble_eq_true rfl) (Nat.le_of_ble_eq_true rfl) rfl dX12_shelf_113 (by first | rfl | (simp [F_shelf, *]; done) | (have : 0 ≤ (what).toInt := Int32.le_iff_toInt_le.mp (c87.1); have : (what).toInt ≤ 2 := Int32.le_iff_toInt_le.mp (c87.2); have : (what).toInt ≠ 0 := g_ne (c88); have : (what).toInt = 1 := congrArg Int32.toInt (c89); have : (what).toInt ≠ 0 := g_ne (c105); have : (what).toInt = 1 := congrArg Int32.toInt (c106); have : (what).toInt ≠ 0 := g_ne (c144); have : (what).toInt = 1 := congrArg Int32.toInt (c145); simp only [F_shelf, Int32.le_iff_toInt_le, Int32.lt_iff_toInt_lt, ← Int32.toInt_inj]; simp; omega) | (have : 0 ≤ (what).toInt := Int32.le_iff_toInt_le.mp (c87.1); have : (what).toInt ≤ 2 := Int32.le_iff_toInt_le.mp (c87.2); have : (what).toInt ≠ 0 := g_ne (c88); have : (what).toInt = 1 := congrArg Int32.toInt (c89); have : (what).toInt ≠ 0 := g_ne (c105); have : (what).toInt = 1 := congrArg Int32.toInt (c106); have : (what).toInt ≠ 0 := g_ne (c144); have : (what).toInt = 1 := congrArg Int32.toInt (c145); simp only [F_shelf, Int32.le_iff_toInt_le, Int32.lt_iff_toInt_lt, ← Int32.toInt_inj]; split <;> first | rfl | (exfalso; simp at *; omega)) | (have : 0 ≤ (what).toInt := Int32.le_iff_toInt_le.mp (c87.1); have : (what).toInt ≤ 2 := Int32.le_iff_toInt_le.mp (c87.2); have : (what).toInt ≠ 0 := g_ne (c88); have : (what).toInt = 1 := congrArg Int32.toInt (c89); have : (what).toInt ≠ 0 := g_ne (c105); have : (what).toInt = 1 := congrArg Int32.toInt (c106); have : (what).toInt ≠ 0 := g_ne (c144); have : (what).toInt = 1 := congrArg Int32.toInt (c145); unfold F_shelf; (repeat' split) <;> first | rfl | (exfalso; (try simp only [Int32.le_iff_toInt_le, Int32.lt_iff_toInt_lt, ← Int32.toInt_inj] at *); first | omega | (simp at *; done) | (simp at *; omega))))
                    · exact absurd c144 c88
                  exfalso
                  have : 0 ≤ (shelf).toInt := Int32.le_iff_toInt_le.mp (c86.1)
                  have : (shelf).toInt ≤ 3 := Int32.le_iff_toInt_le.mp (c86.2)
                  have : (shelf).toInt ≠ 0 := g_ne (c134)
                  have : (shelf).toInt ≠ 1 := g_ne (c137)
                  have : (shelf).toInt ≠ 2 := g_ne (c140)
                  have : (shelf).toInt ≠ 3 := g_ne (c143)
                  omega
                by_cases c146 : n = 3
                · subst c146
                  refine G_iald (pc := 65) (jj := 3) (v := (-1)) (by decide) rfl rfl (by unfold vp_in; decide) dX12_shelf_65 ?_
                  refine G_if_lt (pc := 66) (tgt := 81) (by decide) dX12_shelf_66 (fun _ => ?_) (fun z => absurd (by decide) z)
                  refine G_iconst (pc := 81) (v := (-1)) (by decide) dX12_shelf_81 ?_
                  by_cases c147 : shelf = 0
                  · subst c147
                    refine G_iast (pc := 82) (jj := 0) (by decide) rfl (by unfold vp_in; decide) dX12_shelf_82 ?_
                    refine G_aload_n (pc := 83) rfl dX12_shelf_83 ?_
                    refine G_getR (pc := 84) (r := 86) (ci := 12) (j := 32) rfl lk_RX12_65 rfl rfl rfl dX12_shelf_84 ?_
                    refine G_iload_n (pc := 87) rfl dX12_shelf_87 ?_
                    refine G_iload_n (pc := 88) rfl dX12_shelf_88 ?_
                    refine G_if_ne (pc := 89) (tgt := 96) (by decide) dX12_shelf_89 (fun c148 => ?_) (fun c148 => ?_)
                    · refine G_iload_n (pc := 96) rfl dX12_shelf_96 ?_
                      refine G_iconst (pc := 97) (v := 1) (by decide) dX12_shelf_97 ?_
                      refine G_icmp_ne (pc := 98) (tgt := 110) (by decide) dX12_shelf_98 (fun c149 => ?_) (fun c149 => ?_)
                      · exact absurd c89 c149
                      · refine G_aload_n (pc := 101) rfl dX12_shelf_101 ?_
                        refine G_getR (pc := 102) (r := 83) (ci := 12) (j := 29) rfl lk_RX12_56 rfl rfl rfl dX12_shelf_102 ?_
                        refine G_iload_n (pc := 105) rfl dX12_shelf_105 ?_
                        refine G_iald (pc := 106) (jj := 3) (v := 0) (by decide) rfl rfl (by unfold vp_in; decide) dX12_shelf_106 ?_
                        refine G_goto (pc := 107) (tgt := 111) (by decide) dX12_shelf_107 ?_
                        refine G_iast (pc := 111) (jj := 0) (by decide) rfl (by unfold vp_in; decide) dX12_shelf_111 ?_
                        refine G_iconst (pc := 112) (v := 1) (by decide) dX12_shelf_112 ?_
                        exact G_iret (pc := 113) (Nat.le_of_ble_eq_true rfl) (Nat.le_of_ble_eq_true rfl) rfl dX12_shelf_113 (by first | rfl | (simp [F_shelf, *]; done) | (have : 0 ≤ (what).toInt := Int32.le_iff_toInt_le.mp (c87.1); have : (what).toInt ≤ 2 := Int32.le_iff_toInt_le.mp (c87.2); have : (what).toInt ≠ 0 := g_ne (c88); have : (what).toInt = 1 := congrArg Int32.toInt (c89); have : (what).toInt ≠ 0 := g_ne (c105); have : (what).toInt = 1 := congrArg Int32.toInt (c106); have : (what).toInt ≠ 0 := g_ne (c148); have : (what).toInt = 1 := congrArg Int32.toInt (c149); simp only [F_shelf, Int32.le_iff_toInt_le, Int32.lt_iff_toInt_lt, ← Int32.toInt_inj]; simp; omega) | (have : 0 ≤ (what).toInt := Int32.le_iff_toInt_le.mp (c87.1); have : (what).toInt ≤ 2 := Int32.le_iff_toInt_le.mp (c87.2); have : (what).toInt ≠ 0 := g_ne (c88); have : (what).toInt = 1 := congrArg Int32.toInt (c89); have : (what).toInt ≠ 0 := g_ne (c105); have : (what).toInt = 1 := congrArg Int32.toInt (c106); have : (what).toInt ≠ 0 := g_ne (c148); have : (what).toInt = 1 := congrArg Int32.toInt (c149); simp only [F_shelf, Int32.le_iff_toInt_le, Int32.lt_iff_toInt_lt, ← Int32.toInt_inj]; split <;> first | rfl | (exfalso; simp at *; omega)) | (have : 0 ≤ (what).toInt := Int32.le_iff_toInt_le.mp (c87.1); have : (what).toInt ≤ 2 := Int32.le_iff_toInt_le.mp (c87.2); have : (what).toInt ≠ 0 := g_ne (c88); have : (what).toInt = 1 := congrArg Int32.toInt (c89); have : (what).toInt ≠ 0 := g_ne (c105); have : (what).toInt = 1 := congrArg Int32.toInt (c106); have : (what).toInt ≠ 0 := g_ne (c148); have : (what).toInt = 1 := congrArg Int32.toInt (c149); unfold F_shelf; (repeat' split) <;> first | rfl | (exfalso; (try simp only [Int32.le_iff_toInt_le, Int32.lt_iff_toInt_lt, ← Int32.toInt_inj] at *); first | omega | (simp at *; done) | (simp at *; omega))))
                    · exact absurd c148 c88
                  by_cases c150 : shelf = 1
                  · subst c150
                    refine G_iast (pc := 82) (jj := 1) (by decide) rfl (by unfold vp_in; decide) dX12_shelf_82 ?_
                    refine G_aload_n (pc := 83) rfl dX12_shelf_83 ?_
                    refine G_getR (pc := 84) (r := 86) (ci := 12) (j := 32) rfl lk_RX12_65 rfl rfl rfl dX12_shelf_84 ?_
                    refine G_iload_n (pc := 87) rfl dX12_shelf_87 ?_
                    refine G_iload_n (pc := 88) rfl dX12_shelf_88 ?_
                    refine G_if_ne (pc := 89) (tgt := 96) (by decide) dX12_shelf_89 (fun c151 => ?_) (fun c151 => ?_)
                    · refine G_iload_n (pc := 96) rfl dX12_shelf_96 ?_
                      refine G_iconst (pc := 97) (v := 1) (by decide) dX12_shelf_97 ?_
                      refine G_icmp_ne (pc := 98) (tgt := 110) (by decide) dX12_shelf_98 (fun c152 => ?_) (fun c152 => ?_)
                      · exact absurd c89 c152
                      · refine G_aload_n (pc := 101) rfl dX12_shelf_101 ?_
                        refine G_getR (pc := 102) (r := 83) (ci := 12) (j := 29) rfl lk_RX12_56 rfl rfl rfl dX12_shelf_102 ?_
                        refine G_iload_n (pc := 105) rfl dX12_shelf_105 ?_
                        refine G_iald (pc := 106) (jj := 3) (v := 0) (by decide) rfl rfl (by unfold vp_in; decide) dX12_shelf_106 ?_
                        refine G_goto (pc := 107) (tgt := 111) (by decide) dX12_shelf_107 ?_
                        refine G_iast (pc := 111) (jj := 1) (by decide) rfl (by unfold vp_in; decide) dX12_shelf_111 ?_
                        refine G_iconst (pc := 112) (v := 1) (by decide) dX12_shelf_112 ?_
                        exact G_iret (pc := 113) (Nat.le_of_ble_eq_true rfl) (Nat.le_of_ble_eq_true rfl) rfl dX12_shelf_113 (by first | rfl | (simp [F_shelf, *]; done) | (have : 0 ≤ (what).toInt := Int32.le_iff_toInt_le.mp (c87.1); have : (what).toInt ≤ 2 := Int32.le_iff_toInt_le.mp (c87.2); have : (what).toInt ≠ 0 := g_ne (c88); have : (what).toInt = 1 := congrArg Int32.toInt (c89); have : (what).toInt ≠ 0 := g_ne (c105); have : (what).toInt = 1 := congrArg Int32.toInt (c106); have : (what).toInt ≠ 0 := g_ne (c151); have : (what).toInt = 1 := congrArg Int32.toInt (c152); simp only [F_shelf, Int32.le_iff_toInt_le, Int32.lt_iff_toInt_lt, ← Int32.toInt_inj]; simp; omega) | (have : 0 ≤ (what).toInt := Int32.le_iff_toInt_le.mp (c87.1); have : (what).toInt ≤ 2 := Int32.le_iff_toInt_le.mp (c87.2); have : (what).toInt ≠ 0 := g_ne (c88); have : (what).toInt = 1 := congrArg Int32.toInt (c89); have : (what).toInt ≠ 0 := g_ne (c105); have : (what).toInt = 1 := congrArg Int32.toInt (c106); have : (what).toInt ≠ 0 := g_ne (c151); have : (what).toInt = 1 := congrArg Int32.toInt (c152); simp only [F_shelf, Int32.le_iff_toInt_le, Int32.lt_iff_toInt_lt, ← Int32.toInt_inj]; split <;> first | rfl | (exfalso; simp at *; omega)) | (have : 0 ≤ (what).toInt := Int32.le_iff_toInt_le.mp (c87.1); have : (what).toInt ≤ 2 := Int32.le_iff_toInt_le.mp (c87.2); have : (what).toInt ≠ 0 := g_ne (c88); have : (what).toInt = 1 := congrArg Int32.toInt (c89); have : (what).toInt ≠ 0 := g_ne (c105); have : (what).toInt = 1 := congrArg Int32.toInt (c106); have : (what).toInt ≠ 0 := g_ne (c151); have : (what).toInt = 1 := congrArg Int32.toInt (c152); unfold F_shelf; (repeat' split) <;> first | rfl | (exfalso; (try simp only [Int32.le_iff_toInt_le, Int32.lt_iff_toInt_lt, ← Int32.toInt_inj] at *); first | omega | (simp at *; done) | (simp at *; omega))))
                    · exact absurd c151 c88
                  by_cases c153 : shelf = 2
                  · subst c153
                    refine G_iast (pc := 82) (jj := 2) (by decide) rfl (by unfold vp_in; decide) dX12_shelf_82 ?_
                    refine G_aload_n (pc := 83) rfl dX12_shelf_83 ?_
                    refine G_getR (pc := 84) (r := 86) (ci := 12) (j := 32) rfl lk_RX12_65 rfl rfl rfl dX12_shelf_84 ?_
                    refine G_iload_n (pc := 87) rfl dX12_shelf_87 ?_
                    refine G_iload_n (pc := 88) rfl dX12_shelf_88 ?_
                    refine G_if_ne (pc := 89) (tgt := 96) (by decide) dX12_shelf_89 (fun c154 => ?_) (fun c154 => ?_)
                    · refine G_iload_n (pc := 96) rfl dX12_shelf_96 ?_
                      refine G_iconst (pc := 97) (v := 1) (by decide) dX12_shelf_97 ?_
                      refine G_icmp_ne (pc := 98) (tgt := 110) (by decide) dX12_shelf_98 (fun c155 => ?_) (fun c155 => ?_)
                      · exact absurd c89 c155
                      · refine G_aload_n (pc := 101) rfl dX12_shelf_101 ?_
                        refine G_getR (pc := 102) (r := 83) (ci := 12) (j := 29) rfl lk_RX12_56 rfl rfl rfl dX12_shelf_102 ?_
                        refine G_iload_n (pc := 105) rfl dX12_shelf_105 ?_
                        refine G_iald (pc := 106) (jj := 3) (v := 0) (by decide) rfl rfl (by unfold vp_in; decide) dX12_shelf_106 ?_
                        refine G_goto (pc := 107) (tgt := 111) (by decide) dX12_shelf_107 ?_
                        refine G_iast (pc := 111) (jj := 2) (by decide) rfl (by unfold vp_in; decide) dX12_shelf_111 ?_
                        refine G_iconst (pc := 112) (v := 1) (by decide) dX12_shelf_112 ?_
                        exact G_iret (pc := 113) (Nat.le_of_ble_eq_true rfl) (Nat.le_of_ble_eq_true rfl) rfl dX12_shelf_113 (by first | rfl | (simp [F_shelf, *]; done) | (have : 0 ≤ (what).toInt := Int32.le_iff_toInt_le.mp (c87.1); have : (what).toInt ≤ 2 := Int32.le_iff_toInt_le.mp (c87.2); have : (what).toInt ≠ 0 := g_ne (c88); have : (what).toInt = 1 := congrArg Int32.toInt (c89); have : (what).toInt ≠ 0 := g_ne (c105); have : (what).toInt = 1 := congrArg Int32.toInt (c106); have : (what).toInt ≠ 0 := g_ne (c154); have : (what).toInt = 1 := congrArg Int32.toInt (c155); simp only [F_shelf, Int32.le_iff_toInt_le, Int32.lt_iff_toInt_lt, ← Int32.toInt_inj]; simp; omega) | (have : 0 ≤ (what).toInt := Int32.le_iff_toInt_le.mp (c87.1); have : (what).toInt ≤ 2 := Int32.le_iff_toInt_le.mp (c87.2); have : (what).toInt ≠ 0 := g_ne (c88); have : (what).toInt = 1 := congrArg Int32.toInt (c89); have : (what).toInt ≠ 0 := g_ne (c105); have : (what).toInt = 1 := congrArg Int32.toInt (c106); have : (what).toInt ≠ 0 := g_ne (c154); have : (what).toInt = 1 := congrArg Int32.toInt (c155); simp only [F_shelf, Int32.le_iff_toInt_le, Int32.lt_iff_toInt_lt, ← Int32.toInt_inj]; split <;> first | rfl | (exfalso; simp at *; omega)) | (have : 0 ≤ (what).toInt := Int32.le_iff_toInt_le.mp (c87.1); have : (what).toInt ≤ 2 := Int32.le_iff_toInt_le.mp (c87.2); have : (what).toInt ≠ 0 := g_ne (c88); have : (what).toInt = 1 := congrArg Int32.toInt (c89); have : (what).toInt ≠ 0 := g_ne (c105); have : (what).toInt = 1 := congrArg Int32.toInt (c106); have : (what).toInt ≠ 0 := g_ne (c154); have : (what).toInt = 1 := congrArg Int32.toInt (c155); unfold F_shelf; (repeat' split) <;> first | rfl | (exfalso; (try simp only [Int32.le_iff_toInt_le, Int32.lt_iff_toInt_lt, ← Int32.toInt_inj] at *); first | omega | (simp at *; done) | (simp at *; omega))))
                    · exact absurd c154 c88
                  by_cases c156 : shelf = 3
                  · subst c156
                    refine G_iast (pc := 82) (jj := 3) (by decide) rfl (by unfold vp_in; decide) dX12_shelf_82 ?_
                    refine G_aload_n (pc := 83) rfl dX12_shelf_83 ?_
                    refine G_getR (pc := 84) (r := 86) (ci := 12) (j := 32) rfl lk_RX12_65 rfl rfl rfl dX12_shelf_84 ?_
                    refine G_iload_n (pc := 87) rfl dX12_shelf_87 ?_
                    refine G_iload_n (pc := 88) rfl dX12_shelf_88 ?_
                    refine G_if_ne (pc := 89) (tgt := 96) (by decide) dX12_shelf_89 (fun c157 => ?_) (fun c157 => ?_)
                    · refine G_iload_n (pc := 96) rfl dX12_shelf_96 ?_
                      refine G_iconst (pc := 97) (v := 1) (by decide) dX12_shelf_97 ?_
                      refine G_icmp_ne (pc := 98) (tgt := 110) (by decide) dX12_shelf_98 (fun c158 => ?_) (fun c158 => ?_)
                      · exact absurd c89 c158
                      · refine G_aload_n (pc := 101) rfl dX12_shelf_101 ?_
                        refine G_getR (pc := 102) (r := 83) (ci := 12) (j := 29) rfl lk_RX12_56 rfl rfl rfl dX12_shelf_102 ?_
                        refine G_iload_n (pc := 105) rfl dX12_shelf_105 ?_
                        refine G_iald (pc := 106) (jj := 3) (v := 0) (by decide) rfl rfl (by unfold vp_in; decide) dX12_shelf_106 ?_
                        refine G_goto (pc := 107) (tgt := 111) (by decide) dX12_shelf_107 ?_
                        refine G_iast (pc := 111) (jj := 3) (by decide) rfl (by unfold vp_in; decide) dX12_shelf_111 ?_
                        refine G_iconst (pc := 112) (v := 1) (by decide) dX12_shelf_112 ?_
                        exact G_iret (pc := 113) (Nat.le_of_ble_eq_true rfl) (Nat.le_of_ble_eq_true rfl) rfl dX12_shelf_113 (by first | rfl | (simp [F_shelf, *]; done) | (have : 0 ≤ (what).toInt := Int32.le_iff_toInt_le.mp (c87.1); have : (what).toInt ≤ 2 := Int32.le_iff_toInt_le.mp (c87.2); have : (what).toInt ≠ 0 := g_ne (c88); have : (what).toInt = 1 := congrArg Int32.toInt (c89); have : (what).toInt ≠ 0 := g_ne (c105); have : (what).toInt = 1 := congrArg Int32.toInt (c106); have : (what).toInt ≠ 0 := g_ne (c157); have : (what).toInt = 1 := congrArg Int32.toInt (c158); simp only [F_shelf, Int32.le_iff_toInt_le, Int32.lt_iff_toInt_lt, ← Int32.toInt_inj]; simp; omega) | (have : 0 ≤ (what).toInt := Int32.le_iff_toInt_le.mp (c87.1); have : (what).toInt ≤ 2 := Int32.le_iff_toInt_le.mp (c87.2); have : (what).toInt ≠ 0 := g_ne (c88); have : (what).toInt = 1 := congrArg Int32.toInt (c89); have : (what).toInt ≠ 0 := g_ne (c105); have : (what).toInt = 1 := congrArg Int32.toInt (c106); have : (what).toInt ≠ 0 := g_ne (c157); have : (what).toInt = 1 := congrArg Int32.toInt (c158); simp only [F_shelf, Int32.le_iff_toInt_le, Int32.lt_iff_toInt_lt, ← Int32.toInt_inj]; split <;> first | rfl | (exfalso; simp at *; omega)) | (have : 0 ≤ (what).toInt := Int32.le_iff_toInt_le.mp (c87.1); have : (what).toInt ≤ 2 := Int32.le_iff_toInt_le.mp (c87.2); have : (what).toInt ≠ 0 := g_ne (c88); have : (what).toInt = 1 := congrArg Int32.toInt (c89); have : (what).toInt ≠ 0 := g_ne (c105); have : (what).toInt = 1 := congrArg Int32.toInt (c106); have : (what).toInt ≠ 0 := g_ne (c157); have : (what).toInt = 1 := congrArg Int32.toInt (c158); unfold F_shelf; (repeat' split) <;> first | rfl | (exfalso; (try simp only [Int32.le_iff_toInt_le, Int32.lt_iff_toInt_lt, ← Int32.toInt_inj] at *); first | omega | (simp at *; done) | (simp at *; omega))))
                    · exact absurd c157 c88
                  exfalso
                  have : 0 ≤ (shelf).toInt := Int32.le_iff_toInt_le.mp (c86.1)
                  have : (shelf).toInt ≤ 3 := Int32.le_iff_toInt_le.mp (c86.2)
                  have : (shelf).toInt ≠ 0 := g_ne (c147)
                  have : (shelf).toInt ≠ 1 := g_ne (c150)
                  have : (shelf).toInt ≠ 2 := g_ne (c153)
                  have : (shelf).toInt ≠ 3 := g_ne (c156)
                  omega
                exfalso
                have : 0 ≤ (n).toInt := Int32.le_iff_toInt_le.mp (c104.1)
                have : (n).toInt ≤ 3 := Int32.le_iff_toInt_le.mp (c104.2)
                have : (n).toInt ≠ 0 := g_ne (c107)
                have : (n).toInt ≠ 1 := g_ne (c120)
                have : (n).toInt ≠ 2 := g_ne (c133)
                have : (n).toInt ≠ 3 := g_ne (c146)
                omega
            · exact absurd c105 c88
          · have c104 := gB_z c104
            refine G_iconst (pc := 40) (v := (-1)) (by decide) dX12_shelf_40 ?_
            exact G_iret (pc := 41) (Nat.le_of_ble_eq_true rfl) (Nat.le_of_ble_eq_true rfl) rfl dX12_shelf_41 (by first | rfl | (simp [F_shelf, *]; done) | (have : 0 ≤ (shelf).toInt := Int32.le_iff_toInt_le.mp (c86.1); have : (shelf).toInt ≤ 3 := Int32.le_iff_toInt_le.mp (c86.2); have : 0 ≤ (what).toInt := Int32.le_iff_toInt_le.mp (c87.1); have : (what).toInt ≤ 2 := Int32.le_iff_toInt_le.mp (c87.2); have : (what).toInt ≠ 0 := g_ne (c88); have : (what).toInt = 1 := congrArg Int32.toInt (c89); have : ¬ (0 ≤ (n).toInt ∧ (n).toInt ≤ 3) := fun z => c104 ⟨Int32.le_iff_toInt_le.mpr z.1, Int32.le_iff_toInt_le.mpr z.2⟩; simp only [F_shelf, Int32.le_iff_toInt_le, Int32.lt_iff_toInt_lt, ← Int32.toInt_inj]; simp; omega) | (have : 0 ≤ (shelf).toInt := Int32.le_iff_toInt_le.mp (c86.1); have : (shelf).toInt ≤ 3 := Int32.le_iff_toInt_le.mp (c86.2); have : 0 ≤ (what).toInt := Int32.le_iff_toInt_le.mp (c87.1); have : (what).toInt ≤ 2 := Int32.le_iff_toInt_le.mp (c87.2); have : (what).toInt ≠ 0 := g_ne (c88); have : (what).toInt = 1 := congrArg Int32.toInt (c89); have : ¬ (0 ≤ (n).toInt ∧ (n).toInt ≤ 3) := fun z => c104 ⟨Int32.le_iff_toInt_le.mpr z.1, Int32.le_iff_toInt_le.mpr z.2⟩; simp only [F_shelf, Int32.le_iff_toInt_le, Int32.lt_iff_toInt_lt, ← Int32.toInt_inj]; split <;> first | rfl | (exfalso; simp at *; omega)) | (have : 0 ≤ (shelf).toInt := Int32.le_iff_toInt_le.mp (c86.1); have : (shelf).toInt ≤ 3 := Int32.le_iff_toInt_le.mp (c86.2); have : 0 ≤ (what).toInt := Int32.le_iff_toInt_le.mp (c87.1); have : (what).toInt ≤ 2 := Int32.le_iff_toInt_le.mp (c87.2); have : (what).toInt ≠ 0 := g_ne (c88); have : (what).toInt = 1 := congrArg Int32.toInt (c89); have : ¬ (0 ≤ (n).toInt ∧ (n).toInt ≤ 3) := fun z => c104 ⟨Int32.le_iff_toInt_le.mpr z.1, Int32.le_iff_toInt_le.mpr z.2⟩; unfold F_shelf; (repeat' split) <;> first | rfl | (exfalso; (try simp only [Int32.le_iff_toInt_le, Int32.lt_iff_toInt_lt, ← Int32.toInt_inj] at *); first | omega | (simp at *; done) | (simp at *; omega))))
      · refine G_aload_n (pc := 20) rfl dX12_shelf_20 ?_
        refine G_iload_n (pc := 21) rfl dX12_shelf_21 ?_
        refine G_callV (pc := 22) (mc1 := 0) (ms1 := 0) (ci := 12) (mj := mX12_isKey) (vs := [_]) dX12_shelf_22 rfl rfl cm_X12_isKey wh_14 wh_16 wh_17 rfl (Nat.le_of_ble_eq_true rfl) (Nat.le_of_ble_eq_true rfl) (Nat.le_of_ble_eq_true rfl) (Nat.le_of_ble_eq_true rfl) (s10037_X12_isKey J d  _) ?_
        rintro _ _ ⟨rfl, rfl⟩
        dsimp only [Option.toList, List.cons_append, List.nil_append]
        refine G_if_eq (pc := 25) (tgt := 40) (by decide) dX12_shelf_25 (fun c159 => ?_) (fun c159 => ?_)
        · have c159 := gB_z c159
          refine G_iconst (pc := 40) (v := (-1)) (by decide) dX12_shelf_40 ?_
          exact G_iret (pc := 41) (Nat.le_of_ble_eq_true rfl) (Nat.le_of_ble_eq_true rfl) rfl dX12_shelf_41 (by first | rfl | (simp [F_shelf, *]; done) | (have : 0 ≤ (shelf).toInt := Int32.le_iff_toInt_le.mp (c86.1); have : (shelf).toInt ≤ 3 := Int32.le_iff_toInt_le.mp (c86.2); have : 0 ≤ (what).toInt := Int32.le_iff_toInt_le.mp (c87.1); have : (what).toInt ≤ 2 := Int32.le_iff_toInt_le.mp (c87.2); have : (what).toInt = 0 := congrArg Int32.toInt (c88); have : ¬ (0 ≤ (n).toInt ∧ (n).toInt ≤ -1) := fun z => c159 ⟨Int32.le_iff_toInt_le.mpr z.1, Int32.le_iff_toInt_le.mpr z.2⟩; simp only [F_shelf, Int32.le_iff_toInt_le, Int32.lt_iff_toInt_lt, ← Int32.toInt_inj]; simp; omega) | (have : 0 ≤ (shelf).toInt := Int32.le_iff_toInt_le.mp (c86.1); have : (shelf).toInt ≤ 3 := Int32.le_iff_toInt_le.mp (c86.2); have : 0 ≤ (what).toInt := Int32.le_iff_toInt_le.mp (c87.1); have : (what).toInt ≤ 2 := Int32.le_iff_toInt_le.mp (c87.2); have : (what).toInt = 0 := congrArg Int32.toInt (c88); have : ¬ (0 ≤ (n).toInt ∧ (n).toInt ≤ -1) := fun z => c159 ⟨Int32.le_iff_toInt_le.mpr z.1, Int32.le_iff_toInt_le.mpr z.2⟩; simp only [F_shelf, Int32.le_iff_toInt_le, Int32.lt_iff_toInt_lt, ← Int32.toInt_inj]; split <;> first | rfl | (exfalso; simp at *; omega)) | (have : 0 ≤ (shelf).toInt := Int32.le_iff_toInt_le.mp (c86.1); have : (shelf).toInt ≤ 3 := Int32.le_iff_toInt_le.mp (c86.2); have : 0 ≤ (what).toInt := Int32.le_iff_toInt_le.mp (c87.1); have : (what).toInt ≤ 2 := Int32.le_iff_toInt_le.mp (c87.2); have : (what).toInt = 0 := congrArg Int32.toInt (c88); have : ¬ (0 ≤ (n).toInt ∧ (n).toInt ≤ -1) := fun z => c159 ⟨Int32.le_iff_toInt_le.mpr z.1, Int32.le_iff_toInt_le.mpr z.2⟩; unfold F_shelf; (repeat' split) <;> first | rfl | (exfalso; (try simp only [Int32.le_iff_toInt_le, Int32.lt_iff_toInt_lt, ← Int32.toInt_inj] at *); first | omega | (simp at *; done) | (simp at *; omega))))
        · have c159 := gB_o c159
          exfalso; have : 0 ≤ (n).toInt := Int32.le_iff_toInt_le.mp (c159.1); have : (n).toInt ≤ -1 := Int32.le_iff_toInt_le.mp (c159.2); omega
set_option maxRecDepth 100000 in
set_option maxHeartbeats 4000000 in
theorem s10039_X12_heldOn (J : gI) (d : Nat)   : G (d) mX12_heldOn 0 0 0 0 0 (gent 2 [.ref 67, .int 0]) [] SH0 RF0 (gmx J) (fun r h => r = some (.int (-1)) ∧ h = (SH0, RF0, (gmx J))) := by
  refine G_aload_n (pc := 0) rfl dX12_heldOn_0 ?_
  refine G_getR (pc := 1) (r := 85) (ci := 12) (j := 31) rfl lk_RX12_62 rfl rfl rfl dX12_heldOn_1 ?_
  refine G_iload_n (pc := 4) rfl dX12_heldOn_4 ?_
  refine G_iald (pc := 5) (jj := 0) (v := (-1)) (by decide) rfl rfl (by unfold vp_in; decide) dX12_heldOn_5 ?_
  refine G_if_ne (pc := 6) (tgt := 26) (by decide) dX12_heldOn_6 (fun _ => ?_) (fun z => absurd z (by decide))
  refine G_aload_n (pc := 26) rfl dX12_heldOn_26 ?_
  refine G_getR (pc := 27) (r := 85) (ci := 12) (j := 31) rfl lk_RX12_62 rfl rfl rfl dX12_heldOn_27 ?_
  refine G_iload_n (pc := 30) rfl dX12_heldOn_30 ?_
  refine G_iald (pc := 31) (jj := 0) (v := (-1)) (by decide) rfl rfl (by unfold vp_in; decide) dX12_heldOn_31 ?_
  exact G_iret (pc := 32) (Nat.le_of_ble_eq_true rfl) (Nat.le_of_ble_eq_true rfl) rfl dX12_heldOn_32 ⟨rfl, rfl⟩
set_option maxRecDepth 100000 in
set_option maxHeartbeats 4000000 in
theorem s10040_X12_heldOn (J : gI) (d : Nat)   : G (d) mX12_heldOn 0 0 0 0 0 (gent 2 [.ref 67, .int 1]) [] SH0 RF0 (gmx J) (fun r h => r = some (.int (-1)) ∧ h = (SH0, RF0, (gmx J))) := by
  refine G_aload_n (pc := 0) rfl dX12_heldOn_0 ?_
  refine G_getR (pc := 1) (r := 85) (ci := 12) (j := 31) rfl lk_RX12_62 rfl rfl rfl dX12_heldOn_1 ?_
  refine G_iload_n (pc := 4) rfl dX12_heldOn_4 ?_
  refine G_iald (pc := 5) (jj := 1) (v := (-1)) (by decide) rfl rfl (by unfold vp_in; decide) dX12_heldOn_5 ?_
  refine G_if_ne (pc := 6) (tgt := 26) (by decide) dX12_heldOn_6 (fun _ => ?_) (fun z => absurd z (by decide))
  refine G_aload_n (pc := 26) rfl dX12_heldOn_26 ?_
  refine G_getR (pc := 27) (r := 85) (ci := 12) (j := 31) rfl lk_RX12_62 rfl rfl rfl dX12_heldOn_27 ?_
  refine G_iload_n (pc := 30) rfl dX12_heldOn_30 ?_
  refine G_iald (pc := 31) (jj := 1) (v := (-1)) (by decide) rfl rfl (by unfold vp_in; decide) dX12_heldOn_31 ?_
  exact G_iret (pc := 32) (Nat.le_of_ble_eq_true rfl) (Nat.le_of_ble_eq_true rfl) rfl dX12_heldOn_32 ⟨rfl, rfl⟩
set_option maxRecDepth 100000 in
set_option maxHeartbeats 4000000 in
theorem s10041_X12_heldOn (J : gI) (d : Nat)   : G (d) mX12_heldOn 0 0 0 0 0 (gent 2 [.ref 67, .int 2]) [] SH0 RF0 (gmx J) (fun r h => r = some (.int (-1)) ∧ h = (SH0, RF0, (gmx J))) := by
  refine G_aload_n (pc := 0) rfl dX12_heldOn_0 ?_
  refine G_getR (pc := 1) (r := 85) (ci := 12) (j := 31) rfl lk_RX12_62 rfl rfl rfl dX12_heldOn_1 ?_
  refine G_iload_n (pc := 4) rfl dX12_heldOn_4 ?_
  refine G_iald (pc := 5) (jj := 2) (v := (-1)) (by decide) rfl rfl (by unfold vp_in; decide) dX12_heldOn_5 ?_
  refine G_if_ne (pc := 6) (tgt := 26) (by decide) dX12_heldOn_6 (fun _ => ?_) (fun z => absurd z (by decide))
  refine G_aload_n (pc := 26) rfl dX12_heldOn_26 ?_
  refine G_getR (pc := 27) (r := 85) (ci := 12) (j := 31) rfl lk_RX12_62 rfl rfl rfl dX12_heldOn_27 ?_
  refine G_iload_n (pc := 30) rfl dX12_heldOn_30 ?_
  refine G_iald (pc := 31) (jj := 2) (v := (-1)) (by decide) rfl rfl (by unfold vp_in; decide) dX12_heldOn_31 ?_
  exact G_iret (pc := 32) (Nat.le_of_ble_eq_true rfl) (Nat.le_of_ble_eq_true rfl) rfl dX12_heldOn_32 ⟨rfl, rfl⟩
set_option maxRecDepth 100000 in
set_option maxHeartbeats 4000000 in
theorem s10042_X12_heldOn (J : gI) (d : Nat)   : G (d) mX12_heldOn 0 0 0 0 0 (gent 2 [.ref 67, .int 3]) [] SH0 RF0 (gmx J) (fun r h => r = some (.int (-1)) ∧ h = (SH0, RF0, (gmx J))) := by
  refine G_aload_n (pc := 0) rfl dX12_heldOn_0 ?_
  refine G_getR (pc := 1) (r := 85) (ci := 12) (j := 31) rfl lk_RX12_62 rfl rfl rfl dX12_heldOn_1 ?_
  refine G_iload_n (pc := 4) rfl dX12_heldOn_4 ?_
  refine G_iald (pc := 5) (jj := 3) (v := (-1)) (by decide) rfl rfl (by unfold vp_in; decide) dX12_heldOn_5 ?_
  refine G_if_ne (pc := 6) (tgt := 26) (by decide) dX12_heldOn_6 (fun _ => ?_) (fun z => absurd z (by decide))
  refine G_aload_n (pc := 26) rfl dX12_heldOn_26 ?_
  refine G_getR (pc := 27) (r := 85) (ci := 12) (j := 31) rfl lk_RX12_62 rfl rfl rfl dX12_heldOn_27 ?_
  refine G_iload_n (pc := 30) rfl dX12_heldOn_30 ?_
  refine G_iald (pc := 31) (jj := 3) (v := (-1)) (by decide) rfl rfl (by unfold vp_in; decide) dX12_heldOn_31 ?_
  exact G_iret (pc := 32) (Nat.le_of_ble_eq_true rfl) (Nat.le_of_ble_eq_true rfl) rfl dX12_heldOn_32 ⟨rfl, rfl⟩
set_option maxRecDepth 100000 in
set_option maxHeartbeats 4000000 in
theorem z_taken (J : gI) (d : Nat) (shelf : Int32) (as1 : Int32) : G (d + 2) mX12_taken 0 0 0 0 0 (gent 5 [.ref 67, .int shelf, .int as1]) [] SH0 RF0 (gmx J) (fun r _ => r = some (.int (F_taken shelf as1))) := by
  refine G_iload_n (pc := 0) rfl dX12_taken_0 ?_
  refine G_callS (pc := 1) (mc1 := 0) (ms1 := 0) (mj := mX12_isSheet) (vs := [_]) dX12_taken_1 cm_X12_isSheet wh_46 wh_48 rfl (Nat.le_of_ble_eq_true rfl) (Nat.le_of_ble_eq_true rfl) (Nat.le_of_ble_eq_true rfl) (Nat.le_of_ble_eq_true rfl) (s10035_X12_isSheet J d  _) ?_
  rintro _ _ ⟨rfl, rfl⟩
  dsimp only [Option.toList, List.cons_append, List.nil_append]
  refine G_if_eq (pc := 4) (tgt := 27) (by decide) dX12_taken_4 (fun c160 => ?_) (fun c160 => ?_)
  · have c160 := gB_z c160
    refine G_iconst (pc := 27) (v := (-1)) (by decide) dX12_taken_27 ?_
    exact G_iret (pc := 28) (Nat.le_of_ble_eq_true rfl) (Nat.le_of_ble_eq_true rfl) rfl dX12_taken_28 (by first | rfl | (simp [F_taken, *]; done) | (have : ¬ (0 ≤ (shelf).toInt ∧ (shelf).toInt ≤ 3) := fun z => c160 ⟨Int32.le_iff_toInt_le.mpr z.1, Int32.le_iff_toInt_le.mpr z.2⟩; simp only [F_taken, Int32.le_iff_toInt_le, Int32.lt_iff_toInt_lt, ← Int32.toInt_inj]; simp; omega) | (have : ¬ (0 ≤ (shelf).toInt ∧ (shelf).toInt ≤ 3) := fun z => c160 ⟨Int32.le_iff_toInt_le.mpr z.1, Int32.le_iff_toInt_le.mpr z.2⟩; simp only [F_taken, Int32.le_iff_toInt_le, Int32.lt_iff_toInt_lt, ← Int32.toInt_inj]; split <;> first | rfl | (exfalso; simp at *; omega)) | (have : ¬ (0 ≤ (shelf).toInt ∧ (shelf).toInt ≤ 3) := fun z => c160 ⟨Int32.le_iff_toInt_le.mpr z.1, Int32.le_iff_toInt_le.mpr z.2⟩; unfold F_taken; (repeat' split) <;> first | rfl | (exfalso; (try simp only [Int32.le_iff_toInt_le, Int32.lt_iff_toInt_lt, ← Int32.toInt_inj] at *); first | omega | (simp at *; done) | (simp at *; omega))))
  · have c160 := gB_o c160
    refine G_iload_n (pc := 7) rfl dX12_taken_7 ?_
    refine G_iconst (pc := 8) (v := 0) (by decide) dX12_taken_8 ?_
    refine G_iconst (pc := 9) (v := 5) (by decide) dX12_taken_9 ?_
    refine G_callS (pc := 10) (mc1 := 0) (ms1 := 0) (mj := mX12_in1) (vs := [_, _, _]) dX12_taken_10 cm_X12_in1 wh_0 wh_3 rfl (Nat.le_of_ble_eq_true rfl) (Nat.le_of_ble_eq_true rfl) (Nat.le_of_ble_eq_true rfl) (Nat.le_of_ble_eq_true rfl) (in1_s (d + 1) as1 0 5) ?_
    rintro _ _ ⟨rfl, rfl⟩
    dsimp only [Option.toList, List.cons_append, List.nil_append]
    refine G_if_ne (pc := 13) (tgt := 29) (by decide) dX12_taken_13 (fun c161 => ?_) (fun c161 => ?_)
    · have c161 := gB_o c161
      refine G_aload_n (pc := 29) rfl dX12_taken_29 ?_
      refine G_iload_n (pc := 30) rfl dX12_taken_30 ?_
      by_cases c162 : shelf = 0
      · subst c162
        refine G_callV (pc := 31) (mc1 := 0) (ms1 := 0) (ci := 12) (mj := mX12_heldOn) (vs := [_]) dX12_taken_31 rfl rfl cm_X12_heldOn wh_61 wh_63 wh_64 rfl (Nat.le_of_ble_eq_true rfl) (Nat.le_of_ble_eq_true rfl) (Nat.le_of_ble_eq_true rfl) (Nat.le_of_ble_eq_true rfl) (s10039_X12_heldOn J (d + 1)  ) ?_
        rintro _ _ ⟨rfl, rfl⟩
        dsimp only [Option.toList, List.cons_append, List.nil_append]
        refine G_istore_n (pc := 34) (L1 := [some (.ref 67), some (.int 0), some (.int as1), some (.int (-1)), none]) rfl rfl (by decide) dX12_taken_34 ?_
        refine G_iload_n (pc := 35) rfl dX12_taken_35 ?_
        refine G_if_ge (pc := 36) (tgt := 42) (by decide) dX12_taken_36 (fun z => absurd z (by decide)) (fun _ => ?_)
        refine G_bipush (pc := 39) (v := (-11)) (by decide) dX12_taken_39 ?_
        exact G_iret (pc := 41) (Nat.le_of_ble_eq_true rfl) (Nat.le_of_ble_eq_true rfl) rfl dX12_taken_41 (by first | rfl | (simp [F_taken, *]; done) | (have : 0 ≤ (as1).toInt := Int32.le_iff_toInt_le.mp (c161.1); have : (as1).toInt ≤ 5 := Int32.le_iff_toInt_le.mp (c161.2); simp only [F_taken, Int32.le_iff_toInt_le, Int32.lt_iff_toInt_lt, ← Int32.toInt_inj]; simp; omega) | (have : 0 ≤ (as1).toInt := Int32.le_iff_toInt_le.mp (c161.1); have : (as1).toInt ≤ 5 := Int32.le_iff_toInt_le.mp (c161.2); simp only [F_taken, Int32.le_iff_toInt_le, Int32.lt_iff_toInt_lt, ← Int32.toInt_inj]; split <;> first | rfl | (exfalso; simp at *; omega)) | (have : 0 ≤ (as1).toInt := Int32.le_iff_toInt_le.mp (c161.1); have : (as1).toInt ≤ 5 := Int32.le_iff_toInt_le.mp (c161.2); unfold F_taken; (repeat' split) <;> first | rfl | (exfalso; (try simp only [Int32.le_iff_toInt_le, Int32.lt_iff_toInt_lt, ← Int32.toInt_inj] at *); first | omega | (simp at *; done) | (simp at *; omega))))
      by_cases c163 : shelf = 1
      · subst c163
        refine G_callV (pc := 31) (mc1 := 0) (ms1 := 0) (ci := 12) (mj := mX12_heldOn) (vs := [_]) dX12_taken_31 rfl rfl cm_X12_heldOn wh_61 wh_63 wh_64 rfl (Nat.le_of_ble_eq_true rfl) (Nat.le_of_ble_eq_true rfl) (Nat.le_of_ble_eq_true rfl) (Nat.le_of_ble_eq_true rfl) (s10040_X12_heldOn J (d + 1)  ) ?_
        rintro _ _ ⟨rfl, rfl⟩
        dsimp only [Option.toList, List.cons_append, List.nil_append]
        refine G_istore_n (pc := 34) (L1 := [some (.ref 67), some (.int 1), some (.int as1), some (.int (-1)), none]) rfl rfl (by decide) dX12_taken_34 ?_
        refine G_iload_n (pc := 35) rfl dX12_taken_35 ?_
        refine G_if_ge (pc := 36) (tgt := 42) (by decide) dX12_taken_36 (fun z => absurd z (by decide)) (fun _ => ?_)
        refine G_bipush (pc := 39) (v := (-11)) (by decide) dX12_taken_39 ?_
        exact G_iret (pc := 41) (Nat.le_of_ble_eq_true rfl) (Nat.le_of_ble_eq_true rfl) rfl dX12_taken_41 (by first | rfl | (simp [F_taken, *]; done) | (have : 0 ≤ (as1).toInt := Int32.le_iff_toInt_le.mp (c161.1); have : (as1).toInt ≤ 5 := Int32.le_iff_toInt_le.mp (c161.2); simp only [F_taken, Int32.le_iff_toInt_le, Int32.lt_iff_toInt_lt, ← Int32.toInt_inj]; simp; omega) | (have : 0 ≤ (as1).toInt := Int32.le_iff_toInt_le.mp (c161.1); have : (as1).toInt ≤ 5 := Int32.le_iff_toInt_le.mp (c161.2); simp only [F_taken, Int32.le_iff_toInt_le, Int32.lt_iff_toInt_lt, ← Int32.toInt_inj]; split <;> first | rfl | (exfalso; simp at *; omega)) | (have : 0 ≤ (as1).toInt := Int32.le_iff_toInt_le.mp (c161.1); have : (as1).toInt ≤ 5 := Int32.le_iff_toInt_le.mp (c161.2); unfold F_taken; (repeat' split) <;> first | rfl | (exfalso; (try simp only [Int32.le_iff_toInt_le, Int32.lt_iff_toInt_lt, ← Int32.toInt_inj] at *); first | omega | (simp at *; done) | (simp at *; omega))))
      by_cases c164 : shelf = 2
      · subst c164
        refine G_callV (pc := 31) (mc1 := 0) (ms1 := 0) (ci := 12) (mj := mX12_heldOn) (vs := [_]) dX12_taken_31 rfl rfl cm_X12_heldOn wh_61 wh_63 wh_64 rfl (Nat.le_of_ble_eq_true rfl) (Nat.le_of_ble_eq_true rfl) (Nat.le_of_ble_eq_true rfl) (Nat.le_of_ble_eq_true rfl) (s10041_X12_heldOn J (d + 1)  ) ?_
        rintro _ _ ⟨rfl, rfl⟩
        dsimp only [Option.toList, List.cons_append, List.nil_append]
        refine G_istore_n (pc := 34) (L1 := [some (.ref 67), some (.int 2), some (.int as1), some (.int (-1)), none]) rfl rfl (by decide) dX12_taken_34 ?_
        refine G_iload_n (pc := 35) rfl dX12_taken_35 ?_
        refine G_if_ge (pc := 36) (tgt := 42) (by decide) dX12_taken_36 (fun z => absurd z (by decide)) (fun _ => ?_)
        refine G_bipush (pc := 39) (v := (-11)) (by decide) dX12_taken_39 ?_
        exact G_iret (pc := 41) (Nat.le_of_ble_eq_true rfl) (Nat.le_of_ble_eq_true rfl) rfl dX12_taken_41 (by first | rfl | (simp [F_taken, *]; done) | (have : 0 ≤ (as1).toInt := Int32.le_iff_toInt_le.mp (c161.1); have : (as1).toInt ≤ 5 := Int32.le_iff_toInt_le.mp (c161.2); simp only [F_taken, Int32.le_iff_toInt_le, Int32.lt_iff_toInt_lt, ← Int32.toInt_inj]; simp; omega) | (have : 0 ≤ (as1).toInt := Int32.le_iff_toInt_le.mp (c161.1); have : (as1).toInt ≤ 5 := Int32.le_iff_toInt_le.mp (c161.2); simp only [F_taken, Int32.le_iff_toInt_le, Int32.lt_iff_toInt_lt, ← Int32.toInt_inj]; split <;> first | rfl | (exfalso; simp at *; omega)) | (have : 0 ≤ (as1).toInt := Int32.le_iff_toInt_le.mp (c161.1); have : (as1).toInt ≤ 5 := Int32.le_iff_toInt_le.mp (c161.2); unfold F_taken; (repeat' split) <;> first | rfl | (exfalso; (try simp only [Int32.le_iff_toInt_le, Int32.lt_iff_toInt_lt, ← Int32.toInt_inj] at *); first | omega | (simp at *; done) | (simp at *; omega))))
      by_cases c165 : shelf = 3
      · subst c165
        refine G_callV (pc := 31) (mc1 := 0) (ms1 := 0) (ci := 12) (mj := mX12_heldOn) (vs := [_]) dX12_taken_31 rfl rfl cm_X12_heldOn wh_61 wh_63 wh_64 rfl (Nat.le_of_ble_eq_true rfl) (Nat.le_of_ble_eq_true rfl) (Nat.le_of_ble_eq_true rfl) (Nat.le_of_ble_eq_true rfl) (s10042_X12_heldOn J (d + 1)  ) ?_
        rintro _ _ ⟨rfl, rfl⟩
        dsimp only [Option.toList, List.cons_append, List.nil_append]
        refine G_istore_n (pc := 34) (L1 := [some (.ref 67), some (.int 3), some (.int as1), some (.int (-1)), none]) rfl rfl (by decide) dX12_taken_34 ?_
        refine G_iload_n (pc := 35) rfl dX12_taken_35 ?_
        refine G_if_ge (pc := 36) (tgt := 42) (by decide) dX12_taken_36 (fun z => absurd z (by decide)) (fun _ => ?_)
        refine G_bipush (pc := 39) (v := (-11)) (by decide) dX12_taken_39 ?_
        exact G_iret (pc := 41) (Nat.le_of_ble_eq_true rfl) (Nat.le_of_ble_eq_true rfl) rfl dX12_taken_41 (by first | rfl | (simp [F_taken, *]; done) | (have : 0 ≤ (as1).toInt := Int32.le_iff_toInt_le.mp (c161.1); have : (as1).toInt ≤ 5 := Int32.le_iff_toInt_le.mp (c161.2); simp only [F_taken, Int32.le_iff_toInt_le, Int32.lt_iff_toInt_lt, ← Int32.toInt_inj]; simp; omega) | (have : 0 ≤ (as1).toInt := Int32.le_iff_toInt_le.mp (c161.1); have : (as1).toInt ≤ 5 := Int32.le_iff_toInt_le.mp (c161.2); simp only [F_taken, Int32.le_iff_toInt_le, Int32.lt_iff_toInt_lt, ← Int32.toInt_inj]; split <;> first | rfl | (exfalso; simp at *; omega)) | (have : 0 ≤ (as1).toInt := Int32.le_iff_toInt_le.mp (c161.1); have : (as1).toInt ≤ 5 := Int32.le_iff_toInt_le.mp (c161.2); unfold F_taken; (repeat' split) <;> first | rfl | (exfalso; (try simp only [Int32.le_iff_toInt_le, Int32.lt_iff_toInt_lt, ← Int32.toInt_inj] at *); first | omega | (simp at *; done) | (simp at *; omega))))
      exfalso
      have : 0 ≤ (shelf).toInt := Int32.le_iff_toInt_le.mp (c160.1)
      have : (shelf).toInt ≤ 3 := Int32.le_iff_toInt_le.mp (c160.2)
      have : (shelf).toInt ≠ 0 := g_ne (c162)
      have : (shelf).toInt ≠ 1 := g_ne (c163)
      have : (shelf).toInt ≠ 2 := g_ne (c164)
      have : (shelf).toInt ≠ 3 := g_ne (c165)
      omega
    · have c161 := gB_z c161
      refine G_iload_n (pc := 16) rfl dX12_taken_16 ?_
      refine G_bipush (pc := 17) (v := 10) (by decide) dX12_taken_17 ?_
      refine G_bipush (pc := 19) (v := 14) (by decide) dX12_taken_19 ?_
      refine G_callS (pc := 21) (mc1 := 0) (ms1 := 0) (mj := mX12_in1) (vs := [_, _, _]) dX12_taken_21 cm_X12_in1 wh_0 wh_3 rfl (Nat.le_of_ble_eq_true rfl) (Nat.le_of_ble_eq_true rfl) (Nat.le_of_ble_eq_true rfl) (Nat.le_of_ble_eq_true rfl) (in1_s (d + 1) as1 10 14) ?_
      rintro _ _ ⟨rfl, rfl⟩
      dsimp only [Option.toList, List.cons_append, List.nil_append]
      refine G_if_ne (pc := 24) (tgt := 29) (by decide) dX12_taken_24 (fun c166 => ?_) (fun c166 => ?_)
      · have c166 := gB_o c166
        refine G_aload_n (pc := 29) rfl dX12_taken_29 ?_
        refine G_iload_n (pc := 30) rfl dX12_taken_30 ?_
        by_cases c167 : shelf = 0
        · subst c167
          refine G_callV (pc := 31) (mc1 := 0) (ms1 := 0) (ci := 12) (mj := mX12_heldOn) (vs := [_]) dX12_taken_31 rfl rfl cm_X12_heldOn wh_61 wh_63 wh_64 rfl (Nat.le_of_ble_eq_true rfl) (Nat.le_of_ble_eq_true rfl) (Nat.le_of_ble_eq_true rfl) (Nat.le_of_ble_eq_true rfl) (s10039_X12_heldOn J (d + 1)  ) ?_
          rintro _ _ ⟨rfl, rfl⟩
          dsimp only [Option.toList, List.cons_append, List.nil_append]
          refine G_istore_n (pc := 34) (L1 := [some (.ref 67), some (.int 0), some (.int as1), some (.int (-1)), none]) rfl rfl (by decide) dX12_taken_34 ?_
          refine G_iload_n (pc := 35) rfl dX12_taken_35 ?_
          refine G_if_ge (pc := 36) (tgt := 42) (by decide) dX12_taken_36 (fun z => absurd z (by decide)) (fun _ => ?_)
          refine G_bipush (pc := 39) (v := (-11)) (by decide) dX12_taken_39 ?_
          exact G_iret (pc := 41) (Nat.le_of_ble_eq_true rfl) (Nat.le_of_ble_eq_true rfl) rfl dX12_taken_41 (by first | rfl | (simp [F_taken, *]; done) | (have : ¬ (0 ≤ (as1).toInt ∧ (as1).toInt ≤ 5) := fun z => c161 ⟨Int32.le_iff_toInt_le.mpr z.1, Int32.le_iff_toInt_le.mpr z.2⟩; have : 10 ≤ (as1).toInt := Int32.le_iff_toInt_le.mp (c166.1); have : (as1).toInt ≤ 14 := Int32.le_iff_toInt_le.mp (c166.2); simp only [F_taken, Int32.le_iff_toInt_le, Int32.lt_iff_toInt_lt, ← Int32.toInt_inj]; simp; omega) | (have : ¬ (0 ≤ (as1).toInt ∧ (as1).toInt ≤ 5) := fun z => c161 ⟨Int32.le_iff_toInt_le.mpr z.1, Int32.le_iff_toInt_le.mpr z.2⟩; have : 10 ≤ (as1).toInt := Int32.le_iff_toInt_le.mp (c166.1); have : (as1).toInt ≤ 14 := Int32.le_iff_toInt_le.mp (c166.2); simp only [F_taken, Int32.le_iff_toInt_le, Int32.lt_iff_toInt_lt, ← Int32.toInt_inj]; split <;> first | rfl | (exfalso; simp at *; omega)) | (have : ¬ (0 ≤ (as1).toInt ∧ (as1).toInt ≤ 5) := fun z => c161 ⟨Int32.le_iff_toInt_le.mpr z.1, Int32.le_iff_toInt_le.mpr z.2⟩; have : 10 ≤ (as1).toInt := Int32.le_iff_toInt_le.mp (c166.1); have : (as1).toInt ≤ 14 := Int32.le_iff_toInt_le.mp (c166.2); unfold F_taken; (repeat' split) <;> first | rfl | (exfalso; (try simp only [Int32.le_iff_toInt_le, Int32.lt_iff_toInt_lt, ← Int32.toInt_inj] at *); first | omega | (simp at *; done) | (simp at *; omega))))
        by_cases c168 : shelf = 1
        · subst c168
          refine G_callV (pc := 31) (mc1 := 0) (ms1 := 0) (ci := 12) (mj := mX12_heldOn) (vs := [_]) dX12_taken_31 rfl rfl cm_X12_heldOn wh_61 wh_63 wh_64 rfl (Nat.le_of_ble_eq_true rfl) (Nat.le_of_ble_eq_true rfl) (Nat.le_of_ble_eq_true rfl) (Nat.le_of_ble_eq_true rfl) (s10040_X12_heldOn J (d + 1)  ) ?_
          rintro _ _ ⟨rfl, rfl⟩
          dsimp only [Option.toList, List.cons_append, List.nil_append]
          refine G_istore_n (pc := 34) (L1 := [some (.ref 67), some (.int 1), some (.int as1), some (.int (-1)), none]) rfl rfl (by decide) dX12_taken_34 ?_
          refine G_iload_n (pc := 35) rfl dX12_taken_35 ?_
          refine G_if_ge (pc := 36) (tgt := 42) (by decide) dX12_taken_36 (fun z => absurd z (by decide)) (fun _ => ?_)
          refine G_bipush (pc := 39) (v := (-11)) (by decide) dX12_taken_39 ?_
          exact G_iret (pc := 41) (Nat.le_of_ble_eq_true rfl) (Nat.le_of_ble_eq_true rfl) rfl dX12_taken_41 (by first | rfl | (simp [F_taken, *]; done) | (have : ¬ (0 ≤ (as1).toInt ∧ (as1).toInt ≤ 5) := fun z => c161 ⟨Int32.le_iff_toInt_le.mpr z.1, Int32.le_iff_toInt_le.mpr z.2⟩; have : 10 ≤ (as1).toInt := Int32.le_iff_toInt_le.mp (c166.1); have : (as1).toInt ≤ 14 := Int32.le_iff_toInt_le.mp (c166.2); simp only [F_taken, Int32.le_iff_toInt_le, Int32.lt_iff_toInt_lt, ← Int32.toInt_inj]; simp; omega) | (have : ¬ (0 ≤ (as1).toInt ∧ (as1).toInt ≤ 5) := fun z => c161 ⟨Int32.le_iff_toInt_le.mpr z.1, Int32.le_iff_toInt_le.mpr z.2⟩; have : 10 ≤ (as1).toInt := Int32.le_iff_toInt_le.mp (c166.1); have : (as1).toInt ≤ 14 := Int32.le_iff_toInt_le.mp (c166.2); simp only [F_taken, Int32.le_iff_toInt_le, Int32.lt_iff_toInt_lt, ← Int32.toInt_inj]; split <;> first | rfl | (exfalso; simp at *; omega)) | (have : ¬ (0 ≤ (as1).toInt ∧ (as1).toInt ≤ 5) := fun z => c161 ⟨Int32.le_iff_toInt_le.mpr z.1, Int32.le_iff_toInt_le.mpr z.2⟩; have : 10 ≤ (as1).toInt := Int32.le_iff_toInt_le.mp (c166.1); have : (as1).toInt ≤ 14 := Int32.le_iff_toInt_le.mp (c166.2); unfold F_taken; (repeat' split) <;> first | rfl | (exfalso; (try simp only [Int32.le_iff_toInt_le, Int32.lt_iff_toInt_lt, ← Int32.toInt_inj] at *); first | omega | (simp at *; done) | (simp at *; omega))))
        by_cases c169 : shelf = 2
        · subst c169
          refine G_callV (pc := 31) (mc1 := 0) (ms1 := 0) (ci := 12) (mj := mX12_heldOn) (vs := [_]) dX12_taken_31 rfl rfl cm_X12_heldOn wh_61 wh_63 wh_64 rfl (Nat.le_of_ble_eq_true rfl) (Nat.le_of_ble_eq_true rfl) (Nat.le_of_ble_eq_true rfl) (Nat.le_of_ble_eq_true rfl) (s10041_X12_heldOn J (d + 1)  ) ?_
          rintro _ _ ⟨rfl, rfl⟩
          dsimp only [Option.toList, List.cons_append, List.nil_append]
          refine G_istore_n (pc := 34) (L1 := [some (.ref 67), some (.int 2), some (.int as1), some (.int (-1)), none]) rfl rfl (by decide) dX12_taken_34 ?_
          refine G_iload_n (pc := 35) rfl dX12_taken_35 ?_
          refine G_if_ge (pc := 36) (tgt := 42) (by decide) dX12_taken_36 (fun z => absurd z (by decide)) (fun _ => ?_)
          refine G_bipush (pc := 39) (v := (-11)) (by decide) dX12_taken_39 ?_
          exact G_iret (pc := 41) (Nat.le_of_ble_eq_true rfl) (Nat.le_of_ble_eq_true rfl) rfl dX12_taken_41 (by first | rfl | (simp [F_taken, *]; done) | (have : ¬ (0 ≤ (as1).toInt ∧ (as1).toInt ≤ 5) := fun z => c161 ⟨Int32.le_iff_toInt_le.mpr z.1, Int32.le_iff_toInt_le.mpr z.2⟩; have : 10 ≤ (as1).toInt := Int32.le_iff_toInt_le.mp (c166.1); have : (as1).toInt ≤ 14 := Int32.le_iff_toInt_le.mp (c166.2); simp only [F_taken, Int32.le_iff_toInt_le, Int32.lt_iff_toInt_lt, ← Int32.toInt_inj]; simp; omega) | (have : ¬ (0 ≤ (as1).toInt ∧ (as1).toInt ≤ 5) := fun z => c161 ⟨Int32.le_iff_toInt_le.mpr z.1, Int32.le_iff_toInt_le.mpr z.2⟩; have : 10 ≤ (as1).toInt := Int32.le_iff_toInt_le.mp (c166.1); have : (as1).toInt ≤ 14 := Int32.le_iff_toInt_le.mp (c166.2); simp only [F_taken, Int32.le_iff_toInt_le, Int32.lt_iff_toInt_lt, ← Int32.toInt_inj]; split <;> first | rfl | (exfalso; simp at *; omega)) | (have : ¬ (0 ≤ (as1).toInt ∧ (as1).toInt ≤ 5) := fun z => c161 ⟨Int32.le_iff_toInt_le.mpr z.1, Int32.le_iff_toInt_le.mpr z.2⟩; have : 10 ≤ (as1).toInt := Int32.le_iff_toInt_le.mp (c166.1); have : (as1).toInt ≤ 14 := Int32.le_iff_toInt_le.mp (c166.2); unfold F_taken; (repeat' split) <;> first | rfl | (exfalso; (try simp only [Int32.le_iff_toInt_le, Int32.lt_iff_toInt_lt, ← Int32.toInt_inj] at *); first | omega | (simp at *; done) | (simp at *; omega))))
        by_cases c170 : shelf = 3
        · subst c170
          refine G_callV (pc := 31) (mc1 := 0) (ms1 := 0) (ci := 12) (mj := mX12_heldOn) (vs := [_]) dX12_taken_31 rfl rfl cm_X12_heldOn wh_61 wh_63 wh_64 rfl (Nat.le_of_ble_eq_true rfl) (Nat.le_of_ble_eq_true rfl) (Nat.le_of_ble_eq_true rfl) (Nat.le_of_ble_eq_true rfl) (s10042_X12_heldOn J (d + 1)  ) ?_
          rintro _ _ ⟨rfl, rfl⟩
          dsimp only [Option.toList, List.cons_append, List.nil_append]
          refine G_istore_n (pc := 34) (L1 := [some (.ref 67), some (.int 3), some (.int as1), some (.int (-1)), none]) rfl rfl (by decide) dX12_taken_34 ?_
          refine G_iload_n (pc := 35) rfl dX12_taken_35 ?_
          refine G_if_ge (pc := 36) (tgt := 42) (by decide) dX12_taken_36 (fun z => absurd z (by decide)) (fun _ => ?_)
          refine G_bipush (pc := 39) (v := (-11)) (by decide) dX12_taken_39 ?_
          exact G_iret (pc := 41) (Nat.le_of_ble_eq_true rfl) (Nat.le_of_ble_eq_true rfl) rfl dX12_taken_41 (by first | rfl | (simp [F_taken, *]; done) | (have : ¬ (0 ≤ (as1).toInt ∧ (as1).toInt ≤ 5) := fun z => c161 ⟨Int32.le_iff_toInt_le.mpr z.1, Int32.le_iff_toInt_le.mpr z.2⟩; have : 10 ≤ (as1).toInt := Int32.le_iff_toInt_le.mp (c166.1); have : (as1).toInt ≤ 14 := Int32.le_iff_toInt_le.mp (c166.2); simp only [F_taken, Int32.le_iff_toInt_le, Int32.lt_iff_toInt_lt, ← Int32.toInt_inj]; simp; omega) | (have : ¬ (0 ≤ (as1).toInt ∧ (as1).toInt ≤ 5) := fun z => c161 ⟨Int32.le_iff_toInt_le.mpr z.1, Int32.le_iff_toInt_le.mpr z.2⟩; have : 10 ≤ (as1).toInt := Int32.le_iff_toInt_le.mp (c166.1); have : (as1).toInt ≤ 14 := Int32.le_iff_toInt_le.mp (c166.2); simp only [F_taken, Int32.le_iff_toInt_le, Int32.lt_iff_toInt_lt, ← Int32.toInt_inj]; split <;> first | rfl | (exfalso; simp at *; omega)) | (have : ¬ (0 ≤ (as1).toInt ∧ (as1).toInt ≤ 5) := fun z => c161 ⟨Int32.le_iff_toInt_le.mpr z.1, Int32.le_iff_toInt_le.mpr z.2⟩; have : 10 ≤ (as1).toInt := Int32.le_iff_toInt_le.mp (c166.1); have : (as1).toInt ≤ 14 := Int32.le_iff_toInt_le.mp (c166.2); unfold F_taken; (repeat' split) <;> first | rfl | (exfalso; (try simp only [Int32.le_iff_toInt_le, Int32.lt_iff_toInt_lt, ← Int32.toInt_inj] at *); first | omega | (simp at *; done) | (simp at *; omega))))
        exfalso
        have : 0 ≤ (shelf).toInt := Int32.le_iff_toInt_le.mp (c160.1)
        have : (shelf).toInt ≤ 3 := Int32.le_iff_toInt_le.mp (c160.2)
        have : (shelf).toInt ≠ 0 := g_ne (c167)
        have : (shelf).toInt ≠ 1 := g_ne (c168)
        have : (shelf).toInt ≠ 2 := g_ne (c169)
        have : (shelf).toInt ≠ 3 := g_ne (c170)
        omega
      · have c166 := gB_z c166
        refine G_iconst (pc := 27) (v := (-1)) (by decide) dX12_taken_27 ?_
        exact G_iret (pc := 28) (Nat.le_of_ble_eq_true rfl) (Nat.le_of_ble_eq_true rfl) rfl dX12_taken_28 (by first | rfl | (simp [F_taken, *]; done) | (have : 0 ≤ (shelf).toInt := Int32.le_iff_toInt_le.mp (c160.1); have : (shelf).toInt ≤ 3 := Int32.le_iff_toInt_le.mp (c160.2); have : ¬ (0 ≤ (as1).toInt ∧ (as1).toInt ≤ 5) := fun z => c161 ⟨Int32.le_iff_toInt_le.mpr z.1, Int32.le_iff_toInt_le.mpr z.2⟩; have : ¬ (10 ≤ (as1).toInt ∧ (as1).toInt ≤ 14) := fun z => c166 ⟨Int32.le_iff_toInt_le.mpr z.1, Int32.le_iff_toInt_le.mpr z.2⟩; simp only [F_taken, Int32.le_iff_toInt_le, Int32.lt_iff_toInt_lt, ← Int32.toInt_inj]; simp; omega) | (have : 0 ≤ (shelf).toInt := Int32.le_iff_toInt_le.mp (c160.1); have : (shelf).toInt ≤ 3 := Int32.le_iff_toInt_le.mp (c160.2); have : ¬ (0 ≤ (as1).toInt ∧ (as1).toInt ≤ 5) := fun z => c161 ⟨Int32.le_iff_toInt_le.mpr z.1, Int32.le_iff_toInt_le.mpr z.2⟩; have : ¬ (10 ≤ (as1).toInt ∧ (as1).toInt ≤ 14) := fun z => c166 ⟨Int32.le_iff_toInt_le.mpr z.1, Int32.le_iff_toInt_le.mpr z.2⟩; simp only [F_taken, Int32.le_iff_toInt_le, Int32.lt_iff_toInt_lt, ← Int32.toInt_inj]; split <;> first | rfl | (exfalso; simp at *; omega)) | (have : 0 ≤ (shelf).toInt := Int32.le_iff_toInt_le.mp (c160.1); have : (shelf).toInt ≤ 3 := Int32.le_iff_toInt_le.mp (c160.2); have : ¬ (0 ≤ (as1).toInt ∧ (as1).toInt ≤ 5) := fun z => c161 ⟨Int32.le_iff_toInt_le.mpr z.1, Int32.le_iff_toInt_le.mpr z.2⟩; have : ¬ (10 ≤ (as1).toInt ∧ (as1).toInt ≤ 14) := fun z => c166 ⟨Int32.le_iff_toInt_le.mpr z.1, Int32.le_iff_toInt_le.mpr z.2⟩; unfold F_taken; (repeat' split) <;> first | rfl | (exfalso; (try simp only [Int32.le_iff_toInt_le, Int32.lt_iff_toInt_lt, ← Int32.toInt_inj] at *); first | omega | (simp at *; done) | (simp at *; omega))))
set_option maxRecDepth 100000 in
set_option maxHeartbeats 4000000 in
theorem s10044_X12_isSheet (J : gI) (d : Nat)  (a0 : Int32) : G (d + 1) mX12_isSheet 0 0 0 0 0 (gent 1 [.int a0]) [] SH0 RF0 (gup (gmx J) 67 34 0) (fun r h => r = some (.int (gB (0 ≤ a0 ∧ a0 ≤ 3))) ∧ h = (SH0, RF0, (gup (gmx J) 67 34 0))) := by
  refine G_iload_n (pc := 0) rfl dX12_isSheet_0 ?_
  refine G_iconst (pc := 1) (v := 0) (by decide) dX12_isSheet_1 ?_
  refine G_iconst (pc := 2) (v := 3) (by decide) dX12_isSheet_2 ?_
  refine G_callS (pc := 3) (mc1 := 0) (ms1 := 0) (mj := mX12_in1) (vs := [_, _, _]) dX12_isSheet_3 cm_X12_in1 wh_0 wh_3 rfl (Nat.le_of_ble_eq_true rfl) (Nat.le_of_ble_eq_true rfl) (Nat.le_of_ble_eq_true rfl) (Nat.le_of_ble_eq_true rfl) (in1_s d a0 0 3) ?_
  rintro _ _ ⟨rfl, rfl⟩
  dsimp only [Option.toList, List.cons_append, List.nil_append]
  exact G_zret (pc := 6) (Nat.le_of_ble_eq_true rfl) (Nat.le_of_ble_eq_true rfl) rfl gB_01 dX12_isSheet_6 ⟨rfl, rfl⟩
set_option maxRecDepth 100000 in
set_option maxHeartbeats 4000000 in
theorem s10046_X12_heldOn (J : gI) (d : Nat)   : G (d) mX12_heldOn 0 0 0 0 0 (gent 2 [.ref 67, .int 0]) [] SH0 RF0 (gup (gmx J) 67 34 0) (fun r h => r = some (.int (-1)) ∧ h = (SH0, RF0, (gup (gmx J) 67 34 0))) := by
  refine G_aload_n (pc := 0) rfl dX12_heldOn_0 ?_
  refine G_getR (pc := 1) (r := 85) (ci := 12) (j := 31) rfl lk_RX12_62 rfl rfl rfl dX12_heldOn_1 ?_
  refine G_iload_n (pc := 4) rfl dX12_heldOn_4 ?_
  refine G_iald (pc := 5) (jj := 0) (v := (-1)) (by decide) rfl rfl (by unfold vp_in; decide) dX12_heldOn_5 ?_
  refine G_if_ne (pc := 6) (tgt := 26) (by decide) dX12_heldOn_6 (fun _ => ?_) (fun z => absurd z (by decide))
  refine G_aload_n (pc := 26) rfl dX12_heldOn_26 ?_
  refine G_getR (pc := 27) (r := 85) (ci := 12) (j := 31) rfl lk_RX12_62 rfl rfl rfl dX12_heldOn_27 ?_
  refine G_iload_n (pc := 30) rfl dX12_heldOn_30 ?_
  refine G_iald (pc := 31) (jj := 0) (v := (-1)) (by decide) rfl rfl (by unfold vp_in; decide) dX12_heldOn_31 ?_
  exact G_iret (pc := 32) (Nat.le_of_ble_eq_true rfl) (Nat.le_of_ble_eq_true rfl) rfl dX12_heldOn_32 ⟨rfl, rfl⟩
set_option maxRecDepth 100000 in
set_option maxHeartbeats 4000000 in
theorem s10047_X12_heldOn (J : gI) (d : Nat)   : G (d) mX12_heldOn 0 0 0 0 0 (gent 2 [.ref 67, .int 1]) [] SH0 RF0 (gup (gmx J) 67 34 0) (fun r h => r = some (.int (-1)) ∧ h = (SH0, RF0, (gup (gmx J) 67 34 0))) := by
  refine G_aload_n (pc := 0) rfl dX12_heldOn_0 ?_
  refine G_getR (pc := 1) (r := 85) (ci := 12) (j := 31) rfl lk_RX12_62 rfl rfl rfl dX12_heldOn_1 ?_
  refine G_iload_n (pc := 4) rfl dX12_heldOn_4 ?_
  refine G_iald (pc := 5) (jj := 1) (v := (-1)) (by decide) rfl rfl (by unfold vp_in; decide) dX12_heldOn_5 ?_
  refine G_if_ne (pc := 6) (tgt := 26) (by decide) dX12_heldOn_6 (fun _ => ?_) (fun z => absurd z (by decide))
  refine G_aload_n (pc := 26) rfl dX12_heldOn_26 ?_
  refine G_getR (pc := 27) (r := 85) (ci := 12) (j := 31) rfl lk_RX12_62 rfl rfl rfl dX12_heldOn_27 ?_
  refine G_iload_n (pc := 30) rfl dX12_heldOn_30 ?_
  refine G_iald (pc := 31) (jj := 1) (v := (-1)) (by decide) rfl rfl (by unfold vp_in; decide) dX12_heldOn_31 ?_
  exact G_iret (pc := 32) (Nat.le_of_ble_eq_true rfl) (Nat.le_of_ble_eq_true rfl) rfl dX12_heldOn_32 ⟨rfl, rfl⟩
set_option maxRecDepth 100000 in
set_option maxHeartbeats 4000000 in
theorem s10048_X12_heldOn (J : gI) (d : Nat)   : G (d) mX12_heldOn 0 0 0 0 0 (gent 2 [.ref 67, .int 2]) [] SH0 RF0 (gup (gmx J) 67 34 0) (fun r h => r = some (.int (-1)) ∧ h = (SH0, RF0, (gup (gmx J) 67 34 0))) := by
  refine G_aload_n (pc := 0) rfl dX12_heldOn_0 ?_
  refine G_getR (pc := 1) (r := 85) (ci := 12) (j := 31) rfl lk_RX12_62 rfl rfl rfl dX12_heldOn_1 ?_
  refine G_iload_n (pc := 4) rfl dX12_heldOn_4 ?_
  refine G_iald (pc := 5) (jj := 2) (v := (-1)) (by decide) rfl rfl (by unfold vp_in; decide) dX12_heldOn_5 ?_
  refine G_if_ne (pc := 6) (tgt := 26) (by decide) dX12_heldOn_6 (fun _ => ?_) (fun z => absurd z (by decide))
  refine G_aload_n (pc := 26) rfl dX12_heldOn_26 ?_
  refine G_getR (pc := 27) (r := 85) (ci := 12) (j := 31) rfl lk_RX12_62 rfl rfl rfl dX12_heldOn_27 ?_
  refine G_iload_n (pc := 30) rfl dX12_heldOn_30 ?_
  refine G_iald (pc := 31) (jj := 2) (v := (-1)) (by decide) rfl rfl (by unfold vp_in; decide) dX12_heldOn_31 ?_
  exact G_iret (pc := 32) (Nat.le_of_ble_eq_true rfl) (Nat.le_of_ble_eq_true rfl) rfl dX12_heldOn_32 ⟨rfl, rfl⟩
set_option maxRecDepth 100000 in
set_option maxHeartbeats 4000000 in
theorem s10049_X12_heldOn (J : gI) (d : Nat)   : G (d) mX12_heldOn 0 0 0 0 0 (gent 2 [.ref 67, .int 3]) [] SH0 RF0 (gup (gmx J) 67 34 0) (fun r h => r = some (.int (-1)) ∧ h = (SH0, RF0, (gup (gmx J) 67 34 0))) := by
  refine G_aload_n (pc := 0) rfl dX12_heldOn_0 ?_
  refine G_getR (pc := 1) (r := 85) (ci := 12) (j := 31) rfl lk_RX12_62 rfl rfl rfl dX12_heldOn_1 ?_
  refine G_iload_n (pc := 4) rfl dX12_heldOn_4 ?_
  refine G_iald (pc := 5) (jj := 3) (v := (-1)) (by decide) rfl rfl (by unfold vp_in; decide) dX12_heldOn_5 ?_
  refine G_if_ne (pc := 6) (tgt := 26) (by decide) dX12_heldOn_6 (fun _ => ?_) (fun z => absurd z (by decide))
  refine G_aload_n (pc := 26) rfl dX12_heldOn_26 ?_
  refine G_getR (pc := 27) (r := 85) (ci := 12) (j := 31) rfl lk_RX12_62 rfl rfl rfl dX12_heldOn_27 ?_
  refine G_iload_n (pc := 30) rfl dX12_heldOn_30 ?_
  refine G_iald (pc := 31) (jj := 3) (v := (-1)) (by decide) rfl rfl (by unfold vp_in; decide) dX12_heldOn_31 ?_
  exact G_iret (pc := 32) (Nat.le_of_ble_eq_true rfl) (Nat.le_of_ble_eq_true rfl) rfl dX12_heldOn_32 ⟨rfl, rfl⟩
set_option maxRecDepth 100000 in
set_option maxHeartbeats 4000000 in
theorem z_act (J : gI) (d : Nat) (shelf : Int32) (act1 : Int32) (x : Int32) : G (d + 2) mX12_act 0 0 0 0 0 (gent 6 [.ref 67, .int shelf, .int act1, .int x]) [] SH0 RF0 (gmx J) (fun r _ => r = some (.int (F_act shelf act1 x))) := by
  refine G_aload_n (pc := 0) rfl dX12_act_0 ?_
  refine G_iconst (pc := 1) (v := 0) (by decide) dX12_act_1 ?_
  refine G_putI (pc := 2) (ci := 12) (j := 34) rfl lk_RX12_341 rfl rfl rfl trivial dX12_act_2 ?_
  refine G_iload_n (pc := 5) rfl dX12_act_5 ?_
  refine G_callS (pc := 6) (mc1 := 0) (ms1 := 0) (mj := mX12_isSheet) (vs := [_]) dX12_act_6 cm_X12_isSheet wh_46 wh_48 rfl (Nat.le_of_ble_eq_true rfl) (Nat.le_of_ble_eq_true rfl) (Nat.le_of_ble_eq_true rfl) (Nat.le_of_ble_eq_true rfl) (s10044_X12_isSheet J d  _) ?_
  rintro _ _ ⟨rfl, rfl⟩
  dsimp only [Option.toList, List.cons_append, List.nil_append]
  refine G_if_eq (pc := 9) (tgt := 29) (by decide) dX12_act_9 (fun c171 => ?_) (fun c171 => ?_)
  · have c171 := gB_z c171
    refine G_iconst (pc := 29) (v := 0) (by decide) dX12_act_29 ?_
    exact G_iret (pc := 30) (Nat.le_of_ble_eq_true rfl) (Nat.le_of_ble_eq_true rfl) rfl dX12_act_30 (by first | rfl | (simp [F_act, *]; done) | (have : ¬ (0 ≤ (shelf).toInt ∧ (shelf).toInt ≤ 3) := fun z => c171 ⟨Int32.le_iff_toInt_le.mpr z.1, Int32.le_iff_toInt_le.mpr z.2⟩; simp only [F_act, Int32.le_iff_toInt_le, Int32.lt_iff_toInt_lt, ← Int32.toInt_inj]; simp; omega) | (have : ¬ (0 ≤ (shelf).toInt ∧ (shelf).toInt ≤ 3) := fun z => c171 ⟨Int32.le_iff_toInt_le.mpr z.1, Int32.le_iff_toInt_le.mpr z.2⟩; simp only [F_act, Int32.le_iff_toInt_le, Int32.lt_iff_toInt_lt, ← Int32.toInt_inj]; split <;> first | rfl | (exfalso; simp at *; omega)) | (have : ¬ (0 ≤ (shelf).toInt ∧ (shelf).toInt ≤ 3) := fun z => c171 ⟨Int32.le_iff_toInt_le.mpr z.1, Int32.le_iff_toInt_le.mpr z.2⟩; unfold F_act; (repeat' split) <;> first | rfl | (exfalso; (try simp only [Int32.le_iff_toInt_le, Int32.lt_iff_toInt_lt, ← Int32.toInt_inj] at *); first | omega | (simp at *; done) | (simp at *; omega))))
  · have c171 := gB_o c171
    refine G_iload_n (pc := 12) rfl dX12_act_12 ?_
    refine G_iconst (pc := 13) (v := 0) (by decide) dX12_act_13 ?_
    refine G_iconst (pc := 14) (v := 3) (by decide) dX12_act_14 ?_
    refine G_callS (pc := 15) (mc1 := 0) (ms1 := 0) (mj := mX12_in1) (vs := [_, _, _]) dX12_act_15 cm_X12_in1 wh_0 wh_3 rfl (Nat.le_of_ble_eq_true rfl) (Nat.le_of_ble_eq_true rfl) (Nat.le_of_ble_eq_true rfl) (Nat.le_of_ble_eq_true rfl) (in1_s (d + 1) act1 0 3) ?_
    rintro _ _ ⟨rfl, rfl⟩
    dsimp only [Option.toList, List.cons_append, List.nil_append]
    refine G_if_eq (pc := 18) (tgt := 29) (by decide) dX12_act_18 (fun c172 => ?_) (fun c172 => ?_)
    · have c172 := gB_z c172
      refine G_iconst (pc := 29) (v := 0) (by decide) dX12_act_29 ?_
      exact G_iret (pc := 30) (Nat.le_of_ble_eq_true rfl) (Nat.le_of_ble_eq_true rfl) rfl dX12_act_30 (by first | rfl | (simp [F_act, *]; done) | (have : 0 ≤ (shelf).toInt := Int32.le_iff_toInt_le.mp (c171.1); have : (shelf).toInt ≤ 3 := Int32.le_iff_toInt_le.mp (c171.2); have : ¬ (0 ≤ (act1).toInt ∧ (act1).toInt ≤ 3) := fun z => c172 ⟨Int32.le_iff_toInt_le.mpr z.1, Int32.le_iff_toInt_le.mpr z.2⟩; simp only [F_act, Int32.le_iff_toInt_le, Int32.lt_iff_toInt_lt, ← Int32.toInt_inj]; simp; omega) | (have : 0 ≤ (shelf).toInt := Int32.le_iff_toInt_le.mp (c171.1); have : (shelf).toInt ≤ 3 := Int32.le_iff_toInt_le.mp (c171.2); have : ¬ (0 ≤ (act1).toInt ∧ (act1).toInt ≤ 3) := fun z => c172 ⟨Int32.le_iff_toInt_le.mpr z.1, Int32.le_iff_toInt_le.mpr z.2⟩; simp only [F_act, Int32.le_iff_toInt_le, Int32.lt_iff_toInt_lt, ← Int32.toInt_inj]; split <;> first | rfl | (exfalso; simp at *; omega)) | (have : 0 ≤ (shelf).toInt := Int32.le_iff_toInt_le.mp (c171.1); have : (shelf).toInt ≤ 3 := Int32.le_iff_toInt_le.mp (c171.2); have : ¬ (0 ≤ (act1).toInt ∧ (act1).toInt ≤ 3) := fun z => c172 ⟨Int32.le_iff_toInt_le.mpr z.1, Int32.le_iff_toInt_le.mpr z.2⟩; unfold F_act; (repeat' split) <;> first | rfl | (exfalso; (try simp only [Int32.le_iff_toInt_le, Int32.lt_iff_toInt_lt, ← Int32.toInt_inj] at *); first | omega | (simp at *; done) | (simp at *; omega))))
    · have c172 := gB_o c172
      refine G_aload_n (pc := 21) rfl dX12_act_21 ?_
      refine G_iload_n (pc := 22) rfl dX12_act_22 ?_
      by_cases c173 : shelf = 0
      · subst c173
        refine G_callV (pc := 23) (mc1 := 0) (ms1 := 0) (ci := 12) (mj := mX12_heldOn) (vs := [_]) dX12_act_23 rfl rfl cm_X12_heldOn wh_61 wh_63 wh_64 rfl (Nat.le_of_ble_eq_true rfl) (Nat.le_of_ble_eq_true rfl) (Nat.le_of_ble_eq_true rfl) (Nat.le_of_ble_eq_true rfl) (s10046_X12_heldOn J (d + 1)  ) ?_
        rintro _ _ ⟨rfl, rfl⟩
        dsimp only [Option.toList, List.cons_append, List.nil_append]
        refine G_if_eq (pc := 26) (tgt := 31) (by decide) dX12_act_26 (fun z => absurd z (by decide)) (fun _ => ?_)
        refine G_iconst (pc := 29) (v := 0) (by decide) dX12_act_29 ?_
        exact G_iret (pc := 30) (Nat.le_of_ble_eq_true rfl) (Nat.le_of_ble_eq_true rfl) rfl dX12_act_30 (by first | rfl | (simp [F_act, *]; done) | (have : 0 ≤ (act1).toInt := Int32.le_iff_toInt_le.mp (c172.1); have : (act1).toInt ≤ 3 := Int32.le_iff_toInt_le.mp (c172.2); simp only [F_act, Int32.le_iff_toInt_le, Int32.lt_iff_toInt_lt, ← Int32.toInt_inj]; simp; omega) | (have : 0 ≤ (act1).toInt := Int32.le_iff_toInt_le.mp (c172.1); have : (act1).toInt ≤ 3 := Int32.le_iff_toInt_le.mp (c172.2); simp only [F_act, Int32.le_iff_toInt_le, Int32.lt_iff_toInt_lt, ← Int32.toInt_inj]; split <;> first | rfl | (exfalso; simp at *; omega)) | (have : 0 ≤ (act1).toInt := Int32.le_iff_toInt_le.mp (c172.1); have : (act1).toInt ≤ 3 := Int32.le_iff_toInt_le.mp (c172.2); unfold F_act; (repeat' split) <;> first | rfl | (exfalso; (try simp only [Int32.le_iff_toInt_le, Int32.lt_iff_toInt_lt, ← Int32.toInt_inj] at *); first | omega | (simp at *; done) | (simp at *; omega))))
      by_cases c174 : shelf = 1
      · subst c174
        refine G_callV (pc := 23) (mc1 := 0) (ms1 := 0) (ci := 12) (mj := mX12_heldOn) (vs := [_]) dX12_act_23 rfl rfl cm_X12_heldOn wh_61 wh_63 wh_64 rfl (Nat.le_of_ble_eq_true rfl) (Nat.le_of_ble_eq_true rfl) (Nat.le_of_ble_eq_true rfl) (Nat.le_of_ble_eq_true rfl) (s10047_X12_heldOn J (d + 1)  ) ?_
        rintro _ _ ⟨rfl, rfl⟩
        dsimp only [Option.toList, List.cons_append, List.nil_append]
        refine G_if_eq (pc := 26) (tgt := 31) (by decide) dX12_act_26 (fun z => absurd z (by decide)) (fun _ => ?_)
        refine G_iconst (pc := 29) (v := 0) (by decide) dX12_act_29 ?_
        exact G_iret (pc := 30) (Nat.le_of_ble_eq_true rfl) (Nat.le_of_ble_eq_true rfl) rfl dX12_act_30 (by first | rfl | (simp [F_act, *]; done) | (have : 0 ≤ (act1).toInt := Int32.le_iff_toInt_le.mp (c172.1); have : (act1).toInt ≤ 3 := Int32.le_iff_toInt_le.mp (c172.2); simp only [F_act, Int32.le_iff_toInt_le, Int32.lt_iff_toInt_lt, ← Int32.toInt_inj]; simp; omega) | (have : 0 ≤ (act1).toInt := Int32.le_iff_toInt_le.mp (c172.1); have : (act1).toInt ≤ 3 := Int32.le_iff_toInt_le.mp (c172.2); simp only [F_act, Int32.le_iff_toInt_le, Int32.lt_iff_toInt_lt, ← Int32.toInt_inj]; split <;> first | rfl | (exfalso; simp at *; omega)) | (have : 0 ≤ (act1).toInt := Int32.le_iff_toInt_le.mp (c172.1); have : (act1).toInt ≤ 3 := Int32.le_iff_toInt_le.mp (c172.2); unfold F_act; (repeat' split) <;> first | rfl | (exfalso; (try simp only [Int32.le_iff_toInt_le, Int32.lt_iff_toInt_lt, ← Int32.toInt_inj] at *); first | omega | (simp at *; done) | (simp at *; omega))))
      by_cases c175 : shelf = 2
      · subst c175
        refine G_callV (pc := 23) (mc1 := 0) (ms1 := 0) (ci := 12) (mj := mX12_heldOn) (vs := [_]) dX12_act_23 rfl rfl cm_X12_heldOn wh_61 wh_63 wh_64 rfl (Nat.le_of_ble_eq_true rfl) (Nat.le_of_ble_eq_true rfl) (Nat.le_of_ble_eq_true rfl) (Nat.le_of_ble_eq_true rfl) (s10048_X12_heldOn J (d + 1)  ) ?_
        rintro _ _ ⟨rfl, rfl⟩
        dsimp only [Option.toList, List.cons_append, List.nil_append]
        refine G_if_eq (pc := 26) (tgt := 31) (by decide) dX12_act_26 (fun z => absurd z (by decide)) (fun _ => ?_)
        refine G_iconst (pc := 29) (v := 0) (by decide) dX12_act_29 ?_
        exact G_iret (pc := 30) (Nat.le_of_ble_eq_true rfl) (Nat.le_of_ble_eq_true rfl) rfl dX12_act_30 (by first | rfl | (simp [F_act, *]; done) | (have : 0 ≤ (act1).toInt := Int32.le_iff_toInt_le.mp (c172.1); have : (act1).toInt ≤ 3 := Int32.le_iff_toInt_le.mp (c172.2); simp only [F_act, Int32.le_iff_toInt_le, Int32.lt_iff_toInt_lt, ← Int32.toInt_inj]; simp; omega) | (have : 0 ≤ (act1).toInt := Int32.le_iff_toInt_le.mp (c172.1); have : (act1).toInt ≤ 3 := Int32.le_iff_toInt_le.mp (c172.2); simp only [F_act, Int32.le_iff_toInt_le, Int32.lt_iff_toInt_lt, ← Int32.toInt_inj]; split <;> first | rfl | (exfalso; simp at *; omega)) | (have : 0 ≤ (act1).toInt := Int32.le_iff_toInt_le.mp (c172.1); have : (act1).toInt ≤ 3 := Int32.le_iff_toInt_le.mp (c172.2); unfold F_act; (repeat' split) <;> first | rfl | (exfalso; (try simp only [Int32.le_iff_toInt_le, Int32.lt_iff_toInt_lt, ← Int32.toInt_inj] at *); first | omega | (simp at *; done) | (simp at *; omega))))
      by_cases c176 : shelf = 3
      · subst c176
        refine G_callV (pc := 23) (mc1 := 0) (ms1 := 0) (ci := 12) (mj := mX12_heldOn) (vs := [_]) dX12_act_23 rfl rfl cm_X12_heldOn wh_61 wh_63 wh_64 rfl (Nat.le_of_ble_eq_true rfl) (Nat.le_of_ble_eq_true rfl) (Nat.le_of_ble_eq_true rfl) (Nat.le_of_ble_eq_true rfl) (s10049_X12_heldOn J (d + 1)  ) ?_
        rintro _ _ ⟨rfl, rfl⟩
        dsimp only [Option.toList, List.cons_append, List.nil_append]
        refine G_if_eq (pc := 26) (tgt := 31) (by decide) dX12_act_26 (fun z => absurd z (by decide)) (fun _ => ?_)
        refine G_iconst (pc := 29) (v := 0) (by decide) dX12_act_29 ?_
        exact G_iret (pc := 30) (Nat.le_of_ble_eq_true rfl) (Nat.le_of_ble_eq_true rfl) rfl dX12_act_30 (by first | rfl | (simp [F_act, *]; done) | (have : 0 ≤ (act1).toInt := Int32.le_iff_toInt_le.mp (c172.1); have : (act1).toInt ≤ 3 := Int32.le_iff_toInt_le.mp (c172.2); simp only [F_act, Int32.le_iff_toInt_le, Int32.lt_iff_toInt_lt, ← Int32.toInt_inj]; simp; omega) | (have : 0 ≤ (act1).toInt := Int32.le_iff_toInt_le.mp (c172.1); have : (act1).toInt ≤ 3 := Int32.le_iff_toInt_le.mp (c172.2); simp only [F_act, Int32.le_iff_toInt_le, Int32.lt_iff_toInt_lt, ← Int32.toInt_inj]; split <;> first | rfl | (exfalso; simp at *; omega)) | (have : 0 ≤ (act1).toInt := Int32.le_iff_toInt_le.mp (c172.1); have : (act1).toInt ≤ 3 := Int32.le_iff_toInt_le.mp (c172.2); unfold F_act; (repeat' split) <;> first | rfl | (exfalso; (try simp only [Int32.le_iff_toInt_le, Int32.lt_iff_toInt_lt, ← Int32.toInt_inj] at *); first | omega | (simp at *; done) | (simp at *; omega))))
      exfalso
      have : 0 ≤ (shelf).toInt := Int32.le_iff_toInt_le.mp (c171.1)
      have : (shelf).toInt ≤ 3 := Int32.le_iff_toInt_le.mp (c171.2)
      have : (shelf).toInt ≠ 0 := g_ne (c173)
      have : (shelf).toInt ≠ 1 := g_ne (c174)
      have : (shelf).toInt ≠ 2 := g_ne (c175)
      have : (shelf).toInt ≠ 3 := g_ne (c176)
      omega
set_option maxRecDepth 100000 in
set_option maxHeartbeats 4000000 in
theorem z_trace (J : gI) (d : Nat) (i : Int32) : G (d + 1) mX12_trace 0 0 0 0 0 (gent 2 [.ref 67, .int i]) [] SH0 RF0 (gmx J) (fun r _ => r = some (.int (F_trace i))) := by
  refine G_iload_n (pc := 0) rfl dX12_trace_0 ?_
  refine G_iconst (pc := 1) (v := 0) (by decide) dX12_trace_1 ?_
  refine G_aload_n (pc := 2) rfl dX12_trace_2 ?_
  refine G_getI (pc := 3) (v := 0) (ci := 12) (j := 34) rfl rfl lk_RX12_341 rfl rfl dX12_trace_3 ?_
  refine G_iconst (pc := 6) (v := 1) (by decide) dX12_trace_6 ?_
  refine G_isub (pc := 7) (z := (-1)) (by decide) dX12_trace_7 ?_
  refine G_callS (pc := 8) (mc1 := 0) (ms1 := 0) (mj := mX12_in1) (vs := [_, _, _]) dX12_trace_8 cm_X12_in1 wh_0 wh_3 rfl (Nat.le_of_ble_eq_true rfl) (Nat.le_of_ble_eq_true rfl) (Nat.le_of_ble_eq_true rfl) (Nat.le_of_ble_eq_true rfl) (in1_s d i 0 ((-1))) ?_
  rintro _ _ ⟨rfl, rfl⟩
  dsimp only [Option.toList, List.cons_append, List.nil_append]
  refine G_if_eq (pc := 11) (tgt := 23) (by decide) dX12_trace_11 (fun c177 => ?_) (fun c177 => ?_)
  · have c177 := gB_z c177
    refine G_bipush (pc := 23) (v := (-3)) (by decide) dX12_trace_23 ?_
    exact G_iret (pc := 25) (Nat.le_of_ble_eq_true rfl) (Nat.le_of_ble_eq_true rfl) rfl dX12_trace_25 (by first | rfl | (simp [F_trace, *]; done) | (have : ¬ (0 ≤ (i).toInt ∧ (i).toInt ≤ -1) := fun z => c177 ⟨Int32.le_iff_toInt_le.mpr z.1, Int32.le_iff_toInt_le.mpr z.2⟩; simp only [F_trace, Int32.le_iff_toInt_le, Int32.lt_iff_toInt_lt, ← Int32.toInt_inj]; simp; omega) | (have : ¬ (0 ≤ (i).toInt ∧ (i).toInt ≤ -1) := fun z => c177 ⟨Int32.le_iff_toInt_le.mpr z.1, Int32.le_iff_toInt_le.mpr z.2⟩; simp only [F_trace, Int32.le_iff_toInt_le, Int32.lt_iff_toInt_lt, ← Int32.toInt_inj]; split <;> first | rfl | (exfalso; simp at *; omega)) | (have : ¬ (0 ≤ (i).toInt ∧ (i).toInt ≤ -1) := fun z => c177 ⟨Int32.le_iff_toInt_le.mpr z.1, Int32.le_iff_toInt_le.mpr z.2⟩; unfold F_trace; (repeat' split) <;> first | rfl | (exfalso; (try simp only [Int32.le_iff_toInt_le, Int32.lt_iff_toInt_lt, ← Int32.toInt_inj] at *); first | omega | (simp at *; done) | (simp at *; omega))))
  · have c177 := gB_o c177
    exfalso; have : 0 ≤ (i).toInt := Int32.le_iff_toInt_le.mp (c177.1); have : (i).toInt ≤ -1 := Int32.le_iff_toInt_le.mp (c177.2); omega
set_option maxRecDepth 100000 in
set_option maxHeartbeats 4000000 in
theorem s10050_X12_ones (J : gI) (d : Nat)   : G (d) mX12_ones 0 0 0 0 0 (gent 3 [.int 0]) [] SH0 RF0 (gmx J) (fun r h => r = some (.int 0) ∧ h = (SH0, RF0, (gmx J))) := by
  refine G_iconst (pc := 0) (v := 0) (by decide) dX12_ones_0 ?_
  refine G_istore_n (pc := 1) (L1 := [some (.int 0), some (.int 0), none]) rfl rfl (by decide) dX12_ones_1 ?_
  refine G_iload_n (pc := 2) rfl dX12_ones_2 ?_
  refine G_istore_n (pc := 3) (L1 := [some (.int 0), some (.int 0), some (.int 0)]) rfl rfl (by decide) dX12_ones_3 ?_
  refine G_iload_n (pc := 4) rfl dX12_ones_4 ?_
  refine G_if_eq (pc := 5) (tgt := 20) (by decide) dX12_ones_5 (fun _ => ?_) (fun z => absurd (by decide) z)
  refine G_iload_n (pc := 20) rfl dX12_ones_20 ?_
  exact G_iret (pc := 21) (Nat.le_of_ble_eq_true rfl) (Nat.le_of_ble_eq_true rfl) rfl dX12_ones_21 ⟨rfl, rfl⟩
set_option maxRecDepth 100000 in
set_option maxHeartbeats 4000000 in
theorem z_many (J : gI) (d : Nat) (what : Int32) : G (d + 1) mX12_many 0 0 0 0 0 (gent 2 [.ref 67, .int what]) [] SH0 RF0 (gmx J) (fun r _ => r = some (.int (F_many what))) := by
  refine G_iload_n (pc := 0) rfl dX12_many_0 ?_
  by_cases c178 : what = 0
  · subst c178
    refine G_tabIn (pc := 1) (tgt := 44) (off := 43) (by decide) (by decide) (by decide) (by decide) dX12_many_1 ?_
    refine G_aload_n (pc := 44) rfl dX12_many_44 ?_
    refine G_getR (pc := 45) (r := 68) (ci := 12) (j := 0) rfl lk_RX12_9 rfl rfl rfl dX12_many_45 ?_
    refine G_iconst (pc := 48) (v := 4) (by decide) dX12_many_48 ?_
    refine G_iald (pc := 49) (jj := 4) (v := 0) (by decide) rfl rfl (by unfold vp_in; decide) dX12_many_49 ?_
    exact G_iret (pc := 50) (Nat.le_of_ble_eq_true rfl) (Nat.le_of_ble_eq_true rfl) rfl dX12_many_50 (by first | rfl | (simp [F_many, *]; done) | (simp only [F_many, Int32.le_iff_toInt_le, Int32.lt_iff_toInt_lt, ← Int32.toInt_inj]; simp; omega) | (simp only [F_many, Int32.le_iff_toInt_le, Int32.lt_iff_toInt_lt, ← Int32.toInt_inj]; split <;> first | rfl | (exfalso; simp at *; omega)) | (unfold F_many; (repeat' split) <;> first | rfl | (exfalso; (try simp only [Int32.le_iff_toInt_le, Int32.lt_iff_toInt_lt, ← Int32.toInt_inj] at *); first | omega | (simp at *; done) | (simp at *; omega))))
  by_cases c179 : what = 1
  · subst c179
    refine G_tabIn (pc := 1) (tgt := 51) (off := 50) (by decide) (by decide) (by decide) (by decide) dX12_many_1 ?_
    refine G_aload_n (pc := 51) rfl dX12_many_51 ?_
    refine G_getR (pc := 52) (r := 68) (ci := 12) (j := 0) rfl lk_RX12_9 rfl rfl rfl dX12_many_52 ?_
    refine G_iconst (pc := 55) (v := 5) (by decide) dX12_many_55 ?_
    refine G_iald (pc := 56) (jj := 5) (v := 0) (by decide) rfl rfl (by unfold vp_in; decide) dX12_many_56 ?_
    exact G_iret (pc := 57) (Nat.le_of_ble_eq_true rfl) (Nat.le_of_ble_eq_true rfl) rfl dX12_many_57 (by first | rfl | (simp [F_many, *]; done) | (simp only [F_many, Int32.le_iff_toInt_le, Int32.lt_iff_toInt_lt, ← Int32.toInt_inj]; simp; omega) | (simp only [F_many, Int32.le_iff_toInt_le, Int32.lt_iff_toInt_lt, ← Int32.toInt_inj]; split <;> first | rfl | (exfalso; simp at *; omega)) | (unfold F_many; (repeat' split) <;> first | rfl | (exfalso; (try simp only [Int32.le_iff_toInt_le, Int32.lt_iff_toInt_lt, ← Int32.toInt_inj] at *); first | omega | (simp at *; done) | (simp at *; omega))))
  by_cases c180 : what = 2
  · subst c180
    refine G_tabIn (pc := 1) (tgt := 58) (off := 57) (by decide) (by decide) (by decide) (by decide) dX12_many_1 ?_
    refine G_aload_n (pc := 58) rfl dX12_many_58 ?_
    refine G_iconst (pc := 59) (v := 4) (by decide) dX12_many_59 ?_
    refine G_callV (pc := 60) (mc1 := 0) (ms1 := 0) (ci := 12) (mj := mX12_those) (vs := [_]) dX12_many_60 rfl rfl cm_X12_those wh_26 wh_28 wh_29 rfl (Nat.le_of_ble_eq_true rfl) (Nat.le_of_ble_eq_true rfl) (Nat.le_of_ble_eq_true rfl) (Nat.le_of_ble_eq_true rfl) (s10012_X12_those J d  ) ?_
    rintro _ _ ⟨rfl, rfl⟩
    dsimp only [Option.toList, List.cons_append, List.nil_append]
    refine G_callS (pc := 63) (mc1 := 0) (ms1 := 0) (mj := mX12_ones) (vs := [_]) dX12_many_63 cm_X12_ones wh_65 wh_67 rfl (Nat.le_of_ble_eq_true rfl) (Nat.le_of_ble_eq_true rfl) (Nat.le_of_ble_eq_true rfl) (Nat.le_of_ble_eq_true rfl) (s10050_X12_ones J d  ) ?_
    rintro _ _ ⟨rfl, rfl⟩
    dsimp only [Option.toList, List.cons_append, List.nil_append]
    exact G_iret (pc := 66) (Nat.le_of_ble_eq_true rfl) (Nat.le_of_ble_eq_true rfl) rfl dX12_many_66 (by first | rfl | (simp [F_many, *]; done) | (simp only [F_many, Int32.le_iff_toInt_le, Int32.lt_iff_toInt_lt, ← Int32.toInt_inj]; simp; omega) | (simp only [F_many, Int32.le_iff_toInt_le, Int32.lt_iff_toInt_lt, ← Int32.toInt_inj]; split <;> first | rfl | (exfalso; simp at *; omega)) | (unfold F_many; (repeat' split) <;> first | rfl | (exfalso; (try simp only [Int32.le_iff_toInt_le, Int32.lt_iff_toInt_lt, ← Int32.toInt_inj] at *); first | omega | (simp at *; done) | (simp at *; omega))))
  by_cases c181 : what = 3
  · subst c181
    refine G_tabIn (pc := 1) (tgt := 67) (off := 66) (by decide) (by decide) (by decide) (by decide) dX12_many_1 ?_
    refine G_aload_n (pc := 67) rfl dX12_many_67 ?_
    refine G_getR (pc := 68) (r := 68) (ci := 12) (j := 0) rfl lk_RX12_9 rfl rfl rfl dX12_many_68 ?_
    refine G_bipush (pc := 71) (v := 6) (by decide) dX12_many_71 ?_
    refine G_iald (pc := 73) (jj := 6) (v := 0) (by decide) rfl rfl (by unfold vp_in; decide) dX12_many_73 ?_
    exact G_iret (pc := 74) (Nat.le_of_ble_eq_true rfl) (Nat.le_of_ble_eq_true rfl) rfl dX12_many_74 (by first | rfl | (simp [F_many, *]; done) | (simp only [F_many, Int32.le_iff_toInt_le, Int32.lt_iff_toInt_lt, ← Int32.toInt_inj]; simp; omega) | (simp only [F_many, Int32.le_iff_toInt_le, Int32.lt_iff_toInt_lt, ← Int32.toInt_inj]; split <;> first | rfl | (exfalso; simp at *; omega)) | (unfold F_many; (repeat' split) <;> first | rfl | (exfalso; (try simp only [Int32.le_iff_toInt_le, Int32.lt_iff_toInt_lt, ← Int32.toInt_inj] at *); first | omega | (simp at *; done) | (simp at *; omega))))
  by_cases c182 : what = 4
  · subst c182
    refine G_tabIn (pc := 1) (tgt := 75) (off := 74) (by decide) (by decide) (by decide) (by decide) dX12_many_1 ?_
    refine G_aload_n (pc := 75) rfl dX12_many_75 ?_
    refine G_getI (pc := 76) (v := 0) (ci := 12) (j := 27) rfl rfl lk_RX12_317 rfl rfl dX12_many_76 ?_
    exact G_iret (pc := 79) (Nat.le_of_ble_eq_true rfl) (Nat.le_of_ble_eq_true rfl) rfl dX12_many_79 (by first | rfl | (simp [F_many, *]; done) | (simp only [F_many, Int32.le_iff_toInt_le, Int32.lt_iff_toInt_lt, ← Int32.toInt_inj]; simp; omega) | (simp only [F_many, Int32.le_iff_toInt_le, Int32.lt_iff_toInt_lt, ← Int32.toInt_inj]; split <;> first | rfl | (exfalso; simp at *; omega)) | (unfold F_many; (repeat' split) <;> first | rfl | (exfalso; (try simp only [Int32.le_iff_toInt_le, Int32.lt_iff_toInt_lt, ← Int32.toInt_inj] at *); first | omega | (simp at *; done) | (simp at *; omega))))
  by_cases c183 : what = 5
  · subst c183
    refine G_tabIn (pc := 1) (tgt := 80) (off := 79) (by decide) (by decide) (by decide) (by decide) dX12_many_1 ?_
    refine G_aload_n (pc := 80) rfl dX12_many_80 ?_
    refine G_getI (pc := 81) (v := 0) (ci := 12) (j := 6) rfl rfl lk_RX12_126 rfl rfl dX12_many_81 ?_
    exact G_iret (pc := 84) (Nat.le_of_ble_eq_true rfl) (Nat.le_of_ble_eq_true rfl) rfl dX12_many_84 (by first | rfl | (simp [F_many, *]; done) | (simp only [F_many, Int32.le_iff_toInt_le, Int32.lt_iff_toInt_lt, ← Int32.toInt_inj]; simp; omega) | (simp only [F_many, Int32.le_iff_toInt_le, Int32.lt_iff_toInt_lt, ← Int32.toInt_inj]; split <;> first | rfl | (exfalso; simp at *; omega)) | (unfold F_many; (repeat' split) <;> first | rfl | (exfalso; (try simp only [Int32.le_iff_toInt_le, Int32.lt_iff_toInt_lt, ← Int32.toInt_inj] at *); first | omega | (simp at *; done) | (simp at *; omega))))
  by_cases c184 : what = 6
  · subst c184
    refine G_tabIn (pc := 1) (tgt := 85) (off := 84) (by decide) (by decide) (by decide) (by decide) dX12_many_1 ?_
    refine G_aload_n (pc := 85) rfl dX12_many_85 ?_
    refine G_getI (pc := 86) (v := 0) (ci := 12) (j := 34) rfl rfl lk_RX12_341 rfl rfl dX12_many_86 ?_
    exact G_iret (pc := 89) (Nat.le_of_ble_eq_true rfl) (Nat.le_of_ble_eq_true rfl) rfl dX12_many_89 (by first | rfl | (simp [F_many, *]; done) | (simp only [F_many, Int32.le_iff_toInt_le, Int32.lt_iff_toInt_lt, ← Int32.toInt_inj]; simp; omega) | (simp only [F_many, Int32.le_iff_toInt_le, Int32.lt_iff_toInt_lt, ← Int32.toInt_inj]; split <;> first | rfl | (exfalso; simp at *; omega)) | (unfold F_many; (repeat' split) <;> first | rfl | (exfalso; (try simp only [Int32.le_iff_toInt_le, Int32.lt_iff_toInt_lt, ← Int32.toInt_inj] at *); first | omega | (simp at *; done) | (simp at *; omega))))
  refine G_tabOut (pc := 1) (tgt := 90) (by decide) (by have : (what).toInt ≠ 0 := g_ne c178; have : (what).toInt ≠ 1 := g_ne c179; have : (what).toInt ≠ 2 := g_ne c180; have : (what).toInt ≠ 3 := g_ne c181; have : (what).toInt ≠ 4 := g_ne c182; have : (what).toInt ≠ 5 := g_ne c183; have : (what).toInt ≠ 6 := g_ne c184; omega) dX12_many_1 ?_
  refine G_iconst (pc := 90) (v := (-1)) (by decide) dX12_many_90 ?_
  exact G_iret (pc := 91) (Nat.le_of_ble_eq_true rfl) (Nat.le_of_ble_eq_true rfl) rfl dX12_many_91 (by first | rfl | (simp [F_many, *]; done) | (have : (what).toInt ≠ 0 := g_ne (c178); have : (what).toInt ≠ 1 := g_ne (c179); have : (what).toInt ≠ 2 := g_ne (c180); have : (what).toInt ≠ 3 := g_ne (c181); have : (what).toInt ≠ 4 := g_ne (c182); have : (what).toInt ≠ 5 := g_ne (c183); have : (what).toInt ≠ 6 := g_ne (c184); simp only [F_many, Int32.le_iff_toInt_le, Int32.lt_iff_toInt_lt, ← Int32.toInt_inj]; simp; omega) | (have : (what).toInt ≠ 0 := g_ne (c178); have : (what).toInt ≠ 1 := g_ne (c179); have : (what).toInt ≠ 2 := g_ne (c180); have : (what).toInt ≠ 3 := g_ne (c181); have : (what).toInt ≠ 4 := g_ne (c182); have : (what).toInt ≠ 5 := g_ne (c183); have : (what).toInt ≠ 6 := g_ne (c184); simp only [F_many, Int32.le_iff_toInt_le, Int32.lt_iff_toInt_lt, ← Int32.toInt_inj]; split <;> first | rfl | (exfalso; simp at *; omega)) | (have : (what).toInt ≠ 0 := g_ne (c178); have : (what).toInt ≠ 1 := g_ne (c179); have : (what).toInt ≠ 2 := g_ne (c180); have : (what).toInt ≠ 3 := g_ne (c181); have : (what).toInt ≠ 4 := g_ne (c182); have : (what).toInt ≠ 5 := g_ne (c183); have : (what).toInt ≠ 6 := g_ne (c184); unfold F_many; (repeat' split) <;> first | rfl | (exfalso; (try simp only [Int32.le_iff_toInt_le, Int32.lt_iff_toInt_lt, ← Int32.toInt_inj] at *); first | omega | (simp at *; done) | (simp at *; omega))))
set_option maxRecDepth 100000 in
set_option maxHeartbeats 4000000 in
theorem z_again (J : gI) (d : Nat)  : G (d) mX12_again 0 0 0 0 0 (gent 2 [.ref 67]) [] SH0 RF0 (gmx J) (fun r _ => r = some (.int (F_again ))) := by
  refine G_aload_n (pc := 0) rfl dX12_again_0 ?_
  refine G_getI (pc := 1) (v := 0) (ci := 12) (j := 3) rfl rfl lk_RX12_369 rfl rfl dX12_again_1 ?_
  refine G_if_ne (pc := 4) (tgt := 10) (by decide) dX12_again_4 (fun z => absurd (by decide) z) (fun _ => ?_)
  refine G_bipush (pc := 7) (v := (-3)) (by decide) dX12_again_7 ?_
  exact G_iret (pc := 9) (Nat.le_of_ble_eq_true rfl) (Nat.le_of_ble_eq_true rfl) rfl dX12_again_9 (by first | rfl | (simp [F_again, *]; done) | (simp only [F_again, Int32.le_iff_toInt_le, Int32.lt_iff_toInt_lt, ← Int32.toInt_inj]; simp; omega) | (simp only [F_again, Int32.le_iff_toInt_le, Int32.lt_iff_toInt_lt, ← Int32.toInt_inj]; split <;> first | rfl | (exfalso; simp at *; omega)) | (unfold F_again; (repeat' split) <;> first | rfl | (exfalso; (try simp only [Int32.le_iff_toInt_le, Int32.lt_iff_toInt_lt, ← Int32.toInt_inj] at *); first | omega | (simp at *; done) | (simp at *; omega))))
set_option maxRecDepth 100000 in
set_option maxHeartbeats 4000000 in
theorem s10052_X12_restOne (J : gI) (d : Nat)   : G (d) mX12_restOne 0 0 0 0 0 (gent 2 [.ref 67]) [] SH0 RF0 (gmx J) (fun r h => r = some (.int (-1)) ∧ h = (SH0, RF0, (gmx J))) := by
  refine G_iconst (pc := 0) (v := 0) (by decide) dX12_restOne_0 ?_
  refine G_istore_n (pc := 1) (L1 := [some (.ref 67), some (.int 0)]) rfl rfl (by decide) dX12_restOne_1 ?_
  refine G_iload_n (pc := 2) rfl dX12_restOne_2 ?_
  refine G_aload_n (pc := 3) rfl dX12_restOne_3 ?_
  refine G_getR (pc := 4) (r := 68) (ci := 12) (j := 0) rfl lk_RX12_9 rfl rfl rfl dX12_restOne_4 ?_
  refine G_iconst (pc := 7) (v := 4) (by decide) dX12_restOne_7 ?_
  refine G_iald (pc := 8) (jj := 4) (v := 0) (by decide) rfl rfl (by unfold vp_in; decide) dX12_restOne_8 ?_
  refine G_icmp_ge (pc := 9) (tgt := 28) (by decide) dX12_restOne_9 (fun _ => ?_) (fun z => absurd (by decide) z)
  refine G_iconst (pc := 28) (v := (-1)) (by decide) dX12_restOne_28 ?_
  exact G_iret (pc := 29) (Nat.le_of_ble_eq_true rfl) (Nat.le_of_ble_eq_true rfl) rfl dX12_restOne_29 ⟨rfl, rfl⟩
set_option maxRecDepth 100000 in
set_option maxHeartbeats 4000000 in
theorem s10051_X12_goesBy (J : gI) (d : Nat)   : G (d + 1) mX12_goesBy 0 0 0 0 0 (gent 5 [.ref 67, .int (-1)]) [] SH0 RF0 (gmx J) (fun r h => r = some (.int 0) ∧ h = (SH0, RF0, (gup (gup (gmx J) 68 0 1) 68 2 0))) := by
  refine G_iload_n (pc := 0) rfl dX12_goesBy_0 ?_
  refine G_if_ge (pc := 1) (tgt := 11) (by decide) dX12_goesBy_1 (fun z => absurd z (by decide)) (fun _ => ?_)
  refine G_aload_n (pc := 4) rfl dX12_goesBy_4 ?_
  refine G_callV (pc := 5) (mc1 := 0) (ms1 := 0) (ci := 12) (mj := mX12_restOne) (vs := []) dX12_goesBy_5 rfl rfl cm_X12_restOne wh_68 wh_70 wh_71 rfl (Nat.le_of_ble_eq_true rfl) (Nat.le_of_ble_eq_true rfl) (Nat.le_of_ble_eq_true rfl) (Nat.le_of_ble_eq_true rfl) (s10052_X12_restOne J d  ) ?_
  rintro _ _ ⟨rfl, rfl⟩
  dsimp only [Option.toList, List.cons_append, List.nil_append]
  refine G_goto (pc := 8) (tgt := 14) (by decide) dX12_goesBy_8 ?_
  refine G_istore_n (pc := 14) (L1 := [some (.ref 67), some (.int (-1)), some (.int (-1)), none, none]) rfl rfl (by decide) dX12_goesBy_14 ?_
  refine G_iload_n (pc := 15) rfl dX12_goesBy_15 ?_
  refine G_if_lt (pc := 16) (tgt := 27) (by decide) dX12_goesBy_16 (fun _ => ?_) (fun z => absurd (by decide) z)
  refine G_iconst (pc := 27) (v := 0) (by decide) dX12_goesBy_27 ?_
  refine G_istore_n (pc := 28) (L1 := [some (.ref 67), some (.int (-1)), some (.int (-1)), some (.int 0), none]) rfl rfl (by decide) dX12_goesBy_28 ?_
  refine G_iconst (pc := 29) (v := 0) (by decide) dX12_goesBy_29 ?_
  refine G_istore (pc := 30) (L1 := [some (.ref 67), some (.int (-1)), some (.int (-1)), some (.int 0), some (.int 0)]) rfl rfl (by decide) dX12_goesBy_30 ?_
  refine G_iload (pc := 32) rfl dX12_goesBy_32 ?_
  refine G_aload_n (pc := 34) rfl dX12_goesBy_34 ?_
  refine G_getR (pc := 35) (r := 68) (ci := 12) (j := 0) rfl lk_RX12_9 rfl rfl rfl dX12_goesBy_35 ?_
  refine G_iconst (pc := 38) (v := 4) (by decide) dX12_goesBy_38 ?_
  refine G_iald (pc := 39) (jj := 4) (v := 0) (by decide) rfl rfl (by unfold vp_in; decide) dX12_goesBy_39 ?_
  refine G_icmp_ge (pc := 40) (tgt := 104) (by decide) dX12_goesBy_40 (fun _ => ?_) (fun z => absurd (by decide) z)
  refine G_aload_n (pc := 104) rfl dX12_goesBy_104 ?_
  refine G_getR (pc := 105) (r := 68) (ci := 12) (j := 0) rfl lk_RX12_9 rfl rfl rfl dX12_goesBy_105 ?_
  refine G_iconst (pc := 108) (v := 0) (by decide) dX12_goesBy_108 ?_
  refine G_dup2 (pc := 109) rfl rfl dX12_goesBy_109 ?_
  refine G_iald (pc := 110) (jj := 0) (v := 0) (by decide) rfl rfl (by unfold vp_in; decide) dX12_goesBy_110 ?_
  refine G_iconst (pc := 111) (v := 1) (by decide) dX12_goesBy_111 ?_
  refine G_iadd (pc := 112) (z := 1) (by decide) dX12_goesBy_112 ?_
  refine G_iast (pc := 113) (jj := 0) (by decide) rfl (by unfold vp_in; decide) dX12_goesBy_113 ?_
  refine G_aload_n (pc := 114) rfl dX12_goesBy_114 ?_
  refine G_getR (pc := 115) (r := 68) (ci := 12) (j := 0) rfl lk_RX12_9 rfl rfl rfl dX12_goesBy_115 ?_
  refine G_iconst (pc := 118) (v := 2) (by decide) dX12_goesBy_118 ?_
  refine G_dup2 (pc := 119) rfl rfl dX12_goesBy_119 ?_
  refine G_iald (pc := 120) (jj := 2) (v := 0) (by decide) rfl rfl (by unfold vp_in; decide) dX12_goesBy_120 ?_
  refine G_iload_n (pc := 121) rfl dX12_goesBy_121 ?_
  refine G_iadd (pc := 122) (z := 0) (by decide) dX12_goesBy_122 ?_
  refine G_iast (pc := 123) (jj := 2) (by decide) rfl (by unfold vp_in; decide) dX12_goesBy_123 ?_
  refine G_iload_n (pc := 124) rfl dX12_goesBy_124 ?_
  exact G_iret (pc := 125) (Nat.le_of_ble_eq_true rfl) (Nat.le_of_ble_eq_true rfl) rfl dX12_goesBy_125 ⟨rfl, rfl⟩
set_option maxRecDepth 100000 in
set_option maxHeartbeats 4000000 in
theorem z_halt (J : gI) (d : Nat)  : G (d + 2) mX12_halt 0 0 0 0 0 (gent 1 [.ref 67]) [] SH0 RF0 (gmx J) (fun r _ => r = some (.int (F_halt ))) := by
  refine G_aload_n (pc := 0) rfl dX12_halt_0 ?_
  refine G_callV (pc := 1) (mc1 := 0) (ms1 := 0) (ci := 12) (mj := mX12_isOver) (vs := []) dX12_halt_1 rfl rfl cm_X12_isOver wh_22 wh_24 wh_25 rfl (Nat.le_of_ble_eq_true rfl) (Nat.le_of_ble_eq_true rfl) (Nat.le_of_ble_eq_true rfl) (Nat.le_of_ble_eq_true rfl) (s10011_X12_isOver J (d + 1)  ) ?_
  rintro _ _ ⟨rfl, rfl⟩
  dsimp only [Option.toList, List.cons_append, List.nil_append]
  refine G_if_eq (pc := 4) (tgt := 12) (by decide) dX12_halt_4 (fun _ => ?_) (fun z => absurd (by decide) z)
  refine G_aload_n (pc := 12) rfl dX12_halt_12 ?_
  refine G_iconst (pc := 13) (v := (-1)) (by decide) dX12_halt_13 ?_
  refine G_callV (pc := 14) (mc1 := 0) (ms1 := 0) (ci := 12) (mj := mX12_goesBy) (vs := [_]) dX12_halt_14 rfl rfl cm_X12_goesBy wh_72 wh_74 wh_75 rfl (Nat.le_of_ble_eq_true rfl) (Nat.le_of_ble_eq_true rfl) (Nat.le_of_ble_eq_true rfl) (Nat.le_of_ble_eq_true rfl) (s10051_X12_goesBy J d  ) ?_
  rintro _ _ ⟨rfl, rfl⟩
  dsimp only [Option.toList, List.cons_append, List.nil_append]
  exact G_iret (pc := 17) (Nat.le_of_ble_eq_true rfl) (Nat.le_of_ble_eq_true rfl) rfl dX12_halt_17 (by first | rfl | (simp [F_halt, *]; done) | (simp only [F_halt, Int32.le_iff_toInt_le, Int32.lt_iff_toInt_lt, ← Int32.toInt_inj]; simp; omega) | (simp only [F_halt, Int32.le_iff_toInt_le, Int32.lt_iff_toInt_lt, ← Int32.toInt_inj]; split <;> first | rfl | (exfalso; simp at *; omega)) | (unfold F_halt; (repeat' split) <;> first | rfl | (exfalso; (try simp only [Int32.le_iff_toInt_le, Int32.lt_iff_toInt_lt, ← Int32.toInt_inj] at *); first | omega | (simp at *; done) | (simp at *; omega))))
set_option maxRecDepth 100000 in
set_option maxHeartbeats 4000000 in
theorem s10054_X12_byteAt (J : gI) (d : Nat)   : G (d) mX12_byteAt 0 0 0 0 0 (gent 2 [.ref 67, .int 0]) [] SH0 RF0 (gup (gup (gmx J) 67 8 0) 67 13 0) (fun r h => r = some (.int (-1)) ∧ h = (SH0, RF0, (gup (gup (gmx J) 67 8 0) 67 13 0))) := by
  refine G_iload_n (pc := 0) rfl dX12_byteAt_0 ?_
  refine G_aload_n (pc := 1) rfl dX12_byteAt_1 ?_
  refine G_getI (pc := 2) (v := 0) (ci := 12) (j := 6) rfl rfl lk_RX12_126 rfl rfl dX12_byteAt_2 ?_
  refine G_icmp_ge (pc := 5) (tgt := 17) (by decide) dX12_byteAt_5 (fun _ => ?_) (fun z => absurd (by decide) z)
  refine G_iconst (pc := 17) (v := (-1)) (by decide) dX12_byteAt_17 ?_
  exact G_iret (pc := 18) (Nat.le_of_ble_eq_true rfl) (Nat.le_of_ble_eq_true rfl) rfl dX12_byteAt_18 ⟨rfl, rfl⟩
set_option maxRecDepth 100000 in
set_option maxHeartbeats 4000000 in
theorem s10055_X12_byteAt (J : gI) (d : Nat)   : G (d) mX12_byteAt 0 0 0 0 0 (gent 2 [.ref 67, .int 0]) [] SH0 RF0 (gup (gup (gup (gmx J) 67 8 0) 67 13 0) 67 9 0) (fun r h => r = some (.int (-1)) ∧ h = (SH0, RF0, (gup (gup (gup (gmx J) 67 8 0) 67 13 0) 67 9 0))) := by
  refine G_iload_n (pc := 0) rfl dX12_byteAt_0 ?_
  refine G_aload_n (pc := 1) rfl dX12_byteAt_1 ?_
  refine G_getI (pc := 2) (v := 0) (ci := 12) (j := 6) rfl rfl lk_RX12_126 rfl rfl dX12_byteAt_2 ?_
  refine G_icmp_ge (pc := 5) (tgt := 17) (by decide) dX12_byteAt_5 (fun _ => ?_) (fun z => absurd (by decide) z)
  refine G_iconst (pc := 17) (v := (-1)) (by decide) dX12_byteAt_17 ?_
  exact G_iret (pc := 18) (Nat.le_of_ble_eq_true rfl) (Nat.le_of_ble_eq_true rfl) rfl dX12_byteAt_18 ⟨rfl, rfl⟩
set_option maxRecDepth 100000 in
set_option maxHeartbeats 4000000 in
theorem s10053_X12_next (J : gI) (d : Nat)   : G (d + 1) mX12_next 0 0 0 0 0 (gent 2 [.ref 67]) [] SH0 RF0 (gup (gup (gmx J) 67 8 0) 67 13 0) (fun r h => r = none ∧ h = (SH0, RF0, (gup (gup (gup (gup (gmx J) 67 8 0) 67 13 0) 67 9 0) 67 10 (-1)))) := by
  refine G_aload_n (pc := 0) rfl dX12_next_0 ?_
  refine G_aload_n (pc := 1) rfl dX12_next_1 ?_
  refine G_getI (pc := 2) (v := 0) (ci := 12) (j := 8) rfl rfl lk_RX12_130 rfl rfl dX12_next_2 ?_
  refine G_callV (pc := 5) (mc1 := 0) (ms1 := 0) (ci := 12) (mj := mX12_byteAt) (vs := [_]) dX12_next_5 rfl rfl cm_X12_byteAt wh_76 wh_78 wh_79 rfl (Nat.le_of_ble_eq_true rfl) (Nat.le_of_ble_eq_true rfl) (Nat.le_of_ble_eq_true rfl) (Nat.le_of_ble_eq_true rfl) (s10054_X12_byteAt J d  ) ?_
  rintro _ _ ⟨rfl, rfl⟩
  dsimp only [Option.toList, List.cons_append, List.nil_append]
  refine G_bipush (pc := 8) (v := 32) (by decide) dX12_next_8 ?_
  refine G_icmp_ne (pc := 10) (tgt := 26) (by decide) dX12_next_10 (fun _ => ?_) (fun z => absurd z (by decide))
  refine G_aload_n (pc := 26) rfl dX12_next_26 ?_
  refine G_aload_n (pc := 27) rfl dX12_next_27 ?_
  refine G_getI (pc := 28) (v := 0) (ci := 12) (j := 8) rfl rfl lk_RX12_130 rfl rfl dX12_next_28 ?_
  refine G_putI (pc := 31) (ci := 12) (j := 9) rfl lk_RX12_133 rfl rfl rfl trivial dX12_next_31 ?_
  refine G_aload_n (pc := 34) rfl dX12_next_34 ?_
  refine G_aload_n (pc := 35) rfl dX12_next_35 ?_
  refine G_getI (pc := 36) (v := 0) (ci := 12) (j := 8) rfl rfl lk_RX12_130 rfl rfl dX12_next_36 ?_
  refine G_callV (pc := 39) (mc1 := 0) (ms1 := 0) (ci := 12) (mj := mX12_byteAt) (vs := [_]) dX12_next_39 rfl rfl cm_X12_byteAt wh_76 wh_78 wh_79 rfl (Nat.le_of_ble_eq_true rfl) (Nat.le_of_ble_eq_true rfl) (Nat.le_of_ble_eq_true rfl) (Nat.le_of_ble_eq_true rfl) (s10055_X12_byteAt J d  ) ?_
  rintro _ _ ⟨rfl, rfl⟩
  dsimp only [Option.toList, List.cons_append, List.nil_append]
  refine G_istore_n (pc := 42) (L1 := [some (.ref 67), some (.int (-1))]) rfl rfl (by decide) dX12_next_42 ?_
  refine G_iload_n (pc := 43) rfl dX12_next_43 ?_
  refine G_if_ge (pc := 44) (tgt := 55) (by decide) dX12_next_44 (fun z => absurd z (by decide)) (fun _ => ?_)
  refine G_aload_n (pc := 47) rfl dX12_next_47 ?_
  refine G_iconst (pc := 48) (v := (-1)) (by decide) dX12_next_48 ?_
  refine G_putI (pc := 49) (ci := 12) (j := 10) rfl lk_RX12_139 rfl rfl rfl trivial dX12_next_49 ?_
  refine G_goto (pc := 52) (tgt := 110) (by decide) dX12_next_52 ?_
  exact G_vret (pc := 110) (Nat.le_of_ble_eq_true rfl) (Nat.le_of_ble_eq_true rfl) rfl dX12_next_110 ⟨rfl, rfl⟩
set_option maxRecDepth 100000 in
set_option maxHeartbeats 4000000 in
theorem z_rules (J : gI) (d : Nat)  : G (d + 2) mX12_rules 0 0 0 0 0 (gent 4 [.ref 67]) [] SH0 RF0 (gmx J) (fun r _ => r = some (.int (F_rules ))) := by
  refine G_aload_n (pc := 0) rfl dX12_rules_0 ?_
  refine G_iconst (pc := 1) (v := 0) (by decide) dX12_rules_1 ?_
  refine G_putI (pc := 2) (ci := 12) (j := 8) rfl lk_RX12_130 rfl rfl rfl trivial dX12_rules_2 ?_
  refine G_aload_n (pc := 5) rfl dX12_rules_5 ?_
  refine G_iconst (pc := 6) (v := 0) (by decide) dX12_rules_6 ?_
  refine G_putI (pc := 7) (ci := 12) (j := 13) rfl lk_RX12_158 rfl rfl rfl trivial dX12_rules_7 ?_
  refine G_iconst (pc := 10) (v := 0) (by decide) dX12_rules_10 ?_
  refine G_istore_n (pc := 11) (L1 := [some (.ref 67), some (.int 0), none, none]) rfl rfl (by decide) dX12_rules_11 ?_
  refine G_aload_n (pc := 12) rfl dX12_rules_12 ?_
  refine G_callV (pc := 13) (mc1 := 0) (ms1 := 0) (ci := 12) (mj := mX12_next) (vs := []) dX12_rules_13 rfl rfl cm_X12_next wh_80 wh_82 wh_83 rfl (Nat.le_of_ble_eq_true rfl) (Nat.le_of_ble_eq_true rfl) (Nat.le_of_ble_eq_true rfl) (Nat.le_of_ble_eq_true rfl) (s10053_X12_next J d  ) ?_
  rintro _ _ ⟨rfl, rfl⟩
  dsimp only [Option.toList, List.cons_append, List.nil_append]
  refine G_iconst (pc := 16) (v := 1) (by decide) dX12_rules_16 ?_
  refine G_istore_n (pc := 17) (L1 := [some (.ref 67), some (.int 0), some (.int 1), none]) rfl rfl (by decide) dX12_rules_17 ?_
  refine G_iload_n (pc := 18) rfl dX12_rules_18 ?_
  refine G_if_eq (pc := 19) (tgt := 42) (by decide) dX12_rules_19 (fun z => absurd z (by decide)) (fun _ => ?_)
  refine G_aload_n (pc := 22) rfl dX12_rules_22 ?_
  refine G_getI (pc := 23) (v := (-1)) (ci := 12) (j := 10) rfl rfl lk_RX12_139 rfl rfl dX12_rules_23 ?_
  refine G_iconst (pc := 26) (v := (-1)) (by decide) dX12_rules_26 ?_
  refine G_icmp_eq (pc := 27) (tgt := 42) (by decide) dX12_rules_27 (fun _ => ?_) (fun z => absurd (by decide) z)
  refine G_aload_n (pc := 42) rfl dX12_rules_42 ?_
  refine G_iconst (pc := 43) (v := 0) (by decide) dX12_rules_43 ?_
  refine G_putI (pc := 44) (ci := 12) (j := 6) rfl lk_RX12_126 rfl rfl rfl trivial dX12_rules_44 ?_
  refine G_iload_n (pc := 47) rfl dX12_rules_47 ?_
  refine G_if_ne (pc := 48) (tgt := 59) (by decide) dX12_rules_48 (fun _ => ?_) (fun z => absurd z (by decide))
  refine G_aload_n (pc := 59) rfl dX12_rules_59 ?_
  refine G_getR (pc := 60) (r := 68) (ci := 12) (j := 0) rfl lk_RX12_9 rfl rfl rfl dX12_rules_60 ?_
  refine G_iconst (pc := 63) (v := 5) (by decide) dX12_rules_63 ?_
  refine G_iload_n (pc := 64) rfl dX12_rules_64 ?_
  refine G_iast (pc := 65) (jj := 5) (by decide) rfl (by unfold vp_in; decide) dX12_rules_65 ?_
  refine G_iconst (pc := 66) (v := 0) (by decide) dX12_rules_66 ?_
  refine G_istore_n (pc := 67) (L1 := [some (.ref 67), some (.int 0), some (.int 1), some (.int 0)]) rfl rfl (by decide) dX12_rules_67 ?_
  refine G_iload_n (pc := 68) rfl dX12_rules_68 ?_
  refine G_iconst (pc := 69) (v := 3) (by decide) dX12_rules_69 ?_
  refine G_iload_n (pc := 70) rfl dX12_rules_70 ?_
  refine G_imul (pc := 71) (z := 0) (by decide) dX12_rules_71 ?_
  refine G_icmp_ge (pc := 72) (tgt := 96) (by decide) dX12_rules_72 (fun _ => ?_) (fun z => absurd (by decide) z)
  refine G_iconst (pc := 96) (v := 0) (by decide) dX12_rules_96 ?_
  refine G_istore_n (pc := 97) (L1 := [some (.ref 67), some (.int 0), some (.int 1), some (.int 0)]) rfl rfl (by decide) dX12_rules_97 ?_
  refine G_iload_n (pc := 98) rfl dX12_rules_98 ?_
  refine G_aload_n (pc := 99) rfl dX12_rules_99 ?_
  refine G_getI (pc := 100) (v := 0) (ci := 12) (j := 13) rfl rfl lk_RX12_158 rfl rfl dX12_rules_100 ?_
  refine G_icmp_ge (pc := 103) (tgt := 127) (by decide) dX12_rules_103 (fun _ => ?_) (fun z => absurd (by decide) z)
  refine G_iload_n (pc := 127) rfl dX12_rules_127 ?_
  exact G_iret (pc := 128) (Nat.le_of_ble_eq_true rfl) (Nat.le_of_ble_eq_true rfl) rfl dX12_rules_128 (by first | rfl | (simp [F_rules, *]; done) | (simp only [F_rules, Int32.le_iff_toInt_le, Int32.lt_iff_toInt_lt, ← Int32.toInt_inj]; simp; omega) | (simp only [F_rules, Int32.le_iff_toInt_le, Int32.lt_iff_toInt_lt, ← Int32.toInt_inj]; split <;> first | rfl | (exfalso; simp at *; omega)) | (unfold F_rules; (repeat' split) <;> first | rfl | (exfalso; (try simp only [Int32.le_iff_toInt_le, Int32.lt_iff_toInt_lt, ← Int32.toInt_inj] at *); first | omega | (simp at *; done) | (simp at *; omega))))
set_option maxRecDepth 100000 in
set_option maxHeartbeats 4000000 in
theorem z_judge (J : gI) (d : Nat)  : G (d + 1) mX12_judge 0 0 0 0 0 (gent 6 [.ref 67]) [] SH0 RF0 (gmx J) (fun r _ => r = some (.int (F_judge ))) := by
  refine G_aload_n (pc := 0) rfl dX12_judge_0 ?_
  refine G_callV (pc := 1) (mc1 := 0) (ms1 := 0) (ci := 12) (mj := mX12_layDown) (vs := []) dX12_judge_1 rfl rfl cm_X12_layDown wh_53 wh_55 wh_56 rfl (Nat.le_of_ble_eq_true rfl) (Nat.le_of_ble_eq_true rfl) (Nat.le_of_ble_eq_true rfl) (Nat.le_of_ble_eq_true rfl) (layDown_s d (gmx J)) ?_
  rintro _ _ ⟨rfl, rfl⟩
  dsimp only [Option.toList, List.cons_append, List.nil_append]
  refine G_iconst (pc := 4) (v := 0) (by decide) dX12_judge_4 ?_
  refine G_istore_n (pc := 5) (L1 := [some (.ref 67), some (.int 0), none, none, none, none]) rfl rfl (by decide) dX12_judge_5 ?_
  refine G_iconst (pc := 6) (v := 0) (by decide) dX12_judge_6 ?_
  refine G_istore_n (pc := 7) (L1 := [some (.ref 67), some (.int 0), some (.int 0), none, none, none]) rfl rfl (by decide) dX12_judge_7 ?_
  refine G_iload_n (pc := 8) rfl dX12_judge_8 ?_
  refine G_aload_n (pc := 9) rfl dX12_judge_9 ?_
  refine G_getI (pc := 10) (v := 0) (ci := 12) (j := 27) rfl rfl lk_RX12_317 rfl rfl dX12_judge_10 ?_
  refine G_icmp_ge (pc := 13) (tgt := 133) (by decide) dX12_judge_13 (fun _ => ?_) (fun z => absurd (by decide) z)
  refine G_aload_n (pc := 133) rfl dX12_judge_133 ?_
  refine G_callV (pc := 134) (mc1 := 0) (ms1 := 0) (ci := 12) (mj := mX12_layBack) (vs := []) dX12_judge_134 rfl rfl cm_X12_layBack wh_57 wh_59 wh_60 rfl (Nat.le_of_ble_eq_true rfl) (Nat.le_of_ble_eq_true rfl) (Nat.le_of_ble_eq_true rfl) (Nat.le_of_ble_eq_true rfl) (layBack_s d (gcp (gmx J) 68 70 0 0 65)) ?_
  rintro _ _ ⟨rfl, rfl⟩
  dsimp only [Option.toList, List.cons_append, List.nil_append]
  refine G_iload_n (pc := 137) rfl dX12_judge_137 ?_
  exact G_iret (pc := 138) (Nat.le_of_ble_eq_true rfl) (Nat.le_of_ble_eq_true rfl) rfl dX12_judge_138 (by first | rfl | (simp [F_judge, *]; done) | (simp only [F_judge, Int32.le_iff_toInt_le, Int32.lt_iff_toInt_lt, ← Int32.toInt_inj]; simp; omega) | (simp only [F_judge, Int32.le_iff_toInt_le, Int32.lt_iff_toInt_lt, ← Int32.toInt_inj]; split <;> first | rfl | (exfalso; simp at *; omega)) | (unfold F_judge; (repeat' split) <;> first | rfl | (exfalso; (try simp only [Int32.le_iff_toInt_le, Int32.lt_iff_toInt_lt, ← Int32.toInt_inj] at *); first | omega | (simp at *; done) | (simp at *; omega))))
set_option maxRecDepth 100000 in
set_option maxHeartbeats 4000000 in
theorem s10057_X12_goesBy (J : gI) (d : Nat)   : G (d) mX12_goesBy 0 0 0 0 0 (gent 5 [.ref 67, .int 0]) [] SH0 RF0 (gup (gmx J) 68 3 1103527590) (fun r h => r = some (.int 0) ∧ h = (SH0, RF0, (gup (gup (gup (gmx J) 68 3 1103527590) 68 0 1) 68 2 0))) := by
  refine G_iload_n (pc := 0) rfl dX12_goesBy_0 ?_
  refine G_if_ge (pc := 1) (tgt := 11) (by decide) dX12_goesBy_1 (fun _ => ?_) (fun z => absurd (by decide) z)
  refine G_iload_n (pc := 11) rfl dX12_goesBy_11 ?_
  refine G_iconst (pc := 12) (v := 1) (by decide) dX12_goesBy_12 ?_
  refine G_isub (pc := 13) (z := (-1)) (by decide) dX12_goesBy_13 ?_
  refine G_istore_n (pc := 14) (L1 := [some (.ref 67), some (.int 0), some (.int (-1)), none, none]) rfl rfl (by decide) dX12_goesBy_14 ?_
  refine G_iload_n (pc := 15) rfl dX12_goesBy_15 ?_
  refine G_if_lt (pc := 16) (tgt := 27) (by decide) dX12_goesBy_16 (fun _ => ?_) (fun z => absurd (by decide) z)
  refine G_iconst (pc := 27) (v := 0) (by decide) dX12_goesBy_27 ?_
  refine G_istore_n (pc := 28) (L1 := [some (.ref 67), some (.int 0), some (.int (-1)), some (.int 0), none]) rfl rfl (by decide) dX12_goesBy_28 ?_
  refine G_iconst (pc := 29) (v := 0) (by decide) dX12_goesBy_29 ?_
  refine G_istore (pc := 30) (L1 := [some (.ref 67), some (.int 0), some (.int (-1)), some (.int 0), some (.int 0)]) rfl rfl (by decide) dX12_goesBy_30 ?_
  refine G_iload (pc := 32) rfl dX12_goesBy_32 ?_
  refine G_aload_n (pc := 34) rfl dX12_goesBy_34 ?_
  refine G_getR (pc := 35) (r := 68) (ci := 12) (j := 0) rfl lk_RX12_9 rfl rfl rfl dX12_goesBy_35 ?_
  refine G_iconst (pc := 38) (v := 4) (by decide) dX12_goesBy_38 ?_
  refine G_iald (pc := 39) (jj := 4) (v := 0) (by decide) rfl rfl (by unfold vp_in; decide) dX12_goesBy_39 ?_
  refine G_icmp_ge (pc := 40) (tgt := 104) (by decide) dX12_goesBy_40 (fun _ => ?_) (fun z => absurd (by decide) z)
  refine G_aload_n (pc := 104) rfl dX12_goesBy_104 ?_
  refine G_getR (pc := 105) (r := 68) (ci := 12) (j := 0) rfl lk_RX12_9 rfl rfl rfl dX12_goesBy_105 ?_
  refine G_iconst (pc := 108) (v := 0) (by decide) dX12_goesBy_108 ?_
  refine G_dup2 (pc := 109) rfl rfl dX12_goesBy_109 ?_
  refine G_iald (pc := 110) (jj := 0) (v := 0) (by decide) rfl rfl (by unfold vp_in; decide) dX12_goesBy_110 ?_
  refine G_iconst (pc := 111) (v := 1) (by decide) dX12_goesBy_111 ?_
  refine G_iadd (pc := 112) (z := 1) (by decide) dX12_goesBy_112 ?_
  refine G_iast (pc := 113) (jj := 0) (by decide) rfl (by unfold vp_in; decide) dX12_goesBy_113 ?_
  refine G_aload_n (pc := 114) rfl dX12_goesBy_114 ?_
  refine G_getR (pc := 115) (r := 68) (ci := 12) (j := 0) rfl lk_RX12_9 rfl rfl rfl dX12_goesBy_115 ?_
  refine G_iconst (pc := 118) (v := 2) (by decide) dX12_goesBy_118 ?_
  refine G_dup2 (pc := 119) rfl rfl dX12_goesBy_119 ?_
  refine G_iald (pc := 120) (jj := 2) (v := 0) (by decide) rfl rfl (by unfold vp_in; decide) dX12_goesBy_120 ?_
  refine G_iload_n (pc := 121) rfl dX12_goesBy_121 ?_
  refine G_iadd (pc := 122) (z := 0) (by decide) dX12_goesBy_122 ?_
  refine G_iast (pc := 123) (jj := 2) (by decide) rfl (by unfold vp_in; decide) dX12_goesBy_123 ?_
  refine G_iload_n (pc := 124) rfl dX12_goesBy_124 ?_
  exact G_iret (pc := 125) (Nat.le_of_ble_eq_true rfl) (Nat.le_of_ble_eq_true rfl) rfl dX12_goesBy_125 ⟨rfl, rfl⟩
set_option maxRecDepth 100000 in
set_option maxHeartbeats 4000000 in
theorem s10056_X12_byLot (J : gI) (d : Nat)   : G (d + 1) mX12_byLot 0 0 0 0 0 (gent 1 [.ref 67]) [] SH0 RF0 (gmx J) (fun r h => r = some (.int 0) ∧ h = (SH0, RF0, (gup (gup (gup (gmx J) 68 3 1103527590) 68 0 1) 68 2 0))) := by
  refine G_aload_n (pc := 0) rfl dX12_byLot_0 ?_
  refine G_getR (pc := 1) (r := 68) (ci := 12) (j := 0) rfl lk_RX12_9 rfl rfl rfl dX12_byLot_1 ?_
  refine G_iconst (pc := 4) (v := 3) (by decide) dX12_byLot_4 ?_
  refine G_aload_n (pc := 5) rfl dX12_byLot_5 ?_
  refine G_getR (pc := 6) (r := 68) (ci := 12) (j := 0) rfl lk_RX12_9 rfl rfl rfl dX12_byLot_6 ?_
  refine G_iconst (pc := 9) (v := 3) (by decide) dX12_byLot_9 ?_
  refine G_iald (pc := 10) (jj := 3) (v := 1) (by decide) rfl rfl (by unfold vp_in; decide) dX12_byLot_10 ?_
  refine G_ldcw (pc := 11) (v := 1103515245) ck_RX12_313 dX12_byLot_11 ?_
  refine G_imul (pc := 14) (z := 1103515245) (by decide) dX12_byLot_14 ?_
  refine G_sipush (pc := 15) (v := 12345) (by decide) dX12_byLot_15 ?_
  refine G_iadd (pc := 18) (z := 1103527590) (by decide) dX12_byLot_18 ?_
  refine G_iast (pc := 19) (jj := 3) (by decide) rfl (by unfold vp_in; decide) dX12_byLot_19 ?_
  refine G_aload_n (pc := 20) rfl dX12_byLot_20 ?_
  refine G_aload_n (pc := 21) rfl dX12_byLot_21 ?_
  refine G_getR (pc := 22) (r := 68) (ci := 12) (j := 0) rfl lk_RX12_9 rfl rfl rfl dX12_byLot_22 ?_
  refine G_iconst (pc := 25) (v := 3) (by decide) dX12_byLot_25 ?_
  refine G_iald (pc := 26) (jj := 3) (v := 1103527590) (by decide) rfl rfl (by unfold vp_in; decide) dX12_byLot_26 ?_
  refine G_bipush (pc := 27) (v := 16) (by decide) dX12_byLot_27 ?_
  refine G_iushr (pc := 29) (zz := .int 16838) (by decide) dX12_byLot_29 ?_
  refine G_aload_n (pc := 30) rfl dX12_byLot_30 ?_
  refine G_getR (pc := 31) (r := 68) (ci := 12) (j := 0) rfl lk_RX12_9 rfl rfl rfl dX12_byLot_31 ?_
  refine G_iconst (pc := 34) (v := 4) (by decide) dX12_byLot_34 ?_
  refine G_iald (pc := 35) (jj := 4) (v := 0) (by decide) rfl rfl (by unfold vp_in; decide) dX12_byLot_35 ?_
  refine G_iconst (pc := 36) (v := 1) (by decide) dX12_byLot_36 ?_
  refine G_iadd (pc := 37) (z := 1) (by decide) dX12_byLot_37 ?_
  refine G_irem (pc := 38) (z := 0) (by decide) (by decide) dX12_byLot_38 ?_
  refine G_callV (pc := 39) (mc1 := 0) (ms1 := 0) (ci := 12) (mj := mX12_goesBy) (vs := [_]) dX12_byLot_39 rfl rfl cm_X12_goesBy wh_72 wh_74 wh_75 rfl (Nat.le_of_ble_eq_true rfl) (Nat.le_of_ble_eq_true rfl) (Nat.le_of_ble_eq_true rfl) (Nat.le_of_ble_eq_true rfl) (s10057_X12_goesBy J d  ) ?_
  rintro _ _ ⟨rfl, rfl⟩
  dsimp only [Option.toList, List.cons_append, List.nil_append]
  exact G_iret (pc := 42) (Nat.le_of_ble_eq_true rfl) (Nat.le_of_ble_eq_true rfl) rfl dX12_byLot_42 ⟨rfl, rfl⟩
set_option maxRecDepth 100000 in
set_option maxHeartbeats 4000000 in
theorem z_lot (J : gI) (d : Nat)  : G (d + 2) mX12_lot 0 0 0 0 0 (gent 1 [.ref 67]) [] SH0 RF0 (gmx J) (fun r _ => r = some (.int (F_lot ))) := by
  refine G_aload_n (pc := 0) rfl dX12_lot_0 ?_
  refine G_callV (pc := 1) (mc1 := 0) (ms1 := 0) (ci := 12) (mj := mX12_isOver) (vs := []) dX12_lot_1 rfl rfl cm_X12_isOver wh_22 wh_24 wh_25 rfl (Nat.le_of_ble_eq_true rfl) (Nat.le_of_ble_eq_true rfl) (Nat.le_of_ble_eq_true rfl) (Nat.le_of_ble_eq_true rfl) (s10011_X12_isOver J (d + 1)  ) ?_
  rintro _ _ ⟨rfl, rfl⟩
  dsimp only [Option.toList, List.cons_append, List.nil_append]
  refine G_if_eq (pc := 4) (tgt := 12) (by decide) dX12_lot_4 (fun _ => ?_) (fun z => absurd (by decide) z)
  refine G_aload_n (pc := 12) rfl dX12_lot_12 ?_
  refine G_callV (pc := 13) (mc1 := 0) (ms1 := 0) (ci := 12) (mj := mX12_byLot) (vs := []) dX12_lot_13 rfl rfl cm_X12_byLot wh_84 wh_86 wh_87 rfl (Nat.le_of_ble_eq_true rfl) (Nat.le_of_ble_eq_true rfl) (Nat.le_of_ble_eq_true rfl) (Nat.le_of_ble_eq_true rfl) (s10056_X12_byLot J d  ) ?_
  rintro _ _ ⟨rfl, rfl⟩
  dsimp only [Option.toList, List.cons_append, List.nil_append]
  exact G_iret (pc := 16) (Nat.le_of_ble_eq_true rfl) (Nat.le_of_ble_eq_true rfl) rfl dX12_lot_16 (by first | rfl | (simp [F_lot, *]; done) | (simp only [F_lot, Int32.le_iff_toInt_le, Int32.lt_iff_toInt_lt, ← Int32.toInt_inj]; simp; omega) | (simp only [F_lot, Int32.le_iff_toInt_le, Int32.lt_iff_toInt_lt, ← Int32.toInt_inj]; split <;> first | rfl | (exfalso; simp at *; omega)) | (unfold F_lot; (repeat' split) <;> first | rfl | (exfalso; (try simp only [Int32.le_iff_toInt_le, Int32.lt_iff_toInt_lt, ← Int32.toInt_inj] at *); first | omega | (simp at *; done) | (simp at *; omega))))
set_option maxRecDepth 100000 in
set_option maxHeartbeats 4000000 in
theorem s10058_X12_becomes (J : gI) (d : Nat)  (a0 : Int32) : G (d) mX12_becomes 0 0 0 0 0 (gent 4 [.ref 67, .int 7, .int a0]) [] SH0 RF0 (gmx J) (fun r h => r = some (.int 5) ∧ h = (SH0, RF0, (gup (gmx J) 68 7 a0))) := by
  refine G_aload_n (pc := 0) rfl dX12_becomes_0 ?_
  refine G_getR (pc := 1) (r := 68) (ci := 12) (j := 0) rfl lk_RX12_9 rfl rfl rfl dX12_becomes_1 ?_
  refine G_iload_n (pc := 4) rfl dX12_becomes_4 ?_
  refine G_iald (pc := 5) (jj := 7) (v := 5) (by decide) rfl rfl (by unfold vp_in; decide) dX12_becomes_5 ?_
  refine G_istore_n (pc := 6) (L1 := [some (.ref 67), some (.int 7), some (.int a0), some (.int 5)]) rfl rfl (by decide) dX12_becomes_6 ?_
  refine G_aload_n (pc := 7) rfl dX12_becomes_7 ?_
  refine G_getR (pc := 8) (r := 68) (ci := 12) (j := 0) rfl lk_RX12_9 rfl rfl rfl dX12_becomes_8 ?_
  refine G_iload_n (pc := 11) rfl dX12_becomes_11 ?_
  refine G_iload_n (pc := 12) rfl dX12_becomes_12 ?_
  refine G_iast (pc := 13) (jj := 7) (by decide) rfl (by unfold vp_in; decide) dX12_becomes_13 ?_
  refine G_iload_n (pc := 14) rfl dX12_becomes_14 ?_
  exact G_iret (pc := 15) (Nat.le_of_ble_eq_true rfl) (Nat.le_of_ble_eq_true rfl) rfl dX12_becomes_15 ⟨rfl, rfl⟩
set_option maxRecDepth 100000 in
set_option maxHeartbeats 4000000 in
theorem s10059_X12_becomes (J : gI) (d : Nat)  (a0 : Int32) : G (d) mX12_becomes 0 0 0 0 0 (gent 4 [.ref 67, .int 8, .int a0]) [] SH0 RF0 (gmx J) (fun r h => r = some (.int 5) ∧ h = (SH0, RF0, (gup (gmx J) 68 8 a0))) := by
  refine G_aload_n (pc := 0) rfl dX12_becomes_0 ?_
  refine G_getR (pc := 1) (r := 68) (ci := 12) (j := 0) rfl lk_RX12_9 rfl rfl rfl dX12_becomes_1 ?_
  refine G_iload_n (pc := 4) rfl dX12_becomes_4 ?_
  refine G_iald (pc := 5) (jj := 8) (v := 5) (by decide) rfl rfl (by unfold vp_in; decide) dX12_becomes_5 ?_
  refine G_istore_n (pc := 6) (L1 := [some (.ref 67), some (.int 8), some (.int a0), some (.int 5)]) rfl rfl (by decide) dX12_becomes_6 ?_
  refine G_aload_n (pc := 7) rfl dX12_becomes_7 ?_
  refine G_getR (pc := 8) (r := 68) (ci := 12) (j := 0) rfl lk_RX12_9 rfl rfl rfl dX12_becomes_8 ?_
  refine G_iload_n (pc := 11) rfl dX12_becomes_11 ?_
  refine G_iload_n (pc := 12) rfl dX12_becomes_12 ?_
  refine G_iast (pc := 13) (jj := 8) (by decide) rfl (by unfold vp_in; decide) dX12_becomes_13 ?_
  refine G_iload_n (pc := 14) rfl dX12_becomes_14 ?_
  exact G_iret (pc := 15) (Nat.le_of_ble_eq_true rfl) (Nat.le_of_ble_eq_true rfl) rfl dX12_becomes_15 ⟨rfl, rfl⟩
set_option maxRecDepth 100000 in
set_option maxHeartbeats 4000000 in
theorem s10060_X12_becomes (J : gI) (d : Nat)  (a0 : Int32) : G (d) mX12_becomes 0 0 0 0 0 (gent 4 [.ref 67, .int 9, .int a0]) [] SH0 RF0 (gmx J) (fun r h => r = some (.int 5) ∧ h = (SH0, RF0, (gup (gmx J) 68 9 a0))) := by
  refine G_aload_n (pc := 0) rfl dX12_becomes_0 ?_
  refine G_getR (pc := 1) (r := 68) (ci := 12) (j := 0) rfl lk_RX12_9 rfl rfl rfl dX12_becomes_1 ?_
  refine G_iload_n (pc := 4) rfl dX12_becomes_4 ?_
  refine G_iald (pc := 5) (jj := 9) (v := 5) (by decide) rfl rfl (by unfold vp_in; decide) dX12_becomes_5 ?_
  refine G_istore_n (pc := 6) (L1 := [some (.ref 67), some (.int 9), some (.int a0), some (.int 5)]) rfl rfl (by decide) dX12_becomes_6 ?_
  refine G_aload_n (pc := 7) rfl dX12_becomes_7 ?_
  refine G_getR (pc := 8) (r := 68) (ci := 12) (j := 0) rfl lk_RX12_9 rfl rfl rfl dX12_becomes_8 ?_
  refine G_iload_n (pc := 11) rfl dX12_becomes_11 ?_
  refine G_iload_n (pc := 12) rfl dX12_becomes_12 ?_
  refine G_iast (pc := 13) (jj := 9) (by decide) rfl (by unfold vp_in; decide) dX12_becomes_13 ?_
  refine G_iload_n (pc := 14) rfl dX12_becomes_14 ?_
  exact G_iret (pc := 15) (Nat.le_of_ble_eq_true rfl) (Nat.le_of_ble_eq_true rfl) rfl dX12_becomes_15 ⟨rfl, rfl⟩
set_option maxRecDepth 100000 in
set_option maxHeartbeats 4000000 in
theorem s10061_X12_becomes (J : gI) (d : Nat)  (a0 : Int32) : G (d) mX12_becomes 0 0 0 0 0 (gent 4 [.ref 67, .int 10, .int a0]) [] SH0 RF0 (gmx J) (fun r h => r = some (.int 5) ∧ h = (SH0, RF0, (gup (gmx J) 68 10 a0))) := by
  refine G_aload_n (pc := 0) rfl dX12_becomes_0 ?_
  refine G_getR (pc := 1) (r := 68) (ci := 12) (j := 0) rfl lk_RX12_9 rfl rfl rfl dX12_becomes_1 ?_
  refine G_iload_n (pc := 4) rfl dX12_becomes_4 ?_
  refine G_iald (pc := 5) (jj := 10) (v := 5) (by decide) rfl rfl (by unfold vp_in; decide) dX12_becomes_5 ?_
  refine G_istore_n (pc := 6) (L1 := [some (.ref 67), some (.int 10), some (.int a0), some (.int 5)]) rfl rfl (by decide) dX12_becomes_6 ?_
  refine G_aload_n (pc := 7) rfl dX12_becomes_7 ?_
  refine G_getR (pc := 8) (r := 68) (ci := 12) (j := 0) rfl lk_RX12_9 rfl rfl rfl dX12_becomes_8 ?_
  refine G_iload_n (pc := 11) rfl dX12_becomes_11 ?_
  refine G_iload_n (pc := 12) rfl dX12_becomes_12 ?_
  refine G_iast (pc := 13) (jj := 10) (by decide) rfl (by unfold vp_in; decide) dX12_becomes_13 ?_
  refine G_iload_n (pc := 14) rfl dX12_becomes_14 ?_
  exact G_iret (pc := 15) (Nat.le_of_ble_eq_true rfl) (Nat.le_of_ble_eq_true rfl) rfl dX12_becomes_15 ⟨rfl, rfl⟩
set_option maxRecDepth 100000 in
set_option maxHeartbeats 4000000 in
theorem s10062_X12_becomes (J : gI) (d : Nat)  (a0 : Int32) : G (d) mX12_becomes 0 0 0 0 0 (gent 4 [.ref 67, .int 11, .int a0]) [] SH0 RF0 (gmx J) (fun r h => r = some (.int 5) ∧ h = (SH0, RF0, (gup (gmx J) 68 11 a0))) := by
  refine G_aload_n (pc := 0) rfl dX12_becomes_0 ?_
  refine G_getR (pc := 1) (r := 68) (ci := 12) (j := 0) rfl lk_RX12_9 rfl rfl rfl dX12_becomes_1 ?_
  refine G_iload_n (pc := 4) rfl dX12_becomes_4 ?_
  refine G_iald (pc := 5) (jj := 11) (v := 5) (by decide) rfl rfl (by unfold vp_in; decide) dX12_becomes_5 ?_
  refine G_istore_n (pc := 6) (L1 := [some (.ref 67), some (.int 11), some (.int a0), some (.int 5)]) rfl rfl (by decide) dX12_becomes_6 ?_
  refine G_aload_n (pc := 7) rfl dX12_becomes_7 ?_
  refine G_getR (pc := 8) (r := 68) (ci := 12) (j := 0) rfl lk_RX12_9 rfl rfl rfl dX12_becomes_8 ?_
  refine G_iload_n (pc := 11) rfl dX12_becomes_11 ?_
  refine G_iload_n (pc := 12) rfl dX12_becomes_12 ?_
  refine G_iast (pc := 13) (jj := 11) (by decide) rfl (by unfold vp_in; decide) dX12_becomes_13 ?_
  refine G_iload_n (pc := 14) rfl dX12_becomes_14 ?_
  exact G_iret (pc := 15) (Nat.le_of_ble_eq_true rfl) (Nat.le_of_ble_eq_true rfl) rfl dX12_becomes_15 ⟨rfl, rfl⟩
set_option maxRecDepth 100000 in
set_option maxHeartbeats 4000000 in
theorem s10063_X12_becomes (J : gI) (d : Nat)  (a0 : Int32) : G (d) mX12_becomes 0 0 0 0 0 (gent 4 [.ref 67, .int 12, .int a0]) [] SH0 RF0 (gmx J) (fun r h => r = some (.int 5) ∧ h = (SH0, RF0, (gup (gmx J) 68 12 a0))) := by
  refine G_aload_n (pc := 0) rfl dX12_becomes_0 ?_
  refine G_getR (pc := 1) (r := 68) (ci := 12) (j := 0) rfl lk_RX12_9 rfl rfl rfl dX12_becomes_1 ?_
  refine G_iload_n (pc := 4) rfl dX12_becomes_4 ?_
  refine G_iald (pc := 5) (jj := 12) (v := 5) (by decide) rfl rfl (by unfold vp_in; decide) dX12_becomes_5 ?_
  refine G_istore_n (pc := 6) (L1 := [some (.ref 67), some (.int 12), some (.int a0), some (.int 5)]) rfl rfl (by decide) dX12_becomes_6 ?_
  refine G_aload_n (pc := 7) rfl dX12_becomes_7 ?_
  refine G_getR (pc := 8) (r := 68) (ci := 12) (j := 0) rfl lk_RX12_9 rfl rfl rfl dX12_becomes_8 ?_
  refine G_iload_n (pc := 11) rfl dX12_becomes_11 ?_
  refine G_iload_n (pc := 12) rfl dX12_becomes_12 ?_
  refine G_iast (pc := 13) (jj := 12) (by decide) rfl (by unfold vp_in; decide) dX12_becomes_13 ?_
  refine G_iload_n (pc := 14) rfl dX12_becomes_14 ?_
  exact G_iret (pc := 15) (Nat.le_of_ble_eq_true rfl) (Nat.le_of_ble_eq_true rfl) rfl dX12_becomes_15 ⟨rfl, rfl⟩
set_option maxRecDepth 100000 in
set_option maxHeartbeats 4000000 in
theorem s10064_X12_becomes (J : gI) (d : Nat)  (a0 : Int32) : G (d) mX12_becomes 0 0 0 0 0 (gent 4 [.ref 67, .int 13, .int a0]) [] SH0 RF0 (gmx J) (fun r h => r = some (.int 5) ∧ h = (SH0, RF0, (gup (gmx J) 68 13 a0))) := by
  refine G_aload_n (pc := 0) rfl dX12_becomes_0 ?_
  refine G_getR (pc := 1) (r := 68) (ci := 12) (j := 0) rfl lk_RX12_9 rfl rfl rfl dX12_becomes_1 ?_
  refine G_iload_n (pc := 4) rfl dX12_becomes_4 ?_
  refine G_iald (pc := 5) (jj := 13) (v := 5) (by decide) rfl rfl (by unfold vp_in; decide) dX12_becomes_5 ?_
  refine G_istore_n (pc := 6) (L1 := [some (.ref 67), some (.int 13), some (.int a0), some (.int 5)]) rfl rfl (by decide) dX12_becomes_6 ?_
  refine G_aload_n (pc := 7) rfl dX12_becomes_7 ?_
  refine G_getR (pc := 8) (r := 68) (ci := 12) (j := 0) rfl lk_RX12_9 rfl rfl rfl dX12_becomes_8 ?_
  refine G_iload_n (pc := 11) rfl dX12_becomes_11 ?_
  refine G_iload_n (pc := 12) rfl dX12_becomes_12 ?_
  refine G_iast (pc := 13) (jj := 13) (by decide) rfl (by unfold vp_in; decide) dX12_becomes_13 ?_
  refine G_iload_n (pc := 14) rfl dX12_becomes_14 ?_
  exact G_iret (pc := 15) (Nat.le_of_ble_eq_true rfl) (Nat.le_of_ble_eq_true rfl) rfl dX12_becomes_15 ⟨rfl, rfl⟩
set_option maxRecDepth 100000 in
set_option maxHeartbeats 4000000 in
theorem s10065_X12_becomes (J : gI) (d : Nat)  (a0 : Int32) : G (d) mX12_becomes 0 0 0 0 0 (gent 4 [.ref 67, .int 14, .int a0]) [] SH0 RF0 (gmx J) (fun r h => r = some (.int 5) ∧ h = (SH0, RF0, (gup (gmx J) 68 14 a0))) := by
  refine G_aload_n (pc := 0) rfl dX12_becomes_0 ?_
  refine G_getR (pc := 1) (r := 68) (ci := 12) (j := 0) rfl lk_RX12_9 rfl rfl rfl dX12_becomes_1 ?_
  refine G_iload_n (pc := 4) rfl dX12_becomes_4 ?_
  refine G_iald (pc := 5) (jj := 14) (v := 5) (by decide) rfl rfl (by unfold vp_in; decide) dX12_becomes_5 ?_
  refine G_istore_n (pc := 6) (L1 := [some (.ref 67), some (.int 14), some (.int a0), some (.int 5)]) rfl rfl (by decide) dX12_becomes_6 ?_
  refine G_aload_n (pc := 7) rfl dX12_becomes_7 ?_
  refine G_getR (pc := 8) (r := 68) (ci := 12) (j := 0) rfl lk_RX12_9 rfl rfl rfl dX12_becomes_8 ?_
  refine G_iload_n (pc := 11) rfl dX12_becomes_11 ?_
  refine G_iload_n (pc := 12) rfl dX12_becomes_12 ?_
  refine G_iast (pc := 13) (jj := 14) (by decide) rfl (by unfold vp_in; decide) dX12_becomes_13 ?_
  refine G_iload_n (pc := 14) rfl dX12_becomes_14 ?_
  exact G_iret (pc := 15) (Nat.le_of_ble_eq_true rfl) (Nat.le_of_ble_eq_true rfl) rfl dX12_becomes_15 ⟨rfl, rfl⟩
set_option maxRecDepth 100000 in
set_option maxHeartbeats 4000000 in
theorem s10066_X12_becomes (J : gI) (d : Nat)  (a0 : Int32) : G (d) mX12_becomes 0 0 0 0 0 (gent 4 [.ref 67, .int 15, .int a0]) [] SH0 RF0 (gmx J) (fun r h => r = some (.int 5) ∧ h = (SH0, RF0, (gup (gmx J) 68 15 a0))) := by
  refine G_aload_n (pc := 0) rfl dX12_becomes_0 ?_
  refine G_getR (pc := 1) (r := 68) (ci := 12) (j := 0) rfl lk_RX12_9 rfl rfl rfl dX12_becomes_1 ?_
  refine G_iload_n (pc := 4) rfl dX12_becomes_4 ?_
  refine G_iald (pc := 5) (jj := 15) (v := 5) (by decide) rfl rfl (by unfold vp_in; decide) dX12_becomes_5 ?_
  refine G_istore_n (pc := 6) (L1 := [some (.ref 67), some (.int 15), some (.int a0), some (.int 5)]) rfl rfl (by decide) dX12_becomes_6 ?_
  refine G_aload_n (pc := 7) rfl dX12_becomes_7 ?_
  refine G_getR (pc := 8) (r := 68) (ci := 12) (j := 0) rfl lk_RX12_9 rfl rfl rfl dX12_becomes_8 ?_
  refine G_iload_n (pc := 11) rfl dX12_becomes_11 ?_
  refine G_iload_n (pc := 12) rfl dX12_becomes_12 ?_
  refine G_iast (pc := 13) (jj := 15) (by decide) rfl (by unfold vp_in; decide) dX12_becomes_13 ?_
  refine G_iload_n (pc := 14) rfl dX12_becomes_14 ?_
  exact G_iret (pc := 15) (Nat.le_of_ble_eq_true rfl) (Nat.le_of_ble_eq_true rfl) rfl dX12_becomes_15 ⟨rfl, rfl⟩
set_option maxRecDepth 100000 in
set_option maxHeartbeats 4000000 in
theorem s10067_X12_becomes (J : gI) (d : Nat)  (a0 : Int32) : G (d) mX12_becomes 0 0 0 0 0 (gent 4 [.ref 67, .int 16, .int a0]) [] SH0 RF0 (gmx J) (fun r h => r = some (.int 5) ∧ h = (SH0, RF0, (gup (gmx J) 68 16 a0))) := by
  refine G_aload_n (pc := 0) rfl dX12_becomes_0 ?_
  refine G_getR (pc := 1) (r := 68) (ci := 12) (j := 0) rfl lk_RX12_9 rfl rfl rfl dX12_becomes_1 ?_
  refine G_iload_n (pc := 4) rfl dX12_becomes_4 ?_
  refine G_iald (pc := 5) (jj := 16) (v := 5) (by decide) rfl rfl (by unfold vp_in; decide) dX12_becomes_5 ?_
  refine G_istore_n (pc := 6) (L1 := [some (.ref 67), some (.int 16), some (.int a0), some (.int 5)]) rfl rfl (by decide) dX12_becomes_6 ?_
  refine G_aload_n (pc := 7) rfl dX12_becomes_7 ?_
  refine G_getR (pc := 8) (r := 68) (ci := 12) (j := 0) rfl lk_RX12_9 rfl rfl rfl dX12_becomes_8 ?_
  refine G_iload_n (pc := 11) rfl dX12_becomes_11 ?_
  refine G_iload_n (pc := 12) rfl dX12_becomes_12 ?_
  refine G_iast (pc := 13) (jj := 16) (by decide) rfl (by unfold vp_in; decide) dX12_becomes_13 ?_
  refine G_iload_n (pc := 14) rfl dX12_becomes_14 ?_
  exact G_iret (pc := 15) (Nat.le_of_ble_eq_true rfl) (Nat.le_of_ble_eq_true rfl) rfl dX12_becomes_15 ⟨rfl, rfl⟩
set_option maxRecDepth 100000 in
set_option maxHeartbeats 4000000 in
theorem s10068_X12_becomes (J : gI) (d : Nat)  (a0 : Int32) : G (d) mX12_becomes 0 0 0 0 0 (gent 4 [.ref 67, .int 17, .int a0]) [] SH0 RF0 (gmx J) (fun r h => r = some (.int 5) ∧ h = (SH0, RF0, (gup (gmx J) 68 17 a0))) := by
  refine G_aload_n (pc := 0) rfl dX12_becomes_0 ?_
  refine G_getR (pc := 1) (r := 68) (ci := 12) (j := 0) rfl lk_RX12_9 rfl rfl rfl dX12_becomes_1 ?_
  refine G_iload_n (pc := 4) rfl dX12_becomes_4 ?_
  refine G_iald (pc := 5) (jj := 17) (v := 5) (by decide) rfl rfl (by unfold vp_in; decide) dX12_becomes_5 ?_
  refine G_istore_n (pc := 6) (L1 := [some (.ref 67), some (.int 17), some (.int a0), some (.int 5)]) rfl rfl (by decide) dX12_becomes_6 ?_
  refine G_aload_n (pc := 7) rfl dX12_becomes_7 ?_
  refine G_getR (pc := 8) (r := 68) (ci := 12) (j := 0) rfl lk_RX12_9 rfl rfl rfl dX12_becomes_8 ?_
  refine G_iload_n (pc := 11) rfl dX12_becomes_11 ?_
  refine G_iload_n (pc := 12) rfl dX12_becomes_12 ?_
  refine G_iast (pc := 13) (jj := 17) (by decide) rfl (by unfold vp_in; decide) dX12_becomes_13 ?_
  refine G_iload_n (pc := 14) rfl dX12_becomes_14 ?_
  exact G_iret (pc := 15) (Nat.le_of_ble_eq_true rfl) (Nat.le_of_ble_eq_true rfl) rfl dX12_becomes_15 ⟨rfl, rfl⟩
set_option maxRecDepth 100000 in
set_option maxHeartbeats 4000000 in
theorem s10069_X12_becomes (J : gI) (d : Nat)  (a0 : Int32) : G (d) mX12_becomes 0 0 0 0 0 (gent 4 [.ref 67, .int 18, .int a0]) [] SH0 RF0 (gmx J) (fun r h => r = some (.int 5) ∧ h = (SH0, RF0, (gup (gmx J) 68 18 a0))) := by
  refine G_aload_n (pc := 0) rfl dX12_becomes_0 ?_
  refine G_getR (pc := 1) (r := 68) (ci := 12) (j := 0) rfl lk_RX12_9 rfl rfl rfl dX12_becomes_1 ?_
  refine G_iload_n (pc := 4) rfl dX12_becomes_4 ?_
  refine G_iald (pc := 5) (jj := 18) (v := 5) (by decide) rfl rfl (by unfold vp_in; decide) dX12_becomes_5 ?_
  refine G_istore_n (pc := 6) (L1 := [some (.ref 67), some (.int 18), some (.int a0), some (.int 5)]) rfl rfl (by decide) dX12_becomes_6 ?_
  refine G_aload_n (pc := 7) rfl dX12_becomes_7 ?_
  refine G_getR (pc := 8) (r := 68) (ci := 12) (j := 0) rfl lk_RX12_9 rfl rfl rfl dX12_becomes_8 ?_
  refine G_iload_n (pc := 11) rfl dX12_becomes_11 ?_
  refine G_iload_n (pc := 12) rfl dX12_becomes_12 ?_
  refine G_iast (pc := 13) (jj := 18) (by decide) rfl (by unfold vp_in; decide) dX12_becomes_13 ?_
  refine G_iload_n (pc := 14) rfl dX12_becomes_14 ?_
  exact G_iret (pc := 15) (Nat.le_of_ble_eq_true rfl) (Nat.le_of_ble_eq_true rfl) rfl dX12_becomes_15 ⟨rfl, rfl⟩
set_option maxRecDepth 100000 in
set_option maxHeartbeats 4000000 in
theorem s10070_X12_becomes (J : gI) (d : Nat)  (a0 : Int32) : G (d) mX12_becomes 0 0 0 0 0 (gent 4 [.ref 67, .int 19, .int a0]) [] SH0 RF0 (gmx J) (fun r h => r = some (.int 5) ∧ h = (SH0, RF0, (gup (gmx J) 68 19 a0))) := by
  refine G_aload_n (pc := 0) rfl dX12_becomes_0 ?_
  refine G_getR (pc := 1) (r := 68) (ci := 12) (j := 0) rfl lk_RX12_9 rfl rfl rfl dX12_becomes_1 ?_
  refine G_iload_n (pc := 4) rfl dX12_becomes_4 ?_
  refine G_iald (pc := 5) (jj := 19) (v := 5) (by decide) rfl rfl (by unfold vp_in; decide) dX12_becomes_5 ?_
  refine G_istore_n (pc := 6) (L1 := [some (.ref 67), some (.int 19), some (.int a0), some (.int 5)]) rfl rfl (by decide) dX12_becomes_6 ?_
  refine G_aload_n (pc := 7) rfl dX12_becomes_7 ?_
  refine G_getR (pc := 8) (r := 68) (ci := 12) (j := 0) rfl lk_RX12_9 rfl rfl rfl dX12_becomes_8 ?_
  refine G_iload_n (pc := 11) rfl dX12_becomes_11 ?_
  refine G_iload_n (pc := 12) rfl dX12_becomes_12 ?_
  refine G_iast (pc := 13) (jj := 19) (by decide) rfl (by unfold vp_in; decide) dX12_becomes_13 ?_
  refine G_iload_n (pc := 14) rfl dX12_becomes_14 ?_
  exact G_iret (pc := 15) (Nat.le_of_ble_eq_true rfl) (Nat.le_of_ble_eq_true rfl) rfl dX12_becomes_15 ⟨rfl, rfl⟩
set_option maxRecDepth 100000 in
set_option maxHeartbeats 4000000 in
theorem s10071_X12_becomes (J : gI) (d : Nat)  (a0 : Int32) : G (d) mX12_becomes 0 0 0 0 0 (gent 4 [.ref 67, .int 20, .int a0]) [] SH0 RF0 (gmx J) (fun r h => r = some (.int 5) ∧ h = (SH0, RF0, (gup (gmx J) 68 20 a0))) := by
  refine G_aload_n (pc := 0) rfl dX12_becomes_0 ?_
  refine G_getR (pc := 1) (r := 68) (ci := 12) (j := 0) rfl lk_RX12_9 rfl rfl rfl dX12_becomes_1 ?_
  refine G_iload_n (pc := 4) rfl dX12_becomes_4 ?_
  refine G_iald (pc := 5) (jj := 20) (v := 5) (by decide) rfl rfl (by unfold vp_in; decide) dX12_becomes_5 ?_
  refine G_istore_n (pc := 6) (L1 := [some (.ref 67), some (.int 20), some (.int a0), some (.int 5)]) rfl rfl (by decide) dX12_becomes_6 ?_
  refine G_aload_n (pc := 7) rfl dX12_becomes_7 ?_
  refine G_getR (pc := 8) (r := 68) (ci := 12) (j := 0) rfl lk_RX12_9 rfl rfl rfl dX12_becomes_8 ?_
  refine G_iload_n (pc := 11) rfl dX12_becomes_11 ?_
  refine G_iload_n (pc := 12) rfl dX12_becomes_12 ?_
  refine G_iast (pc := 13) (jj := 20) (by decide) rfl (by unfold vp_in; decide) dX12_becomes_13 ?_
  refine G_iload_n (pc := 14) rfl dX12_becomes_14 ?_
  exact G_iret (pc := 15) (Nat.le_of_ble_eq_true rfl) (Nat.le_of_ble_eq_true rfl) rfl dX12_becomes_15 ⟨rfl, rfl⟩
set_option maxRecDepth 100000 in
set_option maxHeartbeats 4000000 in
theorem s10072_X12_becomes (J : gI) (d : Nat)  (a0 : Int32) : G (d) mX12_becomes 0 0 0 0 0 (gent 4 [.ref 67, .int 21, .int a0]) [] SH0 RF0 (gmx J) (fun r h => r = some (.int 5) ∧ h = (SH0, RF0, (gup (gmx J) 68 21 a0))) := by
  refine G_aload_n (pc := 0) rfl dX12_becomes_0 ?_
  refine G_getR (pc := 1) (r := 68) (ci := 12) (j := 0) rfl lk_RX12_9 rfl rfl rfl dX12_becomes_1 ?_
  refine G_iload_n (pc := 4) rfl dX12_becomes_4 ?_
  refine G_iald (pc := 5) (jj := 21) (v := 5) (by decide) rfl rfl (by unfold vp_in; decide) dX12_becomes_5 ?_
  refine G_istore_n (pc := 6) (L1 := [some (.ref 67), some (.int 21), some (.int a0), some (.int 5)]) rfl rfl (by decide) dX12_becomes_6 ?_
  refine G_aload_n (pc := 7) rfl dX12_becomes_7 ?_
  refine G_getR (pc := 8) (r := 68) (ci := 12) (j := 0) rfl lk_RX12_9 rfl rfl rfl dX12_becomes_8 ?_
  refine G_iload_n (pc := 11) rfl dX12_becomes_11 ?_
  refine G_iload_n (pc := 12) rfl dX12_becomes_12 ?_
  refine G_iast (pc := 13) (jj := 21) (by decide) rfl (by unfold vp_in; decide) dX12_becomes_13 ?_
  refine G_iload_n (pc := 14) rfl dX12_becomes_14 ?_
  exact G_iret (pc := 15) (Nat.le_of_ble_eq_true rfl) (Nat.le_of_ble_eq_true rfl) rfl dX12_becomes_15 ⟨rfl, rfl⟩
set_option maxRecDepth 100000 in
set_option maxHeartbeats 4000000 in
theorem s10073_X12_becomes (J : gI) (d : Nat)  (a0 : Int32) : G (d) mX12_becomes 0 0 0 0 0 (gent 4 [.ref 67, .int 22, .int a0]) [] SH0 RF0 (gmx J) (fun r h => r = some (.int 5) ∧ h = (SH0, RF0, (gup (gmx J) 68 22 a0))) := by
  refine G_aload_n (pc := 0) rfl dX12_becomes_0 ?_
  refine G_getR (pc := 1) (r := 68) (ci := 12) (j := 0) rfl lk_RX12_9 rfl rfl rfl dX12_becomes_1 ?_
  refine G_iload_n (pc := 4) rfl dX12_becomes_4 ?_
  refine G_iald (pc := 5) (jj := 22) (v := 5) (by decide) rfl rfl (by unfold vp_in; decide) dX12_becomes_5 ?_
  refine G_istore_n (pc := 6) (L1 := [some (.ref 67), some (.int 22), some (.int a0), some (.int 5)]) rfl rfl (by decide) dX12_becomes_6 ?_
  refine G_aload_n (pc := 7) rfl dX12_becomes_7 ?_
  refine G_getR (pc := 8) (r := 68) (ci := 12) (j := 0) rfl lk_RX12_9 rfl rfl rfl dX12_becomes_8 ?_
  refine G_iload_n (pc := 11) rfl dX12_becomes_11 ?_
  refine G_iload_n (pc := 12) rfl dX12_becomes_12 ?_
  refine G_iast (pc := 13) (jj := 22) (by decide) rfl (by unfold vp_in; decide) dX12_becomes_13 ?_
  refine G_iload_n (pc := 14) rfl dX12_becomes_14 ?_
  exact G_iret (pc := 15) (Nat.le_of_ble_eq_true rfl) (Nat.le_of_ble_eq_true rfl) rfl dX12_becomes_15 ⟨rfl, rfl⟩
set_option maxRecDepth 100000 in
set_option maxHeartbeats 4000000 in
theorem z_sun (J : gI) (d : Nat) (halt : Int32) (v : Int32) : G (d + 1) mX12_sun 0 0 0 0 0 (gent 3 [.ref 67, .int halt, .int v]) [] SH0 RF0 (gmx J) (fun r _ => r = some (.int (F_sun halt v))) := by
  refine G_iload_n (pc := 0) rfl dX12_sun_0 ?_
  refine G_iconst (pc := 1) (v := 0) (by decide) dX12_sun_1 ?_
  refine G_bipush (pc := 2) (v := 15) (by decide) dX12_sun_2 ?_
  refine G_callS (pc := 4) (mc1 := 0) (ms1 := 0) (mj := mX12_in1) (vs := [_, _, _]) dX12_sun_4 cm_X12_in1 wh_0 wh_3 rfl (Nat.le_of_ble_eq_true rfl) (Nat.le_of_ble_eq_true rfl) (Nat.le_of_ble_eq_true rfl) (Nat.le_of_ble_eq_true rfl) (in1_s d halt 0 15) ?_
  rintro _ _ ⟨rfl, rfl⟩
  dsimp only [Option.toList, List.cons_append, List.nil_append]
  refine G_if_eq (pc := 7) (tgt := 32) (by decide) dX12_sun_7 (fun c185 => ?_) (fun c185 => ?_)
  · have c185 := gB_z c185
    refine G_iconst (pc := 32) (v := (-1)) (by decide) dX12_sun_32 ?_
    exact G_iret (pc := 33) (Nat.le_of_ble_eq_true rfl) (Nat.le_of_ble_eq_true rfl) rfl dX12_sun_33 (by first | rfl | (simp [F_sun, *]; done) | (have : ¬ (0 ≤ (halt).toInt ∧ (halt).toInt ≤ 15) := fun z => c185 ⟨Int32.le_iff_toInt_le.mpr z.1, Int32.le_iff_toInt_le.mpr z.2⟩; simp only [F_sun, Int32.le_iff_toInt_le, Int32.lt_iff_toInt_lt, ← Int32.toInt_inj]; simp; omega) | (have : ¬ (0 ≤ (halt).toInt ∧ (halt).toInt ≤ 15) := fun z => c185 ⟨Int32.le_iff_toInt_le.mpr z.1, Int32.le_iff_toInt_le.mpr z.2⟩; simp only [F_sun, Int32.le_iff_toInt_le, Int32.lt_iff_toInt_lt, ← Int32.toInt_inj]; split <;> first | rfl | (exfalso; simp at *; omega)) | (have : ¬ (0 ≤ (halt).toInt ∧ (halt).toInt ≤ 15) := fun z => c185 ⟨Int32.le_iff_toInt_le.mpr z.1, Int32.le_iff_toInt_le.mpr z.2⟩; unfold F_sun; (repeat' split) <;> first | rfl | (exfalso; (try simp only [Int32.le_iff_toInt_le, Int32.lt_iff_toInt_lt, ← Int32.toInt_inj] at *); first | omega | (simp at *; done) | (simp at *; omega))))
  · have c185 := gB_o c185
    refine G_iload_n (pc := 10) rfl dX12_sun_10 ?_
    refine G_iconst (pc := 11) (v := 0) (by decide) dX12_sun_11 ?_
    refine G_bipush (pc := 12) (v := 15) (by decide) dX12_sun_12 ?_
    refine G_callS (pc := 14) (mc1 := 0) (ms1 := 0) (mj := mX12_in1) (vs := [_, _, _]) dX12_sun_14 cm_X12_in1 wh_0 wh_3 rfl (Nat.le_of_ble_eq_true rfl) (Nat.le_of_ble_eq_true rfl) (Nat.le_of_ble_eq_true rfl) (Nat.le_of_ble_eq_true rfl) (in1_s d v 0 15) ?_
    rintro _ _ ⟨rfl, rfl⟩
    dsimp only [Option.toList, List.cons_append, List.nil_append]
    refine G_if_eq (pc := 17) (tgt := 32) (by decide) dX12_sun_17 (fun c186 => ?_) (fun c186 => ?_)
    · have c186 := gB_z c186
      refine G_iconst (pc := 32) (v := (-1)) (by decide) dX12_sun_32 ?_
      exact G_iret (pc := 33) (Nat.le_of_ble_eq_true rfl) (Nat.le_of_ble_eq_true rfl) rfl dX12_sun_33 (by first | rfl | (simp [F_sun, *]; done) | (have : 0 ≤ (halt).toInt := Int32.le_iff_toInt_le.mp (c185.1); have : (halt).toInt ≤ 15 := Int32.le_iff_toInt_le.mp (c185.2); have : ¬ (0 ≤ (v).toInt ∧ (v).toInt ≤ 15) := fun z => c186 ⟨Int32.le_iff_toInt_le.mpr z.1, Int32.le_iff_toInt_le.mpr z.2⟩; simp only [F_sun, Int32.le_iff_toInt_le, Int32.lt_iff_toInt_lt, ← Int32.toInt_inj]; simp; omega) | (have : 0 ≤ (halt).toInt := Int32.le_iff_toInt_le.mp (c185.1); have : (halt).toInt ≤ 15 := Int32.le_iff_toInt_le.mp (c185.2); have : ¬ (0 ≤ (v).toInt ∧ (v).toInt ≤ 15) := fun z => c186 ⟨Int32.le_iff_toInt_le.mpr z.1, Int32.le_iff_toInt_le.mpr z.2⟩; simp only [F_sun, Int32.le_iff_toInt_le, Int32.lt_iff_toInt_lt, ← Int32.toInt_inj]; split <;> first | rfl | (exfalso; simp at *; omega)) | (have : 0 ≤ (halt).toInt := Int32.le_iff_toInt_le.mp (c185.1); have : (halt).toInt ≤ 15 := Int32.le_iff_toInt_le.mp (c185.2); have : ¬ (0 ≤ (v).toInt ∧ (v).toInt ≤ 15) := fun z => c186 ⟨Int32.le_iff_toInt_le.mpr z.1, Int32.le_iff_toInt_le.mpr z.2⟩; unfold F_sun; (repeat' split) <;> first | rfl | (exfalso; (try simp only [Int32.le_iff_toInt_le, Int32.lt_iff_toInt_lt, ← Int32.toInt_inj] at *); first | omega | (simp at *; done) | (simp at *; omega))))
    · have c186 := gB_o c186
      refine G_aload_n (pc := 20) rfl dX12_sun_20 ?_
      refine G_bipush (pc := 21) (v := 7) (by decide) dX12_sun_21 ?_
      refine G_iload_n (pc := 23) rfl dX12_sun_23 ?_
      by_cases c187 : halt = 0
      · subst c187
        refine G_iadd (pc := 24) (z := 7) (by decide) dX12_sun_24 ?_
        refine G_iload_n (pc := 25) rfl dX12_sun_25 ?_
        refine G_callV (pc := 26) (mc1 := 0) (ms1 := 0) (ci := 12) (mj := mX12_becomes) (vs := [_, _]) dX12_sun_26 rfl rfl cm_X12_becomes wh_18 wh_20 wh_21 rfl (Nat.le_of_ble_eq_true rfl) (Nat.le_of_ble_eq_true rfl) (Nat.le_of_ble_eq_true rfl) (Nat.le_of_ble_eq_true rfl) (s10058_X12_becomes J d  _) ?_
        rintro _ _ ⟨rfl, rfl⟩
        dsimp only [Option.toList, List.cons_append, List.nil_append]
        refine G_goto (pc := 29) (tgt := 33) (by decide) dX12_sun_29 ?_
        exact G_iret (pc := 33) (Nat.le_of_ble_eq_true rfl) (Nat.le_of_ble_eq_true rfl) rfl dX12_sun_33 (by first | rfl | (simp [F_sun, *]; done) | (have : 0 ≤ (v).toInt := Int32.le_iff_toInt_le.mp (c186.1); have : (v).toInt ≤ 15 := Int32.le_iff_toInt_le.mp (c186.2); simp only [F_sun, Int32.le_iff_toInt_le, Int32.lt_iff_toInt_lt, ← Int32.toInt_inj]; simp; omega) | (have : 0 ≤ (v).toInt := Int32.le_iff_toInt_le.mp (c186.1); have : (v).toInt ≤ 15 := Int32.le_iff_toInt_le.mp (c186.2); simp only [F_sun, Int32.le_iff_toInt_le, Int32.lt_iff_toInt_lt, ← Int32.toInt_inj]; split <;> first | rfl | (exfalso; simp at *; omega)) | (have : 0 ≤ (v).toInt := Int32.le_iff_toInt_le.mp (c186.1); have : (v).toInt ≤ 15 := Int32.le_iff_toInt_le.mp (c186.2); unfold F_sun; (repeat' split) <;> first | rfl | (exfalso; (try simp only [Int32.le_iff_toInt_le, Int32.lt_iff_toInt_lt, ← Int32.toInt_inj] at *); first | omega | (simp at *; done) | (simp at *; omega))))
      by_cases c188 : halt = 1
      · subst c188
        refine G_iadd (pc := 24) (z := 8) (by decide) dX12_sun_24 ?_
        refine G_iload_n (pc := 25) rfl dX12_sun_25 ?_
        refine G_callV (pc := 26) (mc1 := 0) (ms1 := 0) (ci := 12) (mj := mX12_becomes) (vs := [_, _]) dX12_sun_26 rfl rfl cm_X12_becomes wh_18 wh_20 wh_21 rfl (Nat.le_of_ble_eq_true rfl) (Nat.le_of_ble_eq_true rfl) (Nat.le_of_ble_eq_true rfl) (Nat.le_of_ble_eq_true rfl) (s10059_X12_becomes J d  _) ?_
        rintro _ _ ⟨rfl, rfl⟩
        dsimp only [Option.toList, List.cons_append, List.nil_append]
        refine G_goto (pc := 29) (tgt := 33) (by decide) dX12_sun_29 ?_
        exact G_iret (pc := 33) (Nat.le_of_ble_eq_true rfl) (Nat.le_of_ble_eq_true rfl) rfl dX12_sun_33 (by first | rfl | (simp [F_sun, *]; done) | (have : 0 ≤ (v).toInt := Int32.le_iff_toInt_le.mp (c186.1); have : (v).toInt ≤ 15 := Int32.le_iff_toInt_le.mp (c186.2); simp only [F_sun, Int32.le_iff_toInt_le, Int32.lt_iff_toInt_lt, ← Int32.toInt_inj]; simp; omega) | (have : 0 ≤ (v).toInt := Int32.le_iff_toInt_le.mp (c186.1); have : (v).toInt ≤ 15 := Int32.le_iff_toInt_le.mp (c186.2); simp only [F_sun, Int32.le_iff_toInt_le, Int32.lt_iff_toInt_lt, ← Int32.toInt_inj]; split <;> first | rfl | (exfalso; simp at *; omega)) | (have : 0 ≤ (v).toInt := Int32.le_iff_toInt_le.mp (c186.1); have : (v).toInt ≤ 15 := Int32.le_iff_toInt_le.mp (c186.2); unfold F_sun; (repeat' split) <;> first | rfl | (exfalso; (try simp only [Int32.le_iff_toInt_le, Int32.lt_iff_toInt_lt, ← Int32.toInt_inj] at *); first | omega | (simp at *; done) | (simp at *; omega))))
      by_cases c189 : halt = 2
      · subst c189
        refine G_iadd (pc := 24) (z := 9) (by decide) dX12_sun_24 ?_
        refine G_iload_n (pc := 25) rfl dX12_sun_25 ?_
        refine G_callV (pc := 26) (mc1 := 0) (ms1 := 0) (ci := 12) (mj := mX12_becomes) (vs := [_, _]) dX12_sun_26 rfl rfl cm_X12_becomes wh_18 wh_20 wh_21 rfl (Nat.le_of_ble_eq_true rfl) (Nat.le_of_ble_eq_true rfl) (Nat.le_of_ble_eq_true rfl) (Nat.le_of_ble_eq_true rfl) (s10060_X12_becomes J d  _) ?_
        rintro _ _ ⟨rfl, rfl⟩
        dsimp only [Option.toList, List.cons_append, List.nil_append]
        refine G_goto (pc := 29) (tgt := 33) (by decide) dX12_sun_29 ?_
        exact G_iret (pc := 33) (Nat.le_of_ble_eq_true rfl) (Nat.le_of_ble_eq_true rfl) rfl dX12_sun_33 (by first | rfl | (simp [F_sun, *]; done) | (have : 0 ≤ (v).toInt := Int32.le_iff_toInt_le.mp (c186.1); have : (v).toInt ≤ 15 := Int32.le_iff_toInt_le.mp (c186.2); simp only [F_sun, Int32.le_iff_toInt_le, Int32.lt_iff_toInt_lt, ← Int32.toInt_inj]; simp; omega) | (have : 0 ≤ (v).toInt := Int32.le_iff_toInt_le.mp (c186.1); have : (v).toInt ≤ 15 := Int32.le_iff_toInt_le.mp (c186.2); simp only [F_sun, Int32.le_iff_toInt_le, Int32.lt_iff_toInt_lt, ← Int32.toInt_inj]; split <;> first | rfl | (exfalso; simp at *; omega)) | (have : 0 ≤ (v).toInt := Int32.le_iff_toInt_le.mp (c186.1); have : (v).toInt ≤ 15 := Int32.le_iff_toInt_le.mp (c186.2); unfold F_sun; (repeat' split) <;> first | rfl | (exfalso; (try simp only [Int32.le_iff_toInt_le, Int32.lt_iff_toInt_lt, ← Int32.toInt_inj] at *); first | omega | (simp at *; done) | (simp at *; omega))))
      by_cases c190 : halt = 3
      · subst c190
        refine G_iadd (pc := 24) (z := 10) (by decide) dX12_sun_24 ?_
        refine G_iload_n (pc := 25) rfl dX12_sun_25 ?_
        refine G_callV (pc := 26) (mc1 := 0) (ms1 := 0) (ci := 12) (mj := mX12_becomes) (vs := [_, _]) dX12_sun_26 rfl rfl cm_X12_becomes wh_18 wh_20 wh_21 rfl (Nat.le_of_ble_eq_true rfl) (Nat.le_of_ble_eq_true rfl) (Nat.le_of_ble_eq_true rfl) (Nat.le_of_ble_eq_true rfl) (s10061_X12_becomes J d  _) ?_
        rintro _ _ ⟨rfl, rfl⟩
        dsimp only [Option.toList, List.cons_append, List.nil_append]
        refine G_goto (pc := 29) (tgt := 33) (by decide) dX12_sun_29 ?_
        exact G_iret (pc := 33) (Nat.le_of_ble_eq_true rfl) (Nat.le_of_ble_eq_true rfl) rfl dX12_sun_33 (by first | rfl | (simp [F_sun, *]; done) | (have : 0 ≤ (v).toInt := Int32.le_iff_toInt_le.mp (c186.1); have : (v).toInt ≤ 15 := Int32.le_iff_toInt_le.mp (c186.2); simp only [F_sun, Int32.le_iff_toInt_le, Int32.lt_iff_toInt_lt, ← Int32.toInt_inj]; simp; omega) | (have : 0 ≤ (v).toInt := Int32.le_iff_toInt_le.mp (c186.1); have : (v).toInt ≤ 15 := Int32.le_iff_toInt_le.mp (c186.2); simp only [F_sun, Int32.le_iff_toInt_le, Int32.lt_iff_toInt_lt, ← Int32.toInt_inj]; split <;> first | rfl | (exfalso; simp at *; omega)) | (have : 0 ≤ (v).toInt := Int32.le_iff_toInt_le.mp (c186.1); have : (v).toInt ≤ 15 := Int32.le_iff_toInt_le.mp (c186.2); unfold F_sun; (repeat' split) <;> first | rfl | (exfalso; (try simp only [Int32.le_iff_toInt_le, Int32.lt_iff_toInt_lt, ← Int32.toInt_inj] at *); first | omega | (simp at *; done) | (simp at *; omega))))
      by_cases c191 : halt = 4
      · subst c191
        refine G_iadd (pc := 24) (z := 11) (by decide) dX12_sun_24 ?_
        refine G_iload_n (pc := 25) rfl dX12_sun_25 ?_
        refine G_callV (pc := 26) (mc1 := 0) (ms1 := 0) (ci := 12) (mj := mX12_becomes) (vs := [_, _]) dX12_sun_26 rfl rfl cm_X12_becomes wh_18 wh_20 wh_21 rfl (Nat.le_of_ble_eq_true rfl) (Nat.le_of_ble_eq_true rfl) (Nat.le_of_ble_eq_true rfl) (Nat.le_of_ble_eq_true rfl) (s10062_X12_becomes J d  _) ?_
        rintro _ _ ⟨rfl, rfl⟩
        dsimp only [Option.toList, List.cons_append, List.nil_append]
        refine G_goto (pc := 29) (tgt := 33) (by decide) dX12_sun_29 ?_
        exact G_iret (pc := 33) (Nat.le_of_ble_eq_true rfl) (Nat.le_of_ble_eq_true rfl) rfl dX12_sun_33 (by first | rfl | (simp [F_sun, *]; done) | (have : 0 ≤ (v).toInt := Int32.le_iff_toInt_le.mp (c186.1); have : (v).toInt ≤ 15 := Int32.le_iff_toInt_le.mp (c186.2); simp only [F_sun, Int32.le_iff_toInt_le, Int32.lt_iff_toInt_lt, ← Int32.toInt_inj]; simp; omega) | (have : 0 ≤ (v).toInt := Int32.le_iff_toInt_le.mp (c186.1); have : (v).toInt ≤ 15 := Int32.le_iff_toInt_le.mp (c186.2); simp only [F_sun, Int32.le_iff_toInt_le, Int32.lt_iff_toInt_lt, ← Int32.toInt_inj]; split <;> first | rfl | (exfalso; simp at *; omega)) | (have : 0 ≤ (v).toInt := Int32.le_iff_toInt_le.mp (c186.1); have : (v).toInt ≤ 15 := Int32.le_iff_toInt_le.mp (c186.2); unfold F_sun; (repeat' split) <;> first | rfl | (exfalso; (try simp only [Int32.le_iff_toInt_le, Int32.lt_iff_toInt_lt, ← Int32.toInt_inj] at *); first | omega | (simp at *; done) | (simp at *; omega))))
      by_cases c192 : halt = 5
      · subst c192
        refine G_iadd (pc := 24) (z := 12) (by decide) dX12_sun_24 ?_
        refine G_iload_n (pc := 25) rfl dX12_sun_25 ?_
        refine G_callV (pc := 26) (mc1 := 0) (ms1 := 0) (ci := 12) (mj := mX12_becomes) (vs := [_, _]) dX12_sun_26 rfl rfl cm_X12_becomes wh_18 wh_20 wh_21 rfl (Nat.le_of_ble_eq_true rfl) (Nat.le_of_ble_eq_true rfl) (Nat.le_of_ble_eq_true rfl) (Nat.le_of_ble_eq_true rfl) (s10063_X12_becomes J d  _) ?_
        rintro _ _ ⟨rfl, rfl⟩
        dsimp only [Option.toList, List.cons_append, List.nil_append]
        refine G_goto (pc := 29) (tgt := 33) (by decide) dX12_sun_29 ?_
        exact G_iret (pc := 33) (Nat.le_of_ble_eq_true rfl) (Nat.le_of_ble_eq_true rfl) rfl dX12_sun_33 (by first | rfl | (simp [F_sun, *]; done) | (have : 0 ≤ (v).toInt := Int32.le_iff_toInt_le.mp (c186.1); have : (v).toInt ≤ 15 := Int32.le_iff_toInt_le.mp (c186.2); simp only [F_sun, Int32.le_iff_toInt_le, Int32.lt_iff_toInt_lt, ← Int32.toInt_inj]; simp; omega) | (have : 0 ≤ (v).toInt := Int32.le_iff_toInt_le.mp (c186.1); have : (v).toInt ≤ 15 := Int32.le_iff_toInt_le.mp (c186.2); simp only [F_sun, Int32.le_iff_toInt_le, Int32.lt_iff_toInt_lt, ← Int32.toInt_inj]; split <;> first | rfl | (exfalso; simp at *; omega)) | (have : 0 ≤ (v).toInt := Int32.le_iff_toInt_le.mp (c186.1); have : (v).toInt ≤ 15 := Int32.le_iff_toInt_le.mp (c186.2); unfold F_sun; (repeat' split) <;> first | rfl | (exfalso; (try simp only [Int32.le_iff_toInt_le, Int32.lt_iff_toInt_lt, ← Int32.toInt_inj] at *); first | omega | (simp at *; done) | (simp at *; omega))))
      by_cases c193 : halt = 6
      · subst c193
        refine G_iadd (pc := 24) (z := 13) (by decide) dX12_sun_24 ?_
        refine G_iload_n (pc := 25) rfl dX12_sun_25 ?_
        refine G_callV (pc := 26) (mc1 := 0) (ms1 := 0) (ci := 12) (mj := mX12_becomes) (vs := [_, _]) dX12_sun_26 rfl rfl cm_X12_becomes wh_18 wh_20 wh_21 rfl (Nat.le_of_ble_eq_true rfl) (Nat.le_of_ble_eq_true rfl) (Nat.le_of_ble_eq_true rfl) (Nat.le_of_ble_eq_true rfl) (s10064_X12_becomes J d  _) ?_
        rintro _ _ ⟨rfl, rfl⟩
        dsimp only [Option.toList, List.cons_append, List.nil_append]
        refine G_goto (pc := 29) (tgt := 33) (by decide) dX12_sun_29 ?_
        exact G_iret (pc := 33) (Nat.le_of_ble_eq_true rfl) (Nat.le_of_ble_eq_true rfl) rfl dX12_sun_33 (by first | rfl | (simp [F_sun, *]; done) | (have : 0 ≤ (v).toInt := Int32.le_iff_toInt_le.mp (c186.1); have : (v).toInt ≤ 15 := Int32.le_iff_toInt_le.mp (c186.2); simp only [F_sun, Int32.le_iff_toInt_le, Int32.lt_iff_toInt_lt, ← Int32.toInt_inj]; simp; omega) | (have : 0 ≤ (v).toInt := Int32.le_iff_toInt_le.mp (c186.1); have : (v).toInt ≤ 15 := Int32.le_iff_toInt_le.mp (c186.2); simp only [F_sun, Int32.le_iff_toInt_le, Int32.lt_iff_toInt_lt, ← Int32.toInt_inj]; split <;> first | rfl | (exfalso; simp at *; omega)) | (have : 0 ≤ (v).toInt := Int32.le_iff_toInt_le.mp (c186.1); have : (v).toInt ≤ 15 := Int32.le_iff_toInt_le.mp (c186.2); unfold F_sun; (repeat' split) <;> first | rfl | (exfalso; (try simp only [Int32.le_iff_toInt_le, Int32.lt_iff_toInt_lt, ← Int32.toInt_inj] at *); first | omega | (simp at *; done) | (simp at *; omega))))
      by_cases c194 : halt = 7
      · subst c194
        refine G_iadd (pc := 24) (z := 14) (by decide) dX12_sun_24 ?_
        refine G_iload_n (pc := 25) rfl dX12_sun_25 ?_
        refine G_callV (pc := 26) (mc1 := 0) (ms1 := 0) (ci := 12) (mj := mX12_becomes) (vs := [_, _]) dX12_sun_26 rfl rfl cm_X12_becomes wh_18 wh_20 wh_21 rfl (Nat.le_of_ble_eq_true rfl) (Nat.le_of_ble_eq_true rfl) (Nat.le_of_ble_eq_true rfl) (Nat.le_of_ble_eq_true rfl) (s10065_X12_becomes J d  _) ?_
        rintro _ _ ⟨rfl, rfl⟩
        dsimp only [Option.toList, List.cons_append, List.nil_append]
        refine G_goto (pc := 29) (tgt := 33) (by decide) dX12_sun_29 ?_
        exact G_iret (pc := 33) (Nat.le_of_ble_eq_true rfl) (Nat.le_of_ble_eq_true rfl) rfl dX12_sun_33 (by first | rfl | (simp [F_sun, *]; done) | (have : 0 ≤ (v).toInt := Int32.le_iff_toInt_le.mp (c186.1); have : (v).toInt ≤ 15 := Int32.le_iff_toInt_le.mp (c186.2); simp only [F_sun, Int32.le_iff_toInt_le, Int32.lt_iff_toInt_lt, ← Int32.toInt_inj]; simp; omega) | (have : 0 ≤ (v).toInt := Int32.le_iff_toInt_le.mp (c186.1); have : (v).toInt ≤ 15 := Int32.le_iff_toInt_le.mp (c186.2); simp only [F_sun, Int32.le_iff_toInt_le, Int32.lt_iff_toInt_lt, ← Int32.toInt_inj]; split <;> first | rfl | (exfalso; simp at *; omega)) | (have : 0 ≤ (v).toInt := Int32.le_iff_toInt_le.mp (c186.1); have : (v).toInt ≤ 15 := Int32.le_iff_toInt_le.mp (c186.2); unfold F_sun; (repeat' split) <;> first | rfl | (exfalso; (try simp only [Int32.le_iff_toInt_le, Int32.lt_iff_toInt_lt, ← Int32.toInt_inj] at *); first | omega | (simp at *; done) | (simp at *; omega))))
      by_cases c195 : halt = 8
      · subst c195
        refine G_iadd (pc := 24) (z := 15) (by decide) dX12_sun_24 ?_
        refine G_iload_n (pc := 25) rfl dX12_sun_25 ?_
        refine G_callV (pc := 26) (mc1 := 0) (ms1 := 0) (ci := 12) (mj := mX12_becomes) (vs := [_, _]) dX12_sun_26 rfl rfl cm_X12_becomes wh_18 wh_20 wh_21 rfl (Nat.le_of_ble_eq_true rfl) (Nat.le_of_ble_eq_true rfl) (Nat.le_of_ble_eq_true rfl) (Nat.le_of_ble_eq_true rfl) (s10066_X12_becomes J d  _) ?_
        rintro _ _ ⟨rfl, rfl⟩
        dsimp only [Option.toList, List.cons_append, List.nil_append]
        refine G_goto (pc := 29) (tgt := 33) (by decide) dX12_sun_29 ?_
        exact G_iret (pc := 33) (Nat.le_of_ble_eq_true rfl) (Nat.le_of_ble_eq_true rfl) rfl dX12_sun_33 (by first | rfl | (simp [F_sun, *]; done) | (have : 0 ≤ (v).toInt := Int32.le_iff_toInt_le.mp (c186.1); have : (v).toInt ≤ 15 := Int32.le_iff_toInt_le.mp (c186.2); simp only [F_sun, Int32.le_iff_toInt_le, Int32.lt_iff_toInt_lt, ← Int32.toInt_inj]; simp; omega) | (have : 0 ≤ (v).toInt := Int32.le_iff_toInt_le.mp (c186.1); have : (v).toInt ≤ 15 := Int32.le_iff_toInt_le.mp (c186.2); simp only [F_sun, Int32.le_iff_toInt_le, Int32.lt_iff_toInt_lt, ← Int32.toInt_inj]; split <;> first | rfl | (exfalso; simp at *; omega)) | (have : 0 ≤ (v).toInt := Int32.le_iff_toInt_le.mp (c186.1); have : (v).toInt ≤ 15 := Int32.le_iff_toInt_le.mp (c186.2); unfold F_sun; (repeat' split) <;> first | rfl | (exfalso; (try simp only [Int32.le_iff_toInt_le, Int32.lt_iff_toInt_lt, ← Int32.toInt_inj] at *); first | omega | (simp at *; done) | (simp at *; omega))))
      by_cases c196 : halt = 9
      · subst c196
        refine G_iadd (pc := 24) (z := 16) (by decide) dX12_sun_24 ?_
        refine G_iload_n (pc := 25) rfl dX12_sun_25 ?_
        refine G_callV (pc := 26) (mc1 := 0) (ms1 := 0) (ci := 12) (mj := mX12_becomes) (vs := [_, _]) dX12_sun_26 rfl rfl cm_X12_becomes wh_18 wh_20 wh_21 rfl (Nat.le_of_ble_eq_true rfl) (Nat.le_of_ble_eq_true rfl) (Nat.le_of_ble_eq_true rfl) (Nat.le_of_ble_eq_true rfl) (s10067_X12_becomes J d  _) ?_
        rintro _ _ ⟨rfl, rfl⟩
        dsimp only [Option.toList, List.cons_append, List.nil_append]
        refine G_goto (pc := 29) (tgt := 33) (by decide) dX12_sun_29 ?_
        exact G_iret (pc := 33) (Nat.le_of_ble_eq_true rfl) (Nat.le_of_ble_eq_true rfl) rfl dX12_sun_33 (by first | rfl | (simp [F_sun, *]; done) | (have : 0 ≤ (v).toInt := Int32.le_iff_toInt_le.mp (c186.1); have : (v).toInt ≤ 15 := Int32.le_iff_toInt_le.mp (c186.2); simp only [F_sun, Int32.le_iff_toInt_le, Int32.lt_iff_toInt_lt, ← Int32.toInt_inj]; simp; omega) | (have : 0 ≤ (v).toInt := Int32.le_iff_toInt_le.mp (c186.1); have : (v).toInt ≤ 15 := Int32.le_iff_toInt_le.mp (c186.2); simp only [F_sun, Int32.le_iff_toInt_le, Int32.lt_iff_toInt_lt, ← Int32.toInt_inj]; split <;> first | rfl | (exfalso; simp at *; omega)) | (have : 0 ≤ (v).toInt := Int32.le_iff_toInt_le.mp (c186.1); have : (v).toInt ≤ 15 := Int32.le_iff_toInt_le.mp (c186.2); unfold F_sun; (repeat' split) <;> first | rfl | (exfalso; (try simp only [Int32.le_iff_toInt_le, Int32.lt_iff_toInt_lt, ← Int32.toInt_inj] at *); first | omega | (simp at *; done) | (simp at *; omega))))
      by_cases c197 : halt = 10
      · subst c197
        refine G_iadd (pc := 24) (z := 17) (by decide) dX12_sun_24 ?_
        refine G_iload_n (pc := 25) rfl dX12_sun_25 ?_
        refine G_callV (pc := 26) (mc1 := 0) (ms1 := 0) (ci := 12) (mj := mX12_becomes) (vs := [_, _]) dX12_sun_26 rfl rfl cm_X12_becomes wh_18 wh_20 wh_21 rfl (Nat.le_of_ble_eq_true rfl) (Nat.le_of_ble_eq_true rfl) (Nat.le_of_ble_eq_true rfl) (Nat.le_of_ble_eq_true rfl) (s10068_X12_becomes J d  _) ?_
        rintro _ _ ⟨rfl, rfl⟩
        dsimp only [Option.toList, List.cons_append, List.nil_append]
        refine G_goto (pc := 29) (tgt := 33) (by decide) dX12_sun_29 ?_
        exact G_iret (pc := 33) (Nat.le_of_ble_eq_true rfl) (Nat.le_of_ble_eq_true rfl) rfl dX12_sun_33 (by first | rfl | (simp [F_sun, *]; done) | (have : 0 ≤ (v).toInt := Int32.le_iff_toInt_le.mp (c186.1); have : (v).toInt ≤ 15 := Int32.le_iff_toInt_le.mp (c186.2); simp only [F_sun, Int32.le_iff_toInt_le, Int32.lt_iff_toInt_lt, ← Int32.toInt_inj]; simp; omega) | (have : 0 ≤ (v).toInt := Int32.le_iff_toInt_le.mp (c186.1); have : (v).toInt ≤ 15 := Int32.le_iff_toInt_le.mp (c186.2); simp only [F_sun, Int32.le_iff_toInt_le, Int32.lt_iff_toInt_lt, ← Int32.toInt_inj]; split <;> first | rfl | (exfalso; simp at *; omega)) | (have : 0 ≤ (v).toInt := Int32.le_iff_toInt_le.mp (c186.1); have : (v).toInt ≤ 15 := Int32.le_iff_toInt_le.mp (c186.2); unfold F_sun; (repeat' split) <;> first | rfl | (exfalso; (try simp only [Int32.le_iff_toInt_le, Int32.lt_iff_toInt_lt, ← Int32.toInt_inj] at *); first | omega | (simp at *; done) | (simp at *; omega))))
      by_cases c198 : halt = 11
      · subst c198
        refine G_iadd (pc := 24) (z := 18) (by decide) dX12_sun_24 ?_
        refine G_iload_n (pc := 25) rfl dX12_sun_25 ?_
        refine G_callV (pc := 26) (mc1 := 0) (ms1 := 0) (ci := 12) (mj := mX12_becomes) (vs := [_, _]) dX12_sun_26 rfl rfl cm_X12_becomes wh_18 wh_20 wh_21 rfl (Nat.le_of_ble_eq_true rfl) (Nat.le_of_ble_eq_true rfl) (Nat.le_of_ble_eq_true rfl) (Nat.le_of_ble_eq_true rfl) (s10069_X12_becomes J d  _) ?_
        rintro _ _ ⟨rfl, rfl⟩
        dsimp only [Option.toList, List.cons_append, List.nil_append]
        refine G_goto (pc := 29) (tgt := 33) (by decide) dX12_sun_29 ?_
        exact G_iret (pc := 33) (Nat.le_of_ble_eq_true rfl) (Nat.le_of_ble_eq_true rfl) rfl dX12_sun_33 (by first | rfl | (simp [F_sun, *]; done) | (have : 0 ≤ (v).toInt := Int32.le_iff_toInt_le.mp (c186.1); have : (v).toInt ≤ 15 := Int32.le_iff_toInt_le.mp (c186.2); simp only [F_sun, Int32.le_iff_toInt_le, Int32.lt_iff_toInt_lt, ← Int32.toInt_inj]; simp; omega) | (have : 0 ≤ (v).toInt := Int32.le_iff_toInt_le.mp (c186.1); have : (v).toInt ≤ 15 := Int32.le_iff_toInt_le.mp (c186.2); simp only [F_sun, Int32.le_iff_toInt_le, Int32.lt_iff_toInt_lt, ← Int32.toInt_inj]; split <;> first | rfl | (exfalso; simp at *; omega)) | (have : 0 ≤ (v).toInt := Int32.le_iff_toInt_le.mp (c186.1); have : (v).toInt ≤ 15 := Int32.le_iff_toInt_le.mp (c186.2); unfold F_sun; (repeat' split) <;> first | rfl | (exfalso; (try simp only [Int32.le_iff_toInt_le, Int32.lt_iff_toInt_lt, ← Int32.toInt_inj] at *); first | omega | (simp at *; done) | (simp at *; omega))))
      by_cases c199 : halt = 12
      · subst c199
        refine G_iadd (pc := 24) (z := 19) (by decide) dX12_sun_24 ?_
        refine G_iload_n (pc := 25) rfl dX12_sun_25 ?_
        refine G_callV (pc := 26) (mc1 := 0) (ms1 := 0) (ci := 12) (mj := mX12_becomes) (vs := [_, _]) dX12_sun_26 rfl rfl cm_X12_becomes wh_18 wh_20 wh_21 rfl (Nat.le_of_ble_eq_true rfl) (Nat.le_of_ble_eq_true rfl) (Nat.le_of_ble_eq_true rfl) (Nat.le_of_ble_eq_true rfl) (s10070_X12_becomes J d  _) ?_
        rintro _ _ ⟨rfl, rfl⟩
        dsimp only [Option.toList, List.cons_append, List.nil_append]
        refine G_goto (pc := 29) (tgt := 33) (by decide) dX12_sun_29 ?_
        exact G_iret (pc := 33) (Nat.le_of_ble_eq_true rfl) (Nat.le_of_ble_eq_true rfl) rfl dX12_sun_33 (by first | rfl | (simp [F_sun, *]; done) | (have : 0 ≤ (v).toInt := Int32.le_iff_toInt_le.mp (c186.1); have : (v).toInt ≤ 15 := Int32.le_iff_toInt_le.mp (c186.2); simp only [F_sun, Int32.le_iff_toInt_le, Int32.lt_iff_toInt_lt, ← Int32.toInt_inj]; simp; omega) | (have : 0 ≤ (v).toInt := Int32.le_iff_toInt_le.mp (c186.1); have : (v).toInt ≤ 15 := Int32.le_iff_toInt_le.mp (c186.2); simp only [F_sun, Int32.le_iff_toInt_le, Int32.lt_iff_toInt_lt, ← Int32.toInt_inj]; split <;> first | rfl | (exfalso; simp at *; omega)) | (have : 0 ≤ (v).toInt := Int32.le_iff_toInt_le.mp (c186.1); have : (v).toInt ≤ 15 := Int32.le_iff_toInt_le.mp (c186.2); unfold F_sun; (repeat' split) <;> first | rfl | (exfalso; (try simp only [Int32.le_iff_toInt_le, Int32.lt_iff_toInt_lt, ← Int32.toInt_inj] at *); first | omega | (simp at *; done) | (simp at *; omega))))
      by_cases c200 : halt = 13
      · subst c200
        refine G_iadd (pc := 24) (z := 20) (by decide) dX12_sun_24 ?_
        refine G_iload_n (pc := 25) rfl dX12_sun_25 ?_
        refine G_callV (pc := 26) (mc1 := 0) (ms1 := 0) (ci := 12) (mj := mX12_becomes) (vs := [_, _]) dX12_sun_26 rfl rfl cm_X12_becomes wh_18 wh_20 wh_21 rfl (Nat.le_of_ble_eq_true rfl) (Nat.le_of_ble_eq_true rfl) (Nat.le_of_ble_eq_true rfl) (Nat.le_of_ble_eq_true rfl) (s10071_X12_becomes J d  _) ?_
        rintro _ _ ⟨rfl, rfl⟩
        dsimp only [Option.toList, List.cons_append, List.nil_append]
        refine G_goto (pc := 29) (tgt := 33) (by decide) dX12_sun_29 ?_
        exact G_iret (pc := 33) (Nat.le_of_ble_eq_true rfl) (Nat.le_of_ble_eq_true rfl) rfl dX12_sun_33 (by first | rfl | (simp [F_sun, *]; done) | (have : 0 ≤ (v).toInt := Int32.le_iff_toInt_le.mp (c186.1); have : (v).toInt ≤ 15 := Int32.le_iff_toInt_le.mp (c186.2); simp only [F_sun, Int32.le_iff_toInt_le, Int32.lt_iff_toInt_lt, ← Int32.toInt_inj]; simp; omega) | (have : 0 ≤ (v).toInt := Int32.le_iff_toInt_le.mp (c186.1); have : (v).toInt ≤ 15 := Int32.le_iff_toInt_le.mp (c186.2); simp only [F_sun, Int32.le_iff_toInt_le, Int32.lt_iff_toInt_lt, ← Int32.toInt_inj]; split <;> first | rfl | (exfalso; simp at *; omega)) | (have : 0 ≤ (v).toInt := Int32.le_iff_toInt_le.mp (c186.1); have : (v).toInt ≤ 15 := Int32.le_iff_toInt_le.mp (c186.2); unfold F_sun; (repeat' split) <;> first | rfl | (exfalso; (try simp only [Int32.le_iff_toInt_le, Int32.lt_iff_toInt_lt, ← Int32.toInt_inj] at *); first | omega | (simp at *; done) | (simp at *; omega))))
      by_cases c201 : halt = 14
      · subst c201
        refine G_iadd (pc := 24) (z := 21) (by decide) dX12_sun_24 ?_
        refine G_iload_n (pc := 25) rfl dX12_sun_25 ?_
        refine G_callV (pc := 26) (mc1 := 0) (ms1 := 0) (ci := 12) (mj := mX12_becomes) (vs := [_, _]) dX12_sun_26 rfl rfl cm_X12_becomes wh_18 wh_20 wh_21 rfl (Nat.le_of_ble_eq_true rfl) (Nat.le_of_ble_eq_true rfl) (Nat.le_of_ble_eq_true rfl) (Nat.le_of_ble_eq_true rfl) (s10072_X12_becomes J d  _) ?_
        rintro _ _ ⟨rfl, rfl⟩
        dsimp only [Option.toList, List.cons_append, List.nil_append]
        refine G_goto (pc := 29) (tgt := 33) (by decide) dX12_sun_29 ?_
        exact G_iret (pc := 33) (Nat.le_of_ble_eq_true rfl) (Nat.le_of_ble_eq_true rfl) rfl dX12_sun_33 (by first | rfl | (simp [F_sun, *]; done) | (have : 0 ≤ (v).toInt := Int32.le_iff_toInt_le.mp (c186.1); have : (v).toInt ≤ 15 := Int32.le_iff_toInt_le.mp (c186.2); simp only [F_sun, Int32.le_iff_toInt_le, Int32.lt_iff_toInt_lt, ← Int32.toInt_inj]; simp; omega) | (have : 0 ≤ (v).toInt := Int32.le_iff_toInt_le.mp (c186.1); have : (v).toInt ≤ 15 := Int32.le_iff_toInt_le.mp (c186.2); simp only [F_sun, Int32.le_iff_toInt_le, Int32.lt_iff_toInt_lt, ← Int32.toInt_inj]; split <;> first | rfl | (exfalso; simp at *; omega)) | (have : 0 ≤ (v).toInt := Int32.le_iff_toInt_le.mp (c186.1); have : (v).toInt ≤ 15 := Int32.le_iff_toInt_le.mp (c186.2); unfold F_sun; (repeat' split) <;> first | rfl | (exfalso; (try simp only [Int32.le_iff_toInt_le, Int32.lt_iff_toInt_lt, ← Int32.toInt_inj] at *); first | omega | (simp at *; done) | (simp at *; omega))))
      by_cases c202 : halt = 15
      · subst c202
        refine G_iadd (pc := 24) (z := 22) (by decide) dX12_sun_24 ?_
        refine G_iload_n (pc := 25) rfl dX12_sun_25 ?_
        refine G_callV (pc := 26) (mc1 := 0) (ms1 := 0) (ci := 12) (mj := mX12_becomes) (vs := [_, _]) dX12_sun_26 rfl rfl cm_X12_becomes wh_18 wh_20 wh_21 rfl (Nat.le_of_ble_eq_true rfl) (Nat.le_of_ble_eq_true rfl) (Nat.le_of_ble_eq_true rfl) (Nat.le_of_ble_eq_true rfl) (s10073_X12_becomes J d  _) ?_
        rintro _ _ ⟨rfl, rfl⟩
        dsimp only [Option.toList, List.cons_append, List.nil_append]
        refine G_goto (pc := 29) (tgt := 33) (by decide) dX12_sun_29 ?_
        exact G_iret (pc := 33) (Nat.le_of_ble_eq_true rfl) (Nat.le_of_ble_eq_true rfl) rfl dX12_sun_33 (by first | rfl | (simp [F_sun, *]; done) | (have : 0 ≤ (v).toInt := Int32.le_iff_toInt_le.mp (c186.1); have : (v).toInt ≤ 15 := Int32.le_iff_toInt_le.mp (c186.2); simp only [F_sun, Int32.le_iff_toInt_le, Int32.lt_iff_toInt_lt, ← Int32.toInt_inj]; simp; omega) | (have : 0 ≤ (v).toInt := Int32.le_iff_toInt_le.mp (c186.1); have : (v).toInt ≤ 15 := Int32.le_iff_toInt_le.mp (c186.2); simp only [F_sun, Int32.le_iff_toInt_le, Int32.lt_iff_toInt_lt, ← Int32.toInt_inj]; split <;> first | rfl | (exfalso; simp at *; omega)) | (have : 0 ≤ (v).toInt := Int32.le_iff_toInt_le.mp (c186.1); have : (v).toInt ≤ 15 := Int32.le_iff_toInt_le.mp (c186.2); unfold F_sun; (repeat' split) <;> first | rfl | (exfalso; (try simp only [Int32.le_iff_toInt_le, Int32.lt_iff_toInt_lt, ← Int32.toInt_inj] at *); first | omega | (simp at *; done) | (simp at *; omega))))
      exfalso
      have : 0 ≤ (halt).toInt := Int32.le_iff_toInt_le.mp (c185.1)
      have : (halt).toInt ≤ 15 := Int32.le_iff_toInt_le.mp (c185.2)
      have : (halt).toInt ≠ 0 := g_ne (c187)
      have : (halt).toInt ≠ 1 := g_ne (c188)
      have : (halt).toInt ≠ 2 := g_ne (c189)
      have : (halt).toInt ≠ 3 := g_ne (c190)
      have : (halt).toInt ≠ 4 := g_ne (c191)
      have : (halt).toInt ≠ 5 := g_ne (c192)
      have : (halt).toInt ≠ 6 := g_ne (c193)
      have : (halt).toInt ≠ 7 := g_ne (c194)
      have : (halt).toInt ≠ 8 := g_ne (c195)
      have : (halt).toInt ≠ 9 := g_ne (c196)
      have : (halt).toInt ≠ 10 := g_ne (c197)
      have : (halt).toInt ≠ 11 := g_ne (c198)
      have : (halt).toInt ≠ 12 := g_ne (c199)
      have : (halt).toInt ≠ 13 := g_ne (c200)
      have : (halt).toInt ≠ 14 := g_ne (c201)
      have : (halt).toInt ≠ 15 := g_ne (c202)
      omega
set_option maxRecDepth 100000 in
set_option maxHeartbeats 4000000 in
theorem s10074_X12_isDigit (J : gI) (d : Nat)  (a0 : Int32) : G (d + 1) mX12_isDigit 0 0 0 0 0 (gent 1 [.int a0]) [] SH0 RF0 (gmx J) (fun r h => r = some (.int (gB (0 ≤ a0 ∧ a0 ≤ 9))) ∧ h = (SH0, RF0, (gmx J))) := by
  refine G_iload_n (pc := 0) rfl dX12_isDigit_0 ?_
  refine G_iconst (pc := 1) (v := 0) (by decide) dX12_isDigit_1 ?_
  refine G_bipush (pc := 2) (v := 9) (by decide) dX12_isDigit_2 ?_
  refine G_callS (pc := 4) (mc1 := 0) (ms1 := 0) (mj := mX12_in1) (vs := [_, _, _]) dX12_isDigit_4 cm_X12_in1 wh_0 wh_3 rfl (Nat.le_of_ble_eq_true rfl) (Nat.le_of_ble_eq_true rfl) (Nat.le_of_ble_eq_true rfl) (Nat.le_of_ble_eq_true rfl) (in1_s d a0 0 9) ?_
  rintro _ _ ⟨rfl, rfl⟩
  dsimp only [Option.toList, List.cons_append, List.nil_append]
  exact G_zret (pc := 7) (Nat.le_of_ble_eq_true rfl) (Nat.le_of_ble_eq_true rfl) rfl gB_01 dX12_isDigit_7 ⟨rfl, rfl⟩
set_option maxRecDepth 100000 in
set_option maxHeartbeats 4000000 in
theorem s10075_X12_becomes (J : gI) (d : Nat)  (a0 : Int32) : G (d) mX12_becomes 0 0 0 0 0 (gent 4 [.ref 67, .int 29, .int a0]) [] SH0 RF0 (gmx J) (fun r h => r = some (.int 0) ∧ h = (SH0, RF0, (gup (gmx J) 68 29 a0))) := by
  refine G_aload_n (pc := 0) rfl dX12_becomes_0 ?_
  refine G_getR (pc := 1) (r := 68) (ci := 12) (j := 0) rfl lk_RX12_9 rfl rfl rfl dX12_becomes_1 ?_
  refine G_iload_n (pc := 4) rfl dX12_becomes_4 ?_
  refine G_iald (pc := 5) (jj := 29) (v := 0) (by decide) rfl rfl (by unfold vp_in; decide) dX12_becomes_5 ?_
  refine G_istore_n (pc := 6) (L1 := [some (.ref 67), some (.int 29), some (.int a0), some (.int 0)]) rfl rfl (by decide) dX12_becomes_6 ?_
  refine G_aload_n (pc := 7) rfl dX12_becomes_7 ?_
  refine G_getR (pc := 8) (r := 68) (ci := 12) (j := 0) rfl lk_RX12_9 rfl rfl rfl dX12_becomes_8 ?_
  refine G_iload_n (pc := 11) rfl dX12_becomes_11 ?_
  refine G_iload_n (pc := 12) rfl dX12_becomes_12 ?_
  refine G_iast (pc := 13) (jj := 29) (by decide) rfl (by unfold vp_in; decide) dX12_becomes_13 ?_
  refine G_iload_n (pc := 14) rfl dX12_becomes_14 ?_
  exact G_iret (pc := 15) (Nat.le_of_ble_eq_true rfl) (Nat.le_of_ble_eq_true rfl) rfl dX12_becomes_15 ⟨rfl, rfl⟩
set_option maxRecDepth 100000 in
set_option maxHeartbeats 4000000 in
theorem s10076_X12_becomes (J : gI) (d : Nat)  (a0 : Int32) : G (d) mX12_becomes 0 0 0 0 0 (gent 4 [.ref 67, .int 30, .int a0]) [] SH0 RF0 (gmx J) (fun r h => r = some (.int 0) ∧ h = (SH0, RF0, (gup (gmx J) 68 30 a0))) := by
  refine G_aload_n (pc := 0) rfl dX12_becomes_0 ?_
  refine G_getR (pc := 1) (r := 68) (ci := 12) (j := 0) rfl lk_RX12_9 rfl rfl rfl dX12_becomes_1 ?_
  refine G_iload_n (pc := 4) rfl dX12_becomes_4 ?_
  refine G_iald (pc := 5) (jj := 30) (v := 0) (by decide) rfl rfl (by unfold vp_in; decide) dX12_becomes_5 ?_
  refine G_istore_n (pc := 6) (L1 := [some (.ref 67), some (.int 30), some (.int a0), some (.int 0)]) rfl rfl (by decide) dX12_becomes_6 ?_
  refine G_aload_n (pc := 7) rfl dX12_becomes_7 ?_
  refine G_getR (pc := 8) (r := 68) (ci := 12) (j := 0) rfl lk_RX12_9 rfl rfl rfl dX12_becomes_8 ?_
  refine G_iload_n (pc := 11) rfl dX12_becomes_11 ?_
  refine G_iload_n (pc := 12) rfl dX12_becomes_12 ?_
  refine G_iast (pc := 13) (jj := 30) (by decide) rfl (by unfold vp_in; decide) dX12_becomes_13 ?_
  refine G_iload_n (pc := 14) rfl dX12_becomes_14 ?_
  exact G_iret (pc := 15) (Nat.le_of_ble_eq_true rfl) (Nat.le_of_ble_eq_true rfl) rfl dX12_becomes_15 ⟨rfl, rfl⟩
set_option maxRecDepth 100000 in
set_option maxHeartbeats 4000000 in
theorem s10077_X12_becomes (J : gI) (d : Nat)  (a0 : Int32) : G (d) mX12_becomes 0 0 0 0 0 (gent 4 [.ref 67, .int 31, .int a0]) [] SH0 RF0 (gmx J) (fun r h => r = some (.int 0) ∧ h = (SH0, RF0, (gup (gmx J) 68 31 a0))) := by
  refine G_aload_n (pc := 0) rfl dX12_becomes_0 ?_
  refine G_getR (pc := 1) (r := 68) (ci := 12) (j := 0) rfl lk_RX12_9 rfl rfl rfl dX12_becomes_1 ?_
  refine G_iload_n (pc := 4) rfl dX12_becomes_4 ?_
  refine G_iald (pc := 5) (jj := 31) (v := 0) (by decide) rfl rfl (by unfold vp_in; decide) dX12_becomes_5 ?_
  refine G_istore_n (pc := 6) (L1 := [some (.ref 67), some (.int 31), some (.int a0), some (.int 0)]) rfl rfl (by decide) dX12_becomes_6 ?_
  refine G_aload_n (pc := 7) rfl dX12_becomes_7 ?_
  refine G_getR (pc := 8) (r := 68) (ci := 12) (j := 0) rfl lk_RX12_9 rfl rfl rfl dX12_becomes_8 ?_
  refine G_iload_n (pc := 11) rfl dX12_becomes_11 ?_
  refine G_iload_n (pc := 12) rfl dX12_becomes_12 ?_
  refine G_iast (pc := 13) (jj := 31) (by decide) rfl (by unfold vp_in; decide) dX12_becomes_13 ?_
  refine G_iload_n (pc := 14) rfl dX12_becomes_14 ?_
  exact G_iret (pc := 15) (Nat.le_of_ble_eq_true rfl) (Nat.le_of_ble_eq_true rfl) rfl dX12_becomes_15 ⟨rfl, rfl⟩
set_option maxRecDepth 100000 in
set_option maxHeartbeats 4000000 in
theorem s10078_X12_becomes (J : gI) (d : Nat)  (a0 : Int32) : G (d) mX12_becomes 0 0 0 0 0 (gent 4 [.ref 67, .int 32, .int a0]) [] SH0 RF0 (gmx J) (fun r h => r = some (.int 0) ∧ h = (SH0, RF0, (gup (gmx J) 68 32 a0))) := by
  refine G_aload_n (pc := 0) rfl dX12_becomes_0 ?_
  refine G_getR (pc := 1) (r := 68) (ci := 12) (j := 0) rfl lk_RX12_9 rfl rfl rfl dX12_becomes_1 ?_
  refine G_iload_n (pc := 4) rfl dX12_becomes_4 ?_
  refine G_iald (pc := 5) (jj := 32) (v := 0) (by decide) rfl rfl (by unfold vp_in; decide) dX12_becomes_5 ?_
  refine G_istore_n (pc := 6) (L1 := [some (.ref 67), some (.int 32), some (.int a0), some (.int 0)]) rfl rfl (by decide) dX12_becomes_6 ?_
  refine G_aload_n (pc := 7) rfl dX12_becomes_7 ?_
  refine G_getR (pc := 8) (r := 68) (ci := 12) (j := 0) rfl lk_RX12_9 rfl rfl rfl dX12_becomes_8 ?_
  refine G_iload_n (pc := 11) rfl dX12_becomes_11 ?_
  refine G_iload_n (pc := 12) rfl dX12_becomes_12 ?_
  refine G_iast (pc := 13) (jj := 32) (by decide) rfl (by unfold vp_in; decide) dX12_becomes_13 ?_
  refine G_iload_n (pc := 14) rfl dX12_becomes_14 ?_
  exact G_iret (pc := 15) (Nat.le_of_ble_eq_true rfl) (Nat.le_of_ble_eq_true rfl) rfl dX12_becomes_15 ⟨rfl, rfl⟩
set_option maxRecDepth 100000 in
set_option maxHeartbeats 4000000 in
theorem s10079_X12_becomes (J : gI) (d : Nat)  (a0 : Int32) : G (d) mX12_becomes 0 0 0 0 0 (gent 4 [.ref 67, .int 33, .int a0]) [] SH0 RF0 (gmx J) (fun r h => r = some (.int 0) ∧ h = (SH0, RF0, (gup (gmx J) 68 33 a0))) := by
  refine G_aload_n (pc := 0) rfl dX12_becomes_0 ?_
  refine G_getR (pc := 1) (r := 68) (ci := 12) (j := 0) rfl lk_RX12_9 rfl rfl rfl dX12_becomes_1 ?_
  refine G_iload_n (pc := 4) rfl dX12_becomes_4 ?_
  refine G_iald (pc := 5) (jj := 33) (v := 0) (by decide) rfl rfl (by unfold vp_in; decide) dX12_becomes_5 ?_
  refine G_istore_n (pc := 6) (L1 := [some (.ref 67), some (.int 33), some (.int a0), some (.int 0)]) rfl rfl (by decide) dX12_becomes_6 ?_
  refine G_aload_n (pc := 7) rfl dX12_becomes_7 ?_
  refine G_getR (pc := 8) (r := 68) (ci := 12) (j := 0) rfl lk_RX12_9 rfl rfl rfl dX12_becomes_8 ?_
  refine G_iload_n (pc := 11) rfl dX12_becomes_11 ?_
  refine G_iload_n (pc := 12) rfl dX12_becomes_12 ?_
  refine G_iast (pc := 13) (jj := 33) (by decide) rfl (by unfold vp_in; decide) dX12_becomes_13 ?_
  refine G_iload_n (pc := 14) rfl dX12_becomes_14 ?_
  exact G_iret (pc := 15) (Nat.le_of_ble_eq_true rfl) (Nat.le_of_ble_eq_true rfl) rfl dX12_becomes_15 ⟨rfl, rfl⟩
set_option maxRecDepth 100000 in
set_option maxHeartbeats 4000000 in
theorem s10080_X12_becomes (J : gI) (d : Nat)  (a0 : Int32) : G (d) mX12_becomes 0 0 0 0 0 (gent 4 [.ref 67, .int 34, .int a0]) [] SH0 RF0 (gmx J) (fun r h => r = some (.int 0) ∧ h = (SH0, RF0, (gup (gmx J) 68 34 a0))) := by
  refine G_aload_n (pc := 0) rfl dX12_becomes_0 ?_
  refine G_getR (pc := 1) (r := 68) (ci := 12) (j := 0) rfl lk_RX12_9 rfl rfl rfl dX12_becomes_1 ?_
  refine G_iload_n (pc := 4) rfl dX12_becomes_4 ?_
  refine G_iald (pc := 5) (jj := 34) (v := 0) (by decide) rfl rfl (by unfold vp_in; decide) dX12_becomes_5 ?_
  refine G_istore_n (pc := 6) (L1 := [some (.ref 67), some (.int 34), some (.int a0), some (.int 0)]) rfl rfl (by decide) dX12_becomes_6 ?_
  refine G_aload_n (pc := 7) rfl dX12_becomes_7 ?_
  refine G_getR (pc := 8) (r := 68) (ci := 12) (j := 0) rfl lk_RX12_9 rfl rfl rfl dX12_becomes_8 ?_
  refine G_iload_n (pc := 11) rfl dX12_becomes_11 ?_
  refine G_iload_n (pc := 12) rfl dX12_becomes_12 ?_
  refine G_iast (pc := 13) (jj := 34) (by decide) rfl (by unfold vp_in; decide) dX12_becomes_13 ?_
  refine G_iload_n (pc := 14) rfl dX12_becomes_14 ?_
  exact G_iret (pc := 15) (Nat.le_of_ble_eq_true rfl) (Nat.le_of_ble_eq_true rfl) rfl dX12_becomes_15 ⟨rfl, rfl⟩
set_option maxRecDepth 100000 in
set_option maxHeartbeats 4000000 in
theorem s10081_X12_becomes (J : gI) (d : Nat)  (a0 : Int32) : G (d) mX12_becomes 0 0 0 0 0 (gent 4 [.ref 67, .int 23, .int a0]) [] SH0 RF0 (gmx J) (fun r h => r = some (.int 0) ∧ h = (SH0, RF0, (gup (gmx J) 68 23 a0))) := by
  refine G_aload_n (pc := 0) rfl dX12_becomes_0 ?_
  refine G_getR (pc := 1) (r := 68) (ci := 12) (j := 0) rfl lk_RX12_9 rfl rfl rfl dX12_becomes_1 ?_
  refine G_iload_n (pc := 4) rfl dX12_becomes_4 ?_
  refine G_iald (pc := 5) (jj := 23) (v := 0) (by decide) rfl rfl (by unfold vp_in; decide) dX12_becomes_5 ?_
  refine G_istore_n (pc := 6) (L1 := [some (.ref 67), some (.int 23), some (.int a0), some (.int 0)]) rfl rfl (by decide) dX12_becomes_6 ?_
  refine G_aload_n (pc := 7) rfl dX12_becomes_7 ?_
  refine G_getR (pc := 8) (r := 68) (ci := 12) (j := 0) rfl lk_RX12_9 rfl rfl rfl dX12_becomes_8 ?_
  refine G_iload_n (pc := 11) rfl dX12_becomes_11 ?_
  refine G_iload_n (pc := 12) rfl dX12_becomes_12 ?_
  refine G_iast (pc := 13) (jj := 23) (by decide) rfl (by unfold vp_in; decide) dX12_becomes_13 ?_
  refine G_iload_n (pc := 14) rfl dX12_becomes_14 ?_
  exact G_iret (pc := 15) (Nat.le_of_ble_eq_true rfl) (Nat.le_of_ble_eq_true rfl) rfl dX12_becomes_15 ⟨rfl, rfl⟩
set_option maxRecDepth 100000 in
set_option maxHeartbeats 4000000 in
theorem s10082_X12_becomes (J : gI) (d : Nat)  (a0 : Int32) : G (d) mX12_becomes 0 0 0 0 0 (gent 4 [.ref 67, .int 24, .int a0]) [] SH0 RF0 (gmx J) (fun r h => r = some (.int 0) ∧ h = (SH0, RF0, (gup (gmx J) 68 24 a0))) := by
  refine G_aload_n (pc := 0) rfl dX12_becomes_0 ?_
  refine G_getR (pc := 1) (r := 68) (ci := 12) (j := 0) rfl lk_RX12_9 rfl rfl rfl dX12_becomes_1 ?_
  refine G_iload_n (pc := 4) rfl dX12_becomes_4 ?_
  refine G_iald (pc := 5) (jj := 24) (v := 0) (by decide) rfl rfl (by unfold vp_in; decide) dX12_becomes_5 ?_
  refine G_istore_n (pc := 6) (L1 := [some (.ref 67), some (.int 24), some (.int a0), some (.int 0)]) rfl rfl (by decide) dX12_becomes_6 ?_
  refine G_aload_n (pc := 7) rfl dX12_becomes_7 ?_
  refine G_getR (pc := 8) (r := 68) (ci := 12) (j := 0) rfl lk_RX12_9 rfl rfl rfl dX12_becomes_8 ?_
  refine G_iload_n (pc := 11) rfl dX12_becomes_11 ?_
  refine G_iload_n (pc := 12) rfl dX12_becomes_12 ?_
  refine G_iast (pc := 13) (jj := 24) (by decide) rfl (by unfold vp_in; decide) dX12_becomes_13 ?_
  refine G_iload_n (pc := 14) rfl dX12_becomes_14 ?_
  exact G_iret (pc := 15) (Nat.le_of_ble_eq_true rfl) (Nat.le_of_ble_eq_true rfl) rfl dX12_becomes_15 ⟨rfl, rfl⟩
set_option maxRecDepth 100000 in
set_option maxHeartbeats 4000000 in
theorem s10083_X12_becomes (J : gI) (d : Nat)  (a0 : Int32) : G (d) mX12_becomes 0 0 0 0 0 (gent 4 [.ref 67, .int 25, .int a0]) [] SH0 RF0 (gmx J) (fun r h => r = some (.int 0) ∧ h = (SH0, RF0, (gup (gmx J) 68 25 a0))) := by
  refine G_aload_n (pc := 0) rfl dX12_becomes_0 ?_
  refine G_getR (pc := 1) (r := 68) (ci := 12) (j := 0) rfl lk_RX12_9 rfl rfl rfl dX12_becomes_1 ?_
  refine G_iload_n (pc := 4) rfl dX12_becomes_4 ?_
  refine G_iald (pc := 5) (jj := 25) (v := 0) (by decide) rfl rfl (by unfold vp_in; decide) dX12_becomes_5 ?_
  refine G_istore_n (pc := 6) (L1 := [some (.ref 67), some (.int 25), some (.int a0), some (.int 0)]) rfl rfl (by decide) dX12_becomes_6 ?_
  refine G_aload_n (pc := 7) rfl dX12_becomes_7 ?_
  refine G_getR (pc := 8) (r := 68) (ci := 12) (j := 0) rfl lk_RX12_9 rfl rfl rfl dX12_becomes_8 ?_
  refine G_iload_n (pc := 11) rfl dX12_becomes_11 ?_
  refine G_iload_n (pc := 12) rfl dX12_becomes_12 ?_
  refine G_iast (pc := 13) (jj := 25) (by decide) rfl (by unfold vp_in; decide) dX12_becomes_13 ?_
  refine G_iload_n (pc := 14) rfl dX12_becomes_14 ?_
  exact G_iret (pc := 15) (Nat.le_of_ble_eq_true rfl) (Nat.le_of_ble_eq_true rfl) rfl dX12_becomes_15 ⟨rfl, rfl⟩
set_option maxRecDepth 100000 in
set_option maxHeartbeats 4000000 in
theorem s10084_X12_becomes (J : gI) (d : Nat)  (a0 : Int32) : G (d) mX12_becomes 0 0 0 0 0 (gent 4 [.ref 67, .int 26, .int a0]) [] SH0 RF0 (gmx J) (fun r h => r = some (.int 0) ∧ h = (SH0, RF0, (gup (gmx J) 68 26 a0))) := by
  refine G_aload_n (pc := 0) rfl dX12_becomes_0 ?_
  refine G_getR (pc := 1) (r := 68) (ci := 12) (j := 0) rfl lk_RX12_9 rfl rfl rfl dX12_becomes_1 ?_
  refine G_iload_n (pc := 4) rfl dX12_becomes_4 ?_
  refine G_iald (pc := 5) (jj := 26) (v := 0) (by decide) rfl rfl (by unfold vp_in; decide) dX12_becomes_5 ?_
  refine G_istore_n (pc := 6) (L1 := [some (.ref 67), some (.int 26), some (.int a0), some (.int 0)]) rfl rfl (by decide) dX12_becomes_6 ?_
  refine G_aload_n (pc := 7) rfl dX12_becomes_7 ?_
  refine G_getR (pc := 8) (r := 68) (ci := 12) (j := 0) rfl lk_RX12_9 rfl rfl rfl dX12_becomes_8 ?_
  refine G_iload_n (pc := 11) rfl dX12_becomes_11 ?_
  refine G_iload_n (pc := 12) rfl dX12_becomes_12 ?_
  refine G_iast (pc := 13) (jj := 26) (by decide) rfl (by unfold vp_in; decide) dX12_becomes_13 ?_
  refine G_iload_n (pc := 14) rfl dX12_becomes_14 ?_
  exact G_iret (pc := 15) (Nat.le_of_ble_eq_true rfl) (Nat.le_of_ble_eq_true rfl) rfl dX12_becomes_15 ⟨rfl, rfl⟩
set_option maxRecDepth 100000 in
set_option maxHeartbeats 4000000 in
theorem s10085_X12_becomes (J : gI) (d : Nat)  (a0 : Int32) : G (d) mX12_becomes 0 0 0 0 0 (gent 4 [.ref 67, .int 27, .int a0]) [] SH0 RF0 (gmx J) (fun r h => r = some (.int 0) ∧ h = (SH0, RF0, (gup (gmx J) 68 27 a0))) := by
  refine G_aload_n (pc := 0) rfl dX12_becomes_0 ?_
  refine G_getR (pc := 1) (r := 68) (ci := 12) (j := 0) rfl lk_RX12_9 rfl rfl rfl dX12_becomes_1 ?_
  refine G_iload_n (pc := 4) rfl dX12_becomes_4 ?_
  refine G_iald (pc := 5) (jj := 27) (v := 0) (by decide) rfl rfl (by unfold vp_in; decide) dX12_becomes_5 ?_
  refine G_istore_n (pc := 6) (L1 := [some (.ref 67), some (.int 27), some (.int a0), some (.int 0)]) rfl rfl (by decide) dX12_becomes_6 ?_
  refine G_aload_n (pc := 7) rfl dX12_becomes_7 ?_
  refine G_getR (pc := 8) (r := 68) (ci := 12) (j := 0) rfl lk_RX12_9 rfl rfl rfl dX12_becomes_8 ?_
  refine G_iload_n (pc := 11) rfl dX12_becomes_11 ?_
  refine G_iload_n (pc := 12) rfl dX12_becomes_12 ?_
  refine G_iast (pc := 13) (jj := 27) (by decide) rfl (by unfold vp_in; decide) dX12_becomes_13 ?_
  refine G_iload_n (pc := 14) rfl dX12_becomes_14 ?_
  exact G_iret (pc := 15) (Nat.le_of_ble_eq_true rfl) (Nat.le_of_ble_eq_true rfl) rfl dX12_becomes_15 ⟨rfl, rfl⟩
set_option maxRecDepth 100000 in
set_option maxHeartbeats 4000000 in
theorem s10086_X12_becomes (J : gI) (d : Nat)  (a0 : Int32) : G (d) mX12_becomes 0 0 0 0 0 (gent 4 [.ref 67, .int 28, .int a0]) [] SH0 RF0 (gmx J) (fun r h => r = some (.int 0) ∧ h = (SH0, RF0, (gup (gmx J) 68 28 a0))) := by
  refine G_aload_n (pc := 0) rfl dX12_becomes_0 ?_
  refine G_getR (pc := 1) (r := 68) (ci := 12) (j := 0) rfl lk_RX12_9 rfl rfl rfl dX12_becomes_1 ?_
  refine G_iload_n (pc := 4) rfl dX12_becomes_4 ?_
  refine G_iald (pc := 5) (jj := 28) (v := 0) (by decide) rfl rfl (by unfold vp_in; decide) dX12_becomes_5 ?_
  refine G_istore_n (pc := 6) (L1 := [some (.ref 67), some (.int 28), some (.int a0), some (.int 0)]) rfl rfl (by decide) dX12_becomes_6 ?_
  refine G_aload_n (pc := 7) rfl dX12_becomes_7 ?_
  refine G_getR (pc := 8) (r := 68) (ci := 12) (j := 0) rfl lk_RX12_9 rfl rfl rfl dX12_becomes_8 ?_
  refine G_iload_n (pc := 11) rfl dX12_becomes_11 ?_
  refine G_iload_n (pc := 12) rfl dX12_becomes_12 ?_
  refine G_iast (pc := 13) (jj := 28) (by decide) rfl (by unfold vp_in; decide) dX12_becomes_13 ?_
  refine G_iload_n (pc := 14) rfl dX12_becomes_14 ?_
  exact G_iret (pc := 15) (Nat.le_of_ble_eq_true rfl) (Nat.le_of_ble_eq_true rfl) rfl dX12_becomes_15 ⟨rfl, rfl⟩
set_option maxRecDepth 100000 in
set_option maxHeartbeats 4000000 in
theorem z_gate (J : gI) (d : Nat) (f : Int32) (what : Int32) (v : Int32) : G (d + 2) mX12_gate 0 0 0 0 0 (gent 4 [.ref 67, .int f, .int what, .int v]) [] SH0 RF0 (gmx J) (fun r _ => r = some (.int (F_gate f what v))) := by
  refine G_iload_n (pc := 0) rfl dX12_gate_0 ?_
  refine G_callS (pc := 1) (mc1 := 0) (ms1 := 0) (mj := mX12_isGate) (vs := [_]) dX12_gate_1 cm_X12_isGate wh_7 wh_9 rfl (Nat.le_of_ble_eq_true rfl) (Nat.le_of_ble_eq_true rfl) (Nat.le_of_ble_eq_true rfl) (Nat.le_of_ble_eq_true rfl) (s10015_X12_isGate J d  _) ?_
  rintro _ _ ⟨rfl, rfl⟩
  dsimp only [Option.toList, List.cons_append, List.nil_append]
  refine G_if_eq (pc := 4) (tgt := 44) (by decide) dX12_gate_4 (fun c203 => ?_) (fun c203 => ?_)
  · have c203 := gB_z c203
    refine G_iconst (pc := 44) (v := (-1)) (by decide) dX12_gate_44 ?_
    exact G_iret (pc := 45) (Nat.le_of_ble_eq_true rfl) (Nat.le_of_ble_eq_true rfl) rfl dX12_gate_45 (by first | rfl | (simp [F_gate, *]; done) | (have : ¬ (0 ≤ (f).toInt ∧ (f).toInt ≤ 5) := fun z => c203 ⟨Int32.le_iff_toInt_le.mpr z.1, Int32.le_iff_toInt_le.mpr z.2⟩; simp only [F_gate, Int32.le_iff_toInt_le, Int32.lt_iff_toInt_lt, ← Int32.toInt_inj]; simp; omega) | (have : ¬ (0 ≤ (f).toInt ∧ (f).toInt ≤ 5) := fun z => c203 ⟨Int32.le_iff_toInt_le.mpr z.1, Int32.le_iff_toInt_le.mpr z.2⟩; simp only [F_gate, Int32.le_iff_toInt_le, Int32.lt_iff_toInt_lt, ← Int32.toInt_inj]; split <;> first | rfl | (exfalso; simp at *; omega)) | (have : ¬ (0 ≤ (f).toInt ∧ (f).toInt ≤ 5) := fun z => c203 ⟨Int32.le_iff_toInt_le.mpr z.1, Int32.le_iff_toInt_le.mpr z.2⟩; unfold F_gate; (repeat' split) <;> first | rfl | (exfalso; (try simp only [Int32.le_iff_toInt_le, Int32.lt_iff_toInt_lt, ← Int32.toInt_inj] at *); first | omega | (simp at *; done) | (simp at *; omega))))
  · have c203 := gB_o c203
    refine G_iload_n (pc := 7) rfl dX12_gate_7 ?_
    refine G_iconst (pc := 8) (v := 0) (by decide) dX12_gate_8 ?_
    refine G_iconst (pc := 9) (v := 1) (by decide) dX12_gate_9 ?_
    refine G_callS (pc := 10) (mc1 := 0) (ms1 := 0) (mj := mX12_in1) (vs := [_, _, _]) dX12_gate_10 cm_X12_in1 wh_0 wh_3 rfl (Nat.le_of_ble_eq_true rfl) (Nat.le_of_ble_eq_true rfl) (Nat.le_of_ble_eq_true rfl) (Nat.le_of_ble_eq_true rfl) (in1_s (d + 1) what 0 1) ?_
    rintro _ _ ⟨rfl, rfl⟩
    dsimp only [Option.toList, List.cons_append, List.nil_append]
    refine G_if_eq (pc := 13) (tgt := 44) (by decide) dX12_gate_13 (fun c204 => ?_) (fun c204 => ?_)
    · have c204 := gB_z c204
      refine G_iconst (pc := 44) (v := (-1)) (by decide) dX12_gate_44 ?_
      exact G_iret (pc := 45) (Nat.le_of_ble_eq_true rfl) (Nat.le_of_ble_eq_true rfl) rfl dX12_gate_45 (by first | rfl | (simp [F_gate, *]; done) | (have : 0 ≤ (f).toInt := Int32.le_iff_toInt_le.mp (c203.1); have : (f).toInt ≤ 5 := Int32.le_iff_toInt_le.mp (c203.2); have : ¬ (0 ≤ (what).toInt ∧ (what).toInt ≤ 1) := fun z => c204 ⟨Int32.le_iff_toInt_le.mpr z.1, Int32.le_iff_toInt_le.mpr z.2⟩; simp only [F_gate, Int32.le_iff_toInt_le, Int32.lt_iff_toInt_lt, ← Int32.toInt_inj]; simp; omega) | (have : 0 ≤ (f).toInt := Int32.le_iff_toInt_le.mp (c203.1); have : (f).toInt ≤ 5 := Int32.le_iff_toInt_le.mp (c203.2); have : ¬ (0 ≤ (what).toInt ∧ (what).toInt ≤ 1) := fun z => c204 ⟨Int32.le_iff_toInt_le.mpr z.1, Int32.le_iff_toInt_le.mpr z.2⟩; simp only [F_gate, Int32.le_iff_toInt_le, Int32.lt_iff_toInt_lt, ← Int32.toInt_inj]; split <;> first | rfl | (exfalso; simp at *; omega)) | (have : 0 ≤ (f).toInt := Int32.le_iff_toInt_le.mp (c203.1); have : (f).toInt ≤ 5 := Int32.le_iff_toInt_le.mp (c203.2); have : ¬ (0 ≤ (what).toInt ∧ (what).toInt ≤ 1) := fun z => c204 ⟨Int32.le_iff_toInt_le.mpr z.1, Int32.le_iff_toInt_le.mpr z.2⟩; unfold F_gate; (repeat' split) <;> first | rfl | (exfalso; (try simp only [Int32.le_iff_toInt_le, Int32.lt_iff_toInt_lt, ← Int32.toInt_inj] at *); first | omega | (simp at *; done) | (simp at *; omega))))
    · have c204 := gB_o c204
      refine G_iload_n (pc := 16) rfl dX12_gate_16 ?_
      refine G_callS (pc := 17) (mc1 := 0) (ms1 := 0) (mj := mX12_isDigit) (vs := [_]) dX12_gate_17 cm_X12_isDigit wh_4 wh_6 rfl (Nat.le_of_ble_eq_true rfl) (Nat.le_of_ble_eq_true rfl) (Nat.le_of_ble_eq_true rfl) (Nat.le_of_ble_eq_true rfl) (s10074_X12_isDigit J d  _) ?_
      rintro _ _ ⟨rfl, rfl⟩
      dsimp only [Option.toList, List.cons_append, List.nil_append]
      refine G_if_eq (pc := 20) (tgt := 44) (by decide) dX12_gate_20 (fun c205 => ?_) (fun c205 => ?_)
      · have c205 := gB_z c205
        refine G_iconst (pc := 44) (v := (-1)) (by decide) dX12_gate_44 ?_
        exact G_iret (pc := 45) (Nat.le_of_ble_eq_true rfl) (Nat.le_of_ble_eq_true rfl) rfl dX12_gate_45 (by first | rfl | (simp [F_gate, *]; done) | (have : 0 ≤ (f).toInt := Int32.le_iff_toInt_le.mp (c203.1); have : (f).toInt ≤ 5 := Int32.le_iff_toInt_le.mp (c203.2); have : 0 ≤ (what).toInt := Int32.le_iff_toInt_le.mp (c204.1); have : (what).toInt ≤ 1 := Int32.le_iff_toInt_le.mp (c204.2); have : ¬ (0 ≤ (v).toInt ∧ (v).toInt ≤ 9) := fun z => c205 ⟨Int32.le_iff_toInt_le.mpr z.1, Int32.le_iff_toInt_le.mpr z.2⟩; simp only [F_gate, Int32.le_iff_toInt_le, Int32.lt_iff_toInt_lt, ← Int32.toInt_inj]; simp; omega) | (have : 0 ≤ (f).toInt := Int32.le_iff_toInt_le.mp (c203.1); have : (f).toInt ≤ 5 := Int32.le_iff_toInt_le.mp (c203.2); have : 0 ≤ (what).toInt := Int32.le_iff_toInt_le.mp (c204.1); have : (what).toInt ≤ 1 := Int32.le_iff_toInt_le.mp (c204.2); have : ¬ (0 ≤ (v).toInt ∧ (v).toInt ≤ 9) := fun z => c205 ⟨Int32.le_iff_toInt_le.mpr z.1, Int32.le_iff_toInt_le.mpr z.2⟩; simp only [F_gate, Int32.le_iff_toInt_le, Int32.lt_iff_toInt_lt, ← Int32.toInt_inj]; split <;> first | rfl | (exfalso; simp at *; omega)) | (have : 0 ≤ (f).toInt := Int32.le_iff_toInt_le.mp (c203.1); have : (f).toInt ≤ 5 := Int32.le_iff_toInt_le.mp (c203.2); have : 0 ≤ (what).toInt := Int32.le_iff_toInt_le.mp (c204.1); have : (what).toInt ≤ 1 := Int32.le_iff_toInt_le.mp (c204.2); have : ¬ (0 ≤ (v).toInt ∧ (v).toInt ≤ 9) := fun z => c205 ⟨Int32.le_iff_toInt_le.mpr z.1, Int32.le_iff_toInt_le.mpr z.2⟩; unfold F_gate; (repeat' split) <;> first | rfl | (exfalso; (try simp only [Int32.le_iff_toInt_le, Int32.lt_iff_toInt_lt, ← Int32.toInt_inj] at *); first | omega | (simp at *; done) | (simp at *; omega))))
      · have c205 := gB_o c205
        refine G_aload_n (pc := 23) rfl dX12_gate_23 ?_
        refine G_iload_n (pc := 24) rfl dX12_gate_24 ?_
        refine G_if_ne (pc := 25) (tgt := 33) (by decide) dX12_gate_25 (fun c206 => ?_) (fun c206 => ?_)
        · refine G_bipush (pc := 33) (v := 29) (by decide) dX12_gate_33 ?_
          refine G_iload_n (pc := 35) rfl dX12_gate_35 ?_
          by_cases c207 : f = 0
          · subst c207
            refine G_iadd (pc := 36) (z := 29) (by decide) dX12_gate_36 ?_
            refine G_iload_n (pc := 37) rfl dX12_gate_37 ?_
            refine G_callV (pc := 38) (mc1 := 0) (ms1 := 0) (ci := 12) (mj := mX12_becomes) (vs := [_, _]) dX12_gate_38 rfl rfl cm_X12_becomes wh_18 wh_20 wh_21 rfl (Nat.le_of_ble_eq_true rfl) (Nat.le_of_ble_eq_true rfl) (Nat.le_of_ble_eq_true rfl) (Nat.le_of_ble_eq_true rfl) (s10075_X12_becomes J (d + 1)  _) ?_
            rintro _ _ ⟨rfl, rfl⟩
            dsimp only [Option.toList, List.cons_append, List.nil_append]
            refine G_goto (pc := 41) (tgt := 45) (by decide) dX12_gate_41 ?_
            exact G_iret (pc := 45) (Nat.le_of_ble_eq_true rfl) (Nat.le_of_ble_eq_true rfl) rfl dX12_gate_45 (by first | rfl | (simp [F_gate, *]; done) | (have : 0 ≤ (what).toInt := Int32.le_iff_toInt_le.mp (c204.1); have : (what).toInt ≤ 1 := Int32.le_iff_toInt_le.mp (c204.2); have : (what).toInt ≠ 0 := g_ne (c206); have : 0 ≤ (v).toInt := Int32.le_iff_toInt_le.mp (c205.1); have : (v).toInt ≤ 9 := Int32.le_iff_toInt_le.mp (c205.2); simp only [F_gate, Int32.le_iff_toInt_le, Int32.lt_iff_toInt_lt, ← Int32.toInt_inj]; simp; omega) | (have : 0 ≤ (what).toInt := Int32.le_iff_toInt_le.mp (c204.1); have : (what).toInt ≤ 1 := Int32.le_iff_toInt_le.mp (c204.2); have : (what).toInt ≠ 0 := g_ne (c206); have : 0 ≤ (v).toInt := Int32.le_iff_toInt_le.mp (c205.1); have : (v).toInt ≤ 9 := Int32.le_iff_toInt_le.mp (c205.2); simp only [F_gate, Int32.le_iff_toInt_le, Int32.lt_iff_toInt_lt, ← Int32.toInt_inj]; split <;> first | rfl | (exfalso; simp at *; omega)) | (have : 0 ≤ (what).toInt := Int32.le_iff_toInt_le.mp (c204.1); have : (what).toInt ≤ 1 := Int32.le_iff_toInt_le.mp (c204.2); have : (what).toInt ≠ 0 := g_ne (c206); have : 0 ≤ (v).toInt := Int32.le_iff_toInt_le.mp (c205.1); have : (v).toInt ≤ 9 := Int32.le_iff_toInt_le.mp (c205.2); unfold F_gate; (repeat' split) <;> first | rfl | (exfalso; (try simp only [Int32.le_iff_toInt_le, Int32.lt_iff_toInt_lt, ← Int32.toInt_inj] at *); first | omega | (simp at *; done) | (simp at *; omega))))
          by_cases c208 : f = 1
          · subst c208
            refine G_iadd (pc := 36) (z := 30) (by decide) dX12_gate_36 ?_
            refine G_iload_n (pc := 37) rfl dX12_gate_37 ?_
            refine G_callV (pc := 38) (mc1 := 0) (ms1 := 0) (ci := 12) (mj := mX12_becomes) (vs := [_, _]) dX12_gate_38 rfl rfl cm_X12_becomes wh_18 wh_20 wh_21 rfl (Nat.le_of_ble_eq_true rfl) (Nat.le_of_ble_eq_true rfl) (Nat.le_of_ble_eq_true rfl) (Nat.le_of_ble_eq_true rfl) (s10076_X12_becomes J (d + 1)  _) ?_
            rintro _ _ ⟨rfl, rfl⟩
            dsimp only [Option.toList, List.cons_append, List.nil_append]
            refine G_goto (pc := 41) (tgt := 45) (by decide) dX12_gate_41 ?_
            exact G_iret (pc := 45) (Nat.le_of_ble_eq_true rfl) (Nat.le_of_ble_eq_true rfl) rfl dX12_gate_45 (by first | rfl | (simp [F_gate, *]; done) | (have : 0 ≤ (what).toInt := Int32.le_iff_toInt_le.mp (c204.1); have : (what).toInt ≤ 1 := Int32.le_iff_toInt_le.mp (c204.2); have : (what).toInt ≠ 0 := g_ne (c206); have : 0 ≤ (v).toInt := Int32.le_iff_toInt_le.mp (c205.1); have : (v).toInt ≤ 9 := Int32.le_iff_toInt_le.mp (c205.2); simp only [F_gate, Int32.le_iff_toInt_le, Int32.lt_iff_toInt_lt, ← Int32.toInt_inj]; simp; omega) | (have : 0 ≤ (what).toInt := Int32.le_iff_toInt_le.mp (c204.1); have : (what).toInt ≤ 1 := Int32.le_iff_toInt_le.mp (c204.2); have : (what).toInt ≠ 0 := g_ne (c206); have : 0 ≤ (v).toInt := Int32.le_iff_toInt_le.mp (c205.1); have : (v).toInt ≤ 9 := Int32.le_iff_toInt_le.mp (c205.2); simp only [F_gate, Int32.le_iff_toInt_le, Int32.lt_iff_toInt_lt, ← Int32.toInt_inj]; split <;> first | rfl | (exfalso; simp at *; omega)) | (have : 0 ≤ (what).toInt := Int32.le_iff_toInt_le.mp (c204.1); have : (what).toInt ≤ 1 := Int32.le_iff_toInt_le.mp (c204.2); have : (what).toInt ≠ 0 := g_ne (c206); have : 0 ≤ (v).toInt := Int32.le_iff_toInt_le.mp (c205.1); have : (v).toInt ≤ 9 := Int32.le_iff_toInt_le.mp (c205.2); unfold F_gate; (repeat' split) <;> first | rfl | (exfalso; (try simp only [Int32.le_iff_toInt_le, Int32.lt_iff_toInt_lt, ← Int32.toInt_inj] at *); first | omega | (simp at *; done) | (simp at *; omega))))
          by_cases c209 : f = 2
          · subst c209
            refine G_iadd (pc := 36) (z := 31) (by decide) dX12_gate_36 ?_
            refine G_iload_n (pc := 37) rfl dX12_gate_37 ?_
            refine G_callV (pc := 38) (mc1 := 0) (ms1 := 0) (ci := 12) (mj := mX12_becomes) (vs := [_, _]) dX12_gate_38 rfl rfl cm_X12_becomes wh_18 wh_20 wh_21 rfl (Nat.le_of_ble_eq_true rfl) (Nat.le_of_ble_eq_true rfl) (Nat.le_of_ble_eq_true rfl) (Nat.le_of_ble_eq_true rfl) (s10077_X12_becomes J (d + 1)  _) ?_
            rintro _ _ ⟨rfl, rfl⟩
            dsimp only [Option.toList, List.cons_append, List.nil_append]
            refine G_goto (pc := 41) (tgt := 45) (by decide) dX12_gate_41 ?_
            exact G_iret (pc := 45) (Nat.le_of_ble_eq_true rfl) (Nat.le_of_ble_eq_true rfl) rfl dX12_gate_45 (by first | rfl | (simp [F_gate, *]; done) | (have : 0 ≤ (what).toInt := Int32.le_iff_toInt_le.mp (c204.1); have : (what).toInt ≤ 1 := Int32.le_iff_toInt_le.mp (c204.2); have : (what).toInt ≠ 0 := g_ne (c206); have : 0 ≤ (v).toInt := Int32.le_iff_toInt_le.mp (c205.1); have : (v).toInt ≤ 9 := Int32.le_iff_toInt_le.mp (c205.2); simp only [F_gate, Int32.le_iff_toInt_le, Int32.lt_iff_toInt_lt, ← Int32.toInt_inj]; simp; omega) | (have : 0 ≤ (what).toInt := Int32.le_iff_toInt_le.mp (c204.1); have : (what).toInt ≤ 1 := Int32.le_iff_toInt_le.mp (c204.2); have : (what).toInt ≠ 0 := g_ne (c206); have : 0 ≤ (v).toInt := Int32.le_iff_toInt_le.mp (c205.1); have : (v).toInt ≤ 9 := Int32.le_iff_toInt_le.mp (c205.2); simp only [F_gate, Int32.le_iff_toInt_le, Int32.lt_iff_toInt_lt, ← Int32.toInt_inj]; split <;> first | rfl | (exfalso; simp at *; omega)) | (have : 0 ≤ (what).toInt := Int32.le_iff_toInt_le.mp (c204.1); have : (what).toInt ≤ 1 := Int32.le_iff_toInt_le.mp (c204.2); have : (what).toInt ≠ 0 := g_ne (c206); have : 0 ≤ (v).toInt := Int32.le_iff_toInt_le.mp (c205.1); have : (v).toInt ≤ 9 := Int32.le_iff_toInt_le.mp (c205.2); unfold F_gate; (repeat' split) <;> first | rfl | (exfalso; (try simp only [Int32.le_iff_toInt_le, Int32.lt_iff_toInt_lt, ← Int32.toInt_inj] at *); first | omega | (simp at *; done) | (simp at *; omega))))
          by_cases c210 : f = 3
          · subst c210
            refine G_iadd (pc := 36) (z := 32) (by decide) dX12_gate_36 ?_
            refine G_iload_n (pc := 37) rfl dX12_gate_37 ?_
            refine G_callV (pc := 38) (mc1 := 0) (ms1 := 0) (ci := 12) (mj := mX12_becomes) (vs := [_, _]) dX12_gate_38 rfl rfl cm_X12_becomes wh_18 wh_20 wh_21 rfl (Nat.le_of_ble_eq_true rfl) (Nat.le_of_ble_eq_true rfl) (Nat.le_of_ble_eq_true rfl) (Nat.le_of_ble_eq_true rfl) (s10078_X12_becomes J (d + 1)  _) ?_
            rintro _ _ ⟨rfl, rfl⟩
            dsimp only [Option.toList, List.cons_append, List.nil_append]
            refine G_goto (pc := 41) (tgt := 45) (by decide) dX12_gate_41 ?_
            exact G_iret (pc := 45) (Nat.le_of_ble_eq_true rfl) (Nat.le_of_ble_eq_true rfl) rfl dX12_gate_45 (by first | rfl | (simp [F_gate, *]; done) | (have : 0 ≤ (what).toInt := Int32.le_iff_toInt_le.mp (c204.1); have : (what).toInt ≤ 1 := Int32.le_iff_toInt_le.mp (c204.2); have : (what).toInt ≠ 0 := g_ne (c206); have : 0 ≤ (v).toInt := Int32.le_iff_toInt_le.mp (c205.1); have : (v).toInt ≤ 9 := Int32.le_iff_toInt_le.mp (c205.2); simp only [F_gate, Int32.le_iff_toInt_le, Int32.lt_iff_toInt_lt, ← Int32.toInt_inj]; simp; omega) | (have : 0 ≤ (what).toInt := Int32.le_iff_toInt_le.mp (c204.1); have : (what).toInt ≤ 1 := Int32.le_iff_toInt_le.mp (c204.2); have : (what).toInt ≠ 0 := g_ne (c206); have : 0 ≤ (v).toInt := Int32.le_iff_toInt_le.mp (c205.1); have : (v).toInt ≤ 9 := Int32.le_iff_toInt_le.mp (c205.2); simp only [F_gate, Int32.le_iff_toInt_le, Int32.lt_iff_toInt_lt, ← Int32.toInt_inj]; split <;> first | rfl | (exfalso; simp at *; omega)) | (have : 0 ≤ (what).toInt := Int32.le_iff_toInt_le.mp (c204.1); have : (what).toInt ≤ 1 := Int32.le_iff_toInt_le.mp (c204.2); have : (what).toInt ≠ 0 := g_ne (c206); have : 0 ≤ (v).toInt := Int32.le_iff_toInt_le.mp (c205.1); have : (v).toInt ≤ 9 := Int32.le_iff_toInt_le.mp (c205.2); unfold F_gate; (repeat' split) <;> first | rfl | (exfalso; (try simp only [Int32.le_iff_toInt_le, Int32.lt_iff_toInt_lt, ← Int32.toInt_inj] at *); first | omega | (simp at *; done) | (simp at *; omega))))
          by_cases c211 : f = 4
          · subst c211
            refine G_iadd (pc := 36) (z := 33) (by decide) dX12_gate_36 ?_
            refine G_iload_n (pc := 37) rfl dX12_gate_37 ?_
            refine G_callV (pc := 38) (mc1 := 0) (ms1 := 0) (ci := 12) (mj := mX12_becomes) (vs := [_, _]) dX12_gate_38 rfl rfl cm_X12_becomes wh_18 wh_20 wh_21 rfl (Nat.le_of_ble_eq_true rfl) (Nat.le_of_ble_eq_true rfl) (Nat.le_of_ble_eq_true rfl) (Nat.le_of_ble_eq_true rfl) (s10079_X12_becomes J (d + 1)  _) ?_
            rintro _ _ ⟨rfl, rfl⟩
            dsimp only [Option.toList, List.cons_append, List.nil_append]
            refine G_goto (pc := 41) (tgt := 45) (by decide) dX12_gate_41 ?_
            exact G_iret (pc := 45) (Nat.le_of_ble_eq_true rfl) (Nat.le_of_ble_eq_true rfl) rfl dX12_gate_45 (by first | rfl | (simp [F_gate, *]; done) | (have : 0 ≤ (what).toInt := Int32.le_iff_toInt_le.mp (c204.1); have : (what).toInt ≤ 1 := Int32.le_iff_toInt_le.mp (c204.2); have : (what).toInt ≠ 0 := g_ne (c206); have : 0 ≤ (v).toInt := Int32.le_iff_toInt_le.mp (c205.1); have : (v).toInt ≤ 9 := Int32.le_iff_toInt_le.mp (c205.2); simp only [F_gate, Int32.le_iff_toInt_le, Int32.lt_iff_toInt_lt, ← Int32.toInt_inj]; simp; omega) | (have : 0 ≤ (what).toInt := Int32.le_iff_toInt_le.mp (c204.1); have : (what).toInt ≤ 1 := Int32.le_iff_toInt_le.mp (c204.2); have : (what).toInt ≠ 0 := g_ne (c206); have : 0 ≤ (v).toInt := Int32.le_iff_toInt_le.mp (c205.1); have : (v).toInt ≤ 9 := Int32.le_iff_toInt_le.mp (c205.2); simp only [F_gate, Int32.le_iff_toInt_le, Int32.lt_iff_toInt_lt, ← Int32.toInt_inj]; split <;> first | rfl | (exfalso; simp at *; omega)) | (have : 0 ≤ (what).toInt := Int32.le_iff_toInt_le.mp (c204.1); have : (what).toInt ≤ 1 := Int32.le_iff_toInt_le.mp (c204.2); have : (what).toInt ≠ 0 := g_ne (c206); have : 0 ≤ (v).toInt := Int32.le_iff_toInt_le.mp (c205.1); have : (v).toInt ≤ 9 := Int32.le_iff_toInt_le.mp (c205.2); unfold F_gate; (repeat' split) <;> first | rfl | (exfalso; (try simp only [Int32.le_iff_toInt_le, Int32.lt_iff_toInt_lt, ← Int32.toInt_inj] at *); first | omega | (simp at *; done) | (simp at *; omega))))
          by_cases c212 : f = 5
          · subst c212
            refine G_iadd (pc := 36) (z := 34) (by decide) dX12_gate_36 ?_
            refine G_iload_n (pc := 37) rfl dX12_gate_37 ?_
            refine G_callV (pc := 38) (mc1 := 0) (ms1 := 0) (ci := 12) (mj := mX12_becomes) (vs := [_, _]) dX12_gate_38 rfl rfl cm_X12_becomes wh_18 wh_20 wh_21 rfl (Nat.le_of_ble_eq_true rfl) (Nat.le_of_ble_eq_true rfl) (Nat.le_of_ble_eq_true rfl) (Nat.le_of_ble_eq_true rfl) (s10080_X12_becomes J (d + 1)  _) ?_
            rintro _ _ ⟨rfl, rfl⟩
            dsimp only [Option.toList, List.cons_append, List.nil_append]
            refine G_goto (pc := 41) (tgt := 45) (by decide) dX12_gate_41 ?_
            exact G_iret (pc := 45) (Nat.le_of_ble_eq_true rfl) (Nat.le_of_ble_eq_true rfl) rfl dX12_gate_45 (by first | rfl | (simp [F_gate, *]; done) | (have : 0 ≤ (what).toInt := Int32.le_iff_toInt_le.mp (c204.1); have : (what).toInt ≤ 1 := Int32.le_iff_toInt_le.mp (c204.2); have : (what).toInt ≠ 0 := g_ne (c206); have : 0 ≤ (v).toInt := Int32.le_iff_toInt_le.mp (c205.1); have : (v).toInt ≤ 9 := Int32.le_iff_toInt_le.mp (c205.2); simp only [F_gate, Int32.le_iff_toInt_le, Int32.lt_iff_toInt_lt, ← Int32.toInt_inj]; simp; omega) | (have : 0 ≤ (what).toInt := Int32.le_iff_toInt_le.mp (c204.1); have : (what).toInt ≤ 1 := Int32.le_iff_toInt_le.mp (c204.2); have : (what).toInt ≠ 0 := g_ne (c206); have : 0 ≤ (v).toInt := Int32.le_iff_toInt_le.mp (c205.1); have : (v).toInt ≤ 9 := Int32.le_iff_toInt_le.mp (c205.2); simp only [F_gate, Int32.le_iff_toInt_le, Int32.lt_iff_toInt_lt, ← Int32.toInt_inj]; split <;> first | rfl | (exfalso; simp at *; omega)) | (have : 0 ≤ (what).toInt := Int32.le_iff_toInt_le.mp (c204.1); have : (what).toInt ≤ 1 := Int32.le_iff_toInt_le.mp (c204.2); have : (what).toInt ≠ 0 := g_ne (c206); have : 0 ≤ (v).toInt := Int32.le_iff_toInt_le.mp (c205.1); have : (v).toInt ≤ 9 := Int32.le_iff_toInt_le.mp (c205.2); unfold F_gate; (repeat' split) <;> first | rfl | (exfalso; (try simp only [Int32.le_iff_toInt_le, Int32.lt_iff_toInt_lt, ← Int32.toInt_inj] at *); first | omega | (simp at *; done) | (simp at *; omega))))
          exfalso
          have : 0 ≤ (f).toInt := Int32.le_iff_toInt_le.mp (c203.1)
          have : (f).toInt ≤ 5 := Int32.le_iff_toInt_le.mp (c203.2)
          have : (f).toInt ≠ 0 := g_ne (c207)
          have : (f).toInt ≠ 1 := g_ne (c208)
          have : (f).toInt ≠ 2 := g_ne (c209)
          have : (f).toInt ≠ 3 := g_ne (c210)
          have : (f).toInt ≠ 4 := g_ne (c211)
          have : (f).toInt ≠ 5 := g_ne (c212)
          omega
        · refine G_bipush (pc := 28) (v := 23) (by decide) dX12_gate_28 ?_
          refine G_goto (pc := 30) (tgt := 35) (by decide) dX12_gate_30 ?_
          refine G_iload_n (pc := 35) rfl dX12_gate_35 ?_
          by_cases c213 : f = 0
          · subst c213
            refine G_iadd (pc := 36) (z := 23) (by decide) dX12_gate_36 ?_
            refine G_iload_n (pc := 37) rfl dX12_gate_37 ?_
            refine G_callV (pc := 38) (mc1 := 0) (ms1 := 0) (ci := 12) (mj := mX12_becomes) (vs := [_, _]) dX12_gate_38 rfl rfl cm_X12_becomes wh_18 wh_20 wh_21 rfl (Nat.le_of_ble_eq_true rfl) (Nat.le_of_ble_eq_true rfl) (Nat.le_of_ble_eq_true rfl) (Nat.le_of_ble_eq_true rfl) (s10081_X12_becomes J (d + 1)  _) ?_
            rintro _ _ ⟨rfl, rfl⟩
            dsimp only [Option.toList, List.cons_append, List.nil_append]
            refine G_goto (pc := 41) (tgt := 45) (by decide) dX12_gate_41 ?_
            exact G_iret (pc := 45) (Nat.le_of_ble_eq_true rfl) (Nat.le_of_ble_eq_true rfl) rfl dX12_gate_45 (by first | rfl | (simp [F_gate, *]; done) | (have : 0 ≤ (what).toInt := Int32.le_iff_toInt_le.mp (c204.1); have : (what).toInt ≤ 1 := Int32.le_iff_toInt_le.mp (c204.2); have : (what).toInt = 0 := congrArg Int32.toInt (c206); have : 0 ≤ (v).toInt := Int32.le_iff_toInt_le.mp (c205.1); have : (v).toInt ≤ 9 := Int32.le_iff_toInt_le.mp (c205.2); simp only [F_gate, Int32.le_iff_toInt_le, Int32.lt_iff_toInt_lt, ← Int32.toInt_inj]; simp; omega) | (have : 0 ≤ (what).toInt := Int32.le_iff_toInt_le.mp (c204.1); have : (what).toInt ≤ 1 := Int32.le_iff_toInt_le.mp (c204.2); have : (what).toInt = 0 := congrArg Int32.toInt (c206); have : 0 ≤ (v).toInt := Int32.le_iff_toInt_le.mp (c205.1); have : (v).toInt ≤ 9 := Int32.le_iff_toInt_le.mp (c205.2); simp only [F_gate, Int32.le_iff_toInt_le, Int32.lt_iff_toInt_lt, ← Int32.toInt_inj]; split <;> first | rfl | (exfalso; simp at *; omega)) | (have : 0 ≤ (what).toInt := Int32.le_iff_toInt_le.mp (c204.1); have : (what).toInt ≤ 1 := Int32.le_iff_toInt_le.mp (c204.2); have : (what).toInt = 0 := congrArg Int32.toInt (c206); have : 0 ≤ (v).toInt := Int32.le_iff_toInt_le.mp (c205.1); have : (v).toInt ≤ 9 := Int32.le_iff_toInt_le.mp (c205.2); unfold F_gate; (repeat' split) <;> first | rfl | (exfalso; (try simp only [Int32.le_iff_toInt_le, Int32.lt_iff_toInt_lt, ← Int32.toInt_inj] at *); first | omega | (simp at *; done) | (simp at *; omega))))
          by_cases c214 : f = 1
          · subst c214
            refine G_iadd (pc := 36) (z := 24) (by decide) dX12_gate_36 ?_
            refine G_iload_n (pc := 37) rfl dX12_gate_37 ?_
            refine G_callV (pc := 38) (mc1 := 0) (ms1 := 0) (ci := 12) (mj := mX12_becomes) (vs := [_, _]) dX12_gate_38 rfl rfl cm_X12_becomes wh_18 wh_20 wh_21 rfl (Nat.le_of_ble_eq_true rfl) (Nat.le_of_ble_eq_true rfl) (Nat.le_of_ble_eq_true rfl) (Nat.le_of_ble_eq_true rfl) (s10082_X12_becomes J (d + 1)  _) ?_
            rintro _ _ ⟨rfl, rfl⟩
            dsimp only [Option.toList, List.cons_append, List.nil_append]
            refine G_goto (pc := 41) (tgt := 45) (by decide) dX12_gate_41 ?_
            exact G_iret (pc := 45) (Nat.le_of_ble_eq_true rfl) (Nat.le_of_ble_eq_true rfl) rfl dX12_gate_45 (by first | rfl | (simp [F_gate, *]; done) | (have : 0 ≤ (what).toInt := Int32.le_iff_toInt_le.mp (c204.1); have : (what).toInt ≤ 1 := Int32.le_iff_toInt_le.mp (c204.2); have : (what).toInt = 0 := congrArg Int32.toInt (c206); have : 0 ≤ (v).toInt := Int32.le_iff_toInt_le.mp (c205.1); have : (v).toInt ≤ 9 := Int32.le_iff_toInt_le.mp (c205.2); simp only [F_gate, Int32.le_iff_toInt_le, Int32.lt_iff_toInt_lt, ← Int32.toInt_inj]; simp; omega) | (have : 0 ≤ (what).toInt := Int32.le_iff_toInt_le.mp (c204.1); have : (what).toInt ≤ 1 := Int32.le_iff_toInt_le.mp (c204.2); have : (what).toInt = 0 := congrArg Int32.toInt (c206); have : 0 ≤ (v).toInt := Int32.le_iff_toInt_le.mp (c205.1); have : (v).toInt ≤ 9 := Int32.le_iff_toInt_le.mp (c205.2); simp only [F_gate, Int32.le_iff_toInt_le, Int32.lt_iff_toInt_lt, ← Int32.toInt_inj]; split <;> first | rfl | (exfalso; simp at *; omega)) | (have : 0 ≤ (what).toInt := Int32.le_iff_toInt_le.mp (c204.1); have : (what).toInt ≤ 1 := Int32.le_iff_toInt_le.mp (c204.2); have : (what).toInt = 0 := congrArg Int32.toInt (c206); have : 0 ≤ (v).toInt := Int32.le_iff_toInt_le.mp (c205.1); have : (v).toInt ≤ 9 := Int32.le_iff_toInt_le.mp (c205.2); unfold F_gate; (repeat' split) <;> first | rfl | (exfalso; (try simp only [Int32.le_iff_toInt_le, Int32.lt_iff_toInt_lt, ← Int32.toInt_inj] at *); first | omega | (simp at *; done) | (simp at *; omega))))
          by_cases c215 : f = 2
          · subst c215
            refine G_iadd (pc := 36) (z := 25) (by decide) dX12_gate_36 ?_
            refine G_iload_n (pc := 37) rfl dX12_gate_37 ?_
            refine G_callV (pc := 38) (mc1 := 0) (ms1 := 0) (ci := 12) (mj := mX12_becomes) (vs := [_, _]) dX12_gate_38 rfl rfl cm_X12_becomes wh_18 wh_20 wh_21 rfl (Nat.le_of_ble_eq_true rfl) (Nat.le_of_ble_eq_true rfl) (Nat.le_of_ble_eq_true rfl) (Nat.le_of_ble_eq_true rfl) (s10083_X12_becomes J (d + 1)  _) ?_
            rintro _ _ ⟨rfl, rfl⟩
            dsimp only [Option.toList, List.cons_append, List.nil_append]
            refine G_goto (pc := 41) (tgt := 45) (by decide) dX12_gate_41 ?_
            exact G_iret (pc := 45) (Nat.le_of_ble_eq_true rfl) (Nat.le_of_ble_eq_true rfl) rfl dX12_gate_45 (by first | rfl | (simp [F_gate, *]; done) | (have : 0 ≤ (what).toInt := Int32.le_iff_toInt_le.mp (c204.1); have : (what).toInt ≤ 1 := Int32.le_iff_toInt_le.mp (c204.2); have : (what).toInt = 0 := congrArg Int32.toInt (c206); have : 0 ≤ (v).toInt := Int32.le_iff_toInt_le.mp (c205.1); have : (v).toInt ≤ 9 := Int32.le_iff_toInt_le.mp (c205.2); simp only [F_gate, Int32.le_iff_toInt_le, Int32.lt_iff_toInt_lt, ← Int32.toInt_inj]; simp; omega) | (have : 0 ≤ (what).toInt := Int32.le_iff_toInt_le.mp (c204.1); have : (what).toInt ≤ 1 := Int32.le_iff_toInt_le.mp (c204.2); have : (what).toInt = 0 := congrArg Int32.toInt (c206); have : 0 ≤ (v).toInt := Int32.le_iff_toInt_le.mp (c205.1); have : (v).toInt ≤ 9 := Int32.le_iff_toInt_le.mp (c205.2); simp only [F_gate, Int32.le_iff_toInt_le, Int32.lt_iff_toInt_lt, ← Int32.toInt_inj]; split <;> first | rfl | (exfalso; simp at *; omega)) | (have : 0 ≤ (what).toInt := Int32.le_iff_toInt_le.mp (c204.1); have : (what).toInt ≤ 1 := Int32.le_iff_toInt_le.mp (c204.2); have : (what).toInt = 0 := congrArg Int32.toInt (c206); have : 0 ≤ (v).toInt := Int32.le_iff_toInt_le.mp (c205.1); have : (v).toInt ≤ 9 := Int32.le_iff_toInt_le.mp (c205.2); unfold F_gate; (repeat' split) <;> first | rfl | (exfalso; (try simp only [Int32.le_iff_toInt_le, Int32.lt_iff_toInt_lt, ← Int32.toInt_inj] at *); first | omega | (simp at *; done) | (simp at *; omega))))
          by_cases c216 : f = 3
          · subst c216
            refine G_iadd (pc := 36) (z := 26) (by decide) dX12_gate_36 ?_
            refine G_iload_n (pc := 37) rfl dX12_gate_37 ?_
            refine G_callV (pc := 38) (mc1 := 0) (ms1 := 0) (ci := 12) (mj := mX12_becomes) (vs := [_, _]) dX12_gate_38 rfl rfl cm_X12_becomes wh_18 wh_20 wh_21 rfl (Nat.le_of_ble_eq_true rfl) (Nat.le_of_ble_eq_true rfl) (Nat.le_of_ble_eq_true rfl) (Nat.le_of_ble_eq_true rfl) (s10084_X12_becomes J (d + 1)  _) ?_
            rintro _ _ ⟨rfl, rfl⟩
            dsimp only [Option.toList, List.cons_append, List.nil_append]
            refine G_goto (pc := 41) (tgt := 45) (by decide) dX12_gate_41 ?_
            exact G_iret (pc := 45) (Nat.le_of_ble_eq_true rfl) (Nat.le_of_ble_eq_true rfl) rfl dX12_gate_45 (by first | rfl | (simp [F_gate, *]; done) | (have : 0 ≤ (what).toInt := Int32.le_iff_toInt_le.mp (c204.1); have : (what).toInt ≤ 1 := Int32.le_iff_toInt_le.mp (c204.2); have : (what).toInt = 0 := congrArg Int32.toInt (c206); have : 0 ≤ (v).toInt := Int32.le_iff_toInt_le.mp (c205.1); have : (v).toInt ≤ 9 := Int32.le_iff_toInt_le.mp (c205.2); simp only [F_gate, Int32.le_iff_toInt_le, Int32.lt_iff_toInt_lt, ← Int32.toInt_inj]; simp; omega) | (have : 0 ≤ (what).toInt := Int32.le_iff_toInt_le.mp (c204.1); have : (what).toInt ≤ 1 := Int32.le_iff_toInt_le.mp (c204.2); have : (what).toInt = 0 := congrArg Int32.toInt (c206); have : 0 ≤ (v).toInt := Int32.le_iff_toInt_le.mp (c205.1); have : (v).toInt ≤ 9 := Int32.le_iff_toInt_le.mp (c205.2); simp only [F_gate, Int32.le_iff_toInt_le, Int32.lt_iff_toInt_lt, ← Int32.toInt_inj]; split <;> first | rfl | (exfalso; simp at *; omega)) | (have : 0 ≤ (what).toInt := Int32.le_iff_toInt_le.mp (c204.1); have : (what).toInt ≤ 1 := Int32.le_iff_toInt_le.mp (c204.2); have : (what).toInt = 0 := congrArg Int32.toInt (c206); have : 0 ≤ (v).toInt := Int32.le_iff_toInt_le.mp (c205.1); have : (v).toInt ≤ 9 := Int32.le_iff_toInt_le.mp (c205.2); unfold F_gate; (repeat' split) <;> first | rfl | (exfalso; (try simp only [Int32.le_iff_toInt_le, Int32.lt_iff_toInt_lt, ← Int32.toInt_inj] at *); first | omega | (simp at *; done) | (simp at *; omega))))
          by_cases c217 : f = 4
          · subst c217
            refine G_iadd (pc := 36) (z := 27) (by decide) dX12_gate_36 ?_
            refine G_iload_n (pc := 37) rfl dX12_gate_37 ?_
            refine G_callV (pc := 38) (mc1 := 0) (ms1 := 0) (ci := 12) (mj := mX12_becomes) (vs := [_, _]) dX12_gate_38 rfl rfl cm_X12_becomes wh_18 wh_20 wh_21 rfl (Nat.le_of_ble_eq_true rfl) (Nat.le_of_ble_eq_true rfl) (Nat.le_of_ble_eq_true rfl) (Nat.le_of_ble_eq_true rfl) (s10085_X12_becomes J (d + 1)  _) ?_
            rintro _ _ ⟨rfl, rfl⟩
            dsimp only [Option.toList, List.cons_append, List.nil_append]
            refine G_goto (pc := 41) (tgt := 45) (by decide) dX12_gate_41 ?_
            exact G_iret (pc := 45) (Nat.le_of_ble_eq_true rfl) (Nat.le_of_ble_eq_true rfl) rfl dX12_gate_45 (by first | rfl | (simp [F_gate, *]; done) | (have : 0 ≤ (what).toInt := Int32.le_iff_toInt_le.mp (c204.1); have : (what).toInt ≤ 1 := Int32.le_iff_toInt_le.mp (c204.2); have : (what).toInt = 0 := congrArg Int32.toInt (c206); have : 0 ≤ (v).toInt := Int32.le_iff_toInt_le.mp (c205.1); have : (v).toInt ≤ 9 := Int32.le_iff_toInt_le.mp (c205.2); simp only [F_gate, Int32.le_iff_toInt_le, Int32.lt_iff_toInt_lt, ← Int32.toInt_inj]; simp; omega) | (have : 0 ≤ (what).toInt := Int32.le_iff_toInt_le.mp (c204.1); have : (what).toInt ≤ 1 := Int32.le_iff_toInt_le.mp (c204.2); have : (what).toInt = 0 := congrArg Int32.toInt (c206); have : 0 ≤ (v).toInt := Int32.le_iff_toInt_le.mp (c205.1); have : (v).toInt ≤ 9 := Int32.le_iff_toInt_le.mp (c205.2); simp only [F_gate, Int32.le_iff_toInt_le, Int32.lt_iff_toInt_lt, ← Int32.toInt_inj]; split <;> first | rfl | (exfalso; simp at *; omega)) | (have : 0 ≤ (what).toInt := Int32.le_iff_toInt_le.mp (c204.1); have : (what).toInt ≤ 1 := Int32.le_iff_toInt_le.mp (c204.2); have : (what).toInt = 0 := congrArg Int32.toInt (c206); have : 0 ≤ (v).toInt := Int32.le_iff_toInt_le.mp (c205.1); have : (v).toInt ≤ 9 := Int32.le_iff_toInt_le.mp (c205.2); unfold F_gate; (repeat' split) <;> first | rfl | (exfalso; (try simp only [Int32.le_iff_toInt_le, Int32.lt_iff_toInt_lt, ← Int32.toInt_inj] at *); first | omega | (simp at *; done) | (simp at *; omega))))
          by_cases c218 : f = 5
          · subst c218
            refine G_iadd (pc := 36) (z := 28) (by decide) dX12_gate_36 ?_
            refine G_iload_n (pc := 37) rfl dX12_gate_37 ?_
            refine G_callV (pc := 38) (mc1 := 0) (ms1 := 0) (ci := 12) (mj := mX12_becomes) (vs := [_, _]) dX12_gate_38 rfl rfl cm_X12_becomes wh_18 wh_20 wh_21 rfl (Nat.le_of_ble_eq_true rfl) (Nat.le_of_ble_eq_true rfl) (Nat.le_of_ble_eq_true rfl) (Nat.le_of_ble_eq_true rfl) (s10086_X12_becomes J (d + 1)  _) ?_
            rintro _ _ ⟨rfl, rfl⟩
            dsimp only [Option.toList, List.cons_append, List.nil_append]
            refine G_goto (pc := 41) (tgt := 45) (by decide) dX12_gate_41 ?_
            exact G_iret (pc := 45) (Nat.le_of_ble_eq_true rfl) (Nat.le_of_ble_eq_true rfl) rfl dX12_gate_45 (by first | rfl | (simp [F_gate, *]; done) | (have : 0 ≤ (what).toInt := Int32.le_iff_toInt_le.mp (c204.1); have : (what).toInt ≤ 1 := Int32.le_iff_toInt_le.mp (c204.2); have : (what).toInt = 0 := congrArg Int32.toInt (c206); have : 0 ≤ (v).toInt := Int32.le_iff_toInt_le.mp (c205.1); have : (v).toInt ≤ 9 := Int32.le_iff_toInt_le.mp (c205.2); simp only [F_gate, Int32.le_iff_toInt_le, Int32.lt_iff_toInt_lt, ← Int32.toInt_inj]; simp; omega) | (have : 0 ≤ (what).toInt := Int32.le_iff_toInt_le.mp (c204.1); have : (what).toInt ≤ 1 := Int32.le_iff_toInt_le.mp (c204.2); have : (what).toInt = 0 := congrArg Int32.toInt (c206); have : 0 ≤ (v).toInt := Int32.le_iff_toInt_le.mp (c205.1); have : (v).toInt ≤ 9 := Int32.le_iff_toInt_le.mp (c205.2); simp only [F_gate, Int32.le_iff_toInt_le, Int32.lt_iff_toInt_lt, ← Int32.toInt_inj]; split <;> first | rfl | (exfalso; simp at *; omega)) | (have : 0 ≤ (what).toInt := Int32.le_iff_toInt_le.mp (c204.1); have : (what).toInt ≤ 1 := Int32.le_iff_toInt_le.mp (c204.2); have : (what).toInt = 0 := congrArg Int32.toInt (c206); have : 0 ≤ (v).toInt := Int32.le_iff_toInt_le.mp (c205.1); have : (v).toInt ≤ 9 := Int32.le_iff_toInt_le.mp (c205.2); unfold F_gate; (repeat' split) <;> first | rfl | (exfalso; (try simp only [Int32.le_iff_toInt_le, Int32.lt_iff_toInt_lt, ← Int32.toInt_inj] at *); first | omega | (simp at *; done) | (simp at *; omega))))
          exfalso
          have : 0 ≤ (f).toInt := Int32.le_iff_toInt_le.mp (c203.1)
          have : (f).toInt ≤ 5 := Int32.le_iff_toInt_le.mp (c203.2)
          have : (f).toInt ≠ 0 := g_ne (c213)
          have : (f).toInt ≠ 1 := g_ne (c214)
          have : (f).toInt ≠ 2 := g_ne (c215)
          have : (f).toInt ≠ 3 := g_ne (c216)
          have : (f).toInt ≠ 4 := g_ne (c217)
          have : (f).toInt ≠ 5 := g_ne (c218)
          omega
set_option maxRecDepth 100000 in
set_option maxHeartbeats 4000000 in
theorem z_feed (J : gI) (d : Nat) (eight : Int64) (n : Int32) : G (d + 1) mX12_feed 0 0 0 0 0 (gent 5 [.ref 67, .long eight, .int n]) [] SH0 RF0 (gmx J) (fun r _ => r = some (.int (F_feed eight n))) := by
  refine G_iload_n (pc := 0) rfl dX12_feed_0 ?_
  refine G_iconst (pc := 1) (v := 1) (by decide) dX12_feed_1 ?_
  refine G_bipush (pc := 2) (v := 8) (by decide) dX12_feed_2 ?_
  refine G_callS (pc := 4) (mc1 := 0) (ms1 := 0) (mj := mX12_in1) (vs := [_, _, _]) dX12_feed_4 cm_X12_in1 wh_0 wh_3 rfl (Nat.le_of_ble_eq_true rfl) (Nat.le_of_ble_eq_true rfl) (Nat.le_of_ble_eq_true rfl) (Nat.le_of_ble_eq_true rfl) (in1_s d n 1 8) ?_
  rintro _ _ ⟨rfl, rfl⟩
  dsimp only [Option.toList, List.cons_append, List.nil_append]
  refine G_if_ne (pc := 7) (tgt := 12) (by decide) dX12_feed_7 (fun c219 => ?_) (fun c219 => ?_)
  · have c219 := gB_o c219
    refine G_aload_n (pc := 12) rfl dX12_feed_12 ?_
    refine G_getI (pc := 13) (v := 0) (ci := 12) (j := 6) rfl rfl lk_RX12_126 rfl rfl dX12_feed_13 ?_
    refine G_iload_n (pc := 16) rfl dX12_feed_16 ?_
    by_cases c220 : n = 1
    · subst c220
      refine G_iadd (pc := 17) (z := 1) (by decide) dX12_feed_17 ?_
      refine G_sipush (pc := 18) (v := 200) (by decide) dX12_feed_18 ?_
      refine G_icmp_le (pc := 21) (tgt := 27) (by decide) dX12_feed_21 (fun _ => ?_) (fun z => absurd (by decide) z)
      refine G_iconst (pc := 27) (v := 0) (by decide) dX12_feed_27 ?_
      refine G_istore (pc := 28) (L1 := [some (.ref 67), some (.long eight), none, some (.int 1), some (.int 0)]) rfl rfl (by decide) dX12_feed_28 ?_
      refine G_iload (pc := 30) rfl dX12_feed_30 ?_
      refine G_iload_n (pc := 32) rfl dX12_feed_32 ?_
      refine G_icmp_ge (pc := 33) (tgt := 73) (by decide) dX12_feed_33 (fun z => absurd z (by decide)) (fun _ => ?_)
      refine G_aload_n (pc := 36) rfl dX12_feed_36 ?_
      refine G_getR (pc := 37) (r := 72) (ci := 12) (j := 5) rfl lk_RX12_22 rfl rfl rfl dX12_feed_37 ?_
      refine G_aload_n (pc := 40) rfl dX12_feed_40 ?_
      refine G_getI (pc := 41) (v := 0) (ci := 12) (j := 6) rfl rfl lk_RX12_126 rfl rfl dX12_feed_41 ?_
      refine G_lload_n (pc := 44) rfl dX12_feed_44 ?_
      refine G_bipush (pc := 45) (v := 8) (by decide) dX12_feed_45 ?_
      refine G_iload (pc := 47) rfl dX12_feed_47 ?_
      refine G_imul (pc := 49) (z := 0) (by decide) dX12_feed_49 ?_
      refine G_lshr (pc := 50) rfl dX12_feed_50 ?_
      refine G_ldc2w (pc := 51) (v := 255) cl_RX12_190 dX12_feed_51 ?_
      refine G_land (pc := 54) rfl dX12_feed_54 ?_
      refine G_l2i (pc := 55) rfl dX12_feed_55 ?_
      refine G_iast (pc := 56) (jj := 0) (by decide) rfl (by unfold vp_in; decide) dX12_feed_56 ?_
      refine G_aload_n (pc := 57) rfl dX12_feed_57 ?_
      refine G_dup (pc := 58) rfl dX12_feed_58 ?_
      refine G_getI (pc := 59) (v := 0) (ci := 12) (j := 6) rfl rfl lk_RX12_126 rfl rfl dX12_feed_59 ?_
      refine G_iconst (pc := 62) (v := 1) (by decide) dX12_feed_62 ?_
      refine G_iadd (pc := 63) (z := 1) (by decide) dX12_feed_63 ?_
      refine G_putI (pc := 64) (ci := 12) (j := 6) rfl lk_RX12_126 rfl rfl rfl trivial dX12_feed_64 ?_
      refine G_iinc (pc := 67) (v := 1) (w := 1) (L1 := [some (.ref 67), some (.long eight), none, some (.int 1), some (.int 1)]) (by decide) rfl rfl (by decide) rfl (by decide) dX12_feed_67 ?_
      refine G_goto (pc := 70) (tgt := 30) (by decide) dX12_feed_70 ?_
      refine G_iload (pc := 30) rfl dX12_feed_30 ?_
      refine G_iload_n (pc := 32) rfl dX12_feed_32 ?_
      refine G_icmp_ge (pc := 33) (tgt := 73) (by decide) dX12_feed_33 (fun _ => ?_) (fun z => absurd (by decide) z)
      refine G_aload_n (pc := 73) rfl dX12_feed_73 ?_
      refine G_getI (pc := 74) (v := 1) (ci := 12) (j := 6) rfl rfl lk_RX12_126 rfl rfl dX12_feed_74 ?_
      exact G_iret (pc := 77) (Nat.le_of_ble_eq_true rfl) (Nat.le_of_ble_eq_true rfl) rfl dX12_feed_77 (by first | rfl | (simp [F_feed, *]; done) | (simp only [F_feed, Int32.le_iff_toInt_le, Int32.lt_iff_toInt_lt, ← Int32.toInt_inj]; simp; omega) | (simp only [F_feed, Int32.le_iff_toInt_le, Int32.lt_iff_toInt_lt, ← Int32.toInt_inj]; split <;> first | rfl | (exfalso; simp at *; omega)) | (unfold F_feed; (repeat' split) <;> first | rfl | (exfalso; (try simp only [Int32.le_iff_toInt_le, Int32.lt_iff_toInt_lt, ← Int32.toInt_inj] at *); first | omega | (simp at *; done) | (simp at *; omega))))
    by_cases c221 : n = 2
    · subst c221
      refine G_iadd (pc := 17) (z := 2) (by decide) dX12_feed_17 ?_
      refine G_sipush (pc := 18) (v := 200) (by decide) dX12_feed_18 ?_
      refine G_icmp_le (pc := 21) (tgt := 27) (by decide) dX12_feed_21 (fun _ => ?_) (fun z => absurd (by decide) z)
      refine G_iconst (pc := 27) (v := 0) (by decide) dX12_feed_27 ?_
      refine G_istore (pc := 28) (L1 := [some (.ref 67), some (.long eight), none, some (.int 2), some (.int 0)]) rfl rfl (by decide) dX12_feed_28 ?_
      refine G_iload (pc := 30) rfl dX12_feed_30 ?_
      refine G_iload_n (pc := 32) rfl dX12_feed_32 ?_
      refine G_icmp_ge (pc := 33) (tgt := 73) (by decide) dX12_feed_33 (fun z => absurd z (by decide)) (fun _ => ?_)
      refine G_aload_n (pc := 36) rfl dX12_feed_36 ?_
      refine G_getR (pc := 37) (r := 72) (ci := 12) (j := 5) rfl lk_RX12_22 rfl rfl rfl dX12_feed_37 ?_
      refine G_aload_n (pc := 40) rfl dX12_feed_40 ?_
      refine G_getI (pc := 41) (v := 0) (ci := 12) (j := 6) rfl rfl lk_RX12_126 rfl rfl dX12_feed_41 ?_
      refine G_lload_n (pc := 44) rfl dX12_feed_44 ?_
      refine G_bipush (pc := 45) (v := 8) (by decide) dX12_feed_45 ?_
      refine G_iload (pc := 47) rfl dX12_feed_47 ?_
      refine G_imul (pc := 49) (z := 0) (by decide) dX12_feed_49 ?_
      refine G_lshr (pc := 50) rfl dX12_feed_50 ?_
      refine G_ldc2w (pc := 51) (v := 255) cl_RX12_190 dX12_feed_51 ?_
      refine G_land (pc := 54) rfl dX12_feed_54 ?_
      refine G_l2i (pc := 55) rfl dX12_feed_55 ?_
      refine G_iast (pc := 56) (jj := 0) (by decide) rfl (by unfold vp_in; decide) dX12_feed_56 ?_
      refine G_aload_n (pc := 57) rfl dX12_feed_57 ?_
      refine G_dup (pc := 58) rfl dX12_feed_58 ?_
      refine G_getI (pc := 59) (v := 0) (ci := 12) (j := 6) rfl rfl lk_RX12_126 rfl rfl dX12_feed_59 ?_
      refine G_iconst (pc := 62) (v := 1) (by decide) dX12_feed_62 ?_
      refine G_iadd (pc := 63) (z := 1) (by decide) dX12_feed_63 ?_
      refine G_putI (pc := 64) (ci := 12) (j := 6) rfl lk_RX12_126 rfl rfl rfl trivial dX12_feed_64 ?_
      refine G_iinc (pc := 67) (v := 1) (w := 1) (L1 := [some (.ref 67), some (.long eight), none, some (.int 2), some (.int 1)]) (by decide) rfl rfl (by decide) rfl (by decide) dX12_feed_67 ?_
      refine G_goto (pc := 70) (tgt := 30) (by decide) dX12_feed_70 ?_
      refine G_iload (pc := 30) rfl dX12_feed_30 ?_
      refine G_iload_n (pc := 32) rfl dX12_feed_32 ?_
      refine G_icmp_ge (pc := 33) (tgt := 73) (by decide) dX12_feed_33 (fun z => absurd z (by decide)) (fun _ => ?_)
      refine G_aload_n (pc := 36) rfl dX12_feed_36 ?_
      refine G_getR (pc := 37) (r := 72) (ci := 12) (j := 5) rfl lk_RX12_22 rfl rfl rfl dX12_feed_37 ?_
      refine G_aload_n (pc := 40) rfl dX12_feed_40 ?_
      refine G_getI (pc := 41) (v := 1) (ci := 12) (j := 6) rfl rfl lk_RX12_126 rfl rfl dX12_feed_41 ?_
      refine G_lload_n (pc := 44) rfl dX12_feed_44 ?_
      refine G_bipush (pc := 45) (v := 8) (by decide) dX12_feed_45 ?_
      refine G_iload (pc := 47) rfl dX12_feed_47 ?_
      refine G_imul (pc := 49) (z := 8) (by decide) dX12_feed_49 ?_
      refine G_lshr (pc := 50) rfl dX12_feed_50 ?_
      refine G_ldc2w (pc := 51) (v := 255) cl_RX12_190 dX12_feed_51 ?_
      refine G_land (pc := 54) rfl dX12_feed_54 ?_
      refine G_l2i (pc := 55) rfl dX12_feed_55 ?_
      refine G_iast (pc := 56) (jj := 1) (by decide) rfl (by unfold vp_in; decide) dX12_feed_56 ?_
      refine G_aload_n (pc := 57) rfl dX12_feed_57 ?_
      refine G_dup (pc := 58) rfl dX12_feed_58 ?_
      refine G_getI (pc := 59) (v := 1) (ci := 12) (j := 6) rfl rfl lk_RX12_126 rfl rfl dX12_feed_59 ?_
      refine G_iconst (pc := 62) (v := 1) (by decide) dX12_feed_62 ?_
      refine G_iadd (pc := 63) (z := 2) (by decide) dX12_feed_63 ?_
      refine G_putI (pc := 64) (ci := 12) (j := 6) rfl lk_RX12_126 rfl rfl rfl trivial dX12_feed_64 ?_
      refine G_iinc (pc := 67) (v := 1) (w := 2) (L1 := [some (.ref 67), some (.long eight), none, some (.int 2), some (.int 2)]) (by decide) rfl rfl (by decide) rfl (by decide) dX12_feed_67 ?_
      refine G_goto (pc := 70) (tgt := 30) (by decide) dX12_feed_70 ?_
      refine G_iload (pc := 30) rfl dX12_feed_30 ?_
      refine G_iload_n (pc := 32) rfl dX12_feed_32 ?_
      refine G_icmp_ge (pc := 33) (tgt := 73) (by decide) dX12_feed_33 (fun _ => ?_) (fun z => absurd (by decide) z)
      refine G_aload_n (pc := 73) rfl dX12_feed_73 ?_
      refine G_getI (pc := 74) (v := 2) (ci := 12) (j := 6) rfl rfl lk_RX12_126 rfl rfl dX12_feed_74 ?_
      exact G_iret (pc := 77) (Nat.le_of_ble_eq_true rfl) (Nat.le_of_ble_eq_true rfl) rfl dX12_feed_77 (by first | rfl | (simp [F_feed, *]; done) | (simp only [F_feed, Int32.le_iff_toInt_le, Int32.lt_iff_toInt_lt, ← Int32.toInt_inj]; simp; omega) | (simp only [F_feed, Int32.le_iff_toInt_le, Int32.lt_iff_toInt_lt, ← Int32.toInt_inj]; split <;> first | rfl | (exfalso; simp at *; omega)) | (unfold F_feed; (repeat' split) <;> first | rfl | (exfalso; (try simp only [Int32.le_iff_toInt_le, Int32.lt_iff_toInt_lt, ← Int32.toInt_inj] at *); first | omega | (simp at *; done) | (simp at *; omega))))
    by_cases c222 : n = 3
    · subst c222
      refine G_iadd (pc := 17) (z := 3) (by decide) dX12_feed_17 ?_
      refine G_sipush (pc := 18) (v := 200) (by decide) dX12_feed_18 ?_
      refine G_icmp_le (pc := 21) (tgt := 27) (by decide) dX12_feed_21 (fun _ => ?_) (fun z => absurd (by decide) z)
      refine G_iconst (pc := 27) (v := 0) (by decide) dX12_feed_27 ?_
      refine G_istore (pc := 28) (L1 := [some (.ref 67), some (.long eight), none, some (.int 3), some (.int 0)]) rfl rfl (by decide) dX12_feed_28 ?_
      refine G_iload (pc := 30) rfl dX12_feed_30 ?_
      refine G_iload_n (pc := 32) rfl dX12_feed_32 ?_
      refine G_icmp_ge (pc := 33) (tgt := 73) (by decide) dX12_feed_33 (fun z => absurd z (by decide)) (fun _ => ?_)
      refine G_aload_n (pc := 36) rfl dX12_feed_36 ?_
      refine G_getR (pc := 37) (r := 72) (ci := 12) (j := 5) rfl lk_RX12_22 rfl rfl rfl dX12_feed_37 ?_
      refine G_aload_n (pc := 40) rfl dX12_feed_40 ?_
      refine G_getI (pc := 41) (v := 0) (ci := 12) (j := 6) rfl rfl lk_RX12_126 rfl rfl dX12_feed_41 ?_
      refine G_lload_n (pc := 44) rfl dX12_feed_44 ?_
      refine G_bipush (pc := 45) (v := 8) (by decide) dX12_feed_45 ?_
      refine G_iload (pc := 47) rfl dX12_feed_47 ?_
      refine G_imul (pc := 49) (z := 0) (by decide) dX12_feed_49 ?_
      refine G_lshr (pc := 50) rfl dX12_feed_50 ?_
      refine G_ldc2w (pc := 51) (v := 255) cl_RX12_190 dX12_feed_51 ?_
      refine G_land (pc := 54) rfl dX12_feed_54 ?_
      refine G_l2i (pc := 55) rfl dX12_feed_55 ?_
      refine G_iast (pc := 56) (jj := 0) (by decide) rfl (by unfold vp_in; decide) dX12_feed_56 ?_
      refine G_aload_n (pc := 57) rfl dX12_feed_57 ?_
      refine G_dup (pc := 58) rfl dX12_feed_58 ?_
      refine G_getI (pc := 59) (v := 0) (ci := 12) (j := 6) rfl rfl lk_RX12_126 rfl rfl dX12_feed_59 ?_
      refine G_iconst (pc := 62) (v := 1) (by decide) dX12_feed_62 ?_
      refine G_iadd (pc := 63) (z := 1) (by decide) dX12_feed_63 ?_
      refine G_putI (pc := 64) (ci := 12) (j := 6) rfl lk_RX12_126 rfl rfl rfl trivial dX12_feed_64 ?_
      refine G_iinc (pc := 67) (v := 1) (w := 1) (L1 := [some (.ref 67), some (.long eight), none, some (.int 3), some (.int 1)]) (by decide) rfl rfl (by decide) rfl (by decide) dX12_feed_67 ?_
      refine G_goto (pc := 70) (tgt := 30) (by decide) dX12_feed_70 ?_
      refine G_iload (pc := 30) rfl dX12_feed_30 ?_
      refine G_iload_n (pc := 32) rfl dX12_feed_32 ?_
      refine G_icmp_ge (pc := 33) (tgt := 73) (by decide) dX12_feed_33 (fun z => absurd z (by decide)) (fun _ => ?_)
      refine G_aload_n (pc := 36) rfl dX12_feed_36 ?_
      refine G_getR (pc := 37) (r := 72) (ci := 12) (j := 5) rfl lk_RX12_22 rfl rfl rfl dX12_feed_37 ?_
      refine G_aload_n (pc := 40) rfl dX12_feed_40 ?_
      refine G_getI (pc := 41) (v := 1) (ci := 12) (j := 6) rfl rfl lk_RX12_126 rfl rfl dX12_feed_41 ?_
      refine G_lload_n (pc := 44) rfl dX12_feed_44 ?_
      refine G_bipush (pc := 45) (v := 8) (by decide) dX12_feed_45 ?_
      refine G_iload (pc := 47) rfl dX12_feed_47 ?_
      refine G_imul (pc := 49) (z := 8) (by decide) dX12_feed_49 ?_
      refine G_lshr (pc := 50) rfl dX12_feed_50 ?_
      refine G_ldc2w (pc := 51) (v := 255) cl_RX12_190 dX12_feed_51 ?_
      refine G_land (pc := 54) rfl dX12_feed_54 ?_
      refine G_l2i (pc := 55) rfl dX12_feed_55 ?_
      refine G_iast (pc := 56) (jj := 1) (by decide) rfl (by unfold vp_in; decide) dX12_feed_56 ?_
      refine G_aload_n (pc := 57) rfl dX12_feed_57 ?_
      refine G_dup (pc := 58) rfl dX12_feed_58 ?_
      refine G_getI (pc := 59) (v := 1) (ci := 12) (j := 6) rfl rfl lk_RX12_126 rfl rfl dX12_feed_59 ?_
      refine G_iconst (pc := 62) (v := 1) (by decide) dX12_feed_62 ?_
      refine G_iadd (pc := 63) (z := 2) (by decide) dX12_feed_63 ?_
      refine G_putI (pc := 64) (ci := 12) (j := 6) rfl lk_RX12_126 rfl rfl rfl trivial dX12_feed_64 ?_
      refine G_iinc (pc := 67) (v := 1) (w := 2) (L1 := [some (.ref 67), some (.long eight), none, some (.int 3), some (.int 2)]) (by decide) rfl rfl (by decide) rfl (by decide) dX12_feed_67 ?_
      refine G_goto (pc := 70) (tgt := 30) (by decide) dX12_feed_70 ?_
      refine G_iload (pc := 30) rfl dX12_feed_30 ?_
      refine G_iload_n (pc := 32) rfl dX12_feed_32 ?_
      refine G_icmp_ge (pc := 33) (tgt := 73) (by decide) dX12_feed_33 (fun z => absurd z (by decide)) (fun _ => ?_)
      refine G_aload_n (pc := 36) rfl dX12_feed_36 ?_
      refine G_getR (pc := 37) (r := 72) (ci := 12) (j := 5) rfl lk_RX12_22 rfl rfl rfl dX12_feed_37 ?_
      refine G_aload_n (pc := 40) rfl dX12_feed_40 ?_
      refine G_getI (pc := 41) (v := 2) (ci := 12) (j := 6) rfl rfl lk_RX12_126 rfl rfl dX12_feed_41 ?_
      refine G_lload_n (pc := 44) rfl dX12_feed_44 ?_
      refine G_bipush (pc := 45) (v := 8) (by decide) dX12_feed_45 ?_
      refine G_iload (pc := 47) rfl dX12_feed_47 ?_
      refine G_imul (pc := 49) (z := 16) (by decide) dX12_feed_49 ?_
      refine G_lshr (pc := 50) rfl dX12_feed_50 ?_
      refine G_ldc2w (pc := 51) (v := 255) cl_RX12_190 dX12_feed_51 ?_
      refine G_land (pc := 54) rfl dX12_feed_54 ?_
      refine G_l2i (pc := 55) rfl dX12_feed_55 ?_
      refine G_iast (pc := 56) (jj := 2) (by decide) rfl (by unfold vp_in; decide) dX12_feed_56 ?_
      refine G_aload_n (pc := 57) rfl dX12_feed_57 ?_
      refine G_dup (pc := 58) rfl dX12_feed_58 ?_
      refine G_getI (pc := 59) (v := 2) (ci := 12) (j := 6) rfl rfl lk_RX12_126 rfl rfl dX12_feed_59 ?_
      refine G_iconst (pc := 62) (v := 1) (by decide) dX12_feed_62 ?_
      refine G_iadd (pc := 63) (z := 3) (by decide) dX12_feed_63 ?_
      refine G_putI (pc := 64) (ci := 12) (j := 6) rfl lk_RX12_126 rfl rfl rfl trivial dX12_feed_64 ?_
      refine G_iinc (pc := 67) (v := 1) (w := 3) (L1 := [some (.ref 67), some (.long eight), none, some (.int 3), some (.int 3)]) (by decide) rfl rfl (by decide) rfl (by decide) dX12_feed_67 ?_
      refine G_goto (pc := 70) (tgt := 30) (by decide) dX12_feed_70 ?_
      refine G_iload (pc := 30) rfl dX12_feed_30 ?_
      refine G_iload_n (pc := 32) rfl dX12_feed_32 ?_
      refine G_icmp_ge (pc := 33) (tgt := 73) (by decide) dX12_feed_33 (fun _ => ?_) (fun z => absurd (by decide) z)
      refine G_aload_n (pc := 73) rfl dX12_feed_73 ?_
      refine G_getI (pc := 74) (v := 3) (ci := 12) (j := 6) rfl rfl lk_RX12_126 rfl rfl dX12_feed_74 ?_
      exact G_iret (pc := 77) (Nat.le_of_ble_eq_true rfl) (Nat.le_of_ble_eq_true rfl) rfl dX12_feed_77 (by first | rfl | (simp [F_feed, *]; done) | (simp only [F_feed, Int32.le_iff_toInt_le, Int32.lt_iff_toInt_lt, ← Int32.toInt_inj]; simp; omega) | (simp only [F_feed, Int32.le_iff_toInt_le, Int32.lt_iff_toInt_lt, ← Int32.toInt_inj]; split <;> first | rfl | (exfalso; simp at *; omega)) | (unfold F_feed; (repeat' split) <;> first | rfl | (exfalso; (try simp only [Int32.le_iff_toInt_le, Int32.lt_iff_toInt_lt, ← Int32.toInt_inj] at *); first | omega | (simp at *; done) | (simp at *; omega))))
    by_cases c223 : n = 4
    · subst c223
      refine G_iadd (pc := 17) (z := 4) (by decide) dX12_feed_17 ?_
      refine G_sipush (pc := 18) (v := 200) (by decide) dX12_feed_18 ?_
      refine G_icmp_le (pc := 21) (tgt := 27) (by decide) dX12_feed_21 (fun _ => ?_) (fun z => absurd (by decide) z)
      refine G_iconst (pc := 27) (v := 0) (by decide) dX12_feed_27 ?_
      refine G_istore (pc := 28) (L1 := [some (.ref 67), some (.long eight), none, some (.int 4), some (.int 0)]) rfl rfl (by decide) dX12_feed_28 ?_
      refine G_iload (pc := 30) rfl dX12_feed_30 ?_
      refine G_iload_n (pc := 32) rfl dX12_feed_32 ?_
      refine G_icmp_ge (pc := 33) (tgt := 73) (by decide) dX12_feed_33 (fun z => absurd z (by decide)) (fun _ => ?_)
      refine G_aload_n (pc := 36) rfl dX12_feed_36 ?_
      refine G_getR (pc := 37) (r := 72) (ci := 12) (j := 5) rfl lk_RX12_22 rfl rfl rfl dX12_feed_37 ?_
      refine G_aload_n (pc := 40) rfl dX12_feed_40 ?_
      refine G_getI (pc := 41) (v := 0) (ci := 12) (j := 6) rfl rfl lk_RX12_126 rfl rfl dX12_feed_41 ?_
      refine G_lload_n (pc := 44) rfl dX12_feed_44 ?_
      refine G_bipush (pc := 45) (v := 8) (by decide) dX12_feed_45 ?_
      refine G_iload (pc := 47) rfl dX12_feed_47 ?_
      refine G_imul (pc := 49) (z := 0) (by decide) dX12_feed_49 ?_
      refine G_lshr (pc := 50) rfl dX12_feed_50 ?_
      refine G_ldc2w (pc := 51) (v := 255) cl_RX12_190 dX12_feed_51 ?_
      refine G_land (pc := 54) rfl dX12_feed_54 ?_
      refine G_l2i (pc := 55) rfl dX12_feed_55 ?_
      refine G_iast (pc := 56) (jj := 0) (by decide) rfl (by unfold vp_in; decide) dX12_feed_56 ?_
      refine G_aload_n (pc := 57) rfl dX12_feed_57 ?_
      refine G_dup (pc := 58) rfl dX12_feed_58 ?_
      refine G_getI (pc := 59) (v := 0) (ci := 12) (j := 6) rfl rfl lk_RX12_126 rfl rfl dX12_feed_59 ?_
      refine G_iconst (pc := 62) (v := 1) (by decide) dX12_feed_62 ?_
      refine G_iadd (pc := 63) (z := 1) (by decide) dX12_feed_63 ?_
      refine G_putI (pc := 64) (ci := 12) (j := 6) rfl lk_RX12_126 rfl rfl rfl trivial dX12_feed_64 ?_
      refine G_iinc (pc := 67) (v := 1) (w := 1) (L1 := [some (.ref 67), some (.long eight), none, some (.int 4), some (.int 1)]) (by decide) rfl rfl (by decide) rfl (by decide) dX12_feed_67 ?_
      refine G_goto (pc := 70) (tgt := 30) (by decide) dX12_feed_70 ?_
      refine G_iload (pc := 30) rfl dX12_feed_30 ?_
      refine G_iload_n (pc := 32) rfl dX12_feed_32 ?_
      refine G_icmp_ge (pc := 33) (tgt := 73) (by decide) dX12_feed_33 (fun z => absurd z (by decide)) (fun _ => ?_)
      refine G_aload_n (pc := 36) rfl dX12_feed_36 ?_
      refine G_getR (pc := 37) (r := 72) (ci := 12) (j := 5) rfl lk_RX12_22 rfl rfl rfl dX12_feed_37 ?_
      refine G_aload_n (pc := 40) rfl dX12_feed_40 ?_
      refine G_getI (pc := 41) (v := 1) (ci := 12) (j := 6) rfl rfl lk_RX12_126 rfl rfl dX12_feed_41 ?_
      refine G_lload_n (pc := 44) rfl dX12_feed_44 ?_
      refine G_bipush (pc := 45) (v := 8) (by decide) dX12_feed_45 ?_
      refine G_iload (pc := 47) rfl dX12_feed_47 ?_
      refine G_imul (pc := 49) (z := 8) (by decide) dX12_feed_49 ?_
      refine G_lshr (pc := 50) rfl dX12_feed_50 ?_
      refine G_ldc2w (pc := 51) (v := 255) cl_RX12_190 dX12_feed_51 ?_
      refine G_land (pc := 54) rfl dX12_feed_54 ?_
      refine G_l2i (pc := 55) rfl dX12_feed_55 ?_
      refine G_iast (pc := 56) (jj := 1) (by decide) rfl (by unfold vp_in; decide) dX12_feed_56 ?_
      refine G_aload_n (pc := 57) rfl dX12_feed_57 ?_
      refine G_dup (pc := 58) rfl dX12_feed_58 ?_
      refine G_getI (pc := 59) (v := 1) (ci := 12) (j := 6) rfl rfl lk_RX12_126 rfl rfl dX12_feed_59 ?_
      refine G_iconst (pc := 62) (v := 1) (by decide) dX12_feed_62 ?_
      refine G_iadd (pc := 63) (z := 2) (by decide) dX12_feed_63 ?_
      refine G_putI (pc := 64) (ci := 12) (j := 6) rfl lk_RX12_126 rfl rfl rfl trivial dX12_feed_64 ?_
      refine G_iinc (pc := 67) (v := 1) (w := 2) (L1 := [some (.ref 67), some (.long eight), none, some (.int 4), some (.int 2)]) (by decide) rfl rfl (by decide) rfl (by decide) dX12_feed_67 ?_
      refine G_goto (pc := 70) (tgt := 30) (by decide) dX12_feed_70 ?_
      refine G_iload (pc := 30) rfl dX12_feed_30 ?_
      refine G_iload_n (pc := 32) rfl dX12_feed_32 ?_
      refine G_icmp_ge (pc := 33) (tgt := 73) (by decide) dX12_feed_33 (fun z => absurd z (by decide)) (fun _ => ?_)
      refine G_aload_n (pc := 36) rfl dX12_feed_36 ?_
      refine G_getR (pc := 37) (r := 72) (ci := 12) (j := 5) rfl lk_RX12_22 rfl rfl rfl dX12_feed_37 ?_
      refine G_aload_n (pc := 40) rfl dX12_feed_40 ?_
      refine G_getI (pc := 41) (v := 2) (ci := 12) (j := 6) rfl rfl lk_RX12_126 rfl rfl dX12_feed_41 ?_
      refine G_lload_n (pc := 44) rfl dX12_feed_44 ?_
      refine G_bipush (pc := 45) (v := 8) (by decide) dX12_feed_45 ?_
      refine G_iload (pc := 47) rfl dX12_feed_47 ?_
      refine G_imul (pc := 49) (z := 16) (by decide) dX12_feed_49 ?_
      refine G_lshr (pc := 50) rfl dX12_feed_50 ?_
      refine G_ldc2w (pc := 51) (v := 255) cl_RX12_190 dX12_feed_51 ?_
      refine G_land (pc := 54) rfl dX12_feed_54 ?_
      refine G_l2i (pc := 55) rfl dX12_feed_55 ?_
      refine G_iast (pc := 56) (jj := 2) (by decide) rfl (by unfold vp_in; decide) dX12_feed_56 ?_
      refine G_aload_n (pc := 57) rfl dX12_feed_57 ?_
      refine G_dup (pc := 58) rfl dX12_feed_58 ?_
      refine G_getI (pc := 59) (v := 2) (ci := 12) (j := 6) rfl rfl lk_RX12_126 rfl rfl dX12_feed_59 ?_
      refine G_iconst (pc := 62) (v := 1) (by decide) dX12_feed_62 ?_
      refine G_iadd (pc := 63) (z := 3) (by decide) dX12_feed_63 ?_
      refine G_putI (pc := 64) (ci := 12) (j := 6) rfl lk_RX12_126 rfl rfl rfl trivial dX12_feed_64 ?_
      refine G_iinc (pc := 67) (v := 1) (w := 3) (L1 := [some (.ref 67), some (.long eight), none, some (.int 4), some (.int 3)]) (by decide) rfl rfl (by decide) rfl (by decide) dX12_feed_67 ?_
      refine G_goto (pc := 70) (tgt := 30) (by decide) dX12_feed_70 ?_
      refine G_iload (pc := 30) rfl dX12_feed_30 ?_
      refine G_iload_n (pc := 32) rfl dX12_feed_32 ?_
      refine G_icmp_ge (pc := 33) (tgt := 73) (by decide) dX12_feed_33 (fun z => absurd z (by decide)) (fun _ => ?_)
      refine G_aload_n (pc := 36) rfl dX12_feed_36 ?_
      refine G_getR (pc := 37) (r := 72) (ci := 12) (j := 5) rfl lk_RX12_22 rfl rfl rfl dX12_feed_37 ?_
      refine G_aload_n (pc := 40) rfl dX12_feed_40 ?_
      refine G_getI (pc := 41) (v := 3) (ci := 12) (j := 6) rfl rfl lk_RX12_126 rfl rfl dX12_feed_41 ?_
      refine G_lload_n (pc := 44) rfl dX12_feed_44 ?_
      refine G_bipush (pc := 45) (v := 8) (by decide) dX12_feed_45 ?_
      refine G_iload (pc := 47) rfl dX12_feed_47 ?_
      refine G_imul (pc := 49) (z := 24) (by decide) dX12_feed_49 ?_
      refine G_lshr (pc := 50) rfl dX12_feed_50 ?_
      refine G_ldc2w (pc := 51) (v := 255) cl_RX12_190 dX12_feed_51 ?_
      refine G_land (pc := 54) rfl dX12_feed_54 ?_
      refine G_l2i (pc := 55) rfl dX12_feed_55 ?_
      refine G_iast (pc := 56) (jj := 3) (by decide) rfl (by unfold vp_in; decide) dX12_feed_56 ?_
      refine G_aload_n (pc := 57) rfl dX12_feed_57 ?_
      refine G_dup (pc := 58) rfl dX12_feed_58 ?_
      refine G_getI (pc := 59) (v := 3) (ci := 12) (j := 6) rfl rfl lk_RX12_126 rfl rfl dX12_feed_59 ?_
      refine G_iconst (pc := 62) (v := 1) (by decide) dX12_feed_62 ?_
      refine G_iadd (pc := 63) (z := 4) (by decide) dX12_feed_63 ?_
      refine G_putI (pc := 64) (ci := 12) (j := 6) rfl lk_RX12_126 rfl rfl rfl trivial dX12_feed_64 ?_
      refine G_iinc (pc := 67) (v := 1) (w := 4) (L1 := [some (.ref 67), some (.long eight), none, some (.int 4), some (.int 4)]) (by decide) rfl rfl (by decide) rfl (by decide) dX12_feed_67 ?_
      refine G_goto (pc := 70) (tgt := 30) (by decide) dX12_feed_70 ?_
      refine G_iload (pc := 30) rfl dX12_feed_30 ?_
      refine G_iload_n (pc := 32) rfl dX12_feed_32 ?_
      refine G_icmp_ge (pc := 33) (tgt := 73) (by decide) dX12_feed_33 (fun _ => ?_) (fun z => absurd (by decide) z)
      refine G_aload_n (pc := 73) rfl dX12_feed_73 ?_
      refine G_getI (pc := 74) (v := 4) (ci := 12) (j := 6) rfl rfl lk_RX12_126 rfl rfl dX12_feed_74 ?_
      exact G_iret (pc := 77) (Nat.le_of_ble_eq_true rfl) (Nat.le_of_ble_eq_true rfl) rfl dX12_feed_77 (by first | rfl | (simp [F_feed, *]; done) | (simp only [F_feed, Int32.le_iff_toInt_le, Int32.lt_iff_toInt_lt, ← Int32.toInt_inj]; simp; omega) | (simp only [F_feed, Int32.le_iff_toInt_le, Int32.lt_iff_toInt_lt, ← Int32.toInt_inj]; split <;> first | rfl | (exfalso; simp at *; omega)) | (unfold F_feed; (repeat' split) <;> first | rfl | (exfalso; (try simp only [Int32.le_iff_toInt_le, Int32.lt_iff_toInt_lt, ← Int32.toInt_inj] at *); first | omega | (simp at *; done) | (simp at *; omega))))
    by_cases c224 : n = 5
    · subst c224
      refine G_iadd (pc := 17) (z := 5) (by decide) dX12_feed_17 ?_
      refine G_sipush (pc := 18) (v := 200) (by decide) dX12_feed_18 ?_
      refine G_icmp_le (pc := 21) (tgt := 27) (by decide) dX12_feed_21 (fun _ => ?_) (fun z => absurd (by decide) z)
      refine G_iconst (pc := 27) (v := 0) (by decide) dX12_feed_27 ?_
      refine G_istore (pc := 28) (L1 := [some (.ref 67), some (.long eight), none, some (.int 5), some (.int 0)]) rfl rfl (by decide) dX12_feed_28 ?_
      refine G_iload (pc := 30) rfl dX12_feed_30 ?_
      refine G_iload_n (pc := 32) rfl dX12_feed_32 ?_
      refine G_icmp_ge (pc := 33) (tgt := 73) (by decide) dX12_feed_33 (fun z => absurd z (by decide)) (fun _ => ?_)
      refine G_aload_n (pc := 36) rfl dX12_feed_36 ?_
      refine G_getR (pc := 37) (r := 72) (ci := 12) (j := 5) rfl lk_RX12_22 rfl rfl rfl dX12_feed_37 ?_
      refine G_aload_n (pc := 40) rfl dX12_feed_40 ?_
      refine G_getI (pc := 41) (v := 0) (ci := 12) (j := 6) rfl rfl lk_RX12_126 rfl rfl dX12_feed_41 ?_
      refine G_lload_n (pc := 44) rfl dX12_feed_44 ?_
      refine G_bipush (pc := 45) (v := 8) (by decide) dX12_feed_45 ?_
      refine G_iload (pc := 47) rfl dX12_feed_47 ?_
      refine G_imul (pc := 49) (z := 0) (by decide) dX12_feed_49 ?_
      refine G_lshr (pc := 50) rfl dX12_feed_50 ?_
      refine G_ldc2w (pc := 51) (v := 255) cl_RX12_190 dX12_feed_51 ?_
      refine G_land (pc := 54) rfl dX12_feed_54 ?_
      refine G_l2i (pc := 55) rfl dX12_feed_55 ?_
      refine G_iast (pc := 56) (jj := 0) (by decide) rfl (by unfold vp_in; decide) dX12_feed_56 ?_
      refine G_aload_n (pc := 57) rfl dX12_feed_57 ?_
      refine G_dup (pc := 58) rfl dX12_feed_58 ?_
      refine G_getI (pc := 59) (v := 0) (ci := 12) (j := 6) rfl rfl lk_RX12_126 rfl rfl dX12_feed_59 ?_
      refine G_iconst (pc := 62) (v := 1) (by decide) dX12_feed_62 ?_
      refine G_iadd (pc := 63) (z := 1) (by decide) dX12_feed_63 ?_
      refine G_putI (pc := 64) (ci := 12) (j := 6) rfl lk_RX12_126 rfl rfl rfl trivial dX12_feed_64 ?_
      refine G_iinc (pc := 67) (v := 1) (w := 1) (L1 := [some (.ref 67), some (.long eight), none, some (.int 5), some (.int 1)]) (by decide) rfl rfl (by decide) rfl (by decide) dX12_feed_67 ?_
      refine G_goto (pc := 70) (tgt := 30) (by decide) dX12_feed_70 ?_
      refine G_iload (pc := 30) rfl dX12_feed_30 ?_
      refine G_iload_n (pc := 32) rfl dX12_feed_32 ?_
      refine G_icmp_ge (pc := 33) (tgt := 73) (by decide) dX12_feed_33 (fun z => absurd z (by decide)) (fun _ => ?_)
      refine G_aload_n (pc := 36) rfl dX12_feed_36 ?_
      refine G_getR (pc := 37) (r := 72) (ci := 12) (j := 5) rfl lk_RX12_22 rfl rfl rfl dX12_feed_37 ?_
      refine G_aload_n (pc := 40) rfl dX12_feed_40 ?_
      refine G_getI (pc := 41) (v := 1) (ci := 12) (j := 6) rfl rfl lk_RX12_126 rfl rfl dX12_feed_41 ?_
      refine G_lload_n (pc := 44) rfl dX12_feed_44 ?_
      refine G_bipush (pc := 45) (v := 8) (by decide) dX12_feed_45 ?_
      refine G_iload (pc := 47) rfl dX12_feed_47 ?_
      refine G_imul (pc := 49) (z := 8) (by decide) dX12_feed_49 ?_
      refine G_lshr (pc := 50) rfl dX12_feed_50 ?_
      refine G_ldc2w (pc := 51) (v := 255) cl_RX12_190 dX12_feed_51 ?_
      refine G_land (pc := 54) rfl dX12_feed_54 ?_
      refine G_l2i (pc := 55) rfl dX12_feed_55 ?_
      refine G_iast (pc := 56) (jj := 1) (by decide) rfl (by unfold vp_in; decide) dX12_feed_56 ?_
      refine G_aload_n (pc := 57) rfl dX12_feed_57 ?_
      refine G_dup (pc := 58) rfl dX12_feed_58 ?_
      refine G_getI (pc := 59) (v := 1) (ci := 12) (j := 6) rfl rfl lk_RX12_126 rfl rfl dX12_feed_59 ?_
      refine G_iconst (pc := 62) (v := 1) (by decide) dX12_feed_62 ?_
      refine G_iadd (pc := 63) (z := 2) (by decide) dX12_feed_63 ?_
      refine G_putI (pc := 64) (ci := 12) (j := 6) rfl lk_RX12_126 rfl rfl rfl trivial dX12_feed_64 ?_
      refine G_iinc (pc := 67) (v := 1) (w := 2) (L1 := [some (.ref 67), some (.long eight), none, some (.int 5), some (.int 2)]) (by decide) rfl rfl (by decide) rfl (by decide) dX12_feed_67 ?_
      refine G_goto (pc := 70) (tgt := 30) (by decide) dX12_feed_70 ?_
      refine G_iload (pc := 30) rfl dX12_feed_30 ?_
      refine G_iload_n (pc := 32) rfl dX12_feed_32 ?_
      refine G_icmp_ge (pc := 33) (tgt := 73) (by decide) dX12_feed_33 (fun z => absurd z (by decide)) (fun _ => ?_)
      refine G_aload_n (pc := 36) rfl dX12_feed_36 ?_
      refine G_getR (pc := 37) (r := 72) (ci := 12) (j := 5) rfl lk_RX12_22 rfl rfl rfl dX12_feed_37 ?_
      refine G_aload_n (pc := 40) rfl dX12_feed_40 ?_
      refine G_getI (pc := 41) (v := 2) (ci := 12) (j := 6) rfl rfl lk_RX12_126 rfl rfl dX12_feed_41 ?_
      refine G_lload_n (pc := 44) rfl dX12_feed_44 ?_
      refine G_bipush (pc := 45) (v := 8) (by decide) dX12_feed_45 ?_
      refine G_iload (pc := 47) rfl dX12_feed_47 ?_
      refine G_imul (pc := 49) (z := 16) (by decide) dX12_feed_49 ?_
      refine G_lshr (pc := 50) rfl dX12_feed_50 ?_
      refine G_ldc2w (pc := 51) (v := 255) cl_RX12_190 dX12_feed_51 ?_
      refine G_land (pc := 54) rfl dX12_feed_54 ?_
      refine G_l2i (pc := 55) rfl dX12_feed_55 ?_
      refine G_iast (pc := 56) (jj := 2) (by decide) rfl (by unfold vp_in; decide) dX12_feed_56 ?_
      refine G_aload_n (pc := 57) rfl dX12_feed_57 ?_
      refine G_dup (pc := 58) rfl dX12_feed_58 ?_
      refine G_getI (pc := 59) (v := 2) (ci := 12) (j := 6) rfl rfl lk_RX12_126 rfl rfl dX12_feed_59 ?_
      refine G_iconst (pc := 62) (v := 1) (by decide) dX12_feed_62 ?_
      refine G_iadd (pc := 63) (z := 3) (by decide) dX12_feed_63 ?_
      refine G_putI (pc := 64) (ci := 12) (j := 6) rfl lk_RX12_126 rfl rfl rfl trivial dX12_feed_64 ?_
      refine G_iinc (pc := 67) (v := 1) (w := 3) (L1 := [some (.ref 67), some (.long eight), none, some (.int 5), some (.int 3)]) (by decide) rfl rfl (by decide) rfl (by decide) dX12_feed_67 ?_
      refine G_goto (pc := 70) (tgt := 30) (by decide) dX12_feed_70 ?_
      refine G_iload (pc := 30) rfl dX12_feed_30 ?_
      refine G_iload_n (pc := 32) rfl dX12_feed_32 ?_
      refine G_icmp_ge (pc := 33) (tgt := 73) (by decide) dX12_feed_33 (fun z => absurd z (by decide)) (fun _ => ?_)
      refine G_aload_n (pc := 36) rfl dX12_feed_36 ?_
      refine G_getR (pc := 37) (r := 72) (ci := 12) (j := 5) rfl lk_RX12_22 rfl rfl rfl dX12_feed_37 ?_
      refine G_aload_n (pc := 40) rfl dX12_feed_40 ?_
      refine G_getI (pc := 41) (v := 3) (ci := 12) (j := 6) rfl rfl lk_RX12_126 rfl rfl dX12_feed_41 ?_
      refine G_lload_n (pc := 44) rfl dX12_feed_44 ?_
      refine G_bipush (pc := 45) (v := 8) (by decide) dX12_feed_45 ?_
      refine G_iload (pc := 47) rfl dX12_feed_47 ?_
      refine G_imul (pc := 49) (z := 24) (by decide) dX12_feed_49 ?_
      refine G_lshr (pc := 50) rfl dX12_feed_50 ?_
      refine G_ldc2w (pc := 51) (v := 255) cl_RX12_190 dX12_feed_51 ?_
      refine G_land (pc := 54) rfl dX12_feed_54 ?_
      refine G_l2i (pc := 55) rfl dX12_feed_55 ?_
      refine G_iast (pc := 56) (jj := 3) (by decide) rfl (by unfold vp_in; decide) dX12_feed_56 ?_
      refine G_aload_n (pc := 57) rfl dX12_feed_57 ?_
      refine G_dup (pc := 58) rfl dX12_feed_58 ?_
      refine G_getI (pc := 59) (v := 3) (ci := 12) (j := 6) rfl rfl lk_RX12_126 rfl rfl dX12_feed_59 ?_
      refine G_iconst (pc := 62) (v := 1) (by decide) dX12_feed_62 ?_
      refine G_iadd (pc := 63) (z := 4) (by decide) dX12_feed_63 ?_
      refine G_putI (pc := 64) (ci := 12) (j := 6) rfl lk_RX12_126 rfl rfl rfl trivial dX12_feed_64 ?_
      refine G_iinc (pc := 67) (v := 1) (w := 4) (L1 := [some (.ref 67), some (.long eight), none, some (.int 5), some (.int 4)]) (by decide) rfl rfl (by decide) rfl (by decide) dX12_feed_67 ?_
      refine G_goto (pc := 70) (tgt := 30) (by decide) dX12_feed_70 ?_
      refine G_iload (pc := 30) rfl dX12_feed_30 ?_
      refine G_iload_n (pc := 32) rfl dX12_feed_32 ?_
      refine G_icmp_ge (pc := 33) (tgt := 73) (by decide) dX12_feed_33 (fun z => absurd z (by decide)) (fun _ => ?_)
      refine G_aload_n (pc := 36) rfl dX12_feed_36 ?_
      refine G_getR (pc := 37) (r := 72) (ci := 12) (j := 5) rfl lk_RX12_22 rfl rfl rfl dX12_feed_37 ?_
      refine G_aload_n (pc := 40) rfl dX12_feed_40 ?_
      refine G_getI (pc := 41) (v := 4) (ci := 12) (j := 6) rfl rfl lk_RX12_126 rfl rfl dX12_feed_41 ?_
      refine G_lload_n (pc := 44) rfl dX12_feed_44 ?_
      refine G_bipush (pc := 45) (v := 8) (by decide) dX12_feed_45 ?_
      refine G_iload (pc := 47) rfl dX12_feed_47 ?_
      refine G_imul (pc := 49) (z := 32) (by decide) dX12_feed_49 ?_
      refine G_lshr (pc := 50) rfl dX12_feed_50 ?_
      refine G_ldc2w (pc := 51) (v := 255) cl_RX12_190 dX12_feed_51 ?_
      refine G_land (pc := 54) rfl dX12_feed_54 ?_
      refine G_l2i (pc := 55) rfl dX12_feed_55 ?_
      refine G_iast (pc := 56) (jj := 4) (by decide) rfl (by unfold vp_in; decide) dX12_feed_56 ?_
      refine G_aload_n (pc := 57) rfl dX12_feed_57 ?_
      refine G_dup (pc := 58) rfl dX12_feed_58 ?_
      refine G_getI (pc := 59) (v := 4) (ci := 12) (j := 6) rfl rfl lk_RX12_126 rfl rfl dX12_feed_59 ?_
      refine G_iconst (pc := 62) (v := 1) (by decide) dX12_feed_62 ?_
      refine G_iadd (pc := 63) (z := 5) (by decide) dX12_feed_63 ?_
      refine G_putI (pc := 64) (ci := 12) (j := 6) rfl lk_RX12_126 rfl rfl rfl trivial dX12_feed_64 ?_
      refine G_iinc (pc := 67) (v := 1) (w := 5) (L1 := [some (.ref 67), some (.long eight), none, some (.int 5), some (.int 5)]) (by decide) rfl rfl (by decide) rfl (by decide) dX12_feed_67 ?_
      refine G_goto (pc := 70) (tgt := 30) (by decide) dX12_feed_70 ?_
      refine G_iload (pc := 30) rfl dX12_feed_30 ?_
      refine G_iload_n (pc := 32) rfl dX12_feed_32 ?_
      refine G_icmp_ge (pc := 33) (tgt := 73) (by decide) dX12_feed_33 (fun _ => ?_) (fun z => absurd (by decide) z)
      refine G_aload_n (pc := 73) rfl dX12_feed_73 ?_
      refine G_getI (pc := 74) (v := 5) (ci := 12) (j := 6) rfl rfl lk_RX12_126 rfl rfl dX12_feed_74 ?_
      exact G_iret (pc := 77) (Nat.le_of_ble_eq_true rfl) (Nat.le_of_ble_eq_true rfl) rfl dX12_feed_77 (by first | rfl | (simp [F_feed, *]; done) | (simp only [F_feed, Int32.le_iff_toInt_le, Int32.lt_iff_toInt_lt, ← Int32.toInt_inj]; simp; omega) | (simp only [F_feed, Int32.le_iff_toInt_le, Int32.lt_iff_toInt_lt, ← Int32.toInt_inj]; split <;> first | rfl | (exfalso; simp at *; omega)) | (unfold F_feed; (repeat' split) <;> first | rfl | (exfalso; (try simp only [Int32.le_iff_toInt_le, Int32.lt_iff_toInt_lt, ← Int32.toInt_inj] at *); first | omega | (simp at *; done) | (simp at *; omega))))
    by_cases c225 : n = 6
    · subst c225
      refine G_iadd (pc := 17) (z := 6) (by decide) dX12_feed_17 ?_
      refine G_sipush (pc := 18) (v := 200) (by decide) dX12_feed_18 ?_
      refine G_icmp_le (pc := 21) (tgt := 27) (by decide) dX12_feed_21 (fun _ => ?_) (fun z => absurd (by decide) z)
      refine G_iconst (pc := 27) (v := 0) (by decide) dX12_feed_27 ?_
      refine G_istore (pc := 28) (L1 := [some (.ref 67), some (.long eight), none, some (.int 6), some (.int 0)]) rfl rfl (by decide) dX12_feed_28 ?_
      refine G_iload (pc := 30) rfl dX12_feed_30 ?_
      refine G_iload_n (pc := 32) rfl dX12_feed_32 ?_
      refine G_icmp_ge (pc := 33) (tgt := 73) (by decide) dX12_feed_33 (fun z => absurd z (by decide)) (fun _ => ?_)
      refine G_aload_n (pc := 36) rfl dX12_feed_36 ?_
      refine G_getR (pc := 37) (r := 72) (ci := 12) (j := 5) rfl lk_RX12_22 rfl rfl rfl dX12_feed_37 ?_
      refine G_aload_n (pc := 40) rfl dX12_feed_40 ?_
      refine G_getI (pc := 41) (v := 0) (ci := 12) (j := 6) rfl rfl lk_RX12_126 rfl rfl dX12_feed_41 ?_
      refine G_lload_n (pc := 44) rfl dX12_feed_44 ?_
      refine G_bipush (pc := 45) (v := 8) (by decide) dX12_feed_45 ?_
      refine G_iload (pc := 47) rfl dX12_feed_47 ?_
      refine G_imul (pc := 49) (z := 0) (by decide) dX12_feed_49 ?_
      refine G_lshr (pc := 50) rfl dX12_feed_50 ?_
      refine G_ldc2w (pc := 51) (v := 255) cl_RX12_190 dX12_feed_51 ?_
      refine G_land (pc := 54) rfl dX12_feed_54 ?_
      refine G_l2i (pc := 55) rfl dX12_feed_55 ?_
      refine G_iast (pc := 56) (jj := 0) (by decide) rfl (by unfold vp_in; decide) dX12_feed_56 ?_
      refine G_aload_n (pc := 57) rfl dX12_feed_57 ?_
      refine G_dup (pc := 58) rfl dX12_feed_58 ?_
      refine G_getI (pc := 59) (v := 0) (ci := 12) (j := 6) rfl rfl lk_RX12_126 rfl rfl dX12_feed_59 ?_
      refine G_iconst (pc := 62) (v := 1) (by decide) dX12_feed_62 ?_
      refine G_iadd (pc := 63) (z := 1) (by decide) dX12_feed_63 ?_
      refine G_putI (pc := 64) (ci := 12) (j := 6) rfl lk_RX12_126 rfl rfl rfl trivial dX12_feed_64 ?_
      refine G_iinc (pc := 67) (v := 1) (w := 1) (L1 := [some (.ref 67), some (.long eight), none, some (.int 6), some (.int 1)]) (by decide) rfl rfl (by decide) rfl (by decide) dX12_feed_67 ?_
      refine G_goto (pc := 70) (tgt := 30) (by decide) dX12_feed_70 ?_
      refine G_iload (pc := 30) rfl dX12_feed_30 ?_
      refine G_iload_n (pc := 32) rfl dX12_feed_32 ?_
      refine G_icmp_ge (pc := 33) (tgt := 73) (by decide) dX12_feed_33 (fun z => absurd z (by decide)) (fun _ => ?_)
      refine G_aload_n (pc := 36) rfl dX12_feed_36 ?_
      refine G_getR (pc := 37) (r := 72) (ci := 12) (j := 5) rfl lk_RX12_22 rfl rfl rfl dX12_feed_37 ?_
      refine G_aload_n (pc := 40) rfl dX12_feed_40 ?_
      refine G_getI (pc := 41) (v := 1) (ci := 12) (j := 6) rfl rfl lk_RX12_126 rfl rfl dX12_feed_41 ?_
      refine G_lload_n (pc := 44) rfl dX12_feed_44 ?_
      refine G_bipush (pc := 45) (v := 8) (by decide) dX12_feed_45 ?_
      refine G_iload (pc := 47) rfl dX12_feed_47 ?_
      refine G_imul (pc := 49) (z := 8) (by decide) dX12_feed_49 ?_
      refine G_lshr (pc := 50) rfl dX12_feed_50 ?_
      refine G_ldc2w (pc := 51) (v := 255) cl_RX12_190 dX12_feed_51 ?_
      refine G_land (pc := 54) rfl dX12_feed_54 ?_
      refine G_l2i (pc := 55) rfl dX12_feed_55 ?_
      refine G_iast (pc := 56) (jj := 1) (by decide) rfl (by unfold vp_in; decide) dX12_feed_56 ?_
      refine G_aload_n (pc := 57) rfl dX12_feed_57 ?_
      refine G_dup (pc := 58) rfl dX12_feed_58 ?_
      refine G_getI (pc := 59) (v := 1) (ci := 12) (j := 6) rfl rfl lk_RX12_126 rfl rfl dX12_feed_59 ?_
      refine G_iconst (pc := 62) (v := 1) (by decide) dX12_feed_62 ?_
      refine G_iadd (pc := 63) (z := 2) (by decide) dX12_feed_63 ?_
      refine G_putI (pc := 64) (ci := 12) (j := 6) rfl lk_RX12_126 rfl rfl rfl trivial dX12_feed_64 ?_
      refine G_iinc (pc := 67) (v := 1) (w := 2) (L1 := [some (.ref 67), some (.long eight), none, some (.int 6), some (.int 2)]) (by decide) rfl rfl (by decide) rfl (by decide) dX12_feed_67 ?_
      refine G_goto (pc := 70) (tgt := 30) (by decide) dX12_feed_70 ?_
      refine G_iload (pc := 30) rfl dX12_feed_30 ?_
      refine G_iload_n (pc := 32) rfl dX12_feed_32 ?_
      refine G_icmp_ge (pc := 33) (tgt := 73) (by decide) dX12_feed_33 (fun z => absurd z (by decide)) (fun _ => ?_)
      refine G_aload_n (pc := 36) rfl dX12_feed_36 ?_
      refine G_getR (pc := 37) (r := 72) (ci := 12) (j := 5) rfl lk_RX12_22 rfl rfl rfl dX12_feed_37 ?_
      refine G_aload_n (pc := 40) rfl dX12_feed_40 ?_
      refine G_getI (pc := 41) (v := 2) (ci := 12) (j := 6) rfl rfl lk_RX12_126 rfl rfl dX12_feed_41 ?_
      refine G_lload_n (pc := 44) rfl dX12_feed_44 ?_
      refine G_bipush (pc := 45) (v := 8) (by decide) dX12_feed_45 ?_
      refine G_iload (pc := 47) rfl dX12_feed_47 ?_
      refine G_imul (pc := 49) (z := 16) (by decide) dX12_feed_49 ?_
      refine G_lshr (pc := 50) rfl dX12_feed_50 ?_
      refine G_ldc2w (pc := 51) (v := 255) cl_RX12_190 dX12_feed_51 ?_
      refine G_land (pc := 54) rfl dX12_feed_54 ?_
      refine G_l2i (pc := 55) rfl dX12_feed_55 ?_
      refine G_iast (pc := 56) (jj := 2) (by decide) rfl (by unfold vp_in; decide) dX12_feed_56 ?_
      refine G_aload_n (pc := 57) rfl dX12_feed_57 ?_
      refine G_dup (pc := 58) rfl dX12_feed_58 ?_
      refine G_getI (pc := 59) (v := 2) (ci := 12) (j := 6) rfl rfl lk_RX12_126 rfl rfl dX12_feed_59 ?_
      refine G_iconst (pc := 62) (v := 1) (by decide) dX12_feed_62 ?_
      refine G_iadd (pc := 63) (z := 3) (by decide) dX12_feed_63 ?_
      refine G_putI (pc := 64) (ci := 12) (j := 6) rfl lk_RX12_126 rfl rfl rfl trivial dX12_feed_64 ?_
      refine G_iinc (pc := 67) (v := 1) (w := 3) (L1 := [some (.ref 67), some (.long eight), none, some (.int 6), some (.int 3)]) (by decide) rfl rfl (by decide) rfl (by decide) dX12_feed_67 ?_
      refine G_goto (pc := 70) (tgt := 30) (by decide) dX12_feed_70 ?_
      refine G_iload (pc := 30) rfl dX12_feed_30 ?_
      refine G_iload_n (pc := 32) rfl dX12_feed_32 ?_
      refine G_icmp_ge (pc := 33) (tgt := 73) (by decide) dX12_feed_33 (fun z => absurd z (by decide)) (fun _ => ?_)
      refine G_aload_n (pc := 36) rfl dX12_feed_36 ?_
      refine G_getR (pc := 37) (r := 72) (ci := 12) (j := 5) rfl lk_RX12_22 rfl rfl rfl dX12_feed_37 ?_
      refine G_aload_n (pc := 40) rfl dX12_feed_40 ?_
      refine G_getI (pc := 41) (v := 3) (ci := 12) (j := 6) rfl rfl lk_RX12_126 rfl rfl dX12_feed_41 ?_
      refine G_lload_n (pc := 44) rfl dX12_feed_44 ?_
      refine G_bipush (pc := 45) (v := 8) (by decide) dX12_feed_45 ?_
      refine G_iload (pc := 47) rfl dX12_feed_47 ?_
      refine G_imul (pc := 49) (z := 24) (by decide) dX12_feed_49 ?_
      refine G_lshr (pc := 50) rfl dX12_feed_50 ?_
      refine G_ldc2w (pc := 51) (v := 255) cl_RX12_190 dX12_feed_51 ?_
      refine G_land (pc := 54) rfl dX12_feed_54 ?_
      refine G_l2i (pc := 55) rfl dX12_feed_55 ?_
      refine G_iast (pc := 56) (jj := 3) (by decide) rfl (by unfold vp_in; decide) dX12_feed_56 ?_
      refine G_aload_n (pc := 57) rfl dX12_feed_57 ?_
      refine G_dup (pc := 58) rfl dX12_feed_58 ?_
      refine G_getI (pc := 59) (v := 3) (ci := 12) (j := 6) rfl rfl lk_RX12_126 rfl rfl dX12_feed_59 ?_
      refine G_iconst (pc := 62) (v := 1) (by decide) dX12_feed_62 ?_
      refine G_iadd (pc := 63) (z := 4) (by decide) dX12_feed_63 ?_
      refine G_putI (pc := 64) (ci := 12) (j := 6) rfl lk_RX12_126 rfl rfl rfl trivial dX12_feed_64 ?_
      refine G_iinc (pc := 67) (v := 1) (w := 4) (L1 := [some (.ref 67), some (.long eight), none, some (.int 6), some (.int 4)]) (by decide) rfl rfl (by decide) rfl (by decide) dX12_feed_67 ?_
      refine G_goto (pc := 70) (tgt := 30) (by decide) dX12_feed_70 ?_
      refine G_iload (pc := 30) rfl dX12_feed_30 ?_
      refine G_iload_n (pc := 32) rfl dX12_feed_32 ?_
      refine G_icmp_ge (pc := 33) (tgt := 73) (by decide) dX12_feed_33 (fun z => absurd z (by decide)) (fun _ => ?_)
      refine G_aload_n (pc := 36) rfl dX12_feed_36 ?_
      refine G_getR (pc := 37) (r := 72) (ci := 12) (j := 5) rfl lk_RX12_22 rfl rfl rfl dX12_feed_37 ?_
      refine G_aload_n (pc := 40) rfl dX12_feed_40 ?_
      refine G_getI (pc := 41) (v := 4) (ci := 12) (j := 6) rfl rfl lk_RX12_126 rfl rfl dX12_feed_41 ?_
      refine G_lload_n (pc := 44) rfl dX12_feed_44 ?_
      refine G_bipush (pc := 45) (v := 8) (by decide) dX12_feed_45 ?_
      refine G_iload (pc := 47) rfl dX12_feed_47 ?_
      refine G_imul (pc := 49) (z := 32) (by decide) dX12_feed_49 ?_
      refine G_lshr (pc := 50) rfl dX12_feed_50 ?_
      refine G_ldc2w (pc := 51) (v := 255) cl_RX12_190 dX12_feed_51 ?_
      refine G_land (pc := 54) rfl dX12_feed_54 ?_
      refine G_l2i (pc := 55) rfl dX12_feed_55 ?_
      refine G_iast (pc := 56) (jj := 4) (by decide) rfl (by unfold vp_in; decide) dX12_feed_56 ?_
      refine G_aload_n (pc := 57) rfl dX12_feed_57 ?_
      refine G_dup (pc := 58) rfl dX12_feed_58 ?_
      refine G_getI (pc := 59) (v := 4) (ci := 12) (j := 6) rfl rfl lk_RX12_126 rfl rfl dX12_feed_59 ?_
      refine G_iconst (pc := 62) (v := 1) (by decide) dX12_feed_62 ?_
      refine G_iadd (pc := 63) (z := 5) (by decide) dX12_feed_63 ?_
      refine G_putI (pc := 64) (ci := 12) (j := 6) rfl lk_RX12_126 rfl rfl rfl trivial dX12_feed_64 ?_
      refine G_iinc (pc := 67) (v := 1) (w := 5) (L1 := [some (.ref 67), some (.long eight), none, some (.int 6), some (.int 5)]) (by decide) rfl rfl (by decide) rfl (by decide) dX12_feed_67 ?_
      refine G_goto (pc := 70) (tgt := 30) (by decide) dX12_feed_70 ?_
      refine G_iload (pc := 30) rfl dX12_feed_30 ?_
      refine G_iload_n (pc := 32) rfl dX12_feed_32 ?_
      refine G_icmp_ge (pc := 33) (tgt := 73) (by decide) dX12_feed_33 (fun z => absurd z (by decide)) (fun _ => ?_)
      refine G_aload_n (pc := 36) rfl dX12_feed_36 ?_
      refine G_getR (pc := 37) (r := 72) (ci := 12) (j := 5) rfl lk_RX12_22 rfl rfl rfl dX12_feed_37 ?_
      refine G_aload_n (pc := 40) rfl dX12_feed_40 ?_
      refine G_getI (pc := 41) (v := 5) (ci := 12) (j := 6) rfl rfl lk_RX12_126 rfl rfl dX12_feed_41 ?_
      refine G_lload_n (pc := 44) rfl dX12_feed_44 ?_
      refine G_bipush (pc := 45) (v := 8) (by decide) dX12_feed_45 ?_
      refine G_iload (pc := 47) rfl dX12_feed_47 ?_
      refine G_imul (pc := 49) (z := 40) (by decide) dX12_feed_49 ?_
      refine G_lshr (pc := 50) rfl dX12_feed_50 ?_
      refine G_ldc2w (pc := 51) (v := 255) cl_RX12_190 dX12_feed_51 ?_
      refine G_land (pc := 54) rfl dX12_feed_54 ?_
      refine G_l2i (pc := 55) rfl dX12_feed_55 ?_
      refine G_iast (pc := 56) (jj := 5) (by decide) rfl (by unfold vp_in; decide) dX12_feed_56 ?_
      refine G_aload_n (pc := 57) rfl dX12_feed_57 ?_
      refine G_dup (pc := 58) rfl dX12_feed_58 ?_
      refine G_getI (pc := 59) (v := 5) (ci := 12) (j := 6) rfl rfl lk_RX12_126 rfl rfl dX12_feed_59 ?_
      refine G_iconst (pc := 62) (v := 1) (by decide) dX12_feed_62 ?_
      refine G_iadd (pc := 63) (z := 6) (by decide) dX12_feed_63 ?_
      refine G_putI (pc := 64) (ci := 12) (j := 6) rfl lk_RX12_126 rfl rfl rfl trivial dX12_feed_64 ?_
      refine G_iinc (pc := 67) (v := 1) (w := 6) (L1 := [some (.ref 67), some (.long eight), none, some (.int 6), some (.int 6)]) (by decide) rfl rfl (by decide) rfl (by decide) dX12_feed_67 ?_
      refine G_goto (pc := 70) (tgt := 30) (by decide) dX12_feed_70 ?_
      refine G_iload (pc := 30) rfl dX12_feed_30 ?_
      refine G_iload_n (pc := 32) rfl dX12_feed_32 ?_
      refine G_icmp_ge (pc := 33) (tgt := 73) (by decide) dX12_feed_33 (fun _ => ?_) (fun z => absurd (by decide) z)
      refine G_aload_n (pc := 73) rfl dX12_feed_73 ?_
      refine G_getI (pc := 74) (v := 6) (ci := 12) (j := 6) rfl rfl lk_RX12_126 rfl rfl dX12_feed_74 ?_
      exact G_iret (pc := 77) (Nat.le_of_ble_eq_true rfl) (Nat.le_of_ble_eq_true rfl) rfl dX12_feed_77 (by first | rfl | (simp [F_feed, *]; done) | (simp only [F_feed, Int32.le_iff_toInt_le, Int32.lt_iff_toInt_lt, ← Int32.toInt_inj]; simp; omega) | (simp only [F_feed, Int32.le_iff_toInt_le, Int32.lt_iff_toInt_lt, ← Int32.toInt_inj]; split <;> first | rfl | (exfalso; simp at *; omega)) | (unfold F_feed; (repeat' split) <;> first | rfl | (exfalso; (try simp only [Int32.le_iff_toInt_le, Int32.lt_iff_toInt_lt, ← Int32.toInt_inj] at *); first | omega | (simp at *; done) | (simp at *; omega))))
    by_cases c226 : n = 7
    · subst c226
      refine G_iadd (pc := 17) (z := 7) (by decide) dX12_feed_17 ?_
      refine G_sipush (pc := 18) (v := 200) (by decide) dX12_feed_18 ?_
      refine G_icmp_le (pc := 21) (tgt := 27) (by decide) dX12_feed_21 (fun _ => ?_) (fun z => absurd (by decide) z)
      refine G_iconst (pc := 27) (v := 0) (by decide) dX12_feed_27 ?_
      refine G_istore (pc := 28) (L1 := [some (.ref 67), some (.long eight), none, some (.int 7), some (.int 0)]) rfl rfl (by decide) dX12_feed_28 ?_
      refine G_iload (pc := 30) rfl dX12_feed_30 ?_
      refine G_iload_n (pc := 32) rfl dX12_feed_32 ?_
      refine G_icmp_ge (pc := 33) (tgt := 73) (by decide) dX12_feed_33 (fun z => absurd z (by decide)) (fun _ => ?_)
      refine G_aload_n (pc := 36) rfl dX12_feed_36 ?_
      refine G_getR (pc := 37) (r := 72) (ci := 12) (j := 5) rfl lk_RX12_22 rfl rfl rfl dX12_feed_37 ?_
      refine G_aload_n (pc := 40) rfl dX12_feed_40 ?_
      refine G_getI (pc := 41) (v := 0) (ci := 12) (j := 6) rfl rfl lk_RX12_126 rfl rfl dX12_feed_41 ?_
      refine G_lload_n (pc := 44) rfl dX12_feed_44 ?_
      refine G_bipush (pc := 45) (v := 8) (by decide) dX12_feed_45 ?_
      refine G_iload (pc := 47) rfl dX12_feed_47 ?_
      refine G_imul (pc := 49) (z := 0) (by decide) dX12_feed_49 ?_
      refine G_lshr (pc := 50) rfl dX12_feed_50 ?_
      refine G_ldc2w (pc := 51) (v := 255) cl_RX12_190 dX12_feed_51 ?_
      refine G_land (pc := 54) rfl dX12_feed_54 ?_
      refine G_l2i (pc := 55) rfl dX12_feed_55 ?_
      refine G_iast (pc := 56) (jj := 0) (by decide) rfl (by unfold vp_in; decide) dX12_feed_56 ?_
      refine G_aload_n (pc := 57) rfl dX12_feed_57 ?_
      refine G_dup (pc := 58) rfl dX12_feed_58 ?_
      refine G_getI (pc := 59) (v := 0) (ci := 12) (j := 6) rfl rfl lk_RX12_126 rfl rfl dX12_feed_59 ?_
      refine G_iconst (pc := 62) (v := 1) (by decide) dX12_feed_62 ?_
      refine G_iadd (pc := 63) (z := 1) (by decide) dX12_feed_63 ?_
      refine G_putI (pc := 64) (ci := 12) (j := 6) rfl lk_RX12_126 rfl rfl rfl trivial dX12_feed_64 ?_
      refine G_iinc (pc := 67) (v := 1) (w := 1) (L1 := [some (.ref 67), some (.long eight), none, some (.int 7), some (.int 1)]) (by decide) rfl rfl (by decide) rfl (by decide) dX12_feed_67 ?_
      refine G_goto (pc := 70) (tgt := 30) (by decide) dX12_feed_70 ?_
      refine G_iload (pc := 30) rfl dX12_feed_30 ?_
      refine G_iload_n (pc := 32) rfl dX12_feed_32 ?_
      refine G_icmp_ge (pc := 33) (tgt := 73) (by decide) dX12_feed_33 (fun z => absurd z (by decide)) (fun _ => ?_)
      refine G_aload_n (pc := 36) rfl dX12_feed_36 ?_
      refine G_getR (pc := 37) (r := 72) (ci := 12) (j := 5) rfl lk_RX12_22 rfl rfl rfl dX12_feed_37 ?_
      refine G_aload_n (pc := 40) rfl dX12_feed_40 ?_
      refine G_getI (pc := 41) (v := 1) (ci := 12) (j := 6) rfl rfl lk_RX12_126 rfl rfl dX12_feed_41 ?_
      refine G_lload_n (pc := 44) rfl dX12_feed_44 ?_
      refine G_bipush (pc := 45) (v := 8) (by decide) dX12_feed_45 ?_
      refine G_iload (pc := 47) rfl dX12_feed_47 ?_
      refine G_imul (pc := 49) (z := 8) (by decide) dX12_feed_49 ?_
      refine G_lshr (pc := 50) rfl dX12_feed_50 ?_
      refine G_ldc2w (pc := 51) (v := 255) cl_RX12_190 dX12_feed_51 ?_
      refine G_land (pc := 54) rfl dX12_feed_54 ?_
      refine G_l2i (pc := 55) rfl dX12_feed_55 ?_
      refine G_iast (pc := 56) (jj := 1) (by decide) rfl (by unfold vp_in; decide) dX12_feed_56 ?_
      refine G_aload_n (pc := 57) rfl dX12_feed_57 ?_
      refine G_dup (pc := 58) rfl dX12_feed_58 ?_
      refine G_getI (pc := 59) (v := 1) (ci := 12) (j := 6) rfl rfl lk_RX12_126 rfl rfl dX12_feed_59 ?_
      refine G_iconst (pc := 62) (v := 1) (by decide) dX12_feed_62 ?_
      refine G_iadd (pc := 63) (z := 2) (by decide) dX12_feed_63 ?_
      refine G_putI (pc := 64) (ci := 12) (j := 6) rfl lk_RX12_126 rfl rfl rfl trivial dX12_feed_64 ?_
      refine G_iinc (pc := 67) (v := 1) (w := 2) (L1 := [some (.ref 67), some (.long eight), none, some (.int 7), some (.int 2)]) (by decide) rfl rfl (by decide) rfl (by decide) dX12_feed_67 ?_
      refine G_goto (pc := 70) (tgt := 30) (by decide) dX12_feed_70 ?_
      refine G_iload (pc := 30) rfl dX12_feed_30 ?_
      refine G_iload_n (pc := 32) rfl dX12_feed_32 ?_
      refine G_icmp_ge (pc := 33) (tgt := 73) (by decide) dX12_feed_33 (fun z => absurd z (by decide)) (fun _ => ?_)
      refine G_aload_n (pc := 36) rfl dX12_feed_36 ?_
      refine G_getR (pc := 37) (r := 72) (ci := 12) (j := 5) rfl lk_RX12_22 rfl rfl rfl dX12_feed_37 ?_
      refine G_aload_n (pc := 40) rfl dX12_feed_40 ?_
      refine G_getI (pc := 41) (v := 2) (ci := 12) (j := 6) rfl rfl lk_RX12_126 rfl rfl dX12_feed_41 ?_
      refine G_lload_n (pc := 44) rfl dX12_feed_44 ?_
      refine G_bipush (pc := 45) (v := 8) (by decide) dX12_feed_45 ?_
      refine G_iload (pc := 47) rfl dX12_feed_47 ?_
      refine G_imul (pc := 49) (z := 16) (by decide) dX12_feed_49 ?_
      refine G_lshr (pc := 50) rfl dX12_feed_50 ?_
      refine G_ldc2w (pc := 51) (v := 255) cl_RX12_190 dX12_feed_51 ?_
      refine G_land (pc := 54) rfl dX12_feed_54 ?_
      refine G_l2i (pc := 55) rfl dX12_feed_55 ?_
      refine G_iast (pc := 56) (jj := 2) (by decide) rfl (by unfold vp_in; decide) dX12_feed_56 ?_
      refine G_aload_n (pc := 57) rfl dX12_feed_57 ?_
      refine G_dup (pc := 58) rfl dX12_feed_58 ?_
      refine G_getI (pc := 59) (v := 2) (ci := 12) (j := 6) rfl rfl lk_RX12_126 rfl rfl dX12_feed_59 ?_
      refine G_iconst (pc := 62) (v := 1) (by decide) dX12_feed_62 ?_
      refine G_iadd (pc := 63) (z := 3) (by decide) dX12_feed_63 ?_
      refine G_putI (pc := 64) (ci := 12) (j := 6) rfl lk_RX12_126 rfl rfl rfl trivial dX12_feed_64 ?_
      refine G_iinc (pc := 67) (v := 1) (w := 3) (L1 := [some (.ref 67), some (.long eight), none, some (.int 7), some (.int 3)]) (by decide) rfl rfl (by decide) rfl (by decide) dX12_feed_67 ?_
      refine G_goto (pc := 70) (tgt := 30) (by decide) dX12_feed_70 ?_
      refine G_iload (pc := 30) rfl dX12_feed_30 ?_
      refine G_iload_n (pc := 32) rfl dX12_feed_32 ?_
      refine G_icmp_ge (pc := 33) (tgt := 73) (by decide) dX12_feed_33 (fun z => absurd z (by decide)) (fun _ => ?_)
      refine G_aload_n (pc := 36) rfl dX12_feed_36 ?_
      refine G_getR (pc := 37) (r := 72) (ci := 12) (j := 5) rfl lk_RX12_22 rfl rfl rfl dX12_feed_37 ?_
      refine G_aload_n (pc := 40) rfl dX12_feed_40 ?_
      refine G_getI (pc := 41) (v := 3) (ci := 12) (j := 6) rfl rfl lk_RX12_126 rfl rfl dX12_feed_41 ?_
      refine G_lload_n (pc := 44) rfl dX12_feed_44 ?_
      refine G_bipush (pc := 45) (v := 8) (by decide) dX12_feed_45 ?_
      refine G_iload (pc := 47) rfl dX12_feed_47 ?_
      refine G_imul (pc := 49) (z := 24) (by decide) dX12_feed_49 ?_
      refine G_lshr (pc := 50) rfl dX12_feed_50 ?_
      refine G_ldc2w (pc := 51) (v := 255) cl_RX12_190 dX12_feed_51 ?_
      refine G_land (pc := 54) rfl dX12_feed_54 ?_
      refine G_l2i (pc := 55) rfl dX12_feed_55 ?_
      refine G_iast (pc := 56) (jj := 3) (by decide) rfl (by unfold vp_in; decide) dX12_feed_56 ?_
      refine G_aload_n (pc := 57) rfl dX12_feed_57 ?_
      refine G_dup (pc := 58) rfl dX12_feed_58 ?_
      refine G_getI (pc := 59) (v := 3) (ci := 12) (j := 6) rfl rfl lk_RX12_126 rfl rfl dX12_feed_59 ?_
      refine G_iconst (pc := 62) (v := 1) (by decide) dX12_feed_62 ?_
      refine G_iadd (pc := 63) (z := 4) (by decide) dX12_feed_63 ?_
      refine G_putI (pc := 64) (ci := 12) (j := 6) rfl lk_RX12_126 rfl rfl rfl trivial dX12_feed_64 ?_
      refine G_iinc (pc := 67) (v := 1) (w := 4) (L1 := [some (.ref 67), some (.long eight), none, some (.int 7), some (.int 4)]) (by decide) rfl rfl (by decide) rfl (by decide) dX12_feed_67 ?_
      refine G_goto (pc := 70) (tgt := 30) (by decide) dX12_feed_70 ?_
      refine G_iload (pc := 30) rfl dX12_feed_30 ?_
      refine G_iload_n (pc := 32) rfl dX12_feed_32 ?_
      refine G_icmp_ge (pc := 33) (tgt := 73) (by decide) dX12_feed_33 (fun z => absurd z (by decide)) (fun _ => ?_)
      refine G_aload_n (pc := 36) rfl dX12_feed_36 ?_
      refine G_getR (pc := 37) (r := 72) (ci := 12) (j := 5) rfl lk_RX12_22 rfl rfl rfl dX12_feed_37 ?_
      refine G_aload_n (pc := 40) rfl dX12_feed_40 ?_
      refine G_getI (pc := 41) (v := 4) (ci := 12) (j := 6) rfl rfl lk_RX12_126 rfl rfl dX12_feed_41 ?_
      refine G_lload_n (pc := 44) rfl dX12_feed_44 ?_
      refine G_bipush (pc := 45) (v := 8) (by decide) dX12_feed_45 ?_
      refine G_iload (pc := 47) rfl dX12_feed_47 ?_
      refine G_imul (pc := 49) (z := 32) (by decide) dX12_feed_49 ?_
      refine G_lshr (pc := 50) rfl dX12_feed_50 ?_
      refine G_ldc2w (pc := 51) (v := 255) cl_RX12_190 dX12_feed_51 ?_
      refine G_land (pc := 54) rfl dX12_feed_54 ?_
      refine G_l2i (pc := 55) rfl dX12_feed_55 ?_
      refine G_iast (pc := 56) (jj := 4) (by decide) rfl (by unfold vp_in; decide) dX12_feed_56 ?_
      refine G_aload_n (pc := 57) rfl dX12_feed_57 ?_
      refine G_dup (pc := 58) rfl dX12_feed_58 ?_
      refine G_getI (pc := 59) (v := 4) (ci := 12) (j := 6) rfl rfl lk_RX12_126 rfl rfl dX12_feed_59 ?_
      refine G_iconst (pc := 62) (v := 1) (by decide) dX12_feed_62 ?_
      refine G_iadd (pc := 63) (z := 5) (by decide) dX12_feed_63 ?_
      refine G_putI (pc := 64) (ci := 12) (j := 6) rfl lk_RX12_126 rfl rfl rfl trivial dX12_feed_64 ?_
      refine G_iinc (pc := 67) (v := 1) (w := 5) (L1 := [some (.ref 67), some (.long eight), none, some (.int 7), some (.int 5)]) (by decide) rfl rfl (by decide) rfl (by decide) dX12_feed_67 ?_
      refine G_goto (pc := 70) (tgt := 30) (by decide) dX12_feed_70 ?_
      refine G_iload (pc := 30) rfl dX12_feed_30 ?_
      refine G_iload_n (pc := 32) rfl dX12_feed_32 ?_
      refine G_icmp_ge (pc := 33) (tgt := 73) (by decide) dX12_feed_33 (fun z => absurd z (by decide)) (fun _ => ?_)
      refine G_aload_n (pc := 36) rfl dX12_feed_36 ?_
      refine G_getR (pc := 37) (r := 72) (ci := 12) (j := 5) rfl lk_RX12_22 rfl rfl rfl dX12_feed_37 ?_
      refine G_aload_n (pc := 40) rfl dX12_feed_40 ?_
      refine G_getI (pc := 41) (v := 5) (ci := 12) (j := 6) rfl rfl lk_RX12_126 rfl rfl dX12_feed_41 ?_
      refine G_lload_n (pc := 44) rfl dX12_feed_44 ?_
      refine G_bipush (pc := 45) (v := 8) (by decide) dX12_feed_45 ?_
      refine G_iload (pc := 47) rfl dX12_feed_47 ?_
      refine G_imul (pc := 49) (z := 40) (by decide) dX12_feed_49 ?_
      refine G_lshr (pc := 50) rfl dX12_feed_50 ?_
      refine G_ldc2w (pc := 51) (v := 255) cl_RX12_190 dX12_feed_51 ?_
      refine G_land (pc := 54) rfl dX12_feed_54 ?_
      refine G_l2i (pc := 55) rfl dX12_feed_55 ?_
      refine G_iast (pc := 56) (jj := 5) (by decide) rfl (by unfold vp_in; decide) dX12_feed_56 ?_
      refine G_aload_n (pc := 57) rfl dX12_feed_57 ?_
      refine G_dup (pc := 58) rfl dX12_feed_58 ?_
      refine G_getI (pc := 59) (v := 5) (ci := 12) (j := 6) rfl rfl lk_RX12_126 rfl rfl dX12_feed_59 ?_
      refine G_iconst (pc := 62) (v := 1) (by decide) dX12_feed_62 ?_
      refine G_iadd (pc := 63) (z := 6) (by decide) dX12_feed_63 ?_
      refine G_putI (pc := 64) (ci := 12) (j := 6) rfl lk_RX12_126 rfl rfl rfl trivial dX12_feed_64 ?_
      refine G_iinc (pc := 67) (v := 1) (w := 6) (L1 := [some (.ref 67), some (.long eight), none, some (.int 7), some (.int 6)]) (by decide) rfl rfl (by decide) rfl (by decide) dX12_feed_67 ?_
      refine G_goto (pc := 70) (tgt := 30) (by decide) dX12_feed_70 ?_
      refine G_iload (pc := 30) rfl dX12_feed_30 ?_
      refine G_iload_n (pc := 32) rfl dX12_feed_32 ?_
      refine G_icmp_ge (pc := 33) (tgt := 73) (by decide) dX12_feed_33 (fun z => absurd z (by decide)) (fun _ => ?_)
      refine G_aload_n (pc := 36) rfl dX12_feed_36 ?_
      refine G_getR (pc := 37) (r := 72) (ci := 12) (j := 5) rfl lk_RX12_22 rfl rfl rfl dX12_feed_37 ?_
      refine G_aload_n (pc := 40) rfl dX12_feed_40 ?_
      refine G_getI (pc := 41) (v := 6) (ci := 12) (j := 6) rfl rfl lk_RX12_126 rfl rfl dX12_feed_41 ?_
      refine G_lload_n (pc := 44) rfl dX12_feed_44 ?_
      refine G_bipush (pc := 45) (v := 8) (by decide) dX12_feed_45 ?_
      refine G_iload (pc := 47) rfl dX12_feed_47 ?_
      refine G_imul (pc := 49) (z := 48) (by decide) dX12_feed_49 ?_
      refine G_lshr (pc := 50) rfl dX12_feed_50 ?_
      refine G_ldc2w (pc := 51) (v := 255) cl_RX12_190 dX12_feed_51 ?_
      refine G_land (pc := 54) rfl dX12_feed_54 ?_
      refine G_l2i (pc := 55) rfl dX12_feed_55 ?_
      refine G_iast (pc := 56) (jj := 6) (by decide) rfl (by unfold vp_in; decide) dX12_feed_56 ?_
      refine G_aload_n (pc := 57) rfl dX12_feed_57 ?_
      refine G_dup (pc := 58) rfl dX12_feed_58 ?_
      refine G_getI (pc := 59) (v := 6) (ci := 12) (j := 6) rfl rfl lk_RX12_126 rfl rfl dX12_feed_59 ?_
      refine G_iconst (pc := 62) (v := 1) (by decide) dX12_feed_62 ?_
      refine G_iadd (pc := 63) (z := 7) (by decide) dX12_feed_63 ?_
      refine G_putI (pc := 64) (ci := 12) (j := 6) rfl lk_RX12_126 rfl rfl rfl trivial dX12_feed_64 ?_
      refine G_iinc (pc := 67) (v := 1) (w := 7) (L1 := [some (.ref 67), some (.long eight), none, some (.int 7), some (.int 7)]) (by decide) rfl rfl (by decide) rfl (by decide) dX12_feed_67 ?_
      refine G_goto (pc := 70) (tgt := 30) (by decide) dX12_feed_70 ?_
      refine G_iload (pc := 30) rfl dX12_feed_30 ?_
      refine G_iload_n (pc := 32) rfl dX12_feed_32 ?_
      refine G_icmp_ge (pc := 33) (tgt := 73) (by decide) dX12_feed_33 (fun _ => ?_) (fun z => absurd (by decide) z)
      refine G_aload_n (pc := 73) rfl dX12_feed_73 ?_
      refine G_getI (pc := 74) (v := 7) (ci := 12) (j := 6) rfl rfl lk_RX12_126 rfl rfl dX12_feed_74 ?_
      exact G_iret (pc := 77) (Nat.le_of_ble_eq_true rfl) (Nat.le_of_ble_eq_true rfl) rfl dX12_feed_77 (by first | rfl | (simp [F_feed, *]; done) | (simp only [F_feed, Int32.le_iff_toInt_le, Int32.lt_iff_toInt_lt, ← Int32.toInt_inj]; simp; omega) | (simp only [F_feed, Int32.le_iff_toInt_le, Int32.lt_iff_toInt_lt, ← Int32.toInt_inj]; split <;> first | rfl | (exfalso; simp at *; omega)) | (unfold F_feed; (repeat' split) <;> first | rfl | (exfalso; (try simp only [Int32.le_iff_toInt_le, Int32.lt_iff_toInt_lt, ← Int32.toInt_inj] at *); first | omega | (simp at *; done) | (simp at *; omega))))
    by_cases c227 : n = 8
    · subst c227
      refine G_iadd (pc := 17) (z := 8) (by decide) dX12_feed_17 ?_
      refine G_sipush (pc := 18) (v := 200) (by decide) dX12_feed_18 ?_
      refine G_icmp_le (pc := 21) (tgt := 27) (by decide) dX12_feed_21 (fun _ => ?_) (fun z => absurd (by decide) z)
      refine G_iconst (pc := 27) (v := 0) (by decide) dX12_feed_27 ?_
      refine G_istore (pc := 28) (L1 := [some (.ref 67), some (.long eight), none, some (.int 8), some (.int 0)]) rfl rfl (by decide) dX12_feed_28 ?_
      refine G_iload (pc := 30) rfl dX12_feed_30 ?_
      refine G_iload_n (pc := 32) rfl dX12_feed_32 ?_
      refine G_icmp_ge (pc := 33) (tgt := 73) (by decide) dX12_feed_33 (fun z => absurd z (by decide)) (fun _ => ?_)
      refine G_aload_n (pc := 36) rfl dX12_feed_36 ?_
      refine G_getR (pc := 37) (r := 72) (ci := 12) (j := 5) rfl lk_RX12_22 rfl rfl rfl dX12_feed_37 ?_
      refine G_aload_n (pc := 40) rfl dX12_feed_40 ?_
      refine G_getI (pc := 41) (v := 0) (ci := 12) (j := 6) rfl rfl lk_RX12_126 rfl rfl dX12_feed_41 ?_
      refine G_lload_n (pc := 44) rfl dX12_feed_44 ?_
      refine G_bipush (pc := 45) (v := 8) (by decide) dX12_feed_45 ?_
      refine G_iload (pc := 47) rfl dX12_feed_47 ?_
      refine G_imul (pc := 49) (z := 0) (by decide) dX12_feed_49 ?_
      refine G_lshr (pc := 50) rfl dX12_feed_50 ?_
      refine G_ldc2w (pc := 51) (v := 255) cl_RX12_190 dX12_feed_51 ?_
      refine G_land (pc := 54) rfl dX12_feed_54 ?_
      refine G_l2i (pc := 55) rfl dX12_feed_55 ?_
      refine G_iast (pc := 56) (jj := 0) (by decide) rfl (by unfold vp_in; decide) dX12_feed_56 ?_
      refine G_aload_n (pc := 57) rfl dX12_feed_57 ?_
      refine G_dup (pc := 58) rfl dX12_feed_58 ?_
      refine G_getI (pc := 59) (v := 0) (ci := 12) (j := 6) rfl rfl lk_RX12_126 rfl rfl dX12_feed_59 ?_
      refine G_iconst (pc := 62) (v := 1) (by decide) dX12_feed_62 ?_
      refine G_iadd (pc := 63) (z := 1) (by decide) dX12_feed_63 ?_
      refine G_putI (pc := 64) (ci := 12) (j := 6) rfl lk_RX12_126 rfl rfl rfl trivial dX12_feed_64 ?_
      refine G_iinc (pc := 67) (v := 1) (w := 1) (L1 := [some (.ref 67), some (.long eight), none, some (.int 8), some (.int 1)]) (by decide) rfl rfl (by decide) rfl (by decide) dX12_feed_67 ?_
      refine G_goto (pc := 70) (tgt := 30) (by decide) dX12_feed_70 ?_
      refine G_iload (pc := 30) rfl dX12_feed_30 ?_
      refine G_iload_n (pc := 32) rfl dX12_feed_32 ?_
      refine G_icmp_ge (pc := 33) (tgt := 73) (by decide) dX12_feed_33 (fun z => absurd z (by decide)) (fun _ => ?_)
      refine G_aload_n (pc := 36) rfl dX12_feed_36 ?_
      refine G_getR (pc := 37) (r := 72) (ci := 12) (j := 5) rfl lk_RX12_22 rfl rfl rfl dX12_feed_37 ?_
      refine G_aload_n (pc := 40) rfl dX12_feed_40 ?_
      refine G_getI (pc := 41) (v := 1) (ci := 12) (j := 6) rfl rfl lk_RX12_126 rfl rfl dX12_feed_41 ?_
      refine G_lload_n (pc := 44) rfl dX12_feed_44 ?_
      refine G_bipush (pc := 45) (v := 8) (by decide) dX12_feed_45 ?_
      refine G_iload (pc := 47) rfl dX12_feed_47 ?_
      refine G_imul (pc := 49) (z := 8) (by decide) dX12_feed_49 ?_
      refine G_lshr (pc := 50) rfl dX12_feed_50 ?_
      refine G_ldc2w (pc := 51) (v := 255) cl_RX12_190 dX12_feed_51 ?_
      refine G_land (pc := 54) rfl dX12_feed_54 ?_
      refine G_l2i (pc := 55) rfl dX12_feed_55 ?_
      refine G_iast (pc := 56) (jj := 1) (by decide) rfl (by unfold vp_in; decide) dX12_feed_56 ?_
      refine G_aload_n (pc := 57) rfl dX12_feed_57 ?_
      refine G_dup (pc := 58) rfl dX12_feed_58 ?_
      refine G_getI (pc := 59) (v := 1) (ci := 12) (j := 6) rfl rfl lk_RX12_126 rfl rfl dX12_feed_59 ?_
      refine G_iconst (pc := 62) (v := 1) (by decide) dX12_feed_62 ?_
      refine G_iadd (pc := 63) (z := 2) (by decide) dX12_feed_63 ?_
      refine G_putI (pc := 64) (ci := 12) (j := 6) rfl lk_RX12_126 rfl rfl rfl trivial dX12_feed_64 ?_
      refine G_iinc (pc := 67) (v := 1) (w := 2) (L1 := [some (.ref 67), some (.long eight), none, some (.int 8), some (.int 2)]) (by decide) rfl rfl (by decide) rfl (by decide) dX12_feed_67 ?_
      refine G_goto (pc := 70) (tgt := 30) (by decide) dX12_feed_70 ?_
      refine G_iload (pc := 30) rfl dX12_feed_30 ?_
      refine G_iload_n (pc := 32) rfl dX12_feed_32 ?_
      refine G_icmp_ge (pc := 33) (tgt := 73) (by decide) dX12_feed_33 (fun z => absurd z (by decide)) (fun _ => ?_)
      refine G_aload_n (pc := 36) rfl dX12_feed_36 ?_
      refine G_getR (pc := 37) (r := 72) (ci := 12) (j := 5) rfl lk_RX12_22 rfl rfl rfl dX12_feed_37 ?_
      refine G_aload_n (pc := 40) rfl dX12_feed_40 ?_
      refine G_getI (pc := 41) (v := 2) (ci := 12) (j := 6) rfl rfl lk_RX12_126 rfl rfl dX12_feed_41 ?_
      refine G_lload_n (pc := 44) rfl dX12_feed_44 ?_
      refine G_bipush (pc := 45) (v := 8) (by decide) dX12_feed_45 ?_
      refine G_iload (pc := 47) rfl dX12_feed_47 ?_
      refine G_imul (pc := 49) (z := 16) (by decide) dX12_feed_49 ?_
      refine G_lshr (pc := 50) rfl dX12_feed_50 ?_
      refine G_ldc2w (pc := 51) (v := 255) cl_RX12_190 dX12_feed_51 ?_
      refine G_land (pc := 54) rfl dX12_feed_54 ?_
      refine G_l2i (pc := 55) rfl dX12_feed_55 ?_
      refine G_iast (pc := 56) (jj := 2) (by decide) rfl (by unfold vp_in; decide) dX12_feed_56 ?_
      refine G_aload_n (pc := 57) rfl dX12_feed_57 ?_
      refine G_dup (pc := 58) rfl dX12_feed_58 ?_
      refine G_getI (pc := 59) (v := 2) (ci := 12) (j := 6) rfl rfl lk_RX12_126 rfl rfl dX12_feed_59 ?_
      refine G_iconst (pc := 62) (v := 1) (by decide) dX12_feed_62 ?_
      refine G_iadd (pc := 63) (z := 3) (by decide) dX12_feed_63 ?_
      refine G_putI (pc := 64) (ci := 12) (j := 6) rfl lk_RX12_126 rfl rfl rfl trivial dX12_feed_64 ?_
      refine G_iinc (pc := 67) (v := 1) (w := 3) (L1 := [some (.ref 67), some (.long eight), none, some (.int 8), some (.int 3)]) (by decide) rfl rfl (by decide) rfl (by decide) dX12_feed_67 ?_
      refine G_goto (pc := 70) (tgt := 30) (by decide) dX12_feed_70 ?_
      refine G_iload (pc := 30) rfl dX12_feed_30 ?_
      refine G_iload_n (pc := 32) rfl dX12_feed_32 ?_
      refine G_icmp_ge (pc := 33) (tgt := 73) (by decide) dX12_feed_33 (fun z => absurd z (by decide)) (fun _ => ?_)
      refine G_aload_n (pc := 36) rfl dX12_feed_36 ?_
      refine G_getR (pc := 37) (r := 72) (ci := 12) (j := 5) rfl lk_RX12_22 rfl rfl rfl dX12_feed_37 ?_
      refine G_aload_n (pc := 40) rfl dX12_feed_40 ?_
      refine G_getI (pc := 41) (v := 3) (ci := 12) (j := 6) rfl rfl lk_RX12_126 rfl rfl dX12_feed_41 ?_
      refine G_lload_n (pc := 44) rfl dX12_feed_44 ?_
      refine G_bipush (pc := 45) (v := 8) (by decide) dX12_feed_45 ?_
      refine G_iload (pc := 47) rfl dX12_feed_47 ?_
      refine G_imul (pc := 49) (z := 24) (by decide) dX12_feed_49 ?_
      refine G_lshr (pc := 50) rfl dX12_feed_50 ?_
      refine G_ldc2w (pc := 51) (v := 255) cl_RX12_190 dX12_feed_51 ?_
      refine G_land (pc := 54) rfl dX12_feed_54 ?_
      refine G_l2i (pc := 55) rfl dX12_feed_55 ?_
      refine G_iast (pc := 56) (jj := 3) (by decide) rfl (by unfold vp_in; decide) dX12_feed_56 ?_
      refine G_aload_n (pc := 57) rfl dX12_feed_57 ?_
      refine G_dup (pc := 58) rfl dX12_feed_58 ?_
      refine G_getI (pc := 59) (v := 3) (ci := 12) (j := 6) rfl rfl lk_RX12_126 rfl rfl dX12_feed_59 ?_
      refine G_iconst (pc := 62) (v := 1) (by decide) dX12_feed_62 ?_
      refine G_iadd (pc := 63) (z := 4) (by decide) dX12_feed_63 ?_
      refine G_putI (pc := 64) (ci := 12) (j := 6) rfl lk_RX12_126 rfl rfl rfl trivial dX12_feed_64 ?_
      refine G_iinc (pc := 67) (v := 1) (w := 4) (L1 := [some (.ref 67), some (.long eight), none, some (.int 8), some (.int 4)]) (by decide) rfl rfl (by decide) rfl (by decide) dX12_feed_67 ?_
      refine G_goto (pc := 70) (tgt := 30) (by decide) dX12_feed_70 ?_
      refine G_iload (pc := 30) rfl dX12_feed_30 ?_
      refine G_iload_n (pc := 32) rfl dX12_feed_32 ?_
      refine G_icmp_ge (pc := 33) (tgt := 73) (by decide) dX12_feed_33 (fun z => absurd z (by decide)) (fun _ => ?_)
      refine G_aload_n (pc := 36) rfl dX12_feed_36 ?_
      refine G_getR (pc := 37) (r := 72) (ci := 12) (j := 5) rfl lk_RX12_22 rfl rfl rfl dX12_feed_37 ?_
      refine G_aload_n (pc := 40) rfl dX12_feed_40 ?_
      refine G_getI (pc := 41) (v := 4) (ci := 12) (j := 6) rfl rfl lk_RX12_126 rfl rfl dX12_feed_41 ?_
      refine G_lload_n (pc := 44) rfl dX12_feed_44 ?_
      refine G_bipush (pc := 45) (v := 8) (by decide) dX12_feed_45 ?_
      refine G_iload (pc := 47) rfl dX12_feed_47 ?_
      refine G_imul (pc := 49) (z := 32) (by decide) dX12_feed_49 ?_
      refine G_lshr (pc := 50) rfl dX12_feed_50 ?_
      refine G_ldc2w (pc := 51) (v := 255) cl_RX12_190 dX12_feed_51 ?_
      refine G_land (pc := 54) rfl dX12_feed_54 ?_
      refine G_l2i (pc := 55) rfl dX12_feed_55 ?_
      refine G_iast (pc := 56) (jj := 4) (by decide) rfl (by unfold vp_in; decide) dX12_feed_56 ?_
      refine G_aload_n (pc := 57) rfl dX12_feed_57 ?_
      refine G_dup (pc := 58) rfl dX12_feed_58 ?_
      refine G_getI (pc := 59) (v := 4) (ci := 12) (j := 6) rfl rfl lk_RX12_126 rfl rfl dX12_feed_59 ?_
      refine G_iconst (pc := 62) (v := 1) (by decide) dX12_feed_62 ?_
      refine G_iadd (pc := 63) (z := 5) (by decide) dX12_feed_63 ?_
      refine G_putI (pc := 64) (ci := 12) (j := 6) rfl lk_RX12_126 rfl rfl rfl trivial dX12_feed_64 ?_
      refine G_iinc (pc := 67) (v := 1) (w := 5) (L1 := [some (.ref 67), some (.long eight), none, some (.int 8), some (.int 5)]) (by decide) rfl rfl (by decide) rfl (by decide) dX12_feed_67 ?_
      refine G_goto (pc := 70) (tgt := 30) (by decide) dX12_feed_70 ?_
      refine G_iload (pc := 30) rfl dX12_feed_30 ?_
      refine G_iload_n (pc := 32) rfl dX12_feed_32 ?_
      refine G_icmp_ge (pc := 33) (tgt := 73) (by decide) dX12_feed_33 (fun z => absurd z (by decide)) (fun _ => ?_)
      refine G_aload_n (pc := 36) rfl dX12_feed_36 ?_
      refine G_getR (pc := 37) (r := 72) (ci := 12) (j := 5) rfl lk_RX12_22 rfl rfl rfl dX12_feed_37 ?_
      refine G_aload_n (pc := 40) rfl dX12_feed_40 ?_
      refine G_getI (pc := 41) (v := 5) (ci := 12) (j := 6) rfl rfl lk_RX12_126 rfl rfl dX12_feed_41 ?_
      refine G_lload_n (pc := 44) rfl dX12_feed_44 ?_
      refine G_bipush (pc := 45) (v := 8) (by decide) dX12_feed_45 ?_
      refine G_iload (pc := 47) rfl dX12_feed_47 ?_
      refine G_imul (pc := 49) (z := 40) (by decide) dX12_feed_49 ?_
      refine G_lshr (pc := 50) rfl dX12_feed_50 ?_
      refine G_ldc2w (pc := 51) (v := 255) cl_RX12_190 dX12_feed_51 ?_
      refine G_land (pc := 54) rfl dX12_feed_54 ?_
      refine G_l2i (pc := 55) rfl dX12_feed_55 ?_
      refine G_iast (pc := 56) (jj := 5) (by decide) rfl (by unfold vp_in; decide) dX12_feed_56 ?_
      refine G_aload_n (pc := 57) rfl dX12_feed_57 ?_
      refine G_dup (pc := 58) rfl dX12_feed_58 ?_
      refine G_getI (pc := 59) (v := 5) (ci := 12) (j := 6) rfl rfl lk_RX12_126 rfl rfl dX12_feed_59 ?_
      refine G_iconst (pc := 62) (v := 1) (by decide) dX12_feed_62 ?_
      refine G_iadd (pc := 63) (z := 6) (by decide) dX12_feed_63 ?_
      refine G_putI (pc := 64) (ci := 12) (j := 6) rfl lk_RX12_126 rfl rfl rfl trivial dX12_feed_64 ?_
      refine G_iinc (pc := 67) (v := 1) (w := 6) (L1 := [some (.ref 67), some (.long eight), none, some (.int 8), some (.int 6)]) (by decide) rfl rfl (by decide) rfl (by decide) dX12_feed_67 ?_
      refine G_goto (pc := 70) (tgt := 30) (by decide) dX12_feed_70 ?_
      refine G_iload (pc := 30) rfl dX12_feed_30 ?_
      refine G_iload_n (pc := 32) rfl dX12_feed_32 ?_
      refine G_icmp_ge (pc := 33) (tgt := 73) (by decide) dX12_feed_33 (fun z => absurd z (by decide)) (fun _ => ?_)
      refine G_aload_n (pc := 36) rfl dX12_feed_36 ?_
      refine G_getR (pc := 37) (r := 72) (ci := 12) (j := 5) rfl lk_RX12_22 rfl rfl rfl dX12_feed_37 ?_
      refine G_aload_n (pc := 40) rfl dX12_feed_40 ?_
      refine G_getI (pc := 41) (v := 6) (ci := 12) (j := 6) rfl rfl lk_RX12_126 rfl rfl dX12_feed_41 ?_
      refine G_lload_n (pc := 44) rfl dX12_feed_44 ?_
      refine G_bipush (pc := 45) (v := 8) (by decide) dX12_feed_45 ?_
      refine G_iload (pc := 47) rfl dX12_feed_47 ?_
      refine G_imul (pc := 49) (z := 48) (by decide) dX12_feed_49 ?_
      refine G_lshr (pc := 50) rfl dX12_feed_50 ?_
      refine G_ldc2w (pc := 51) (v := 255) cl_RX12_190 dX12_feed_51 ?_
      refine G_land (pc := 54) rfl dX12_feed_54 ?_
      refine G_l2i (pc := 55) rfl dX12_feed_55 ?_
      refine G_iast (pc := 56) (jj := 6) (by decide) rfl (by unfold vp_in; decide) dX12_feed_56 ?_
      refine G_aload_n (pc := 57) rfl dX12_feed_57 ?_
      refine G_dup (pc := 58) rfl dX12_feed_58 ?_
      refine G_getI (pc := 59) (v := 6) (ci := 12) (j := 6) rfl rfl lk_RX12_126 rfl rfl dX12_feed_59 ?_
      refine G_iconst (pc := 62) (v := 1) (by decide) dX12_feed_62 ?_
      refine G_iadd (pc := 63) (z := 7) (by decide) dX12_feed_63 ?_
      refine G_putI (pc := 64) (ci := 12) (j := 6) rfl lk_RX12_126 rfl rfl rfl trivial dX12_feed_64 ?_
      refine G_iinc (pc := 67) (v := 1) (w := 7) (L1 := [some (.ref 67), some (.long eight), none, some (.int 8), some (.int 7)]) (by decide) rfl rfl (by decide) rfl (by decide) dX12_feed_67 ?_
      refine G_goto (pc := 70) (tgt := 30) (by decide) dX12_feed_70 ?_
      refine G_iload (pc := 30) rfl dX12_feed_30 ?_
      refine G_iload_n (pc := 32) rfl dX12_feed_32 ?_
      refine G_icmp_ge (pc := 33) (tgt := 73) (by decide) dX12_feed_33 (fun z => absurd z (by decide)) (fun _ => ?_)
      refine G_aload_n (pc := 36) rfl dX12_feed_36 ?_
      refine G_getR (pc := 37) (r := 72) (ci := 12) (j := 5) rfl lk_RX12_22 rfl rfl rfl dX12_feed_37 ?_
      refine G_aload_n (pc := 40) rfl dX12_feed_40 ?_
      refine G_getI (pc := 41) (v := 7) (ci := 12) (j := 6) rfl rfl lk_RX12_126 rfl rfl dX12_feed_41 ?_
      refine G_lload_n (pc := 44) rfl dX12_feed_44 ?_
      refine G_bipush (pc := 45) (v := 8) (by decide) dX12_feed_45 ?_
      refine G_iload (pc := 47) rfl dX12_feed_47 ?_
      refine G_imul (pc := 49) (z := 56) (by decide) dX12_feed_49 ?_
      refine G_lshr (pc := 50) rfl dX12_feed_50 ?_
      refine G_ldc2w (pc := 51) (v := 255) cl_RX12_190 dX12_feed_51 ?_
      refine G_land (pc := 54) rfl dX12_feed_54 ?_
      refine G_l2i (pc := 55) rfl dX12_feed_55 ?_
      refine G_iast (pc := 56) (jj := 7) (by decide) rfl (by unfold vp_in; decide) dX12_feed_56 ?_
      refine G_aload_n (pc := 57) rfl dX12_feed_57 ?_
      refine G_dup (pc := 58) rfl dX12_feed_58 ?_
      refine G_getI (pc := 59) (v := 7) (ci := 12) (j := 6) rfl rfl lk_RX12_126 rfl rfl dX12_feed_59 ?_
      refine G_iconst (pc := 62) (v := 1) (by decide) dX12_feed_62 ?_
      refine G_iadd (pc := 63) (z := 8) (by decide) dX12_feed_63 ?_
      refine G_putI (pc := 64) (ci := 12) (j := 6) rfl lk_RX12_126 rfl rfl rfl trivial dX12_feed_64 ?_
      refine G_iinc (pc := 67) (v := 1) (w := 8) (L1 := [some (.ref 67), some (.long eight), none, some (.int 8), some (.int 8)]) (by decide) rfl rfl (by decide) rfl (by decide) dX12_feed_67 ?_
      refine G_goto (pc := 70) (tgt := 30) (by decide) dX12_feed_70 ?_
      refine G_iload (pc := 30) rfl dX12_feed_30 ?_
      refine G_iload_n (pc := 32) rfl dX12_feed_32 ?_
      refine G_icmp_ge (pc := 33) (tgt := 73) (by decide) dX12_feed_33 (fun _ => ?_) (fun z => absurd (by decide) z)
      refine G_aload_n (pc := 73) rfl dX12_feed_73 ?_
      refine G_getI (pc := 74) (v := 8) (ci := 12) (j := 6) rfl rfl lk_RX12_126 rfl rfl dX12_feed_74 ?_
      exact G_iret (pc := 77) (Nat.le_of_ble_eq_true rfl) (Nat.le_of_ble_eq_true rfl) rfl dX12_feed_77 (by first | rfl | (simp [F_feed, *]; done) | (simp only [F_feed, Int32.le_iff_toInt_le, Int32.lt_iff_toInt_lt, ← Int32.toInt_inj]; simp; omega) | (simp only [F_feed, Int32.le_iff_toInt_le, Int32.lt_iff_toInt_lt, ← Int32.toInt_inj]; split <;> first | rfl | (exfalso; simp at *; omega)) | (unfold F_feed; (repeat' split) <;> first | rfl | (exfalso; (try simp only [Int32.le_iff_toInt_le, Int32.lt_iff_toInt_lt, ← Int32.toInt_inj] at *); first | omega | (simp at *; done) | (simp at *; omega))))
    exfalso
    have : 1 ≤ (n).toInt := Int32.le_iff_toInt_le.mp (c219.1)
    have : (n).toInt ≤ 8 := Int32.le_iff_toInt_le.mp (c219.2)
    have : (n).toInt ≠ 1 := g_ne (c220)
    have : (n).toInt ≠ 2 := g_ne (c221)
    have : (n).toInt ≠ 3 := g_ne (c222)
    have : (n).toInt ≠ 4 := g_ne (c223)
    have : (n).toInt ≠ 5 := g_ne (c224)
    have : (n).toInt ≠ 6 := g_ne (c225)
    have : (n).toInt ≠ 7 := g_ne (c226)
    have : (n).toInt ≠ 8 := g_ne (c227)
    omega
  · have c219 := gB_z c219
    refine G_iconst (pc := 10) (v := (-1)) (by decide) dX12_feed_10 ?_
    exact G_iret (pc := 11) (Nat.le_of_ble_eq_true rfl) (Nat.le_of_ble_eq_true rfl) rfl dX12_feed_11 (by first | rfl | (simp [F_feed, *]; done) | (have : ¬ (1 ≤ (n).toInt ∧ (n).toInt ≤ 8) := fun z => c219 ⟨Int32.le_iff_toInt_le.mpr z.1, Int32.le_iff_toInt_le.mpr z.2⟩; simp only [F_feed, Int32.le_iff_toInt_le, Int32.lt_iff_toInt_lt, ← Int32.toInt_inj]; simp; omega) | (have : ¬ (1 ≤ (n).toInt ∧ (n).toInt ≤ 8) := fun z => c219 ⟨Int32.le_iff_toInt_le.mpr z.1, Int32.le_iff_toInt_le.mpr z.2⟩; simp only [F_feed, Int32.le_iff_toInt_le, Int32.lt_iff_toInt_lt, ← Int32.toInt_inj]; split <;> first | rfl | (exfalso; simp at *; omega)) | (have : ¬ (1 ≤ (n).toInt ∧ (n).toInt ≤ 8) := fun z => c219 ⟨Int32.le_iff_toInt_le.mpr z.1, Int32.le_iff_toInt_le.mpr z.2⟩; unfold F_feed; (repeat' split) <;> first | rfl | (exfalso; (try simp only [Int32.le_iff_toInt_le, Int32.lt_iff_toInt_lt, ← Int32.toInt_inj] at *); first | omega | (simp at *; done) | (simp at *; omega))))
