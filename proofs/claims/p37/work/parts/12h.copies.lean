/-! ===== copies by a loop ===== -/
theorem gcp_none {I : gI} {x y sp dp : Nat} : gcp I x y sp dp 0 = I := by
  funext a j
  rw [gcp_at, if_neg (by omega)]
theorem gcp_step {I : gI} {x y sp dp k a b : Nat} (hxy : x ≠ y) (ha : a = sp + k) (hb : b = dp + k) : gup (gcp I x y sp dp k) y b (gcp I x y sp dp k x a) = gcp I x y sp dp (k + 1) := by
  subst ha
  subst hb
  funext c j
  rw [gcp_at, gcp_at]
  unfold gup
  rw [gcp_at]
  by_cases h1 : c = y
  · subst h1
    by_cases h2 : j = dp + k
    · subst h2
      rw [if_pos rfl, if_pos rfl, if_neg (fun q => hxy q.1), if_pos ⟨rfl, by omega, by omega⟩]
      congr 1
      omega
    · rw [if_pos rfl, if_neg h2]
      by_cases h3 : dp ≤ j ∧ j < dp + k
      · rw [if_pos ⟨rfl, h3.1, h3.2⟩, if_pos ⟨rfl, by omega, by omega⟩]
      · rw [if_neg (fun q => h3 q.2), if_neg (fun q => h3 ⟨q.2.1, by omega⟩)]
  · rw [if_neg h1, if_neg (fun q => h1 q.1), if_neg (fun q => h1 q.1)]
theorem n_int {k : Nat} (h : k < 1000) : (Int32.ofNat k).toInt = (k : Int) := Int32.toInt_ofNat_of_lt (by omega)
theorem n_clamp {k : Nat} (h : k < 1000) : (Int32.ofNat k).toNatClampNeg = k := by
  rw [a_nc, n_int h]
  rfl
theorem n_in {k n : Nat} (h : k < 1000) (h1 : k < n) : vp_in (Int32.ofNat k) n := a_vin (by rw [n_int h]; omega) (by rw [n_int h]; omega)
theorem n_add {a b : Nat} : Int32.ofNat a + Int32.ofNat b = Int32.ofNat (a + b) := (Int32.ofNat_add a b).symm
set_option maxRecDepth 100000 in
set_option maxHeartbeats 4000000 in
theorem layDown_loop (d : Nat) (I : gI) (Q : Option Value → gH → Prop) (hQ : gg d mX12_layDown 26 [some (.ref 67), some (.int (Int32.ofNat 65))] [] (gcp I 68 70 0 0 65) Q) : ∀ n k : Nat, k + n = 65 → gg d mX12_layDown 2 [some (.ref 67), some (.int (Int32.ofNat k))] [] (gcp I 68 70 0 0 k) Q
  | 0, k, hk => by
    have e : k = 65 := by omega
    subst e
    refine G_iload_n (pc := 2) rfl dX12_layDown_2 ?_
    refine G_bipush (pc := 3) (v := 65) (by decide) dX12_layDown_3 ?_
    refine G_icmp_ge (pc := 5) (tgt := 26) (by decide) dX12_layDown_5 (fun _ => hQ) (fun c => absurd (by decide) c)
  | n + 1, k, hk => by
    have hk1 : k < 1000 := by omega
    have ih := layDown_loop d I Q hQ n (k + 1) (by omega)
    refine G_iload_n (pc := 2) rfl dX12_layDown_2 ?_
    refine G_bipush (pc := 3) (v := 65) (by decide) dX12_layDown_3 ?_
    refine G_icmp_ge (pc := 5) (tgt := 26) (by decide) dX12_layDown_5 (fun c => absurd c (by rw [Int32.le_iff_toInt_le, n_int hk1]; show ¬ ((65 : Int) ≤ _); omega)) (fun _ => ?_)
    refine G_aload_n (pc := 8) rfl dX12_layDown_8 ?_
    refine G_getR (pc := 9) (ci := 12) (j := 2) rfl lq_RX12_16 rfl rfl rfl dX12_layDown_9 ?_
    refine G_iload_n (pc := 12) rfl dX12_layDown_12 ?_
    refine G_aload_n (pc := 13) rfl dX12_layDown_13 ?_
    refine G_getR (pc := 14) (ci := 12) (j := 0) rfl lq_RX12_9 rfl rfl rfl dX12_layDown_14 ?_
    refine G_iload_n (pc := 17) rfl dX12_layDown_17 ?_
    refine G_iald (pc := 18) (n_clamp hk1) rfl rfl (n_in hk1 (show k < 313 by omega)) dX12_layDown_18 ?_
    refine G_iast (pc := 19) (n_clamp hk1) rfl (n_in hk1 (show k < 65 by omega)) dX12_layDown_19 ?_
    rw [gcp_step (by decide) (by omega) (by omega)]
    refine G_iinc (pc := 20) (v := Int32.ofNat 1) n_add rfl rfl (by decide) rfl (by decide) dX12_layDown_20 ?_
    refine G_goto (pc := 23) (tgt := 2) (by decide) dX12_layDown_23 ?_
    exact ih
set_option maxRecDepth 100000 in
set_option maxHeartbeats 4000000 in
theorem layBack_loop (d : Nat) (I : gI) (Q : Option Value → gH → Prop) (hQ : gg d mX12_layBack 26 [some (.ref 67), some (.int (Int32.ofNat 65))] [] (gcp I 70 68 0 0 65) Q) : ∀ n k : Nat, k + n = 65 → gg d mX12_layBack 2 [some (.ref 67), some (.int (Int32.ofNat k))] [] (gcp I 70 68 0 0 k) Q
  | 0, k, hk => by
    have e : k = 65 := by omega
    subst e
    refine G_iload_n (pc := 2) rfl dX12_layBack_2 ?_
    refine G_bipush (pc := 3) (v := 65) (by decide) dX12_layBack_3 ?_
    refine G_icmp_ge (pc := 5) (tgt := 26) (by decide) dX12_layBack_5 (fun _ => hQ) (fun c => absurd (by decide) c)
  | n + 1, k, hk => by
    have hk1 : k < 1000 := by omega
    have ih := layBack_loop d I Q hQ n (k + 1) (by omega)
    refine G_iload_n (pc := 2) rfl dX12_layBack_2 ?_
    refine G_bipush (pc := 3) (v := 65) (by decide) dX12_layBack_3 ?_
    refine G_icmp_ge (pc := 5) (tgt := 26) (by decide) dX12_layBack_5 (fun c => absurd c (by rw [Int32.le_iff_toInt_le, n_int hk1]; show ¬ ((65 : Int) ≤ _); omega)) (fun _ => ?_)
    refine G_aload_n (pc := 8) rfl dX12_layBack_8 ?_
    refine G_getR (pc := 9) (ci := 12) (j := 0) rfl lq_RX12_9 rfl rfl rfl dX12_layBack_9 ?_
    refine G_iload_n (pc := 12) rfl dX12_layBack_12 ?_
    refine G_aload_n (pc := 13) rfl dX12_layBack_13 ?_
    refine G_getR (pc := 14) (ci := 12) (j := 2) rfl lq_RX12_16 rfl rfl rfl dX12_layBack_14 ?_
    refine G_iload_n (pc := 17) rfl dX12_layBack_17 ?_
    refine G_iald (pc := 18) (n_clamp hk1) rfl rfl (n_in hk1 (show k < 65 by omega)) dX12_layBack_18 ?_
    refine G_iast (pc := 19) (n_clamp hk1) rfl (n_in hk1 (show k < 313 by omega)) dX12_layBack_19 ?_
    rw [gcp_step (by decide) (by omega) (by omega)]
    refine G_iinc (pc := 20) (v := Int32.ofNat 1) n_add rfl rfl (by decide) rfl (by decide) dX12_layBack_20 ?_
    refine G_goto (pc := 23) (tgt := 2) (by decide) dX12_layBack_23 ?_
    exact ih
theorem layDown_G (d : Nat) (I : gI) (Q : Option Value → gH → Prop) (hQ : Q none (SH0, RF0, gcp I 68 70 0 0 65)) : gg d mX12_layDown 0 (gent 2 [.ref 67]) [] I Q := by
  refine G_iconst (pc := 0) (v := 0) (by decide) dX12_layDown_0 ?_
  refine G_istore_n (pc := 1) rfl rfl (by decide) dX12_layDown_1 ?_
  have h := layDown_loop d I Q (G_vret (pc := 26) (Nat.le_refl _) (Nat.le_refl _) rfl dX12_layDown_26 hQ) 65 0 rfl
  rw [gcp_none] at h
  exact h
theorem layBack_G (d : Nat) (I : gI) (Q : Option Value → gH → Prop) (hQ : Q none (SH0, RF0, gcp I 70 68 0 0 65)) : gg d mX12_layBack 0 (gent 2 [.ref 67]) [] I Q := by
  refine G_iconst (pc := 0) (v := 0) (by decide) dX12_layBack_0 ?_
  refine G_istore_n (pc := 1) rfl rfl (by decide) dX12_layBack_1 ?_
  have h := layBack_loop d I Q (G_vret (pc := 26) (Nat.le_refl _) (Nat.le_refl _) rfl dX12_layBack_26 hQ) 65 0 rfl
  rw [gcp_none] at h
  exact h
set_option maxRecDepth 100000 in
set_option maxHeartbeats 4000000 in
theorem saves0_loop (d : Nat) (I : gI) (Q : Option Value → gH → Prop) (hQ : gg d mX12_saves 31 [some (.ref 67), some (.int 0), some (.int (Int32.ofNat 65))] [] (gcp I 68 76 0 0 65) Q) : ∀ n k : Nat, k + n = 65 → gg d mX12_saves 2 [some (.ref 67), some (.int 0), some (.int (Int32.ofNat k))] [] (gcp I 68 76 0 0 k) Q
  | 0, k, hk => by
    have e : k = 65 := by omega
    subst e
    refine G_iload_n (pc := 2) rfl dX12_saves_2 ?_
    refine G_bipush (pc := 3) (v := 65) (by decide) dX12_saves_3 ?_
    refine G_icmp_ge (pc := 5) (tgt := 31) (by decide) dX12_saves_5 (fun _ => hQ) (fun c => absurd (by decide) c)
  | n + 1, k, hk => by
    have hk1 : k < 1000 := by omega
    have ih := saves0_loop d I Q hQ n (k + 1) (by omega)
    refine G_iload_n (pc := 2) rfl dX12_saves_2 ?_
    refine G_bipush (pc := 3) (v := 65) (by decide) dX12_saves_3 ?_
    refine G_icmp_ge (pc := 5) (tgt := 31) (by decide) dX12_saves_5 (fun c => absurd c (by rw [Int32.le_iff_toInt_le, n_int hk1]; show ¬ ((65 : Int) ≤ _); omega)) (fun _ => ?_)
    refine G_aload_n (pc := 8) rfl dX12_saves_8 ?_
    refine G_getR (pc := 9) (ci := 12) (j := 16) rfl lq_RX12_35 rfl rfl rfl dX12_saves_9 ?_
    refine G_bipush (pc := 12) (v := 65) (by decide) dX12_saves_12 ?_
    refine G_iload_n (pc := 14) rfl dX12_saves_14 ?_
    refine G_imul (pc := 15) (z := Int32.ofNat 0) (by decide) dX12_saves_15 ?_
    refine G_iload_n (pc := 16) rfl dX12_saves_16 ?_
    refine G_iadd (pc := 17) n_add dX12_saves_17 ?_
    refine G_aload_n (pc := 18) rfl dX12_saves_18 ?_
    refine G_getR (pc := 19) (ci := 12) (j := 0) rfl lq_RX12_9 rfl rfl rfl dX12_saves_19 ?_
    refine G_iload_n (pc := 22) rfl dX12_saves_22 ?_
    refine G_iald (pc := 23) (n_clamp hk1) rfl rfl (n_in hk1 (show k < 313 by omega)) dX12_saves_23 ?_
    refine G_iast (pc := 24) (n_clamp (show 0 + k < 1000 by omega)) rfl (n_in (show 0 + k < 1000 by omega) (show 0 + k < 325 by omega)) dX12_saves_24 ?_
    rw [gcp_step (by decide) (by omega) (by omega)]
    refine G_iinc (pc := 25) (v := Int32.ofNat 1) n_add rfl rfl (by decide) rfl (by decide) dX12_saves_25 ?_
    refine G_goto (pc := 28) (tgt := 2) (by decide) dX12_saves_28 ?_
    exact ih
theorem saves0_G (d : Nat) (I : gI) (Q : Option Value → gH → Prop) (hQ : Q none (SH0, RF0, gcp I 68 76 0 0 65)) : gg d mX12_saves 0 (gent 3 [.ref 67, .int 0]) [] I Q := by
  refine G_iconst (pc := 0) (v := 0) (by decide) dX12_saves_0 ?_
  refine G_istore_n (pc := 1) rfl rfl (by decide) dX12_saves_1 ?_
  have h := saves0_loop d I Q (G_vret (pc := 31) (Nat.le_refl _) (Nat.le_refl _) rfl dX12_saves_31 hQ) 65 0 rfl
  rw [gcp_none] at h
  exact h
set_option maxRecDepth 100000 in
set_option maxHeartbeats 4000000 in
theorem restores0_loop (d : Nat) (I : gI) (Q : Option Value → gH → Prop) (hQ : gg d mX12_restores 31 [some (.ref 67), some (.int 0), some (.int (Int32.ofNat 65))] [] (gcp I 76 68 0 0 65) Q) : ∀ n k : Nat, k + n = 65 → gg d mX12_restores 2 [some (.ref 67), some (.int 0), some (.int (Int32.ofNat k))] [] (gcp I 76 68 0 0 k) Q
  | 0, k, hk => by
    have e : k = 65 := by omega
    subst e
    refine G_iload_n (pc := 2) rfl dX12_restores_2 ?_
    refine G_bipush (pc := 3) (v := 65) (by decide) dX12_restores_3 ?_
    refine G_icmp_ge (pc := 5) (tgt := 31) (by decide) dX12_restores_5 (fun _ => hQ) (fun c => absurd (by decide) c)
  | n + 1, k, hk => by
    have hk1 : k < 1000 := by omega
    have ih := restores0_loop d I Q hQ n (k + 1) (by omega)
    refine G_iload_n (pc := 2) rfl dX12_restores_2 ?_
    refine G_bipush (pc := 3) (v := 65) (by decide) dX12_restores_3 ?_
    refine G_icmp_ge (pc := 5) (tgt := 31) (by decide) dX12_restores_5 (fun c => absurd c (by rw [Int32.le_iff_toInt_le, n_int hk1]; show ¬ ((65 : Int) ≤ _); omega)) (fun _ => ?_)
    refine G_aload_n (pc := 8) rfl dX12_restores_8 ?_
    refine G_getR (pc := 9) (ci := 12) (j := 0) rfl lq_RX12_9 rfl rfl rfl dX12_restores_9 ?_
    refine G_iload_n (pc := 12) rfl dX12_restores_12 ?_
    refine G_aload_n (pc := 13) rfl dX12_restores_13 ?_
    refine G_getR (pc := 14) (ci := 12) (j := 16) rfl lq_RX12_35 rfl rfl rfl dX12_restores_14 ?_
    refine G_bipush (pc := 17) (v := 65) (by decide) dX12_restores_17 ?_
    refine G_iload_n (pc := 19) rfl dX12_restores_19 ?_
    refine G_imul (pc := 20) (z := Int32.ofNat 0) (by decide) dX12_restores_20 ?_
    refine G_iload_n (pc := 21) rfl dX12_restores_21 ?_
    refine G_iadd (pc := 22) n_add dX12_restores_22 ?_
    refine G_iald (pc := 23) (n_clamp (show 0 + k < 1000 by omega)) rfl rfl (n_in (show 0 + k < 1000 by omega) (show 0 + k < 325 by omega)) dX12_restores_23 ?_
    refine G_iast (pc := 24) (n_clamp hk1) rfl (n_in hk1 (show k < 313 by omega)) dX12_restores_24 ?_
    rw [gcp_step (by decide) (by omega) (by omega)]
    refine G_iinc (pc := 25) (v := Int32.ofNat 1) n_add rfl rfl (by decide) rfl (by decide) dX12_restores_25 ?_
    refine G_goto (pc := 28) (tgt := 2) (by decide) dX12_restores_28 ?_
    exact ih
theorem restores0_G (d : Nat) (I : gI) (Q : Option Value → gH → Prop) (hQ : Q none (SH0, RF0, gcp I 76 68 0 0 65)) : gg d mX12_restores 0 (gent 3 [.ref 67, .int 0]) [] I Q := by
  refine G_iconst (pc := 0) (v := 0) (by decide) dX12_restores_0 ?_
  refine G_istore_n (pc := 1) rfl rfl (by decide) dX12_restores_1 ?_
  have h := restores0_loop d I Q (G_vret (pc := 31) (Nat.le_refl _) (Nat.le_refl _) rfl dX12_restores_31 hQ) 65 0 rfl
  rw [gcp_none] at h
  exact h
set_option maxRecDepth 100000 in
set_option maxHeartbeats 4000000 in
theorem saves1_loop (d : Nat) (I : gI) (Q : Option Value → gH → Prop) (hQ : gg d mX12_saves 31 [some (.ref 67), some (.int 1), some (.int (Int32.ofNat 65))] [] (gcp I 68 76 0 65 65) Q) : ∀ n k : Nat, k + n = 65 → gg d mX12_saves 2 [some (.ref 67), some (.int 1), some (.int (Int32.ofNat k))] [] (gcp I 68 76 0 65 k) Q
  | 0, k, hk => by
    have e : k = 65 := by omega
    subst e
    refine G_iload_n (pc := 2) rfl dX12_saves_2 ?_
    refine G_bipush (pc := 3) (v := 65) (by decide) dX12_saves_3 ?_
    refine G_icmp_ge (pc := 5) (tgt := 31) (by decide) dX12_saves_5 (fun _ => hQ) (fun c => absurd (by decide) c)
  | n + 1, k, hk => by
    have hk1 : k < 1000 := by omega
    have ih := saves1_loop d I Q hQ n (k + 1) (by omega)
    refine G_iload_n (pc := 2) rfl dX12_saves_2 ?_
    refine G_bipush (pc := 3) (v := 65) (by decide) dX12_saves_3 ?_
    refine G_icmp_ge (pc := 5) (tgt := 31) (by decide) dX12_saves_5 (fun c => absurd c (by rw [Int32.le_iff_toInt_le, n_int hk1]; show ¬ ((65 : Int) ≤ _); omega)) (fun _ => ?_)
    refine G_aload_n (pc := 8) rfl dX12_saves_8 ?_
    refine G_getR (pc := 9) (ci := 12) (j := 16) rfl lq_RX12_35 rfl rfl rfl dX12_saves_9 ?_
    refine G_bipush (pc := 12) (v := 65) (by decide) dX12_saves_12 ?_
    refine G_iload_n (pc := 14) rfl dX12_saves_14 ?_
    refine G_imul (pc := 15) (z := Int32.ofNat 65) (by decide) dX12_saves_15 ?_
    refine G_iload_n (pc := 16) rfl dX12_saves_16 ?_
    refine G_iadd (pc := 17) n_add dX12_saves_17 ?_
    refine G_aload_n (pc := 18) rfl dX12_saves_18 ?_
    refine G_getR (pc := 19) (ci := 12) (j := 0) rfl lq_RX12_9 rfl rfl rfl dX12_saves_19 ?_
    refine G_iload_n (pc := 22) rfl dX12_saves_22 ?_
    refine G_iald (pc := 23) (n_clamp hk1) rfl rfl (n_in hk1 (show k < 313 by omega)) dX12_saves_23 ?_
    refine G_iast (pc := 24) (n_clamp (show 65 + k < 1000 by omega)) rfl (n_in (show 65 + k < 1000 by omega) (show 65 + k < 325 by omega)) dX12_saves_24 ?_
    rw [gcp_step (by decide) (by omega) (by omega)]
    refine G_iinc (pc := 25) (v := Int32.ofNat 1) n_add rfl rfl (by decide) rfl (by decide) dX12_saves_25 ?_
    refine G_goto (pc := 28) (tgt := 2) (by decide) dX12_saves_28 ?_
    exact ih
theorem saves1_G (d : Nat) (I : gI) (Q : Option Value → gH → Prop) (hQ : Q none (SH0, RF0, gcp I 68 76 0 65 65)) : gg d mX12_saves 0 (gent 3 [.ref 67, .int 1]) [] I Q := by
  refine G_iconst (pc := 0) (v := 0) (by decide) dX12_saves_0 ?_
  refine G_istore_n (pc := 1) rfl rfl (by decide) dX12_saves_1 ?_
  have h := saves1_loop d I Q (G_vret (pc := 31) (Nat.le_refl _) (Nat.le_refl _) rfl dX12_saves_31 hQ) 65 0 rfl
  rw [gcp_none] at h
  exact h
set_option maxRecDepth 100000 in
set_option maxHeartbeats 4000000 in
theorem restores1_loop (d : Nat) (I : gI) (Q : Option Value → gH → Prop) (hQ : gg d mX12_restores 31 [some (.ref 67), some (.int 1), some (.int (Int32.ofNat 65))] [] (gcp I 76 68 65 0 65) Q) : ∀ n k : Nat, k + n = 65 → gg d mX12_restores 2 [some (.ref 67), some (.int 1), some (.int (Int32.ofNat k))] [] (gcp I 76 68 65 0 k) Q
  | 0, k, hk => by
    have e : k = 65 := by omega
    subst e
    refine G_iload_n (pc := 2) rfl dX12_restores_2 ?_
    refine G_bipush (pc := 3) (v := 65) (by decide) dX12_restores_3 ?_
    refine G_icmp_ge (pc := 5) (tgt := 31) (by decide) dX12_restores_5 (fun _ => hQ) (fun c => absurd (by decide) c)
  | n + 1, k, hk => by
    have hk1 : k < 1000 := by omega
    have ih := restores1_loop d I Q hQ n (k + 1) (by omega)
    refine G_iload_n (pc := 2) rfl dX12_restores_2 ?_
    refine G_bipush (pc := 3) (v := 65) (by decide) dX12_restores_3 ?_
    refine G_icmp_ge (pc := 5) (tgt := 31) (by decide) dX12_restores_5 (fun c => absurd c (by rw [Int32.le_iff_toInt_le, n_int hk1]; show ¬ ((65 : Int) ≤ _); omega)) (fun _ => ?_)
    refine G_aload_n (pc := 8) rfl dX12_restores_8 ?_
    refine G_getR (pc := 9) (ci := 12) (j := 0) rfl lq_RX12_9 rfl rfl rfl dX12_restores_9 ?_
    refine G_iload_n (pc := 12) rfl dX12_restores_12 ?_
    refine G_aload_n (pc := 13) rfl dX12_restores_13 ?_
    refine G_getR (pc := 14) (ci := 12) (j := 16) rfl lq_RX12_35 rfl rfl rfl dX12_restores_14 ?_
    refine G_bipush (pc := 17) (v := 65) (by decide) dX12_restores_17 ?_
    refine G_iload_n (pc := 19) rfl dX12_restores_19 ?_
    refine G_imul (pc := 20) (z := Int32.ofNat 65) (by decide) dX12_restores_20 ?_
    refine G_iload_n (pc := 21) rfl dX12_restores_21 ?_
    refine G_iadd (pc := 22) n_add dX12_restores_22 ?_
    refine G_iald (pc := 23) (n_clamp (show 65 + k < 1000 by omega)) rfl rfl (n_in (show 65 + k < 1000 by omega) (show 65 + k < 325 by omega)) dX12_restores_23 ?_
    refine G_iast (pc := 24) (n_clamp hk1) rfl (n_in hk1 (show k < 313 by omega)) dX12_restores_24 ?_
    rw [gcp_step (by decide) (by omega) (by omega)]
    refine G_iinc (pc := 25) (v := Int32.ofNat 1) n_add rfl rfl (by decide) rfl (by decide) dX12_restores_25 ?_
    refine G_goto (pc := 28) (tgt := 2) (by decide) dX12_restores_28 ?_
    exact ih
theorem restores1_G (d : Nat) (I : gI) (Q : Option Value → gH → Prop) (hQ : Q none (SH0, RF0, gcp I 76 68 65 0 65)) : gg d mX12_restores 0 (gent 3 [.ref 67, .int 1]) [] I Q := by
  refine G_iconst (pc := 0) (v := 0) (by decide) dX12_restores_0 ?_
  refine G_istore_n (pc := 1) rfl rfl (by decide) dX12_restores_1 ?_
  have h := restores1_loop d I Q (G_vret (pc := 31) (Nat.le_refl _) (Nat.le_refl _) rfl dX12_restores_31 hQ) 65 0 rfl
  rw [gcp_none] at h
  exact h
set_option maxRecDepth 100000 in
set_option maxHeartbeats 4000000 in
theorem saves2_loop (d : Nat) (I : gI) (Q : Option Value → gH → Prop) (hQ : gg d mX12_saves 31 [some (.ref 67), some (.int 2), some (.int (Int32.ofNat 65))] [] (gcp I 68 76 0 130 65) Q) : ∀ n k : Nat, k + n = 65 → gg d mX12_saves 2 [some (.ref 67), some (.int 2), some (.int (Int32.ofNat k))] [] (gcp I 68 76 0 130 k) Q
  | 0, k, hk => by
    have e : k = 65 := by omega
    subst e
    refine G_iload_n (pc := 2) rfl dX12_saves_2 ?_
    refine G_bipush (pc := 3) (v := 65) (by decide) dX12_saves_3 ?_
    refine G_icmp_ge (pc := 5) (tgt := 31) (by decide) dX12_saves_5 (fun _ => hQ) (fun c => absurd (by decide) c)
  | n + 1, k, hk => by
    have hk1 : k < 1000 := by omega
    have ih := saves2_loop d I Q hQ n (k + 1) (by omega)
    refine G_iload_n (pc := 2) rfl dX12_saves_2 ?_
    refine G_bipush (pc := 3) (v := 65) (by decide) dX12_saves_3 ?_
    refine G_icmp_ge (pc := 5) (tgt := 31) (by decide) dX12_saves_5 (fun c => absurd c (by rw [Int32.le_iff_toInt_le, n_int hk1]; show ¬ ((65 : Int) ≤ _); omega)) (fun _ => ?_)
    refine G_aload_n (pc := 8) rfl dX12_saves_8 ?_
    refine G_getR (pc := 9) (ci := 12) (j := 16) rfl lq_RX12_35 rfl rfl rfl dX12_saves_9 ?_
    refine G_bipush (pc := 12) (v := 65) (by decide) dX12_saves_12 ?_
    refine G_iload_n (pc := 14) rfl dX12_saves_14 ?_
    refine G_imul (pc := 15) (z := Int32.ofNat 130) (by decide) dX12_saves_15 ?_
    refine G_iload_n (pc := 16) rfl dX12_saves_16 ?_
    refine G_iadd (pc := 17) n_add dX12_saves_17 ?_
    refine G_aload_n (pc := 18) rfl dX12_saves_18 ?_
    refine G_getR (pc := 19) (ci := 12) (j := 0) rfl lq_RX12_9 rfl rfl rfl dX12_saves_19 ?_
    refine G_iload_n (pc := 22) rfl dX12_saves_22 ?_
    refine G_iald (pc := 23) (n_clamp hk1) rfl rfl (n_in hk1 (show k < 313 by omega)) dX12_saves_23 ?_
    refine G_iast (pc := 24) (n_clamp (show 130 + k < 1000 by omega)) rfl (n_in (show 130 + k < 1000 by omega) (show 130 + k < 325 by omega)) dX12_saves_24 ?_
    rw [gcp_step (by decide) (by omega) (by omega)]
    refine G_iinc (pc := 25) (v := Int32.ofNat 1) n_add rfl rfl (by decide) rfl (by decide) dX12_saves_25 ?_
    refine G_goto (pc := 28) (tgt := 2) (by decide) dX12_saves_28 ?_
    exact ih
theorem saves2_G (d : Nat) (I : gI) (Q : Option Value → gH → Prop) (hQ : Q none (SH0, RF0, gcp I 68 76 0 130 65)) : gg d mX12_saves 0 (gent 3 [.ref 67, .int 2]) [] I Q := by
  refine G_iconst (pc := 0) (v := 0) (by decide) dX12_saves_0 ?_
  refine G_istore_n (pc := 1) rfl rfl (by decide) dX12_saves_1 ?_
  have h := saves2_loop d I Q (G_vret (pc := 31) (Nat.le_refl _) (Nat.le_refl _) rfl dX12_saves_31 hQ) 65 0 rfl
  rw [gcp_none] at h
  exact h
set_option maxRecDepth 100000 in
set_option maxHeartbeats 4000000 in
theorem restores2_loop (d : Nat) (I : gI) (Q : Option Value → gH → Prop) (hQ : gg d mX12_restores 31 [some (.ref 67), some (.int 2), some (.int (Int32.ofNat 65))] [] (gcp I 76 68 130 0 65) Q) : ∀ n k : Nat, k + n = 65 → gg d mX12_restores 2 [some (.ref 67), some (.int 2), some (.int (Int32.ofNat k))] [] (gcp I 76 68 130 0 k) Q
  | 0, k, hk => by
    have e : k = 65 := by omega
    subst e
    refine G_iload_n (pc := 2) rfl dX12_restores_2 ?_
    refine G_bipush (pc := 3) (v := 65) (by decide) dX12_restores_3 ?_
    refine G_icmp_ge (pc := 5) (tgt := 31) (by decide) dX12_restores_5 (fun _ => hQ) (fun c => absurd (by decide) c)
  | n + 1, k, hk => by
    have hk1 : k < 1000 := by omega
    have ih := restores2_loop d I Q hQ n (k + 1) (by omega)
    refine G_iload_n (pc := 2) rfl dX12_restores_2 ?_
    refine G_bipush (pc := 3) (v := 65) (by decide) dX12_restores_3 ?_
    refine G_icmp_ge (pc := 5) (tgt := 31) (by decide) dX12_restores_5 (fun c => absurd c (by rw [Int32.le_iff_toInt_le, n_int hk1]; show ¬ ((65 : Int) ≤ _); omega)) (fun _ => ?_)
    refine G_aload_n (pc := 8) rfl dX12_restores_8 ?_
    refine G_getR (pc := 9) (ci := 12) (j := 0) rfl lq_RX12_9 rfl rfl rfl dX12_restores_9 ?_
    refine G_iload_n (pc := 12) rfl dX12_restores_12 ?_
    refine G_aload_n (pc := 13) rfl dX12_restores_13 ?_
    refine G_getR (pc := 14) (ci := 12) (j := 16) rfl lq_RX12_35 rfl rfl rfl dX12_restores_14 ?_
    refine G_bipush (pc := 17) (v := 65) (by decide) dX12_restores_17 ?_
    refine G_iload_n (pc := 19) rfl dX12_restores_19 ?_
    refine G_imul (pc := 20) (z := Int32.ofNat 130) (by decide) dX12_restores_20 ?_
    refine G_iload_n (pc := 21) rfl dX12_restores_21 ?_
    refine G_iadd (pc := 22) n_add dX12_restores_22 ?_
    refine G_iald (pc := 23) (n_clamp (show 130 + k < 1000 by omega)) rfl rfl (n_in (show 130 + k < 1000 by omega) (show 130 + k < 325 by omega)) dX12_restores_23 ?_
    refine G_iast (pc := 24) (n_clamp hk1) rfl (n_in hk1 (show k < 313 by omega)) dX12_restores_24 ?_
    rw [gcp_step (by decide) (by omega) (by omega)]
    refine G_iinc (pc := 25) (v := Int32.ofNat 1) n_add rfl rfl (by decide) rfl (by decide) dX12_restores_25 ?_
    refine G_goto (pc := 28) (tgt := 2) (by decide) dX12_restores_28 ?_
    exact ih
theorem restores2_G (d : Nat) (I : gI) (Q : Option Value → gH → Prop) (hQ : Q none (SH0, RF0, gcp I 76 68 130 0 65)) : gg d mX12_restores 0 (gent 3 [.ref 67, .int 2]) [] I Q := by
  refine G_iconst (pc := 0) (v := 0) (by decide) dX12_restores_0 ?_
  refine G_istore_n (pc := 1) rfl rfl (by decide) dX12_restores_1 ?_
  have h := restores2_loop d I Q (G_vret (pc := 31) (Nat.le_refl _) (Nat.le_refl _) rfl dX12_restores_31 hQ) 65 0 rfl
  rw [gcp_none] at h
  exact h
set_option maxRecDepth 100000 in
set_option maxHeartbeats 4000000 in
theorem saves3_loop (d : Nat) (I : gI) (Q : Option Value → gH → Prop) (hQ : gg d mX12_saves 31 [some (.ref 67), some (.int 3), some (.int (Int32.ofNat 65))] [] (gcp I 68 76 0 195 65) Q) : ∀ n k : Nat, k + n = 65 → gg d mX12_saves 2 [some (.ref 67), some (.int 3), some (.int (Int32.ofNat k))] [] (gcp I 68 76 0 195 k) Q
  | 0, k, hk => by
    have e : k = 65 := by omega
    subst e
    refine G_iload_n (pc := 2) rfl dX12_saves_2 ?_
    refine G_bipush (pc := 3) (v := 65) (by decide) dX12_saves_3 ?_
    refine G_icmp_ge (pc := 5) (tgt := 31) (by decide) dX12_saves_5 (fun _ => hQ) (fun c => absurd (by decide) c)
  | n + 1, k, hk => by
    have hk1 : k < 1000 := by omega
    have ih := saves3_loop d I Q hQ n (k + 1) (by omega)
    refine G_iload_n (pc := 2) rfl dX12_saves_2 ?_
    refine G_bipush (pc := 3) (v := 65) (by decide) dX12_saves_3 ?_
    refine G_icmp_ge (pc := 5) (tgt := 31) (by decide) dX12_saves_5 (fun c => absurd c (by rw [Int32.le_iff_toInt_le, n_int hk1]; show ¬ ((65 : Int) ≤ _); omega)) (fun _ => ?_)
    refine G_aload_n (pc := 8) rfl dX12_saves_8 ?_
    refine G_getR (pc := 9) (ci := 12) (j := 16) rfl lq_RX12_35 rfl rfl rfl dX12_saves_9 ?_
    refine G_bipush (pc := 12) (v := 65) (by decide) dX12_saves_12 ?_
    refine G_iload_n (pc := 14) rfl dX12_saves_14 ?_
    refine G_imul (pc := 15) (z := Int32.ofNat 195) (by decide) dX12_saves_15 ?_
    refine G_iload_n (pc := 16) rfl dX12_saves_16 ?_
    refine G_iadd (pc := 17) n_add dX12_saves_17 ?_
    refine G_aload_n (pc := 18) rfl dX12_saves_18 ?_
    refine G_getR (pc := 19) (ci := 12) (j := 0) rfl lq_RX12_9 rfl rfl rfl dX12_saves_19 ?_
    refine G_iload_n (pc := 22) rfl dX12_saves_22 ?_
    refine G_iald (pc := 23) (n_clamp hk1) rfl rfl (n_in hk1 (show k < 313 by omega)) dX12_saves_23 ?_
    refine G_iast (pc := 24) (n_clamp (show 195 + k < 1000 by omega)) rfl (n_in (show 195 + k < 1000 by omega) (show 195 + k < 325 by omega)) dX12_saves_24 ?_
    rw [gcp_step (by decide) (by omega) (by omega)]
    refine G_iinc (pc := 25) (v := Int32.ofNat 1) n_add rfl rfl (by decide) rfl (by decide) dX12_saves_25 ?_
    refine G_goto (pc := 28) (tgt := 2) (by decide) dX12_saves_28 ?_
    exact ih
theorem saves3_G (d : Nat) (I : gI) (Q : Option Value → gH → Prop) (hQ : Q none (SH0, RF0, gcp I 68 76 0 195 65)) : gg d mX12_saves 0 (gent 3 [.ref 67, .int 3]) [] I Q := by
  refine G_iconst (pc := 0) (v := 0) (by decide) dX12_saves_0 ?_
  refine G_istore_n (pc := 1) rfl rfl (by decide) dX12_saves_1 ?_
  have h := saves3_loop d I Q (G_vret (pc := 31) (Nat.le_refl _) (Nat.le_refl _) rfl dX12_saves_31 hQ) 65 0 rfl
  rw [gcp_none] at h
  exact h
set_option maxRecDepth 100000 in
set_option maxHeartbeats 4000000 in
theorem restores3_loop (d : Nat) (I : gI) (Q : Option Value → gH → Prop) (hQ : gg d mX12_restores 31 [some (.ref 67), some (.int 3), some (.int (Int32.ofNat 65))] [] (gcp I 76 68 195 0 65) Q) : ∀ n k : Nat, k + n = 65 → gg d mX12_restores 2 [some (.ref 67), some (.int 3), some (.int (Int32.ofNat k))] [] (gcp I 76 68 195 0 k) Q
  | 0, k, hk => by
    have e : k = 65 := by omega
    subst e
    refine G_iload_n (pc := 2) rfl dX12_restores_2 ?_
    refine G_bipush (pc := 3) (v := 65) (by decide) dX12_restores_3 ?_
    refine G_icmp_ge (pc := 5) (tgt := 31) (by decide) dX12_restores_5 (fun _ => hQ) (fun c => absurd (by decide) c)
  | n + 1, k, hk => by
    have hk1 : k < 1000 := by omega
    have ih := restores3_loop d I Q hQ n (k + 1) (by omega)
    refine G_iload_n (pc := 2) rfl dX12_restores_2 ?_
    refine G_bipush (pc := 3) (v := 65) (by decide) dX12_restores_3 ?_
    refine G_icmp_ge (pc := 5) (tgt := 31) (by decide) dX12_restores_5 (fun c => absurd c (by rw [Int32.le_iff_toInt_le, n_int hk1]; show ¬ ((65 : Int) ≤ _); omega)) (fun _ => ?_)
    refine G_aload_n (pc := 8) rfl dX12_restores_8 ?_
    refine G_getR (pc := 9) (ci := 12) (j := 0) rfl lq_RX12_9 rfl rfl rfl dX12_restores_9 ?_
    refine G_iload_n (pc := 12) rfl dX12_restores_12 ?_
    refine G_aload_n (pc := 13) rfl dX12_restores_13 ?_
    refine G_getR (pc := 14) (ci := 12) (j := 16) rfl lq_RX12_35 rfl rfl rfl dX12_restores_14 ?_
    refine G_bipush (pc := 17) (v := 65) (by decide) dX12_restores_17 ?_
    refine G_iload_n (pc := 19) rfl dX12_restores_19 ?_
    refine G_imul (pc := 20) (z := Int32.ofNat 195) (by decide) dX12_restores_20 ?_
    refine G_iload_n (pc := 21) rfl dX12_restores_21 ?_
    refine G_iadd (pc := 22) n_add dX12_restores_22 ?_
    refine G_iald (pc := 23) (n_clamp (show 195 + k < 1000 by omega)) rfl rfl (n_in (show 195 + k < 1000 by omega) (show 195 + k < 325 by omega)) dX12_restores_23 ?_
    refine G_iast (pc := 24) (n_clamp hk1) rfl (n_in hk1 (show k < 313 by omega)) dX12_restores_24 ?_
    rw [gcp_step (by decide) (by omega) (by omega)]
    refine G_iinc (pc := 25) (v := Int32.ofNat 1) n_add rfl rfl (by decide) rfl (by decide) dX12_restores_25 ?_
    refine G_goto (pc := 28) (tgt := 2) (by decide) dX12_restores_28 ?_
    exact ih
theorem restores3_G (d : Nat) (I : gI) (Q : Option Value → gH → Prop) (hQ : Q none (SH0, RF0, gcp I 76 68 195 0 65)) : gg d mX12_restores 0 (gent 3 [.ref 67, .int 3]) [] I Q := by
  refine G_iconst (pc := 0) (v := 0) (by decide) dX12_restores_0 ?_
  refine G_istore_n (pc := 1) rfl rfl (by decide) dX12_restores_1 ?_
  have h := restores3_loop d I Q (G_vret (pc := 31) (Nat.le_refl _) (Nat.le_refl _) rfl dX12_restores_31 hQ) 65 0 rfl
  rw [gcp_none] at h
  exact h
set_option maxRecDepth 100000 in
set_option maxHeartbeats 4000000 in
theorem saves4_loop (d : Nat) (I : gI) (Q : Option Value → gH → Prop) (hQ : gg d mX12_saves 31 [some (.ref 67), some (.int 4), some (.int (Int32.ofNat 65))] [] (gcp I 68 76 0 260 65) Q) : ∀ n k : Nat, k + n = 65 → gg d mX12_saves 2 [some (.ref 67), some (.int 4), some (.int (Int32.ofNat k))] [] (gcp I 68 76 0 260 k) Q
  | 0, k, hk => by
    have e : k = 65 := by omega
    subst e
    refine G_iload_n (pc := 2) rfl dX12_saves_2 ?_
    refine G_bipush (pc := 3) (v := 65) (by decide) dX12_saves_3 ?_
    refine G_icmp_ge (pc := 5) (tgt := 31) (by decide) dX12_saves_5 (fun _ => hQ) (fun c => absurd (by decide) c)
  | n + 1, k, hk => by
    have hk1 : k < 1000 := by omega
    have ih := saves4_loop d I Q hQ n (k + 1) (by omega)
    refine G_iload_n (pc := 2) rfl dX12_saves_2 ?_
    refine G_bipush (pc := 3) (v := 65) (by decide) dX12_saves_3 ?_
    refine G_icmp_ge (pc := 5) (tgt := 31) (by decide) dX12_saves_5 (fun c => absurd c (by rw [Int32.le_iff_toInt_le, n_int hk1]; show ¬ ((65 : Int) ≤ _); omega)) (fun _ => ?_)
    refine G_aload_n (pc := 8) rfl dX12_saves_8 ?_
    refine G_getR (pc := 9) (ci := 12) (j := 16) rfl lq_RX12_35 rfl rfl rfl dX12_saves_9 ?_
    refine G_bipush (pc := 12) (v := 65) (by decide) dX12_saves_12 ?_
    refine G_iload_n (pc := 14) rfl dX12_saves_14 ?_
    refine G_imul (pc := 15) (z := Int32.ofNat 260) (by decide) dX12_saves_15 ?_
    refine G_iload_n (pc := 16) rfl dX12_saves_16 ?_
    refine G_iadd (pc := 17) n_add dX12_saves_17 ?_
    refine G_aload_n (pc := 18) rfl dX12_saves_18 ?_
    refine G_getR (pc := 19) (ci := 12) (j := 0) rfl lq_RX12_9 rfl rfl rfl dX12_saves_19 ?_
    refine G_iload_n (pc := 22) rfl dX12_saves_22 ?_
    refine G_iald (pc := 23) (n_clamp hk1) rfl rfl (n_in hk1 (show k < 313 by omega)) dX12_saves_23 ?_
    refine G_iast (pc := 24) (n_clamp (show 260 + k < 1000 by omega)) rfl (n_in (show 260 + k < 1000 by omega) (show 260 + k < 325 by omega)) dX12_saves_24 ?_
    rw [gcp_step (by decide) (by omega) (by omega)]
    refine G_iinc (pc := 25) (v := Int32.ofNat 1) n_add rfl rfl (by decide) rfl (by decide) dX12_saves_25 ?_
    refine G_goto (pc := 28) (tgt := 2) (by decide) dX12_saves_28 ?_
    exact ih
theorem saves4_G (d : Nat) (I : gI) (Q : Option Value → gH → Prop) (hQ : Q none (SH0, RF0, gcp I 68 76 0 260 65)) : gg d mX12_saves 0 (gent 3 [.ref 67, .int 4]) [] I Q := by
  refine G_iconst (pc := 0) (v := 0) (by decide) dX12_saves_0 ?_
  refine G_istore_n (pc := 1) rfl rfl (by decide) dX12_saves_1 ?_
  have h := saves4_loop d I Q (G_vret (pc := 31) (Nat.le_refl _) (Nat.le_refl _) rfl dX12_saves_31 hQ) 65 0 rfl
  rw [gcp_none] at h
  exact h
set_option maxRecDepth 100000 in
set_option maxHeartbeats 4000000 in
theorem restores4_loop (d : Nat) (I : gI) (Q : Option Value → gH → Prop) (hQ : gg d mX12_restores 31 [some (.ref 67), some (.int 4), some (.int (Int32.ofNat 65))] [] (gcp I 76 68 260 0 65) Q) : ∀ n k : Nat, k + n = 65 → gg d mX12_restores 2 [some (.ref 67), some (.int 4), some (.int (Int32.ofNat k))] [] (gcp I 76 68 260 0 k) Q
  | 0, k, hk => by
    have e : k = 65 := by omega
    subst e
    refine G_iload_n (pc := 2) rfl dX12_restores_2 ?_
    refine G_bipush (pc := 3) (v := 65) (by decide) dX12_restores_3 ?_
    refine G_icmp_ge (pc := 5) (tgt := 31) (by decide) dX12_restores_5 (fun _ => hQ) (fun c => absurd (by decide) c)
  | n + 1, k, hk => by
    have hk1 : k < 1000 := by omega
    have ih := restores4_loop d I Q hQ n (k + 1) (by omega)
    refine G_iload_n (pc := 2) rfl dX12_restores_2 ?_
    refine G_bipush (pc := 3) (v := 65) (by decide) dX12_restores_3 ?_
    refine G_icmp_ge (pc := 5) (tgt := 31) (by decide) dX12_restores_5 (fun c => absurd c (by rw [Int32.le_iff_toInt_le, n_int hk1]; show ¬ ((65 : Int) ≤ _); omega)) (fun _ => ?_)
    refine G_aload_n (pc := 8) rfl dX12_restores_8 ?_
    refine G_getR (pc := 9) (ci := 12) (j := 0) rfl lq_RX12_9 rfl rfl rfl dX12_restores_9 ?_
    refine G_iload_n (pc := 12) rfl dX12_restores_12 ?_
    refine G_aload_n (pc := 13) rfl dX12_restores_13 ?_
    refine G_getR (pc := 14) (ci := 12) (j := 16) rfl lq_RX12_35 rfl rfl rfl dX12_restores_14 ?_
    refine G_bipush (pc := 17) (v := 65) (by decide) dX12_restores_17 ?_
    refine G_iload_n (pc := 19) rfl dX12_restores_19 ?_
    refine G_imul (pc := 20) (z := Int32.ofNat 260) (by decide) dX12_restores_20 ?_
    refine G_iload_n (pc := 21) rfl dX12_restores_21 ?_
    refine G_iadd (pc := 22) n_add dX12_restores_22 ?_
    refine G_iald (pc := 23) (n_clamp (show 260 + k < 1000 by omega)) rfl rfl (n_in (show 260 + k < 1000 by omega) (show 260 + k < 325 by omega)) dX12_restores_23 ?_
    refine G_iast (pc := 24) (n_clamp hk1) rfl (n_in hk1 (show k < 313 by omega)) dX12_restores_24 ?_
    rw [gcp_step (by decide) (by omega) (by omega)]
    refine G_iinc (pc := 25) (v := Int32.ofNat 1) n_add rfl rfl (by decide) rfl (by decide) dX12_restores_25 ?_
    refine G_goto (pc := 28) (tgt := 2) (by decide) dX12_restores_28 ?_
    exact ih
theorem restores4_G (d : Nat) (I : gI) (Q : Option Value → gH → Prop) (hQ : Q none (SH0, RF0, gcp I 76 68 260 0 65)) : gg d mX12_restores 0 (gent 3 [.ref 67, .int 4]) [] I Q := by
  refine G_iconst (pc := 0) (v := 0) (by decide) dX12_restores_0 ?_
  refine G_istore_n (pc := 1) rfl rfl (by decide) dX12_restores_1 ?_
  have h := restores4_loop d I Q (G_vret (pc := 31) (Nat.le_refl _) (Nat.le_refl _) rfl dX12_restores_31 hQ) 65 0 rfl
  rw [gcp_none] at h
  exact h
