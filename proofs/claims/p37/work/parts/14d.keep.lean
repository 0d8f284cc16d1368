/-! ===== the reference's keep and again ===== -/
theorem WFr_tr {I I' : gI} {c c0 r : Nat} (hr : r < 8) (h : ∀ j, j < 313 → I' c j = I c0 j) (hw : WFr I c0 r) : WFr I' c r := by
  have he : ∀ q, q < 8 → wEnd I' c q = wEnd I c0 q := fun q hq => by unfold wEnd; rw [h _ (by omega)]
  have hb : wBeg I' c r = wBeg I c0 r := by
    unfold wBeg
    by_cases h0 : r = 0
    · rw [if_pos h0, if_pos h0]
    · rw [if_neg h0, if_neg h0, he _ (by omega)]
  obtain ⟨g1, g2, g3, g4⟩ := hw
  refine ⟨by rw [hb]; exact g1, by rw [hb]; exact g2, by rw [he r hr]; exact g3, ?_⟩
  rw [hb, he r hr, rdn_eq (f' := fun p => I c0 (113 + p)) _ _ _ (fun q h1 h2 => h _ (by omega))]
  exact g4
/-- a public method: from any heap in order it ends, answers a number, leaves a heap in order -/
def pbQ (P : Int32 → Prop) : Option Value → gH → Prop := fun r h => (∃ x : Int32, r = some (.int x) ∧ P x) ∧ ∃ I', h = (SH0, RF0, I') ∧ aInv bT I' ∧ WP I'
def pbOK (M : gM) (cell n : Nat) : Prop := ∀ (d : Nat) (xs : List Int32) (I : gI), xs.length = n → aInv bT I → WP I → gg (d + 40) M 0 (gent M.2.2.1 (.ref cell :: xs.map Value.int)) [] I (pbQ (fun _ => True))

set_option maxRecDepth 100000 in
set_option maxHeartbeats 4000000 in
theorem keepM_loop (d : Nat) (I : gI) (Q : Option Value → gH → Prop) (hQ : gg d mX12_keep 27 [some (.ref 67), some (.int (Int32.ofNat 313))] [] (gcp I 68 69 0 0 313) Q) : ∀ n k : Nat, k + n = 313 → gg d mX12_keep 2 [some (.ref 67), some (.int (Int32.ofNat k))] [] (gcp I 68 69 0 0 k) Q
  | 0, k, hk => by
    have e : k = 313 := by omega
    subst e
    refine G_iload_n (pc := 2) rfl dX12_keep_2 ?_
    refine G_sipush (pc := 3) (v := 313) (by decide) dX12_keep_3 ?_
    exact G_icmp_ge (pc := 6) (tgt := 27) (by decide) dX12_keep_6 (fun _ => hQ) (fun c => absurd (by decide) c)
  | n + 1, k, hk => by
    have hk1 : k < 1000 := by omega
    have ih := keepM_loop d I Q hQ n (k + 1) (by omega)
    refine G_iload_n (pc := 2) rfl dX12_keep_2 ?_
    refine G_sipush (pc := 3) (v := 313) (by decide) dX12_keep_3 ?_
    refine G_icmp_ge (pc := 6) (tgt := 27) (by decide) dX12_keep_6 (fun c => absurd c (by rw [Int32.le_iff_toInt_le, n_int hk1]; show ¬ ((313 : Int) ≤ _); omega)) (fun _ => ?_)
    refine G_aload_n (pc := 9) rfl dX12_keep_9 ?_
    refine G_getR (pc := 10) (ci := 12) (j := 1) rfl lq_RX12_13 rfl rfl rfl dX12_keep_10 ?_
    refine G_iload_n (pc := 13) rfl dX12_keep_13 ?_
    refine G_aload_n (pc := 14) rfl dX12_keep_14 ?_
    refine G_getR (pc := 15) (ci := 12) (j := 0) rfl lq_RX12_9 rfl rfl rfl dX12_keep_15 ?_
    refine G_iload_n (pc := 18) rfl dX12_keep_18 ?_
    refine G_iald (pc := 19) (n_clamp hk1) rfl rfl (n_in hk1 (show k < 313 by omega)) dX12_keep_19 ?_
    refine G_iast (pc := 20) (n_clamp hk1) rfl (n_in hk1 (show k < 313 by omega)) dX12_keep_20 ?_
    rw [gcp_step (by decide) (by omega) (by omega)]
    refine G_iinc (pc := 21) (v := Int32.ofNat 1) n_add rfl rfl (by decide) rfl (by decide) dX12_keep_21 ?_
    refine G_goto (pc := 24) (tgt := 2) (by decide) dX12_keep_24 ?_
    exact ih
set_option maxRecDepth 100000 in
set_option maxHeartbeats 4000000 in
theorem againM_loop (d : Nat) (I : gI) (Q : Option Value → gH → Prop) (hQ : gg d mX12_again 37 [some (.ref 67), some (.int (Int32.ofNat 313))] [] (gcp I 69 68 0 0 313) Q) : ∀ n k : Nat, k + n = 313 → gg d mX12_again 12 [some (.ref 67), some (.int (Int32.ofNat k))] [] (gcp I 69 68 0 0 k) Q
  | 0, k, hk => by
    have e : k = 313 := by omega
    subst e
    refine G_iload_n (pc := 12) rfl dX12_again_12 ?_
    refine G_sipush (pc := 13) (v := 313) (by decide) dX12_again_13 ?_
    exact G_icmp_ge (pc := 16) (tgt := 37) (by decide) dX12_again_16 (fun _ => hQ) (fun c => absurd (by decide) c)
  | n + 1, k, hk => by
    have hk1 : k < 1000 := by omega
    have ih := againM_loop d I Q hQ n (k + 1) (by omega)
    refine G_iload_n (pc := 12) rfl dX12_again_12 ?_
    refine G_sipush (pc := 13) (v := 313) (by decide) dX12_again_13 ?_
    refine G_icmp_ge (pc := 16) (tgt := 37) (by decide) dX12_again_16 (fun c => absurd c (by rw [Int32.le_iff_toInt_le, n_int hk1]; show ¬ ((313 : Int) ≤ _); omega)) (fun _ => ?_)
    refine G_aload_n (pc := 19) rfl dX12_again_19 ?_
    refine G_getR (pc := 20) (ci := 12) (j := 0) rfl lq_RX12_9 rfl rfl rfl dX12_again_20 ?_
    refine G_iload_n (pc := 23) rfl dX12_again_23 ?_
    refine G_aload_n (pc := 24) rfl dX12_again_24 ?_
    refine G_getR (pc := 25) (ci := 12) (j := 1) rfl lq_RX12_13 rfl rfl rfl dX12_again_25 ?_
    refine G_iload_n (pc := 28) rfl dX12_again_28 ?_
    refine G_iald (pc := 29) (n_clamp hk1) rfl rfl (n_in hk1 (show k < 313 by omega)) dX12_again_29 ?_
    refine G_iast (pc := 30) (n_clamp hk1) rfl (n_in hk1 (show k < 313 by omega)) dX12_again_30 ?_
    rw [gcp_step (by decide) (by omega) (by omega)]
    refine G_iinc (pc := 31) (v := Int32.ofNat 1) n_add rfl rfl (by decide) rfl (by decide) dX12_again_31 ?_
    refine G_goto (pc := 34) (tgt := 12) (by decide) dX12_again_34 ?_
    exact ih
theorem cp_inv {I : gI} {x y : Nat} (hb : cpB x y 0 0 313 = true) (hi : aInv bT I) : aInv bT (gcp I x y 0 0 313) := fun c j => by
  rw [gcp_at]
  split
  next h =>
    obtain ⟨rfl, h1, h2⟩ := h
    have hb1 := List.all_eq_true.mp hb (j - 0) (List.mem_range.mpr (by omega))
    rw [show 0 + (j - 0) = j by omega] at hb1
    rw [show 0 + (j - 0) = j by omega]
    exact asub_ok hb1 (hi x j)
  next => exact hi c j
theorem cp_wf {I : gI} {x y : Nat} (hx : x = 68 ∨ x = 69) (hxy : x ≠ y) (hw : WF0 I) : WF0 (gcp I x y 0 0 313) := by
  have e1 : ∀ j, j < 313 → gcp I x y 0 0 313 y j = I x j := fun j hj => by rw [gcp_at, if_pos ⟨rfl, by omega, by omega⟩]; congr 1; omega
  have e2 : ∀ c j, c ≠ y → gcp I x y 0 0 313 c j = I c j := fun c j hc => by rw [gcp_at, if_neg (fun q => hc q.1)]
  intro c hc r hr hr5
  by_cases hcy : c = y
  · subst hcy
    rw [e1 5 (by decide)] at hr5
    exact WFr_tr hr e1 (hw x hx r hr hr5)
  · rw [e2 c 5 hcy] at hr5
    exact WFr_tr hr (fun j _ => e2 c j hcy) (hw c hc r hr hr5)
/-- any end of a method with a number -/
def pbM (P : Int32 → gI → Prop) : Option Value → gH → Prop := fun r h => ∃ (x : Int32) (J : gI), r = some (.int x) ∧ h = (SH0, RF0, J) ∧ P x J
theorem cp_at {I : gI} {x y : Nat} {j : Nat} (hj : j < 313) : gcp I x y 0 0 313 y j = I x j := by
  rw [gcp_at, if_pos ⟨rfl, by omega, by omega⟩]
  congr 1
  omega
theorem cp_ne {I : gI} {x y c : Nat} {j : Nat} (hc : c ≠ y) : gcp I x y 0 0 313 c j = I c j := by rw [gcp_at, if_neg (fun q => hc q.1)]
theorem rlM_k : rlM.all (fun q => decide (q.1 < 67) && decide (q.2.2.1 < 67) && decide (q.2.2.2.2 < 313)) = true := by decide +kernel
theorem rlM_b {q : Nat × Nat × Nat × Nat × Nat} (hq : q ∈ rlM) : q.1 < 67 ∧ q.2.2.1 < 67 ∧ q.2.2.2.2 < 313 := by
  have h := List.all_eq_true.mp rlM_k q hq
  simp only [Bool.and_eq_true, decide_eq_true_eq] at h
  exact ⟨h.1.1, h.1.2, h.2⟩
theorem rlO_k : rlO.all (fun e => decide (e.1 < 67) && (decide (e.2.2.1 < 68) || decide (69 < e.2.2.1)) && (decide (e.2.2.1 ≠ 67) || decide (e.2.2.2 ≠ 3))) = true := by decide +kernel
theorem rlO_b {e : Nat × Nat × Nat × Nat} (he : e ∈ rlO) : e.1 < 67 ∧ (e.2.2.1 < 68 ∨ 69 < e.2.2.1) ∧ (e.2.2.1 ≠ 67 ∨ e.2.2.2 ≠ 3) := by
  have h := List.all_eq_true.mp rlO_k e he
  simp only [Bool.and_eq_true, Bool.or_eq_true, decide_eq_true_eq] at h
  exact ⟨h.1.1, h.1.2, h.2⟩
theorem rxS_k : (dsj [(68, 0, 400)] rxS && dsj [(69, 0, 400)] rxS && dsj [(67, 3, 3)] rxS && rxS.all (fun r => decide (r.2.2 < 400))) = true := by decide +kernel
theorem rxS_b {c j : Nat} (hx : amodr rxS c j j = true) : c ≠ 68 ∧ c ≠ 69 ∧ (c ≠ 67 ∨ j ≠ 3) := by
  have h := rxS_k
  simp only [Bool.and_eq_true] at h
  obtain ⟨⟨⟨h1, h2⟩, h3⟩, h4⟩ := h
  have hj : j < 400 := by
    obtain ⟨r, hr, h5⟩ := List.any_eq_true.mp hx
    have h6 := of_decide_eq_true (List.all_eq_true.mp h4 r hr)
    simp only [Bool.and_eq_true, decide_eq_true_eq] at h5
    omega
  have g1 := dsj_ok h1 hx
  have g2 := dsj_ok h2 hx
  have g3 := dsj_ok h3 hx
  refine ⟨fun e => ?_, fun e => ?_, ?_⟩
  · subst e
    rw [amodr_i (a := 0) (b := 400) List.mem_cons_self (Nat.zero_le _) (by omega)] at g1
    cases g1
  · subst e
    rw [amodr_i (a := 0) (b := 400) List.mem_cons_self (Nat.zero_le _) (by omega)] at g2
    cases g2
  · by_cases e : c = 67 ∧ j = 3
    · obtain ⟨rfl, rfl⟩ := e
      rw [amodr_i (a := 3) (b := 3) List.mem_cons_self (Nat.le_refl _) (Nat.le_refl _)] at g3
      cases g3
    · omega
set_option maxRecDepth 100000 in
set_option maxHeartbeats 4000000 in
theorem pb_keepM (d : Nat) (I : gI) (hi : aInv bT I) (hw : WF0 I) (h1 : rM I) (h2 : ∀ q ∈ rlM, I q.2.2.1 q.2.2.2.1 = I q.1 q.2.1) (h3 : I 0 2 = 1) (h4 : rO I) (h5 : rX I) : gg (d + 40) mX12_keep 0 (gent 2 [.ref 67]) [] I (pbM (fun _ J => aInv bT J ∧ WP J ∧ J = gup (gcp I 68 69 0 0 313) 67 3 1)) := by
  refine G_iconst (pc := 0) (v := 0) (by decide) dX12_keep_0 ?_
  refine G_istore_n (pc := 1) rfl rfl (by decide) dX12_keep_1 ?_
  have h := keepM_loop (d + 40) I (pbM (fun _ J => aInv bT J ∧ WP J ∧ J = gup (gcp I 68 69 0 0 313) 67 3 1)) (by
    refine G_aload_n (pc := 27) rfl dX12_keep_27 ?_
    refine G_iconst (pc := 28) (v := 1) (by decide) dX12_keep_28 ?_
    refine G_putI (pc := 29) (ci := 12) (j := 3) rfl lq_RX12_369 rfl rfl rfl (Or.inr rfl) dX12_keep_29 ?_
    refine G_iconst (pc := 32) (v := 1) (by decide) dX12_keep_32 ?_
    refine G_iret (pc := 33) (Nat.le_refl _) (Nat.le_refl _) rfl dX12_keep_33 ⟨1, _, rfl, rfl, inv_put (cp_inv (by decide +kernel) hi) ?_, ⟨WF0_tr (cp_wf (Or.inl rfl) (by decide) hw) (fun c j hc _ => gup_ne (Or.inl (by omega))), fun q hq => ?_, ?_, fun _ q hq => ?_, fun e he => ?_, rX_eq h5 (fun c j hx => ?_)⟩, rfl⟩
    · rw [show bnd bT 67 3 = (0, 1) by decide +kernel]
      exact ⟨by decide, by decide⟩
    · obtain ⟨b1, b2, b3⟩ := rlM_b hq
      rw [gup_ne (Or.inl (by omega)), gup_ne (Or.inl (by decide)), cp_ne (by omega), cp_ne (by decide)]
      exact h1 q hq
    · rw [gup_ne (Or.inl (by decide)), gup_at, cp_ne (by decide)]
      exact h3
    · obtain ⟨b1, b2, b3⟩ := rlM_b hq
      rw [gup_ne (Or.inl (by omega)), gup_ne (Or.inl (by decide)), cp_ne (by omega), cp_at b3, h2 q hq]
      exact h1 q hq
    · obtain ⟨b1, b2, b3⟩ := rlO_b he
      rw [gup_ne (Or.inl (by omega)), gup_ne b3, cp_ne (by omega), cp_ne (by omega)]
      exact h4 e he
    · obtain ⟨b1, b2, b3⟩ := rxS_b hx
      rw [gup_ne b3, cp_ne b2]) 313 0 rfl
  rw [gcp_none] at h
  exact h
set_option maxRecDepth 100000 in
set_option maxHeartbeats 4000000 in
theorem pb_againM (d : Nat) (I : gI) (hi : aInv bT I) (hw : WF0 I) (hR : (I 67 3 = 0 ∧ WP I) ∨ (¬ I 67 3 = 0 ∧ rK I ∧ (∀ q ∈ rlM, I q.1 q.2.1 = I q.2.2.1 q.2.2.2.1) ∧ I 0 2 = I 67 3 ∧ rO I ∧ rX I)) : gg (d + 40) mX12_again 0 (gent 2 [.ref 67]) [] I (pbM (fun _ J => aInv bT J ∧ WP J ∧ ((¬ I 67 3 = 0 ∧ J = gcp I 69 68 0 0 313) ∨ (I 67 3 = 0 ∧ J = I)))) := by
  refine G_aload_n (pc := 0) rfl dX12_again_0 ?_
  refine G_getI (pc := 1) (ci := 12) (j := 3) rfl rfl lq_RX12_369 rfl rfl dX12_again_1 ?_
  refine G_if_ne (pc := 4) (tgt := 10) (by decide) dX12_again_4 (fun z => ?_) (fun z => ?_)
  · rcases hR with hR | ⟨h0, h1, h2, h3, h4, h5⟩
    · exact absurd hR.1 z
    refine G_iconst (pc := 10) (v := 0) (by decide) dX12_again_10 ?_
    refine G_istore_n (pc := 11) rfl rfl (by decide) dX12_again_11 ?_
    have h := againM_loop (d + 40) I (pbM (fun _ J => aInv bT J ∧ WP J ∧ ((¬ I 67 3 = 0 ∧ J = gcp I 69 68 0 0 313) ∨ (I 67 3 = 0 ∧ J = I)))) (by
      refine G_aload_n (pc := 37) rfl dX12_again_37 ?_
      refine G_getR (pc := 38) (ci := 12) (j := 0) rfl lq_RX12_9 rfl rfl rfl dX12_again_38 ?_
      refine G_iconst (pc := 41) (v := 4) (by decide) dX12_again_41 ?_
      refine G_iald (pc := 42) (jj := 4) rfl rfl rfl (a_vin (by decide) (by decide)) dX12_again_42 ?_
      refine G_iret (pc := 43) (Nat.le_refl _) (Nat.le_refl _) rfl dX12_again_43 ⟨_, _, rfl, rfl, cp_inv (by decide +kernel) hi, ⟨cp_wf (Or.inr rfl) (by decide) hw, fun q hq => ?_, ?_, fun _ q hq => ?_, fun e he => ?_, rX_eq h5 (fun c j hx => cp_ne (rxS_b hx).1)⟩, Or.inl ⟨z, rfl⟩⟩
      · obtain ⟨b1, b2, b3⟩ := rlM_b hq
        rw [cp_ne (by omega), cp_at b3, h2 q hq]
        exact h1 q hq
      · rw [cp_ne (by decide), cp_ne (by decide)]
        exact h3
      · obtain ⟨b1, b2, b3⟩ := rlM_b hq
        rw [cp_ne (by omega), cp_ne (by decide)]
        exact h1 q hq
      · obtain ⟨b1, b2, b3⟩ := rlO_b he
        rw [cp_ne (by omega), cp_ne (by omega)]
        exact h4 e he) 313 0 rfl
    rw [gcp_none] at h
    exact h
  · rcases hR with ⟨h0, h1⟩ | hR
    · refine G_bipush (pc := 7) (v := -3) (by decide) dX12_again_7 ?_
      exact G_iret (pc := 9) (Nat.le_refl _) (Nat.le_refl _) rfl dX12_again_9 ⟨_, _, rfl, rfl, hi, h1, Or.inr ⟨h0, rfl⟩⟩
    · exact absurd z hR.1
