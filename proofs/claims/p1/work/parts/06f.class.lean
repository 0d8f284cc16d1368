def gEq (X : Nat → Nat → Bool) (I : gI) : Prop := ∀ a j, X a j = false → I a j = I0 a j
theorem gEq_refl (X : Nat → Nat → Bool) : gEq X I0 := fun _ _ _ => rfl
theorem gEq_up {X : Nat → Nat → Bool} {I : gI} {x j0 : Nat} {v : Int32} (h : gEq X I) (hx : X x j0 = true) : gEq X (gup I x j0 v) := by
  intro a j ha
  have e : gup I x j0 v a j = I a j := by
    unfold gup
    by_cases h1 : a = x
    · by_cases h2 : j = j0
      · subst h1; subst h2; rw [hx] at ha; exact absurd ha (by decide)
      · rw [if_pos h1, if_neg h2]
    · rw [if_neg h1]
  rw [e]; exact h a j ha
theorem gEq_same {X : Nat → Nat → Bool} {I : gI} {x j0 : Nat} {v : Int32} (h : gEq X I) (hx : I0 x j0 = v) : gEq X (gup I x j0 v) := by
  intro a j ha
  unfold gup
  by_cases h1 : a = x
  · by_cases h2 : j = j0
    · rw [if_pos h1, if_pos h2, h1, h2]; exact hx.symm
    · rw [if_pos h1, if_neg h2]; exact h a j ha
  · rw [if_neg h1]; exact h a j ha
theorem gEq_cp {X : Nat → Nat → Bool} {I : gI} {x y sp dp nn : Nat} (h : gEq X I) (hx : ∀ j, X y j = true) : gEq X (gcp I x y sp dp nn) := by
  intro a j ha
  have e : a ≠ y := by intro e; subst e; rw [hx] at ha; exact absurd ha (by decide)
  rw [gcp_off e]; exact h a j ha
theorem g_inc {i : Int32} (h : i.toInt < 2147483647) : (i + 1).toInt = i.toInt + 1 := by
  have h1 := i.le_toInt
  rw [Int32.toInt_add]
  have e : (1 : Int32).toInt = 1 := rfl
  rw [e]
  apply Int.bmod_eq_of_le
  · simp at h1 ⊢; omega
  · simp; omega
theorem g_rem1 (x : Int32) : x - x / 1 * 1 = 0 := by simp
theorem g_in {i : Int32} {n : Nat} (h : 0 ≤ i.toInt) (h2 : i.toInt < n) : vp_in i n := by
  intro z
  rcases z with z | z
  · have := Int32.lt_iff_toInt_lt.mp z
    have e : (0 : Int32).toInt = 0 := rfl
    omega
  · have e : i.toNatClampNeg = i.toInt.toNat := rfl
    omega
theorem G_drop {d : Nat} {M : gM} {mc ms k n pc : Nat} {L L1 : gL} {S : List Value} {sh : List (Nat × Nat)} {R : gR} {I : gI} {Q : Option Value → gH → Prop} (i : Nat) (e : L.set i none = L1) (kk : G d M mc ms k n pc L1 S sh R I Q) : G d M mc ms k n pc L S sh R I Q := by
  subst e
  intro p l e s m args below meth c H locs ls b D cy hC hF hS hW hl
  refine kk p l e s m args below meth c H locs ls b D cy hC hF hS hW ⟨hl.1, ?_, ?_⟩
  · exact hl.2.1
  · intro q hq
    obtain ⟨j, v, h1, rfl⟩ := gal_mem.mp hq
    refine hl.2.2 _ (gal_mem.mpr ⟨j, v, ?_, rfl⟩)
    rw [List.getElem?_set] at h1
    split at h1
    · split at h1 <;> cases h1
    · exact h1
def gX1 (a j : Nat) : Bool := (a == 19 && (j == 1 || j == 3 || j == 4 || j == 9)) || a == 24 || a == 33 || a == 34
def gX2 (a _j : Nat) : Bool := a == 2 || a == 3 || a == 5 || a == 6 || a == 7 || a == 8
theorem gX1_far {I : gI} (h : gEq gX1 I) : ∀ a, 67 ≤ a → I a = I0 a := fun a ha => funext fun j => h a j (by simp [gX1]; omega)
theorem gX2_far {I : gI} (h : gEq gX2 I) : ∀ a, 67 ≤ a → I a = I0 a := fun a ha => funext fun j => h a j (by simp [gX2]; omega)
theorem g_lk {i : Int32} (h0 : 0 ≤ i.toInt) (h1 : i.toInt < 500) : 1 ≤ 1 + i / 100 ∧ 1 + i / 100 ≤ 5 := by
  have e : (1 + i / 100).toInt = 1 + i.toInt / 100 := by
    rw [Int32.toInt_add, Int32.toInt_div_of_ne_right _ _ (by decide)]
    have e1 : (1 : Int32).toInt = 1 := rfl
    have e2 : (100 : Int32).toInt = 100 := rfl
    rw [e1, e2, Int.tdiv_eq_ediv_of_nonneg h0]
    apply Int.bmod_eq_of_le
    · simp; omega
    · simp; omega
  rw [Int32.le_iff_toInt_le, Int32.le_iff_toInt_le, e]
  have e1 : (1 : Int32).toInt = 1 := rfl
  have e5 : (5 : Int32).toInt = 5 := rfl
  omega
set_option maxRecDepth 100000 in
set_option maxHeartbeats 4000000 in
theorem s449_X1_drawAct  (d : Nat) (I : gI) (hI : gEq gX1 I)  : G (d) mX1_drawAct 0 0 0 0 0 (gent 1 [.ref 19]) [] SH0 RF0 I (fun r h => r = some (.int 0) ∧ h = (SH0, RF0, (gup I 19 4 (((I 19 4) * 1103515245) + 12345)))) := by
  refine G_aload_n (pc := 0) rfl dX1_drawAct_0 ?_
  refine G_aload_n (pc := 1) rfl dX1_drawAct_1 ?_
  refine G_getI (pc := 2) (v := (I 19 4)) (ci := 1) (j := 4) rfl rfl lk_RX1_15 rfl rfl dX1_drawAct_2 ?_
  refine G_ldc (pc := 5) (v := 1103515245) ck_RX1_160 dX1_drawAct_5 ?_
  refine G_imul (pc := 7) rfl dX1_drawAct_7 ?_
  refine G_sipush (pc := 8) (v := 12345) (by decide) dX1_drawAct_8 ?_
  refine G_iadd (pc := 11) rfl dX1_drawAct_11 ?_
  refine G_putI (pc := 12) (ci := 1) (j := 4) rfl lk_RX1_15 rfl rfl rfl trivial dX1_drawAct_12 ?_
  refine G_aload_n (pc := 15) rfl dX1_drawAct_15 ?_
  refine G_getI (pc := 16) (v := (((I 19 4) * 1103515245) + 12345)) (ci := 1) (j := 4) rfl rfl lk_RX1_15 rfl rfl dX1_drawAct_16 ?_
  refine G_bipush (pc := 19) (v := 16) (by decide) dX1_drawAct_19 ?_
  refine G_iushr (pc := 21) rfl dX1_drawAct_21 ?_
  refine G_aload_n (pc := 22) rfl dX1_drawAct_22 ?_
  refine G_getI (pc := 23) (v := 0) (ci := 1) (j := 8) (hI 19 8 rfl) rfl lk_RX1_72 rfl rfl dX1_drawAct_23 ?_
  refine G_iconst (pc := 26) (v := 1) (by decide) dX1_drawAct_26 ?_
  refine G_iadd (pc := 27) (z := 1) (by decide) dX1_drawAct_27 ?_
  refine G_irem (pc := 28) (z := 0) (g_rem1 _) (by decide) dX1_drawAct_28 ?_
  exact G_iret (pc := 29) (Nat.le_of_ble_eq_true rfl) (Nat.le_of_ble_eq_true rfl) rfl dX1_drawAct_29 ⟨rfl, rfl⟩
set_option maxRecDepth 100000 in
set_option maxHeartbeats 4000000 in
theorem s451_X1_isKey  (d : Nat) (I : gI) (hI : gEq gX1 I)  : G (d) mX1_isKey 0 0 0 0 0 (gent 2 [.ref 19, .int (-1)]) [] SH0 RF0 (gup I 19 4 (((I 19 4) * 1103515245) + 12345)) (fun r h => r = some (.int 0) ∧ h = (SH0, RF0, (gup I 19 4 (((I 19 4) * 1103515245) + 12345)))) := by
  refine G_iload_n (pc := 0) rfl dX1_isKey_0 ?_
  refine G_if_lt (pc := 1) (tgt := 16) (by decide) dX1_isKey_1 (fun _ => ?_) (fun z => absurd (by decide) z)
  refine G_iconst (pc := 16) (v := 0) (by decide) dX1_isKey_16 ?_
  exact G_zret (pc := 17) (Nat.le_of_ble_eq_true rfl) (Nat.le_of_ble_eq_true rfl) rfl (by decide) dX1_isKey_17 ⟨rfl, rfl⟩
set_option maxRecDepth 100000 in
set_option maxHeartbeats 4000000 in
theorem s450_X1_tell  (d : Nat) (I : gI) (hI : gEq gX1 I)  : G (d + 1) mX1_tell 0 0 0 0 0 (gent 5 [.ref 19, .int 0]) [] SH0 RF0 (gup I 19 4 (((I 19 4) * 1103515245) + 12345)) (fun r h => r = some (.int 0) ∧ h = (SH0, RF0, (gup I 19 4 (((I 19 4) * 1103515245) + 12345)))) := by
  refine G_iload_n (pc := 0) rfl dX1_tell_0 ?_
  refine G_iconst (pc := 1) (v := 1) (by decide) dX1_tell_1 ?_
  refine G_isub (pc := 2) (z := (-1)) (by decide) dX1_tell_2 ?_
  refine G_istore_n (pc := 3) (L1 := [some (.ref 19), some (.int 0), some (.int (-1)), none, none]) rfl rfl (by decide) dX1_tell_3 ?_
  refine G_aload_n (pc := 4) rfl dX1_tell_4 ?_
  refine G_iload_n (pc := 5) rfl dX1_tell_5 ?_
  refine G_callV (pc := 6) (mc1 := 0) (ms1 := 0) (ci := 1) (mj := mX1_isKey) (vs := [_]) dX1_tell_6 rfl rfl cm_X1_isKey wf_68 wf_13 wf_14 rfl (Nat.le_of_ble_eq_true rfl) (Nat.le_of_ble_eq_true rfl) (Nat.le_of_ble_eq_true rfl) (Nat.le_of_ble_eq_true rfl) (s451_X1_isKey  d _ hI ) ?_
  rintro _ _ ⟨rfl, rfl⟩
  dsimp only [Option.toList, List.cons_append, List.nil_append]
  refine G_if_eq (pc := 9) (tgt := 20) (by decide) dX1_tell_9 (fun _ => ?_) (fun z => absurd (by decide) z)
  refine G_iconst (pc := 20) (v := 0) (by decide) dX1_tell_20 ?_
  exact G_iret (pc := 21) (Nat.le_of_ble_eq_true rfl) (Nat.le_of_ble_eq_true rfl) rfl dX1_tell_21 ⟨rfl, rfl⟩
set_option maxRecDepth 100000 in
set_option maxHeartbeats 4000000 in
theorem s452_X1_melt  (d : Nat) (I : gI) (hI : gEq gX1 I)  : G (d) mX1_melt 0 0 0 0 0 (gent 3 [.ref 19]) [] SH0 RF0 (gup I 19 4 (((I 19 4) * 1103515245) + 12345)) (fun r h => r = some (.int 0) ∧ h = (SH0, RF0, (gup (gup I 19 4 (((I 19 4) * 1103515245) + 12345)) 19 1 ((I 19 1) + 1)))) := by
  refine G_iconst (pc := 0) (v := 0) (by decide) dX1_melt_0 ?_
  refine G_istore_n (pc := 1) (L1 := [some (.ref 19), some (.int 0), none]) rfl rfl (by decide) dX1_melt_1 ?_
  refine G_iconst (pc := 2) (v := 0) (by decide) dX1_melt_2 ?_
  refine G_istore_n (pc := 3) (L1 := [some (.ref 19), some (.int 0), some (.int 0)]) rfl rfl (by decide) dX1_melt_3 ?_
  refine G_iload_n (pc := 4) rfl dX1_melt_4 ?_
  refine G_aload_n (pc := 5) rfl dX1_melt_5 ?_
  refine G_getI (pc := 6) (v := 0) (ci := 1) (j := 8) (hI 19 8 rfl) rfl lk_RX1_72 rfl rfl dX1_melt_6 ?_
  refine G_icmp_ge (pc := 9) (tgt := 60) (by decide) dX1_melt_9 (fun _ => ?_) (fun z => absurd (by decide) z)
  refine G_aload_n (pc := 60) rfl dX1_melt_60 ?_
  refine G_dup (pc := 61) rfl dX1_melt_61 ?_
  refine G_getI (pc := 62) (v := (I 19 1)) (ci := 1) (j := 1) rfl rfl lk_RX1_60 rfl rfl dX1_melt_62 ?_
  refine G_iconst (pc := 65) (v := 1) (by decide) dX1_melt_65 ?_
  refine G_iadd (pc := 66) rfl dX1_melt_66 ?_
  refine G_putI (pc := 67) (ci := 1) (j := 1) rfl lk_RX1_60 rfl rfl rfl trivial dX1_melt_67 ?_
  refine G_iload_n (pc := 70) rfl dX1_melt_70 ?_
  exact G_iret (pc := 71) (Nat.le_of_ble_eq_true rfl) (Nat.le_of_ble_eq_true rfl) rfl dX1_melt_71 ⟨rfl, rfl⟩
set_option maxRecDepth 100000 in
set_option maxHeartbeats 4000000 in
theorem l_goLots  (d : Nat)  (f : Nat) : ∀ (i : Int32) (I : gI), (gEq gX1 I) → 0 ≤ i.toInt → i.toInt ≤ 16 → 16 - i.toInt < f → G (d + 2) mX1_goLots 0 0 0 0 4 [some (.ref 19), some (.int 0), some (.int i)] [] SH0 RF0 I (fun r h => r = some (.int 0) ∧ ∃ I1, h = (SH0, RF0, I1) ∧ gEq gX1 I1) := by
  induction f with
  | zero => intro i I hI h0 h1 hf; exfalso; omega
  | succ f ih =>
    intro i I hI h0 h1 hf
    refine G_iload_n (pc := 4) rfl dX1_goLots_4 ?_
    refine G_bipush (pc := 5) (v := 16) (by decide) dX1_goLots_5 ?_
    refine G_icmp_ge (pc := 7) (tgt := 39) (by decide) dX1_goLots_7 (fun c601 => ?_) (fun c601 => ?_)
    · refine G_iload_n (pc := 39) rfl dX1_goLots_39 ?_
      exact G_iret (pc := 40) (Nat.le_of_ble_eq_true rfl) (Nat.le_of_ble_eq_true rfl) rfl dX1_goLots_40 ⟨rfl, _, rfl, hI⟩
    · refine G_aload_n (pc := 10) rfl dX1_goLots_10 ?_
      refine G_callV (pc := 11) (mc1 := 0) (ms1 := 0) (ci := 1) (mj := mX1_isOver) (vs := []) dX1_goLots_11 rfl rfl cm_X1_isOver wf_172 wf_17 wf_18 rfl (Nat.le_of_ble_eq_true rfl) (Nat.le_of_ble_eq_true rfl) (Nat.le_of_ble_eq_true rfl) (Nat.le_of_ble_eq_true rfl) (isOver_s (d + 1) 19 rfl) ?_
      rintro _ _ ⟨rfl, rfl⟩
      dsimp only [Option.toList, List.cons_append, List.nil_append]
      refine G_if_ne (pc := 14) (tgt := 39) (by decide) dX1_goLots_14 (fun c602 => ?_) (fun c602 => ?_)
      · have c602 := gB_o c602
        refine G_iload_n (pc := 39) rfl dX1_goLots_39 ?_
        exact G_iret (pc := 40) (Nat.le_of_ble_eq_true rfl) (Nat.le_of_ble_eq_true rfl) rfl dX1_goLots_40 ⟨rfl, _, rfl, hI⟩
      · have c602 := gB_z c602
        refine G_iload_n (pc := 17) rfl dX1_goLots_17 ?_
        refine G_aload_n (pc := 18) rfl dX1_goLots_18 ?_
        refine G_aload_n (pc := 19) rfl dX1_goLots_19 ?_
        refine G_callV (pc := 20) (mc1 := 0) (ms1 := 0) (ci := 1) (mj := mX1_drawAct) (vs := []) dX1_goLots_20 rfl rfl cm_X1_drawAct wf_178 wf_113 wf_114 rfl (Nat.le_of_ble_eq_true rfl) (Nat.le_of_ble_eq_true rfl) (Nat.le_of_ble_eq_true rfl) (Nat.le_of_ble_eq_true rfl) (s449_X1_drawAct  (d + 1) _ hI ) ?_
        rintro _ _ ⟨rfl, rfl⟩
        dsimp only [Option.toList, List.cons_append, List.nil_append]
        refine G_callV (pc := 23) (mc1 := 0) (ms1 := 0) (ci := 1) (mj := mX1_tell) (vs := [_]) dX1_goLots_23 rfl rfl cm_X1_tell wf_69 wf_71 wf_72 rfl (Nat.le_of_ble_eq_true rfl) (Nat.le_of_ble_eq_true rfl) (Nat.le_of_ble_eq_true rfl) (Nat.le_of_ble_eq_true rfl) (s450_X1_tell  d _ hI ) ?_
        rintro _ _ ⟨rfl, rfl⟩
        dsimp only [Option.toList, List.cons_append, List.nil_append]
        refine G_aload_n (pc := 26) rfl dX1_goLots_26 ?_
        refine G_callV (pc := 27) (mc1 := 0) (ms1 := 0) (ci := 1) (mj := mX1_melt) (vs := []) dX1_goLots_27 rfl rfl cm_X1_melt wf_73 wf_75 wf_76 rfl (Nat.le_of_ble_eq_true rfl) (Nat.le_of_ble_eq_true rfl) (Nat.le_of_ble_eq_true rfl) (Nat.le_of_ble_eq_true rfl) (s452_X1_melt  (d + 1) _ hI ) ?_
        rintro _ _ ⟨rfl, rfl⟩
        dsimp only [Option.toList, List.cons_append, List.nil_append]
        refine G_iadd (pc := 30) (z := 0) (by decide) dX1_goLots_30 ?_
        refine G_iadd (pc := 31) (z := 0) (by decide) dX1_goLots_31 ?_
        refine G_istore_n (pc := 32) (L1 := [some (.ref 19), some (.int 0), some (.int i)]) rfl rfl (by decide) dX1_goLots_32 ?_
        refine G_iinc (pc := 33) (v := 1) (w := (i + 1)) (L1 := [some (.ref 19), some (.int 0), some (.int (i + 1))]) rfl rfl rfl (by decide) rfl (by decide) dX1_goLots_33 ?_
        refine G_goto (pc := 36) (tgt := 4) (by decide) dX1_goLots_36 ?_
        have e := Int32.lt_iff_toInt_lt.mp (Int32.not_le.mp c601)
        have e1 : (16 : Int32).toInt = 16 := rfl
        have e2 : (i + 1).toInt = i.toInt + 1 := g_inc (by omega)
        exact ih (i + 1) _ (gEq_up (gEq_up hI rfl) rfl) (by omega) (by omega) (by omega)
set_option maxRecDepth 100000 in
set_option maxHeartbeats 4000000 in
theorem goLots_s (d : Nat) (I : gI) (hI : gEq gX1 I) : G (d + 2) mX1_goLots 0 0 0 0 0 (gent 3 [.ref 19]) [] SH0 RF0 I (fun r h => r = some (.int 0) ∧ ∃ I1, h = (SH0, RF0, I1) ∧ gEq gX1 I1) := by
  refine G_iconst (pc := 0) (v := 0) (by decide) dX1_goLots_0 ?_
  refine G_istore_n (pc := 1) (L1 := [some (.ref 19), some (.int 0), none]) rfl rfl (by decide) dX1_goLots_1 ?_
  refine G_iconst (pc := 2) (v := 0) (by decide) dX1_goLots_2 ?_
  refine G_istore_n (pc := 3) (L1 := [some (.ref 19), some (.int 0), some (.int 0)]) rfl rfl (by decide) dX1_goLots_3 ?_
  exact l_goLots d 17 0 _ hI (by decide) (by decide) (by decide)
set_option maxRecDepth 100000 in
set_option maxHeartbeats 4000000 in
theorem s453_X1_restore  (d : Nat) (I : gI) (hI : gEq gX1 I)  : G (d + 1) mX1_restore 0 0 0 0 0 (gent 3 [.ref 19, .int 0]) [] SH0 RF0 I (fun r h => r = none ∧ h = (SH0, RF0, (gup (gup (gcp I 34 24 (0 : Int32).toNatClampNeg (0 : Int32).toNatClampNeg (6 : Int32).toNatClampNeg) 19 9 (I 34 6)) 19 1 (I 34 7)))) := by
  refine G_iload_n (pc := 0) rfl dX1_restore_0 ?_
  refine G_bipush (pc := 1) (v := 8) (by decide) dX1_restore_1 ?_
  refine G_imul (pc := 3) (z := 0) (by decide) dX1_restore_3 ?_
  refine G_istore_n (pc := 4) (L1 := [some (.ref 19), some (.int 0), some (.int 0)]) rfl rfl (by decide) dX1_restore_4 ?_
  refine G_aload_n (pc := 5) rfl dX1_restore_5 ?_
  refine G_getR (pc := 6) (r := 34) (ci := 1) (j := 18) rfl lk_RX1_53 rfl rfl rfl dX1_restore_6 ?_
  refine G_iload_n (pc := 9) rfl dX1_restore_9 ?_
  refine G_aload_n (pc := 10) rfl dX1_restore_10 ?_
  refine G_getR (pc := 11) (r := 24) (ci := 1) (j := 11) rfl lk_RX1_31 rfl rfl rfl dX1_restore_11 ?_
  refine G_iconst (pc := 14) (v := 0) (by decide) dX1_restore_14 ?_
  refine G_bipush (pc := 15) (v := 6) (by decide) dX1_restore_15 ?_
  refine G_copy (pc := 17) (x := 34) (y := 24) rfl rfl (by decide) (by decide) (by decide) (by decide) (by decide) wf_50 wf_51 wf_52 wf_53 (Nat.le_of_ble_eq_true rfl) dX1_restore_17 ?_
  refine G_aload_n (pc := 20) rfl dX1_restore_20 ?_
  refine G_aload_n (pc := 21) rfl dX1_restore_21 ?_
  refine G_getR (pc := 22) (r := 34) (ci := 1) (j := 18) rfl lk_RX1_53 rfl rfl rfl dX1_restore_22 ?_
  refine G_iload_n (pc := 25) rfl dX1_restore_25 ?_
  refine G_bipush (pc := 26) (v := 6) (by decide) dX1_restore_26 ?_
  refine G_iadd (pc := 28) (z := 6) (by decide) dX1_restore_28 ?_
  refine G_iald (pc := 29) (jj := 6) (v := (I 34 6)) (by decide) rfl rfl (by unfold vp_in; decide) dX1_restore_29 ?_
  refine G_putI (pc := 30) (ci := 1) (j := 9) rfl lk_RX1_75 rfl rfl rfl trivial dX1_restore_30 ?_
  refine G_aload_n (pc := 33) rfl dX1_restore_33 ?_
  refine G_aload_n (pc := 34) rfl dX1_restore_34 ?_
  refine G_getR (pc := 35) (r := 34) (ci := 1) (j := 18) rfl lk_RX1_53 rfl rfl rfl dX1_restore_35 ?_
  refine G_iload_n (pc := 38) rfl dX1_restore_38 ?_
  refine G_bipush (pc := 39) (v := 6) (by decide) dX1_restore_39 ?_
  refine G_iadd (pc := 41) (z := 6) (by decide) dX1_restore_41 ?_
  refine G_iconst (pc := 42) (v := 1) (by decide) dX1_restore_42 ?_
  refine G_iadd (pc := 43) (z := 7) (by decide) dX1_restore_43 ?_
  refine G_iald (pc := 44) (jj := 7) (v := (I 34 7)) (by decide) rfl rfl (by unfold vp_in; decide) dX1_restore_44 ?_
  refine G_putI (pc := 45) (ci := 1) (j := 1) rfl lk_RX1_60 rfl rfl rfl trivial dX1_restore_45 ?_
  exact G_vret (pc := 48) (Nat.le_of_ble_eq_true rfl) (Nat.le_of_ble_eq_true rfl) rfl dX1_restore_48 ⟨rfl, rfl⟩
set_option maxRecDepth 100000 in
set_option maxHeartbeats 4000000 in
theorem l_times0  (d : Nat) (n : Int32) (hn : n.toInt ≤ 40) (f : Nat) : ∀ (i : Int32) (I : gI), (gEq gX1 I) → 0 ≤ i.toInt → i.toInt ≤ n.toInt → n.toInt - i.toInt < f → G (d + 3) mX11_times 0 0 0 0 45 [some (.ref 0), some (.int n), some (.int 0), some (.int 1), some (.int i), some (.int i)] [] SH0 RF0 I (fun r h => ∃ I1, r = some (.int (n)) ∧ h = (SH0, RF0, I1) ∧ ∀ a, 67 ≤ a → I1 a = I0 a) := by
  induction f with
  | zero => intro i I hI h0 h1 hf; exfalso; omega
  | succ f ih =>
    intro i I hI h0 h1 hf
    refine G_iload (pc := 45) rfl dX11_times_45 ?_
    refine G_iload_n (pc := 47) rfl dX11_times_47 ?_
    refine G_icmp_ge (pc := 48) (tgt := 79) (by decide) dX11_times_48 (fun c603 => ?_) (fun c603 => ?_)
    · refine G_aload_n (pc := 79) rfl dX11_times_79 ?_
      refine G_getR (pc := 80) (r := 19) (ci := 11) (j := 0) rfl lk_RX11_56 rfl rfl rfl dX11_times_80 ?_
      refine G_iload_n (pc := 83) rfl dX11_times_83 ?_
      refine G_putI (pc := 84) (ci := 1) (j := 4) rfl lk_RX11_298 rfl rfl rfl trivial dX11_times_84 ?_
      refine G_iload (pc := 87) rfl dX11_times_87 ?_
      exact G_iret (pc := 89) (Nat.le_of_ble_eq_true rfl) (Nat.le_of_ble_eq_true rfl) rfl dX11_times_89 ⟨_, by rw [show i = n from Int32.toInt_inj.mp (by have := Int32.le_iff_toInt_le.mp c603; omega)], rfl, gX1_far (gEq_up hI rfl)⟩
    · refine G_aload_n (pc := 51) rfl dX11_times_51 ?_
      refine G_getR (pc := 52) (r := 19) (ci := 11) (j := 0) rfl lk_RX11_56 rfl rfl rfl dX11_times_52 ?_
      refine G_callV (pc := 55) (mc1 := 0) (ms1 := 0) (ci := 1) (mj := mX1_goLots) (vs := []) dX11_times_55 rfl rfl cm_X1_goLots wf_179 wf_181 wf_182 rfl (Nat.le_of_ble_eq_true rfl) (Nat.le_of_ble_eq_true rfl) (Nat.le_of_ble_eq_true rfl) (Nat.le_of_ble_eq_true rfl) (goLots_s d _ hI) ?_
      rintro _ _ ⟨rfl, I604, rfl, h604⟩
      dsimp only [Option.toList, List.cons_append, List.nil_append]
      refine G_iload_n (pc := 58) rfl dX11_times_58 ?_
      refine G_icmp_lt (pc := 59) (tgt := 65) (by decide) dX11_times_59 (fun z => absurd z (by decide)) (fun _ => ?_)
      refine G_iinc (pc := 62) (v := 1) (w := (i + 1)) (L1 := [some (.ref 0), some (.int n), some (.int 0), some (.int 1), some (.int (i + 1)), some (.int i)]) rfl rfl rfl (by decide) rfl (by decide) dX11_times_62 ?_
      refine G_aload_n (pc := 65) rfl dX11_times_65 ?_
      refine G_getR (pc := 66) (r := 19) (ci := 11) (j := 0) rfl lk_RX11_56 rfl rfl rfl dX11_times_66 ?_
      refine G_iconst (pc := 69) (v := 0) (by decide) dX11_times_69 ?_
      refine G_callV (pc := 70) (mc1 := 0) (ms1 := 0) (ci := 1) (mj := mX1_restore) (vs := [_]) dX11_times_70 rfl rfl cm_X1_restore wf_107 wf_109 wf_110 rfl (Nat.le_of_ble_eq_true rfl) (Nat.le_of_ble_eq_true rfl) (Nat.le_of_ble_eq_true rfl) (Nat.le_of_ble_eq_true rfl) (s453_X1_restore  (d + 1) _ h604 ) ?_
      rintro _ _ ⟨rfl, rfl⟩
      dsimp only [Option.toList, List.cons_append, List.nil_append]
      refine G_iinc (pc := 73) (v := 1) (w := (i + 1)) (L1 := [some (.ref 0), some (.int n), some (.int 0), some (.int 1), some (.int (i + 1)), some (.int (i + 1))]) rfl rfl rfl (by decide) rfl (by decide) dX11_times_73 ?_
      refine G_goto (pc := 76) (tgt := 45) (by decide) dX11_times_76 ?_
      have e := Int32.lt_iff_toInt_lt.mp (Int32.not_le.mp c603)
      have e1 := hn
      have e2 : (i + 1).toInt = i.toInt + 1 := g_inc (by omega)
      exact ih (i + 1) _ (gEq_up (gEq_up (gEq_cp h604 (fun _ => rfl)) rfl) rfl) (by omega) (by omega) (by omega)
set_option maxRecDepth 100000 in
set_option maxHeartbeats 4000000 in
theorem l_times1  (d : Nat) (n v : Int32) (hn : n.toInt ≤ 40) (hv : v > 0) (f : Nat) : ∀ (i : Int32) (I : gI), (gEq gX1 I) → 0 ≤ i.toInt → i.toInt ≤ n.toInt → n.toInt - i.toInt < f → G (d + 3) mX11_times 0 0 0 0 45 [some (.ref 0), some (.int n), some (.int v), some (.int 1), some (.int 0), some (.int i)] [] SH0 RF0 I (fun r h => ∃ I1, r = some (.int (0)) ∧ h = (SH0, RF0, I1) ∧ ∀ a, 67 ≤ a → I1 a = I0 a) := by
  induction f with
  | zero => intro i I hI h0 h1 hf; exfalso; omega
  | succ f ih =>
    intro i I hI h0 h1 hf
    refine G_iload (pc := 45) rfl dX11_times_45 ?_
    refine G_iload_n (pc := 47) rfl dX11_times_47 ?_
    refine G_icmp_ge (pc := 48) (tgt := 79) (by decide) dX11_times_48 (fun c605 => ?_) (fun c605 => ?_)
    · refine G_aload_n (pc := 79) rfl dX11_times_79 ?_
      refine G_getR (pc := 80) (r := 19) (ci := 11) (j := 0) rfl lk_RX11_56 rfl rfl rfl dX11_times_80 ?_
      refine G_iload_n (pc := 83) rfl dX11_times_83 ?_
      refine G_putI (pc := 84) (ci := 1) (j := 4) rfl lk_RX11_298 rfl rfl rfl trivial dX11_times_84 ?_
      refine G_iload (pc := 87) rfl dX11_times_87 ?_
      exact G_iret (pc := 89) (Nat.le_of_ble_eq_true rfl) (Nat.le_of_ble_eq_true rfl) rfl dX11_times_89 ⟨_, rfl, rfl, gX1_far (gEq_up hI rfl)⟩
    · refine G_aload_n (pc := 51) rfl dX11_times_51 ?_
      refine G_getR (pc := 52) (r := 19) (ci := 11) (j := 0) rfl lk_RX11_56 rfl rfl rfl dX11_times_52 ?_
      refine G_callV (pc := 55) (mc1 := 0) (ms1 := 0) (ci := 1) (mj := mX1_goLots) (vs := []) dX11_times_55 rfl rfl cm_X1_goLots wf_179 wf_181 wf_182 rfl (Nat.le_of_ble_eq_true rfl) (Nat.le_of_ble_eq_true rfl) (Nat.le_of_ble_eq_true rfl) (Nat.le_of_ble_eq_true rfl) (goLots_s d _ hI) ?_
      rintro _ _ ⟨rfl, I606, rfl, h606⟩
      dsimp only [Option.toList, List.cons_append, List.nil_append]
      refine G_iload_n (pc := 58) rfl dX11_times_58 ?_
      refine G_icmp_lt (pc := 59) (tgt := 65) (by decide) dX11_times_59 (fun c607 => ?_) (fun c607 => ?_)
      · refine G_aload_n (pc := 65) rfl dX11_times_65 ?_
        refine G_getR (pc := 66) (r := 19) (ci := 11) (j := 0) rfl lk_RX11_56 rfl rfl rfl dX11_times_66 ?_
        refine G_iconst (pc := 69) (v := 0) (by decide) dX11_times_69 ?_
        refine G_callV (pc := 70) (mc1 := 0) (ms1 := 0) (ci := 1) (mj := mX1_restore) (vs := [_]) dX11_times_70 rfl rfl cm_X1_restore wf_107 wf_109 wf_110 rfl (Nat.le_of_ble_eq_true rfl) (Nat.le_of_ble_eq_true rfl) (Nat.le_of_ble_eq_true rfl) (Nat.le_of_ble_eq_true rfl) (s453_X1_restore  (d + 1) _ h606 ) ?_
        rintro _ _ ⟨rfl, rfl⟩
        dsimp only [Option.toList, List.cons_append, List.nil_append]
        refine G_iinc (pc := 73) (v := 1) (w := (i + 1)) (L1 := [some (.ref 0), some (.int n), some (.int v), some (.int 1), some (.int 0), some (.int (i + 1))]) rfl rfl rfl (by decide) rfl (by decide) dX11_times_73 ?_
        refine G_goto (pc := 76) (tgt := 45) (by decide) dX11_times_76 ?_
        have e := Int32.lt_iff_toInt_lt.mp (Int32.not_le.mp c605)
        have e1 := hn
        have e2 : (i + 1).toInt = i.toInt + 1 := g_inc (by omega)
        exact ih (i + 1) _ (gEq_up (gEq_up (gEq_cp h606 (fun _ => rfl)) rfl) rfl) (by omega) (by omega) (by omega)
      · exfalso; have : 0 < (v).toInt := Int32.lt_iff_toInt_lt.mp (hv); have : (v).toInt ≤ 0 := Int32.le_iff_toInt_le.mp (Int32.not_lt.mp c607); omega
def F_times (n : Int32) (v : Int32) : Int32 := if (1 ≤ n ∧ n ≤ 40) ∧ (0 ≤ v ∧ v ≤ 999) then (if v = 0 then n else 0) else -1
set_option maxRecDepth 100000 in
set_option maxHeartbeats 4000000 in
theorem x_times (d : Nat) (n : Int32) (v : Int32) : G (d + 3) mX11_times 0 0 0 0 0 (gent 6 [.ref 0, .int n, .int v]) [] SH0 RF0 I0 (fun r h => ∃ I1, r = some (.int (F_times n v)) ∧ h = (SH0, RF0, I1) ∧ ∀ a, 67 ≤ a → I1 a = I0 a) := by
  refine G_iload_n (pc := 0) rfl dX11_times_0 ?_
  refine G_iconst (pc := 1) (v := 1) (by decide) dX11_times_1 ?_
  refine G_bipush (pc := 2) (v := 40) (by decide) dX11_times_2 ?_
  refine G_callS (pc := 4) (mc1 := 0) (ms1 := 0) (mj := mX11_isIn) (vs := [_, _, _]) dX11_times_4 cm_X11_isIn wf_4 wf_6 rfl (Nat.le_of_ble_eq_true rfl) (Nat.le_of_ble_eq_true rfl) (Nat.le_of_ble_eq_true rfl) (Nat.le_of_ble_eq_true rfl) (isIn_s (d + 2) n 1 40) ?_
  rintro _ _ ⟨rfl, rfl⟩
  dsimp only [Option.toList, List.cons_append, List.nil_append]
  refine G_if_eq (pc := 7) (tgt := 21) (by decide) dX11_times_7 (fun c608 => ?_) (fun c608 => ?_)
  · have c608 := gB_z c608
    refine G_iconst (pc := 21) (v := (-1)) (by decide) dX11_times_21 ?_
    exact G_iret (pc := 22) (Nat.le_of_ble_eq_true rfl) (Nat.le_of_ble_eq_true rfl) rfl dX11_times_22 ⟨_, by first | rfl | (simp [F_times, *]; done) | (have : ¬ (1 ≤ (n).toInt ∧ (n).toInt ≤ 40) := fun z => c608 ⟨Int32.le_iff_toInt_le.mpr z.1, Int32.le_iff_toInt_le.mpr z.2⟩; simp only [F_times, Int32.le_iff_toInt_le, Int32.lt_iff_toInt_lt, ← Int32.toInt_inj]; simp; omega) | (have : ¬ (1 ≤ (n).toInt ∧ (n).toInt ≤ 40) := fun z => c608 ⟨Int32.le_iff_toInt_le.mpr z.1, Int32.le_iff_toInt_le.mpr z.2⟩; simp only [F_times, Int32.le_iff_toInt_le, Int32.lt_iff_toInt_lt, ← Int32.toInt_inj]; split <;> first | rfl | (exfalso; simp at *; omega)) | (have : ¬ (1 ≤ (n).toInt ∧ (n).toInt ≤ 40) := fun z => c608 ⟨Int32.le_iff_toInt_le.mpr z.1, Int32.le_iff_toInt_le.mpr z.2⟩; unfold F_times; (repeat' split) <;> first | rfl | (exfalso; (try simp only [Int32.le_iff_toInt_le, Int32.lt_iff_toInt_lt, ← Int32.toInt_inj] at *); first | omega | (simp at *; done) | (simp at *; omega))), rfl, fun _ _ => rfl⟩
  · have c608 := gB_o c608
    refine G_iload_n (pc := 10) rfl dX11_times_10 ?_
    refine G_iconst (pc := 11) (v := 0) (by decide) dX11_times_11 ?_
    refine G_sipush (pc := 12) (v := 999) (by decide) dX11_times_12 ?_
    refine G_callS (pc := 15) (mc1 := 0) (ms1 := 0) (mj := mX11_isIn) (vs := [_, _, _]) dX11_times_15 cm_X11_isIn wf_4 wf_6 rfl (Nat.le_of_ble_eq_true rfl) (Nat.le_of_ble_eq_true rfl) (Nat.le_of_ble_eq_true rfl) (Nat.le_of_ble_eq_true rfl) (isIn_s (d + 2) v 0 999) ?_
    rintro _ _ ⟨rfl, rfl⟩
    dsimp only [Option.toList, List.cons_append, List.nil_append]
    refine G_if_ne (pc := 18) (tgt := 23) (by decide) dX11_times_18 (fun c609 => ?_) (fun c609 => ?_)
    · have c609 := gB_o c609
      refine G_aload_n (pc := 23) rfl dX11_times_23 ?_
      refine G_getR (pc := 24) (r := 19) (ci := 11) (j := 0) rfl lk_RX11_56 rfl rfl rfl dX11_times_24 ?_
      refine G_getI (pc := 27) (v := 1) (ci := 1) (j := 4) rfl rfl lk_RX11_298 rfl rfl dX11_times_27 ?_
      refine G_istore_n (pc := 30) (L1 := [some (.ref 0), some (.int n), some (.int v), some (.int 1), none, none]) rfl rfl (by decide) dX11_times_30 ?_
      refine G_iconst (pc := 31) (v := 0) (by decide) dX11_times_31 ?_
      refine G_istore (pc := 32) (L1 := [some (.ref 0), some (.int n), some (.int v), some (.int 1), some (.int 0), none]) rfl rfl (by decide) dX11_times_32 ?_
      refine G_aload_n (pc := 34) rfl dX11_times_34 ?_
      refine G_getR (pc := 35) (r := 19) (ci := 11) (j := 0) rfl lk_RX11_56 rfl rfl rfl dX11_times_35 ?_
      refine G_iconst (pc := 38) (v := 0) (by decide) dX11_times_38 ?_
      refine G_callV (pc := 39) (mc1 := 0) (ms1 := 0) (ci := 1) (mj := mX1_save) (vs := [_]) dX11_times_39 rfl rfl cm_X1_save wf_103 wf_105 wf_106 rfl (Nat.le_of_ble_eq_true rfl) (Nat.le_of_ble_eq_true rfl) (Nat.le_of_ble_eq_true rfl) (Nat.le_of_ble_eq_true rfl) (s39_X1_save  (d + 1)  ) ?_
      rintro _ _ ⟨rfl, rfl⟩
      dsimp only [Option.toList, List.cons_append, List.nil_append]
      refine G_iconst (pc := 42) (v := 0) (by decide) dX11_times_42 ?_
      refine G_istore (pc := 43) (L1 := [some (.ref 0), some (.int n), some (.int v), some (.int 1), some (.int 0), some (.int 0)]) rfl rfl (by decide) dX11_times_43 ?_
      by_cases hv : v = 0
      · subst hv
        have e : F_times n 0 = n := by unfold F_times; rw [if_pos ⟨c608, by decide⟩, if_pos rfl]
        rw [e]
        have : 1 ≤ (n).toInt := Int32.le_iff_toInt_le.mp (c608.1)
        have : (n).toInt ≤ 40 := Int32.le_iff_toInt_le.mp (c608.2)
        exact l_times0 d n (by omega) 41 0 _ (gEq_up (gEq_up (gEq_cp (gEq_refl gX1) (fun _ => rfl)) rfl) rfl) (by decide) (by show (0 : Int) ≤ _; omega) (by show _ - (0 : Int) < _; omega)
      · have e : F_times n v = 0 := by unfold F_times; rw [if_pos ⟨c608, c609⟩, if_neg hv]
        rw [e]
        have : 1 ≤ (n).toInt := Int32.le_iff_toInt_le.mp (c608.1)
        have : (n).toInt ≤ 40 := Int32.le_iff_toInt_le.mp (c608.2)
        have : 0 ≤ (v).toInt := Int32.le_iff_toInt_le.mp (c609.1)
        have : (v).toInt ≤ 999 := Int32.le_iff_toInt_le.mp (c609.2)
        have : v.toInt ≠ 0 := g_ne hv
        exact l_times1 d n v (by omega) (Int32.lt_iff_toInt_lt.mpr (by show (0 : Int) < _; omega)) 41 0 _ (gEq_up (gEq_up (gEq_cp (gEq_refl gX1) (fun _ => rfl)) rfl) rfl) (by decide) (by show (0 : Int) ≤ _; omega) (by show _ - (0 : Int) < _; omega)
    · have c609 := gB_z c609
      refine G_iconst (pc := 21) (v := (-1)) (by decide) dX11_times_21 ?_
      exact G_iret (pc := 22) (Nat.le_of_ble_eq_true rfl) (Nat.le_of_ble_eq_true rfl) rfl dX11_times_22 ⟨_, by first | rfl | (simp [F_times, *]; done) | (have : 1 ≤ (n).toInt := Int32.le_iff_toInt_le.mp (c608.1); have : (n).toInt ≤ 40 := Int32.le_iff_toInt_le.mp (c608.2); have : ¬ (0 ≤ (v).toInt ∧ (v).toInt ≤ 999) := fun z => c609 ⟨Int32.le_iff_toInt_le.mpr z.1, Int32.le_iff_toInt_le.mpr z.2⟩; simp only [F_times, Int32.le_iff_toInt_le, Int32.lt_iff_toInt_lt, ← Int32.toInt_inj]; simp; omega) | (have : 1 ≤ (n).toInt := Int32.le_iff_toInt_le.mp (c608.1); have : (n).toInt ≤ 40 := Int32.le_iff_toInt_le.mp (c608.2); have : ¬ (0 ≤ (v).toInt ∧ (v).toInt ≤ 999) := fun z => c609 ⟨Int32.le_iff_toInt_le.mpr z.1, Int32.le_iff_toInt_le.mpr z.2⟩; simp only [F_times, Int32.le_iff_toInt_le, Int32.lt_iff_toInt_lt, ← Int32.toInt_inj]; split <;> first | rfl | (exfalso; simp at *; omega)) | (have : 1 ≤ (n).toInt := Int32.le_iff_toInt_le.mp (c608.1); have : (n).toInt ≤ 40 := Int32.le_iff_toInt_le.mp (c608.2); have : ¬ (0 ≤ (v).toInt ∧ (v).toInt ≤ 999) := fun z => c609 ⟨Int32.le_iff_toInt_le.mpr z.1, Int32.le_iff_toInt_le.mpr z.2⟩; unfold F_times; (repeat' split) <;> first | rfl | (exfalso; (try simp only [Int32.le_iff_toInt_le, Int32.lt_iff_toInt_lt, ← Int32.toInt_inj] at *); first | omega | (simp at *; done) | (simp at *; omega))), rfl, fun _ _ => rfl⟩
set_option maxRecDepth 100000 in
set_option maxHeartbeats 4000000 in
theorem l_sheet0  (d : Nat) (n sort : Int32) (hn : n.toInt ≤ 40) (f : Nat) : ∀ (i : Int32) (I : gI), (gEq gX2 I) → 0 ≤ i.toInt → i.toInt ≤ n.toInt → n.toInt - i.toInt < f → G (d) mX11_sheet 0 0 0 0 48 [some (.ref 0), some (.int 0), some (.int sort), some (.int n), some (.int i)] [] SH0 RF0 I (fun r h => ∃ I1, r = some (.int (1)) ∧ h = (SH0, RF0, I1) ∧ ∀ a, 67 ≤ a → I1 a = I0 a) := by
  induction f with
  | zero => intro i I hI h0 h1 hf; exfalso; omega
  | succ f ih =>
    intro i I hI h0 h1 hf
    refine G_iload (pc := 48) rfl dX11_sheet_48 ?_
    refine G_iload_n (pc := 50) rfl dX11_sheet_50 ?_
    refine G_icmp_ge (pc := 51) (tgt := 70) (by decide) dX11_sheet_51 (fun c610 => ?_) (fun c610 => ?_)
    · refine G_aload_n (pc := 70) rfl dX11_sheet_70 ?_
      refine G_getR (pc := 71) (r := 2) (ci := 11) (j := 8) rfl lk_RX11_13 rfl rfl rfl dX11_sheet_71 ?_
      refine G_iload_n (pc := 74) rfl dX11_sheet_74 ?_
      refine G_iload_n (pc := 75) rfl dX11_sheet_75 ?_
      refine G_iast (pc := 76) (jj := 0) (by decide) rfl (by unfold vp_in; decide) dX11_sheet_76 ?_
      refine G_iconst (pc := 77) (v := 1) (by decide) dX11_sheet_77 ?_
      exact G_iret (pc := 78) (Nat.le_of_ble_eq_true rfl) (Nat.le_of_ble_eq_true rfl) rfl dX11_sheet_78 ⟨_, rfl, rfl, gX2_far (gEq_up hI rfl)⟩
    · refine G_aload_n (pc := 54) rfl dX11_sheet_54 ?_
      refine G_getR (pc := 55) (r := 4) (ci := 11) (j := 10) rfl lk_RX11_21 rfl rfl rfl dX11_sheet_55 ?_
      refine G_iload_n (pc := 58) rfl dX11_sheet_58 ?_
      refine G_rald (pc := 59) (jj := 0) (r := 5) (by decide) rfl (by unfold vp_in; decide) rfl dX11_sheet_59 ?_
      refine G_iload (pc := 60) rfl dX11_sheet_60 ?_
      refine G_iconst (pc := 62) (v := 0) (by decide) dX11_sheet_62 ?_
      refine G_iast (pc := 63) (nn := 40) rfl rfl (by have e := Int32.lt_iff_toInt_lt.mp (Int32.not_le.mp c610); exact g_in (by omega) (by omega)) dX11_sheet_63 ?_
      refine G_iinc (pc := 64) (v := 1) (w := (i + 1)) (L1 := [some (.ref 0), some (.int 0), some (.int sort), some (.int n), some (.int (i + 1))]) rfl rfl rfl (by decide) rfl (by decide) dX11_sheet_64 ?_
      refine G_goto (pc := 67) (tgt := 48) (by decide) dX11_sheet_67 ?_
      have e := Int32.lt_iff_toInt_lt.mp (Int32.not_le.mp c610)
      have e1 := hn
      have e2 : (i + 1).toInt = i.toInt + 1 := g_inc (by omega)
      exact ih (i + 1) _ (gEq_up hI rfl) (by omega) (by omega) (by omega)
set_option maxRecDepth 100000 in
set_option maxHeartbeats 4000000 in
theorem l_sheet1  (d : Nat) (n sort : Int32) (hn : n.toInt ≤ 40) (f : Nat) : ∀ (i : Int32) (I : gI), (gEq gX2 I) → 0 ≤ i.toInt → i.toInt ≤ n.toInt → n.toInt - i.toInt < f → G (d) mX11_sheet 0 0 0 0 48 [some (.ref 0), some (.int 1), some (.int sort), some (.int n), some (.int i)] [] SH0 RF0 I (fun r h => ∃ I1, r = some (.int (1)) ∧ h = (SH0, RF0, I1) ∧ ∀ a, 67 ≤ a → I1 a = I0 a) := by
  induction f with
  | zero => intro i I hI h0 h1 hf; exfalso; omega
  | succ f ih =>
    intro i I hI h0 h1 hf
    refine G_iload (pc := 48) rfl dX11_sheet_48 ?_
    refine G_iload_n (pc := 50) rfl dX11_sheet_50 ?_
    refine G_icmp_ge (pc := 51) (tgt := 70) (by decide) dX11_sheet_51 (fun c611 => ?_) (fun c611 => ?_)
    · refine G_aload_n (pc := 70) rfl dX11_sheet_70 ?_
      refine G_getR (pc := 71) (r := 2) (ci := 11) (j := 8) rfl lk_RX11_13 rfl rfl rfl dX11_sheet_71 ?_
      refine G_iload_n (pc := 74) rfl dX11_sheet_74 ?_
      refine G_iload_n (pc := 75) rfl dX11_sheet_75 ?_
      refine G_iast (pc := 76) (jj := 1) (by decide) rfl (by unfold vp_in; decide) dX11_sheet_76 ?_
      refine G_iconst (pc := 77) (v := 1) (by decide) dX11_sheet_77 ?_
      exact G_iret (pc := 78) (Nat.le_of_ble_eq_true rfl) (Nat.le_of_ble_eq_true rfl) rfl dX11_sheet_78 ⟨_, rfl, rfl, gX2_far (gEq_up hI rfl)⟩
    · refine G_aload_n (pc := 54) rfl dX11_sheet_54 ?_
      refine G_getR (pc := 55) (r := 4) (ci := 11) (j := 10) rfl lk_RX11_21 rfl rfl rfl dX11_sheet_55 ?_
      refine G_iload_n (pc := 58) rfl dX11_sheet_58 ?_
      refine G_rald (pc := 59) (jj := 1) (r := 6) (by decide) rfl (by unfold vp_in; decide) rfl dX11_sheet_59 ?_
      refine G_iload (pc := 60) rfl dX11_sheet_60 ?_
      refine G_iconst (pc := 62) (v := 0) (by decide) dX11_sheet_62 ?_
      refine G_iast (pc := 63) (nn := 40) rfl rfl (by have e := Int32.lt_iff_toInt_lt.mp (Int32.not_le.mp c611); exact g_in (by omega) (by omega)) dX11_sheet_63 ?_
      refine G_iinc (pc := 64) (v := 1) (w := (i + 1)) (L1 := [some (.ref 0), some (.int 1), some (.int sort), some (.int n), some (.int (i + 1))]) rfl rfl rfl (by decide) rfl (by decide) dX11_sheet_64 ?_
      refine G_goto (pc := 67) (tgt := 48) (by decide) dX11_sheet_67 ?_
      have e := Int32.lt_iff_toInt_lt.mp (Int32.not_le.mp c611)
      have e1 := hn
      have e2 : (i + 1).toInt = i.toInt + 1 := g_inc (by omega)
      exact ih (i + 1) _ (gEq_up hI rfl) (by omega) (by omega) (by omega)
set_option maxRecDepth 100000 in
set_option maxHeartbeats 4000000 in
theorem l_sheet2  (d : Nat) (n sort : Int32) (hn : n.toInt ≤ 40) (f : Nat) : ∀ (i : Int32) (I : gI), (gEq gX2 I) → 0 ≤ i.toInt → i.toInt ≤ n.toInt → n.toInt - i.toInt < f → G (d) mX11_sheet 0 0 0 0 48 [some (.ref 0), some (.int 2), some (.int sort), some (.int n), some (.int i)] [] SH0 RF0 I (fun r h => ∃ I1, r = some (.int (1)) ∧ h = (SH0, RF0, I1) ∧ ∀ a, 67 ≤ a → I1 a = I0 a) := by
  induction f with
  | zero => intro i I hI h0 h1 hf; exfalso; omega
  | succ f ih =>
    intro i I hI h0 h1 hf
    refine G_iload (pc := 48) rfl dX11_sheet_48 ?_
    refine G_iload_n (pc := 50) rfl dX11_sheet_50 ?_
    refine G_icmp_ge (pc := 51) (tgt := 70) (by decide) dX11_sheet_51 (fun c612 => ?_) (fun c612 => ?_)
    · refine G_aload_n (pc := 70) rfl dX11_sheet_70 ?_
      refine G_getR (pc := 71) (r := 2) (ci := 11) (j := 8) rfl lk_RX11_13 rfl rfl rfl dX11_sheet_71 ?_
      refine G_iload_n (pc := 74) rfl dX11_sheet_74 ?_
      refine G_iload_n (pc := 75) rfl dX11_sheet_75 ?_
      refine G_iast (pc := 76) (jj := 2) (by decide) rfl (by unfold vp_in; decide) dX11_sheet_76 ?_
      refine G_iconst (pc := 77) (v := 1) (by decide) dX11_sheet_77 ?_
      exact G_iret (pc := 78) (Nat.le_of_ble_eq_true rfl) (Nat.le_of_ble_eq_true rfl) rfl dX11_sheet_78 ⟨_, rfl, rfl, gX2_far (gEq_up hI rfl)⟩
    · refine G_aload_n (pc := 54) rfl dX11_sheet_54 ?_
      refine G_getR (pc := 55) (r := 4) (ci := 11) (j := 10) rfl lk_RX11_21 rfl rfl rfl dX11_sheet_55 ?_
      refine G_iload_n (pc := 58) rfl dX11_sheet_58 ?_
      refine G_rald (pc := 59) (jj := 2) (r := 7) (by decide) rfl (by unfold vp_in; decide) rfl dX11_sheet_59 ?_
      refine G_iload (pc := 60) rfl dX11_sheet_60 ?_
      refine G_iconst (pc := 62) (v := 0) (by decide) dX11_sheet_62 ?_
      refine G_iast (pc := 63) (nn := 40) rfl rfl (by have e := Int32.lt_iff_toInt_lt.mp (Int32.not_le.mp c612); exact g_in (by omega) (by omega)) dX11_sheet_63 ?_
      refine G_iinc (pc := 64) (v := 1) (w := (i + 1)) (L1 := [some (.ref 0), some (.int 2), some (.int sort), some (.int n), some (.int (i + 1))]) rfl rfl rfl (by decide) rfl (by decide) dX11_sheet_64 ?_
      refine G_goto (pc := 67) (tgt := 48) (by decide) dX11_sheet_67 ?_
      have e := Int32.lt_iff_toInt_lt.mp (Int32.not_le.mp c612)
      have e1 := hn
      have e2 : (i + 1).toInt = i.toInt + 1 := g_inc (by omega)
      exact ih (i + 1) _ (gEq_up hI rfl) (by omega) (by omega) (by omega)
set_option maxRecDepth 100000 in
set_option maxHeartbeats 4000000 in
theorem l_sheet3  (d : Nat) (n sort : Int32) (hn : n.toInt ≤ 40) (f : Nat) : ∀ (i : Int32) (I : gI), (gEq gX2 I) → 0 ≤ i.toInt → i.toInt ≤ n.toInt → n.toInt - i.toInt < f → G (d) mX11_sheet 0 0 0 0 48 [some (.ref 0), some (.int 3), some (.int sort), some (.int n), some (.int i)] [] SH0 RF0 I (fun r h => ∃ I1, r = some (.int (1)) ∧ h = (SH0, RF0, I1) ∧ ∀ a, 67 ≤ a → I1 a = I0 a) := by
  induction f with
  | zero => intro i I hI h0 h1 hf; exfalso; omega
  | succ f ih =>
    intro i I hI h0 h1 hf
    refine G_iload (pc := 48) rfl dX11_sheet_48 ?_
    refine G_iload_n (pc := 50) rfl dX11_sheet_50 ?_
    refine G_icmp_ge (pc := 51) (tgt := 70) (by decide) dX11_sheet_51 (fun c613 => ?_) (fun c613 => ?_)
    · refine G_aload_n (pc := 70) rfl dX11_sheet_70 ?_
      refine G_getR (pc := 71) (r := 2) (ci := 11) (j := 8) rfl lk_RX11_13 rfl rfl rfl dX11_sheet_71 ?_
      refine G_iload_n (pc := 74) rfl dX11_sheet_74 ?_
      refine G_iload_n (pc := 75) rfl dX11_sheet_75 ?_
      refine G_iast (pc := 76) (jj := 3) (by decide) rfl (by unfold vp_in; decide) dX11_sheet_76 ?_
      refine G_iconst (pc := 77) (v := 1) (by decide) dX11_sheet_77 ?_
      exact G_iret (pc := 78) (Nat.le_of_ble_eq_true rfl) (Nat.le_of_ble_eq_true rfl) rfl dX11_sheet_78 ⟨_, rfl, rfl, gX2_far (gEq_up hI rfl)⟩
    · refine G_aload_n (pc := 54) rfl dX11_sheet_54 ?_
      refine G_getR (pc := 55) (r := 4) (ci := 11) (j := 10) rfl lk_RX11_21 rfl rfl rfl dX11_sheet_55 ?_
      refine G_iload_n (pc := 58) rfl dX11_sheet_58 ?_
      refine G_rald (pc := 59) (jj := 3) (r := 8) (by decide) rfl (by unfold vp_in; decide) rfl dX11_sheet_59 ?_
      refine G_iload (pc := 60) rfl dX11_sheet_60 ?_
      refine G_iconst (pc := 62) (v := 0) (by decide) dX11_sheet_62 ?_
      refine G_iast (pc := 63) (nn := 40) rfl rfl (by have e := Int32.lt_iff_toInt_lt.mp (Int32.not_le.mp c613); exact g_in (by omega) (by omega)) dX11_sheet_63 ?_
      refine G_iinc (pc := 64) (v := 1) (w := (i + 1)) (L1 := [some (.ref 0), some (.int 3), some (.int sort), some (.int n), some (.int (i + 1))]) rfl rfl rfl (by decide) rfl (by decide) dX11_sheet_64 ?_
      refine G_goto (pc := 67) (tgt := 48) (by decide) dX11_sheet_67 ?_
      have e := Int32.lt_iff_toInt_lt.mp (Int32.not_le.mp c613)
      have e1 := hn
      have e2 : (i + 1).toInt = i.toInt + 1 := g_inc (by omega)
      exact ih (i + 1) _ (gEq_up hI rfl) (by omega) (by omega) (by omega)
def F_sheet (sheet : Int32) (sort : Int32) (n : Int32) : Int32 := if (0 ≤ sheet ∧ sheet ≤ 3) ∧ ((-1) ≤ sort ∧ sort ≤ 4) then (if sort = -1 then 1 else if 40 < n then -1 else if n < 0 then -14 else 1) else -1
set_option maxRecDepth 100000 in
set_option maxHeartbeats 4000000 in
theorem x_sheet (d : Nat) (sheet : Int32) (sort : Int32) (n : Int32) : G (d + 2) mX11_sheet 0 0 0 0 0 (gent 5 [.ref 0, .int sheet, .int sort, .int n]) [] SH0 RF0 I0 (fun r h => ∃ I1, r = some (.int (F_sheet sheet sort n)) ∧ h = (SH0, RF0, I1) ∧ ∀ a, 67 ≤ a → I1 a = I0 a) := by
  refine G_iload_n (pc := 0) rfl dX11_sheet_0 ?_
  refine G_callS (pc := 1) (mc1 := 0) (ms1 := 0) (mj := mX11_isPlace) (vs := [_]) dX11_sheet_1 cm_X11_isPlace wf_35 wf_37 rfl (Nat.le_of_ble_eq_true rfl) (Nat.le_of_ble_eq_true rfl) (Nat.le_of_ble_eq_true rfl) (Nat.le_of_ble_eq_true rfl) (isPlace_s d sheet) ?_
  rintro _ _ ⟨rfl, rfl⟩
  dsimp only [Option.toList, List.cons_append, List.nil_append]
  refine G_if_eq (pc := 4) (tgt := 16) (by decide) dX11_sheet_4 (fun c614 => ?_) (fun c614 => ?_)
  · have c614 := gB_z c614
    refine G_iconst (pc := 16) (v := (-1)) (by decide) dX11_sheet_16 ?_
    exact G_iret (pc := 17) (Nat.le_of_ble_eq_true rfl) (Nat.le_of_ble_eq_true rfl) rfl dX11_sheet_17 ⟨_, by first | rfl | (simp [F_sheet, *]; done) | (have : ¬ (0 ≤ (sheet).toInt ∧ (sheet).toInt ≤ 3) := fun z => c614 ⟨Int32.le_iff_toInt_le.mpr z.1, Int32.le_iff_toInt_le.mpr z.2⟩; simp only [F_sheet, Int32.le_iff_toInt_le, Int32.lt_iff_toInt_lt, ← Int32.toInt_inj]; simp; omega) | (have : ¬ (0 ≤ (sheet).toInt ∧ (sheet).toInt ≤ 3) := fun z => c614 ⟨Int32.le_iff_toInt_le.mpr z.1, Int32.le_iff_toInt_le.mpr z.2⟩; simp only [F_sheet, Int32.le_iff_toInt_le, Int32.lt_iff_toInt_lt, ← Int32.toInt_inj]; split <;> first | rfl | (exfalso; simp at *; omega)) | (have : ¬ (0 ≤ (sheet).toInt ∧ (sheet).toInt ≤ 3) := fun z => c614 ⟨Int32.le_iff_toInt_le.mpr z.1, Int32.le_iff_toInt_le.mpr z.2⟩; unfold F_sheet; (repeat' split) <;> first | rfl | (exfalso; (try simp only [Int32.le_iff_toInt_le, Int32.lt_iff_toInt_lt, ← Int32.toInt_inj] at *); first | omega | (simp at *; done) | (simp at *; omega))), rfl, fun _ _ => rfl⟩
  · have c614 := gB_o c614
    refine G_iload_n (pc := 7) rfl dX11_sheet_7 ?_
    refine G_iconst (pc := 8) (v := (-1)) (by decide) dX11_sheet_8 ?_
    refine G_iconst (pc := 9) (v := 4) (by decide) dX11_sheet_9 ?_
    refine G_callS (pc := 10) (mc1 := 0) (ms1 := 0) (mj := mX11_isIn) (vs := [_, _, _]) dX11_sheet_10 cm_X11_isIn wf_4 wf_6 rfl (Nat.le_of_ble_eq_true rfl) (Nat.le_of_ble_eq_true rfl) (Nat.le_of_ble_eq_true rfl) (Nat.le_of_ble_eq_true rfl) (isIn_s (d + 1) sort ((-1)) 4) ?_
    rintro _ _ ⟨rfl, rfl⟩
    dsimp only [Option.toList, List.cons_append, List.nil_append]
    refine G_if_ne (pc := 13) (tgt := 18) (by decide) dX11_sheet_13 (fun c615 => ?_) (fun c615 => ?_)
    · have c615 := gB_o c615
      refine G_iload_n (pc := 18) rfl dX11_sheet_18 ?_
      refine G_iconst (pc := 19) (v := (-1)) (by decide) dX11_sheet_19 ?_
      refine G_icmp_eq (pc := 20) (tgt := 70) (by decide) dX11_sheet_20 (fun c616 => ?_) (fun c616 => ?_)
      · refine G_aload_n (pc := 70) rfl dX11_sheet_70 ?_
        refine G_getR (pc := 71) (r := 2) (ci := 11) (j := 8) rfl lk_RX11_13 rfl rfl rfl dX11_sheet_71 ?_
        refine G_iload_n (pc := 74) rfl dX11_sheet_74 ?_
        refine G_iload_n (pc := 75) rfl dX11_sheet_75 ?_
        by_cases c617 : sheet = 0
        · subst c617
          refine G_iast (pc := 76) (jj := 0) (by decide) rfl (by unfold vp_in; decide) dX11_sheet_76 ?_
          refine G_iconst (pc := 77) (v := 1) (by decide) dX11_sheet_77 ?_
          exact G_iret (pc := 78) (Nat.le_of_ble_eq_true rfl) (Nat.le_of_ble_eq_true rfl) rfl dX11_sheet_78 ⟨_, by first | rfl | (simp [F_sheet, *]; done) | (have : -1 ≤ (sort).toInt := Int32.le_iff_toInt_le.mp (c615.1); have : (sort).toInt ≤ 4 := Int32.le_iff_toInt_le.mp (c615.2); have : (sort).toInt = -1 := congrArg Int32.toInt (c616); simp only [F_sheet, Int32.le_iff_toInt_le, Int32.lt_iff_toInt_lt, ← Int32.toInt_inj]; simp; omega) | (have : -1 ≤ (sort).toInt := Int32.le_iff_toInt_le.mp (c615.1); have : (sort).toInt ≤ 4 := Int32.le_iff_toInt_le.mp (c615.2); have : (sort).toInt = -1 := congrArg Int32.toInt (c616); simp only [F_sheet, Int32.le_iff_toInt_le, Int32.lt_iff_toInt_lt, ← Int32.toInt_inj]; split <;> first | rfl | (exfalso; simp at *; omega)) | (have : -1 ≤ (sort).toInt := Int32.le_iff_toInt_le.mp (c615.1); have : (sort).toInt ≤ 4 := Int32.le_iff_toInt_le.mp (c615.2); have : (sort).toInt = -1 := congrArg Int32.toInt (c616); unfold F_sheet; (repeat' split) <;> first | rfl | (exfalso; (try simp only [Int32.le_iff_toInt_le, Int32.lt_iff_toInt_lt, ← Int32.toInt_inj] at *); first | omega | (simp at *; done) | (simp at *; omega))), rfl, fun a ha => by funext j; simp (disch := omega) only [gup_off, gcp_off]⟩
        by_cases c618 : sheet = 1
        · subst c618
          refine G_iast (pc := 76) (jj := 1) (by decide) rfl (by unfold vp_in; decide) dX11_sheet_76 ?_
          refine G_iconst (pc := 77) (v := 1) (by decide) dX11_sheet_77 ?_
          exact G_iret (pc := 78) (Nat.le_of_ble_eq_true rfl) (Nat.le_of_ble_eq_true rfl) rfl dX11_sheet_78 ⟨_, by first | rfl | (simp [F_sheet, *]; done) | (have : -1 ≤ (sort).toInt := Int32.le_iff_toInt_le.mp (c615.1); have : (sort).toInt ≤ 4 := Int32.le_iff_toInt_le.mp (c615.2); have : (sort).toInt = -1 := congrArg Int32.toInt (c616); simp only [F_sheet, Int32.le_iff_toInt_le, Int32.lt_iff_toInt_lt, ← Int32.toInt_inj]; simp; omega) | (have : -1 ≤ (sort).toInt := Int32.le_iff_toInt_le.mp (c615.1); have : (sort).toInt ≤ 4 := Int32.le_iff_toInt_le.mp (c615.2); have : (sort).toInt = -1 := congrArg Int32.toInt (c616); simp only [F_sheet, Int32.le_iff_toInt_le, Int32.lt_iff_toInt_lt, ← Int32.toInt_inj]; split <;> first | rfl | (exfalso; simp at *; omega)) | (have : -1 ≤ (sort).toInt := Int32.le_iff_toInt_le.mp (c615.1); have : (sort).toInt ≤ 4 := Int32.le_iff_toInt_le.mp (c615.2); have : (sort).toInt = -1 := congrArg Int32.toInt (c616); unfold F_sheet; (repeat' split) <;> first | rfl | (exfalso; (try simp only [Int32.le_iff_toInt_le, Int32.lt_iff_toInt_lt, ← Int32.toInt_inj] at *); first | omega | (simp at *; done) | (simp at *; omega))), rfl, fun a ha => by funext j; simp (disch := omega) only [gup_off, gcp_off]⟩
        by_cases c619 : sheet = 2
        · subst c619
          refine G_iast (pc := 76) (jj := 2) (by decide) rfl (by unfold vp_in; decide) dX11_sheet_76 ?_
          refine G_iconst (pc := 77) (v := 1) (by decide) dX11_sheet_77 ?_
          exact G_iret (pc := 78) (Nat.le_of_ble_eq_true rfl) (Nat.le_of_ble_eq_true rfl) rfl dX11_sheet_78 ⟨_, by first | rfl | (simp [F_sheet, *]; done) | (have : -1 ≤ (sort).toInt := Int32.le_iff_toInt_le.mp (c615.1); have : (sort).toInt ≤ 4 := Int32.le_iff_toInt_le.mp (c615.2); have : (sort).toInt = -1 := congrArg Int32.toInt (c616); simp only [F_sheet, Int32.le_iff_toInt_le, Int32.lt_iff_toInt_lt, ← Int32.toInt_inj]; simp; omega) | (have : -1 ≤ (sort).toInt := Int32.le_iff_toInt_le.mp (c615.1); have : (sort).toInt ≤ 4 := Int32.le_iff_toInt_le.mp (c615.2); have : (sort).toInt = -1 := congrArg Int32.toInt (c616); simp only [F_sheet, Int32.le_iff_toInt_le, Int32.lt_iff_toInt_lt, ← Int32.toInt_inj]; split <;> first | rfl | (exfalso; simp at *; omega)) | (have : -1 ≤ (sort).toInt := Int32.le_iff_toInt_le.mp (c615.1); have : (sort).toInt ≤ 4 := Int32.le_iff_toInt_le.mp (c615.2); have : (sort).toInt = -1 := congrArg Int32.toInt (c616); unfold F_sheet; (repeat' split) <;> first | rfl | (exfalso; (try simp only [Int32.le_iff_toInt_le, Int32.lt_iff_toInt_lt, ← Int32.toInt_inj] at *); first | omega | (simp at *; done) | (simp at *; omega))), rfl, fun a ha => by funext j; simp (disch := omega) only [gup_off, gcp_off]⟩
        by_cases c620 : sheet = 3
        · subst c620
          refine G_iast (pc := 76) (jj := 3) (by decide) rfl (by unfold vp_in; decide) dX11_sheet_76 ?_
          refine G_iconst (pc := 77) (v := 1) (by decide) dX11_sheet_77 ?_
          exact G_iret (pc := 78) (Nat.le_of_ble_eq_true rfl) (Nat.le_of_ble_eq_true rfl) rfl dX11_sheet_78 ⟨_, by first | rfl | (simp [F_sheet, *]; done) | (have : -1 ≤ (sort).toInt := Int32.le_iff_toInt_le.mp (c615.1); have : (sort).toInt ≤ 4 := Int32.le_iff_toInt_le.mp (c615.2); have : (sort).toInt = -1 := congrArg Int32.toInt (c616); simp only [F_sheet, Int32.le_iff_toInt_le, Int32.lt_iff_toInt_lt, ← Int32.toInt_inj]; simp; omega) | (have : -1 ≤ (sort).toInt := Int32.le_iff_toInt_le.mp (c615.1); have : (sort).toInt ≤ 4 := Int32.le_iff_toInt_le.mp (c615.2); have : (sort).toInt = -1 := congrArg Int32.toInt (c616); simp only [F_sheet, Int32.le_iff_toInt_le, Int32.lt_iff_toInt_lt, ← Int32.toInt_inj]; split <;> first | rfl | (exfalso; simp at *; omega)) | (have : -1 ≤ (sort).toInt := Int32.le_iff_toInt_le.mp (c615.1); have : (sort).toInt ≤ 4 := Int32.le_iff_toInt_le.mp (c615.2); have : (sort).toInt = -1 := congrArg Int32.toInt (c616); unfold F_sheet; (repeat' split) <;> first | rfl | (exfalso; (try simp only [Int32.le_iff_toInt_le, Int32.lt_iff_toInt_lt, ← Int32.toInt_inj] at *); first | omega | (simp at *; done) | (simp at *; omega))), rfl, fun a ha => by funext j; simp (disch := omega) only [gup_off, gcp_off]⟩
        exfalso
        have : 0 ≤ (sheet).toInt := Int32.le_iff_toInt_le.mp (c614.1)
        have : (sheet).toInt ≤ 3 := Int32.le_iff_toInt_le.mp (c614.2)
        have : (sheet).toInt ≠ 0 := g_ne (c617)
        have : (sheet).toInt ≠ 1 := g_ne (c618)
        have : (sheet).toInt ≠ 2 := g_ne (c619)
        have : (sheet).toInt ≠ 3 := g_ne (c620)
        omega
      · refine G_iload_n (pc := 23) rfl dX11_sheet_23 ?_
        refine G_bipush (pc := 24) (v := 40) (by decide) dX11_sheet_24 ?_
        refine G_icmp_le (pc := 26) (tgt := 31) (by decide) dX11_sheet_26 (fun c621 => ?_) (fun c621 => ?_)
        · refine G_iload_n (pc := 31) rfl dX11_sheet_31 ?_
          refine G_if_ge (pc := 32) (tgt := 38) (by decide) dX11_sheet_32 (fun c622 => ?_) (fun c622 => ?_)
          · refine G_aload_n (pc := 38) rfl dX11_sheet_38 ?_
            refine G_getR (pc := 39) (r := 3) (ci := 11) (j := 9) rfl lk_RX11_16 rfl rfl rfl dX11_sheet_39 ?_
            refine G_iload_n (pc := 42) rfl dX11_sheet_42 ?_
            refine G_iload_n (pc := 43) rfl dX11_sheet_43 ?_
            by_cases c623 : sheet = 0
            · subst c623
              refine G_iast (pc := 44) (jj := 0) (by decide) rfl (by unfold vp_in; decide) dX11_sheet_44 ?_
              refine G_iconst (pc := 45) (v := 0) (by decide) dX11_sheet_45 ?_
              refine G_istore (pc := 46) (L1 := [some (.ref 0), some (.int 0), some (.int sort), some (.int n), some (.int 0)]) rfl rfl (by decide) dX11_sheet_46 ?_
              have : (n).toInt ≤ 40 := Int32.le_iff_toInt_le.mp (c621)
              have : 0 ≤ (n).toInt := Int32.le_iff_toInt_le.mp (c622)
              have : -1 ≤ (sort).toInt := Int32.le_iff_toInt_le.mp (c615.1)
              have : (sort).toInt ≤ 4 := Int32.le_iff_toInt_le.mp (c615.2)
              have : (sort).toInt ≠ -1 := g_ne (c616)
              have e : F_sheet 0 sort n = 1 := by
                (unfold F_sheet; (repeat' split) <;> first | rfl | (exfalso; (try simp only [Int32.le_iff_toInt_le, Int32.lt_iff_toInt_lt, ← Int32.toInt_inj] at *); first | omega | (simp at *; done) | (simp at *; omega)))
              rw [e]
              exact l_sheet0 (d + 2) n sort (by omega) 41 0 _ (gEq_up (gEq_refl gX2) rfl) (by decide) (by show (0 : Int) ≤ _; omega) (by show _ - (0 : Int) < _; omega)
            by_cases c624 : sheet = 1
            · subst c624
              refine G_iast (pc := 44) (jj := 1) (by decide) rfl (by unfold vp_in; decide) dX11_sheet_44 ?_
              refine G_iconst (pc := 45) (v := 0) (by decide) dX11_sheet_45 ?_
              refine G_istore (pc := 46) (L1 := [some (.ref 0), some (.int 1), some (.int sort), some (.int n), some (.int 0)]) rfl rfl (by decide) dX11_sheet_46 ?_
              have : (n).toInt ≤ 40 := Int32.le_iff_toInt_le.mp (c621)
              have : 0 ≤ (n).toInt := Int32.le_iff_toInt_le.mp (c622)
              have : -1 ≤ (sort).toInt := Int32.le_iff_toInt_le.mp (c615.1)
              have : (sort).toInt ≤ 4 := Int32.le_iff_toInt_le.mp (c615.2)
              have : (sort).toInt ≠ -1 := g_ne (c616)
              have e : F_sheet 1 sort n = 1 := by
                (unfold F_sheet; (repeat' split) <;> first | rfl | (exfalso; (try simp only [Int32.le_iff_toInt_le, Int32.lt_iff_toInt_lt, ← Int32.toInt_inj] at *); first | omega | (simp at *; done) | (simp at *; omega)))
              rw [e]
              exact l_sheet1 (d + 2) n sort (by omega) 41 0 _ (gEq_up (gEq_refl gX2) rfl) (by decide) (by show (0 : Int) ≤ _; omega) (by show _ - (0 : Int) < _; omega)
            by_cases c625 : sheet = 2
            · subst c625
              refine G_iast (pc := 44) (jj := 2) (by decide) rfl (by unfold vp_in; decide) dX11_sheet_44 ?_
              refine G_iconst (pc := 45) (v := 0) (by decide) dX11_sheet_45 ?_
              refine G_istore (pc := 46) (L1 := [some (.ref 0), some (.int 2), some (.int sort), some (.int n), some (.int 0)]) rfl rfl (by decide) dX11_sheet_46 ?_
              have : (n).toInt ≤ 40 := Int32.le_iff_toInt_le.mp (c621)
              have : 0 ≤ (n).toInt := Int32.le_iff_toInt_le.mp (c622)
              have : -1 ≤ (sort).toInt := Int32.le_iff_toInt_le.mp (c615.1)
              have : (sort).toInt ≤ 4 := Int32.le_iff_toInt_le.mp (c615.2)
              have : (sort).toInt ≠ -1 := g_ne (c616)
              have e : F_sheet 2 sort n = 1 := by
                (unfold F_sheet; (repeat' split) <;> first | rfl | (exfalso; (try simp only [Int32.le_iff_toInt_le, Int32.lt_iff_toInt_lt, ← Int32.toInt_inj] at *); first | omega | (simp at *; done) | (simp at *; omega)))
              rw [e]
              exact l_sheet2 (d + 2) n sort (by omega) 41 0 _ (gEq_up (gEq_refl gX2) rfl) (by decide) (by show (0 : Int) ≤ _; omega) (by show _ - (0 : Int) < _; omega)
            by_cases c626 : sheet = 3
            · subst c626
              refine G_iast (pc := 44) (jj := 3) (by decide) rfl (by unfold vp_in; decide) dX11_sheet_44 ?_
              refine G_iconst (pc := 45) (v := 0) (by decide) dX11_sheet_45 ?_
              refine G_istore (pc := 46) (L1 := [some (.ref 0), some (.int 3), some (.int sort), some (.int n), some (.int 0)]) rfl rfl (by decide) dX11_sheet_46 ?_
              have : (n).toInt ≤ 40 := Int32.le_iff_toInt_le.mp (c621)
              have : 0 ≤ (n).toInt := Int32.le_iff_toInt_le.mp (c622)
              have : -1 ≤ (sort).toInt := Int32.le_iff_toInt_le.mp (c615.1)
              have : (sort).toInt ≤ 4 := Int32.le_iff_toInt_le.mp (c615.2)
              have : (sort).toInt ≠ -1 := g_ne (c616)
              have e : F_sheet 3 sort n = 1 := by
                (unfold F_sheet; (repeat' split) <;> first | rfl | (exfalso; (try simp only [Int32.le_iff_toInt_le, Int32.lt_iff_toInt_lt, ← Int32.toInt_inj] at *); first | omega | (simp at *; done) | (simp at *; omega)))
              rw [e]
              exact l_sheet3 (d + 2) n sort (by omega) 41 0 _ (gEq_up (gEq_refl gX2) rfl) (by decide) (by show (0 : Int) ≤ _; omega) (by show _ - (0 : Int) < _; omega)
            exfalso
            have : 0 ≤ (sheet).toInt := Int32.le_iff_toInt_le.mp (c614.1)
            have : (sheet).toInt ≤ 3 := Int32.le_iff_toInt_le.mp (c614.2)
            have : (sheet).toInt ≠ 0 := g_ne (c623)
            have : (sheet).toInt ≠ 1 := g_ne (c624)
            have : (sheet).toInt ≠ 2 := g_ne (c625)
            have : (sheet).toInt ≠ 3 := g_ne (c626)
            omega
          · refine G_bipush (pc := 35) (v := (-14)) (by decide) dX11_sheet_35 ?_
            exact G_iret (pc := 37) (Nat.le_of_ble_eq_true rfl) (Nat.le_of_ble_eq_true rfl) rfl dX11_sheet_37 ⟨_, by first | rfl | (simp [F_sheet, *]; done) | (have : 0 ≤ (sheet).toInt := Int32.le_iff_toInt_le.mp (c614.1); have : (sheet).toInt ≤ 3 := Int32.le_iff_toInt_le.mp (c614.2); have : -1 ≤ (sort).toInt := Int32.le_iff_toInt_le.mp (c615.1); have : (sort).toInt ≤ 4 := Int32.le_iff_toInt_le.mp (c615.2); have : (sort).toInt ≠ -1 := g_ne (c616); have : (n).toInt ≤ 40 := Int32.le_iff_toInt_le.mp (c621); have : (n).toInt < 0 := Int32.lt_iff_toInt_lt.mp (Int32.not_le.mp c622); simp only [F_sheet, Int32.le_iff_toInt_le, Int32.lt_iff_toInt_lt, ← Int32.toInt_inj]; simp; omega) | (have : 0 ≤ (sheet).toInt := Int32.le_iff_toInt_le.mp (c614.1); have : (sheet).toInt ≤ 3 := Int32.le_iff_toInt_le.mp (c614.2); have : -1 ≤ (sort).toInt := Int32.le_iff_toInt_le.mp (c615.1); have : (sort).toInt ≤ 4 := Int32.le_iff_toInt_le.mp (c615.2); have : (sort).toInt ≠ -1 := g_ne (c616); have : (n).toInt ≤ 40 := Int32.le_iff_toInt_le.mp (c621); have : (n).toInt < 0 := Int32.lt_iff_toInt_lt.mp (Int32.not_le.mp c622); simp only [F_sheet, Int32.le_iff_toInt_le, Int32.lt_iff_toInt_lt, ← Int32.toInt_inj]; split <;> first | rfl | (exfalso; simp at *; omega)) | (have : 0 ≤ (sheet).toInt := Int32.le_iff_toInt_le.mp (c614.1); have : (sheet).toInt ≤ 3 := Int32.le_iff_toInt_le.mp (c614.2); have : -1 ≤ (sort).toInt := Int32.le_iff_toInt_le.mp (c615.1); have : (sort).toInt ≤ 4 := Int32.le_iff_toInt_le.mp (c615.2); have : (sort).toInt ≠ -1 := g_ne (c616); have : (n).toInt ≤ 40 := Int32.le_iff_toInt_le.mp (c621); have : (n).toInt < 0 := Int32.lt_iff_toInt_lt.mp (Int32.not_le.mp c622); unfold F_sheet; (repeat' split) <;> first | rfl | (exfalso; (try simp only [Int32.le_iff_toInt_le, Int32.lt_iff_toInt_lt, ← Int32.toInt_inj] at *); first | omega | (simp at *; done) | (simp at *; omega))), rfl, fun _ _ => rfl⟩
        · refine G_iconst (pc := 29) (v := (-1)) (by decide) dX11_sheet_29 ?_
          exact G_iret (pc := 30) (Nat.le_of_ble_eq_true rfl) (Nat.le_of_ble_eq_true rfl) rfl dX11_sheet_30 ⟨_, by first | rfl | (simp [F_sheet, *]; done) | (have : 0 ≤ (sheet).toInt := Int32.le_iff_toInt_le.mp (c614.1); have : (sheet).toInt ≤ 3 := Int32.le_iff_toInt_le.mp (c614.2); have : -1 ≤ (sort).toInt := Int32.le_iff_toInt_le.mp (c615.1); have : (sort).toInt ≤ 4 := Int32.le_iff_toInt_le.mp (c615.2); have : (sort).toInt ≠ -1 := g_ne (c616); have : 40 < (n).toInt := Int32.lt_iff_toInt_lt.mp (Int32.not_le.mp c621); simp only [F_sheet, Int32.le_iff_toInt_le, Int32.lt_iff_toInt_lt, ← Int32.toInt_inj]; simp; omega) | (have : 0 ≤ (sheet).toInt := Int32.le_iff_toInt_le.mp (c614.1); have : (sheet).toInt ≤ 3 := Int32.le_iff_toInt_le.mp (c614.2); have : -1 ≤ (sort).toInt := Int32.le_iff_toInt_le.mp (c615.1); have : (sort).toInt ≤ 4 := Int32.le_iff_toInt_le.mp (c615.2); have : (sort).toInt ≠ -1 := g_ne (c616); have : 40 < (n).toInt := Int32.lt_iff_toInt_lt.mp (Int32.not_le.mp c621); simp only [F_sheet, Int32.le_iff_toInt_le, Int32.lt_iff_toInt_lt, ← Int32.toInt_inj]; split <;> first | rfl | (exfalso; simp at *; omega)) | (have : 0 ≤ (sheet).toInt := Int32.le_iff_toInt_le.mp (c614.1); have : (sheet).toInt ≤ 3 := Int32.le_iff_toInt_le.mp (c614.2); have : -1 ≤ (sort).toInt := Int32.le_iff_toInt_le.mp (c615.1); have : (sort).toInt ≤ 4 := Int32.le_iff_toInt_le.mp (c615.2); have : (sort).toInt ≠ -1 := g_ne (c616); have : 40 < (n).toInt := Int32.lt_iff_toInt_lt.mp (Int32.not_le.mp c621); unfold F_sheet; (repeat' split) <;> first | rfl | (exfalso; (try simp only [Int32.le_iff_toInt_le, Int32.lt_iff_toInt_lt, ← Int32.toInt_inj] at *); first | omega | (simp at *; done) | (simp at *; omega))), rfl, fun _ _ => rfl⟩
    · have c615 := gB_z c615
      refine G_iconst (pc := 16) (v := (-1)) (by decide) dX11_sheet_16 ?_
      exact G_iret (pc := 17) (Nat.le_of_ble_eq_true rfl) (Nat.le_of_ble_eq_true rfl) rfl dX11_sheet_17 ⟨_, by first | rfl | (simp [F_sheet, *]; done) | (have : 0 ≤ (sheet).toInt := Int32.le_iff_toInt_le.mp (c614.1); have : (sheet).toInt ≤ 3 := Int32.le_iff_toInt_le.mp (c614.2); have : ¬ (-1 ≤ (sort).toInt ∧ (sort).toInt ≤ 4) := fun z => c615 ⟨Int32.le_iff_toInt_le.mpr z.1, Int32.le_iff_toInt_le.mpr z.2⟩; simp only [F_sheet, Int32.le_iff_toInt_le, Int32.lt_iff_toInt_lt, ← Int32.toInt_inj]; simp; omega) | (have : 0 ≤ (sheet).toInt := Int32.le_iff_toInt_le.mp (c614.1); have : (sheet).toInt ≤ 3 := Int32.le_iff_toInt_le.mp (c614.2); have : ¬ (-1 ≤ (sort).toInt ∧ (sort).toInt ≤ 4) := fun z => c615 ⟨Int32.le_iff_toInt_le.mpr z.1, Int32.le_iff_toInt_le.mpr z.2⟩; simp only [F_sheet, Int32.le_iff_toInt_le, Int32.lt_iff_toInt_lt, ← Int32.toInt_inj]; split <;> first | rfl | (exfalso; simp at *; omega)) | (have : 0 ≤ (sheet).toInt := Int32.le_iff_toInt_le.mp (c614.1); have : (sheet).toInt ≤ 3 := Int32.le_iff_toInt_le.mp (c614.2); have : ¬ (-1 ≤ (sort).toInt ∧ (sort).toInt ≤ 4) := fun z => c615 ⟨Int32.le_iff_toInt_le.mpr z.1, Int32.le_iff_toInt_le.mpr z.2⟩; unfold F_sheet; (repeat' split) <;> first | rfl | (exfalso; (try simp only [Int32.le_iff_toInt_le, Int32.lt_iff_toInt_lt, ← Int32.toInt_inj] at *); first | omega | (simp at *; done) | (simp at *; omega))), rfl, fun _ _ => rfl⟩
set_option maxRecDepth 100000 in
set_option maxHeartbeats 4000000 in
theorem o454_X2_shape  (d : Nat) (a0 a1 a2 : Int32) : G (d) mX2_shape 0 0 0 0 0 (gent 4 [.ref 14, .int a0, .int a1, .int a2]) [] SH0 RF0 I0 (fun r h => ∃ v, r = some (.int v) ∧ h = (SH0, RF0, I0)) := by
  refine G_iconst (pc := 0) (v := 5) (by decide) dX2_shape_0 ?_
  exact G_iret (pc := 1) (Nat.le_of_ble_eq_true rfl) (Nat.le_of_ble_eq_true rfl) rfl dX2_shape_1 ⟨_, rfl, rfl⟩
set_option maxRecDepth 100000 in
set_option maxHeartbeats 4000000 in
theorem s455_X1_misfitsAt  (d : Nat)  (a0 : Int32) (a1 : Int32) (a2 : Int32) : G (d) mX1_misfitsAt 0 0 0 0 0 (gent 8 [.ref 19, .int a0, .int a1, .int a2]) [] SH0 RF0 I0 (fun r h => r = some (.int 0) ∧ h = (SH0, RF0, I0)) := by
  refine G_iconst (pc := 0) (v := 0) (by decide) dX1_misfitsAt_0 ?_
  refine G_istore (pc := 1) (L1 := [some (.ref 19), some (.int a0), some (.int a1), some (.int a2), some (.int 0), none, none, none]) rfl rfl (by decide) dX1_misfitsAt_1 ?_
  refine G_iconst (pc := 3) (v := 0) (by decide) dX1_misfitsAt_3 ?_
  refine G_istore (pc := 4) (L1 := [some (.ref 19), some (.int a0), some (.int a1), some (.int a2), some (.int 0), some (.int 0), none, none]) rfl rfl (by decide) dX1_misfitsAt_4 ?_
  refine G_iload (pc := 6) rfl dX1_misfitsAt_6 ?_
  refine G_aload_n (pc := 8) rfl dX1_misfitsAt_8 ?_
  refine G_getI (pc := 9) (v := 0) (ci := 1) (j := 16) rfl rfl lk_RX1_82 rfl rfl dX1_misfitsAt_9 ?_
  refine G_icmp_ge (pc := 12) (tgt := 92) (by decide) dX1_misfitsAt_12 (fun _ => ?_) (fun z => absurd (by decide) z)
  refine G_iload (pc := 92) rfl dX1_misfitsAt_92 ?_
  exact G_iret (pc := 94) (Nat.le_of_ble_eq_true rfl) (Nat.le_of_ble_eq_true rfl) rfl dX1_misfitsAt_94 ⟨rfl, rfl⟩
set_option maxRecDepth 100000 in
set_option maxHeartbeats 4000000 in
theorem o457_X1_sunAt  (d : Nat) (a0 : Int32) : G (d) mX1_sunAt 0 0 0 0 0 (gent 2 [.ref 19, .int a0]) [] SH0 RF0 I0 (fun r h => ∃ v, r = some (.int v) ∧ h = (SH0, RF0, I0)) := by
  refine G_iload_n (pc := 0) rfl dX1_sunAt_0 ?_
  refine G_if_lt (pc := 1) (tgt := 19) (by decide) dX1_sunAt_1 (fun c629 => ?_) (fun c629 => ?_)
  · refine G_iconst (pc := 19) (v := 0) (by decide) dX1_sunAt_19 ?_
    exact G_iret (pc := 20) (Nat.le_of_ble_eq_true rfl) (Nat.le_of_ble_eq_true rfl) rfl dX1_sunAt_20 ⟨_, rfl, rfl⟩
  · refine G_iload_n (pc := 4) rfl dX1_sunAt_4 ?_
    refine G_bipush (pc := 5) (v := 16) (by decide) dX1_sunAt_5 ?_
    refine G_icmp_ge (pc := 7) (tgt := 19) (by decide) dX1_sunAt_7 (fun c630 => ?_) (fun c630 => ?_)
    · refine G_iconst (pc := 19) (v := 0) (by decide) dX1_sunAt_19 ?_
      exact G_iret (pc := 20) (Nat.le_of_ble_eq_true rfl) (Nat.le_of_ble_eq_true rfl) rfl dX1_sunAt_20 ⟨_, rfl, rfl⟩
    · refine G_aload_n (pc := 10) rfl dX1_sunAt_10 ?_
      refine G_getR (pc := 11) (r := 20) (ci := 1) (j := 5) rfl lk_RX1_18 rfl rfl rfl dX1_sunAt_11 ?_
      refine G_iload_n (pc := 14) rfl dX1_sunAt_14 ?_
      refine G_iald (pc := 15) (nn := 16) rfl rfl rfl (by have : 0 ≤ (a0).toInt := Int32.le_iff_toInt_le.mp (Int32.not_lt.mp c629); have : (a0).toInt < 16 := Int32.lt_iff_toInt_lt.mp (Int32.not_le.mp c630); exact g_in (by omega) (by omega)) dX1_sunAt_15 ?_
      refine G_goto (pc := 16) (tgt := 20) (by decide) dX1_sunAt_16 ?_
      exact G_iret (pc := 20) (Nat.le_of_ble_eq_true rfl) (Nat.le_of_ble_eq_true rfl) rfl dX1_sunAt_20 ⟨_, rfl, rfl⟩
set_option maxRecDepth 100000 in
set_option maxHeartbeats 4000000 in
theorem o456_X1_heatAt  (d : Nat) (a0 : Int32) : G (d + 1) mX1_heatAt 0 0 0 0 0 (gent 2 [.ref 19, .int a0]) [] SH0 RF0 I0 (fun r h => ∃ v, r = some (.int v) ∧ h = (SH0, RF0, I0)) := by
  refine G_aload_n (pc := 0) rfl dX1_heatAt_0 ?_
  refine G_iload_n (pc := 1) rfl dX1_heatAt_1 ?_
  refine G_callV (pc := 2) (mc1 := 0) (ms1 := 0) (ci := 1) (mj := mX1_sunAt) (vs := [_]) dX1_heatAt_2 rfl rfl cm_X1_sunAt wf_195 wf_21 wf_22 rfl (Nat.le_of_ble_eq_true rfl) (Nat.le_of_ble_eq_true rfl) (Nat.le_of_ble_eq_true rfl) (Nat.le_of_ble_eq_true rfl) (o457_X1_sunAt  d _) ?_
  rintro _ _ ⟨v631, rfl, rfl⟩
  dsimp only [Option.toList, List.cons_append, List.nil_append]
  refine G_iconst (pc := 5) (v := 4) (by decide) dX1_heatAt_5 ?_
  refine G_idiv (pc := 6) rfl (by decide) dX1_heatAt_6 ?_
  exact G_iret (pc := 7) (Nat.le_of_ble_eq_true rfl) (Nat.le_of_ble_eq_true rfl) rfl dX1_heatAt_7 ⟨_, rfl, rfl⟩
set_option maxRecDepth 100000 in
set_option maxHeartbeats 4000000 in
theorem o458_X1_shadeAt  (d : Nat) (a0 : Int32) : G (d + 1) mX1_shadeAt 0 0 0 0 0 (gent 2 [.ref 19, .int a0]) [] SH0 RF0 I0 (fun r h => ∃ v, r = some (.int v) ∧ h = (SH0, RF0, I0)) := by
  refine G_aload_n (pc := 0) rfl dX1_shadeAt_0 ?_
  refine G_iload_n (pc := 1) rfl dX1_shadeAt_1 ?_
  refine G_callV (pc := 2) (mc1 := 0) (ms1 := 0) (ci := 1) (mj := mX1_sunAt) (vs := [_]) dX1_shadeAt_2 rfl rfl cm_X1_sunAt wf_195 wf_21 wf_22 rfl (Nat.le_of_ble_eq_true rfl) (Nat.le_of_ble_eq_true rfl) (Nat.le_of_ble_eq_true rfl) (Nat.le_of_ble_eq_true rfl) (o457_X1_sunAt  d _) ?_
  rintro _ _ ⟨v633, rfl, rfl⟩
  dsimp only [Option.toList, List.cons_append, List.nil_append]
  refine G_iconst (pc := 5) (v := 4) (by decide) dX1_shadeAt_5 ?_
  refine G_irem (pc := 6) rfl (by decide) dX1_shadeAt_6 ?_
  exact G_iret (pc := 7) (Nat.le_of_ble_eq_true rfl) (Nat.le_of_ble_eq_true rfl) rfl dX1_shadeAt_7 ⟨_, rfl, rfl⟩
set_option maxRecDepth 100000 in
set_option maxHeartbeats 4000000 in
theorem o459_X2_melts  (d : Nat) (a0 a1 a2 : Int32) : G (d) mX2_melts 0 0 0 0 0 (gent 4 [.ref 14, .int a0, .int a1, .int a2]) [] SH0 RF0 I0 (fun r h => ∃ v, r = some (.int v) ∧ h = (SH0, RF0, I0)) := by
  refine G_iconst (pc := 0) (v := 0) (by decide) dX2_melts_0 ?_
  exact G_iret (pc := 1) (Nat.le_of_ble_eq_true rfl) (Nat.le_of_ble_eq_true rfl) rfl dX2_melts_1 ⟨_, rfl, rfl⟩
set_option maxRecDepth 100000 in
set_option maxHeartbeats 4000000 in
theorem l_misfits1  (d : Nat) (st t0 : Int32) (f : Nat) : ∀ (t i : Int32),  0 ≤ i.toInt → i.toInt ≤ 16 → 16 - i.toInt < f → G (d + 2) mX1_misfits 0 0 0 0 9 [some (.ref 19), some (.int 1), some (.int st), some (.int t0), some (.int 0), some (.int t), some (.int i), none, none] [] SH0 RF0 I0 (fun r h => r = some (.int 0) ∧ h = (SH0, RF0, I0)) := by
  induction f with
  | zero => intro t i h0 h1 hf; exfalso; omega
  | succ f ih =>
    intro t i h0 h1 hf
    refine G_iload (pc := 9) rfl dX1_misfits_9 ?_
    refine G_bipush (pc := 11) (v := 16) (by decide) dX1_misfits_11 ?_
    refine G_icmp_ge (pc := 13) (tgt := 96) (by decide) dX1_misfits_13 (fun c627 => ?_) (fun c627 => ?_)
    · refine G_iload (pc := 96) rfl dX1_misfits_96 ?_
      exact G_iret (pc := 98) (Nat.le_of_ble_eq_true rfl) (Nat.le_of_ble_eq_true rfl) rfl dX1_misfits_98 ⟨rfl, rfl⟩
    · refine G_aload_n (pc := 16) rfl dX1_misfits_16 ?_
      refine G_getR (pc := 17) (r := 12) (ci := 1) (j := 0) rfl lk_RX1_56 rfl rfl rfl dX1_misfits_17 ?_
      refine G_iload_n (pc := 20) rfl dX1_misfits_20 ?_
      refine G_kald (pc := 21) (jj := 1) (r := 14) (by decide) rfl (by unfold vp_in; decide) rfl dX1_misfits_21 ?_
      refine G_iload (pc := 22) rfl dX1_misfits_22 ?_
      refine G_iload_n (pc := 24) rfl dX1_misfits_24 ?_
      refine G_iconst (pc := 25) (v := 0) (by decide) dX1_misfits_25 ?_
      refine G_callU (pc := 26) (mc1 := 0) (ms1 := 0) (ci := 2) (mj := mX2_shape) (vs := [_, _, _]) dX1_misfits_26 rfl rfl cm_X2_shape wf_185 wf_186 wf_187 wf_188 wf_189 wf_190 (by decide) rfl (Nat.le_of_ble_eq_true rfl) (Nat.le_of_ble_eq_true rfl) (Nat.le_of_ble_eq_true rfl) (Nat.le_of_ble_eq_true rfl) (o454_X2_shape  (d + 1) _ _ _) ?_
      rintro _ _ ⟨v628, rfl, rfl⟩
      dsimp only [Option.toList, List.cons_append, List.nil_append]
      refine G_istore (pc := 29) (L1 := [some (.ref 19), some (.int 1), some (.int st), some (.int t0), some (.int 0), some (.int t), some (.int i), some (.int v628), none]) rfl rfl (by decide) dX1_misfits_29 ?_
      refine G_iload (pc := 31) rfl dX1_misfits_31 ?_
      refine G_aload_n (pc := 33) rfl dX1_misfits_33 ?_
      refine G_iload (pc := 34) rfl dX1_misfits_34 ?_
      refine G_iload (pc := 36) rfl dX1_misfits_36 ?_
      refine G_iload (pc := 38) rfl dX1_misfits_38 ?_
      refine G_callV (pc := 40) (mc1 := 0) (ms1 := 0) (ci := 1) (mj := mX1_misfitsAt) (vs := [_, _, _]) dX1_misfits_40 rfl rfl cm_X1_misfitsAt wf_191 wf_193 wf_194 rfl (Nat.le_of_ble_eq_true rfl) (Nat.le_of_ble_eq_true rfl) (Nat.le_of_ble_eq_true rfl) (Nat.le_of_ble_eq_true rfl) (s455_X1_misfitsAt  (d + 1)  _ _ _) ?_
      rintro _ _ ⟨rfl, rfl⟩
      dsimp only [Option.toList, List.cons_append, List.nil_append]
      refine G_ior (pc := 43) (z := 0) (by decide) dX1_misfits_43 ?_
      refine G_istore (pc := 44) (L1 := [some (.ref 19), some (.int 1), some (.int st), some (.int t0), some (.int 0), some (.int t), some (.int i), some (.int v628), none]) rfl rfl (by decide) dX1_misfits_44 ?_
      refine G_aload_n (pc := 46) rfl dX1_misfits_46 ?_
      refine G_getR (pc := 47) (r := 12) (ci := 1) (j := 0) rfl lk_RX1_56 rfl rfl rfl dX1_misfits_47 ?_
      refine G_iload_n (pc := 50) rfl dX1_misfits_50 ?_
      refine G_kald (pc := 51) (jj := 1) (r := 14) (by decide) rfl (by unfold vp_in; decide) rfl dX1_misfits_51 ?_
      refine G_aload_n (pc := 52) rfl dX1_misfits_52 ?_
      refine G_iload (pc := 53) rfl dX1_misfits_53 ?_
      refine G_callV (pc := 55) (mc1 := 0) (ms1 := 0) (ci := 1) (mj := mX1_heatAt) (vs := [_]) dX1_misfits_55 rfl rfl cm_X1_heatAt wf_196 wf_198 wf_199 rfl (Nat.le_of_ble_eq_true rfl) (Nat.le_of_ble_eq_true rfl) (Nat.le_of_ble_eq_true rfl) (Nat.le_of_ble_eq_true rfl) (o456_X1_heatAt  d _) ?_
      rintro _ _ ⟨v632, rfl, rfl⟩
      dsimp only [Option.toList, List.cons_append, List.nil_append]
      refine G_aload_n (pc := 58) rfl dX1_misfits_58 ?_
      refine G_iload (pc := 59) rfl dX1_misfits_59 ?_
      refine G_callV (pc := 61) (mc1 := 0) (ms1 := 0) (ci := 1) (mj := mX1_shadeAt) (vs := [_]) dX1_misfits_61 rfl rfl cm_X1_shadeAt wf_200 wf_202 wf_203 rfl (Nat.le_of_ble_eq_true rfl) (Nat.le_of_ble_eq_true rfl) (Nat.le_of_ble_eq_true rfl) (Nat.le_of_ble_eq_true rfl) (o458_X1_shadeAt  d _) ?_
      rintro _ _ ⟨v634, rfl, rfl⟩
      dsimp only [Option.toList, List.cons_append, List.nil_append]
      refine G_iload (pc := 64) rfl dX1_misfits_64 ?_
      refine G_callU (pc := 66) (mc1 := 0) (ms1 := 0) (ci := 2) (mj := mX2_melts) (vs := [_, _, _]) dX1_misfits_66 rfl rfl cm_X2_melts wf_205 wf_206 wf_207 wf_208 wf_209 wf_210 (by decide) rfl (Nat.le_of_ble_eq_true rfl) (Nat.le_of_ble_eq_true rfl) (Nat.le_of_ble_eq_true rfl) (Nat.le_of_ble_eq_true rfl) (o459_X2_melts  (d + 1) _ _ _) ?_
      rintro _ _ ⟨v635, rfl, rfl⟩
      dsimp only [Option.toList, List.cons_append, List.nil_append]
      refine G_iload_n (pc := 69) rfl dX1_misfits_69 ?_
      refine G_iconst (pc := 70) (v := 3) (by decide) dX1_misfits_70 ?_
      refine G_idiv (pc := 71) rfl (by decide) dX1_misfits_71 ?_
      refine G_isub (pc := 72) rfl dX1_misfits_72 ?_
      refine G_istore (pc := 73) (L1 := [some (.ref 19), some (.int 1), some (.int st), some (.int t0), some (.int 0), some (.int t), some (.int i), some (.int v628), some (.int (v635 - (st / 3)))]) rfl rfl (by decide) dX1_misfits_73 ?_
      refine G_iconst (pc := 75) (v := 0) (by decide) dX1_misfits_75 ?_
      refine G_iload (pc := 76) rfl dX1_misfits_76 ?_
      refine G_iconst (pc := 78) (v := 0) (by decide) dX1_misfits_78 ?_
      refine G_iload (pc := 79) rfl dX1_misfits_79 ?_
      refine G_max (pc := 81) dX1_misfits_81 wf_147 wf_148 wf_145 wf_149 (Nat.le_of_ble_eq_true rfl) (Nat.le_of_ble_eq_true rfl) (Nat.le_of_ble_eq_true rfl) ?_
      refine G_isub (pc := 84) rfl dX1_misfits_84 ?_
      refine G_max (pc := 85) dX1_misfits_85 wf_147 wf_148 wf_145 wf_149 (Nat.le_of_ble_eq_true rfl) (Nat.le_of_ble_eq_true rfl) (Nat.le_of_ble_eq_true rfl) ?_
      refine G_istore (pc := 88) (L1 := [some (.ref 19), some (.int 1), some (.int st), some (.int t0), some (.int 0), some (.int (if 0 < (t - (if 0 < (v635 - (st / 3)) then (v635 - (st / 3)) else 0)) then (t - (if 0 < (v635 - (st / 3)) then (v635 - (st / 3)) else 0)) else 0)), some (.int i), some (.int v628), some (.int (v635 - (st / 3)))]) rfl rfl (by decide) dX1_misfits_88 ?_
      refine G_iinc (pc := 90) (v := 1) (w := (i + 1)) (L1 := [some (.ref 19), some (.int 1), some (.int st), some (.int t0), some (.int 0), some (.int (if 0 < (t - (if 0 < (v635 - (st / 3)) then (v635 - (st / 3)) else 0)) then (t - (if 0 < (v635 - (st / 3)) then (v635 - (st / 3)) else 0)) else 0)), some (.int (i + 1)), some (.int v628), some (.int (v635 - (st / 3)))]) rfl rfl rfl (by decide) rfl (by decide) dX1_misfits_90 ?_
      refine G_goto (pc := 93) (tgt := 9) (by decide) dX1_misfits_93 ?_
      have e := Int32.lt_iff_toInt_lt.mp (Int32.not_le.mp c627)
      have e1 : (16 : Int32).toInt = 16 := rfl
      have e2 : (i + 1).toInt = i.toInt + 1 := g_inc (by omega)
      refine G_drop 7 rfl (G_drop 8 rfl ?_)
      exact ih _ (i + 1) (by omega) (by omega) (by omega)
set_option maxRecDepth 100000 in
set_option maxHeartbeats 4000000 in
theorem misfits1 (d : Nat) (st t0 : Int32) : G (d + 2) mX1_misfits 0 0 0 0 0 (gent 9 [.ref 19, .int 1, .int st, .int t0]) [] SH0 RF0 I0 (fun r h => r = some (.int 0) ∧ h = (SH0, RF0, I0)) := by
  refine G_iconst (pc := 0) (v := 0) (by decide) dX1_misfits_0 ?_
  refine G_istore (pc := 1) (L1 := [some (.ref 19), some (.int 1), some (.int st), some (.int t0), some (.int 0), none, none, none, none]) rfl rfl (by decide) dX1_misfits_1 ?_
  refine G_iload_n (pc := 3) rfl dX1_misfits_3 ?_
  refine G_istore (pc := 4) (L1 := [some (.ref 19), some (.int 1), some (.int st), some (.int t0), some (.int 0), some (.int t0), none, none, none]) rfl rfl (by decide) dX1_misfits_4 ?_
  refine G_iconst (pc := 6) (v := 0) (by decide) dX1_misfits_6 ?_
  refine G_istore (pc := 7) (L1 := [some (.ref 19), some (.int 1), some (.int st), some (.int t0), some (.int 0), some (.int t0), some (.int 0), none, none]) rfl rfl (by decide) dX1_misfits_7 ?_
  exact l_misfits1 d _ _ 17 _ 0 (by decide) (by decide) (by decide)
set_option maxRecDepth 100000 in
set_option maxHeartbeats 4000000 in
theorem o460_X8_shape  (d : Nat) (a0 a1 a2 : Int32) : G (d) mX8_shape 0 0 0 0 0 (gent 4 [.ref 15, .int a0, .int a1, .int a2]) [] SH0 RF0 I0 (fun r h => ∃ v, r = some (.int v) ∧ h = (SH0, RF0, I0)) := by
  refine G_iload_n (pc := 0) rfl dX8_shape_0 ?_
  refine G_bipush (pc := 1) (v := 10) (by decide) dX8_shape_1 ?_
  refine G_idiv (pc := 3) rfl (by decide) dX8_shape_3 ?_
  refine G_iload_n (pc := 4) rfl dX8_shape_4 ?_
  refine G_bipush (pc := 5) (v := 50) (by decide) dX8_shape_5 ?_
  refine G_idiv (pc := 7) rfl (by decide) dX8_shape_7 ?_
  refine G_iadd (pc := 8) rfl dX8_shape_8 ?_
  exact G_iret (pc := 9) (Nat.le_of_ble_eq_true rfl) (Nat.le_of_ble_eq_true rfl) rfl dX8_shape_9 ⟨_, rfl, rfl⟩
set_option maxRecDepth 100000 in
set_option maxHeartbeats 4000000 in
theorem s461_X1_misfitsAt  (d : Nat)  (a0 : Int32) (a1 : Int32) (a2 : Int32) : G (d) mX1_misfitsAt 0 0 0 0 0 (gent 8 [.ref 19, .int a0, .int a1, .int a2]) [] SH0 RF0 I0 (fun r h => r = some (.int 0) ∧ h = (SH0, RF0, I0)) := by
  refine G_iconst (pc := 0) (v := 0) (by decide) dX1_misfitsAt_0 ?_
  refine G_istore (pc := 1) (L1 := [some (.ref 19), some (.int a0), some (.int a1), some (.int a2), some (.int 0), none, none, none]) rfl rfl (by decide) dX1_misfitsAt_1 ?_
  refine G_iconst (pc := 3) (v := 0) (by decide) dX1_misfitsAt_3 ?_
  refine G_istore (pc := 4) (L1 := [some (.ref 19), some (.int a0), some (.int a1), some (.int a2), some (.int 0), some (.int 0), none, none]) rfl rfl (by decide) dX1_misfitsAt_4 ?_
  refine G_iload (pc := 6) rfl dX1_misfitsAt_6 ?_
  refine G_aload_n (pc := 8) rfl dX1_misfitsAt_8 ?_
  refine G_getI (pc := 9) (v := 0) (ci := 1) (j := 16) rfl rfl lk_RX1_82 rfl rfl dX1_misfitsAt_9 ?_
  refine G_icmp_ge (pc := 12) (tgt := 92) (by decide) dX1_misfitsAt_12 (fun _ => ?_) (fun z => absurd (by decide) z)
  refine G_iload (pc := 92) rfl dX1_misfitsAt_92 ?_
  exact G_iret (pc := 94) (Nat.le_of_ble_eq_true rfl) (Nat.le_of_ble_eq_true rfl) rfl dX1_misfitsAt_94 ⟨rfl, rfl⟩
set_option maxRecDepth 100000 in
set_option maxHeartbeats 4000000 in
theorem o463_X3_melts  (d : Nat) (a0 a1 a2 : Int32) : G (d) mX3_melts 0 0 0 0 0 (gent 4 [.ref 15, .int a0, .int a1, .int a2]) [] SH0 RF0 I0 (fun r h => ∃ v, r = some (.int v) ∧ h = (SH0, RF0, I0)) := by
  refine G_iconst (pc := 0) (v := 3) (by decide) dX3_melts_0 ?_
  refine G_iconst (pc := 1) (v := 2) (by decide) dX3_melts_1 ?_
  refine G_iload_n (pc := 2) rfl dX3_melts_2 ?_
  refine G_imul (pc := 3) rfl dX3_melts_3 ?_
  refine G_iadd (pc := 4) rfl dX3_melts_4 ?_
  exact G_iret (pc := 5) (Nat.le_of_ble_eq_true rfl) (Nat.le_of_ble_eq_true rfl) rfl dX3_melts_5 ⟨_, rfl, rfl⟩
set_option maxRecDepth 100000 in
set_option maxHeartbeats 4000000 in
theorem o462_X8_melts  (d : Nat) (a0 a1 a2 : Int32) : G (d + 1) mX8_melts 0 0 0 0 0 (gent 4 [.ref 15, .int a0, .int a1, .int a2]) [] SH0 RF0 I0 (fun r h => ∃ v, r = some (.int v) ∧ h = (SH0, RF0, I0)) := by
  refine G_iconst (pc := 0) (v := 0) (by decide) dX8_melts_0 ?_
  refine G_iconst (pc := 1) (v := 2) (by decide) dX8_melts_1 ?_
  refine G_aload_n (pc := 2) rfl dX8_melts_2 ?_
  refine G_iload_n (pc := 3) rfl dX8_melts_3 ?_
  refine G_iload_n (pc := 4) rfl dX8_melts_4 ?_
  refine G_iload_n (pc := 5) rfl dX8_melts_5 ?_
  refine G_callSU (pc := 6) (mc1 := 0) (ms1 := 0) (ci := 8) (mj := mX3_melts) (vs := [_, _, _]) dX8_melts_6 rfl rfl cm_X3_melts wf_216 wf_206 wf_217 wf_207 (by decide) rfl (Nat.le_of_ble_eq_true rfl) (Nat.le_of_ble_eq_true rfl) (Nat.le_of_ble_eq_true rfl) (Nat.le_of_ble_eq_true rfl) (o463_X3_melts  d _ _ _) ?_
  rintro _ _ ⟨v640, rfl, rfl⟩
  dsimp only [Option.toList, List.cons_append, List.nil_append]
  refine G_imul (pc := 9) rfl dX8_melts_9 ?_
  refine G_iload_n (pc := 10) rfl dX8_melts_10 ?_
  refine G_isub (pc := 11) rfl dX8_melts_11 ?_
  refine G_max (pc := 12) dX8_melts_12 wf_218 wf_148 wf_145 wf_149 (Nat.le_of_ble_eq_true rfl) (Nat.le_of_ble_eq_true rfl) (Nat.le_of_ble_eq_true rfl) ?_
  exact G_iret (pc := 15) (Nat.le_of_ble_eq_true rfl) (Nat.le_of_ble_eq_true rfl) rfl dX8_melts_15 ⟨_, rfl, rfl⟩
set_option maxRecDepth 100000 in
set_option maxHeartbeats 4000000 in
theorem l_misfits2  (d : Nat) (st t0 : Int32) (f : Nat) : ∀ (t i : Int32),  0 ≤ i.toInt → i.toInt ≤ 16 → 16 - i.toInt < f → G (d + 2) mX1_misfits 0 0 0 0 9 [some (.ref 19), some (.int 2), some (.int st), some (.int t0), some (.int 0), some (.int t), some (.int i), none, none] [] SH0 RF0 I0 (fun r h => r = some (.int 0) ∧ h = (SH0, RF0, I0)) := by
  induction f with
  | zero => intro t i h0 h1 hf; exfalso; omega
  | succ f ih =>
    intro t i h0 h1 hf
    refine G_iload (pc := 9) rfl dX1_misfits_9 ?_
    refine G_bipush (pc := 11) (v := 16) (by decide) dX1_misfits_11 ?_
    refine G_icmp_ge (pc := 13) (tgt := 96) (by decide) dX1_misfits_13 (fun c636 => ?_) (fun c636 => ?_)
    · refine G_iload (pc := 96) rfl dX1_misfits_96 ?_
      exact G_iret (pc := 98) (Nat.le_of_ble_eq_true rfl) (Nat.le_of_ble_eq_true rfl) rfl dX1_misfits_98 ⟨rfl, rfl⟩
    · refine G_aload_n (pc := 16) rfl dX1_misfits_16 ?_
      refine G_getR (pc := 17) (r := 12) (ci := 1) (j := 0) rfl lk_RX1_56 rfl rfl rfl dX1_misfits_17 ?_
      refine G_iload_n (pc := 20) rfl dX1_misfits_20 ?_
      refine G_kald (pc := 21) (jj := 2) (r := 15) (by decide) rfl (by unfold vp_in; decide) rfl dX1_misfits_21 ?_
      refine G_iload (pc := 22) rfl dX1_misfits_22 ?_
      refine G_iload_n (pc := 24) rfl dX1_misfits_24 ?_
      refine G_iconst (pc := 25) (v := 0) (by decide) dX1_misfits_25 ?_
      refine G_callU (pc := 26) (mc1 := 0) (ms1 := 0) (ci := 8) (mj := mX8_shape) (vs := [_, _, _]) dX1_misfits_26 rfl rfl cm_X8_shape wf_185 wf_186 wf_187 wf_188 wf_213 wf_214 (by decide) rfl (Nat.le_of_ble_eq_true rfl) (Nat.le_of_ble_eq_true rfl) (Nat.le_of_ble_eq_true rfl) (Nat.le_of_ble_eq_true rfl) (o460_X8_shape  (d + 1) _ _ _) ?_
      rintro _ _ ⟨v637, rfl, rfl⟩
      dsimp only [Option.toList, List.cons_append, List.nil_append]
      refine G_istore (pc := 29) (L1 := [some (.ref 19), some (.int 2), some (.int st), some (.int t0), some (.int 0), some (.int t), some (.int i), some (.int v637), none]) rfl rfl (by decide) dX1_misfits_29 ?_
      refine G_iload (pc := 31) rfl dX1_misfits_31 ?_
      refine G_aload_n (pc := 33) rfl dX1_misfits_33 ?_
      refine G_iload (pc := 34) rfl dX1_misfits_34 ?_
      refine G_iload (pc := 36) rfl dX1_misfits_36 ?_
      refine G_iload (pc := 38) rfl dX1_misfits_38 ?_
      refine G_callV (pc := 40) (mc1 := 0) (ms1 := 0) (ci := 1) (mj := mX1_misfitsAt) (vs := [_, _, _]) dX1_misfits_40 rfl rfl cm_X1_misfitsAt wf_191 wf_193 wf_194 rfl (Nat.le_of_ble_eq_true rfl) (Nat.le_of_ble_eq_true rfl) (Nat.le_of_ble_eq_true rfl) (Nat.le_of_ble_eq_true rfl) (s461_X1_misfitsAt  (d + 1)  _ _ _) ?_
      rintro _ _ ⟨rfl, rfl⟩
      dsimp only [Option.toList, List.cons_append, List.nil_append]
      refine G_ior (pc := 43) (z := 0) (by decide) dX1_misfits_43 ?_
      refine G_istore (pc := 44) (L1 := [some (.ref 19), some (.int 2), some (.int st), some (.int t0), some (.int 0), some (.int t), some (.int i), some (.int v637), none]) rfl rfl (by decide) dX1_misfits_44 ?_
      refine G_aload_n (pc := 46) rfl dX1_misfits_46 ?_
      refine G_getR (pc := 47) (r := 12) (ci := 1) (j := 0) rfl lk_RX1_56 rfl rfl rfl dX1_misfits_47 ?_
      refine G_iload_n (pc := 50) rfl dX1_misfits_50 ?_
      refine G_kald (pc := 51) (jj := 2) (r := 15) (by decide) rfl (by unfold vp_in; decide) rfl dX1_misfits_51 ?_
      refine G_aload_n (pc := 52) rfl dX1_misfits_52 ?_
      refine G_iload (pc := 53) rfl dX1_misfits_53 ?_
      refine G_callV (pc := 55) (mc1 := 0) (ms1 := 0) (ci := 1) (mj := mX1_heatAt) (vs := [_]) dX1_misfits_55 rfl rfl cm_X1_heatAt wf_196 wf_198 wf_199 rfl (Nat.le_of_ble_eq_true rfl) (Nat.le_of_ble_eq_true rfl) (Nat.le_of_ble_eq_true rfl) (Nat.le_of_ble_eq_true rfl) (o456_X1_heatAt  d _) ?_
      rintro _ _ ⟨v638, rfl, rfl⟩
      dsimp only [Option.toList, List.cons_append, List.nil_append]
      refine G_aload_n (pc := 58) rfl dX1_misfits_58 ?_
      refine G_iload (pc := 59) rfl dX1_misfits_59 ?_
      refine G_callV (pc := 61) (mc1 := 0) (ms1 := 0) (ci := 1) (mj := mX1_shadeAt) (vs := [_]) dX1_misfits_61 rfl rfl cm_X1_shadeAt wf_200 wf_202 wf_203 rfl (Nat.le_of_ble_eq_true rfl) (Nat.le_of_ble_eq_true rfl) (Nat.le_of_ble_eq_true rfl) (Nat.le_of_ble_eq_true rfl) (o458_X1_shadeAt  d _) ?_
      rintro _ _ ⟨v639, rfl, rfl⟩
      dsimp only [Option.toList, List.cons_append, List.nil_append]
      refine G_iload (pc := 64) rfl dX1_misfits_64 ?_
      refine G_callU (pc := 66) (mc1 := 0) (ms1 := 0) (ci := 8) (mj := mX8_melts) (vs := [_, _, _]) dX1_misfits_66 rfl rfl cm_X8_melts wf_205 wf_206 wf_207 wf_208 wf_220 wf_221 (by decide) rfl (Nat.le_of_ble_eq_true rfl) (Nat.le_of_ble_eq_true rfl) (Nat.le_of_ble_eq_true rfl) (Nat.le_of_ble_eq_true rfl) (o462_X8_melts  d _ _ _) ?_
      rintro _ _ ⟨v641, rfl, rfl⟩
      dsimp only [Option.toList, List.cons_append, List.nil_append]
      refine G_iload_n (pc := 69) rfl dX1_misfits_69 ?_
      refine G_iconst (pc := 70) (v := 3) (by decide) dX1_misfits_70 ?_
      refine G_idiv (pc := 71) rfl (by decide) dX1_misfits_71 ?_
      refine G_isub (pc := 72) rfl dX1_misfits_72 ?_
      refine G_istore (pc := 73) (L1 := [some (.ref 19), some (.int 2), some (.int st), some (.int t0), some (.int 0), some (.int t), some (.int i), some (.int v637), some (.int (v641 - (st / 3)))]) rfl rfl (by decide) dX1_misfits_73 ?_
      refine G_iconst (pc := 75) (v := 0) (by decide) dX1_misfits_75 ?_
      refine G_iload (pc := 76) rfl dX1_misfits_76 ?_
      refine G_iconst (pc := 78) (v := 0) (by decide) dX1_misfits_78 ?_
      refine G_iload (pc := 79) rfl dX1_misfits_79 ?_
      refine G_max (pc := 81) dX1_misfits_81 wf_147 wf_148 wf_145 wf_149 (Nat.le_of_ble_eq_true rfl) (Nat.le_of_ble_eq_true rfl) (Nat.le_of_ble_eq_true rfl) ?_
      refine G_isub (pc := 84) rfl dX1_misfits_84 ?_
      refine G_max (pc := 85) dX1_misfits_85 wf_147 wf_148 wf_145 wf_149 (Nat.le_of_ble_eq_true rfl) (Nat.le_of_ble_eq_true rfl) (Nat.le_of_ble_eq_true rfl) ?_
      refine G_istore (pc := 88) (L1 := [some (.ref 19), some (.int 2), some (.int st), some (.int t0), some (.int 0), some (.int (if 0 < (t - (if 0 < (v641 - (st / 3)) then (v641 - (st / 3)) else 0)) then (t - (if 0 < (v641 - (st / 3)) then (v641 - (st / 3)) else 0)) else 0)), some (.int i), some (.int v637), some (.int (v641 - (st / 3)))]) rfl rfl (by decide) dX1_misfits_88 ?_
      refine G_iinc (pc := 90) (v := 1) (w := (i + 1)) (L1 := [some (.ref 19), some (.int 2), some (.int st), some (.int t0), some (.int 0), some (.int (if 0 < (t - (if 0 < (v641 - (st / 3)) then (v641 - (st / 3)) else 0)) then (t - (if 0 < (v641 - (st / 3)) then (v641 - (st / 3)) else 0)) else 0)), some (.int (i + 1)), some (.int v637), some (.int (v641 - (st / 3)))]) rfl rfl rfl (by decide) rfl (by decide) dX1_misfits_90 ?_
      refine G_goto (pc := 93) (tgt := 9) (by decide) dX1_misfits_93 ?_
      have e := Int32.lt_iff_toInt_lt.mp (Int32.not_le.mp c636)
      have e1 : (16 : Int32).toInt = 16 := rfl
      have e2 : (i + 1).toInt = i.toInt + 1 := g_inc (by omega)
      refine G_drop 7 rfl (G_drop 8 rfl ?_)
      exact ih _ (i + 1) (by omega) (by omega) (by omega)
set_option maxRecDepth 100000 in
set_option maxHeartbeats 4000000 in
theorem misfits2 (d : Nat) (st t0 : Int32) : G (d + 2) mX1_misfits 0 0 0 0 0 (gent 9 [.ref 19, .int 2, .int st, .int t0]) [] SH0 RF0 I0 (fun r h => r = some (.int 0) ∧ h = (SH0, RF0, I0)) := by
  refine G_iconst (pc := 0) (v := 0) (by decide) dX1_misfits_0 ?_
  refine G_istore (pc := 1) (L1 := [some (.ref 19), some (.int 2), some (.int st), some (.int t0), some (.int 0), none, none, none, none]) rfl rfl (by decide) dX1_misfits_1 ?_
  refine G_iload_n (pc := 3) rfl dX1_misfits_3 ?_
  refine G_istore (pc := 4) (L1 := [some (.ref 19), some (.int 2), some (.int st), some (.int t0), some (.int 0), some (.int t0), none, none, none]) rfl rfl (by decide) dX1_misfits_4 ?_
  refine G_iconst (pc := 6) (v := 0) (by decide) dX1_misfits_6 ?_
  refine G_istore (pc := 7) (L1 := [some (.ref 19), some (.int 2), some (.int st), some (.int t0), some (.int 0), some (.int t0), some (.int 0), none, none]) rfl rfl (by decide) dX1_misfits_7 ?_
  exact l_misfits2 d _ _ 17 _ 0 (by decide) (by decide) (by decide)
set_option maxRecDepth 100000 in
set_option maxHeartbeats 4000000 in
theorem o465_X8_shape  (d : Nat) (a0 a1 a2 : Int32) : G (d) mX8_shape 0 0 0 0 0 (gent 4 [.ref 16, .int a0, .int a1, .int a2]) [] SH0 RF0 I0 (fun r h => ∃ v, r = some (.int v) ∧ h = (SH0, RF0, I0)) := by
  refine G_iload_n (pc := 0) rfl dX8_shape_0 ?_
  refine G_bipush (pc := 1) (v := 10) (by decide) dX8_shape_1 ?_
  refine G_idiv (pc := 3) rfl (by decide) dX8_shape_3 ?_
  refine G_iload_n (pc := 4) rfl dX8_shape_4 ?_
  refine G_bipush (pc := 5) (v := 50) (by decide) dX8_shape_5 ?_
  refine G_idiv (pc := 7) rfl (by decide) dX8_shape_7 ?_
  refine G_iadd (pc := 8) rfl dX8_shape_8 ?_
  exact G_iret (pc := 9) (Nat.le_of_ble_eq_true rfl) (Nat.le_of_ble_eq_true rfl) rfl dX8_shape_9 ⟨_, rfl, rfl⟩
set_option maxRecDepth 100000 in
set_option maxHeartbeats 4000000 in
theorem o464_X10_shape  (d : Nat) (a0 a1 a2 : Int32) : G (d + 1) mX10_shape 0 0 0 0 0 (gent 4 [.ref 16, .int a0, .int a1, .int a2]) [] SH0 RF0 I0 (fun r h => ∃ v, r = some (.int v) ∧ h = (SH0, RF0, I0)) := by
  refine G_iconst (pc := 0) (v := 0) (by decide) dX10_shape_0 ?_
  refine G_aload_n (pc := 1) rfl dX10_shape_1 ?_
  refine G_iload_n (pc := 2) rfl dX10_shape_2 ?_
  refine G_iload_n (pc := 3) rfl dX10_shape_3 ?_
  refine G_iload_n (pc := 4) rfl dX10_shape_4 ?_
  refine G_callSU (pc := 5) (mc1 := 0) (ms1 := 0) (ci := 10) (mj := mX8_shape) (vs := [_, _, _]) dX10_shape_5 rfl rfl cm_X8_shape wf_222 wf_223 wf_224 wf_214 (by decide) rfl (Nat.le_of_ble_eq_true rfl) (Nat.le_of_ble_eq_true rfl) (Nat.le_of_ble_eq_true rfl) (Nat.le_of_ble_eq_true rfl) (o465_X8_shape  d _ _ _) ?_
  rintro _ _ ⟨v643, rfl, rfl⟩
  dsimp only [Option.toList, List.cons_append, List.nil_append]
  refine G_iload_n (pc := 8) rfl dX10_shape_8 ?_
  refine G_iconst (pc := 9) (v := 4) (by decide) dX10_shape_9 ?_
  refine G_idiv (pc := 10) rfl (by decide) dX10_shape_10 ?_
  refine G_isub (pc := 11) rfl dX10_shape_11 ?_
  refine G_max (pc := 12) dX10_shape_12 wf_225 wf_148 wf_145 wf_149 (Nat.le_of_ble_eq_true rfl) (Nat.le_of_ble_eq_true rfl) (Nat.le_of_ble_eq_true rfl) ?_
  exact G_iret (pc := 15) (Nat.le_of_ble_eq_true rfl) (Nat.le_of_ble_eq_true rfl) rfl dX10_shape_15 ⟨_, rfl, rfl⟩
set_option maxRecDepth 100000 in
set_option maxHeartbeats 4000000 in
theorem s466_X1_misfitsAt  (d : Nat)  (a0 : Int32) (a1 : Int32) (a2 : Int32) : G (d) mX1_misfitsAt 0 0 0 0 0 (gent 8 [.ref 19, .int a0, .int a1, .int a2]) [] SH0 RF0 I0 (fun r h => r = some (.int 0) ∧ h = (SH0, RF0, I0)) := by
  refine G_iconst (pc := 0) (v := 0) (by decide) dX1_misfitsAt_0 ?_
  refine G_istore (pc := 1) (L1 := [some (.ref 19), some (.int a0), some (.int a1), some (.int a2), some (.int 0), none, none, none]) rfl rfl (by decide) dX1_misfitsAt_1 ?_
  refine G_iconst (pc := 3) (v := 0) (by decide) dX1_misfitsAt_3 ?_
  refine G_istore (pc := 4) (L1 := [some (.ref 19), some (.int a0), some (.int a1), some (.int a2), some (.int 0), some (.int 0), none, none]) rfl rfl (by decide) dX1_misfitsAt_4 ?_
  refine G_iload (pc := 6) rfl dX1_misfitsAt_6 ?_
  refine G_aload_n (pc := 8) rfl dX1_misfitsAt_8 ?_
  refine G_getI (pc := 9) (v := 0) (ci := 1) (j := 16) rfl rfl lk_RX1_82 rfl rfl dX1_misfitsAt_9 ?_
  refine G_icmp_ge (pc := 12) (tgt := 92) (by decide) dX1_misfitsAt_12 (fun _ => ?_) (fun z => absurd (by decide) z)
  refine G_iload (pc := 92) rfl dX1_misfitsAt_92 ?_
  exact G_iret (pc := 94) (Nat.le_of_ble_eq_true rfl) (Nat.le_of_ble_eq_true rfl) rfl dX1_misfitsAt_94 ⟨rfl, rfl⟩
set_option maxRecDepth 100000 in
set_option maxHeartbeats 4000000 in
theorem o469_X3_melts  (d : Nat) (a0 a1 a2 : Int32) : G (d) mX3_melts 0 0 0 0 0 (gent 4 [.ref 16, .int a0, .int a1, .int a2]) [] SH0 RF0 I0 (fun r h => ∃ v, r = some (.int v) ∧ h = (SH0, RF0, I0)) := by
  refine G_iconst (pc := 0) (v := 3) (by decide) dX3_melts_0 ?_
  refine G_iconst (pc := 1) (v := 2) (by decide) dX3_melts_1 ?_
  refine G_iload_n (pc := 2) rfl dX3_melts_2 ?_
  refine G_imul (pc := 3) rfl dX3_melts_3 ?_
  refine G_iadd (pc := 4) rfl dX3_melts_4 ?_
  exact G_iret (pc := 5) (Nat.le_of_ble_eq_true rfl) (Nat.le_of_ble_eq_true rfl) rfl dX3_melts_5 ⟨_, rfl, rfl⟩
set_option maxRecDepth 100000 in
set_option maxHeartbeats 4000000 in
theorem o468_X8_melts  (d : Nat) (a0 a1 a2 : Int32) : G (d + 1) mX8_melts 0 0 0 0 0 (gent 4 [.ref 16, .int a0, .int a1, .int a2]) [] SH0 RF0 I0 (fun r h => ∃ v, r = some (.int v) ∧ h = (SH0, RF0, I0)) := by
  refine G_iconst (pc := 0) (v := 0) (by decide) dX8_melts_0 ?_
  refine G_iconst (pc := 1) (v := 2) (by decide) dX8_melts_1 ?_
  refine G_aload_n (pc := 2) rfl dX8_melts_2 ?_
  refine G_iload_n (pc := 3) rfl dX8_melts_3 ?_
  refine G_iload_n (pc := 4) rfl dX8_melts_4 ?_
  refine G_iload_n (pc := 5) rfl dX8_melts_5 ?_
  refine G_callSU (pc := 6) (mc1 := 0) (ms1 := 0) (ci := 10) (mj := mX3_melts) (vs := [_, _, _]) dX8_melts_6 rfl rfl cm_X3_melts wf_216 wf_206 wf_217 wf_207 (by decide) rfl (Nat.le_of_ble_eq_true rfl) (Nat.le_of_ble_eq_true rfl) (Nat.le_of_ble_eq_true rfl) (Nat.le_of_ble_eq_true rfl) (o469_X3_melts  d _ _ _) ?_
  rintro _ _ ⟨v647, rfl, rfl⟩
  dsimp only [Option.toList, List.cons_append, List.nil_append]
  refine G_imul (pc := 9) rfl dX8_melts_9 ?_
  refine G_iload_n (pc := 10) rfl dX8_melts_10 ?_
  refine G_isub (pc := 11) rfl dX8_melts_11 ?_
  refine G_max (pc := 12) dX8_melts_12 wf_218 wf_148 wf_145 wf_149 (Nat.le_of_ble_eq_true rfl) (Nat.le_of_ble_eq_true rfl) (Nat.le_of_ble_eq_true rfl) ?_
  exact G_iret (pc := 15) (Nat.le_of_ble_eq_true rfl) (Nat.le_of_ble_eq_true rfl) rfl dX8_melts_15 ⟨_, rfl, rfl⟩
set_option maxRecDepth 100000 in
set_option maxHeartbeats 4000000 in
theorem o467_X10_melts  (d : Nat) (a0 a1 a2 : Int32) : G (d + 2) mX10_melts 0 0 0 0 0 (gent 4 [.ref 16, .int a0, .int a1, .int a2]) [] SH0 RF0 I0 (fun r h => ∃ v, r = some (.int v) ∧ h = (SH0, RF0, I0)) := by
  refine G_aload_n (pc := 0) rfl dX10_melts_0 ?_
  refine G_iload_n (pc := 1) rfl dX10_melts_1 ?_
  refine G_iload_n (pc := 2) rfl dX10_melts_2 ?_
  refine G_iload_n (pc := 3) rfl dX10_melts_3 ?_
  refine G_callSU (pc := 4) (mc1 := 0) (ms1 := 0) (ci := 10) (mj := mX8_melts) (vs := [_, _, _]) dX10_melts_4 rfl rfl cm_X8_melts wf_230 wf_231 wf_224 wf_221 (by decide) rfl (Nat.le_of_ble_eq_true rfl) (Nat.le_of_ble_eq_true rfl) (Nat.le_of_ble_eq_true rfl) (Nat.le_of_ble_eq_true rfl) (o468_X8_melts  d _ _ _) ?_
  rintro _ _ ⟨v648, rfl, rfl⟩
  dsimp only [Option.toList, List.cons_append, List.nil_append]
  refine G_iconst (pc := 7) (v := 2) (by decide) dX10_melts_7 ?_
  refine G_idiv (pc := 8) rfl (by decide) dX10_melts_8 ?_
  exact G_iret (pc := 9) (Nat.le_of_ble_eq_true rfl) (Nat.le_of_ble_eq_true rfl) rfl dX10_melts_9 ⟨_, rfl, rfl⟩
set_option maxRecDepth 100000 in
set_option maxHeartbeats 4000000 in
theorem l_misfits3  (d : Nat) (st t0 : Int32) (f : Nat) : ∀ (t i : Int32),  0 ≤ i.toInt → i.toInt ≤ 16 → 16 - i.toInt < f → G (d + 3) mX1_misfits 0 0 0 0 9 [some (.ref 19), some (.int 3), some (.int st), some (.int t0), some (.int 0), some (.int t), some (.int i), none, none] [] SH0 RF0 I0 (fun r h => r = some (.int 0) ∧ h = (SH0, RF0, I0)) := by
  induction f with
  | zero => intro t i h0 h1 hf; exfalso; omega
  | succ f ih =>
    intro t i h0 h1 hf
    refine G_iload (pc := 9) rfl dX1_misfits_9 ?_
    refine G_bipush (pc := 11) (v := 16) (by decide) dX1_misfits_11 ?_
    refine G_icmp_ge (pc := 13) (tgt := 96) (by decide) dX1_misfits_13 (fun c642 => ?_) (fun c642 => ?_)
    · refine G_iload (pc := 96) rfl dX1_misfits_96 ?_
      exact G_iret (pc := 98) (Nat.le_of_ble_eq_true rfl) (Nat.le_of_ble_eq_true rfl) rfl dX1_misfits_98 ⟨rfl, rfl⟩
    · refine G_aload_n (pc := 16) rfl dX1_misfits_16 ?_
      refine G_getR (pc := 17) (r := 12) (ci := 1) (j := 0) rfl lk_RX1_56 rfl rfl rfl dX1_misfits_17 ?_
      refine G_iload_n (pc := 20) rfl dX1_misfits_20 ?_
      refine G_kald (pc := 21) (jj := 3) (r := 16) (by decide) rfl (by unfold vp_in; decide) rfl dX1_misfits_21 ?_
      refine G_iload (pc := 22) rfl dX1_misfits_22 ?_
      refine G_iload_n (pc := 24) rfl dX1_misfits_24 ?_
      refine G_iconst (pc := 25) (v := 0) (by decide) dX1_misfits_25 ?_
      refine G_callU (pc := 26) (mc1 := 0) (ms1 := 0) (ci := 10) (mj := mX10_shape) (vs := [_, _, _]) dX1_misfits_26 rfl rfl cm_X10_shape wf_185 wf_186 wf_187 wf_188 wf_228 wf_229 (by decide) rfl (Nat.le_of_ble_eq_true rfl) (Nat.le_of_ble_eq_true rfl) (Nat.le_of_ble_eq_true rfl) (Nat.le_of_ble_eq_true rfl) (o464_X10_shape  (d + 1) _ _ _) ?_
      rintro _ _ ⟨v644, rfl, rfl⟩
      dsimp only [Option.toList, List.cons_append, List.nil_append]
      refine G_istore (pc := 29) (L1 := [some (.ref 19), some (.int 3), some (.int st), some (.int t0), some (.int 0), some (.int t), some (.int i), some (.int v644), none]) rfl rfl (by decide) dX1_misfits_29 ?_
      refine G_iload (pc := 31) rfl dX1_misfits_31 ?_
      refine G_aload_n (pc := 33) rfl dX1_misfits_33 ?_
      refine G_iload (pc := 34) rfl dX1_misfits_34 ?_
      refine G_iload (pc := 36) rfl dX1_misfits_36 ?_
      refine G_iload (pc := 38) rfl dX1_misfits_38 ?_
      refine G_callV (pc := 40) (mc1 := 0) (ms1 := 0) (ci := 1) (mj := mX1_misfitsAt) (vs := [_, _, _]) dX1_misfits_40 rfl rfl cm_X1_misfitsAt wf_191 wf_193 wf_194 rfl (Nat.le_of_ble_eq_true rfl) (Nat.le_of_ble_eq_true rfl) (Nat.le_of_ble_eq_true rfl) (Nat.le_of_ble_eq_true rfl) (s466_X1_misfitsAt  (d + 2)  _ _ _) ?_
      rintro _ _ ⟨rfl, rfl⟩
      dsimp only [Option.toList, List.cons_append, List.nil_append]
      refine G_ior (pc := 43) (z := 0) (by decide) dX1_misfits_43 ?_
      refine G_istore (pc := 44) (L1 := [some (.ref 19), some (.int 3), some (.int st), some (.int t0), some (.int 0), some (.int t), some (.int i), some (.int v644), none]) rfl rfl (by decide) dX1_misfits_44 ?_
      refine G_aload_n (pc := 46) rfl dX1_misfits_46 ?_
      refine G_getR (pc := 47) (r := 12) (ci := 1) (j := 0) rfl lk_RX1_56 rfl rfl rfl dX1_misfits_47 ?_
      refine G_iload_n (pc := 50) rfl dX1_misfits_50 ?_
      refine G_kald (pc := 51) (jj := 3) (r := 16) (by decide) rfl (by unfold vp_in; decide) rfl dX1_misfits_51 ?_
      refine G_aload_n (pc := 52) rfl dX1_misfits_52 ?_
      refine G_iload (pc := 53) rfl dX1_misfits_53 ?_
      refine G_callV (pc := 55) (mc1 := 0) (ms1 := 0) (ci := 1) (mj := mX1_heatAt) (vs := [_]) dX1_misfits_55 rfl rfl cm_X1_heatAt wf_196 wf_198 wf_199 rfl (Nat.le_of_ble_eq_true rfl) (Nat.le_of_ble_eq_true rfl) (Nat.le_of_ble_eq_true rfl) (Nat.le_of_ble_eq_true rfl) (o456_X1_heatAt  (d + 1) _) ?_
      rintro _ _ ⟨v645, rfl, rfl⟩
      dsimp only [Option.toList, List.cons_append, List.nil_append]
      refine G_aload_n (pc := 58) rfl dX1_misfits_58 ?_
      refine G_iload (pc := 59) rfl dX1_misfits_59 ?_
      refine G_callV (pc := 61) (mc1 := 0) (ms1 := 0) (ci := 1) (mj := mX1_shadeAt) (vs := [_]) dX1_misfits_61 rfl rfl cm_X1_shadeAt wf_200 wf_202 wf_203 rfl (Nat.le_of_ble_eq_true rfl) (Nat.le_of_ble_eq_true rfl) (Nat.le_of_ble_eq_true rfl) (Nat.le_of_ble_eq_true rfl) (o458_X1_shadeAt  (d + 1) _) ?_
      rintro _ _ ⟨v646, rfl, rfl⟩
      dsimp only [Option.toList, List.cons_append, List.nil_append]
      refine G_iload (pc := 64) rfl dX1_misfits_64 ?_
      refine G_callU (pc := 66) (mc1 := 0) (ms1 := 0) (ci := 10) (mj := mX10_melts) (vs := [_, _, _]) dX1_misfits_66 rfl rfl cm_X10_melts wf_205 wf_206 wf_207 wf_208 wf_233 wf_234 (by decide) rfl (Nat.le_of_ble_eq_true rfl) (Nat.le_of_ble_eq_true rfl) (Nat.le_of_ble_eq_true rfl) (Nat.le_of_ble_eq_true rfl) (o467_X10_melts  d _ _ _) ?_
      rintro _ _ ⟨v649, rfl, rfl⟩
      dsimp only [Option.toList, List.cons_append, List.nil_append]
      refine G_iload_n (pc := 69) rfl dX1_misfits_69 ?_
      refine G_iconst (pc := 70) (v := 3) (by decide) dX1_misfits_70 ?_
      refine G_idiv (pc := 71) rfl (by decide) dX1_misfits_71 ?_
      refine G_isub (pc := 72) rfl dX1_misfits_72 ?_
      refine G_istore (pc := 73) (L1 := [some (.ref 19), some (.int 3), some (.int st), some (.int t0), some (.int 0), some (.int t), some (.int i), some (.int v644), some (.int (v649 - (st / 3)))]) rfl rfl (by decide) dX1_misfits_73 ?_
      refine G_iconst (pc := 75) (v := 0) (by decide) dX1_misfits_75 ?_
      refine G_iload (pc := 76) rfl dX1_misfits_76 ?_
      refine G_iconst (pc := 78) (v := 0) (by decide) dX1_misfits_78 ?_
      refine G_iload (pc := 79) rfl dX1_misfits_79 ?_
      refine G_max (pc := 81) dX1_misfits_81 wf_147 wf_148 wf_145 wf_149 (Nat.le_of_ble_eq_true rfl) (Nat.le_of_ble_eq_true rfl) (Nat.le_of_ble_eq_true rfl) ?_
      refine G_isub (pc := 84) rfl dX1_misfits_84 ?_
      refine G_max (pc := 85) dX1_misfits_85 wf_147 wf_148 wf_145 wf_149 (Nat.le_of_ble_eq_true rfl) (Nat.le_of_ble_eq_true rfl) (Nat.le_of_ble_eq_true rfl) ?_
      refine G_istore (pc := 88) (L1 := [some (.ref 19), some (.int 3), some (.int st), some (.int t0), some (.int 0), some (.int (if 0 < (t - (if 0 < (v649 - (st / 3)) then (v649 - (st / 3)) else 0)) then (t - (if 0 < (v649 - (st / 3)) then (v649 - (st / 3)) else 0)) else 0)), some (.int i), some (.int v644), some (.int (v649 - (st / 3)))]) rfl rfl (by decide) dX1_misfits_88 ?_
      refine G_iinc (pc := 90) (v := 1) (w := (i + 1)) (L1 := [some (.ref 19), some (.int 3), some (.int st), some (.int t0), some (.int 0), some (.int (if 0 < (t - (if 0 < (v649 - (st / 3)) then (v649 - (st / 3)) else 0)) then (t - (if 0 < (v649 - (st / 3)) then (v649 - (st / 3)) else 0)) else 0)), some (.int (i + 1)), some (.int v644), some (.int (v649 - (st / 3)))]) rfl rfl rfl (by decide) rfl (by decide) dX1_misfits_90 ?_
      refine G_goto (pc := 93) (tgt := 9) (by decide) dX1_misfits_93 ?_
      have e := Int32.lt_iff_toInt_lt.mp (Int32.not_le.mp c642)
      have e1 : (16 : Int32).toInt = 16 := rfl
      have e2 : (i + 1).toInt = i.toInt + 1 := g_inc (by omega)
      refine G_drop 7 rfl (G_drop 8 rfl ?_)
      exact ih _ (i + 1) (by omega) (by omega) (by omega)
set_option maxRecDepth 100000 in
set_option maxHeartbeats 4000000 in
theorem misfits3 (d : Nat) (st t0 : Int32) : G (d + 3) mX1_misfits 0 0 0 0 0 (gent 9 [.ref 19, .int 3, .int st, .int t0]) [] SH0 RF0 I0 (fun r h => r = some (.int 0) ∧ h = (SH0, RF0, I0)) := by
  refine G_iconst (pc := 0) (v := 0) (by decide) dX1_misfits_0 ?_
  refine G_istore (pc := 1) (L1 := [some (.ref 19), some (.int 3), some (.int st), some (.int t0), some (.int 0), none, none, none, none]) rfl rfl (by decide) dX1_misfits_1 ?_
  refine G_iload_n (pc := 3) rfl dX1_misfits_3 ?_
  refine G_istore (pc := 4) (L1 := [some (.ref 19), some (.int 3), some (.int st), some (.int t0), some (.int 0), some (.int t0), none, none, none]) rfl rfl (by decide) dX1_misfits_4 ?_
  refine G_iconst (pc := 6) (v := 0) (by decide) dX1_misfits_6 ?_
  refine G_istore (pc := 7) (L1 := [some (.ref 19), some (.int 3), some (.int st), some (.int t0), some (.int 0), some (.int t0), some (.int 0), none, none]) rfl rfl (by decide) dX1_misfits_7 ?_
  exact l_misfits3 d _ _ 17 _ 0 (by decide) (by decide) (by decide)
set_option maxRecDepth 100000 in
set_option maxHeartbeats 4000000 in
theorem o470_X7_shape  (d : Nat) (a0 a1 a2 : Int32) : G (d) mX7_shape 0 0 0 0 0 (gent 4 [.ref 17, .int a0, .int a1, .int a2]) [] SH0 RF0 I0 (fun r h => ∃ v, r = some (.int v) ∧ h = (SH0, RF0, I0)) := by
  refine G_iload_n (pc := 0) rfl dX7_shape_0 ?_
  refine G_bipush (pc := 1) (v := 12) (by decide) dX7_shape_1 ?_
  refine G_idiv (pc := 3) rfl (by decide) dX7_shape_3 ?_
  exact G_iret (pc := 4) (Nat.le_of_ble_eq_true rfl) (Nat.le_of_ble_eq_true rfl) rfl dX7_shape_4 ⟨_, rfl, rfl⟩
set_option maxRecDepth 100000 in
set_option maxHeartbeats 4000000 in
theorem s471_X1_misfitsAt  (d : Nat)  (a0 : Int32) (a1 : Int32) (a2 : Int32) : G (d) mX1_misfitsAt 0 0 0 0 0 (gent 8 [.ref 19, .int a0, .int a1, .int a2]) [] SH0 RF0 I0 (fun r h => r = some (.int 0) ∧ h = (SH0, RF0, I0)) := by
  refine G_iconst (pc := 0) (v := 0) (by decide) dX1_misfitsAt_0 ?_
  refine G_istore (pc := 1) (L1 := [some (.ref 19), some (.int a0), some (.int a1), some (.int a2), some (.int 0), none, none, none]) rfl rfl (by decide) dX1_misfitsAt_1 ?_
  refine G_iconst (pc := 3) (v := 0) (by decide) dX1_misfitsAt_3 ?_
  refine G_istore (pc := 4) (L1 := [some (.ref 19), some (.int a0), some (.int a1), some (.int a2), some (.int 0), some (.int 0), none, none]) rfl rfl (by decide) dX1_misfitsAt_4 ?_
  refine G_iload (pc := 6) rfl dX1_misfitsAt_6 ?_
  refine G_aload_n (pc := 8) rfl dX1_misfitsAt_8 ?_
  refine G_getI (pc := 9) (v := 0) (ci := 1) (j := 16) rfl rfl lk_RX1_82 rfl rfl dX1_misfitsAt_9 ?_
  refine G_icmp_ge (pc := 12) (tgt := 92) (by decide) dX1_misfitsAt_12 (fun _ => ?_) (fun z => absurd (by decide) z)
  refine G_iload (pc := 92) rfl dX1_misfitsAt_92 ?_
  exact G_iret (pc := 94) (Nat.le_of_ble_eq_true rfl) (Nat.le_of_ble_eq_true rfl) rfl dX1_misfitsAt_94 ⟨rfl, rfl⟩
set_option maxRecDepth 100000 in
set_option maxHeartbeats 4000000 in
theorem o472_X7_melts  (d : Nat) (a0 a1 a2 : Int32) : G (d) mX7_melts 0 0 0 0 0 (gent 4 [.ref 17, .int a0, .int a1, .int a2]) [] SH0 RF0 I0 (fun r h => ∃ v, r = some (.int v) ∧ h = (SH0, RF0, I0)) := by
  refine G_iload_n (pc := 0) rfl dX7_melts_0 ?_
  refine G_iload_n (pc := 1) rfl dX7_melts_1 ?_
  refine G_imul (pc := 2) rfl dX7_melts_2 ?_
  exact G_iret (pc := 3) (Nat.le_of_ble_eq_true rfl) (Nat.le_of_ble_eq_true rfl) rfl dX7_melts_3 ⟨_, rfl, rfl⟩
set_option maxRecDepth 100000 in
set_option maxHeartbeats 4000000 in
theorem l_misfits4  (d : Nat) (st t0 : Int32) (f : Nat) : ∀ (t i : Int32),  0 ≤ i.toInt → i.toInt ≤ 16 → 16 - i.toInt < f → G (d + 2) mX1_misfits 0 0 0 0 9 [some (.ref 19), some (.int 4), some (.int st), some (.int t0), some (.int 0), some (.int t), some (.int i), none, none] [] SH0 RF0 I0 (fun r h => r = some (.int 0) ∧ h = (SH0, RF0, I0)) := by
  induction f with
  | zero => intro t i h0 h1 hf; exfalso; omega
  | succ f ih =>
    intro t i h0 h1 hf
    refine G_iload (pc := 9) rfl dX1_misfits_9 ?_
    refine G_bipush (pc := 11) (v := 16) (by decide) dX1_misfits_11 ?_
    refine G_icmp_ge (pc := 13) (tgt := 96) (by decide) dX1_misfits_13 (fun c650 => ?_) (fun c650 => ?_)
    · refine G_iload (pc := 96) rfl dX1_misfits_96 ?_
      exact G_iret (pc := 98) (Nat.le_of_ble_eq_true rfl) (Nat.le_of_ble_eq_true rfl) rfl dX1_misfits_98 ⟨rfl, rfl⟩
    · refine G_aload_n (pc := 16) rfl dX1_misfits_16 ?_
      refine G_getR (pc := 17) (r := 12) (ci := 1) (j := 0) rfl lk_RX1_56 rfl rfl rfl dX1_misfits_17 ?_
      refine G_iload_n (pc := 20) rfl dX1_misfits_20 ?_
      refine G_kald (pc := 21) (jj := 4) (r := 17) (by decide) rfl (by unfold vp_in; decide) rfl dX1_misfits_21 ?_
      refine G_iload (pc := 22) rfl dX1_misfits_22 ?_
      refine G_iload_n (pc := 24) rfl dX1_misfits_24 ?_
      refine G_iconst (pc := 25) (v := 0) (by decide) dX1_misfits_25 ?_
      refine G_callU (pc := 26) (mc1 := 0) (ms1 := 0) (ci := 7) (mj := mX7_shape) (vs := [_, _, _]) dX1_misfits_26 rfl rfl cm_X7_shape wf_185 wf_186 wf_187 wf_188 wf_237 wf_238 (by decide) rfl (Nat.le_of_ble_eq_true rfl) (Nat.le_of_ble_eq_true rfl) (Nat.le_of_ble_eq_true rfl) (Nat.le_of_ble_eq_true rfl) (o470_X7_shape  (d + 1) _ _ _) ?_
      rintro _ _ ⟨v651, rfl, rfl⟩
      dsimp only [Option.toList, List.cons_append, List.nil_append]
      refine G_istore (pc := 29) (L1 := [some (.ref 19), some (.int 4), some (.int st), some (.int t0), some (.int 0), some (.int t), some (.int i), some (.int v651), none]) rfl rfl (by decide) dX1_misfits_29 ?_
      refine G_iload (pc := 31) rfl dX1_misfits_31 ?_
      refine G_aload_n (pc := 33) rfl dX1_misfits_33 ?_
      refine G_iload (pc := 34) rfl dX1_misfits_34 ?_
      refine G_iload (pc := 36) rfl dX1_misfits_36 ?_
      refine G_iload (pc := 38) rfl dX1_misfits_38 ?_
      refine G_callV (pc := 40) (mc1 := 0) (ms1 := 0) (ci := 1) (mj := mX1_misfitsAt) (vs := [_, _, _]) dX1_misfits_40 rfl rfl cm_X1_misfitsAt wf_191 wf_193 wf_194 rfl (Nat.le_of_ble_eq_true rfl) (Nat.le_of_ble_eq_true rfl) (Nat.le_of_ble_eq_true rfl) (Nat.le_of_ble_eq_true rfl) (s471_X1_misfitsAt  (d + 1)  _ _ _) ?_
      rintro _ _ ⟨rfl, rfl⟩
      dsimp only [Option.toList, List.cons_append, List.nil_append]
      refine G_ior (pc := 43) (z := 0) (by decide) dX1_misfits_43 ?_
      refine G_istore (pc := 44) (L1 := [some (.ref 19), some (.int 4), some (.int st), some (.int t0), some (.int 0), some (.int t), some (.int i), some (.int v651), none]) rfl rfl (by decide) dX1_misfits_44 ?_
      refine G_aload_n (pc := 46) rfl dX1_misfits_46 ?_
      refine G_getR (pc := 47) (r := 12) (ci := 1) (j := 0) rfl lk_RX1_56 rfl rfl rfl dX1_misfits_47 ?_
      refine G_iload_n (pc := 50) rfl dX1_misfits_50 ?_
      refine G_kald (pc := 51) (jj := 4) (r := 17) (by decide) rfl (by unfold vp_in; decide) rfl dX1_misfits_51 ?_
      refine G_aload_n (pc := 52) rfl dX1_misfits_52 ?_
      refine G_iload (pc := 53) rfl dX1_misfits_53 ?_
      refine G_callV (pc := 55) (mc1 := 0) (ms1 := 0) (ci := 1) (mj := mX1_heatAt) (vs := [_]) dX1_misfits_55 rfl rfl cm_X1_heatAt wf_196 wf_198 wf_199 rfl (Nat.le_of_ble_eq_true rfl) (Nat.le_of_ble_eq_true rfl) (Nat.le_of_ble_eq_true rfl) (Nat.le_of_ble_eq_true rfl) (o456_X1_heatAt  d _) ?_
      rintro _ _ ⟨v652, rfl, rfl⟩
      dsimp only [Option.toList, List.cons_append, List.nil_append]
      refine G_aload_n (pc := 58) rfl dX1_misfits_58 ?_
      refine G_iload (pc := 59) rfl dX1_misfits_59 ?_
      refine G_callV (pc := 61) (mc1 := 0) (ms1 := 0) (ci := 1) (mj := mX1_shadeAt) (vs := [_]) dX1_misfits_61 rfl rfl cm_X1_shadeAt wf_200 wf_202 wf_203 rfl (Nat.le_of_ble_eq_true rfl) (Nat.le_of_ble_eq_true rfl) (Nat.le_of_ble_eq_true rfl) (Nat.le_of_ble_eq_true rfl) (o458_X1_shadeAt  d _) ?_
      rintro _ _ ⟨v653, rfl, rfl⟩
      dsimp only [Option.toList, List.cons_append, List.nil_append]
      refine G_iload (pc := 64) rfl dX1_misfits_64 ?_
      refine G_callU (pc := 66) (mc1 := 0) (ms1 := 0) (ci := 7) (mj := mX7_melts) (vs := [_, _, _]) dX1_misfits_66 rfl rfl cm_X7_melts wf_205 wf_206 wf_207 wf_208 wf_240 wf_241 (by decide) rfl (Nat.le_of_ble_eq_true rfl) (Nat.le_of_ble_eq_true rfl) (Nat.le_of_ble_eq_true rfl) (Nat.le_of_ble_eq_true rfl) (o472_X7_melts  (d + 1) _ _ _) ?_
      rintro _ _ ⟨v654, rfl, rfl⟩
      dsimp only [Option.toList, List.cons_append, List.nil_append]
      refine G_iload_n (pc := 69) rfl dX1_misfits_69 ?_
      refine G_iconst (pc := 70) (v := 3) (by decide) dX1_misfits_70 ?_
      refine G_idiv (pc := 71) rfl (by decide) dX1_misfits_71 ?_
      refine G_isub (pc := 72) rfl dX1_misfits_72 ?_
      refine G_istore (pc := 73) (L1 := [some (.ref 19), some (.int 4), some (.int st), some (.int t0), some (.int 0), some (.int t), some (.int i), some (.int v651), some (.int (v654 - (st / 3)))]) rfl rfl (by decide) dX1_misfits_73 ?_
      refine G_iconst (pc := 75) (v := 0) (by decide) dX1_misfits_75 ?_
      refine G_iload (pc := 76) rfl dX1_misfits_76 ?_
      refine G_iconst (pc := 78) (v := 0) (by decide) dX1_misfits_78 ?_
      refine G_iload (pc := 79) rfl dX1_misfits_79 ?_
      refine G_max (pc := 81) dX1_misfits_81 wf_147 wf_148 wf_145 wf_149 (Nat.le_of_ble_eq_true rfl) (Nat.le_of_ble_eq_true rfl) (Nat.le_of_ble_eq_true rfl) ?_
      refine G_isub (pc := 84) rfl dX1_misfits_84 ?_
      refine G_max (pc := 85) dX1_misfits_85 wf_147 wf_148 wf_145 wf_149 (Nat.le_of_ble_eq_true rfl) (Nat.le_of_ble_eq_true rfl) (Nat.le_of_ble_eq_true rfl) ?_
      refine G_istore (pc := 88) (L1 := [some (.ref 19), some (.int 4), some (.int st), some (.int t0), some (.int 0), some (.int (if 0 < (t - (if 0 < (v654 - (st / 3)) then (v654 - (st / 3)) else 0)) then (t - (if 0 < (v654 - (st / 3)) then (v654 - (st / 3)) else 0)) else 0)), some (.int i), some (.int v651), some (.int (v654 - (st / 3)))]) rfl rfl (by decide) dX1_misfits_88 ?_
      refine G_iinc (pc := 90) (v := 1) (w := (i + 1)) (L1 := [some (.ref 19), some (.int 4), some (.int st), some (.int t0), some (.int 0), some (.int (if 0 < (t - (if 0 < (v654 - (st / 3)) then (v654 - (st / 3)) else 0)) then (t - (if 0 < (v654 - (st / 3)) then (v654 - (st / 3)) else 0)) else 0)), some (.int (i + 1)), some (.int v651), some (.int (v654 - (st / 3)))]) rfl rfl rfl (by decide) rfl (by decide) dX1_misfits_90 ?_
      refine G_goto (pc := 93) (tgt := 9) (by decide) dX1_misfits_93 ?_
      have e := Int32.lt_iff_toInt_lt.mp (Int32.not_le.mp c650)
      have e1 : (16 : Int32).toInt = 16 := rfl
      have e2 : (i + 1).toInt = i.toInt + 1 := g_inc (by omega)
      refine G_drop 7 rfl (G_drop 8 rfl ?_)
      exact ih _ (i + 1) (by omega) (by omega) (by omega)
set_option maxRecDepth 100000 in
set_option maxHeartbeats 4000000 in
theorem misfits4 (d : Nat) (st t0 : Int32) : G (d + 2) mX1_misfits 0 0 0 0 0 (gent 9 [.ref 19, .int 4, .int st, .int t0]) [] SH0 RF0 I0 (fun r h => r = some (.int 0) ∧ h = (SH0, RF0, I0)) := by
  refine G_iconst (pc := 0) (v := 0) (by decide) dX1_misfits_0 ?_
  refine G_istore (pc := 1) (L1 := [some (.ref 19), some (.int 4), some (.int st), some (.int t0), some (.int 0), none, none, none, none]) rfl rfl (by decide) dX1_misfits_1 ?_
  refine G_iload_n (pc := 3) rfl dX1_misfits_3 ?_
  refine G_istore (pc := 4) (L1 := [some (.ref 19), some (.int 4), some (.int st), some (.int t0), some (.int 0), some (.int t0), none, none, none]) rfl rfl (by decide) dX1_misfits_4 ?_
  refine G_iconst (pc := 6) (v := 0) (by decide) dX1_misfits_6 ?_
  refine G_istore (pc := 7) (L1 := [some (.ref 19), some (.int 4), some (.int st), some (.int t0), some (.int 0), some (.int t0), some (.int 0), none, none]) rfl rfl (by decide) dX1_misfits_7 ?_
  exact l_misfits4 d _ _ 17 _ 0 (by decide) (by decide) (by decide)
set_option maxRecDepth 100000 in
set_option maxHeartbeats 4000000 in
theorem o474_X7_shape  (d : Nat) (a0 a1 a2 : Int32) : G (d) mX7_shape 0 0 0 0 0 (gent 4 [.ref 18, .int a0, .int a1, .int a2]) [] SH0 RF0 I0 (fun r h => ∃ v, r = some (.int v) ∧ h = (SH0, RF0, I0)) := by
  refine G_iload_n (pc := 0) rfl dX7_shape_0 ?_
  refine G_bipush (pc := 1) (v := 12) (by decide) dX7_shape_1 ?_
  refine G_idiv (pc := 3) rfl (by decide) dX7_shape_3 ?_
  exact G_iret (pc := 4) (Nat.le_of_ble_eq_true rfl) (Nat.le_of_ble_eq_true rfl) rfl dX7_shape_4 ⟨_, rfl, rfl⟩
set_option maxRecDepth 100000 in
set_option maxHeartbeats 4000000 in
theorem o473_X9_shape  (d : Nat) (a0 a1 a2 : Int32) : G (d + 1) mX9_shape 0 0 0 0 0 (gent 4 [.ref 18, .int a0, .int a1, .int a2]) [] SH0 RF0 I0 (fun r h => ∃ v, r = some (.int v) ∧ h = (SH0, RF0, I0)) := by
  refine G_bipush (pc := 0) (v := 9) (by decide) dX9_shape_0 ?_
  refine G_aload_n (pc := 2) rfl dX9_shape_2 ?_
  refine G_iload_n (pc := 3) rfl dX9_shape_3 ?_
  refine G_iload_n (pc := 4) rfl dX9_shape_4 ?_
  refine G_iload_n (pc := 5) rfl dX9_shape_5 ?_
  refine G_callSU (pc := 6) (mc1 := 0) (ms1 := 0) (ci := 9) (mj := mX7_shape) (vs := [_, _, _]) dX9_shape_6 rfl rfl cm_X7_shape wf_242 wf_243 wf_244 wf_238 (by decide) rfl (Nat.le_of_ble_eq_true rfl) (Nat.le_of_ble_eq_true rfl) (Nat.le_of_ble_eq_true rfl) (Nat.le_of_ble_eq_true rfl) (o474_X7_shape  d _ _ _) ?_
  rintro _ _ ⟨v656, rfl, rfl⟩
  dsimp only [Option.toList, List.cons_append, List.nil_append]
  refine G_iload_n (pc := 9) rfl dX9_shape_9 ?_
  refine G_iadd (pc := 10) rfl dX9_shape_10 ?_
  refine G_min (pc := 11) dX9_shape_11 wf_245 wf_144 wf_145 wf_146 (Nat.le_of_ble_eq_true rfl) (Nat.le_of_ble_eq_true rfl) (Nat.le_of_ble_eq_true rfl) ?_
  exact G_iret (pc := 14) (Nat.le_of_ble_eq_true rfl) (Nat.le_of_ble_eq_true rfl) rfl dX9_shape_14 ⟨_, rfl, rfl⟩
set_option maxRecDepth 100000 in
set_option maxHeartbeats 4000000 in
theorem s475_X1_misfitsAt  (d : Nat)  (a0 : Int32) (a1 : Int32) (a2 : Int32) : G (d) mX1_misfitsAt 0 0 0 0 0 (gent 8 [.ref 19, .int a0, .int a1, .int a2]) [] SH0 RF0 I0 (fun r h => r = some (.int 0) ∧ h = (SH0, RF0, I0)) := by
  refine G_iconst (pc := 0) (v := 0) (by decide) dX1_misfitsAt_0 ?_
  refine G_istore (pc := 1) (L1 := [some (.ref 19), some (.int a0), some (.int a1), some (.int a2), some (.int 0), none, none, none]) rfl rfl (by decide) dX1_misfitsAt_1 ?_
  refine G_iconst (pc := 3) (v := 0) (by decide) dX1_misfitsAt_3 ?_
  refine G_istore (pc := 4) (L1 := [some (.ref 19), some (.int a0), some (.int a1), some (.int a2), some (.int 0), some (.int 0), none, none]) rfl rfl (by decide) dX1_misfitsAt_4 ?_
  refine G_iload (pc := 6) rfl dX1_misfitsAt_6 ?_
  refine G_aload_n (pc := 8) rfl dX1_misfitsAt_8 ?_
  refine G_getI (pc := 9) (v := 0) (ci := 1) (j := 16) rfl rfl lk_RX1_82 rfl rfl dX1_misfitsAt_9 ?_
  refine G_icmp_ge (pc := 12) (tgt := 92) (by decide) dX1_misfitsAt_12 (fun _ => ?_) (fun z => absurd (by decide) z)
  refine G_iload (pc := 92) rfl dX1_misfitsAt_92 ?_
  exact G_iret (pc := 94) (Nat.le_of_ble_eq_true rfl) (Nat.le_of_ble_eq_true rfl) rfl dX1_misfitsAt_94 ⟨rfl, rfl⟩
set_option maxRecDepth 100000 in
set_option maxHeartbeats 4000000 in
theorem o477_X7_melts  (d : Nat) (a0 a1 a2 : Int32) : G (d) mX7_melts 0 0 0 0 0 (gent 4 [.ref 18, .int a0, .int a1, .int a2]) [] SH0 RF0 I0 (fun r h => ∃ v, r = some (.int v) ∧ h = (SH0, RF0, I0)) := by
  refine G_iload_n (pc := 0) rfl dX7_melts_0 ?_
  refine G_iload_n (pc := 1) rfl dX7_melts_1 ?_
  refine G_imul (pc := 2) rfl dX7_melts_2 ?_
  exact G_iret (pc := 3) (Nat.le_of_ble_eq_true rfl) (Nat.le_of_ble_eq_true rfl) rfl dX7_melts_3 ⟨_, rfl, rfl⟩
set_option maxRecDepth 100000 in
set_option maxHeartbeats 4000000 in
theorem o476_X9_melts  (d : Nat) (a0 a1 a2 : Int32) : G (d + 1) mX9_melts 0 0 0 0 0 (gent 4 [.ref 18, .int a0, .int a1, .int a2]) [] SH0 RF0 I0 (fun r h => ∃ v, r = some (.int v) ∧ h = (SH0, RF0, I0)) := by
  refine G_aload_n (pc := 0) rfl dX9_melts_0 ?_
  refine G_iload_n (pc := 1) rfl dX9_melts_1 ?_
  refine G_iload_n (pc := 2) rfl dX9_melts_2 ?_
  refine G_iload_n (pc := 3) rfl dX9_melts_3 ?_
  refine G_callSU (pc := 4) (mc1 := 0) (ms1 := 0) (ci := 9) (mj := mX7_melts) (vs := [_, _, _]) dX9_melts_4 rfl rfl cm_X7_melts wf_250 wf_251 wf_244 wf_241 (by decide) rfl (Nat.le_of_ble_eq_true rfl) (Nat.le_of_ble_eq_true rfl) (Nat.le_of_ble_eq_true rfl) (Nat.le_of_ble_eq_true rfl) (o477_X7_melts  d _ _ _) ?_
  rintro _ _ ⟨v660, rfl, rfl⟩
  dsimp only [Option.toList, List.cons_append, List.nil_append]
  refine G_iload_n (pc := 7) rfl dX9_melts_7 ?_
  refine G_iconst (pc := 8) (v := 3) (by decide) dX9_melts_8 ?_
  refine G_idiv (pc := 9) rfl (by decide) dX9_melts_9 ?_
  refine G_iadd (pc := 10) rfl dX9_melts_10 ?_
  exact G_iret (pc := 11) (Nat.le_of_ble_eq_true rfl) (Nat.le_of_ble_eq_true rfl) rfl dX9_melts_11 ⟨_, rfl, rfl⟩
set_option maxRecDepth 100000 in
set_option maxHeartbeats 4000000 in
theorem l_misfits5  (d : Nat) (st t0 : Int32) (f : Nat) : ∀ (t i : Int32),  0 ≤ i.toInt → i.toInt ≤ 16 → 16 - i.toInt < f → G (d + 2) mX1_misfits 0 0 0 0 9 [some (.ref 19), some (.int 5), some (.int st), some (.int t0), some (.int 0), some (.int t), some (.int i), none, none] [] SH0 RF0 I0 (fun r h => r = some (.int 0) ∧ h = (SH0, RF0, I0)) := by
  induction f with
  | zero => intro t i h0 h1 hf; exfalso; omega
  | succ f ih =>
    intro t i h0 h1 hf
    refine G_iload (pc := 9) rfl dX1_misfits_9 ?_
    refine G_bipush (pc := 11) (v := 16) (by decide) dX1_misfits_11 ?_
    refine G_icmp_ge (pc := 13) (tgt := 96) (by decide) dX1_misfits_13 (fun c655 => ?_) (fun c655 => ?_)
    · refine G_iload (pc := 96) rfl dX1_misfits_96 ?_
      exact G_iret (pc := 98) (Nat.le_of_ble_eq_true rfl) (Nat.le_of_ble_eq_true rfl) rfl dX1_misfits_98 ⟨rfl, rfl⟩
    · refine G_aload_n (pc := 16) rfl dX1_misfits_16 ?_
      refine G_getR (pc := 17) (r := 12) (ci := 1) (j := 0) rfl lk_RX1_56 rfl rfl rfl dX1_misfits_17 ?_
      refine G_iload_n (pc := 20) rfl dX1_misfits_20 ?_
      refine G_kald (pc := 21) (jj := 5) (r := 18) (by decide) rfl (by unfold vp_in; decide) rfl dX1_misfits_21 ?_
      refine G_iload (pc := 22) rfl dX1_misfits_22 ?_
      refine G_iload_n (pc := 24) rfl dX1_misfits_24 ?_
      refine G_iconst (pc := 25) (v := 0) (by decide) dX1_misfits_25 ?_
      refine G_callU (pc := 26) (mc1 := 0) (ms1 := 0) (ci := 9) (mj := mX9_shape) (vs := [_, _, _]) dX1_misfits_26 rfl rfl cm_X9_shape wf_185 wf_186 wf_187 wf_188 wf_248 wf_249 (by decide) rfl (Nat.le_of_ble_eq_true rfl) (Nat.le_of_ble_eq_true rfl) (Nat.le_of_ble_eq_true rfl) (Nat.le_of_ble_eq_true rfl) (o473_X9_shape  d _ _ _) ?_
      rintro _ _ ⟨v657, rfl, rfl⟩
      dsimp only [Option.toList, List.cons_append, List.nil_append]
      refine G_istore (pc := 29) (L1 := [some (.ref 19), some (.int 5), some (.int st), some (.int t0), some (.int 0), some (.int t), some (.int i), some (.int v657), none]) rfl rfl (by decide) dX1_misfits_29 ?_
      refine G_iload (pc := 31) rfl dX1_misfits_31 ?_
      refine G_aload_n (pc := 33) rfl dX1_misfits_33 ?_
      refine G_iload (pc := 34) rfl dX1_misfits_34 ?_
      refine G_iload (pc := 36) rfl dX1_misfits_36 ?_
      refine G_iload (pc := 38) rfl dX1_misfits_38 ?_
      refine G_callV (pc := 40) (mc1 := 0) (ms1 := 0) (ci := 1) (mj := mX1_misfitsAt) (vs := [_, _, _]) dX1_misfits_40 rfl rfl cm_X1_misfitsAt wf_191 wf_193 wf_194 rfl (Nat.le_of_ble_eq_true rfl) (Nat.le_of_ble_eq_true rfl) (Nat.le_of_ble_eq_true rfl) (Nat.le_of_ble_eq_true rfl) (s475_X1_misfitsAt  (d + 1)  _ _ _) ?_
      rintro _ _ ⟨rfl, rfl⟩
      dsimp only [Option.toList, List.cons_append, List.nil_append]
      refine G_ior (pc := 43) (z := 0) (by decide) dX1_misfits_43 ?_
      refine G_istore (pc := 44) (L1 := [some (.ref 19), some (.int 5), some (.int st), some (.int t0), some (.int 0), some (.int t), some (.int i), some (.int v657), none]) rfl rfl (by decide) dX1_misfits_44 ?_
      refine G_aload_n (pc := 46) rfl dX1_misfits_46 ?_
      refine G_getR (pc := 47) (r := 12) (ci := 1) (j := 0) rfl lk_RX1_56 rfl rfl rfl dX1_misfits_47 ?_
      refine G_iload_n (pc := 50) rfl dX1_misfits_50 ?_
      refine G_kald (pc := 51) (jj := 5) (r := 18) (by decide) rfl (by unfold vp_in; decide) rfl dX1_misfits_51 ?_
      refine G_aload_n (pc := 52) rfl dX1_misfits_52 ?_
      refine G_iload (pc := 53) rfl dX1_misfits_53 ?_
      refine G_callV (pc := 55) (mc1 := 0) (ms1 := 0) (ci := 1) (mj := mX1_heatAt) (vs := [_]) dX1_misfits_55 rfl rfl cm_X1_heatAt wf_196 wf_198 wf_199 rfl (Nat.le_of_ble_eq_true rfl) (Nat.le_of_ble_eq_true rfl) (Nat.le_of_ble_eq_true rfl) (Nat.le_of_ble_eq_true rfl) (o456_X1_heatAt  d _) ?_
      rintro _ _ ⟨v658, rfl, rfl⟩
      dsimp only [Option.toList, List.cons_append, List.nil_append]
      refine G_aload_n (pc := 58) rfl dX1_misfits_58 ?_
      refine G_iload (pc := 59) rfl dX1_misfits_59 ?_
      refine G_callV (pc := 61) (mc1 := 0) (ms1 := 0) (ci := 1) (mj := mX1_shadeAt) (vs := [_]) dX1_misfits_61 rfl rfl cm_X1_shadeAt wf_200 wf_202 wf_203 rfl (Nat.le_of_ble_eq_true rfl) (Nat.le_of_ble_eq_true rfl) (Nat.le_of_ble_eq_true rfl) (Nat.le_of_ble_eq_true rfl) (o458_X1_shadeAt  d _) ?_
      rintro _ _ ⟨v659, rfl, rfl⟩
      dsimp only [Option.toList, List.cons_append, List.nil_append]
      refine G_iload (pc := 64) rfl dX1_misfits_64 ?_
      refine G_callU (pc := 66) (mc1 := 0) (ms1 := 0) (ci := 9) (mj := mX9_melts) (vs := [_, _, _]) dX1_misfits_66 rfl rfl cm_X9_melts wf_205 wf_206 wf_207 wf_208 wf_253 wf_254 (by decide) rfl (Nat.le_of_ble_eq_true rfl) (Nat.le_of_ble_eq_true rfl) (Nat.le_of_ble_eq_true rfl) (Nat.le_of_ble_eq_true rfl) (o476_X9_melts  d _ _ _) ?_
      rintro _ _ ⟨v661, rfl, rfl⟩
      dsimp only [Option.toList, List.cons_append, List.nil_append]
      refine G_iload_n (pc := 69) rfl dX1_misfits_69 ?_
      refine G_iconst (pc := 70) (v := 3) (by decide) dX1_misfits_70 ?_
      refine G_idiv (pc := 71) rfl (by decide) dX1_misfits_71 ?_
      refine G_isub (pc := 72) rfl dX1_misfits_72 ?_
      refine G_istore (pc := 73) (L1 := [some (.ref 19), some (.int 5), some (.int st), some (.int t0), some (.int 0), some (.int t), some (.int i), some (.int v657), some (.int (v661 - (st / 3)))]) rfl rfl (by decide) dX1_misfits_73 ?_
      refine G_iconst (pc := 75) (v := 0) (by decide) dX1_misfits_75 ?_
      refine G_iload (pc := 76) rfl dX1_misfits_76 ?_
      refine G_iconst (pc := 78) (v := 0) (by decide) dX1_misfits_78 ?_
      refine G_iload (pc := 79) rfl dX1_misfits_79 ?_
      refine G_max (pc := 81) dX1_misfits_81 wf_147 wf_148 wf_145 wf_149 (Nat.le_of_ble_eq_true rfl) (Nat.le_of_ble_eq_true rfl) (Nat.le_of_ble_eq_true rfl) ?_
      refine G_isub (pc := 84) rfl dX1_misfits_84 ?_
      refine G_max (pc := 85) dX1_misfits_85 wf_147 wf_148 wf_145 wf_149 (Nat.le_of_ble_eq_true rfl) (Nat.le_of_ble_eq_true rfl) (Nat.le_of_ble_eq_true rfl) ?_
      refine G_istore (pc := 88) (L1 := [some (.ref 19), some (.int 5), some (.int st), some (.int t0), some (.int 0), some (.int (if 0 < (t - (if 0 < (v661 - (st / 3)) then (v661 - (st / 3)) else 0)) then (t - (if 0 < (v661 - (st / 3)) then (v661 - (st / 3)) else 0)) else 0)), some (.int i), some (.int v657), some (.int (v661 - (st / 3)))]) rfl rfl (by decide) dX1_misfits_88 ?_
      refine G_iinc (pc := 90) (v := 1) (w := (i + 1)) (L1 := [some (.ref 19), some (.int 5), some (.int st), some (.int t0), some (.int 0), some (.int (if 0 < (t - (if 0 < (v661 - (st / 3)) then (v661 - (st / 3)) else 0)) then (t - (if 0 < (v661 - (st / 3)) then (v661 - (st / 3)) else 0)) else 0)), some (.int (i + 1)), some (.int v657), some (.int (v661 - (st / 3)))]) rfl rfl rfl (by decide) rfl (by decide) dX1_misfits_90 ?_
      refine G_goto (pc := 93) (tgt := 9) (by decide) dX1_misfits_93 ?_
      have e := Int32.lt_iff_toInt_lt.mp (Int32.not_le.mp c655)
      have e1 : (16 : Int32).toInt = 16 := rfl
      have e2 : (i + 1).toInt = i.toInt + 1 := g_inc (by omega)
      refine G_drop 7 rfl (G_drop 8 rfl ?_)
      exact ih _ (i + 1) (by omega) (by omega) (by omega)
set_option maxRecDepth 100000 in
set_option maxHeartbeats 4000000 in
theorem misfits5 (d : Nat) (st t0 : Int32) : G (d + 2) mX1_misfits 0 0 0 0 0 (gent 9 [.ref 19, .int 5, .int st, .int t0]) [] SH0 RF0 I0 (fun r h => r = some (.int 0) ∧ h = (SH0, RF0, I0)) := by
  refine G_iconst (pc := 0) (v := 0) (by decide) dX1_misfits_0 ?_
  refine G_istore (pc := 1) (L1 := [some (.ref 19), some (.int 5), some (.int st), some (.int t0), some (.int 0), none, none, none, none]) rfl rfl (by decide) dX1_misfits_1 ?_
  refine G_iload_n (pc := 3) rfl dX1_misfits_3 ?_
  refine G_istore (pc := 4) (L1 := [some (.ref 19), some (.int 5), some (.int st), some (.int t0), some (.int 0), some (.int t0), none, none, none]) rfl rfl (by decide) dX1_misfits_4 ?_
  refine G_iconst (pc := 6) (v := 0) (by decide) dX1_misfits_6 ?_
  refine G_istore (pc := 7) (L1 := [some (.ref 19), some (.int 5), some (.int st), some (.int t0), some (.int 0), some (.int t0), some (.int 0), none, none]) rfl rfl (by decide) dX1_misfits_7 ?_
  exact l_misfits5 d _ _ 17 _ 0 (by decide) (by decide) (by decide)
theorem misfits_s (d : Nat) (kind st t0 : Int32) (hk : 1 ≤ kind ∧ kind ≤ 5) : G (d + 3) mX1_misfits 0 0 0 0 0 (gent 9 [.ref 19, .int kind, .int st, .int t0]) [] SH0 RF0 I0 (fun r h => r = some (.int 0) ∧ h = (SH0, RF0, I0)) := by
  by_cases c1 : kind = 1
  · subst c1; exact misfits1 (d + 1) st t0
  by_cases c2 : kind = 2
  · subst c2; exact misfits2 (d + 1) st t0
  by_cases c3 : kind = 3
  · subst c3; exact misfits3 d st t0
  by_cases c4 : kind = 4
  · subst c4; exact misfits4 (d + 1) st t0
  by_cases c5 : kind = 5
  · subst c5; exact misfits5 (d + 1) st t0
  exfalso
  have := g_ne c1
  have := g_ne c2
  have := g_ne c3
  have := g_ne c4
  have := g_ne c5
  have a1 := Int32.le_iff_toInt_le.mp hk.1
  have a2 := Int32.le_iff_toInt_le.mp hk.2
  have b1 : (1 : Int32).toInt = 1 := rfl
  have b2 : (2 : Int32).toInt = 2 := rfl
  have b3 : (3 : Int32).toInt = 3 := rfl
  have b4 : (4 : Int32).toInt = 4 := rfl
  have b5 : (5 : Int32).toInt = 5 := rfl
  omega
set_option maxRecDepth 100000 in
set_option maxHeartbeats 4000000 in
theorem s478_X11_loneKind  (d : Nat)  (a0 : Int32) : G (d) mX11_loneKind 0 0 0 0 0 (gent 1 [.int a0]) [] SH0 RF0 I0 (fun r h => r = some (.int (1 + (a0 / 100))) ∧ h = (SH0, RF0, I0)) := by
  refine G_iconst (pc := 0) (v := 1) (by decide) dX11_loneKind_0 ?_
  refine G_iload_n (pc := 1) rfl dX11_loneKind_1 ?_
  refine G_bipush (pc := 2) (v := 100) (by decide) dX11_loneKind_2 ?_
  refine G_idiv (pc := 4) rfl (by decide) dX11_loneKind_4 ?_
  refine G_iadd (pc := 5) rfl dX11_loneKind_5 ?_
  exact G_iret (pc := 6) (Nat.le_of_ble_eq_true rfl) (Nat.le_of_ble_eq_true rfl) rfl dX11_loneKind_6 ⟨rfl, rfl⟩
set_option maxRecDepth 100000 in
set_option maxHeartbeats 4000000 in
theorem s479_X11_loneStraw  (d : Nat)  (a0 : Int32) : G (d) mX11_loneStraw 0 0 0 0 0 (gent 1 [.int a0]) [] SH0 RF0 I0 (fun r h => r = some (.int ((a0 / 10) - (a0 / 10) / 10 * 10)) ∧ h = (SH0, RF0, I0)) := by
  refine G_iload_n (pc := 0) rfl dX11_loneStraw_0 ?_
  refine G_bipush (pc := 1) (v := 10) (by decide) dX11_loneStraw_1 ?_
  refine G_idiv (pc := 3) rfl (by decide) dX11_loneStraw_3 ?_
  refine G_bipush (pc := 4) (v := 10) (by decide) dX11_loneStraw_4 ?_
  refine G_irem (pc := 6) rfl (by decide) dX11_loneStraw_6 ?_
  exact G_iret (pc := 7) (Nat.le_of_ble_eq_true rfl) (Nat.le_of_ble_eq_true rfl) rfl dX11_loneStraw_7 ⟨rfl, rfl⟩
set_option maxRecDepth 100000 in
set_option maxHeartbeats 4000000 in
theorem s480_X11_loneTeeth  (d : Nat)  (a0 : Int32) : G (d) mX11_loneTeeth 0 0 0 0 0 (gent 1 [.int a0]) [] SH0 RF0 I0 (fun r h => r = some (.int (9 + (10 * (a0 - a0 / 10 * 10)))) ∧ h = (SH0, RF0, I0)) := by
  refine G_bipush (pc := 0) (v := 9) (by decide) dX11_loneTeeth_0 ?_
  refine G_bipush (pc := 2) (v := 10) (by decide) dX11_loneTeeth_2 ?_
  refine G_iload_n (pc := 4) rfl dX11_loneTeeth_4 ?_
  refine G_bipush (pc := 5) (v := 10) (by decide) dX11_loneTeeth_5 ?_
  refine G_irem (pc := 7) rfl (by decide) dX11_loneTeeth_7 ?_
  refine G_imul (pc := 8) rfl dX11_loneTeeth_8 ?_
  refine G_iadd (pc := 9) rfl dX11_loneTeeth_9 ?_
  exact G_iret (pc := 10) (Nat.le_of_ble_eq_true rfl) (Nat.le_of_ble_eq_true rfl) rfl dX11_loneTeeth_10 ⟨rfl, rfl⟩
set_option maxRecDepth 100000 in
set_option maxHeartbeats 4000000 in
theorem l_lone  (d : Nat)  (f : Nat) : ∀ (i : Int32),  0 ≤ i.toInt → i.toInt ≤ 500 → 500 - i.toInt < f → G (d + 4) mX11_lone 0 0 0 0 15 [some (.ref 0), some (.int 0), some (.int i), some (.int i)] [] SH0 RF0 I0 (fun r h => ∃ I1, r = some (.int (500)) ∧ h = (SH0, RF0, I1) ∧ ∀ a, 67 ≤ a → I1 a = I0 a) := by
  induction f with
  | zero => intro i h0 h1 hf; exfalso; omega
  | succ f ih =>
    intro i h0 h1 hf
    refine G_iload_n (pc := 15) rfl dX11_lone_15 ?_
    refine G_sipush (pc := 16) (v := 500) (by decide) dX11_lone_16 ?_
    refine G_icmp_ge (pc := 19) (tgt := 86) (by decide) dX11_lone_19 (fun c662 => ?_) (fun c662 => ?_)
    · refine G_iload_n (pc := 86) rfl dX11_lone_86 ?_
      refine G_if_ne (pc := 87) (tgt := 94) (by decide) dX11_lone_87 (fun z => absurd (by decide) z) (fun _ => ?_)
      refine G_iload_n (pc := 90) rfl dX11_lone_90 ?_
      refine G_goto (pc := 91) (tgt := 96) (by decide) dX11_lone_91 ?_
      exact G_iret (pc := 96) (Nat.le_of_ble_eq_true rfl) (Nat.le_of_ble_eq_true rfl) rfl dX11_lone_96 ⟨_, by rw [show i = 500 from Int32.toInt_inj.mp (by have := Int32.le_iff_toInt_le.mp c662; have e1 : (500 : Int32).toInt = 500 := rfl; omega)], rfl, fun _ _ => rfl⟩
    · refine G_aload_n (pc := 22) rfl dX11_lone_22 ?_
      refine G_getR (pc := 23) (r := 19) (ci := 11) (j := 0) rfl lk_RX11_56 rfl rfl rfl dX11_lone_23 ?_
      refine G_iload_n (pc := 26) rfl dX11_lone_26 ?_
      refine G_callS (pc := 27) (mc1 := 0) (ms1 := 0) (mj := mX11_loneKind) (vs := [_]) dX11_lone_27 cm_X11_loneKind wf_255 wf_257 rfl (Nat.le_of_ble_eq_true rfl) (Nat.le_of_ble_eq_true rfl) (Nat.le_of_ble_eq_true rfl) (Nat.le_of_ble_eq_true rfl) (s478_X11_loneKind  (d + 3)  _) ?_
      rintro _ _ ⟨rfl, rfl⟩
      dsimp only [Option.toList, List.cons_append, List.nil_append]
      refine G_iload_n (pc := 30) rfl dX11_lone_30 ?_
      refine G_callS (pc := 31) (mc1 := 0) (ms1 := 0) (mj := mX11_loneStraw) (vs := [_]) dX11_lone_31 cm_X11_loneStraw wf_258 wf_260 rfl (Nat.le_of_ble_eq_true rfl) (Nat.le_of_ble_eq_true rfl) (Nat.le_of_ble_eq_true rfl) (Nat.le_of_ble_eq_true rfl) (s479_X11_loneStraw  (d + 3)  _) ?_
      rintro _ _ ⟨rfl, rfl⟩
      dsimp only [Option.toList, List.cons_append, List.nil_append]
      refine G_iload_n (pc := 34) rfl dX11_lone_34 ?_
      refine G_callS (pc := 35) (mc1 := 0) (ms1 := 0) (mj := mX11_loneTeeth) (vs := [_]) dX11_lone_35 cm_X11_loneTeeth wf_261 wf_263 rfl (Nat.le_of_ble_eq_true rfl) (Nat.le_of_ble_eq_true rfl) (Nat.le_of_ble_eq_true rfl) (Nat.le_of_ble_eq_true rfl) (s480_X11_loneTeeth  (d + 3)  _) ?_
      rintro _ _ ⟨rfl, rfl⟩
      dsimp only [Option.toList, List.cons_append, List.nil_append]
      refine G_callV (pc := 38) (mc1 := 0) (ms1 := 0) (ci := 1) (mj := mX1_misfits) (vs := [_, _, _]) dX11_lone_38 rfl rfl cm_X1_misfits wf_264 wf_266 wf_267 rfl (Nat.le_of_ble_eq_true rfl) (Nat.le_of_ble_eq_true rfl) (Nat.le_of_ble_eq_true rfl) (Nat.le_of_ble_eq_true rfl) (misfits_s d _ _ _ (g_lk h0 (by have e := Int32.lt_iff_toInt_lt.mp (Int32.not_le.mp c662); have e1 : (500 : Int32).toInt = 500 := rfl; omega))) ?_
      rintro _ _ ⟨rfl, rfl⟩
      dsimp only [Option.toList, List.cons_append, List.nil_append]
      refine G_if_ne (pc := 41) (tgt := 80) (by decide) dX11_lone_41 (fun z => absurd (by decide) z) (fun _ => ?_)
      refine G_iload_n (pc := 44) rfl dX11_lone_44 ?_
      refine G_if_eq (pc := 45) (tgt := 77) (by decide) dX11_lone_45 (fun _ => ?_) (fun z => absurd (by decide) z)
      refine G_iinc (pc := 77) (v := 1) (w := (i + 1)) (L1 := [some (.ref 0), some (.int 0), some (.int (i + 1)), some (.int i)]) rfl rfl rfl (by decide) rfl (by decide) dX11_lone_77 ?_
      refine G_iinc (pc := 80) (v := 1) (w := (i + 1)) (L1 := [some (.ref 0), some (.int 0), some (.int (i + 1)), some (.int (i + 1))]) rfl rfl rfl (by decide) rfl (by decide) dX11_lone_80 ?_
      refine G_goto (pc := 83) (tgt := 15) (by decide) dX11_lone_83 ?_
      have e := Int32.lt_iff_toInt_lt.mp (Int32.not_le.mp c662)
      have e1 : (500 : Int32).toInt = 500 := rfl
      have e2 : (i + 1).toInt = i.toInt + 1 := g_inc (by omega)
      exact ih (i + 1) (by omega) (by omega) (by omega)
set_option maxRecDepth 100000 in
set_option maxHeartbeats 4000000 in
theorem s481_X11_loneKind  (d : Nat)   : G (d) mX11_loneKind 0 0 0 0 0 (gent 1 [.int 0]) [] SH0 RF0 I0 (fun r h => r = some (.int 1) ∧ h = (SH0, RF0, I0)) := by
  refine G_iconst (pc := 0) (v := 1) (by decide) dX11_loneKind_0 ?_
  refine G_iload_n (pc := 1) rfl dX11_loneKind_1 ?_
  refine G_bipush (pc := 2) (v := 100) (by decide) dX11_loneKind_2 ?_
  refine G_idiv (pc := 4) (z := 0) (by decide) (by decide) dX11_loneKind_4 ?_
  refine G_iadd (pc := 5) (z := 1) (by decide) dX11_loneKind_5 ?_
  exact G_iret (pc := 6) (Nat.le_of_ble_eq_true rfl) (Nat.le_of_ble_eq_true rfl) rfl dX11_loneKind_6 ⟨rfl, rfl⟩
set_option maxRecDepth 100000 in
set_option maxHeartbeats 4000000 in
theorem s482_X11_loneStraw  (d : Nat)   : G (d) mX11_loneStraw 0 0 0 0 0 (gent 1 [.int 0]) [] SH0 RF0 I0 (fun r h => r = some (.int 0) ∧ h = (SH0, RF0, I0)) := by
  refine G_iload_n (pc := 0) rfl dX11_loneStraw_0 ?_
  refine G_bipush (pc := 1) (v := 10) (by decide) dX11_loneStraw_1 ?_
  refine G_idiv (pc := 3) (z := 0) (by decide) (by decide) dX11_loneStraw_3 ?_
  refine G_bipush (pc := 4) (v := 10) (by decide) dX11_loneStraw_4 ?_
  refine G_irem (pc := 6) (z := 0) (by decide) (by decide) dX11_loneStraw_6 ?_
  exact G_iret (pc := 7) (Nat.le_of_ble_eq_true rfl) (Nat.le_of_ble_eq_true rfl) rfl dX11_loneStraw_7 ⟨rfl, rfl⟩
set_option maxRecDepth 100000 in
set_option maxHeartbeats 4000000 in
theorem s483_X11_loneTeeth  (d : Nat)   : G (d) mX11_loneTeeth 0 0 0 0 0 (gent 1 [.int 0]) [] SH0 RF0 I0 (fun r h => r = some (.int 9) ∧ h = (SH0, RF0, I0)) := by
  refine G_bipush (pc := 0) (v := 9) (by decide) dX11_loneTeeth_0 ?_
  refine G_bipush (pc := 2) (v := 10) (by decide) dX11_loneTeeth_2 ?_
  refine G_iload_n (pc := 4) rfl dX11_loneTeeth_4 ?_
  refine G_bipush (pc := 5) (v := 10) (by decide) dX11_loneTeeth_5 ?_
  refine G_irem (pc := 7) (z := 0) (by decide) (by decide) dX11_loneTeeth_7 ?_
  refine G_imul (pc := 8) (z := 0) (by decide) dX11_loneTeeth_8 ?_
  refine G_iadd (pc := 9) (z := 9) (by decide) dX11_loneTeeth_9 ?_
  exact G_iret (pc := 10) (Nat.le_of_ble_eq_true rfl) (Nat.le_of_ble_eq_true rfl) rfl dX11_loneTeeth_10 ⟨rfl, rfl⟩
def F_lone (what : Int32) : Int32 := if what = 0 then 500 else if what = 1 then 1 else if what = 2 then 0 else if what = 3 then 9 else -1
set_option maxRecDepth 100000 in
set_option maxHeartbeats 4000000 in
theorem x_lone (d : Nat) (what : Int32) : G (d + 4) mX11_lone 0 0 0 0 0 (gent 4 [.ref 0, .int what]) [] SH0 RF0 I0 (fun r h => ∃ I1, r = some (.int (F_lone what)) ∧ h = (SH0, RF0, I1) ∧ ∀ a, 67 ≤ a → I1 a = I0 a) := by
  refine G_iload_n (pc := 0) rfl dX11_lone_0 ?_
  refine G_iconst (pc := 1) (v := 0) (by decide) dX11_lone_1 ?_
  refine G_iconst (pc := 2) (v := 3) (by decide) dX11_lone_2 ?_
  refine G_callS (pc := 3) (mc1 := 0) (ms1 := 0) (mj := mX11_isIn) (vs := [_, _, _]) dX11_lone_3 cm_X11_isIn wf_4 wf_6 rfl (Nat.le_of_ble_eq_true rfl) (Nat.le_of_ble_eq_true rfl) (Nat.le_of_ble_eq_true rfl) (Nat.le_of_ble_eq_true rfl) (isIn_s (d + 3) what 0 3) ?_
  rintro _ _ ⟨rfl, rfl⟩
  dsimp only [Option.toList, List.cons_append, List.nil_append]
  refine G_if_ne (pc := 6) (tgt := 11) (by decide) dX11_lone_6 (fun c663 => ?_) (fun c663 => ?_)
  · have c663 := gB_o c663
    refine G_iconst (pc := 11) (v := 0) (by decide) dX11_lone_11 ?_
    refine G_istore_n (pc := 12) (L1 := [some (.ref 0), some (.int what), some (.int 0), none]) rfl rfl (by decide) dX11_lone_12 ?_
    refine G_iconst (pc := 13) (v := 0) (by decide) dX11_lone_13 ?_
    refine G_istore_n (pc := 14) (L1 := [some (.ref 0), some (.int what), some (.int 0), some (.int 0)]) rfl rfl (by decide) dX11_lone_14 ?_
    by_cases c664 : what = 0
    · subst c664
      exact l_lone d 501 0 (by decide) (by decide) (by decide)
    by_cases c665 : what = 1
    · subst c665
      refine G_iload_n (pc := 15) rfl dX11_lone_15 ?_
      refine G_sipush (pc := 16) (v := 500) (by decide) dX11_lone_16 ?_
      refine G_icmp_ge (pc := 19) (tgt := 86) (by decide) dX11_lone_19 (fun z => absurd z (by decide)) (fun _ => ?_)
      refine G_aload_n (pc := 22) rfl dX11_lone_22 ?_
      refine G_getR (pc := 23) (r := 19) (ci := 11) (j := 0) rfl lk_RX11_56 rfl rfl rfl dX11_lone_23 ?_
      refine G_iload_n (pc := 26) rfl dX11_lone_26 ?_
      refine G_callS (pc := 27) (mc1 := 0) (ms1 := 0) (mj := mX11_loneKind) (vs := [_]) dX11_lone_27 cm_X11_loneKind wf_255 wf_257 rfl (Nat.le_of_ble_eq_true rfl) (Nat.le_of_ble_eq_true rfl) (Nat.le_of_ble_eq_true rfl) (Nat.le_of_ble_eq_true rfl) (s481_X11_loneKind  (d + 3)  ) ?_
      rintro _ _ ⟨rfl, rfl⟩
      dsimp only [Option.toList, List.cons_append, List.nil_append]
      refine G_iload_n (pc := 30) rfl dX11_lone_30 ?_
      refine G_callS (pc := 31) (mc1 := 0) (ms1 := 0) (mj := mX11_loneStraw) (vs := [_]) dX11_lone_31 cm_X11_loneStraw wf_258 wf_260 rfl (Nat.le_of_ble_eq_true rfl) (Nat.le_of_ble_eq_true rfl) (Nat.le_of_ble_eq_true rfl) (Nat.le_of_ble_eq_true rfl) (s482_X11_loneStraw  (d + 3)  ) ?_
      rintro _ _ ⟨rfl, rfl⟩
      dsimp only [Option.toList, List.cons_append, List.nil_append]
      refine G_iload_n (pc := 34) rfl dX11_lone_34 ?_
      refine G_callS (pc := 35) (mc1 := 0) (ms1 := 0) (mj := mX11_loneTeeth) (vs := [_]) dX11_lone_35 cm_X11_loneTeeth wf_261 wf_263 rfl (Nat.le_of_ble_eq_true rfl) (Nat.le_of_ble_eq_true rfl) (Nat.le_of_ble_eq_true rfl) (Nat.le_of_ble_eq_true rfl) (s483_X11_loneTeeth  (d + 3)  ) ?_
      rintro _ _ ⟨rfl, rfl⟩
      dsimp only [Option.toList, List.cons_append, List.nil_append]
      refine G_callV (pc := 38) (mc1 := 0) (ms1 := 0) (ci := 1) (mj := mX1_misfits) (vs := [_, _, _]) dX11_lone_38 rfl rfl cm_X1_misfits wf_264 wf_266 wf_267 rfl (Nat.le_of_ble_eq_true rfl) (Nat.le_of_ble_eq_true rfl) (Nat.le_of_ble_eq_true rfl) (Nat.le_of_ble_eq_true rfl) (misfits_s d _ _ _ (by decide)) ?_
      rintro _ _ ⟨rfl, rfl⟩
      dsimp only [Option.toList, List.cons_append, List.nil_append]
      refine G_if_ne (pc := 41) (tgt := 80) (by decide) dX11_lone_41 (fun z => absurd (by decide) z) (fun _ => ?_)
      refine G_iload_n (pc := 44) rfl dX11_lone_44 ?_
      refine G_if_eq (pc := 45) (tgt := 77) (by decide) dX11_lone_45 (fun z => absurd z (by decide)) (fun _ => ?_)
      refine G_iload_n (pc := 48) rfl dX11_lone_48 ?_
      refine G_iconst (pc := 49) (v := 1) (by decide) dX11_lone_49 ?_
      refine G_icmp_ne (pc := 50) (tgt := 60) (by decide) dX11_lone_50 (fun z => absurd (by decide) z) (fun _ => ?_)
      refine G_iload_n (pc := 53) rfl dX11_lone_53 ?_
      refine G_callS (pc := 54) (mc1 := 0) (ms1 := 0) (mj := mX11_loneKind) (vs := [_]) dX11_lone_54 cm_X11_loneKind wf_255 wf_257 rfl (Nat.le_of_ble_eq_true rfl) (Nat.le_of_ble_eq_true rfl) (Nat.le_of_ble_eq_true rfl) (Nat.le_of_ble_eq_true rfl) (s481_X11_loneKind  (d + 3)  ) ?_
      rintro _ _ ⟨rfl, rfl⟩
      dsimp only [Option.toList, List.cons_append, List.nil_append]
      refine G_goto (pc := 57) (tgt := 76) (by decide) dX11_lone_57 ?_
      exact G_iret (pc := 76) (Nat.le_of_ble_eq_true rfl) (Nat.le_of_ble_eq_true rfl) rfl dX11_lone_76 ⟨_, by first | rfl | (simp [F_lone, *]; done) | (simp only [F_lone, Int32.le_iff_toInt_le, Int32.lt_iff_toInt_lt, ← Int32.toInt_inj]; simp; omega) | (simp only [F_lone, Int32.le_iff_toInt_le, Int32.lt_iff_toInt_lt, ← Int32.toInt_inj]; split <;> first | rfl | (exfalso; simp at *; omega)) | (unfold F_lone; (repeat' split) <;> first | rfl | (exfalso; (try simp only [Int32.le_iff_toInt_le, Int32.lt_iff_toInt_lt, ← Int32.toInt_inj] at *); first | omega | (simp at *; done) | (simp at *; omega))), rfl, fun _ _ => rfl⟩
    by_cases c666 : what = 2
    · subst c666
      refine G_iload_n (pc := 15) rfl dX11_lone_15 ?_
      refine G_sipush (pc := 16) (v := 500) (by decide) dX11_lone_16 ?_
      refine G_icmp_ge (pc := 19) (tgt := 86) (by decide) dX11_lone_19 (fun z => absurd z (by decide)) (fun _ => ?_)
      refine G_aload_n (pc := 22) rfl dX11_lone_22 ?_
      refine G_getR (pc := 23) (r := 19) (ci := 11) (j := 0) rfl lk_RX11_56 rfl rfl rfl dX11_lone_23 ?_
      refine G_iload_n (pc := 26) rfl dX11_lone_26 ?_
      refine G_callS (pc := 27) (mc1 := 0) (ms1 := 0) (mj := mX11_loneKind) (vs := [_]) dX11_lone_27 cm_X11_loneKind wf_255 wf_257 rfl (Nat.le_of_ble_eq_true rfl) (Nat.le_of_ble_eq_true rfl) (Nat.le_of_ble_eq_true rfl) (Nat.le_of_ble_eq_true rfl) (s481_X11_loneKind  (d + 3)  ) ?_
      rintro _ _ ⟨rfl, rfl⟩
      dsimp only [Option.toList, List.cons_append, List.nil_append]
      refine G_iload_n (pc := 30) rfl dX11_lone_30 ?_
      refine G_callS (pc := 31) (mc1 := 0) (ms1 := 0) (mj := mX11_loneStraw) (vs := [_]) dX11_lone_31 cm_X11_loneStraw wf_258 wf_260 rfl (Nat.le_of_ble_eq_true rfl) (Nat.le_of_ble_eq_true rfl) (Nat.le_of_ble_eq_true rfl) (Nat.le_of_ble_eq_true rfl) (s482_X11_loneStraw  (d + 3)  ) ?_
      rintro _ _ ⟨rfl, rfl⟩
      dsimp only [Option.toList, List.cons_append, List.nil_append]
      refine G_iload_n (pc := 34) rfl dX11_lone_34 ?_
      refine G_callS (pc := 35) (mc1 := 0) (ms1 := 0) (mj := mX11_loneTeeth) (vs := [_]) dX11_lone_35 cm_X11_loneTeeth wf_261 wf_263 rfl (Nat.le_of_ble_eq_true rfl) (Nat.le_of_ble_eq_true rfl) (Nat.le_of_ble_eq_true rfl) (Nat.le_of_ble_eq_true rfl) (s483_X11_loneTeeth  (d + 3)  ) ?_
      rintro _ _ ⟨rfl, rfl⟩
      dsimp only [Option.toList, List.cons_append, List.nil_append]
      refine G_callV (pc := 38) (mc1 := 0) (ms1 := 0) (ci := 1) (mj := mX1_misfits) (vs := [_, _, _]) dX11_lone_38 rfl rfl cm_X1_misfits wf_264 wf_266 wf_267 rfl (Nat.le_of_ble_eq_true rfl) (Nat.le_of_ble_eq_true rfl) (Nat.le_of_ble_eq_true rfl) (Nat.le_of_ble_eq_true rfl) (misfits_s d _ _ _ (by decide)) ?_
      rintro _ _ ⟨rfl, rfl⟩
      dsimp only [Option.toList, List.cons_append, List.nil_append]
      refine G_if_ne (pc := 41) (tgt := 80) (by decide) dX11_lone_41 (fun z => absurd (by decide) z) (fun _ => ?_)
      refine G_iload_n (pc := 44) rfl dX11_lone_44 ?_
      refine G_if_eq (pc := 45) (tgt := 77) (by decide) dX11_lone_45 (fun z => absurd z (by decide)) (fun _ => ?_)
      refine G_iload_n (pc := 48) rfl dX11_lone_48 ?_
      refine G_iconst (pc := 49) (v := 1) (by decide) dX11_lone_49 ?_
      refine G_icmp_ne (pc := 50) (tgt := 60) (by decide) dX11_lone_50 (fun _ => ?_) (fun z => absurd z (by decide))
      refine G_iload_n (pc := 60) rfl dX11_lone_60 ?_
      refine G_iconst (pc := 61) (v := 2) (by decide) dX11_lone_61 ?_
      refine G_icmp_ne (pc := 62) (tgt := 72) (by decide) dX11_lone_62 (fun z => absurd (by decide) z) (fun _ => ?_)
      refine G_iload_n (pc := 65) rfl dX11_lone_65 ?_
      refine G_callS (pc := 66) (mc1 := 0) (ms1 := 0) (mj := mX11_loneStraw) (vs := [_]) dX11_lone_66 cm_X11_loneStraw wf_258 wf_260 rfl (Nat.le_of_ble_eq_true rfl) (Nat.le_of_ble_eq_true rfl) (Nat.le_of_ble_eq_true rfl) (Nat.le_of_ble_eq_true rfl) (s482_X11_loneStraw  (d + 3)  ) ?_
      rintro _ _ ⟨rfl, rfl⟩
      dsimp only [Option.toList, List.cons_append, List.nil_append]
      refine G_goto (pc := 69) (tgt := 76) (by decide) dX11_lone_69 ?_
      exact G_iret (pc := 76) (Nat.le_of_ble_eq_true rfl) (Nat.le_of_ble_eq_true rfl) rfl dX11_lone_76 ⟨_, by first | rfl | (simp [F_lone, *]; done) | (simp only [F_lone, Int32.le_iff_toInt_le, Int32.lt_iff_toInt_lt, ← Int32.toInt_inj]; simp; omega) | (simp only [F_lone, Int32.le_iff_toInt_le, Int32.lt_iff_toInt_lt, ← Int32.toInt_inj]; split <;> first | rfl | (exfalso; simp at *; omega)) | (unfold F_lone; (repeat' split) <;> first | rfl | (exfalso; (try simp only [Int32.le_iff_toInt_le, Int32.lt_iff_toInt_lt, ← Int32.toInt_inj] at *); first | omega | (simp at *; done) | (simp at *; omega))), rfl, fun _ _ => rfl⟩
    by_cases c667 : what = 3
    · subst c667
      refine G_iload_n (pc := 15) rfl dX11_lone_15 ?_
      refine G_sipush (pc := 16) (v := 500) (by decide) dX11_lone_16 ?_
      refine G_icmp_ge (pc := 19) (tgt := 86) (by decide) dX11_lone_19 (fun z => absurd z (by decide)) (fun _ => ?_)
      refine G_aload_n (pc := 22) rfl dX11_lone_22 ?_
      refine G_getR (pc := 23) (r := 19) (ci := 11) (j := 0) rfl lk_RX11_56 rfl rfl rfl dX11_lone_23 ?_
      refine G_iload_n (pc := 26) rfl dX11_lone_26 ?_
      refine G_callS (pc := 27) (mc1 := 0) (ms1 := 0) (mj := mX11_loneKind) (vs := [_]) dX11_lone_27 cm_X11_loneKind wf_255 wf_257 rfl (Nat.le_of_ble_eq_true rfl) (Nat.le_of_ble_eq_true rfl) (Nat.le_of_ble_eq_true rfl) (Nat.le_of_ble_eq_true rfl) (s481_X11_loneKind  (d + 3)  ) ?_
      rintro _ _ ⟨rfl, rfl⟩
      dsimp only [Option.toList, List.cons_append, List.nil_append]
      refine G_iload_n (pc := 30) rfl dX11_lone_30 ?_
      refine G_callS (pc := 31) (mc1 := 0) (ms1 := 0) (mj := mX11_loneStraw) (vs := [_]) dX11_lone_31 cm_X11_loneStraw wf_258 wf_260 rfl (Nat.le_of_ble_eq_true rfl) (Nat.le_of_ble_eq_true rfl) (Nat.le_of_ble_eq_true rfl) (Nat.le_of_ble_eq_true rfl) (s482_X11_loneStraw  (d + 3)  ) ?_
      rintro _ _ ⟨rfl, rfl⟩
      dsimp only [Option.toList, List.cons_append, List.nil_append]
      refine G_iload_n (pc := 34) rfl dX11_lone_34 ?_
      refine G_callS (pc := 35) (mc1 := 0) (ms1 := 0) (mj := mX11_loneTeeth) (vs := [_]) dX11_lone_35 cm_X11_loneTeeth wf_261 wf_263 rfl (Nat.le_of_ble_eq_true rfl) (Nat.le_of_ble_eq_true rfl) (Nat.le_of_ble_eq_true rfl) (Nat.le_of_ble_eq_true rfl) (s483_X11_loneTeeth  (d + 3)  ) ?_
      rintro _ _ ⟨rfl, rfl⟩
      dsimp only [Option.toList, List.cons_append, List.nil_append]
      refine G_callV (pc := 38) (mc1 := 0) (ms1 := 0) (ci := 1) (mj := mX1_misfits) (vs := [_, _, _]) dX11_lone_38 rfl rfl cm_X1_misfits wf_264 wf_266 wf_267 rfl (Nat.le_of_ble_eq_true rfl) (Nat.le_of_ble_eq_true rfl) (Nat.le_of_ble_eq_true rfl) (Nat.le_of_ble_eq_true rfl) (misfits_s d _ _ _ (by decide)) ?_
      rintro _ _ ⟨rfl, rfl⟩
      dsimp only [Option.toList, List.cons_append, List.nil_append]
      refine G_if_ne (pc := 41) (tgt := 80) (by decide) dX11_lone_41 (fun z => absurd (by decide) z) (fun _ => ?_)
      refine G_iload_n (pc := 44) rfl dX11_lone_44 ?_
      refine G_if_eq (pc := 45) (tgt := 77) (by decide) dX11_lone_45 (fun z => absurd z (by decide)) (fun _ => ?_)
      refine G_iload_n (pc := 48) rfl dX11_lone_48 ?_
      refine G_iconst (pc := 49) (v := 1) (by decide) dX11_lone_49 ?_
      refine G_icmp_ne (pc := 50) (tgt := 60) (by decide) dX11_lone_50 (fun _ => ?_) (fun z => absurd z (by decide))
      refine G_iload_n (pc := 60) rfl dX11_lone_60 ?_
      refine G_iconst (pc := 61) (v := 2) (by decide) dX11_lone_61 ?_
      refine G_icmp_ne (pc := 62) (tgt := 72) (by decide) dX11_lone_62 (fun _ => ?_) (fun z => absurd z (by decide))
      refine G_iload_n (pc := 72) rfl dX11_lone_72 ?_
      refine G_callS (pc := 73) (mc1 := 0) (ms1 := 0) (mj := mX11_loneTeeth) (vs := [_]) dX11_lone_73 cm_X11_loneTeeth wf_261 wf_263 rfl (Nat.le_of_ble_eq_true rfl) (Nat.le_of_ble_eq_true rfl) (Nat.le_of_ble_eq_true rfl) (Nat.le_of_ble_eq_true rfl) (s483_X11_loneTeeth  (d + 3)  ) ?_
      rintro _ _ ⟨rfl, rfl⟩
      dsimp only [Option.toList, List.cons_append, List.nil_append]
      exact G_iret (pc := 76) (Nat.le_of_ble_eq_true rfl) (Nat.le_of_ble_eq_true rfl) rfl dX11_lone_76 ⟨_, by first | rfl | (simp [F_lone, *]; done) | (simp only [F_lone, Int32.le_iff_toInt_le, Int32.lt_iff_toInt_lt, ← Int32.toInt_inj]; simp; omega) | (simp only [F_lone, Int32.le_iff_toInt_le, Int32.lt_iff_toInt_lt, ← Int32.toInt_inj]; split <;> first | rfl | (exfalso; simp at *; omega)) | (unfold F_lone; (repeat' split) <;> first | rfl | (exfalso; (try simp only [Int32.le_iff_toInt_le, Int32.lt_iff_toInt_lt, ← Int32.toInt_inj] at *); first | omega | (simp at *; done) | (simp at *; omega))), rfl, fun _ _ => rfl⟩
    exfalso
    have : 0 ≤ (what).toInt := Int32.le_iff_toInt_le.mp (c663.1)
    have : (what).toInt ≤ 3 := Int32.le_iff_toInt_le.mp (c663.2)
    have : (what).toInt ≠ 0 := g_ne (c664)
    have : (what).toInt ≠ 1 := g_ne (c665)
    have : (what).toInt ≠ 2 := g_ne (c666)
    have : (what).toInt ≠ 3 := g_ne (c667)
    omega
  · have c663 := gB_z c663
    refine G_iconst (pc := 9) (v := (-1)) (by decide) dX11_lone_9 ?_
    exact G_iret (pc := 10) (Nat.le_of_ble_eq_true rfl) (Nat.le_of_ble_eq_true rfl) rfl dX11_lone_10 ⟨_, by first | rfl | (simp [F_lone, *]; done) | (have : ¬ (0 ≤ (what).toInt ∧ (what).toInt ≤ 3) := fun z => c663 ⟨Int32.le_iff_toInt_le.mpr z.1, Int32.le_iff_toInt_le.mpr z.2⟩; simp only [F_lone, Int32.le_iff_toInt_le, Int32.lt_iff_toInt_lt, ← Int32.toInt_inj]; simp; omega) | (have : ¬ (0 ≤ (what).toInt ∧ (what).toInt ≤ 3) := fun z => c663 ⟨Int32.le_iff_toInt_le.mpr z.1, Int32.le_iff_toInt_le.mpr z.2⟩; simp only [F_lone, Int32.le_iff_toInt_le, Int32.lt_iff_toInt_lt, ← Int32.toInt_inj]; split <;> first | rfl | (exfalso; simp at *; omega)) | (have : ¬ (0 ≤ (what).toInt ∧ (what).toInt ≤ 3) := fun z => c663 ⟨Int32.le_iff_toInt_le.mpr z.1, Int32.le_iff_toInt_le.mpr z.2⟩; unfold F_lone; (repeat' split) <;> first | rfl | (exfalso; (try simp only [Int32.le_iff_toInt_le, Int32.lt_iff_toInt_lt, ← Int32.toInt_inj] at *); first | omega | (simp at *; done) | (simp at *; omega))), rfl, fun _ _ => rfl⟩
def F_liar  : Int32 := -3
set_option maxRecDepth 100000 in
set_option maxHeartbeats 4000000 in
theorem x_liar (d : Nat)  : G (d + 4) mX11_liar 0 0 0 0 0 (gent 4 [.ref 0]) [] SH0 RF0 I0 (fun r h => ∃ I1, r = some (.int (F_liar )) ∧ h = (SH0, RF0, I1) ∧ ∀ a, 67 ≤ a → I1 a = I0 a) := by
  refine G_bipush (pc := 0) (v := 6) (by decide) dX11_liar_0 ?_
  refine G_istore_n (pc := 2) (L1 := [some (.ref 0), some (.int 6), none, none]) rfl rfl (by decide) dX11_liar_2 ?_
  refine G_iconst (pc := 3) (v := 0) (by decide) dX11_liar_3 ?_
  refine G_istore_n (pc := 4) (L1 := [some (.ref 0), some (.int 6), some (.int 0), none]) rfl rfl (by decide) dX11_liar_4 ?_
  refine G_iload_n (pc := 5) rfl dX11_liar_5 ?_
  refine G_sipush (pc := 6) (v := 500) (by decide) dX11_liar_6 ?_
  refine G_icmp_ge (pc := 9) (tgt := 62) (by decide) dX11_liar_9 (fun z => absurd z (by decide)) (fun _ => ?_)
  refine G_aload_n (pc := 12) rfl dX11_liar_12 ?_
  refine G_getR (pc := 13) (r := 19) (ci := 11) (j := 0) rfl lk_RX11_56 rfl rfl rfl dX11_liar_13 ?_
  refine G_iload_n (pc := 16) rfl dX11_liar_16 ?_
  refine G_callS (pc := 17) (mc1 := 0) (ms1 := 0) (mj := mX11_loneKind) (vs := [_]) dX11_liar_17 cm_X11_loneKind wf_255 wf_257 rfl (Nat.le_of_ble_eq_true rfl) (Nat.le_of_ble_eq_true rfl) (Nat.le_of_ble_eq_true rfl) (Nat.le_of_ble_eq_true rfl) (s481_X11_loneKind  (d + 3)  ) ?_
  rintro _ _ ⟨rfl, rfl⟩
  dsimp only [Option.toList, List.cons_append, List.nil_append]
  refine G_iload_n (pc := 20) rfl dX11_liar_20 ?_
  refine G_callS (pc := 21) (mc1 := 0) (ms1 := 0) (mj := mX11_loneStraw) (vs := [_]) dX11_liar_21 cm_X11_loneStraw wf_258 wf_260 rfl (Nat.le_of_ble_eq_true rfl) (Nat.le_of_ble_eq_true rfl) (Nat.le_of_ble_eq_true rfl) (Nat.le_of_ble_eq_true rfl) (s482_X11_loneStraw  (d + 3)  ) ?_
  rintro _ _ ⟨rfl, rfl⟩
  dsimp only [Option.toList, List.cons_append, List.nil_append]
  refine G_iload_n (pc := 24) rfl dX11_liar_24 ?_
  refine G_callS (pc := 25) (mc1 := 0) (ms1 := 0) (mj := mX11_loneTeeth) (vs := [_]) dX11_liar_25 cm_X11_loneTeeth wf_261 wf_263 rfl (Nat.le_of_ble_eq_true rfl) (Nat.le_of_ble_eq_true rfl) (Nat.le_of_ble_eq_true rfl) (Nat.le_of_ble_eq_true rfl) (s483_X11_loneTeeth  (d + 3)  ) ?_
  rintro _ _ ⟨rfl, rfl⟩
  dsimp only [Option.toList, List.cons_append, List.nil_append]
  refine G_callV (pc := 28) (mc1 := 0) (ms1 := 0) (ci := 1) (mj := mX1_misfits) (vs := [_, _, _]) dX11_liar_28 rfl rfl cm_X1_misfits wf_264 wf_266 wf_267 rfl (Nat.le_of_ble_eq_true rfl) (Nat.le_of_ble_eq_true rfl) (Nat.le_of_ble_eq_true rfl) (Nat.le_of_ble_eq_true rfl) (misfits_s d _ _ _ (by decide)) ?_
  rintro _ _ ⟨rfl, rfl⟩
  dsimp only [Option.toList, List.cons_append, List.nil_append]
  refine G_istore_n (pc := 31) (L1 := [some (.ref 0), some (.int 6), some (.int 0), some (.int 0)]) rfl rfl (by decide) dX11_liar_31 ?_
  refine G_iload_n (pc := 32) rfl dX11_liar_32 ?_
  refine G_if_ne (pc := 33) (tgt := 39) (by decide) dX11_liar_33 (fun z => absurd (by decide) z) (fun _ => ?_)
  refine G_bipush (pc := 36) (v := (-3)) (by decide) dX11_liar_36 ?_
  exact G_iret (pc := 38) (Nat.le_of_ble_eq_true rfl) (Nat.le_of_ble_eq_true rfl) rfl dX11_liar_38 ⟨_, by first | rfl | (simp [F_liar, *]; done) | (simp only [F_liar, Int32.le_iff_toInt_le, Int32.lt_iff_toInt_lt, ← Int32.toInt_inj]; simp; omega) | (simp only [F_liar, Int32.le_iff_toInt_le, Int32.lt_iff_toInt_lt, ← Int32.toInt_inj]; split <;> first | rfl | (exfalso; simp at *; omega)) | (unfold F_liar; (repeat' split) <;> first | rfl | (exfalso; (try simp only [Int32.le_iff_toInt_le, Int32.lt_iff_toInt_lt, ← Int32.toInt_inj] at *); first | omega | (simp at *; done) | (simp at *; omega))), rfl, fun _ _ => rfl⟩
