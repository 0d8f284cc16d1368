/-! ===== the reference's reader: next, takes, lays ===== -/
def NQ (I J : gI) : Prop := afr mdX I J ∧ aInv bT J ∧ (I 67 8).toInt ≤ (J 67 9).toInt ∧ (J 67 9).toInt ≤ (J 67 8).toInt ∧ (J 67 8).toInt ≤ (I 67 6).toInt ∧ ((J 67 10).toInt = -1 ∨ (J 67 9).toInt < (J 67 8).toInt) ∧ ((J 67 10).toInt = 100 → 0 ≤ (J 67 11).toInt ∧ (J 67 11).toInt ≤ 9999)
theorem bA_le {I : gI} {x : Int32} (hi : aInv bT I) (hx : 0 ≤ x.toInt) : (bA I x).toInt ≤ 255 := by
  have hz := ain_of hi (show bnd bT 67 6 = (0, 200) by decide +kernel)
  dsimp only at hz
  unfold bA
  split
  next h =>
    have h1 := hi 72 x.toInt.toNat
    have e2 : bnd bT 72 x.toInt.toNat = (0, 255) := by
      show bseg (bT.getD 72 []) _ = _
      rw [show bT.getD 72 [] = [(199, 0, 255)] by decide +kernel]
      show (if _ ≤ 199 then _ else _) = _
      rw [if_pos (by omega)]
    rw [e2] at h1
    exact h1.2
  next => decide
section RE
variable {d : Nat} {I : gI} {Q : Option Value → gH → Prop}

set_option maxRecDepth 100000 in
set_option maxHeartbeats 8000000 in
theorem next_tail (hN : MSok bT (fun _ => True) MT (129, 1, [(1, 67, 0), (0, 0, 17)], [], [], [(some (0, 1), [], [])])) (hi : aInv bT I) (hb : I 67 9 = I 67 8) (hle : (I 67 8).toInt ≤ (I 67 6).toInt) (hQ : ∀ J, NQ I J → Q none (SH0, RF0, J)) : gg (d + 4) mX12_next 34 [some (.ref 67), none] [] I Q := by
  have hz := ain_of hi (show bnd bT 67 6 = (0, 200) by decide +kernel)
  have ha := ain_of hi (show bnd bT 67 8 = (0, 200) by decide +kernel)
  dsimp only at hz ha
  have hle2 := bA_le (x := I 67 8) hi ha.1
  have hb' : (I 67 9).toInt = (I 67 8).toInt := by rw [hb]
  have fin : ∀ (c : Int32) (J : gI), NQ I J → gg (d + 4) mX12_next 110 [some (.ref 67), some (.int c)] [] J Q := fun c J hJ => G_vret (pc := 110) (Nat.le_refl _) (Nat.le_refl _) rfl dX12_next_110 (hQ J hJ)
  refine G_aload_n (pc := 34) rfl dX12_next_34 ?_
  refine G_aload_n (pc := 35) rfl dX12_next_35 ?_
  refine G_getI (pc := 36) (ci := 12) (j := 8) rfl rfl lq_RX12_130 rfl rfl dX12_next_36 ?_
  refine oX12_next_39 (d + 3) _ [.int (I 67 8)] [] I _ (fun r h => r = some (.int (bA I (I 67 8))) ∧ h = (SH0, RF0, I)) 67 12 126 mX12_byteAt rfl List.mem_cons_self mt_X12_byteAt rfl ls1 ls0 (by simp) (byteAt_G ha.1 hi ⟨rfl, rfl⟩) ?_
  rintro _ _ ⟨rfl, rfl⟩
  dsimp only [Option.toList, List.cons_append, List.nil_append]
  generalize hc : bA I (I 67 8) = c
  rw [hc] at hle2
  refine G_istore_n (pc := 42) rfl rfl (by decide) dX12_next_42 ?_
  refine G_iload_n (pc := 43) rfl dX12_next_43 ?_
  refine G_if_ge (pc := 44) (tgt := 55) (by decide) dX12_next_44 (fun c0 => ?_) (fun _ => ?_)
  · rw [Int32.le_iff_toInt_le] at c0
    have c0 : (0 : Int) ≤ _ := c0
    have hlt := bA_lt (I := I) (x := I 67 8) (by rw [hc]; exact c0)
    refine G_iload_n (pc := 55) rfl dX12_next_55 ?_
    refine G_bipush (pc := 56) (v := 97) (by decide) dX12_next_56 ?_
    refine G_bipush (pc := 58) (v := 122) (by decide) dX12_next_58 ?_
    refine oX12_next_60 (d + 3) _ [.int c, .int 97, .int 122] [] I _ (fun r h => (∃ y : Int32, r = some (.int y) ∧ ((y = 1 ∧ 97 ≤ (c).toInt ∧ (c).toInt ≤ 122) ∨ (y = 0 ∧ ¬ (97 ≤ (c).toInt ∧ (c).toInt ≤ 122)))) ∧ h = (SH0, RF0, I)) mX12_in1 mt_X12_in1 rfl (ls3 ⟨_, rfl⟩ ⟨_, rfl⟩ ⟨_, rfl⟩) ls0 (by simp) (in1_G (fun a b => ⟨⟨1, rfl, Or.inl ⟨rfl, a, b⟩⟩, rfl⟩) (fun a => ⟨⟨0, rfl, Or.inr ⟨rfl, a⟩⟩, rfl⟩)) ?_
    rintro _ _ ⟨⟨y, rfl, hy⟩, rfl⟩
    dsimp only [Option.toList, List.cons_append, List.nil_append]
    rcases hy with ⟨rfl, hy1, hy2⟩ | ⟨rfl, hy⟩
    · have hy1 : (97 : Int) ≤ _ := hy1
      have hy2 : _ ≤ (122 : Int) := hy2
      refine G_if_eq (pc := 63) (tgt := 73) (by decide) dX12_next_63 (fun c => absurd c (by decide)) (fun _ => ?_)
      refine G_aload_n (pc := 66) rfl dX12_next_66 ?_
      refine oX12_next_67 (d + 3) _ [] [] I _ (fun r h => r = none ∧ ∃ J, h = (SH0, RF0, J) ∧ rdQ I J 97 122 ∧ (J 67 10).toInt ≠ -1 ∧ (J 67 10).toInt ≠ 100) 67 12 128 mX12_readsName rfl List.mem_cons_self mt_X12_readsName rfl ls0 ls0 (by decide) (readsName_G hN hi hle (fun J a b c => ⟨rfl, J, rfl, a, b, c⟩)) ?_
      rintro _ _ ⟨rfl, J, rfl, hJ, h1, h2⟩
      dsimp only [Option.toList, List.nil_append]
      refine G_goto (pc := 70) (tgt := 110) (by decide) dX12_next_70 ?_
      have e9 : J 67 9 = I 67 8 := (hJ.1 67 9 (mdR_ne (by omega))).trans hb
      have hst := hJ.2.2.2.2 (by rw [hc]; exact hy1) (by rw [hc]; exact hy2)
      have := hJ.2.2.2.1
      exact fin _ J ⟨fun a b h => hJ.1 a b (amdsub_ok (md1 := mdR) (md := mdX) (by decide) h), hJ.2.1, by rw [e9]; exact Int.le_refl _, by rw [e9]; omega, this, Or.inr (by rw [e9]; exact hst), fun h => absurd h h2⟩
    · refine G_if_eq (pc := 63) (tgt := 73) (by decide) dX12_next_63 (fun _ => ?_) (fun c => absurd rfl c)
      refine G_iload_n (pc := 73) rfl dX12_next_73 ?_
      refine G_bipush (pc := 74) (v := 48) (by decide) dX12_next_74 ?_
      refine G_bipush (pc := 76) (v := 57) (by decide) dX12_next_76 ?_
      refine oX12_next_78 (d + 3) _ [.int c, .int 48, .int 57] [] I _ (fun r h => (∃ y : Int32, r = some (.int y) ∧ ((y = 1 ∧ 48 ≤ (c).toInt ∧ (c).toInt ≤ 57) ∨ (y = 0 ∧ ¬ (48 ≤ (c).toInt ∧ (c).toInt ≤ 57)))) ∧ h = (SH0, RF0, I)) mX12_in1 mt_X12_in1 rfl (ls3 ⟨_, rfl⟩ ⟨_, rfl⟩ ⟨_, rfl⟩) ls0 (by simp) (in1_G (fun a b => ⟨⟨1, rfl, Or.inl ⟨rfl, a, b⟩⟩, rfl⟩) (fun a => ⟨⟨0, rfl, Or.inr ⟨rfl, a⟩⟩, rfl⟩)) ?_
      rintro _ _ ⟨⟨y, rfl, hz2⟩, rfl⟩
      dsimp only [Option.toList, List.cons_append, List.nil_append]
      rcases hz2 with ⟨rfl, hy1, hy2⟩ | ⟨rfl, -⟩
      · have hy1 : (48 : Int) ≤ _ := hy1
        have hy2 : _ ≤ (57 : Int) := hy2
        refine G_if_eq (pc := 81) (tgt := 91) (by decide) dX12_next_81 (fun c => absurd c (by decide)) (fun _ => ?_)
        refine G_aload_n (pc := 84) rfl dX12_next_84 ?_
        refine oX12_next_85 (d + 3) _ [] [] I _ (fun r h => r = none ∧ ∃ J, h = (SH0, RF0, J) ∧ rdQ I J 48 57 ∧ (J 67 10).toInt ≠ -1 ∧ 0 ≤ (J 67 11).toInt ∧ (J 67 11).toInt ≤ 9999) 67 12 130 mX12_readsNumber rfl List.mem_cons_self mt_X12_readsNumber rfl ls0 ls0 (by decide) (readsNumber_G (d := d + 1) hi hle (by omega) (fun J a b c e => ⟨rfl, J, rfl, a, b, c, e⟩)) ?_
        rintro _ _ ⟨rfl, J, rfl, hJ, h1, h2, h3⟩
        dsimp only [Option.toList, List.nil_append]
        refine G_goto (pc := 88) (tgt := 110) (by decide) dX12_next_88 ?_
        have e9 : J 67 9 = I 67 8 := (hJ.1 67 9 (mdR_ne (by omega))).trans hb
        have hst := hJ.2.2.2.2 (by rw [hc]; exact hy1) (by rw [hc]; exact hy2)
        have := hJ.2.2.2.1
        exact fin _ J ⟨fun a b h => hJ.1 a b (amdsub_ok (md1 := mdR) (md := mdX) (by decide) h), hJ.2.1, by rw [e9]; exact Int.le_refl _, by rw [e9]; omega, this, Or.inr (by rw [e9]; exact hst), fun _ => ⟨h2, h3⟩⟩
      · refine G_if_eq (pc := 81) (tgt := 91) (by decide) dX12_next_81 (fun _ => ?_) (fun c => absurd rfl c)
        refine G_aload_n (pc := 91) rfl dX12_next_91 ?_
        refine G_sipush (pc := 92) (v := 200) (by decide) dX12_next_92 ?_
        refine G_iload_n (pc := 95) rfl dX12_next_95 ?_
        refine G_iadd (pc := 96) rfl dX12_next_96 ?_
        refine G_putI (pc := 97) (ci := 12) (j := 10) rfl lq_RX12_139 rfl rfl rfl trivial dX12_next_97 ?_
        refine G_aload_n (pc := 100) rfl dX12_next_100 ?_
        refine G_dup (pc := 101) rfl dX12_next_101 ?_
        refine G_getI (pc := 102) (ci := 12) (j := 8) rfl rfl lq_RX12_130 rfl rfl dX12_next_102 ?_
        refine G_iconst (pc := 105) (v := 1) (by decide) dX12_next_105 ?_
        refine G_iadd (pc := 106) rfl dX12_next_106 ?_
        refine G_putI (pc := 107) (ci := 12) (j := 8) rfl lq_RX12_130 rfl rfl rfl trivial dX12_next_107 ?_
        have e1 := a_inc (x := I 67 8) ha.1 (by omega)
        have k8 : gup I 67 10 (200 + c) 67 8 = I 67 8 := gup_ne (Or.inr (by decide))
        have k9 : ∀ w : Int32, gup (gup I 67 10 (200 + c)) 67 8 w 67 9 = I 67 8 := fun w => (gup_ne (Or.inr (by decide))).trans ((gup_ne (Or.inr (by decide))).trans hb)
        have k10 : ∀ w : Int32, gup (gup I 67 10 (200 + c)) 67 8 w 67 10 = 200 + c := fun w => (gup_ne (Or.inr (by decide))).trans gup_at
        have ec : (200 + c).toInt = 200 + c.toInt := by rw [Int32.toInt_add, show (200 : Int32).toInt = 200 from rfl, a_bm (by unfold aLo; omega) (by unfold aHi; omega)]
        refine fin _ _ ⟨(afr.rf.put (mdX_at (by omega))).put (mdX_at (by omega)), inv_at (Or.inl rfl) (inv_put hi (a_full (by decide +kernel))) (by rw [k8, e1]; omega) (by rw [k8, e1]; omega), ?_, ?_, ?_, Or.inr ?_, fun h => ?_⟩
        · rw [k9]
          exact Int.le_refl _
        · rw [k9, gup_at, k8, e1]
          omega
        · rw [gup_at, k8, e1]
          omega
        · rw [k9, gup_at, k8, e1]
          omega
        · rw [k10, ec] at h
          omega
  · refine G_aload_n (pc := 47) rfl dX12_next_47 ?_
    refine G_iconst (pc := 48) (v := (-1)) (by decide) dX12_next_48 ?_
    refine G_putI (pc := 49) (ci := 12) (j := 10) rfl lq_RX12_139 rfl rfl rfl trivial dX12_next_49 ?_
    refine G_goto (pc := 52) (tgt := 110) (by decide) dX12_next_52 ?_
    have k8 : gup I 67 10 (-1) 67 8 = I 67 8 := gup_ne (Or.inr (by decide))
    have k9 : gup I 67 10 (-1) 67 9 = I 67 8 := (gup_ne (Or.inr (by decide))).trans hb
    refine fin _ _ ⟨afr.rf.put (mdX_at (by omega)), inv_put hi (a_full (by decide +kernel)), ?_, ?_, ?_, Or.inl ?_, fun h => ?_⟩
    · rw [k9]
      exact Int.le_refl _
    · rw [k9, k8]
      exact Int.le_refl _
    · rw [k8]
      exact hle
    · rw [gup_at]
      rfl
    · rw [gup_at] at h
      exact absurd h (by decide)
set_option maxRecDepth 100000 in
set_option maxHeartbeats 8000000 in
theorem next_loop (hQ : ∀ J, afr mdX I J → aInv bT J → (I 67 8).toInt ≤ (J 67 8).toInt → (J 67 8).toInt ≤ (J 67 6).toInt → gg (d + 4) mX12_next 26 [some (.ref 67), none] [] J Q) : ∀ (g : Nat) (J : gI), (J 67 6).toInt ≤ (J 67 8).toInt + g → afr mdX I J → aInv bT J → (I 67 8).toInt ≤ (J 67 8).toInt → (J 67 8).toInt ≤ (J 67 6).toInt → gg (d + 4) mX12_next 0 [some (.ref 67), none] [] J Q := by
  intro g
  induction g with
  | zero =>
    intro J hg hf hi h1 h2
    have ha := ain_of hi (show bnd bT 67 8 = (0, 200) by decide +kernel)
    dsimp only at ha
    refine G_aload_n (pc := 0) rfl dX12_next_0 ?_
    refine G_aload_n (pc := 1) rfl dX12_next_1 ?_
    refine G_getI (pc := 2) (ci := 12) (j := 8) rfl rfl lq_RX12_130 rfl rfl dX12_next_2 ?_
    refine oX12_next_5 (d + 3) _ [.int (J 67 8)] [] J _ (fun r h => r = some (.int (bA J (J 67 8))) ∧ h = (SH0, RF0, J)) 67 12 126 mX12_byteAt rfl List.mem_cons_self mt_X12_byteAt rfl ls1 ls0 (by simp) (byteAt_G ha.1 hi ⟨rfl, rfl⟩) ?_
    rintro _ _ ⟨rfl, rfl⟩
    dsimp only [Option.toList, List.cons_append, List.nil_append]
    refine G_bipush (pc := 8) (v := 32) (by decide) dX12_next_8 ?_
    rw [bA_neg (by omega)]
    exact G_icmp_ne (pc := 10) (tgt := 26) (by decide) dX12_next_10 (fun _ => hQ J hf hi h1 h2) (fun c => absurd c (by decide))
  | succ g ih =>
    intro J hg hf hi h1 h2
    have ha := ain_of hi (show bnd bT 67 8 = (0, 200) by decide +kernel)
    have hz := ain_of hi (show bnd bT 67 6 = (0, 200) by decide +kernel)
    dsimp only at ha hz
    refine G_aload_n (pc := 0) rfl dX12_next_0 ?_
    refine G_aload_n (pc := 1) rfl dX12_next_1 ?_
    refine G_getI (pc := 2) (ci := 12) (j := 8) rfl rfl lq_RX12_130 rfl rfl dX12_next_2 ?_
    refine oX12_next_5 (d + 3) _ [.int (J 67 8)] [] J _ (fun r h => r = some (.int (bA J (J 67 8))) ∧ h = (SH0, RF0, J)) 67 12 126 mX12_byteAt rfl List.mem_cons_self mt_X12_byteAt rfl ls1 ls0 (by simp) (byteAt_G ha.1 hi ⟨rfl, rfl⟩) ?_
    rintro _ _ ⟨rfl, rfl⟩
    dsimp only [Option.toList, List.cons_append, List.nil_append]
    refine G_bipush (pc := 8) (v := 32) (by decide) dX12_next_8 ?_
    refine G_icmp_ne (pc := 10) (tgt := 26) (by decide) dX12_next_10 (fun _ => hQ J hf hi h1 h2) (fun c => ?_)
    have hlt := bA_lt (I := J) (x := J 67 8) (by rw [c]; decide)
    refine G_aload_n (pc := 13) rfl dX12_next_13 ?_
    refine G_dup (pc := 14) rfl dX12_next_14 ?_
    refine G_getI (pc := 15) (ci := 12) (j := 8) rfl rfl lq_RX12_130 rfl rfl dX12_next_15 ?_
    refine G_iconst (pc := 18) (v := 1) (by decide) dX12_next_18 ?_
    refine G_iadd (pc := 19) rfl dX12_next_19 ?_
    refine G_putI (pc := 20) (ci := 12) (j := 8) rfl lq_RX12_130 rfl rfl rfl trivial dX12_next_20 ?_
    refine G_goto (pc := 23) (tgt := 0) (by decide) dX12_next_23 ?_
    have e1 := a_inc (x := J 67 8) ha.1 (by omega)
    have e6 : ∀ w : Int32, gup J 67 8 w 67 6 = J 67 6 := fun w => gup_ne (Or.inr (by decide))
    exact ih _ (by rw [e6, gup_at, e1]; omega) (hf.put (mdX_at (by omega))) (inv_at (Or.inl rfl) hi (by omega) (by omega)) (by rw [gup_at, e1]; omega) (by rw [e6, gup_at, e1]; omega)
set_option maxRecDepth 100000 in
set_option maxHeartbeats 8000000 in
theorem next_G (hN : MSok bT (fun _ => True) MT (129, 1, [(1, 67, 0), (0, 0, 17)], [], [], [(some (0, 1), [], [])])) (hi : aInv bT I) (hle : (I 67 8).toInt ≤ (I 67 6).toInt) (hQ : ∀ J, NQ I J → Q none (SH0, RF0, J)) : gg (d + 4) mX12_next 0 (gent 2 [.ref 67]) [] I Q := by
  have hz := ain_of hi (show bnd bT 67 6 = (0, 200) by decide +kernel)
  have ha0 := ain_of hi (show bnd bT 67 8 = (0, 200) by decide +kernel)
  dsimp only at hz ha0
  refine next_loop (fun J hf hiJ h1 h2 => ?_) 200 I (by omega) afr.rf hi (Int.le_refl _) hle
  have ha := ain_of hiJ (show bnd bT 67 8 = (0, 200) by decide +kernel)
  dsimp only at ha
  refine G_aload_n (pc := 26) rfl dX12_next_26 ?_
  refine G_aload_n (pc := 27) rfl dX12_next_27 ?_
  refine G_getI (pc := 28) (ci := 12) (j := 8) rfl rfl lq_RX12_130 rfl rfl dX12_next_28 ?_
  refine G_putI (pc := 31) (ci := 12) (j := 9) rfl lq_RX12_133 rfl rfl rfl trivial dX12_next_31 ?_
  have k8 : gup J 67 9 (J 67 8) 67 8 = J 67 8 := gup_ne (Or.inr (by decide))
  have k6 : gup J 67 9 (J 67 8) 67 6 = J 67 6 := gup_ne (Or.inr (by decide))
  have e6 : J 67 6 = I 67 6 := hf 67 6 (mdX_ne (by omega))
  refine next_tail hN (inv_at (Or.inr rfl) hiJ ha.1 ha.2) (by rw [gup_at, k8]) (by rw [k8, k6]; exact h2) (fun K hK => hQ K ⟨?_, hK.2.1, ?_, hK.2.2.2.1, ?_, hK.2.2.2.2.2⟩)
  · exact mdX_tr (hf.put (mdX_at (by omega))) hK.1
  · have := hK.2.2.1
    rw [k8] at this
    omega
  · have := hK.2.2.2.2.1
    rw [k6, e6] at this
    exact this
set_option maxRecDepth 100000 in
set_option maxHeartbeats 8000000 in
theorem takes_G (hN : MSok bT (fun _ => True) MT (129, 1, [(1, 67, 0), (0, 0, 17)], [], [], [(some (0, 1), [], [])])) {w : Int32} (hi : aInv bT I) (hle : (I 67 8).toInt ≤ (I 67 6).toInt) (hQ0 : I 67 10 ≠ w → Q (some (.int 0)) (SH0, RF0, I)) (hQ1 : ∀ J, I 67 10 = w → NQ I J → Q (some (.int 1)) (SH0, RF0, J)) : gg (d + 5) mX12_takes 0 (gent 3 [.ref 67, .int w]) [] I Q := by
  refine G_aload_n (pc := 0) rfl dX12_takes_0 ?_
  refine G_getI (pc := 1) (ci := 12) (j := 10) rfl rfl lq_RX12_139 rfl rfl dX12_takes_1 ?_
  refine G_iload_n (pc := 4) rfl dX12_takes_4 ?_
  refine G_icmp_ne (pc := 5) (tgt := 12) (by decide) dX12_takes_5 (fun c => ?_) (fun c => ?_)
  · refine G_iconst (pc := 12) (v := 0) (by decide) dX12_takes_12 ?_
    refine G_istore_n (pc := 13) rfl rfl (by decide) dX12_takes_13 ?_
    refine G_iload_n (pc := 14) rfl dX12_takes_14 ?_
    refine G_if_eq (pc := 15) (tgt := 22) (by decide) dX12_takes_15 (fun _ => ?_) (fun c => absurd rfl c)
    refine G_iload_n (pc := 22) rfl dX12_takes_22 ?_
    exact G_zret (pc := 23) (Nat.le_refl _) (Nat.le_refl _) rfl (by decide) dX12_takes_23 (hQ0 c)
  · refine G_iconst (pc := 8) (v := 1) (by decide) dX12_takes_8 ?_
    refine G_goto (pc := 9) (tgt := 13) (by decide) dX12_takes_9 ?_
    refine G_istore_n (pc := 13) rfl rfl (by decide) dX12_takes_13 ?_
    refine G_iload_n (pc := 14) rfl dX12_takes_14 ?_
    refine G_if_eq (pc := 15) (tgt := 22) (by decide) dX12_takes_15 (fun c => absurd c (by decide)) (fun _ => ?_)
    refine G_aload_n (pc := 18) rfl dX12_takes_18 ?_
    refine oX12_takes_19 (d + 4) _ [] [] I _ (fun r h => r = none ∧ ∃ J, h = (SH0, RF0, J) ∧ NQ I J) 67 12 131 mX12_next rfl List.mem_cons_self mt_X12_next rfl ls0 ls0 (by decide) (next_G hN hi hle (fun J hJ => ⟨rfl, J, rfl, hJ⟩)) ?_
    rintro _ _ ⟨rfl, J, rfl, hJ⟩
    dsimp only [Option.toList, List.nil_append]
    refine G_iload_n (pc := 22) rfl dX12_takes_22 ?_
    exact G_zret (pc := 23) (Nat.le_refl _) (Nat.le_refl _) rfl (by decide) dX12_takes_23 (hQ1 J c hJ)
def lay (I : gI) (v : Int32) : gI := gup (gup I 74 (I 67 13).toInt.toNat v) 67 13 (gup I 74 (I 67 13).toInt.toNat v 67 13 + 1)
theorem full74 {j : Nat} : bnd bT 74 j = (-2147483648, 2147483647) := by
  show bseg (bT.getD 74 []) j = _
  rw [show bT.getD 74 [] = [] by decide +kernel]
  rfl
set_option maxRecDepth 100000 in
set_option maxHeartbeats 8000000 in
theorem lays_G {v : Int32} (h0 : 0 ≤ (I 67 13).toInt) (h1 : (I 67 13).toInt < 200) (hQ : Q none (SH0, RF0, lay I v)) : gg d mX12_lays 0 (gent 2 [.ref 67, .int v]) [] I Q := by
  refine G_aload_n (pc := 0) rfl dX12_lays_0 ?_
  refine G_getR (pc := 1) (ci := 12) (j := 14) rfl lq_RX12_29 rfl rfl rfl dX12_lays_1 ?_
  refine G_aload_n (pc := 4) rfl dX12_lays_4 ?_
  refine G_getI (pc := 5) (ci := 12) (j := 13) rfl rfl lq_RX12_158 rfl rfl dX12_lays_5 ?_
  refine G_iload_n (pc := 8) rfl dX12_lays_8 ?_
  refine G_iast (pc := 9) a_nc rfl (a_vin h0 h1) dX12_lays_9 ?_
  refine G_aload_n (pc := 10) rfl dX12_lays_10 ?_
  refine G_dup (pc := 11) rfl dX12_lays_11 ?_
  refine G_getI (pc := 12) (ci := 12) (j := 13) rfl rfl lq_RX12_158 rfl rfl dX12_lays_12 ?_
  refine G_iconst (pc := 15) (v := 1) (by decide) dX12_lays_15 ?_
  refine G_iadd (pc := 16) rfl dX12_lays_16 ?_
  refine G_putI (pc := 17) (ci := 12) (j := 13) rfl lq_RX12_158 rfl rfl rfl trivial dX12_lays_17 ?_
  exact G_vret (pc := 20) (Nat.le_refl _) (Nat.le_refl _) rfl dX12_lays_20 hQ
end RE
