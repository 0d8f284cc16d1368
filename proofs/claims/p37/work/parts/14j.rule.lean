/-! ===== the reference's rules ===== -/
def mdU : aMd := [(67, 8, 13), (74, 0, 199), (75, 0, 23)]
theorem PS.put75 {I : gI} {p j : Nat} {v : Int32} (h : PS I p) : PS (gup I 75 j v) p := by
  have e : ∀ j', gup I 75 j v 67 j' = I 67 j' := fun j' => gup_ne (Or.inl (by decide))
  have f75 : bnd bT 75 j = (-2147483648, 2147483647) := by
    show bseg (bT.getD 75 []) j = _
    rw [show bT.getD 75 [] = [] by decide +kernel]
    rfl
  obtain ⟨h1, h2, h3, h4, h5, h6, h7⟩ := h
  refine ⟨inv_put h1 (a_full f75), ?_, ?_, ?_, ?_, ?_, ?_⟩
  all_goals simp only [e]
  all_goals assumption
theorem U_of {I J : gI} (h : afr mdP I J) : afr mdU I J := fun c j hm => h c j (amdsub_ok (md1 := mdP) (md := mdU) (by decide) hm)
theorem U_75 {j : Nat} (h : j < 24) : amodr mdU 75 j j = true := amodr_i (a := 0) (b := 23) (by decide) (Nat.zero_le _) (by omega)
theorem P_75 {I J : gI} (h : RS I J) (j : Nat) : J 75 j = I 75 j := h.1 75 j (amodr_n1 (Or.inl (by decide)) (amodr_n1 (Or.inl (by decide)) amodr_n0))
/-- a rule was read -/
def RU (I : gI) (r : Nat) (J : gI) : Prop := PS J 0 ∧ r < 8 ∧ (I 67 9).toInt < (J 67 9).toInt ∧ (I 67 13).toInt ≤ (J 67 13).toInt ∧ (∀ j, j < sN I → cd J j = cd I j) ∧ (∀ j, j < 3 * r → J 75 j = I 75 j) ∧ J 75 (3 * r + 2) = J 67 13 ∧ rdn (cd J) (sN J - sN I) (sN I) 0 = true
def UQ (I : gI) (r : Nat) : Option Value → gH → Prop := fun rr h => ∃ (y : Int32) (J : gI), rr = some (.int y) ∧ h = (SH0, RF0, J) ∧ afr mdU I J ∧ aInv bT J ∧ (y = 0 ∨ (y = 1 ∧ RU I r J))

section RR
variable {d : Nat} {I : gI} {r : Nat}
theorem u_end {pc : Nat} {L : gL} {J : gI} (hd : decode cX12_readsRule pc = .ok (.ireturn, 1)) (hf : afr mdU I J) (hi : aInv bT J) : gg d mX12_readsRule pc L [.int 0] J (UQ I r) := G_zret (Nat.le_refl _) (Nat.le_refl _) rfl (by decide) hd ⟨0, J, rfl, rfl, hf, hi, Or.inl rfl⟩
set_option maxRecDepth 100000 in
set_option maxHeartbeats 8000000 in
theorem rule_b (hN : MSok bT (fun _ => True) MT (129, 1, [(1, 67, 0), (0, 0, 17)], [], [], [(some (0, 1), [], [])])) (hr : r < 8) {J : gI} (h : PS J 1) (hf : afr mdU I J) (hB : (I 67 9).toInt < (J 67 9).toInt) (hS : (I 67 13).toInt ≤ (J 67 13).toInt) (hI0 : 0 ≤ (I 67 13).toInt) (hc : ∀ j, j < sN I → cd J j = cd I j) (h75 : ∀ j, j < 3 * r → J 75 j = I 75 j) (hrd : rdn (cd J) (sN J - sN I) (sN I) 0 = true) : gg (d + 23) mX12_readsRule 59 [some (.ref 67), some (.int (Int32.ofNat r))] [] J (UQ I r) := by
  refine G_aload_n (pc := 59) rfl dX12_readsRule_59 ?_
  refine G_getI (pc := 60) (ci := 12) (j := 10) rfl rfl lq_RX12_139 rfl rfl dX12_readsRule_60 ?_
  refine G_bipush (pc := 63) (v := 6) (by decide) dX12_readsRule_63 ?_
  refine G_bipush (pc := 65) (v := 8) (by decide) dX12_readsRule_65 ?_
  refine oX12_readsRule_67 (d + 22) _ [.int (J 67 10), .int 6, .int 8] [] J _ (fun r h => (∃ y : Int32, r = some (.int y) ∧ ((y = 1 ∧ 6 ≤ ((J 67 10)).toInt ∧ ((J 67 10)).toInt ≤ 8) ∨ (y = 0 ∧ ¬ (6 ≤ ((J 67 10)).toInt ∧ ((J 67 10)).toInt ≤ 8)))) ∧ h = (SH0, RF0, J)) mX12_in1 mt_X12_in1 rfl (ls3 ⟨_, rfl⟩ ⟨_, rfl⟩ ⟨_, rfl⟩) ls0 (by simp) (in1_G (fun a b => ⟨⟨1, rfl, Or.inl ⟨rfl, a, b⟩⟩, rfl⟩) (fun a => ⟨⟨0, rfl, Or.inr ⟨rfl, a⟩⟩, rfl⟩)) ?_
  rintro _ _ ⟨⟨y, rfl, hy⟩, rfl⟩
  dsimp only [Option.toList, List.cons_append, List.nil_append]
  rcases hy with ⟨rfl, hy1, hy2⟩ | ⟨rfl, -⟩
  rotate_left
  · refine G_if_ne (pc := 70) (tgt := 75) (by decide) dX12_readsRule_70 (fun c => absurd rfl c) (fun _ => ?_)
    refine G_iconst (pc := 73) (v := 0) (by decide) dX12_readsRule_73 ?_
    exact u_end (pc := 74) dX12_readsRule_74 hf h.1
  have hy1 : (6 : Int) ≤ _ := hy1
  refine G_if_ne (pc := 70) (tgt := 75) (by decide) dX12_readsRule_70 (fun _ => ?_) (fun c => absurd c (by decide))
  refine G_aload_n (pc := 75) rfl dX12_readsRule_75 ?_
  refine G_getR (pc := 76) (ci := 12) (j := 15) rfl lq_RX12_32 rfl rfl rfl dX12_readsRule_76 ?_
  refine G_iconst (pc := 79) (v := Int32.ofNat 3) (by decide) dX12_readsRule_79 ?_
  refine G_iload_n (pc := 80) rfl dX12_readsRule_80 ?_
  refine G_imul (pc := 81) n_mul dX12_readsRule_81 ?_
  refine G_iconst (pc := 82) (v := Int32.ofNat 1) (by decide) dX12_readsRule_82 ?_
  refine G_iadd (pc := 83) n_add dX12_readsRule_83 ?_
  refine G_aload_n (pc := 84) rfl dX12_readsRule_84 ?_
  refine G_getI (pc := 85) (ci := 12) (j := 10) rfl rfl lq_RX12_139 rfl rfl dX12_readsRule_85 ?_
  refine G_bipush (pc := 88) (v := 6) (by decide) dX12_readsRule_88 ?_
  refine G_isub (pc := 90) rfl dX12_readsRule_90 ?_
  refine G_iast (pc := 91) (n_clamp (show 3 * r + 1 < 1000 by omega)) rfl (n_in (show 3 * r + 1 < 1000 by omega) (show 3 * r + 1 < 24 by omega)) dX12_readsRule_91 ?_
  have h1 := h.put75 (j := 3 * r + 1) (v := J 67 10 - 6)
  have hf1 : afr mdU I (gup J 75 (3 * r + 1) (J 67 10 - 6)) := hf.put (U_75 (by omega))
  have k67 : ∀ j, gup J 75 (3 * r + 1) (J 67 10 - 6) 67 j = J 67 j := fun j => gup_ne (Or.inl (by decide))
  have k74 : ∀ j, gup J 75 (3 * r + 1) (J 67 10 - 6) 74 j = J 74 j := fun j => gup_ne (Or.inl (by decide))
  have k75 : ∀ j, j ≠ 3 * r + 1 → gup J 75 (3 * r + 1) (J 67 10 - 6) 75 j = J 75 j := fun j hj => gup_ne (Or.inr hj)
  generalize gup J 75 (3 * r + 1) (J 67 10 - 6) = J1 at h1 hf1 k67 k74 k75 ⊢
  refine G_aload_n (pc := 92) rfl dX12_readsRule_92 ?_
  refine G_getR (pc := 93) (ci := 12) (j := 15) rfl lq_RX12_32 rfl rfl rfl dX12_readsRule_93 ?_
  refine G_iconst (pc := 96) (v := Int32.ofNat 3) (by decide) dX12_readsRule_96 ?_
  refine G_iload_n (pc := 97) rfl dX12_readsRule_97 ?_
  refine G_imul (pc := 98) n_mul dX12_readsRule_98 ?_
  refine G_iconst (pc := 99) (v := Int32.ofNat 2) (by decide) dX12_readsRule_99 ?_
  refine G_iadd (pc := 100) n_add dX12_readsRule_100 ?_
  refine G_aload_n (pc := 101) rfl dX12_readsRule_101 ?_
  refine G_getI (pc := 102) (ci := 12) (j := 13) rfl rfl lq_RX12_158 rfl rfl dX12_readsRule_102 ?_
  refine G_iast (pc := 105) (n_clamp (show 3 * r + 2 < 1000 by omega)) rfl (n_in (show 3 * r + 2 < 1000 by omega) (show 3 * r + 2 < 24 by omega)) dX12_readsRule_105 ?_
  have h2 := h1.put75 (j := 3 * r + 2) (v := J1 67 13)
  have hf2 : afr mdU I (gup J1 75 (3 * r + 2) (J1 67 13)) := hf1.put (U_75 (by omega))
  have q67 : ∀ j, gup J1 75 (3 * r + 2) (J1 67 13) 67 j = J 67 j := fun j => (gup_ne (Or.inl (by decide))).trans (k67 j)
  have q74 : ∀ j, gup J1 75 (3 * r + 2) (J1 67 13) 74 j = J 74 j := fun j => (gup_ne (Or.inl (by decide))).trans (k74 j)
  have q75 : ∀ j, j < 3 * r → gup J1 75 (3 * r + 2) (J1 67 13) 75 j = J 75 j := fun j hj => (gup_ne (Or.inr (by omega))).trans (k75 j (by omega))
  have q2 : gup J1 75 (3 * r + 2) (J1 67 13) 75 (3 * r + 2) = J 67 13 := by rw [gup_at, k67]
  generalize gup J1 75 (3 * r + 2) (J1 67 13) = J2 at h2 hf2 q67 q74 q75 q2 ⊢
  refine G_aload_n (pc := 106) rfl dX12_readsRule_106 ?_
  refine oX12_readsRule_107 (d + 22) _ [] [] J2 _ (fun r h => r = none ∧ ∃ J9, h = (SH0, RF0, J9) ∧ NQ (J2) J9) 67 12 131 mX12_next rfl List.mem_cons_self mt_X12_next rfl ls0 ls0 (by simp) (next_G hN (d := d + 18) h2.1 h2.2.1 (fun J9 hJ => ⟨rfl, J9, rfl, hJ⟩)) ?_
  rintro _ _ ⟨rfl, K, rfl, hK⟩
  dsimp only [Option.toList, List.nil_append]
  obtain ⟨h3, s3, lt3, k13⟩ := h2.next (by rw [q67]; omega) hK
  refine G_aload_n (pc := 110) rfl dX12_readsRule_110 ?_
  refine G_sipush (pc := 111) (v := 259) (by decide) dX12_readsRule_111 ?_
  refine oX12_readsRule_114 (d + 22) _ [.int 259] [] K _ (fun r h => (r = some (.int 0) ∧ h = (SH0, RF0, K) ∧ K 67 10 ≠ 259) ∨ (∃ K9, r = some (.int 1) ∧ h = (SH0, RF0, K9) ∧ K 67 10 = 259 ∧ NQ K K9)) 67 12 134 mX12_takes rfl List.mem_cons_self mt_X12_takes rfl ls1 ls0 (by simp) (takes_G hN (d := d + 17) h3.1 h3.2.1 (fun e => Or.inl ⟨rfl, rfl, e⟩) (fun K9 e hK => Or.inr ⟨K9, rfl, rfl, e, hK⟩)) ?_
  rintro _ _ (⟨rfl, rfl, -⟩ | ⟨K2, rfl, rfl, ek, hK2⟩)
  · exact u_end (pc := 117) dX12_readsRule_117 (hf2.tr (U_of s3.1) (by decide)) h3.1
  obtain ⟨h4, s4, lt4, l13⟩ := h3.next (by rw [ek]; decide) hK2
  have s34 := s3.tr s4
  have e13 : K2 67 13 = J 67 13 := by rw [l13, k13, q67]
  have eN : sN K2 = sN J := by
    unfold sN
    rw [e13]
  have hj0 := h.rng
  have hcd : ∀ j, j < sN J → cd K2 j = cd J j := fun j hj => ((s34.code h2.rng.1 j (by unfold sN at hj ⊢; rw [q67]; exact hj)).symm).trans (q74 j)
  have hSN : sN I ≤ sN J := by
    unfold sN
    omega
  rw [q67] at lt3
  refine G_zret (pc := 117) (Nat.le_refl _) (Nat.le_refl _) rfl (by decide) dX12_readsRule_117 ⟨1, K2, rfl, rfl, (hf2.tr (U_of s34.1) (by decide)), h4.1, Or.inr ⟨rfl, h4.less (by omega), hr, by omega, by rw [e13]; exact hS, fun j hj => (hcd j (by omega)).trans (hc j hj), fun j hj => (P_75 s34 j).trans ((q75 j hj).trans (h75 j hj)), (P_75 s34 _).trans (q2.trans e13.symm), ?_⟩⟩
  rw [eN, rdn_eq (f' := cd J) _ _ _ (fun q a b => hcd q (by omega))]
  exact hrd
set_option maxRecDepth 100000 in
set_option maxHeartbeats 8000000 in
theorem rule_G (hN : MSok bT (fun _ => True) MT (129, 1, [(1, 67, 0), (0, 0, 17)], [], [], [(some (0, 1), [], [])])) (h : PS I 0) (hr : r ≤ 8) : gg (d + 23) mX12_readsRule 0 (gent 2 [.ref 67, .int (Int32.ofNat r)]) [] I (UQ I r) := by
  have hR := h.rng
  have no : gg (d + 23) mX12_readsRule 18 [some (.ref 67), some (.int (Int32.ofNat r))] [] I (UQ I r) := by
    refine G_iconst (pc := 18) (v := 0) (by decide) dX12_readsRule_18 ?_
    exact u_end (pc := 19) dX12_readsRule_19 afr.rf h.1
  refine G_iload_n (pc := 0) rfl dX12_readsRule_0 ?_
  refine G_bipush (pc := 1) (v := Int32.ofNat 8) (by decide) dX12_readsRule_1 ?_
  refine G_icmp_eq (pc := 3) (tgt := 18) (by decide) dX12_readsRule_3 (fun _ => no) (fun c => ?_)
  have hr8 : r < 8 := by
    have : r ≠ 8 := fun e => c (by rw [e])
    omega
  refine G_aload_n (pc := 6) rfl dX12_readsRule_6 ?_
  refine G_getI (pc := 7) (ci := 12) (j := 10) rfl rfl lq_RX12_139 rfl rfl dX12_readsRule_7 ?_
  refine G_iconst (pc := 10) (v := 0) (by decide) dX12_readsRule_10 ?_
  refine G_iconst (pc := 11) (v := 5) (by decide) dX12_readsRule_11 ?_
  refine oX12_readsRule_12 (d + 22) _ [.int (I 67 10), .int 0, .int 5] [] I _ (fun r h => (∃ y : Int32, r = some (.int y) ∧ ((y = 1 ∧ 0 ≤ ((I 67 10)).toInt ∧ ((I 67 10)).toInt ≤ 5) ∨ (y = 0 ∧ ¬ (0 ≤ ((I 67 10)).toInt ∧ ((I 67 10)).toInt ≤ 5)))) ∧ h = (SH0, RF0, I)) mX12_in1 mt_X12_in1 rfl (ls3 ⟨_, rfl⟩ ⟨_, rfl⟩ ⟨_, rfl⟩) ls0 (by simp) (in1_G (fun a b => ⟨⟨1, rfl, Or.inl ⟨rfl, a, b⟩⟩, rfl⟩) (fun a => ⟨⟨0, rfl, Or.inr ⟨rfl, a⟩⟩, rfl⟩)) ?_
  rintro _ _ ⟨⟨y, rfl, hy⟩, rfl⟩
  dsimp only [Option.toList, List.cons_append, List.nil_append]
  rcases hy with ⟨rfl, hy1, hy2⟩ | ⟨rfl, -⟩
  rotate_left
  · exact G_if_ne (pc := 15) (tgt := 20) (by decide) dX12_readsRule_15 (fun c => absurd rfl c) (fun _ => no)
  have hy1 : (0 : Int) ≤ _ := hy1
  refine G_if_ne (pc := 15) (tgt := 20) (by decide) dX12_readsRule_15 (fun _ => ?_) (fun c => absurd c (by decide))
  refine G_aload_n (pc := 20) rfl dX12_readsRule_20 ?_
  refine G_getR (pc := 21) (ci := 12) (j := 15) rfl lq_RX12_32 rfl rfl rfl dX12_readsRule_21 ?_
  refine G_iconst (pc := 24) (v := Int32.ofNat 3) (by decide) dX12_readsRule_24 ?_
  refine G_iload_n (pc := 25) rfl dX12_readsRule_25 ?_
  refine G_imul (pc := 26) n_mul dX12_readsRule_26 ?_
  refine G_aload_n (pc := 27) rfl dX12_readsRule_27 ?_
  refine G_getI (pc := 28) (ci := 12) (j := 10) rfl rfl lq_RX12_139 rfl rfl dX12_readsRule_28 ?_
  refine G_iast (pc := 31) (n_clamp (show 3 * r < 1000 by omega)) rfl (n_in (show 3 * r < 1000 by omega) (show 3 * r < 24 by omega)) dX12_readsRule_31 ?_
  have h1 := h.put75 (j := 3 * r) (v := I 67 10)
  have hf1 : afr mdU I (gup I 75 (3 * r) (I 67 10)) := afr.rf.put (U_75 (by omega))
  have k67 : ∀ j, gup I 75 (3 * r) (I 67 10) 67 j = I 67 j := fun j => gup_ne (Or.inl (by decide))
  have k74 : ∀ j, gup I 75 (3 * r) (I 67 10) 74 j = I 74 j := fun j => gup_ne (Or.inl (by decide))
  have k75 : ∀ j, j < 3 * r → gup I 75 (3 * r) (I 67 10) 75 j = I 75 j := fun j hj => gup_ne (Or.inr (by omega))
  generalize gup I 75 (3 * r) (I 67 10) = I1 at h1 hf1 k67 k74 k75 ⊢
  refine G_aload_n (pc := 32) rfl dX12_readsRule_32 ?_
  refine oX12_readsRule_33 (d + 22) _ [] [] I1 _ (fun r h => r = none ∧ ∃ J9, h = (SH0, RF0, J9) ∧ NQ (I1) J9) 67 12 131 mX12_next rfl List.mem_cons_self mt_X12_next rfl ls0 ls0 (by simp) (next_G hN (d := d + 18) h1.1 h1.2.1 (fun J9 hJ => ⟨rfl, J9, rfl, hJ⟩)) ?_
  rintro _ _ ⟨rfl, J, rfl, hJ⟩
  dsimp only [Option.toList, List.nil_append]
  obtain ⟨h2, s2, lt2, j13⟩ := h1.next (by rw [k67]; omega) hJ
  rw [k67] at lt2
  refine G_aload_n (pc := 36) rfl dX12_readsRule_36 ?_
  refine G_iconst (pc := 37) (v := 0) (by decide) dX12_readsRule_37 ?_
  refine G_putI (pc := 38) (ci := 12) (j := 12) rfl lq_RX12_169 rfl rfl rfl trivial dX12_readsRule_38 ?_
  have h3 := h2.op (w := 0)
  have hf3 : afr mdU I (gup J 67 12 0) := (hf1.tr (U_of s2.1) (by decide)).put (by decide)
  have e12 : gup J 67 12 0 67 12 = 0 := gup_at
  have q67 : ∀ j, j ≠ 12 → gup J 67 12 0 67 j = J 67 j := fun j hj => gup_ne (Or.inr hj)
  have q74 : ∀ j, gup J 67 12 0 74 j = I1 74 j ∨ sN I ≤ j := fun j => by
    by_cases hj : j < sN I
    · refine Or.inl ((gup_ne (Or.inl (by decide))).trans (s2.2.2.2.1 j ?_))
      unfold sN at hj
      rw [k67]
      omega
    · exact Or.inr (by omega)
  have q75 : ∀ j, gup J 67 12 0 75 j = I1 75 j := fun j => (gup_ne (Or.inl (by decide))).trans (P_75 s2 j)
  have l9 := q67 9 (by decide)
  have l13 := (q67 13 (by decide)).trans (j13.trans (k67 13))
  generalize gup J 67 12 0 = J1 at h3 hf3 e12 q67 q74 q75 l9 l13 ⊢
  have n3 : sN J1 = sN I := by
    unfold sN
    rw [l13]
  have c3 : ∀ j, j < sN I → cd J1 j = cd I j := fun j hj => by
    rcases q74 j with e | e
    · exact e.trans (k74 j)
    · omega
  refine G_aload_n (pc := 41) rfl dX12_readsRule_41 ?_
  refine G_bipush (pc := 42) (v := 9) (by decide) dX12_readsRule_42 ?_
  refine oX12_readsRule_44 (d + 22) _ [.int 9] [] J1 _ (fun r h => (r = some (.int 0) ∧ h = (SH0, RF0, J1) ∧ J1 67 10 ≠ 9) ∨ (∃ K9, r = some (.int 1) ∧ h = (SH0, RF0, K9) ∧ J1 67 10 = 9 ∧ NQ J1 K9)) 67 12 134 mX12_takes rfl List.mem_cons_self mt_X12_takes rfl ls1 ls0 (by simp) (takes_G hN (d := d + 17) h3.1 h3.2.1 (fun e => Or.inl ⟨rfl, rfl, e⟩) (fun K9 e hK => Or.inr ⟨K9, rfl, rfl, e, hK⟩)) ?_
  rintro _ _ (⟨rfl, rfl, -⟩ | ⟨K, rfl, rfl, ek, hK⟩)
  · dsimp only [Option.toList, List.cons_append, List.nil_append]
    refine G_if_eq (pc := 47) (tgt := 59) (by decide) dX12_readsRule_47 (fun _ => ?_) (fun c => absurd rfl c)
    refine rule_b hN hr8 h3 hf3 (by rw [l9]; exact lt2) (by rw [l13]; exact Int.le_refl _) hR.1 c3 (fun j hj => (q75 j).trans (k75 j hj)) ?_
    rw [n3, Nat.sub_self]
    rfl
  dsimp only [Option.toList, List.cons_append, List.nil_append]
  refine G_if_eq (pc := 47) (tgt := 59) (by decide) dX12_readsRule_47 (fun c => absurd c (by decide)) (fun _ => ?_)
  obtain ⟨h4, s4, lt4, m13⟩ := h3.next (by rw [ek]; decide) hK
  have n4 : sN K = sN I := by
    rw [← n3]
    unfold sN
    rw [m13]
  refine G_aload_n (pc := 50) rfl dX12_readsRule_50 ?_
  refine oX12_readsRule_51 (d + 22) _ [] [] K _ (RB K 2) 67 12 135 mX12_readsCondition rfl List.mem_cons_self mt_X12_readsCondition rfl ls0 ls0 (by simp) (cC_all hN 3 K 2 (d + 22) h4 (by rw [s4.2.2.2.2, e12]; rfl) (by omega)) ?_
  rintro _ _ ⟨y, K2, rfl, rfl, hf5, hi5, hy⟩
  dsimp only [Option.toList, List.cons_append, List.nil_append]
  have hf4 := hf3.tr (U_of s4.1) (by decide)
  rcases hy with rfl | ⟨rfl, h5, s5, b5⟩
  · refine G_if_ne (pc := 54) (tgt := 59) (by decide) dX12_readsRule_54 (fun c => absurd rfl c) (fun _ => ?_)
    refine G_iconst (pc := 57) (v := 0) (by decide) dX12_readsRule_57 ?_
    exact u_end (pc := 58) dX12_readsRule_58 (hf4.tr (U_of hf5) (by decide)) hi5
  refine G_if_ne (pc := 54) (tgt := 59) (by decide) dX12_readsRule_54 (fun _ => ?_) (fun c => absurd c (by decide))
  have s45 := s4.tr s5
  have hB := s5.2.1
  have hS5 := s45.2.2.1
  rw [l9] at lt4
  rw [l13] at hS5
  refine rule_b hN hr8 (h5.less (by omega)) (hf4.tr (U_of s5.1) (by decide)) (by omega) hS5 hR.1 (fun j hj => ((s45.code h3.rng.1 j (by rw [n3]; exact hj)).symm).trans (c3 j hj)) (fun j hj => (P_75 s45 j).trans ((q75 j).trans (k75 j hj))) ?_
  rw [← n4]
  exact rdn_rdr _ _ _ _ (b5.2 0)
end RR
