/-! ===== conditions, by levels ===== -/
def cC (f : Nat) : Prop := ∀ (I : gI) (p d : Nat), PS I p → (I 67 12).toInt + f = 3 → 10 + 4 * f ≤ d → gg d mX12_readsCondition 0 (gent 2 [.ref 67]) [] I (RB I p)
def cW (f : Nat) : Prop := ∀ (I : gI) (p d : Nat), PS I p → (I 67 12).toInt + f = 3 → (I 67 10).toInt ≠ -1 → 7 + 4 * f ≤ d → gg d mX12_readsWithin 0 (gent 1 [.ref 67]) [] I (RB I p)
def cO (f : Nat) : Prop := ∀ (I : gI) (p d : Nat), PS I p → (I 67 12).toInt + f = 3 → 8 + 4 * f ≤ d → gg d mX12_readsOne 0 (gent 4 [.ref 67]) [] I (RB I p)
def cA (f : Nat) : Prop := ∀ (I : gI) (p d : Nat), PS I p → (I 67 12).toInt + f = 3 → 9 + 4 * f ≤ d → gg d mX12_readsAll 0 (gent 2 [.ref 67]) [] I (RB I p)
theorem PS.op {I : gI} {p : Nat} {w : Int32} (h : PS I p) : PS (gup I 67 12 w) p := by
  have e : ∀ j, j ≠ 12 → gup I 67 12 w 67 j = I 67 j := fun j hj => gup_ne (Or.inr hj)
  obtain ⟨h1, h2, h3, h4, h5, h6, h7⟩ := h
  exact ⟨inv_put h1 (a_full (by decide +kernel)), by rw [e 8 (by decide), e 6 (by decide)]; exact h2, by rw [e 8 (by decide), e 9 (by decide)]; exact h3, by rw [e 10 (by decide), e 9 (by decide), e 8 (by decide)]; exact h4, by rw [e 10 (by decide), e 11 (by decide)]; exact h5, by rw [e 13 (by decide)]; exact h6, by rw [e 13 (by decide), e 9 (by decide)]; exact h7⟩
theorem RS.op {I K : gI} {w v : Int32} (h : RS (gup I 67 12 w) K) (hv : v = I 67 12) : RS I (gup K 67 12 v) := by
  have e : ∀ j, j ≠ 12 → gup I 67 12 w 67 j = I 67 j := fun j hj => gup_ne (Or.inr hj)
  have k : ∀ j, j ≠ 12 → gup K 67 12 v 67 j = K 67 j := fun j hj => gup_ne (Or.inr hj)
  have e7 : ∀ j, gup I 67 12 w 74 j = I 74 j := fun j => gup_ne (Or.inl (by decide))
  have k7 : ∀ j, gup K 67 12 v 74 j = K 74 j := fun j => gup_ne (Or.inl (by decide))
  obtain ⟨h1, h2, h3, h4, h5⟩ := h
  rw [e 9 (by decide)] at h2
  rw [e 13 (by decide)] at h3 h4
  refine ⟨((afr.rf.put (by decide)).tr h1 (by decide)).put (by decide), by rw [k 9 (by decide)]; exact h2, by rw [k 13 (by decide)]; exact h3, fun j hj => ?_, by rw [gup_at]; exact hv⟩
  rw [k7, h4 j hj, e7]
section RC
variable {f : Nat}
set_option maxRecDepth 100000 in
set_option maxHeartbeats 8000000 in
theorem cW_of (hN : MSok bT (fun _ => True) MT (129, 1, [(1, 67, 0), (0, 0, 17)], [], [], [(some (0, 1), [], [])])) (hC : ∀ g, f = g + 1 → cC g) : cW f := by
  intro I p d h hO hk hd
  obtain ⟨e, rfl⟩ : ∃ e, d = e + 7 := ⟨d - 7, by omega⟩
  refine G_aload_n (pc := 0) rfl dX12_readsWithin_0 ?_
  refine G_getI (pc := 1) (ci := 12) (j := 12) rfl rfl lq_RX12_169 rfl rfl dX12_readsWithin_1 ?_
  refine G_iconst (pc := 4) (v := 3) (by decide) dX12_readsWithin_4 ?_
  refine G_icmp_ne (pc := 5) (tgt := 10) (by decide) dX12_readsWithin_5 (fun c => ?_) (fun c => ?_)
  rotate_left
  · refine G_iconst (pc := 8) (v := 0) (by decide) dX12_readsWithin_8 ?_
    exact z_end (pc := 9) dX12_readsWithin_9 rfl afr.rf h.1
  have c : (I 67 12).toInt ≠ 3 := fun e => c (Int32.toInt_inj.mp e)
  obtain ⟨g, rfl⟩ : ∃ g, f = g + 1 := ⟨f - 1, by omega⟩
  have hCg := hC g rfl
  refine G_aload_n (pc := 10) rfl dX12_readsWithin_10 ?_
  refine G_dup (pc := 11) rfl dX12_readsWithin_11 ?_
  refine G_getI (pc := 12) (ci := 12) (j := 12) rfl rfl lq_RX12_169 rfl rfl dX12_readsWithin_12 ?_
  refine G_iconst (pc := 15) (v := 1) (by decide) dX12_readsWithin_15 ?_
  refine G_iadd (pc := 16) rfl dX12_readsWithin_16 ?_
  refine G_putI (pc := 17) (ci := 12) (j := 12) rfl lq_RX12_169 rfl rfl rfl trivial dX12_readsWithin_17 ?_
  have h1 := h.op (w := I 67 12 + 1)
  have ho := a_rng (I 67 12)
  unfold aLo aHi at ho
  have e12 : (gup I 67 12 (I 67 12 + 1) 67 12).toInt = (I 67 12).toInt + 1 := by
    rw [gup_at, Int32.toInt_add, show (1 : Int32).toInt = 1 from rfl, a_bm (by unfold aLo; omega) (by unfold aHi; omega)]
  have e10 : gup I 67 12 (I 67 12 + 1) 67 10 = I 67 10 := gup_ne (Or.inr (by decide))
  have eS : sN (gup I 67 12 (I 67 12 + 1)) = sN I := by
    unfold sN
    rw [gup_ne (Or.inr (by decide))]
  have eV : gup I 67 12 (I 67 12 + 1) 67 12 = I 67 12 + 1 := gup_at
  have f1 : afr mdP I (gup I 67 12 (I 67 12 + 1)) := afr.rf.put (by decide)
  have rs : ∀ (v : Int32) (K : gI), RS (gup I 67 12 (I 67 12 + 1)) K → v = I 67 12 → RS I (gup K 67 12 v) := fun v K hK hv => hK.op hv
  generalize gup I 67 12 (I 67 12 + 1) = I1 at h1 e12 e10 eS eV f1 rs ⊢
  refine G_aload_n (pc := 20) rfl dX12_readsWithin_20 ?_
  refine oX12_readsWithin_21 (e + 6) _ [] [] I1 _ (fun r h => r = none ∧ ∃ J9, h = (SH0, RF0, J9) ∧ NQ (I1) J9) 67 12 131 mX12_next rfl List.mem_cons_self mt_X12_next rfl ls0 ls0 (by simp) (next_G hN (d := e + 2) h1.1 h1.2.1 (fun J9 hJ => ⟨rfl, J9, rfl, hJ⟩)) ?_
  rintro _ _ ⟨rfl, J, rfl, hJ⟩
  dsimp only [Option.toList, List.nil_append]
  obtain ⟨h2, s2, -, j13⟩ := h1.next (by rw [e10]; exact hk) hJ
  have jS : sN J = sN I := by
    rw [← eS]
    unfold sN
    rw [j13]
  refine G_aload_n (pc := 24) rfl dX12_readsWithin_24 ?_
  refine oX12_readsWithin_25 (e + 6) _ [] [] J _ (RB J (p + 1)) 67 12 135 mX12_readsCondition rfl List.mem_cons_self mt_X12_readsCondition rfl ls0 ls0 (by simp) (hCg J (p + 1) (e + 6) h2 (by rw [s2.2.2.2.2]; omega) (by omega)) ?_
  rintro _ _ ⟨y, K, rfl, rfl, hf, hi, hy⟩
  dsimp only [Option.toList, List.cons_append, List.nil_append]
  rcases hy with rfl | ⟨rfl, h3, s3, b3⟩
  · refine G_if_eq (pc := 28) (tgt := 41) (by decide) dX12_readsWithin_28 (fun _ => ?_) (fun c => absurd rfl c)
    refine G_iconst (pc := 41) (v := 0) (by decide) dX12_readsWithin_41 ?_
    exact z_end (pc := 42) dX12_readsWithin_42 rfl ((f1.tr s2.1 (by decide)).tr hf (by decide)) hi
  refine G_if_eq (pc := 28) (tgt := 41) (by decide) dX12_readsWithin_28 (fun c => absurd c (by decide)) (fun _ => ?_)
  refine G_aload_n (pc := 31) rfl dX12_readsWithin_31 ?_
  refine G_sipush (pc := 32) (v := 241) (by decide) dX12_readsWithin_32 ?_
  refine oX12_readsWithin_35 (e + 6) _ [.int 241] [] K _ (fun r h => (r = some (.int 0) ∧ h = (SH0, RF0, K) ∧ K 67 10 ≠ 241) ∨ (∃ K9, r = some (.int 1) ∧ h = (SH0, RF0, K9) ∧ K 67 10 = 241 ∧ NQ K K9)) 67 12 134 mX12_takes rfl List.mem_cons_self mt_X12_takes rfl ls1 ls0 (by simp) (takes_G hN (d := e + 1) h3.1 h3.2.1 (fun e => Or.inl ⟨rfl, rfl, e⟩) (fun K9 e hK => Or.inr ⟨K9, rfl, rfl, e, hK⟩)) ?_
  rintro _ _ (⟨rfl, rfl, -⟩ | ⟨K2, rfl, rfl, ek, hK2⟩)
  · dsimp only [Option.toList, List.cons_append, List.nil_append]
    refine G_if_ne (pc := 38) (tgt := 43) (by decide) dX12_readsWithin_38 (fun c => absurd rfl c) (fun _ => ?_)
    refine G_iconst (pc := 41) (v := 0) (by decide) dX12_readsWithin_41 ?_
    exact z_end (pc := 42) dX12_readsWithin_42 rfl ((f1.tr s2.1 (by decide)).tr hf (by decide)) h3.1
  dsimp only [Option.toList, List.cons_append, List.nil_append]
  refine G_if_ne (pc := 38) (tgt := 43) (by decide) dX12_readsWithin_38 (fun _ => ?_) (fun c => absurd c (by decide))
  obtain ⟨h4, s4, -, k13⟩ := h3.next (by rw [ek]; decide) hK2
  have kS : sN K2 = sN K := by
    unfold sN
    rw [k13]
  refine G_aload_n (pc := 43) rfl dX12_readsWithin_43 ?_
  refine G_dup (pc := 44) rfl dX12_readsWithin_44 ?_
  refine G_getI (pc := 45) (ci := 12) (j := 12) rfl rfl lq_RX12_169 rfl rfl dX12_readsWithin_45 ?_
  refine G_iconst (pc := 48) (v := 1) (by decide) dX12_readsWithin_48 ?_
  refine G_isub (pc := 49) rfl dX12_readsWithin_49 ?_
  refine G_putI (pc := 50) (ci := 12) (j := 12) rfl lq_RX12_169 rfl rfl rfl trivial dX12_readsWithin_50 ?_
  refine G_iconst (pc := 53) (v := 1) (by decide) dX12_readsWithin_53 ?_
  have s5 := (s2.tr s3).tr s4
  have ev : K2 67 12 - 1 = I 67 12 := by
    rw [s5.2.2.2.2, eV]
    exact Int32.add_sub_cancel _ _
  have k5 : ∀ v : Int32, sN (gup K2 67 12 v) = sN K := fun v => by
    rw [← kS]
    unfold sN
    rw [gup_ne (Or.inr (by decide))]
  refine o_end (pc := 54) dX12_readsWithin_54 rfl ((h4.op).less (by omega)) (rs _ _ s5 ev) ?_
  rw [k5, ← jS]
  refine b3.eq (fun q _ hq => ?_)
  rw [s4.code h3.rng.1 q hq]
  exact (gup_ne (Or.inl (by decide))).symm
set_option maxRecDepth 100000 in
set_option maxHeartbeats 8000000 in
theorem one_b {I : gI} {p e n : Nat} (hn : n < 1000) : ∀ (g k : Nat) (J : gI), k + g = n → PS J (p + g) → RS I J → blk (cd J) (sN I) (sN J) → gg (e + 8) mX12_readsOne 41 [some (.ref 67), some (.int (Int32.ofNat n)), some (.int 1), some (.int (Int32.ofNat k))] [] J (RB I p)
  | 0, k, J, hk, h, hs, hb => by
    have ek : k = n := by omega
    subst ek
    refine G_iload_n (pc := 41) rfl dX12_readsOne_41 ?_
    refine G_iload_n (pc := 42) rfl dX12_readsOne_42 ?_
    refine G_icmp_ge (pc := 43) (tgt := 63) (by decide) dX12_readsOne_43 (fun _ => ?_) (fun c => absurd (Int32.le_refl _) c)
    refine G_iload_n (pc := 63) rfl dX12_readsOne_63 ?_
    exact o_end (pc := 64) dX12_readsOne_64 rfl h hs hb
  | g + 1, k, J, hk, h, hs, hb => by
    obtain ⟨h4, s4, e4, c4⟩ := h.laid (v := 10015)
    have hr := h.rng
    refine G_iload_n (pc := 41) rfl dX12_readsOne_41 ?_
    refine G_iload_n (pc := 42) rfl dX12_readsOne_42 ?_
    refine G_icmp_ge (pc := 43) (tgt := 63) (by decide) dX12_readsOne_43 (fun c => absurd c (by rw [n_le (by omega) (by omega)]; omega)) (fun _ => ?_)
    refine G_iload_n (pc := 46) rfl dX12_readsOne_46 ?_
    refine G_if_eq (pc := 47) (tgt := 63) (by decide) dX12_readsOne_47 (fun c => absurd c (by decide)) (fun _ => ?_)
    refine G_aload_n (pc := 50) rfl dX12_readsOne_50 ?_
    refine G_sipush (pc := 51) (v := 10015) (by decide) dX12_readsOne_51 ?_
    refine oX12_readsOne_54 (e + 7) _ [.int 10015] [] J _ (fun r h => r = none ∧ h = (SH0, RF0, lay J 10015)) 67 12 132 mX12_lays rfl List.mem_cons_self mt_X12_lays rfl ls1 ls0 (by simp) (lays_G hr.1 (by omega) ⟨rfl, rfl⟩) ?_
    rintro _ _ ⟨rfl, rfl⟩
    dsimp only [Option.toList, List.nil_append]
    refine G_iinc (pc := 57) (v := Int32.ofNat 1) n_add rfl rfl (by decide) rfl (by decide) dX12_readsOne_57 ?_
    refine G_goto (pc := 60) (tgt := 41) (by decide) dX12_readsOne_60 ?_
    refine one_b hn g (k + 1) _ (by omega) h4 (hs.tr s4) ?_
    rw [e4]
    exact (hb.eq (fun q _ hq => s4.code hr.1 q hq)).no (by rw [c4]; decide)
set_option maxRecDepth 100000 in
set_option maxHeartbeats 8000000 in
theorem one_r (hN : MSok bT (fun _ => True) MT (129, 1, [(1, 67, 0), (0, 0, 17)], [], [], [(some (0, 1), [], [])])) (hW : cW f) {I : gI} {p e n : Nat} (hd : 8 + 4 * f ≤ e + 8) (hO : (I 67 12).toInt + f = 3) (hn : n < 1000) {J : gI} (h : PS J (p + n)) (hs : RS I J) (eS : sN J = sN I) : gg (e + 8) mX12_readsOne 17 [some (.ref 67), some (.int (Int32.ofNat n)), none, none] [] J (RB I p) := by
  have fin : ∀ (r : Option Value) (h' : gH), RB J (p + n) r h' → G (e + 8) mX12_readsOne 0 0 0 0 38 [some (.ref 67), some (.int (Int32.ofNat n)), none, none] (r.toList ++ []) h'.1 h'.2.1 h'.2.2 (RB I p) := by
    rintro _ _ ⟨y, K, rfl, rfl, hf, hi, hy⟩
    dsimp only [Option.toList, List.cons_append, List.nil_append]
    refine G_istore_n (pc := 38) rfl rfl (by decide) dX12_readsOne_38 ?_
    refine G_iconst (pc := 39) (v := Int32.ofNat 0) (by decide) dX12_readsOne_39 ?_
    refine G_istore_n (pc := 40) rfl rfl (by decide) dX12_readsOne_40 ?_
    rcases hy with rfl | ⟨rfl, h3, s3, b3⟩
    · have z : gg (e + 8) mX12_readsOne 63 [some (.ref 67), some (.int (Int32.ofNat n)), some (.int 0), some (.int (Int32.ofNat 0))] [] K (RB I p) := by
        refine G_iload_n (pc := 63) rfl dX12_readsOne_63 ?_
        exact z_end (pc := 64) dX12_readsOne_64 rfl (hs.1.tr hf (by decide)) hi
      refine G_iload_n (pc := 41) rfl dX12_readsOne_41 ?_
      refine G_iload_n (pc := 42) rfl dX12_readsOne_42 ?_
      refine G_icmp_ge (pc := 43) (tgt := 63) (by decide) dX12_readsOne_43 (fun _ => z) (fun _ => ?_)
      refine G_iload_n (pc := 46) rfl dX12_readsOne_46 ?_
      exact G_if_eq (pc := 47) (tgt := 63) (by decide) dX12_readsOne_47 (fun _ => z) (fun c => absurd rfl c)
    · rw [eS] at b3
      exact one_b hn n 0 K (by omega) h3 (hs.tr s3) b3
  refine G_aload_n (pc := 17) rfl dX12_readsOne_17 ?_
  refine G_getI (pc := 18) (ci := 12) (j := 10) rfl rfl lq_RX12_139 rfl rfl dX12_readsOne_18 ?_
  refine G_sipush (pc := 21) (v := 240) (by decide) dX12_readsOne_21 ?_
  refine G_icmp_ne (pc := 24) (tgt := 34) (by decide) dX12_readsOne_24 (fun _ => ?_) (fun c => ?_)
  · refine G_aload_n (pc := 34) rfl dX12_readsOne_34 ?_
    exact oX12_readsOne_35 (e + 7) _ [] [] J _ (RB J (p + n)) 67 12 137 mX12_readsLike rfl List.mem_cons_self mt_X12_readsLike rfl ls0 ls0 (by simp) (readsLike_G (d := e + 1) hN h) fin
  · refine G_aload_n (pc := 27) rfl dX12_readsOne_27 ?_
    refine oX12_readsOne_28 (e + 7) _ [] [] J _ (RB J (p + n)) 67 12 138 mX12_readsWithin rfl List.mem_cons_self mt_X12_readsWithin rfl ls0 ls0 (by simp) (hW J (p + n) (e + 7) h (by rw [hs.2.2.2.2]; exact hO) (by rw [c]; decide) (by omega)) ?_
    intro r h' hq
    obtain ⟨y, K, rfl, rfl, hf, hi, hy⟩ := id hq
    exact G_goto (pc := 31) (tgt := 38) (by decide) dX12_readsOne_31 (fin _ _ hq)
set_option maxRecDepth 100000 in
set_option maxHeartbeats 8000000 in
theorem one_a (hN : MSok bT (fun _ => True) MT (129, 1, [(1, 67, 0), (0, 0, 17)], [], [], [(some (0, 1), [], [])])) (hW : cW f) {I : gI} {p e : Nat} (hd : 8 + 4 * f ≤ e + 8) (hO : (I 67 12).toInt + f = 3) : ∀ (g n : Nat) (J : gI), 200 ≤ (J 67 9).toInt + g → PS J (p + n) → RS I J → sN J = sN I → gg (e + 8) mX12_readsOne 2 [some (.ref 67), some (.int (Int32.ofNat n)), none, none] [] J (RB I p) := by
  intro g
  induction g with
  | zero =>
    intro n J hg h hs eS
    have hr := h.rng
    refine G_aload_n (pc := 2) rfl dX12_readsOne_2 ?_
    refine G_bipush (pc := 3) (v := 10) (by decide) dX12_readsOne_3 ?_
    refine oX12_readsOne_5 (e + 7) _ [.int 10] [] J _ (fun r h => (r = some (.int 0) ∧ h = (SH0, RF0, J) ∧ J 67 10 ≠ 10) ∨ (∃ K9, r = some (.int 1) ∧ h = (SH0, RF0, K9) ∧ J 67 10 = 10 ∧ NQ J K9)) 67 12 134 mX12_takes rfl List.mem_cons_self mt_X12_takes rfl ls1 ls0 (by simp) (takes_G hN (d := e + 2) h.1 h.2.1 (fun e => Or.inl ⟨rfl, rfl, e⟩) (fun K9 e hK => Or.inr ⟨K9, rfl, rfl, e, hK⟩)) ?_
    rintro _ _ (⟨rfl, rfl, -⟩ | ⟨K, rfl, rfl, ek, hK⟩)
    · dsimp only [Option.toList, List.cons_append, List.nil_append]
      exact G_if_eq (pc := 8) (tgt := 17) (by decide) dX12_readsOne_8 (fun _ => one_r hN hW hd hO (by omega) h hs eS) (fun c => absurd rfl c)
    · dsimp only [Option.toList, List.cons_append, List.nil_append]
      obtain ⟨h4, s4, lt, k13⟩ := h.next (by rw [ek]; decide) hK
      have hr4 := h4.rng
      omega
  | succ g ih =>
    intro n J hg h hs eS
    have hr := h.rng
    refine G_aload_n (pc := 2) rfl dX12_readsOne_2 ?_
    refine G_bipush (pc := 3) (v := 10) (by decide) dX12_readsOne_3 ?_
    refine oX12_readsOne_5 (e + 7) _ [.int 10] [] J _ (fun r h => (r = some (.int 0) ∧ h = (SH0, RF0, J) ∧ J 67 10 ≠ 10) ∨ (∃ K9, r = some (.int 1) ∧ h = (SH0, RF0, K9) ∧ J 67 10 = 10 ∧ NQ J K9)) 67 12 134 mX12_takes rfl List.mem_cons_self mt_X12_takes rfl ls1 ls0 (by simp) (takes_G hN (d := e + 2) h.1 h.2.1 (fun e => Or.inl ⟨rfl, rfl, e⟩) (fun K9 e hK => Or.inr ⟨K9, rfl, rfl, e, hK⟩)) ?_
    rintro _ _ (⟨rfl, rfl, -⟩ | ⟨K, rfl, rfl, ek, hK⟩)
    · dsimp only [Option.toList, List.cons_append, List.nil_append]
      exact G_if_eq (pc := 8) (tgt := 17) (by decide) dX12_readsOne_8 (fun _ => one_r hN hW hd hO (by omega) h hs eS) (fun c => absurd rfl c)
    · dsimp only [Option.toList, List.cons_append, List.nil_append]
      obtain ⟨h4, s4, lt, k13⟩ := h.next (by rw [ek]; decide) hK
      have hr4 := h4.rng
      refine G_if_eq (pc := 8) (tgt := 17) (by decide) dX12_readsOne_8 (fun c => absurd c (by decide)) (fun _ => ?_)
      refine G_iinc (pc := 11) (v := Int32.ofNat 1) n_add rfl rfl (by decide) rfl (by decide) dX12_readsOne_11 ?_
      refine G_goto (pc := 14) (tgt := 2) (by decide) dX12_readsOne_14 ?_
      exact ih (n + 1) K (by omega) h4 (hs.tr s4) (by rw [← eS]; unfold sN; rw [k13])
theorem cO_of (hN : MSok bT (fun _ => True) MT (129, 1, [(1, 67, 0), (0, 0, 17)], [], [], [(some (0, 1), [], [])])) (hW : cW f) : cO f := by
  intro I p d h hO hd
  obtain ⟨e, rfl⟩ : ∃ e, d = e + 8 := ⟨d - 8, by omega⟩
  have h9 := ain_of h.1 (show bnd bT 67 9 = (0, 200) by decide +kernel)
  dsimp only at h9
  refine G_iconst (pc := 0) (v := Int32.ofNat 0) (by decide) dX12_readsOne_0 ?_
  refine G_istore_n (pc := 1) rfl rfl (by decide) dX12_readsOne_1 ?_
  exact one_a hN hW hd hO 200 0 I (by omega) h RS.rf rfl
set_option maxRecDepth 100000 in
set_option maxHeartbeats 8000000 in
theorem all_l (hN : MSok bT (fun _ => True) MT (129, 1, [(1, 67, 0), (0, 0, 17)], [], [], [(some (0, 1), [], [])])) (hA : cO f) {I : gI} {p e : Nat} (hd : 9 + 4 * f ≤ e + 9) (hO : (I 67 12).toInt + f = 3) : ∀ (g : Nat) (J : gI), 200 ≤ (J 67 9).toInt + g → PS J p → RS I J → blk (cd J) (sN I) (sN J) → gg (e + 9) mX12_readsAll 5 [some (.ref 67), some (.int 1)] [] J (RB I p) := by
  intro g
  induction g with
  | zero =>
    intro J hg h hs hb
    have hr := h.rng
    refine G_iload_n (pc := 5) rfl dX12_readsAll_5 ?_
    refine G_if_eq (pc := 6) (tgt := 37) (by decide) dX12_readsAll_6 (fun c => absurd c (by decide)) (fun _ => ?_)
    refine G_aload_n (pc := 9) rfl dX12_readsAll_9 ?_
    refine G_bipush (pc := 10) (v := 11) (by decide) dX12_readsAll_10 ?_
    refine oX12_readsAll_12 (e + 8) _ [.int 11] [] J _ (fun r h => (r = some (.int 0) ∧ h = (SH0, RF0, J) ∧ J 67 10 ≠ 11) ∨ (∃ K9, r = some (.int 1) ∧ h = (SH0, RF0, K9) ∧ J 67 10 = 11 ∧ NQ J K9)) 67 12 134 mX12_takes rfl List.mem_cons_self mt_X12_takes rfl ls1 ls0 (by simp) (takes_G hN (d := e + 3) h.1 h.2.1 (fun e => Or.inl ⟨rfl, rfl, e⟩) (fun K9 e hK => Or.inr ⟨K9, rfl, rfl, e, hK⟩)) ?_
    rintro _ _ (⟨rfl, rfl, -⟩ | ⟨K, rfl, rfl, ek, hK⟩)
    · dsimp only [Option.toList, List.cons_append, List.nil_append]
      refine G_if_eq (pc := 15) (tgt := 37) (by decide) dX12_readsAll_15 (fun _ => ?_) (fun c => absurd rfl c)
      refine G_iload_n (pc := 37) rfl dX12_readsAll_37 ?_
      exact o_end (pc := 38) dX12_readsAll_38 rfl h hs hb
    · dsimp only [Option.toList, List.cons_append, List.nil_append]
      obtain ⟨h4, s4, lt, k13⟩ := h.next (by rw [ek]; decide) hK
      have hr4 := h4.rng
      omega
  | succ g ih =>
    intro J hg h hs hb
    have hr := h.rng
    refine G_iload_n (pc := 5) rfl dX12_readsAll_5 ?_
    refine G_if_eq (pc := 6) (tgt := 37) (by decide) dX12_readsAll_6 (fun c => absurd c (by decide)) (fun _ => ?_)
    refine G_aload_n (pc := 9) rfl dX12_readsAll_9 ?_
    refine G_bipush (pc := 10) (v := 11) (by decide) dX12_readsAll_10 ?_
    refine oX12_readsAll_12 (e + 8) _ [.int 11] [] J _ (fun r h => (r = some (.int 0) ∧ h = (SH0, RF0, J) ∧ J 67 10 ≠ 11) ∨ (∃ K9, r = some (.int 1) ∧ h = (SH0, RF0, K9) ∧ J 67 10 = 11 ∧ NQ J K9)) 67 12 134 mX12_takes rfl List.mem_cons_self mt_X12_takes rfl ls1 ls0 (by simp) (takes_G hN (d := e + 3) h.1 h.2.1 (fun e => Or.inl ⟨rfl, rfl, e⟩) (fun K9 e hK => Or.inr ⟨K9, rfl, rfl, e, hK⟩)) ?_
    rintro _ _ (⟨rfl, rfl, -⟩ | ⟨K, rfl, rfl, ek, hK⟩)
    · dsimp only [Option.toList, List.cons_append, List.nil_append]
      refine G_if_eq (pc := 15) (tgt := 37) (by decide) dX12_readsAll_15 (fun _ => ?_) (fun c => absurd rfl c)
      refine G_iload_n (pc := 37) rfl dX12_readsAll_37 ?_
      exact o_end (pc := 38) dX12_readsAll_38 rfl h hs hb
    · dsimp only [Option.toList, List.cons_append, List.nil_append]
      obtain ⟨h4, s4, lt, k13⟩ := h.next (by rw [ek]; decide) hK
      have hr4 := h4.rng
      have kS : sN K = sN J := by
        unfold sN
        rw [k13]
      refine G_if_eq (pc := 15) (tgt := 37) (by decide) dX12_readsAll_15 (fun c => absurd c (by decide)) (fun _ => ?_)
      refine G_aload_n (pc := 18) rfl dX12_readsAll_18 ?_
      refine oX12_readsAll_19 (e + 8) _ [] [] K _ (RB K (p + 1)) 67 12 136 mX12_readsOne rfl List.mem_cons_self mt_X12_readsOne rfl ls0 ls0 (by simp) (hA K (p + 1) (e + 8) h4 (by rw [s4.2.2.2.2, hs.2.2.2.2]; exact hO) (by omega)) ?_
      rintro _ _ ⟨y, K2, rfl, rfl, hf2, hi2, hy⟩
      dsimp only [Option.toList, List.cons_append, List.nil_append]
      refine G_istore_n (pc := 22) rfl rfl (by decide) dX12_readsAll_22 ?_
      refine G_iload_n (pc := 23) rfl dX12_readsAll_23 ?_
      rcases hy with rfl | ⟨rfl, h5, s5, b5⟩
      · refine G_if_eq (pc := 24) (tgt := 5) (by decide) dX12_readsAll_24 (fun _ => ?_) (fun c => absurd rfl c)
        refine G_iload_n (pc := 5) rfl dX12_readsAll_5 ?_
        refine G_if_eq (pc := 6) (tgt := 37) (by decide) dX12_readsAll_6 (fun _ => ?_) (fun c => absurd rfl c)
        refine G_iload_n (pc := 37) rfl dX12_readsAll_37 ?_
        exact z_end (pc := 38) dX12_readsAll_38 rfl ((hs.1.tr s4.1 (by decide)).tr hf2 (by decide)) hi2
      · refine G_if_eq (pc := 24) (tgt := 5) (by decide) dX12_readsAll_24 (fun c => absurd c (by decide)) (fun _ => ?_)
        obtain ⟨h6, s6, e6, c6⟩ := h5.laid (v := 10013)
        have hr5 := h5.rng
        refine G_aload_n (pc := 27) rfl dX12_readsAll_27 ?_
        refine G_sipush (pc := 28) (v := 10013) (by decide) dX12_readsAll_28 ?_
        refine oX12_readsAll_31 (e + 8) _ [.int 10013] [] K2 _ (fun r h => r = none ∧ h = (SH0, RF0, lay K2 10013)) 67 12 132 mX12_lays rfl List.mem_cons_self mt_X12_lays rfl ls1 ls0 (by simp) (lays_G hr5.1 (by omega) ⟨rfl, rfl⟩) ?_
        rintro _ _ ⟨rfl, rfl⟩
        dsimp only [Option.toList, List.nil_append]
        refine G_goto (pc := 34) (tgt := 5) (by decide) dX12_readsAll_34 ?_
        have hB5 := s5.2.1
        have hB6 := s6.2.1
        refine ih _ (by omega) h6 (((hs.tr s4).tr s5).tr s6) ?_
        rw [e6]
        have b1 : blk (cd (lay K2 10013)) (sN I) (sN J) := hb.eq (fun q _ hq => ((s4.tr s5).tr s6).code hr.1 q hq)
        have b2 : blk (cd (lay K2 10013)) (sN J) (sN K2) := by
          rw [← kS]
          exact b5.eq (fun q _ hq => s6.code hr5.1 q hq)
        exact b1.join b2 (by rw [c6]; decide) (by rw [c6]; decide)
set_option maxRecDepth 100000 in
set_option maxHeartbeats 8000000 in
theorem cA_of (hN : MSok bT (fun _ => True) MT (129, 1, [(1, 67, 0), (0, 0, 17)], [], [], [(some (0, 1), [], [])])) (hA : cO f) : cA f := by
  intro I p d h hO hd
  obtain ⟨e, rfl⟩ : ∃ e, d = e + 9 := ⟨d - 9, by omega⟩
  have hr := h.rng
  refine G_aload_n (pc := 0) rfl dX12_readsAll_0 ?_
  refine oX12_readsAll_1 (e + 8) _ [] [] I _ (RB I p) 67 12 136 mX12_readsOne rfl List.mem_cons_self mt_X12_readsOne rfl ls0 ls0 (by simp) (hA I p (e + 8) h hO (by omega)) ?_
  rintro _ _ ⟨y, J, rfl, rfl, hf, hi, hy⟩
  dsimp only [Option.toList, List.cons_append, List.nil_append]
  refine G_istore_n (pc := 4) rfl rfl (by decide) dX12_readsAll_4 ?_
  rcases hy with rfl | ⟨rfl, h1, s1, b1⟩
  · refine G_iload_n (pc := 5) rfl dX12_readsAll_5 ?_
    refine G_if_eq (pc := 6) (tgt := 37) (by decide) dX12_readsAll_6 (fun _ => ?_) (fun c => absurd rfl c)
    refine G_iload_n (pc := 37) rfl dX12_readsAll_37 ?_
    exact z_end (pc := 38) dX12_readsAll_38 rfl hf hi
  · have h9 := ain_of h1.1 (show bnd bT 67 9 = (0, 200) by decide +kernel)
    dsimp only at h9
    exact all_l hN hA hd hO 200 J (by omega) h1 s1 b1
set_option maxRecDepth 100000 in
set_option maxHeartbeats 8000000 in
theorem con_l (hN : MSok bT (fun _ => True) MT (129, 1, [(1, 67, 0), (0, 0, 17)], [], [], [(some (0, 1), [], [])])) (hA : cA f) {I : gI} {p e : Nat} (hd : 10 + 4 * f ≤ e + 10) (hO : (I 67 12).toInt + f = 3) : ∀ (g : Nat) (J : gI), 200 ≤ (J 67 9).toInt + g → PS J p → RS I J → blk (cd J) (sN I) (sN J) → gg (e + 10) mX12_readsCondition 5 [some (.ref 67), some (.int 1)] [] J (RB I p) := by
  intro g
  induction g with
  | zero =>
    intro J hg h hs hb
    have hr := h.rng
    refine G_iload_n (pc := 5) rfl dX12_readsCondition_5 ?_
    refine G_if_eq (pc := 6) (tgt := 37) (by decide) dX12_readsCondition_6 (fun c => absurd c (by decide)) (fun _ => ?_)
    refine G_aload_n (pc := 9) rfl dX12_readsCondition_9 ?_
    refine G_bipush (pc := 10) (v := 12) (by decide) dX12_readsCondition_10 ?_
    refine oX12_readsCondition_12 (e + 9) _ [.int 12] [] J _ (fun r h => (r = some (.int 0) ∧ h = (SH0, RF0, J) ∧ J 67 10 ≠ 12) ∨ (∃ K9, r = some (.int 1) ∧ h = (SH0, RF0, K9) ∧ J 67 10 = 12 ∧ NQ J K9)) 67 12 134 mX12_takes rfl List.mem_cons_self mt_X12_takes rfl ls1 ls0 (by simp) (takes_G hN (d := e + 4) h.1 h.2.1 (fun e => Or.inl ⟨rfl, rfl, e⟩) (fun K9 e hK => Or.inr ⟨K9, rfl, rfl, e, hK⟩)) ?_
    rintro _ _ (⟨rfl, rfl, -⟩ | ⟨K, rfl, rfl, ek, hK⟩)
    · dsimp only [Option.toList, List.cons_append, List.nil_append]
      refine G_if_eq (pc := 15) (tgt := 37) (by decide) dX12_readsCondition_15 (fun _ => ?_) (fun c => absurd rfl c)
      refine G_iload_n (pc := 37) rfl dX12_readsCondition_37 ?_
      exact o_end (pc := 38) dX12_readsCondition_38 rfl h hs hb
    · dsimp only [Option.toList, List.cons_append, List.nil_append]
      obtain ⟨h4, s4, lt, k13⟩ := h.next (by rw [ek]; decide) hK
      have hr4 := h4.rng
      omega
  | succ g ih =>
    intro J hg h hs hb
    have hr := h.rng
    refine G_iload_n (pc := 5) rfl dX12_readsCondition_5 ?_
    refine G_if_eq (pc := 6) (tgt := 37) (by decide) dX12_readsCondition_6 (fun c => absurd c (by decide)) (fun _ => ?_)
    refine G_aload_n (pc := 9) rfl dX12_readsCondition_9 ?_
    refine G_bipush (pc := 10) (v := 12) (by decide) dX12_readsCondition_10 ?_
    refine oX12_readsCondition_12 (e + 9) _ [.int 12] [] J _ (fun r h => (r = some (.int 0) ∧ h = (SH0, RF0, J) ∧ J 67 10 ≠ 12) ∨ (∃ K9, r = some (.int 1) ∧ h = (SH0, RF0, K9) ∧ J 67 10 = 12 ∧ NQ J K9)) 67 12 134 mX12_takes rfl List.mem_cons_self mt_X12_takes rfl ls1 ls0 (by simp) (takes_G hN (d := e + 4) h.1 h.2.1 (fun e => Or.inl ⟨rfl, rfl, e⟩) (fun K9 e hK => Or.inr ⟨K9, rfl, rfl, e, hK⟩)) ?_
    rintro _ _ (⟨rfl, rfl, -⟩ | ⟨K, rfl, rfl, ek, hK⟩)
    · dsimp only [Option.toList, List.cons_append, List.nil_append]
      refine G_if_eq (pc := 15) (tgt := 37) (by decide) dX12_readsCondition_15 (fun _ => ?_) (fun c => absurd rfl c)
      refine G_iload_n (pc := 37) rfl dX12_readsCondition_37 ?_
      exact o_end (pc := 38) dX12_readsCondition_38 rfl h hs hb
    · dsimp only [Option.toList, List.cons_append, List.nil_append]
      obtain ⟨h4, s4, lt, k13⟩ := h.next (by rw [ek]; decide) hK
      have hr4 := h4.rng
      have kS : sN K = sN J := by
        unfold sN
        rw [k13]
      refine G_if_eq (pc := 15) (tgt := 37) (by decide) dX12_readsCondition_15 (fun c => absurd c (by decide)) (fun _ => ?_)
      refine G_aload_n (pc := 18) rfl dX12_readsCondition_18 ?_
      refine oX12_readsCondition_19 (e + 9) _ [] [] K _ (RB K (p + 1)) 67 12 139 mX12_readsAll rfl List.mem_cons_self mt_X12_readsAll rfl ls0 ls0 (by simp) (hA K (p + 1) (e + 9) h4 (by rw [s4.2.2.2.2, hs.2.2.2.2]; exact hO) (by omega)) ?_
      rintro _ _ ⟨y, K2, rfl, rfl, hf2, hi2, hy⟩
      dsimp only [Option.toList, List.cons_append, List.nil_append]
      refine G_istore_n (pc := 22) rfl rfl (by decide) dX12_readsCondition_22 ?_
      refine G_iload_n (pc := 23) rfl dX12_readsCondition_23 ?_
      rcases hy with rfl | ⟨rfl, h5, s5, b5⟩
      · refine G_if_eq (pc := 24) (tgt := 5) (by decide) dX12_readsCondition_24 (fun _ => ?_) (fun c => absurd rfl c)
        refine G_iload_n (pc := 5) rfl dX12_readsCondition_5 ?_
        refine G_if_eq (pc := 6) (tgt := 37) (by decide) dX12_readsCondition_6 (fun _ => ?_) (fun c => absurd rfl c)
        refine G_iload_n (pc := 37) rfl dX12_readsCondition_37 ?_
        exact z_end (pc := 38) dX12_readsCondition_38 rfl ((hs.1.tr s4.1 (by decide)).tr hf2 (by decide)) hi2
      · refine G_if_eq (pc := 24) (tgt := 5) (by decide) dX12_readsCondition_24 (fun c => absurd c (by decide)) (fun _ => ?_)
        obtain ⟨h6, s6, e6, c6⟩ := h5.laid (v := 10014)
        have hr5 := h5.rng
        refine G_aload_n (pc := 27) rfl dX12_readsCondition_27 ?_
        refine G_sipush (pc := 28) (v := 10014) (by decide) dX12_readsCondition_28 ?_
        refine oX12_readsCondition_31 (e + 9) _ [.int 10014] [] K2 _ (fun r h => r = none ∧ h = (SH0, RF0, lay K2 10014)) 67 12 132 mX12_lays rfl List.mem_cons_self mt_X12_lays rfl ls1 ls0 (by simp) (lays_G hr5.1 (by omega) ⟨rfl, rfl⟩) ?_
        rintro _ _ ⟨rfl, rfl⟩
        dsimp only [Option.toList, List.nil_append]
        refine G_goto (pc := 34) (tgt := 5) (by decide) dX12_readsCondition_34 ?_
        have hB5 := s5.2.1
        have hB6 := s6.2.1
        refine ih _ (by omega) h6 (((hs.tr s4).tr s5).tr s6) ?_
        rw [e6]
        have b1 : blk (cd (lay K2 10014)) (sN I) (sN J) := hb.eq (fun q _ hq => ((s4.tr s5).tr s6).code hr.1 q hq)
        have b2 : blk (cd (lay K2 10014)) (sN J) (sN K2) := by
          rw [← kS]
          exact b5.eq (fun q _ hq => s6.code hr5.1 q hq)
        exact b1.join b2 (by rw [c6]; decide) (by rw [c6]; decide)
set_option maxRecDepth 100000 in
set_option maxHeartbeats 8000000 in
theorem cC_of (hN : MSok bT (fun _ => True) MT (129, 1, [(1, 67, 0), (0, 0, 17)], [], [], [(some (0, 1), [], [])])) (hA : cA f) : cC f := by
  intro I p d h hO hd
  obtain ⟨e, rfl⟩ : ∃ e, d = e + 10 := ⟨d - 10, by omega⟩
  have hr := h.rng
  refine G_aload_n (pc := 0) rfl dX12_readsCondition_0 ?_
  refine oX12_readsCondition_1 (e + 9) _ [] [] I _ (RB I p) 67 12 139 mX12_readsAll rfl List.mem_cons_self mt_X12_readsAll rfl ls0 ls0 (by simp) (hA I p (e + 9) h hO (by omega)) ?_
  rintro _ _ ⟨y, J, rfl, rfl, hf, hi, hy⟩
  dsimp only [Option.toList, List.cons_append, List.nil_append]
  refine G_istore_n (pc := 4) rfl rfl (by decide) dX12_readsCondition_4 ?_
  rcases hy with rfl | ⟨rfl, h1, s1, b1⟩
  · refine G_iload_n (pc := 5) rfl dX12_readsCondition_5 ?_
    refine G_if_eq (pc := 6) (tgt := 37) (by decide) dX12_readsCondition_6 (fun _ => ?_) (fun c => absurd rfl c)
    refine G_iload_n (pc := 37) rfl dX12_readsCondition_37 ?_
    exact z_end (pc := 38) dX12_readsCondition_38 rfl hf hi
  · have h9 := ain_of h1.1 (show bnd bT 67 9 = (0, 200) by decide +kernel)
    dsimp only at h9
    exact con_l hN hA hd hO 200 J (by omega) h1 s1 b1
end RC
theorem cC_all (hN : MSok bT (fun _ => True) MT (129, 1, [(1, 67, 0), (0, 0, 17)], [], [], [(some (0, 1), [], [])])) : ∀ f, cC f
  | 0 => cC_of hN (cA_of hN (cO_of hN (cW_of hN (fun g hg => absurd hg (by omega)))))
  | f + 1 => cC_of hN (cA_of hN (cO_of hN (cW_of hN (fun g hg => by
    have e : g = f := by omega
    subst e
    exact cC_all hN g))))
