set_option maxRecDepth 16384 in
/-! ===== the reference's reader: next, takes, lays ===== -/
def NQ (I J : gI) : Prop := afr mdX I J ∧ aInv bT J ∧ (I 67 8).toInt ≤ (J 67 9).toInt ∧ (J 67 9).toInt ≤ (J 67 8).toInt ∧ (J 67 8).toInt ≤ (I 67 6).toInt ∧ ((J 67 10).toInt = -1 ∨ (J 67 9).toInt < (J 67 8).toInt) ∧ ((J 67 10).toInt = 100 → 0 ≤ (J 67 11).toInt ∧ (J 67 11).toInt ≤ 9999) ∧ nxB (bN I) (I 67 8).toInt.toNat = ((J 67 10).toInt, (J 67 9).toInt.toNat, (J 67 8).toInt.toNat)
set_option maxRecDepth 16384 in
theorem bA_le {I : gI} {x : Int32} (hi : aInv bT I) (hx : 0 ≤ x.toInt) : (bA I x).toInt ≤ 255 := by
  have hz := ain_of hi (show bnd bT 67 6 = (0, 200) by decide +kernel)
  dsimp only at hz
  unfold bA
  split
  next h =>
    have h1 := hi 72 x.toInt.toNat
    have e2 : bnd bT 72 x.toInt.toNat = (0, 255) := by
      show bseg (bT.getD 72 []) _ = _
      rw [show bT.getD 72 [] = [(199, 0, 255)] by decide +kernel]
      show (if _ ≤ 199 then _ else _) = _
      rw [if_pos (by omega)]
    rw [e2] at h1
    exact h1.2
  next => decide
section RE
variable {d : Nat} {Q : Option Value → gH → Prop}
set_option maxRecDepth 16384 in
/-- the end of next, by what stands there -/
theorem NQ_of {I K : gI} {a b e : Nat} {mt : Int} (hf : afr mdX I K) (hi : aInv bT K) (ha : (I 67 8).toInt = a) (h9 : (K 67 9).toInt = b) (h8 : (K 67 8).toInt = e) (h10 : (K 67 10).toInt = mt) (hx : nxB (bN I) a = (mt, b, e)) (h1 : a ≤ b) (h2 : b ≤ e) (h3 : (e : Int) ≤ (I 67 6).toInt) (h4 : mt = -1 ∨ b < e) (h5 : mt = 100 → 0 ≤ (K 67 11).toInt ∧ (K 67 11).toInt ≤ 9999) : NQ I K := by
  refine ⟨hf, hi, by omega, by omega, by omega, ?_, fun h => h5 (by omega), ?_⟩
  · rcases h4 with h4 | h4
    · exact Or.inl (by omega)
    · exact Or.inr (by omega)
  · rw [ha, h10, h9, h8, Int.toNat_natCast, Int.toNat_natCast, Int.toNat_natCast]
    exact hx
set_option maxRecDepth 100000 in
set_option maxHeartbeats 8000000 in
theorem nx_skip {H : gI} {a0 : Nat} (hi : aInv bT H) (kk : gg (d + 4) mX12_next 26 [some (.ref 67), none] [] (gup H 67 8 (Int32.ofNat (sk isSp (bN H) a0))) Q) : ∀ (g a : Nat), 200 ≤ a + g → a ≤ 200 → sk isSp (bN H) a = sk isSp (bN H) a0 → gg (d + 4) mX12_next 0 [some (.ref 67), none] [] (gup H 67 8 (Int32.ofNat (a))) Q := by
  have k32 : (32 : Int32).toInt = 32 := rfl
  intro g
  induction g with
  | zero =>
    intro a hg ha hs
    refine G_aload_n (pc := 0) rfl dX12_next_0 ?_
    refine G_aload_n (pc := 1) rfl dX12_next_1 ?_
    refine G_getI (pc := 2) (ci := 12) (j := 8) gup_at rfl lq_RX12_130 rfl rfl dX12_next_2 ?_
    refine oX12_next_5 _ _ [.int _] [] (gup H 67 8 (Int32.ofNat a)) _ _ 67 12 126 mX12_byteAt rfl List.mem_cons_self mt_X12_byteAt rfl (lsi ls0) ls0 (by simp) (byteAt_G (by rw [n_int (by omega)]; omega) (inv_at (Or.inl rfl) hi (by rw [n_int (by omega)]; omega) (by rw [n_int (by omega)]; omega)) ?_) (fun _ _ h => h)
    dsimp only [Option.toList, List.cons_append, List.nil_append]
    have hc : (bA (gup H 67 8 (Int32.ofNat a)) (Int32.ofNat a)).toInt = bN H a := by rw [bA_bN (by omega), bN_67 (by decide)]
    generalize bA (gup H 67 8 (Int32.ofNat a)) (Int32.ofNat a) = c at hc ⊢
    refine G_bipush (pc := 8) (v := 32) (by decide) dX12_next_8 ?_
    refine oX12_next_10 _ _ _ _ _ _ _ (fun c10 => ?_) (fun c10 => ?_)
    · simp only [crel, ne_eq, Classical.not_not] at c10
      have hl : isSp (bN H a) = false := decide_eq_false (by rw [← hc]; exact c10)
      rw [sk_stop hl] at hs
      rw [← hs] at kk
      exact kk
    · simp only [crel, ne_eq, Classical.not_not] at c10
      have hl : isSp (bN H a) = true := decide_eq_true (by rw [← hc]; exact c10)
      have a2 : a < 200 := by
        by_cases e : a < 200
        · exact e
        · rw [okB_sp (okB_of hi) a (by omega)] at hl
          cases hl
      omega
  | succ g ih =>
    intro a hg ha hs
    refine G_aload_n (pc := 0) rfl dX12_next_0 ?_
    refine G_aload_n (pc := 1) rfl dX12_next_1 ?_
    refine G_getI (pc := 2) (ci := 12) (j := 8) gup_at rfl lq_RX12_130 rfl rfl dX12_next_2 ?_
    refine oX12_next_5 _ _ [.int _] [] (gup H 67 8 (Int32.ofNat a)) _ _ 67 12 126 mX12_byteAt rfl List.mem_cons_self mt_X12_byteAt rfl (lsi ls0) ls0 (by simp) (byteAt_G (by rw [n_int (by omega)]; omega) (inv_at (Or.inl rfl) hi (by rw [n_int (by omega)]; omega) (by rw [n_int (by omega)]; omega)) ?_) (fun _ _ h => h)
    dsimp only [Option.toList, List.cons_append, List.nil_append]
    have hc : (bA (gup H 67 8 (Int32.ofNat a)) (Int32.ofNat a)).toInt = bN H a := by rw [bA_bN (by omega), bN_67 (by decide)]
    generalize bA (gup H 67 8 (Int32.ofNat a)) (Int32.ofNat a) = c at hc ⊢
    refine G_bipush (pc := 8) (v := 32) (by decide) dX12_next_8 ?_
    refine oX12_next_10 _ _ _ _ _ _ _ (fun c10 => ?_) (fun c10 => ?_)
    · simp only [crel, ne_eq, Classical.not_not] at c10
      have hl : isSp (bN H a) = false := decide_eq_false (by rw [← hc]; exact c10)
      rw [sk_stop hl] at hs
      rw [← hs] at kk
      exact kk
    · simp only [crel, ne_eq, Classical.not_not] at c10
      have hl : isSp (bN H a) = true := decide_eq_true (by rw [← hc]; exact c10)
      have a2 : a < 200 := by
        by_cases e : a < 200
        · exact e
        · rw [okB_sp (okB_of hi) a (by omega)] at hl
          cases hl
      refine G_aload_n (pc := 13) rfl dX12_next_13 ?_
      refine G_dup (pc := 14) rfl dX12_next_14 ?_
      refine G_getI (pc := 15) (ci := 12) (j := 8) gup_at rfl lq_RX12_130 rfl rfl dX12_next_15 ?_
      refine G_iconst (pc := 18) (v := 1) (by decide) dX12_next_18 ?_
      refine G_iadd (pc := 19) n_add1 dX12_next_19 ?_
      refine G_putI (pc := 20) (ci := 12) (j := 8) rfl lq_RX12_130 rfl rfl rfl trivial dX12_next_20 ?_
      rw [gup_up]
      refine G_goto (pc := 23) (tgt := 0) (by decide) dX12_next_23 ?_
      exact ih (a + 1) (by omega) (by omega) (by rw [← sk_go (okB_sp (okB_of hi)) hl]; exact hs)
set_option maxRecDepth 100000 in
set_option maxHeartbeats 8000000 in
theorem nx_tail {I H : gI} {a b : Nat} (hi : aInv bT I) (hH : H = gup (gup I 67 8 (Int32.ofNat (b))) 67 9 (Int32.ofNat b)) (ha : (I 67 8).toInt = a) (hbd : b = sk isSp (bN I) a) (hab : a ≤ b) (hb : (b : Int) ≤ (I 67 6).toInt) (hQ : ∀ J, NQ I J → Q none (SH0, RF0, J)) : gg (d + 4) mX12_next 34 [some (.ref 67), none] [] H Q := by
  have hz := ain_of hi (show bnd bT 67 6 = (0, 200) by decide +kernel)
  dsimp only at hz
  have okI := okB_of hi
  have h8 : H 67 8 = Int32.ofNat b := by rw [hH, gup_ne (Or.inr (by decide)), gup_at]
  have h9 : H 67 9 = Int32.ofNat b := by rw [hH, gup_at]
  have e6 : H 67 6 = I 67 6 := by rw [hH, gup_ne (Or.inr (by decide)), gup_ne (Or.inr (by decide))]
  have eB : bN H = bN I := by rw [hH, bN_67 (by decide), bN_67 (by decide)]
  have hfH : afr mdX I H := by rw [hH]; exact (afr.rf.put (mdX_at (by decide))).put (mdX_at (by decide))
  have hiH : aInv bT H := by rw [hH]; exact inv_at (Or.inr rfl) (inv_at (Or.inl rfl) hi (by rw [n_int (by omega)]; omega) (by rw [n_int (by omega)]; omega)) (by rw [n_int (by omega)]; omega) (by rw [n_int (by omega)]; omega)
  clear hH
  refine G_aload_n (pc := 34) rfl dX12_next_34 ?_
  refine G_aload_n (pc := 35) rfl dX12_next_35 ?_
  refine G_getI (pc := 36) (ci := 12) (j := 8) h8 rfl lq_RX12_130 rfl rfl dX12_next_36 ?_
  refine oX12_next_39 (d + 3) _ [.int _] [] H _ _ 67 12 126 mX12_byteAt rfl List.mem_cons_self mt_X12_byteAt rfl (lsi ls0) ls0 (by simp) (byteAt_G (by rw [n_int (by omega)]; omega) hiH ?_) (fun _ _ h => h)
  dsimp only [Option.toList, List.cons_append, List.nil_append]
  have hc : (bA H (Int32.ofNat b)).toInt = bN I b := by rw [bA_bN (by omega), eB]
  generalize bA H (Int32.ofNat b) = c at hc ⊢
  have hx : nxB (bN I) a = (if bN I b < 0 then (-1, b, b) else if isLt (bN I b) = true then (wdR (bN I) b (sk isLt (bN I) b), b, sk isLt (bN I) b) else if isDg (bN I b) = true then (if b + 4 < sk isDg (bN I) b then 101 else 100, b, sk isDg (bN I) b) else (200 + bN I b, b, b + 1)) := by rw [hbd]; rfl
  refine G_istore_n (pc := 42) rfl rfl (by decide) dX12_next_42 ?_
  refine G_iload_n (pc := 43) rfl dX12_next_43 ?_
  refine oX12_next_44 _ _ _ _ _ _ (fun c44 => ?_) (fun c44 => ?_)
  · simp only [crel, ne_eq, Classical.not_not] at c44
    have c44 : (0 : Int) ≤ c.toInt := c44
    rw [if_neg (by omega)] at hx
    have hlt := bN_lt (I := I) (j := b) (by omega)
    refine G_iload_n (pc := 55) rfl dX12_next_55 ?_
    refine G_bipush (pc := 56) (v := 97) (by decide) dX12_next_56 ?_
    refine G_bipush (pc := 58) (v := 122) (by decide) dX12_next_58 ?_
    refine oX12_next_60 (d + 3) _ [.int _, .int _, .int _] [] H _ _ mX12_in1 mt_X12_in1 rfl (lsi (lsi (lsi ls0))) ls0 (by simp) (in1_G (fun p q => ?_) (fun p => ?_)) (fun _ _ h => h)
    · dsimp only [Option.toList, List.cons_append, List.nil_append]
      have p : (97 : Int) ≤ c.toInt := p
      have q : c.toInt ≤ (122 : Int) := q
      have hl : isLt (bN I b) = true := by rw [← hc]; exact lt_t p q
      rw [if_pos hl] at hx
      refine oX12_next_63 _ _ _ _ _ _ (fun c => absurd c (eqz (by decide))) (fun _ => ?_)
      refine G_aload_n (pc := 66) rfl dX12_next_66 ?_
      refine oX12_next_67 (d + 3) _ [] [] H _ _ 67 12 128 mX12_readsName rfl List.mem_cons_self mt_X12_readsName rfl ls0 ls0 (by simp) (readsName_N (d := d + 1) (b := b) hiH h8 h9 (by rw [e6]; omega) (fun t ht => ?_)) (fun _ _ h => h)
      dsimp only [Option.toList, List.cons_append, List.nil_append]
      rw [eB] at ht ⊢
      have hge := sk_go (okB_lt okI) hl
      have hge2 := sk_ge (P := isLt) (B := bN I) (a := b + 1)
      have hle := sk_le (P := isLt) (I := I) rfl (a := b) (by omega)
      have hrg := (wd_cm (B := bN I) (b := b) (e := sk isLt (bN I) b)).2
      refine G_goto (pc := 70) (tgt := 110) (by decide) dX12_next_70 ?_
      exact oX12_next_110 _ _ _ _ (hQ _ (NQ_of ((hfH.put (mdX_at (by decide))).put (mdX_at (by decide))) (inv_put (inv_at (Or.inl rfl) hiH (by rw [n_int (by omega)]; omega) (by rw [n_int (by omega)]; omega)) (a_full (by decide +kernel))) ha (by rw [gup_ne (Or.inr (by decide)), gup_ne (Or.inr (by decide)), h9, n_int (by omega)]) (by rw [gup_ne (Or.inr (by decide)), gup_at, n_int (by omega)]) (by rw [gup_at]; exact ht) hx hab (by omega) (by omega) (Or.inr (by omega)) (fun h => absurd h (by omega))))
    · dsimp only [Option.toList, List.cons_append, List.nil_append]
      have p : ¬ ((97 : Int) ≤ c.toInt ∧ c.toInt ≤ (122 : Int)) := p
      have hl : isLt (bN I b) = false := by rw [← hc]; exact lt_f p
      rw [if_neg (by rw [hl]; decide)] at hx
      refine oX12_next_63 _ _ _ _ _ _ (fun _ => ?_) (fun c => absurd rfl c)
      refine G_iload_n (pc := 73) rfl dX12_next_73 ?_
      refine G_bipush (pc := 74) (v := 48) (by decide) dX12_next_74 ?_
      refine G_bipush (pc := 76) (v := 57) (by decide) dX12_next_76 ?_
      refine oX12_next_78 (d + 3) _ [.int _, .int _, .int _] [] H _ _ mX12_in1 mt_X12_in1 rfl (lsi (lsi (lsi ls0))) ls0 (by simp) (in1_G (fun p2 q2 => ?_) (fun p2 => ?_)) (fun _ _ h => h)
      · dsimp only [Option.toList, List.cons_append, List.nil_append]
        have p2 : (48 : Int) ≤ c.toInt := p2
        have q2 : c.toInt ≤ (57 : Int) := q2
        have hd : isDg (bN I b) = true := by rw [← hc]; exact dg_t p2 q2
        rw [if_pos hd] at hx
        refine oX12_next_81 _ _ _ _ _ _ (fun c => absurd c (eqz (by decide))) (fun _ => ?_)
        refine G_aload_n (pc := 84) rfl dX12_next_84 ?_
        refine oX12_next_85 (d + 3) _ [] [] H _ _ 67 12 130 mX12_readsNumber rfl List.mem_cons_self mt_X12_readsNumber rfl ls0 ls0 (by simp) (readsNumber_N (d := d + 2) (b := b) hiH h8 h9 (by rw [e6]; omega) (fun v t hv0 hv1 ht => ?_)) (fun _ _ h => h)
        dsimp only [Option.toList, List.cons_append, List.nil_append]
        rw [eB] at ht ⊢
        have hge := sk_go (okB_dg okI) hd
        have hge2 := sk_ge (P := isDg) (B := bN I) (a := b + 1)
        have hle := sk_le (P := isDg) (I := I) rfl (a := b) (by omega)
        refine G_goto (pc := 88) (tgt := 110) (by decide) dX12_next_88 ?_
        exact oX12_next_110 _ _ _ _ (hQ _ (NQ_of (((hfH.put (mdX_at (by decide))).put (mdX_at (by decide))).put (mdX_at (by decide))) (inv_put (inv_at (Or.inl rfl) (inv_put hiH (a_full (by decide +kernel))) (by rw [n_int (by omega)]; omega) (by rw [n_int (by omega)]; omega)) (a_full (by decide +kernel))) ha (by rw [gup_ne (Or.inr (by decide)), gup_ne (Or.inr (by decide)), gup_ne (Or.inr (by decide)), h9, n_int (by omega)]) (by rw [gup_ne (Or.inr (by decide)), gup_at, n_int (by omega)]) (by rw [gup_at]; exact ht) hx hab (by omega) (by omega) (Or.inr (by omega)) (fun _ => by rw [gup_ne (Or.inr (by decide)), gup_ne (Or.inr (by decide)), gup_at]; exact ⟨hv0, hv1⟩)))
      · dsimp only [Option.toList, List.cons_append, List.nil_append]
        have p2 : ¬ ((48 : Int) ≤ c.toInt ∧ c.toInt ≤ (57 : Int)) := p2
        have hd : isDg (bN I b) = false := by rw [← hc]; exact dg_f p2
        rw [if_neg (by rw [hd]; decide)] at hx
        refine oX12_next_81 _ _ _ _ _ _ (fun _ => ?_) (fun c => absurd rfl c)
        refine G_aload_n (pc := 91) rfl dX12_next_91 ?_
        refine G_sipush (pc := 92) (v := 200) (by decide) dX12_next_92 ?_
        refine G_iload_n (pc := 95) rfl dX12_next_95 ?_
        refine G_iadd (pc := 96) rfl dX12_next_96 ?_
        refine G_putI (pc := 97) (ci := 12) (j := 10) rfl lq_RX12_139 rfl rfl rfl trivial dX12_next_97 ?_
        refine G_aload_n (pc := 100) rfl dX12_next_100 ?_
        refine G_dup (pc := 101) rfl dX12_next_101 ?_
        refine G_getI (pc := 102) (ci := 12) (j := 8) ((gup_ne (Or.inr (by decide))).trans h8) rfl lq_RX12_130 rfl rfl dX12_next_102 ?_
        refine G_iconst (pc := 105) (v := 1) (by decide) dX12_next_105 ?_
        refine G_iadd (pc := 106) n_add1 dX12_next_106 ?_
        refine G_putI (pc := 107) (ci := 12) (j := 8) rfl lq_RX12_130 rfl rfl rfl trivial dX12_next_107 ?_
        have hle2 := (okI.2 b).2
        have ec : (200 + c).toInt = 200 + c.toInt := by rw [Int32.toInt_add, show (200 : Int32).toInt = 200 from rfl, a_bm (by unfold aLo; omega) (by unfold aHi; omega)]
        exact oX12_next_110 _ _ _ _ (hQ _ (NQ_of ((hfH.put (mdX_at (by decide))).put (mdX_at (by decide))) (inv_at (Or.inl rfl) (inv_put hiH (a_full (by decide +kernel))) (by rw [n_int (by omega)]; omega) (by rw [n_int (by omega)]; omega)) ha (by rw [gup_ne (Or.inr (by decide)), gup_ne (Or.inr (by decide)), h9, n_int (by omega)]) (by rw [gup_at, n_int (by omega)]) (by rw [gup_ne (Or.inr (by decide)), gup_at, ec, hc]) hx hab (by omega) (by omega) (Or.inr (by omega)) (fun h => absurd h (by omega))))
  · simp only [crel, ne_eq, Classical.not_not] at c44
    have c44 : ¬ (0 : Int) ≤ c.toInt := c44
    rw [if_pos (by omega)] at hx
    refine G_aload_n (pc := 47) rfl dX12_next_47 ?_
    refine G_iconst (pc := 48) (v := (-1)) (by decide) dX12_next_48 ?_
    refine G_putI (pc := 49) (ci := 12) (j := 10) rfl lq_RX12_139 rfl rfl rfl trivial dX12_next_49 ?_
    refine G_goto (pc := 52) (tgt := 110) (by decide) dX12_next_52 ?_
    exact oX12_next_110 _ _ _ _ (hQ _ (NQ_of (hfH.put (mdX_at (by decide))) (inv_put hiH (a_full (by decide +kernel))) ha (by rw [gup_ne (Or.inr (by decide)), h9, n_int (by omega)]) (by rw [gup_ne (Or.inr (by decide)), h8, n_int (by omega)]) (by rw [gup_at]; rfl) hx hab (Nat.le_refl _) (by omega) (Or.inl rfl) (fun h => absurd h (by decide))))
set_option maxRecDepth 100000 in
set_option maxHeartbeats 8000000 in
theorem next_G {I : gI} (hN : MSok bT (fun _ => True) MT (129, 1, [(1, 67, 0), (0, 0, 17)], [], [], [(some (0, 1), [], [])])) (hi : aInv bT I) (hle : (I 67 8).toInt ≤ (I 67 6).toInt) (hQ : ∀ J, NQ I J → Q none (SH0, RF0, J)) : gg (d + 4) mX12_next 0 (gent 2 [.ref 67]) [] I Q := by
  have hz := ain_of hi (show bnd bT 67 6 = (0, 200) by decide +kernel)
  have ha := ain_of hi (show bnd bT 67 8 = (0, 200) by decide +kernel)
  dsimp only at hz ha
  have e8 : I 67 8 = Int32.ofNat (I 67 8).toInt.toNat := to_nat ha.1 (by omega)
  have e8i : (I 67 8).toInt = ((I 67 8).toInt.toNat : Int) := by omega
  have hsl := sk_le (P := isSp) (I := I) rfl (a := (I 67 8).toInt.toNat) (by omega)
  have go := nx_skip (d := d) (Q := Q) (a0 := (I 67 8).toInt.toNat) hi (by
    refine G_aload_n (pc := 26) rfl dX12_next_26 ?_
    refine G_aload_n (pc := 27) rfl dX12_next_27 ?_
    refine G_getI (pc := 28) (ci := 12) (j := 8) gup_at rfl lq_RX12_130 rfl rfl dX12_next_28 ?_
    refine G_putI (pc := 31) (ci := 12) (j := 9) rfl lq_RX12_133 rfl rfl rfl trivial dX12_next_31 ?_
    exact nx_tail hi rfl e8i rfl sk_ge hsl hQ) 200 (I 67 8).toInt.toNat (by omega) (by omega) rfl
  rw [gup_id e8] at go
  exact go
set_option maxRecDepth 100000 in
set_option maxHeartbeats 8000000 in
theorem takes_G {I : gI} (hN : MSok bT (fun _ => True) MT (129, 1, [(1, 67, 0), (0, 0, 17)], [], [], [(some (0, 1), [], [])])) {w : Int32} (hi : aInv bT I) (hle : (I 67 8).toInt ≤ (I 67 6).toInt) (hQ0 : I 67 10 ≠ w → Q (some (.int 0)) (SH0, RF0, I)) (hQ1 : ∀ J, I 67 10 = w → NQ I J → Q (some (.int 1)) (SH0, RF0, J)) : gg (d + 5) mX12_takes 0 (gent 3 [.ref 67, .int w]) [] I Q := by
  refine G_aload_n (pc := 0) rfl dX12_takes_0 ?_
  refine G_getI (pc := 1) (ci := 12) (j := 10) rfl rfl lq_RX12_139 rfl rfl dX12_takes_1 ?_
  refine G_iload_n (pc := 4) rfl dX12_takes_4 ?_
  refine G_icmp_ne (pc := 5) (tgt := 12) (by decide) dX12_takes_5 (fun c => ?_) (fun c => ?_)
  · refine G_iconst (pc := 12) (v := 0) (by decide) dX12_takes_12 ?_
    refine G_istore_n (pc := 13) rfl rfl (by decide) dX12_takes_13 ?_
    refine G_iload_n (pc := 14) rfl dX12_takes_14 ?_
    refine G_if_eq (pc := 15) (tgt := 22) (by decide) dX12_takes_15 (fun _ => ?_) (fun c => absurd rfl c)
    refine G_iload_n (pc := 22) rfl dX12_takes_22 ?_
    exact G_zret (pc := 23) (Nat.le_refl _) (Nat.le_refl _) rfl (by decide) dX12_takes_23 (hQ0 c)
  · refine G_iconst (pc := 8) (v := 1) (by decide) dX12_takes_8 ?_
    refine G_goto (pc := 9) (tgt := 13) (by decide) dX12_takes_9 ?_
    refine G_istore_n (pc := 13) rfl rfl (by decide) dX12_takes_13 ?_
    refine G_iload_n (pc := 14) rfl dX12_takes_14 ?_
    refine G_if_eq (pc := 15) (tgt := 22) (by decide) dX12_takes_15 (fun c => absurd c (by decide)) (fun _ => ?_)
    refine G_aload_n (pc := 18) rfl dX12_takes_18 ?_
    refine oX12_takes_19 (d + 4) _ [] [] I _ (fun r h => r = none ∧ ∃ J, h = (SH0, RF0, J) ∧ NQ I J) 67 12 131 mX12_next rfl List.mem_cons_self mt_X12_next rfl ls0 ls0 (by decide) (next_G hN hi hle (fun J hJ => ⟨rfl, J, rfl, hJ⟩)) ?_
    rintro _ _ ⟨rfl, J, rfl, hJ⟩
    dsimp only [Option.toList, List.nil_append]
    refine G_iload_n (pc := 22) rfl dX12_takes_22 ?_
    exact G_zret (pc := 23) (Nat.le_refl _) (Nat.le_refl _) rfl (by decide) dX12_takes_23 (hQ1 J c hJ)
set_option maxRecDepth 16384 in
def lay (I : gI) (v : Int32) : gI := gup (gup I 74 (I 67 13).toInt.toNat v) 67 13 (gup I 74 (I 67 13).toInt.toNat v 67 13 + 1)
set_option maxRecDepth 16384 in
theorem full74 {j : Nat} : bnd bT 74 j = (-2147483648, 2147483647) := by
  show bseg (bT.getD 74 []) j = _
  rw [show bT.getD 74 [] = [] by decide +kernel]
  rfl
set_option maxRecDepth 100000 in
set_option maxHeartbeats 8000000 in
theorem lays_G {I : gI} {v : Int32} (h0 : 0 ≤ (I 67 13).toInt) (h1 : (I 67 13).toInt < 200) (hQ : Q none (SH0, RF0, lay I v)) : gg d mX12_lays 0 (gent 2 [.ref 67, .int v]) [] I Q := by
  refine G_aload_n (pc := 0) rfl dX12_lays_0 ?_
  refine G_getR (pc := 1) (ci := 12) (j := 14) rfl lq_RX12_29 rfl rfl rfl dX12_lays_1 ?_
  refine G_aload_n (pc := 4) rfl dX12_lays_4 ?_
  refine G_getI (pc := 5) (ci := 12) (j := 13) rfl rfl lq_RX12_158 rfl rfl dX12_lays_5 ?_
  refine G_iload_n (pc := 8) rfl dX12_lays_8 ?_
  refine G_iast (pc := 9) a_nc rfl (a_vin h0 h1) dX12_lays_9 ?_
  refine G_aload_n (pc := 10) rfl dX12_lays_10 ?_
  refine G_dup (pc := 11) rfl dX12_lays_11 ?_
  refine G_getI (pc := 12) (ci := 12) (j := 13) rfl rfl lq_RX12_158 rfl rfl dX12_lays_12 ?_
  refine G_iconst (pc := 15) (v := 1) (by decide) dX12_lays_15 ?_
  refine G_iadd (pc := 16) rfl dX12_lays_16 ?_
  refine G_putI (pc := 17) (ci := 12) (j := 13) rfl lq_RX12_158 rfl rfl rfl trivial dX12_lays_17 ?_
  exact G_vret (pc := 20) (Nat.le_refl _) (Nat.le_refl _) rfl dX12_lays_20 hQ
end RE
