/-! ===== blocks of code ===== -/
def rdr (f : Nat → Int32) : Nat → Nat → Nat → Option Nat
  | 0, _, n => some n
  | g + 1, p, n => if (f p).toInt < 10010 then rdr f g (p + 1) (n + 1) else if (f p).toInt = 10015 then (if 1 ≤ n then rdr f g (p + 1) n else none) else (if 2 ≤ n then rdr f g (p + 1) (n - 1) else none)
theorem rdn_rdr {f : Nat → Int32} : ∀ (g p n m : Nat), rdr f g p n = some m → rdn f g p n = true
  | 0, _, _, _, _ => rfl
  | g + 1, p, n, m, h => by
    simp only [rdr] at h
    simp only [rdn]
    split at h
    next h1 =>
      rw [if_pos h1]
      exact rdn_rdr g _ _ m h
    next h1 =>
      rw [if_neg h1]
      split at h
      next h2 =>
        rw [if_pos h2]
        split at h
        next h3 => rw [decide_eq_true h3, Bool.true_and]; exact rdn_rdr g _ _ m h
        next => cases h
      next h2 =>
        rw [if_neg h2]
        split at h
        next h3 => rw [decide_eq_true h3, Bool.true_and]; exact rdn_rdr g _ _ m h
        next => cases h
theorem rdr_add {f : Nat → Int32} {g2 : Nat} : ∀ (g1 p n m : Nat), rdr f g1 p n = some m → rdr f (g1 + g2) p n = rdr f g2 (p + g1) m
  | 0, p, n, m, h => by
    cases h
    rw [Nat.zero_add, Nat.add_zero]
  | g1 + 1, p, n, m, h => by
    rw [show g1 + 1 + g2 = (g1 + g2) + 1 by omega]
    simp only [rdr] at h ⊢
    split at h
    next h1 =>
      rw [if_pos h1, rdr_add g1 _ _ m h, show p + 1 + g1 = p + (g1 + 1) by omega]
    next h1 =>
      rw [if_neg h1]
      split at h
      next h2 =>
        rw [if_pos h2]
        split at h
        next h3 => rw [if_pos h3, rdr_add g1 _ _ m h, show p + 1 + g1 = p + (g1 + 1) by omega]
        next => cases h
      next h2 =>
        rw [if_neg h2]
        split at h
        next h3 => rw [if_pos h3, rdr_add g1 _ _ m h, show p + 1 + g1 = p + (g1 + 1) by omega]
        next => cases h
theorem rdr_eq {f f' : Nat → Int32} : ∀ (g p n : Nat), (∀ q, p ≤ q → q < p + g → f q = f' q) → rdr f g p n = rdr f' g p n
  | 0, _, _, _ => rfl
  | g + 1, p, n, h => by
    have h0 := h p (Nat.le_refl _) (by omega)
    have ih := fun n' => rdr_eq (f := f) (f' := f') g (p + 1) n' (fun q h1 h2 => h q (by omega) (by omega))
    simp only [rdr, h0, ih]
/-- code from a to b leaves one more on the pile -/
def blk (f : Nat → Int32) (a b : Nat) : Prop := a ≤ b ∧ ∀ n, rdr f (b - a) a n = some (n + 1)
theorem blk.eq {f f' : Nat → Int32} {a b : Nat} (h : blk f a b) (e : ∀ q, a ≤ q → q < b → f q = f' q) : blk f' a b := ⟨h.1, fun n => by
  have := h.1
  rw [← rdr_eq (f := f) (b - a) a n (fun q h1 h2 => e q h1 (by omega))]
  exact h.2 n⟩
theorem blk.val {f : Nat → Int32} {a : Nat} (h : (f a).toInt < 10010) : blk f a (a + 1) := ⟨by omega, fun n => by
  rw [show a + 1 - a = 0 + 1 by omega]
  simp only [rdr, if_pos h]⟩
theorem blk.no {f : Nat → Int32} {a b : Nat} (h : blk f a b) (e : (f b).toInt = 10015) : blk f a (b + 1) := ⟨by have := h.1; omega, fun n => by
  have h1 := h.1
  rw [show b + 1 - a = (b - a) + 1 by omega, rdr_add _ _ _ _ (h.2 n), show a + (b - a) = b by omega]
  simp only [rdr]
  rw [if_neg (by omega), if_pos e, if_pos (by omega)]⟩
theorem blk.join {f : Nat → Int32} {a b c : Nat} (h : blk f a b) (h2 : blk f b c) (e : 10010 ≤ (f c).toInt) (e2 : (f c).toInt ≠ 10015) : blk f a (c + 1) := ⟨by have := h.1; have := h2.1; omega, fun n => by
  have h1 := h.1
  have h3 := h2.1
  rw [show c + 1 - a = (b - a) + ((c - b) + 1) by omega, rdr_add _ _ _ _ (h.2 n), show a + (b - a) = b by omega, rdr_add _ _ _ _ (h2.2 _), show b + (c - b) = c by omega]
  simp only [rdr]
  rw [if_neg (by omega), if_neg e2, if_pos (by omega)]
  rfl⟩
/-! ===== the reader's state, and what a reading leaves ===== -/
def sN (I : gI) : Nat := (I 67 13).toInt.toNat
def cd (I : gI) : Nat → Int32 := fun j => I 74 j
def PS (I : gI) (p : Nat) : Prop := aInv bT I ∧ (I 67 8).toInt ≤ (I 67 6).toInt ∧ (I 67 9).toInt ≤ (I 67 8).toInt ∧ ((I 67 10).toInt = -1 ∨ (I 67 9).toInt < (I 67 8).toInt) ∧ ((I 67 10).toInt = 100 → 0 ≤ (I 67 11).toInt ∧ (I 67 11).toInt ≤ 9999) ∧ 0 ≤ (I 67 13).toInt ∧ (I 67 13).toInt + p ≤ (I 67 9).toInt
def mdP : aMd := [(67, 8, 13), (74, 0, 199)]
def RS (I J : gI) : Prop := afr mdP I J ∧ (I 67 9).toInt ≤ (J 67 9).toInt ∧ (I 67 13).toInt ≤ (J 67 13).toInt ∧ (∀ j : Nat, (j : Int) < (I 67 13).toInt → J 74 j = I 74 j) ∧ J 67 12 = I 67 12
theorem RS.rf {I : gI} : RS I I := ⟨afr.rf, Int.le_refl _, Int.le_refl _, fun _ _ => rfl, rfl⟩
theorem RS.tr {I J K : gI} (h : RS I J) (h1 : RS J K) : RS I K := ⟨h.1.tr h1.1 (by decide), Int.le_trans h.2.1 h1.2.1, Int.le_trans h.2.2.1 h1.2.2.1, fun j hj => (h1.2.2.2.1 j (by have := h.2.2.1; omega)).trans (h.2.2.2.1 j hj), h1.2.2.2.2.trans h.2.2.2.2⟩
theorem PS.less {I : gI} {p q : Nat} (h : PS I p) (hq : q ≤ p) : PS I q := ⟨h.1, h.2.1, h.2.2.1, h.2.2.2.1, h.2.2.2.2.1, h.2.2.2.2.2.1, by have := h.2.2.2.2.2.2; omega⟩
theorem PS.rng {I : gI} {p : Nat} (h : PS I p) : 0 ≤ (I 67 13).toInt ∧ (I 67 13).toInt + p ≤ 200 ∧ (I 67 9).toInt ≤ 200 ∧ (I 67 8).toInt ≤ 200 := by
  have h6 := ain_of h.1 (show bnd bT 67 6 = (0, 200) by decide +kernel)
  dsimp only at h6
  obtain ⟨-, a, b, -, -, c, e⟩ := h
  omega
/-- the next token: one more may be laid -/
theorem PS.next {I J : gI} {p : Nat} (h : PS I p) (hk : (I 67 10).toInt ≠ -1) (hn : NQ I J) : PS J (p + 1) ∧ RS I J ∧ (I 67 9).toInt < (J 67 9).toInt ∧ J 67 13 = I 67 13 := by
  obtain ⟨n1, n2, n3, n4, n5, n6, n7⟩ := hn
  obtain ⟨h1, h2, h3, h4, h5, h6, h7⟩ := h
  have e6 : J 67 6 = I 67 6 := n1 67 6 (mdX_ne (by omega))
  have e13 : J 67 13 = I 67 13 := n1 67 13 (mdX_ne (by omega))
  have e12 : J 67 12 = I 67 12 := n1 67 12 (mdX_ne (by omega))
  have hlt : (I 67 9).toInt < (I 67 8).toInt := by omega
  refine ⟨⟨n2, by rw [e6]; exact n5, n4, n6, n7, by rw [e13]; exact h6, by rw [e13]; omega⟩, ⟨fun c j hm => n1 c j (amdsub_ok (md1 := mdX) (md := mdP) (by decide) hm), by omega, by rw [e13]; exact Int.le_refl _, fun j _ => n1 74 j (mdX_ne (Or.inl (by decide))), e12⟩, by omega, e13⟩
theorem lay_ne {I : gI} {v : Int32} {c j : Nat} (h1 : c ≠ 74) (h2 : c ≠ 67 ∨ j ≠ 13) : lay I v c j = I c j := (gup_ne h2).trans (gup_ne (Or.inl h1))
theorem lay_13 {I : gI} {v : Int32} (h0 : 0 ≤ (I 67 13).toInt) (h1 : (I 67 13).toInt < 200) : (lay I v 67 13).toInt = (I 67 13).toInt + 1 := by
  unfold lay
  rw [gup_at, gup_ne (Or.inl (by decide)), a_inc h0 (by omega)]
theorem lay_c {I : gI} {v : Int32} {j : Nat} : lay I v 74 j = if j = sN I then v else I 74 j := by
  unfold lay
  rw [gup_ne (Or.inl (by decide))]
  unfold gup sN
  rw [if_pos rfl]
theorem lay_inv {I : gI} {v : Int32} (h : aInv bT I) : aInv bT (lay I v) := inv_put (inv_put h (a_full full74)) (a_full (by decide +kernel))
theorem lay_fr {I : gI} {v : Int32} (h0 : 0 ≤ (I 67 13).toInt) (h1 : (I 67 13).toInt < 200) : afr mdP I (lay I v) := (afr.rf.put (amodr_i (md := mdP) (a := 0) (b := 199) (by decide) (Nat.zero_le _) (by omega))).put (by decide)
/-- code is laid -/
theorem PS.laid {I : gI} {p : Nat} {v : Int32} (h : PS I (p + 1)) : PS (lay I v) p ∧ RS I (lay I v) ∧ sN (lay I v) = sN I + 1 ∧ cd (lay I v) (sN I) = v := by
  have hr := h.rng
  obtain ⟨h1, h2, h3, h4, h5, h6, h7⟩ := h
  have e13 := lay_13 (I := I) (v := v) h6 (by omega)
  have e : ∀ j, j ≠ 13 → lay I v 67 j = I 67 j := fun j hj => lay_ne (by decide) (Or.inr hj)
  refine ⟨⟨lay_inv h1, by rw [e 8 (by decide), e 6 (by decide)]; exact h2, by rw [e 8 (by decide), e 9 (by decide)]; exact h3, by rw [e 10 (by decide), e 9 (by decide), e 8 (by decide)]; exact h4, by rw [e 10 (by decide), e 11 (by decide)]; exact h5, by omega, by rw [e13, e 9 (by decide)]; omega⟩, ⟨lay_fr h6 (by omega), by rw [e 9 (by decide)]; exact Int.le_refl _, by omega, fun j hj => ?_, e 12 (by decide)⟩, ?_, ?_⟩
  · rw [lay_c, if_neg (by unfold sN; omega)]
  · unfold sN
    omega
  · unfold cd
    rw [lay_c, if_pos rfl]
/-- a value is laid, then the next token -/
theorem PS.value {I J : gI} {p : Nat} {v : Int32} (h : PS I p) (hk : (I 67 10).toInt ≠ -1) (hn : NQ (lay I v) J) : PS J p ∧ RS I J ∧ sN J = sN I + 1 ∧ cd J (sN I) = v := by
  have hr := h.rng
  obtain ⟨h1, h2, h3, h4, h5, h6, h7⟩ := h
  have hlt : (I 67 9).toInt < (I 67 8).toInt := by omega
  have e13 := lay_13 (I := I) (v := v) h6 (by omega)
  have e : ∀ j, j ≠ 13 → lay I v 67 j = I 67 j := fun j hj => lay_ne (by decide) (Or.inr hj)
  obtain ⟨n1, n2, n3, n4, n5, n6, n7⟩ := hn
  rw [e 8 (by decide)] at n3
  rw [e 6 (by decide)] at n5
  have j6 : J 67 6 = I 67 6 := (n1 67 6 (mdX_ne (by omega))).trans (e 6 (by decide))
  have j13 : J 67 13 = lay I v 67 13 := n1 67 13 (mdX_ne (by omega))
  have j12 : J 67 12 = I 67 12 := (n1 67 12 (mdX_ne (by omega))).trans (e 12 (by decide))
  have j74 : ∀ j, J 74 j = lay I v 74 j := fun j => n1 74 j (mdX_ne (Or.inl (by decide)))
  refine ⟨⟨n2, by rw [j6]; exact n5, n4, n6, n7, by rw [j13]; omega, by rw [j13]; omega⟩, ⟨(lay_fr h6 (by omega)).tr n1 (by decide), by omega, by rw [j13]; omega, fun j hj => ?_, j12⟩, ?_, ?_⟩
  · rw [j74, lay_c, if_neg (by unfold sN; omega)]
  · unfold sN
    rw [j13]
    omega
  · unfold cd
    rw [j74, lay_c, if_pos rfl]
/-- how a reading ends -/
def RQ (I : gI) (p : Nat) (P : gI → Prop) : Option Value → gH → Prop := fun r h => ∃ (y : Int32) (J : gI), r = some (.int y) ∧ h = (SH0, RF0, J) ∧ afr mdP I J ∧ aInv bT J ∧ (y = 0 ∨ (y = 1 ∧ PS J p ∧ RS I J ∧ P J))
/-- .. with a block of code -/
def RB (I : gI) (p : Nat) : Option Value → gH → Prop := RQ I p (fun J => blk (cd J) (sN I) (sN J))
theorem RS.code {I J : gI} (h : RS I J) (h0 : 0 ≤ (I 67 13).toInt) : ∀ q, q < sN I → cd I q = cd J q := fun q hq => (h.2.2.2.1 q (by unfold sN at hq; omega)).symm
theorem RS.sNle {I J : gI} (h : RS I J) : sN I ≤ sN J := by
  have := h.2.2.1
  unfold sN
  omega
section RV
variable {d : Nat} {I : gI} {Q : Option Value → gH → Prop} {p : Nat}
theorem z_end {m : gM} {pc : Nat} {L : gL} {J : gI} {P : gI → Prop} (hd : decode m.2.1 pc = .ok (.ireturn, 1)) (hr : m.2.2.2 = some .boolean) (hf : afr mdP I J) (hi : aInv bT J) : gg d m pc L [.int 0] J (RQ I p P) := G_zret (Nat.le_refl _) (Nat.le_refl _) hr (by decide) hd ⟨0, J, rfl, rfl, hf, hi, Or.inl rfl⟩
theorem o_end {m : gM} {pc : Nat} {L : gL} {J : gI} {P : gI → Prop} (hd : decode m.2.1 pc = .ok (.ireturn, 1)) (hr : m.2.2.2 = some .boolean) (h : PS J p) (hs : RS I J) (hP : P J) : gg d m pc L [.int 1] J (RQ I p P) := G_zret (Nat.le_refl _) (Nat.le_refl _) hr (by decide) hd ⟨1, J, rfl, rfl, hs.1, h.1, Or.inr ⟨rfl, h, hs, hP⟩⟩

set_option maxRecDepth 100000 in
set_option maxHeartbeats 8000000 in
theorem readsValue_G (hN : MSok bT (fun _ => True) MT (129, 1, [(1, 67, 0), (0, 0, 17)], [], [], [(some (0, 1), [], [])])) (h : PS I p) : gg (d + 5) mX12_readsValue 0 (gent 2 [.ref 67]) [] I (RB I p) := by
  have hr := h.rng
  have no : gg (d + 5) mX12_readsValue 27 [some (.ref 67), none] [] I (RB I p) := by
    refine G_iconst (pc := 27) (v := 0) (by decide) dX12_readsValue_27 ?_
    refine G_istore_n (pc := 28) rfl rfl (by decide) dX12_readsValue_28 ?_
    refine G_iload_n (pc := 29) rfl dX12_readsValue_29 ?_
    refine G_if_eq (pc := 30) (tgt := 68) (by decide) dX12_readsValue_30 (fun _ => ?_) (fun c => absurd rfl c)
    refine G_iload_n (pc := 68) rfl dX12_readsValue_68 ?_
    exact z_end (pc := 69) dX12_readsValue_69 rfl afr.rf h.1
  have yes : ((I 67 10).toInt = 100 ∨ (13 ≤ (I 67 10).toInt ∧ (I 67 10).toInt ≤ 17)) → gg (d + 5) mX12_readsValue 23 [some (.ref 67), none] [] I (RB I p) := by
    intro hk
    have hk1 : (I 67 10).toInt ≠ -1 := by omega
    have hlt : (I 67 13).toInt < 200 := by
      obtain ⟨h1, h2, h3, h4, h5, h6, h7⟩ := h
      omega
    have put : ∀ v : Int32, v.toInt < 10010 → gg (d + 5) mX12_readsValue 61 [some (.ref 67), some (.int 1)] [.int v, .ref 67] I (RB I p) := by
      intro v hv
      refine oX12_readsValue_61 (d + 4) _ [.int v] [] I _ (fun r h => r = none ∧ h = (SH0, RF0, lay I v)) 67 12 132 mX12_lays rfl List.mem_cons_self mt_X12_lays rfl ls1 ls0 (by simp) (lays_G hr.1 hlt ⟨rfl, rfl⟩) ?_
      rintro _ _ ⟨rfl, rfl⟩
      dsimp only [Option.toList, List.nil_append]
      refine G_aload_n (pc := 64) rfl dX12_readsValue_64 ?_
      refine oX12_readsValue_65 (d + 4) _ [] [] (lay I v) _ (fun r h => r = none ∧ ∃ J9, h = (SH0, RF0, J9) ∧ NQ (lay I v) J9) 67 12 131 mX12_next rfl List.mem_cons_self mt_X12_next rfl ls0 ls0 (by simp) (next_G hN (lay_inv h.1) (by rw [lay_ne (by decide) (Or.inr (by decide)), lay_ne (by decide) (Or.inr (by decide))]; exact h.2.1) (fun J9 hJ => ⟨rfl, J9, rfl, hJ⟩)) ?_
      rintro _ _ ⟨rfl, J, rfl, hJ⟩
      dsimp only [Option.toList, List.nil_append]
      refine G_iload_n (pc := 68) rfl dX12_readsValue_68 ?_
      obtain ⟨a1, a2, a3, a4⟩ := h.value hk1 hJ
      exact o_end (pc := 69) dX12_readsValue_69 rfl a1 a2 (by rw [a3]; exact blk.val (by rw [a4]; exact hv))
    refine G_iconst (pc := 23) (v := 1) (by decide) dX12_readsValue_23 ?_
    refine G_goto (pc := 24) (tgt := 28) (by decide) dX12_readsValue_24 ?_
    refine G_istore_n (pc := 28) rfl rfl (by decide) dX12_readsValue_28 ?_
    refine G_iload_n (pc := 29) rfl dX12_readsValue_29 ?_
    refine G_if_eq (pc := 30) (tgt := 68) (by decide) dX12_readsValue_30 (fun c => absurd c (by decide)) (fun _ => ?_)
    refine G_aload_n (pc := 33) rfl dX12_readsValue_33 ?_
    refine G_aload_n (pc := 34) rfl dX12_readsValue_34 ?_
    refine G_getI (pc := 35) (ci := 12) (j := 10) rfl rfl lq_RX12_139 rfl rfl dX12_readsValue_35 ?_
    refine G_bipush (pc := 38) (v := 100) (by decide) dX12_readsValue_38 ?_
    refine G_icmp_ne (pc := 40) (tgt := 50) (by decide) dX12_readsValue_40 (fun c => ?_) (fun c => ?_)
    · refine G_sipush (pc := 50) (v := 10000) (by decide) dX12_readsValue_50 ?_
      refine G_aload_n (pc := 53) rfl dX12_readsValue_53 ?_
      refine G_getI (pc := 54) (ci := 12) (j := 10) rfl rfl lq_RX12_139 rfl rfl dX12_readsValue_54 ?_
      refine G_iadd (pc := 57) rfl dX12_readsValue_57 ?_
      refine G_bipush (pc := 58) (v := 13) (by decide) dX12_readsValue_58 ?_
      refine G_isub (pc := 60) rfl dX12_readsValue_60 ?_
      refine put _ ?_
      have c1 : (I 67 10).toInt ≠ 100 := fun e => c (Int32.toInt_inj.mp e)
      rw [Int32.toInt_sub, Int32.toInt_add, show (10000 : Int32).toInt = 10000 from rfl, show (13 : Int32).toInt = 13 from rfl, a_bm (z := 10000 + (I 67 10).toInt) (by unfold aLo; omega) (by unfold aHi; omega), a_bm (by unfold aLo; omega) (by unfold aHi; omega)]
      omega
    · refine G_aload_n (pc := 43) rfl dX12_readsValue_43 ?_
      refine G_getI (pc := 44) (ci := 12) (j := 11) rfl rfl lq_RX12_146 rfl rfl dX12_readsValue_44 ?_
      refine G_goto (pc := 47) (tgt := 61) (by decide) dX12_readsValue_47 ?_
      have := h.2.2.2.2.1 (by rw [c]; rfl)
      exact put _ (by omega)
  refine G_aload_n (pc := 0) rfl dX12_readsValue_0 ?_
  refine G_getI (pc := 1) (ci := 12) (j := 10) rfl rfl lq_RX12_139 rfl rfl dX12_readsValue_1 ?_
  refine G_bipush (pc := 4) (v := 100) (by decide) dX12_readsValue_4 ?_
  refine G_icmp_eq (pc := 6) (tgt := 23) (by decide) dX12_readsValue_6 (fun c => yes (Or.inl (by rw [c]; rfl))) (fun _ => ?_)
  refine G_aload_n (pc := 9) rfl dX12_readsValue_9 ?_
  refine G_getI (pc := 10) (ci := 12) (j := 10) rfl rfl lq_RX12_139 rfl rfl dX12_readsValue_10 ?_
  refine G_bipush (pc := 13) (v := 13) (by decide) dX12_readsValue_13 ?_
  refine G_bipush (pc := 15) (v := 17) (by decide) dX12_readsValue_15 ?_
  refine oX12_readsValue_17 (d + 4) _ [.int (I 67 10), .int 13, .int 17] [] I _ (fun r h => (∃ y : Int32, r = some (.int y) ∧ ((y = 1 ∧ 13 ≤ ((I 67 10)).toInt ∧ ((I 67 10)).toInt ≤ 17) ∨ (y = 0 ∧ ¬ (13 ≤ ((I 67 10)).toInt ∧ ((I 67 10)).toInt ≤ 17)))) ∧ h = (SH0, RF0, I)) mX12_in1 mt_X12_in1 rfl (ls3 ⟨_, rfl⟩ ⟨_, rfl⟩ ⟨_, rfl⟩) ls0 (by simp) (in1_G (fun a b => ⟨⟨1, rfl, Or.inl ⟨rfl, a, b⟩⟩, rfl⟩) (fun a => ⟨⟨0, rfl, Or.inr ⟨rfl, a⟩⟩, rfl⟩)) ?_
  rintro _ _ ⟨⟨y, rfl, hy⟩, rfl⟩
  dsimp only [Option.toList, List.cons_append, List.nil_append]
  rcases hy with ⟨rfl, hy1, hy2⟩ | ⟨rfl, -⟩
  · exact G_if_eq (pc := 20) (tgt := 27) (by decide) dX12_readsValue_20 (fun c => absurd c (by decide)) (fun _ => yes (Or.inr ⟨hy1, hy2⟩))
  · exact G_if_eq (pc := 20) (tgt := 27) (by decide) dX12_readsValue_20 (fun _ => no) (fun c => absurd rfl c)
set_option maxRecDepth 100000 in
set_option maxHeartbeats 8000000 in
theorem readsLike_G (hN : MSok bT (fun _ => True) MT (129, 1, [(1, 67, 0), (0, 0, 17)], [], [], [(some (0, 1), [], [])])) (h : PS I p) : gg (d + 6) mX12_readsLike 0 (gent 2 [.ref 67]) [] I (RB I p) := by
  refine G_aload_n (pc := 0) rfl dX12_readsLike_0 ?_
  refine oX12_readsLike_1 (d + 5) _ [] [] I _ (RB I p) 67 12 133 mX12_readsValue rfl List.mem_cons_self mt_X12_readsValue rfl ls0 ls0 (by simp) (readsValue_G hN h) ?_
  rintro _ _ ⟨y, J, rfl, rfl, hf, hi, hy⟩
  dsimp only [Option.toList, List.cons_append, List.nil_append]
  rcases hy with rfl | ⟨rfl, h1, hs1, hb1⟩
  · refine G_if_ne (pc := 4) (tgt := 9) (by decide) dX12_readsLike_4 (fun c => absurd rfl c) (fun _ => ?_)
    refine G_iconst (pc := 7) (v := 0) (by decide) dX12_readsLike_7 ?_
    exact z_end (pc := 8) dX12_readsLike_8 rfl hf hi
  refine G_if_ne (pc := 4) (tgt := 9) (by decide) dX12_readsLike_4 (fun _ => ?_) (fun c => absurd c (by decide))
  have go : ∀ w : Int32, (10010 : Int) ≤ w.toInt → w.toInt ≠ 10015 → w ≠ 0 → (J 67 10).toInt ≠ -1 → gg (d + 6) mX12_readsLike 58 [some (.ref 67), none] [.int w] J (RB I p) := by
    intro w hw1 hw2 hw3 hk
    refine G_istore_n (pc := 58) rfl rfl (by decide) dX12_readsLike_58 ?_
    refine G_iload_n (pc := 59) rfl dX12_readsLike_59 ?_
    refine G_if_ne (pc := 60) (tgt := 65) (by decide) dX12_readsLike_60 (fun _ => ?_) (fun c => absurd c hw3)
    refine G_aload_n (pc := 65) rfl dX12_readsLike_65 ?_
    refine oX12_readsLike_66 (d + 5) _ [] [] J _ (fun r h => r = none ∧ ∃ J9, h = (SH0, RF0, J9) ∧ NQ (J) J9) 67 12 131 mX12_next rfl List.mem_cons_self mt_X12_next rfl ls0 ls0 (by simp) (next_G hN (d := d + 1) h1.1 h1.2.1 (fun J9 hJ => ⟨rfl, J9, rfl, hJ⟩)) ?_
    rintro _ _ ⟨rfl, K, rfl, hK⟩
    dsimp only [Option.toList, List.nil_append]
    obtain ⟨h2, hs2, -, e13⟩ := h1.next hk hK
    have esN : sN K = sN J := by unfold sN; rw [e13]
    refine G_aload_n (pc := 69) rfl dX12_readsLike_69 ?_
    refine oX12_readsLike_70 (d + 5) _ [] [] K _ (RB K (p + 1)) 67 12 133 mX12_readsValue rfl List.mem_cons_self mt_X12_readsValue rfl ls0 ls0 (by simp) (readsValue_G hN h2) ?_
    rintro _ _ ⟨y, K2, rfl, rfl, hf2, hi2, hy⟩
    dsimp only [Option.toList, List.cons_append, List.nil_append]
    rcases hy with rfl | ⟨rfl, h3, hs3, hb3⟩
    · refine G_if_ne (pc := 73) (tgt := 78) (by decide) dX12_readsLike_73 (fun c => absurd rfl c) (fun _ => ?_)
      refine G_iconst (pc := 76) (v := 0) (by decide) dX12_readsLike_76 ?_
      exact z_end (pc := 77) dX12_readsLike_77 rfl ((hs1.tr hs2).1.tr hf2 (by decide)) hi2
    refine G_if_ne (pc := 73) (tgt := 78) (by decide) dX12_readsLike_73 (fun _ => ?_) (fun c => absurd c (by decide))
    obtain ⟨h4, hs4, e4, c4⟩ := h3.laid (v := w)
    have hr3 := h3.rng
    refine G_aload_n (pc := 78) rfl dX12_readsLike_78 ?_
    refine G_iload_n (pc := 79) rfl dX12_readsLike_79 ?_
    refine oX12_readsLike_80 (d + 5) _ [.int w] [] K2 _ (fun r h => r = none ∧ h = (SH0, RF0, lay K2 w)) 67 12 132 mX12_lays rfl List.mem_cons_self mt_X12_lays rfl ls1 ls0 (by simp) (lays_G hr3.1 (by omega) ⟨rfl, rfl⟩) ?_
    rintro _ _ ⟨rfl, rfl⟩
    dsimp only [Option.toList, List.nil_append]
    refine G_iconst (pc := 83) (v := 1) (by decide) dX12_readsLike_83 ?_
    refine o_end (pc := 84) dX12_readsLike_84 rfl h4 (((hs1.tr hs2).tr hs3).tr hs4) ?_
    rw [e4]
    have b1 : blk (cd (lay K2 w)) (sN I) (sN J) := hb1.eq (fun q _ hq => ((hs2.tr hs3).tr hs4).code h1.rng.1 q hq)
    have b2 : blk (cd (lay K2 w)) (sN J) (sN K2) := by
      rw [← esN]
      exact hb3.eq (fun q _ hq => hs4.code hr3.1 q hq)
    exact b1.join b2 (by rw [c4]; exact hw1) (by rw [c4]; exact hw2)
  refine G_aload_n (pc := 9) rfl dX12_readsLike_9 ?_
  refine G_getI (pc := 10) (ci := 12) (j := 10) rfl rfl lq_RX12_139 rfl rfl dX12_readsLike_10 ?_
  refine G_sipush (pc := 13) (v := 260) (by decide) dX12_readsLike_13 ?_
  refine G_icmp_ne (pc := 16) (tgt := 25) (by decide) dX12_readsLike_16 (fun _ => ?_) (fun c => ?_)
  rotate_left
  · refine G_sipush (pc := 19) (v := 10010) (by decide) dX12_readsLike_19 ?_
    refine G_goto (pc := 22) (tgt := 58) (by decide) dX12_readsLike_22 ?_
    exact go _ (by decide) (by decide) (by decide) (by rw [c]; decide)
  refine G_aload_n (pc := 25) rfl dX12_readsLike_25 ?_
  refine G_getI (pc := 26) (ci := 12) (j := 10) rfl rfl lq_RX12_139 rfl rfl dX12_readsLike_26 ?_
  refine G_sipush (pc := 29) (v := 261) (by decide) dX12_readsLike_29 ?_
  refine G_icmp_ne (pc := 32) (tgt := 41) (by decide) dX12_readsLike_32 (fun _ => ?_) (fun c => ?_)
  rotate_left
  · refine G_sipush (pc := 35) (v := 10011) (by decide) dX12_readsLike_35 ?_
    refine G_goto (pc := 38) (tgt := 58) (by decide) dX12_readsLike_38 ?_
    exact go _ (by decide) (by decide) (by decide) (by rw [c]; decide)
  refine G_aload_n (pc := 41) rfl dX12_readsLike_41 ?_
  refine G_getI (pc := 42) (ci := 12) (j := 10) rfl rfl lq_RX12_139 rfl rfl dX12_readsLike_42 ?_
  refine G_sipush (pc := 45) (v := 262) (by decide) dX12_readsLike_45 ?_
  refine G_icmp_ne (pc := 48) (tgt := 57) (by decide) dX12_readsLike_48 (fun _ => ?_) (fun c => ?_)
  rotate_left
  · refine G_sipush (pc := 51) (v := 10012) (by decide) dX12_readsLike_51 ?_
    refine G_goto (pc := 54) (tgt := 58) (by decide) dX12_readsLike_54 ?_
    exact go _ (by decide) (by decide) (by decide) (by rw [c]; decide)
  refine G_iconst (pc := 57) (v := 0) (by decide) dX12_readsLike_57 ?_
  refine G_istore_n (pc := 58) rfl rfl (by decide) dX12_readsLike_58 ?_
  refine G_iload_n (pc := 59) rfl dX12_readsLike_59 ?_
  refine G_if_ne (pc := 60) (tgt := 65) (by decide) dX12_readsLike_60 (fun c => absurd rfl c) (fun _ => ?_)
  refine G_iconst (pc := 63) (v := 0) (by decide) dX12_readsLike_63 ?_
  exact z_end (pc := 64) dX12_readsLike_64 rfl hf hi
end RV
