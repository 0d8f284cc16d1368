/-! ===== the reference's reader: what stands at a place, names, numbers ===== -/
def bA (I : gI) (x : Int32) : Int32 := if x.toInt < (I 67 6).toInt then I 72 x.toInt.toNat else -1
theorem bA_neg {I : gI} {x : Int32} (h : (I 67 6).toInt ≤ x.toInt) : bA I x = -1 := if_neg (by omega)
theorem bA_lt {I : gI} {x : Int32} (h : 0 ≤ (bA I x).toInt) : x.toInt < (I 67 6).toInt := by
  by_cases h1 : x.toInt < (I 67 6).toInt
  · exact h1
  · rw [bA, if_neg h1] at h
    exact absurd h (by decide)
theorem lsR {c : Nat} : aSG [.ref c] := fun v hv => by
  simp only [List.mem_cons, List.not_mem_nil, or_false] at hv
  rcases hv with rfl
  exact Or.inr ⟨_, rfl⟩
theorem a_inc {x : Int32} (h0 : 0 ≤ x.toInt) (h1 : x.toInt ≤ 100000) : (x + 1).toInt = x.toInt + 1 := by
  rw [Int32.toInt_add, show (1 : Int32).toInt = 1 from rfl, a_bm (by unfold aLo; omega) (by unfold aHi; omega)]
theorem inv_at {I : gI} {v : Int32} {j : Nat} (hj : j = 8 ∨ j = 9) (h : aInv bT I) (h0 : 0 ≤ v.toInt) (h1 : v.toInt ≤ 200) : aInv bT (gup I 67 j v) := by
  refine inv_put h ?_
  rcases hj with rfl | rfl
  · rw [show bnd bT 67 8 = (0, 200) by decide +kernel]
    exact ⟨h0, h1⟩
  · rw [show bnd bT 67 9 = (0, 200) by decide +kernel]
    exact ⟨h0, h1⟩
section RD
variable {d : Nat} {I : gI} {Q : Option Value → gH → Prop}
set_option maxRecDepth 100000 in
set_option maxHeartbeats 4000000 in
theorem byteAt_G {x : Int32} (hx : 0 ≤ x.toInt) (hi : aInv bT I) (hQ : Q (some (.int (bA I x))) (SH0, RF0, I)) : gg d mX12_byteAt 0 (gent 2 [.ref 67, .int x]) [] I Q := by
  have hz := ain_of hi (show bnd bT 67 6 = (0, 200) by decide +kernel)
  dsimp only at hz
  refine G_iload_n (pc := 0) rfl dX12_byteAt_0 ?_
  refine G_aload_n (pc := 1) rfl dX12_byteAt_1 ?_
  refine G_getI (pc := 2) (ci := 12) (j := 6) rfl rfl lq_RX12_126 rfl rfl dX12_byteAt_2 ?_
  refine G_icmp_ge (pc := 5) (tgt := 17) (by decide) dX12_byteAt_5 (fun c => ?_) (fun c => ?_)
  · rw [Int32.le_iff_toInt_le] at c
    rw [bA_neg c] at hQ
    refine G_iconst (pc := 17) (v := -1) (by decide) dX12_byteAt_17 ?_
    exact G_iret (pc := 18) (Nat.le_refl _) (Nat.le_refl _) rfl dX12_byteAt_18 hQ
  · rw [Int32.le_iff_toInt_le] at c
    rw [bA, if_pos (by omega)] at hQ
    refine G_aload_n (pc := 8) rfl dX12_byteAt_8 ?_
    refine G_getR (pc := 9) (ci := 12) (j := 5) rfl lq_RX12_22 rfl rfl rfl dX12_byteAt_9 ?_
    refine G_iload_n (pc := 12) rfl dX12_byteAt_12 ?_
    refine G_iald (pc := 13) a_nc rfl rfl (a_vin hx (by omega)) dX12_byteAt_13 ?_
    refine G_goto (pc := 14) (tgt := 18) (by decide) dX12_byteAt_14 ?_
    exact G_iret (pc := 18) (Nat.le_refl _) (Nat.le_refl _) rfl dX12_byteAt_18 hQ
theorem in1_G {v lo hi : Int32} (h1 : lo.toInt ≤ v.toInt → v.toInt ≤ hi.toInt → Q (some (.int 1)) (SH0, RF0, I)) (h0 : ¬ (lo.toInt ≤ v.toInt ∧ v.toInt ≤ hi.toInt) → Q (some (.int 0)) (SH0, RF0, I)) : gg d mX12_in1 0 (gent 3 [.int v, .int lo, .int hi]) [] I Q := by
  have no : ¬ (lo.toInt ≤ v.toInt ∧ v.toInt ≤ hi.toInt) → gg d mX12_in1 14 [some (.int v), some (.int lo), some (.int hi)] [] I Q := fun h => by
    refine G_iconst (pc := 14) (v := 0) (by decide) dX12_in1_14 ?_
    exact G_zret (pc := 15) (Nat.le_refl _) (Nat.le_refl _) rfl (by decide) dX12_in1_15 (h0 h)
  refine G_iload_n (pc := 0) rfl dX12_in1_0 ?_
  refine G_iload_n (pc := 1) rfl dX12_in1_1 ?_
  refine G_icmp_lt (pc := 2) (tgt := 14) (by decide) dX12_in1_2 (fun c => no ?_) (fun c => ?_)
  · rw [Int32.lt_iff_toInt_lt] at c
    omega
  rw [Int32.lt_iff_toInt_lt] at c
  refine G_iload_n (pc := 5) rfl dX12_in1_5 ?_
  refine G_iload_n (pc := 6) rfl dX12_in1_6 ?_
  refine G_icmp_gt (pc := 7) (tgt := 14) (by decide) dX12_in1_7 (fun c2 => no ?_) (fun c2 => ?_)
  · rw [Int32.lt_iff_toInt_lt] at c2
    omega
  rw [Int32.lt_iff_toInt_lt] at c2
  refine G_iconst (pc := 10) (v := 1) (by decide) dX12_in1_10 ?_
  refine G_goto (pc := 11) (tgt := 15) (by decide) dX12_in1_11 ?_
  exact G_zret (pc := 15) (Nat.le_refl _) (Nat.le_refl _) rfl (by decide) dX12_in1_15 (h1 (by omega) (by omega))
def mdX : aMd := [(67, 8, 11)]
def mdR : aMd := [(67, 8, 8), (67, 10, 11)]
/-- a name or a number was read from J on -/
def rdQ (J J' : gI) (lo hi : Int) : Prop := afr mdR J J' ∧ aInv bT J' ∧ (J 67 8).toInt ≤ (J' 67 8).toInt ∧ (J' 67 8).toInt ≤ (J 67 6).toInt ∧ (lo ≤ (bA J (J 67 8)).toInt → (bA J (J 67 8)).toInt ≤ hi → (J 67 8).toInt < (J' 67 8).toInt)
theorem mdX_at {j : Nat} (h : 8 ≤ j ∧ j ≤ 11) : amodr mdX 67 j j = true := amodr_i (a := 8) (b := 11) List.mem_cons_self h.1 h.2
theorem mdX_ne {c j : Nat} (h : c ≠ 67 ∨ j < 8 ∨ 11 < j) : amodr mdX c j j = false := amodr_n1 (by omega) amodr_n0
theorem mdR_at {j : Nat} (h : j = 8 ∨ j = 10 ∨ j = 11) : amodr mdR 67 j j = true := by
  rcases h with rfl | rfl | rfl <;> decide
theorem mdR_ne {c j : Nat} (h : c ≠ 67 ∨ j < 8 ∨ j = 9 ∨ 11 < j) : amodr mdR c j j = false := amodr_n1 (by omega) (amodr_n1 (by omega) amodr_n0)
theorem mdX_tr {I J K : gI} (h : afr mdX I J) (h1 : afr mdX J K) : afr mdX I K := h.tr h1 (by decide)
theorem bA_eq {I J : gI} {x : Int32} (h : afr mdX I J) : bA J x = bA I x := by
  unfold bA
  rw [h 67 6 (mdX_ne (Or.inr (Or.inl (by decide)))), h 72 _ (mdX_ne (Or.inl (by decide)))]
theorem bA_eqR {I J : gI} {x : Int32} (h : afr mdR I J) : bA J x = bA I x := by
  unfold bA
  rw [h 67 6 (mdR_ne (Or.inr (Or.inl (by decide)))), h 72 _ (mdR_ne (Or.inl (by decide)))]
set_option maxRecDepth 100000 in
set_option maxHeartbeats 4000000 in
theorem readsName_loop2 (hN : MSok bT (fun _ => True) MT (129, 1, [(1, 67, 0), (0, 0, 17)], [], [], [(some (0, 1), [], [])])) (hQ : ∀ J, afr [(67, 10, 10)] I J → aInv bT J → (J 67 10).toInt ≠ -1 → (J 67 10).toInt ≠ 100 → Q none (SH0, RF0, J)) : ∀ (g w : Nat) (J : gI), w + g = 18 → afr [(67, 10, 10)] I J → aInv bT J → (J 67 10).toInt ≠ -1 → (J 67 10).toInt ≠ 100 → gg (d + 3) mX12_readsName 39 [some (.ref 67), some (.int (Int32.ofNat w))] [] J Q
  | 0, w, J, hg, hf, hi, h1, h2 => by
    have e : w = 18 := by omega
    subst e
    refine G_iload_n (pc := 39) rfl dX12_readsName_39 ?_
    refine G_bipush (pc := 40) (v := 18) (by decide) dX12_readsName_40 ?_
    refine G_icmp_ge (pc := 42) (tgt := 71) (by decide) dX12_readsName_42 (fun _ => ?_) (fun c => absurd (by decide) c)
    exact G_vret (pc := 71) (Nat.le_refl _) (Nat.le_refl _) rfl dX12_readsName_71 (hQ J hf hi h1 h2)
  | g + 1, w, J, hg, hf, hi, h1, h2 => by
    have hw : w < 18 := by omega
    refine G_iload_n (pc := 39) rfl dX12_readsName_39 ?_
    refine G_bipush (pc := 40) (v := 18) (by decide) dX12_readsName_40 ?_
    refine G_icmp_ge (pc := 42) (tgt := 71) (by decide) dX12_readsName_42 (fun c => absurd c (by rw [Int32.le_iff_toInt_le, n_int (by omega)]; show ¬ ((18 : Int) ≤ _); omega)) (fun _ => ?_)
    refine G_aload_n (pc := 45) rfl dX12_readsName_45 ?_
    refine G_aload_n (pc := 46) rfl dX12_readsName_46 ?_
    refine G_iload_n (pc := 47) rfl dX12_readsName_47 ?_
    refine oX12_readsName_48 (d + 2) _ [.int (Int32.ofNat w)] [.ref 67] J Q _ 67 12 129 mX12_isNameOf rfl List.mem_cons_self mt_X12_isNameOf rfl ls1 lsR (by simp) (hN mX12_isNameOf mt_X12_isNameOf (d + 1) [.ref 67, .int (Int32.ofNat w)] J ⟨⟨67, rfl, rfl⟩, ⟨_, rfl, by rw [n_int (by omega)]; show (0 : Int) ≤ _; omega, by rw [n_int (by omega)]; show _ ≤ (17 : Int); omega⟩, trivial⟩ hi trivial (fun s hs => absurd hs List.not_mem_nil)) ?_
    rintro _ _ ⟨J', rfl, -, hf', c', hc', hcase⟩
    have ec : c' = (some (0, 1), [], []) := by simpa using hc'
    subst ec
    obtain ⟨⟨y, rfl, -⟩, -, -⟩ := hcase
    rw [afr_nil hf']
    dsimp only [Option.toList, List.cons_append, List.nil_append]
    have put : ∀ v : Int32, v.toInt ≠ -1 → v.toInt ≠ 100 → gg (d + 3) mX12_readsName 62 [some (.ref 67), some (.int (Int32.ofNat w))] [.int v, .ref 67] J Q := by
      intro v hv1 hv2
      refine G_putI (pc := 62) (ci := 12) (j := 10) rfl lq_RX12_139 rfl rfl rfl trivial dX12_readsName_62 ?_
      refine G_iinc (pc := 65) (v := Int32.ofNat 1) n_add rfl rfl (by decide) rfl (by decide) dX12_readsName_65 ?_
      refine G_goto (pc := 68) (tgt := 39) (by decide) dX12_readsName_68 ?_
      refine readsName_loop2 hN hQ g (w + 1) _ (by omega) (hf.put (by decide)) (inv_put hi (a_full (by decide +kernel))) ?_ ?_
      · rw [gup_at]
        exact hv1
      · rw [gup_at]
        exact hv2
    refine G_if_eq (pc := 51) (tgt := 58) (by decide) dX12_readsName_51 (fun _ => ?_) (fun _ => ?_)
    · refine G_aload_n (pc := 58) rfl dX12_readsName_58 ?_
      refine G_getI (pc := 59) (ci := 12) (j := 10) rfl rfl lq_RX12_139 rfl rfl dX12_readsName_59 ?_
      exact put _ h1 h2
    · refine G_iload_n (pc := 54) rfl dX12_readsName_54 ?_
      refine G_goto (pc := 55) (tgt := 62) (by decide) dX12_readsName_55 ?_
      exact put _ (by rw [n_int (by omega)]; omega) (by rw [n_int (by omega)]; omega)
set_option maxRecDepth 100000 in
set_option maxHeartbeats 4000000 in
theorem readsName_loop1 (hQ : ∀ J, rdQ I J 97 122 → gg (d + 3) mX12_readsName 31 [some (.ref 67), none] [] J Q) : ∀ (g : Nat) (J : gI), (J 67 6).toInt ≤ (J 67 8).toInt + g → rdQ I J 97 122 ∨ J = I → aInv bT J → (J 67 8).toInt ≤ (J 67 6).toInt → gg (d + 3) mX12_readsName 0 [some (.ref 67), none] [] J Q := by
  intro g
  induction g with
  | zero =>
    intro J hg hJ hi hle
    have ha := ain_of hi (show bnd bT 67 8 = (0, 200) by decide +kernel)
    dsimp only at ha
    have eb : bA J (J 67 8) = -1 := bA_neg (by omega)
    have hJ' : rdQ I J 97 122 := by
      rcases hJ with h | h
      · exact h
      · subst h
        refine ⟨afr.rf, hi, Int.le_refl _, hle, fun h1 => ?_⟩
        rw [eb] at h1
        exact absurd h1 (by decide)
    refine G_aload_n (pc := 0) rfl dX12_readsName_0 ?_
    refine G_aload_n (pc := 1) rfl dX12_readsName_1 ?_
    refine G_getI (pc := 2) (ci := 12) (j := 8) rfl rfl lq_RX12_130 rfl rfl dX12_readsName_2 ?_
    refine oX12_readsName_5 (d + 2) _ [.int (J 67 8)] [] J _ (fun r h => r = some (.int (bA J (J 67 8))) ∧ h = (SH0, RF0, J)) 67 12 126 mX12_byteAt rfl List.mem_cons_self mt_X12_byteAt rfl ls1 ls0 (by simp) (byteAt_G ha.1 hi ⟨rfl, rfl⟩) ?_
    rintro _ _ ⟨rfl, rfl⟩
    dsimp only [Option.toList, List.cons_append, List.nil_append]
    refine G_bipush (pc := 8) (v := 97) (by decide) dX12_readsName_8 ?_
    refine G_bipush (pc := 10) (v := 122) (by decide) dX12_readsName_10 ?_
    rw [eb]
    refine oX12_readsName_12 (d + 2) _ [.int (-1 : Int32), .int 97, .int 122] [] J _ (fun r h => (∃ y : Int32, r = some (.int y) ∧ ((y = 1 ∧ 97 ≤ ((-1 : Int32)).toInt ∧ ((-1 : Int32)).toInt ≤ 122) ∨ (y = 0 ∧ ¬ (97 ≤ ((-1 : Int32)).toInt ∧ ((-1 : Int32)).toInt ≤ 122)))) ∧ h = (SH0, RF0, J)) mX12_in1 mt_X12_in1 rfl (ls3 ⟨_, rfl⟩ ⟨_, rfl⟩ ⟨_, rfl⟩) ls0 (by simp) (in1_G (fun a b => ⟨⟨1, rfl, Or.inl ⟨rfl, a, b⟩⟩, rfl⟩) (fun a => ⟨⟨0, rfl, Or.inr ⟨rfl, a⟩⟩, rfl⟩)) ?_
    rintro _ _ ⟨⟨y, rfl, hy⟩, rfl⟩
    dsimp only [Option.toList, List.cons_append, List.nil_append]
    have ey : y = 0 := by
      rcases hy with ⟨-, hy, -⟩ | ⟨hy, -⟩
      · exact absurd hy (by decide)
      · exact hy
    subst ey
    exact G_if_eq (pc := 15) (tgt := 31) (by decide) dX12_readsName_15 (fun _ => hQ J hJ') (fun c => absurd rfl c)
  | succ g ih =>
    intro J hg hJ hi hle
    have ha := ain_of hi (show bnd bT 67 8 = (0, 200) by decide +kernel)
    have hz := ain_of hi (show bnd bT 67 6 = (0, 200) by decide +kernel)
    dsimp only at ha hz
    refine G_aload_n (pc := 0) rfl dX12_readsName_0 ?_
    refine G_aload_n (pc := 1) rfl dX12_readsName_1 ?_
    refine G_getI (pc := 2) (ci := 12) (j := 8) rfl rfl lq_RX12_130 rfl rfl dX12_readsName_2 ?_
    refine oX12_readsName_5 (d + 2) _ [.int (J 67 8)] [] J _ (fun r h => r = some (.int (bA J (J 67 8))) ∧ h = (SH0, RF0, J)) 67 12 126 mX12_byteAt rfl List.mem_cons_self mt_X12_byteAt rfl ls1 ls0 (by simp) (byteAt_G ha.1 hi ⟨rfl, rfl⟩) ?_
    rintro _ _ ⟨rfl, rfl⟩
    dsimp only [Option.toList, List.cons_append, List.nil_append]
    refine G_bipush (pc := 8) (v := 97) (by decide) dX12_readsName_8 ?_
    refine G_bipush (pc := 10) (v := 122) (by decide) dX12_readsName_10 ?_
    refine oX12_readsName_12 (d + 2) _ [.int (bA J (J 67 8)), .int 97, .int 122] [] J _ (fun r h => (∃ y : Int32, r = some (.int y) ∧ ((y = 1 ∧ 97 ≤ ((bA J (J 67 8))).toInt ∧ ((bA J (J 67 8))).toInt ≤ 122) ∨ (y = 0 ∧ ¬ (97 ≤ ((bA J (J 67 8))).toInt ∧ ((bA J (J 67 8))).toInt ≤ 122)))) ∧ h = (SH0, RF0, J)) mX12_in1 mt_X12_in1 rfl (ls3 ⟨_, rfl⟩ ⟨_, rfl⟩ ⟨_, rfl⟩) ls0 (by simp) (in1_G (fun a b => ⟨⟨1, rfl, Or.inl ⟨rfl, a, b⟩⟩, rfl⟩) (fun a => ⟨⟨0, rfl, Or.inr ⟨rfl, a⟩⟩, rfl⟩)) ?_
    rintro _ _ ⟨⟨y, rfl, hy⟩, rfl⟩
    dsimp only [Option.toList, List.cons_append, List.nil_append]
    rcases hy with ⟨rfl, hy1, hy2⟩ | ⟨rfl, hy⟩
    · have hy1 : (97 : Int) ≤ _ := hy1
      have hlt := bA_lt (I := J) (x := J 67 8) (by omega)
      refine G_if_eq (pc := 15) (tgt := 31) (by decide) dX12_readsName_15 (fun c => absurd c (by decide)) (fun _ => ?_)
      refine G_aload_n (pc := 18) rfl dX12_readsName_18 ?_
      refine G_dup (pc := 19) rfl dX12_readsName_19 ?_
      refine G_getI (pc := 20) (ci := 12) (j := 8) rfl rfl lq_RX12_130 rfl rfl dX12_readsName_20 ?_
      refine G_iconst (pc := 23) (v := 1) (by decide) dX12_readsName_23 ?_
      refine G_iadd (pc := 24) rfl dX12_readsName_24 ?_
      refine G_putI (pc := 25) (ci := 12) (j := 8) rfl lq_RX12_130 rfl rfl rfl trivial dX12_readsName_25 ?_
      refine G_goto (pc := 28) (tgt := 0) (by decide) dX12_readsName_28 ?_
      have e1 := a_inc (x := J 67 8) ha.1 (by omega)
      refine ih _ (by rw [gup_at, gup_ne (Or.inr (by decide)), e1]; omega) (Or.inl ?_) (inv_at (Or.inl rfl) hi (by omega) (by omega)) (by rw [gup_at, gup_ne (Or.inr (by decide)), e1]; omega)
      rcases hJ with h | h
      · refine ⟨h.1.put (mdR_at (Or.inl rfl)), inv_at (Or.inl rfl) hi (by omega) (by omega), ?_, ?_, fun a b => ?_⟩
        · rw [gup_at, e1]
          have := h.2.2.1
          omega
        · rw [gup_at, e1, ← h.1 67 6 (mdR_ne (Or.inr (Or.inl (by decide))))]
          omega
        · rw [gup_at, e1]
          have := h.2.2.2.2 a b
          omega
      · subst h
        refine ⟨afr.rf.put (mdR_at (Or.inl rfl)), inv_at (Or.inl rfl) hi (by omega) (by omega), ?_, ?_, fun _ _ => ?_⟩
        · rw [gup_at, e1]
          omega
        · rw [gup_at, e1]
          omega
        · rw [gup_at, e1]
          omega
    · refine G_if_eq (pc := 15) (tgt := 31) (by decide) dX12_readsName_15 (fun _ => hQ J ?_) (fun c => absurd rfl c)
      rcases hJ with h | h
      · exact h
      · subst h
        exact ⟨afr.rf, hi, Int.le_refl _, hle, fun a b => absurd ⟨a, b⟩ hy⟩
set_option maxRecDepth 100000 in
set_option maxHeartbeats 4000000 in
theorem readsName_G (hN : MSok bT (fun _ => True) MT (129, 1, [(1, 67, 0), (0, 0, 17)], [], [], [(some (0, 1), [], [])])) (hi : aInv bT I) (hle : (I 67 8).toInt ≤ (I 67 6).toInt) (hQ : ∀ J, rdQ I J 97 122 → (J 67 10).toInt ≠ -1 → (J 67 10).toInt ≠ 100 → Q none (SH0, RF0, J)) : gg (d + 3) mX12_readsName 0 (gent 2 [.ref 67]) [] I Q := by
  have hz := ain_of hi (show bnd bT 67 6 = (0, 200) by decide +kernel)
  dsimp only at hz
  have ha := ain_of hi (show bnd bT 67 8 = (0, 200) by decide +kernel)
  dsimp only at ha
  refine readsName_loop1 (fun J hJ => ?_) 200 I (by omega) (Or.inr rfl) hi hle
  refine G_aload_n (pc := 31) rfl dX12_readsName_31 ?_
  refine G_bipush (pc := 32) (v := 101) (by decide) dX12_readsName_32 ?_
  refine G_putI (pc := 34) (ci := 12) (j := 10) rfl lq_RX12_139 rfl rfl rfl trivial dX12_readsName_34 ?_
  refine G_iconst (pc := 37) (v := Int32.ofNat 0) (by decide) dX12_readsName_37 ?_
  refine G_istore_n (pc := 38) rfl rfl (by decide) dX12_readsName_38 ?_
  refine readsName_loop2 hN (I := gup J 67 10 101) (fun K hK hiK h1 h2 => hQ K ⟨(hJ.1.put (mdR_at (Or.inr (Or.inl rfl)))).tr hK (by decide), hiK, ?_, ?_, fun a b => ?_⟩ h1 h2) 18 0 _ rfl afr.rf (inv_put hJ.2.1 (a_full (by decide +kernel))) (by rw [gup_at]; decide) (by rw [gup_at]; decide)
  all_goals have e8 : K 67 8 = J 67 8 := (hK 67 8 (by decide)).trans (gup_ne (Or.inr (by decide)))
  · rw [e8]
    exact hJ.2.2.1
  · rw [e8]
    exact hJ.2.2.2.1
  · rw [e8]
    exact hJ.2.2.2.2 a b
def pw (k : Int) : Int := if k ≤ 0 then 0 else if k = 1 then 9 else if k = 2 then 99 else if k = 3 then 999 else 9999
theorem pw_s {k : Int} (h0 : 0 ≤ k) (h : k < 4) : 10 * pw k + 9 = pw (k + 1) ∧ pw k ≤ 999 := by
  have : k = 0 ∨ k = 1 ∨ k = 2 ∨ k = 3 := by omega
  rcases this with rfl | rfl | rfl | rfl <;> decide
theorem pw_m {k : Int} (h0 : 0 ≤ k) : 0 ≤ pw k ∧ pw k ≤ pw (k + 1) ∧ pw k ≤ 9999 := by
  unfold pw
  repeat' split
  all_goals omega
theorem val_s {v c : Int32} (h0 : 0 ≤ v.toInt) (h1 : v.toInt ≤ 999) (h2 : 48 ≤ c.toInt) (h3 : c.toInt ≤ 57) : (10 * v + c - 48).toInt = 10 * v.toInt + c.toInt - 48 := by
  rw [Int32.toInt_sub, Int32.toInt_add, Int32.toInt_mul, show (10 : Int32).toInt = 10 from rfl, show (48 : Int32).toInt = 48 from rfl, a_bm (z := 10 * v.toInt) (by unfold aLo; omega) (by unfold aHi; omega), a_bm (z := 10 * v.toInt + c.toInt) (by unfold aLo; omega) (by unfold aHi; omega), a_bm (by unfold aLo; omega) (by unfold aHi; omega)]
theorem rdQ.st {I J K : gI} {lo hi : Int} (h : rdQ I J lo hi ∨ (afr mdR I J ∧ J 67 8 = I 67 8)) (hK : afr mdR J K) (hi2 : aInv bT K) (h8 : (K 67 8).toInt = (J 67 8).toInt + 1) (hle : (K 67 8).toInt ≤ (J 67 6).toInt) : rdQ I K lo hi := by
  rcases h with h | h
  · refine ⟨h.1.tr hK (by decide), hi2, ?_, ?_, fun a b => ?_⟩
    · have := h.2.2.1
      omega
    · rw [← h.1 67 6 (mdR_ne (Or.inr (Or.inl (by decide))))]
      exact hle
    · have := h.2.2.2.2 a b
      omega
  · refine ⟨h.1.tr hK (by decide), hi2, ?_, ?_, fun a b => ?_⟩
    · rw [← h.2]
      omega
    · rw [← h.1 67 6 (mdR_ne (Or.inr (Or.inl (by decide))))]
      exact hle
    · rw [← h.2]
      omega
set_option maxRecDepth 100000 in
set_option maxHeartbeats 8000000 in
theorem readsNumber_loop (hQ : ∀ J, rdQ I J 48 57 → (J 67 9).toInt ≤ (J 67 8).toInt → 0 ≤ (J 67 11).toInt → (J 67 11).toInt ≤ 9999 → gg (d + 2) mX12_readsNumber 79 [some (.ref 67)] [] J Q) : ∀ (g : Nat) (J : gI), (J 67 6).toInt ≤ (J 67 8).toInt + g → rdQ I J 48 57 ∨ (afr mdR I J ∧ J 67 8 = I 67 8) → aInv bT J → (J 67 8).toInt ≤ (J 67 6).toInt → (J 67 9).toInt ≤ (J 67 8).toInt → 0 ≤ (J 67 11).toInt → (J 67 11).toInt ≤ pw ((J 67 8).toInt - (J 67 9).toInt) → gg (d + 2) mX12_readsNumber 5 [some (.ref 67)] [] J Q := by
  intro g
  induction g with
  | zero =>
    intro J hg hJ hi hle hb hv0 hv1
    have ha := ain_of hi (show bnd bT 67 8 = (0, 200) by decide +kernel)
    dsimp only at ha
    have hpw := pw_m (k := (J 67 8).toInt - (J 67 9).toInt) (by omega)
    have eb : bA J (J 67 8) = -1 := bA_neg (by omega)
    have hJ' : rdQ I J 48 57 := by
      rcases hJ with h | h
      · exact h
      · refine ⟨h.1, hi, by rw [h.2]; exact Int.le_refl _, by rw [← h.1 67 6 (mdR_ne (Or.inr (Or.inl (by decide))))]; exact hle, fun h1 => ?_⟩
        rw [← bA_eqR h.1, ← h.2, eb] at h1
        exact absurd h1 (by decide)
    refine G_aload_n (pc := 5) rfl dX12_readsNumber_5 ?_
    refine G_aload_n (pc := 6) rfl dX12_readsNumber_6 ?_
    refine G_getI (pc := 7) (ci := 12) (j := 8) rfl rfl lq_RX12_130 rfl rfl dX12_readsNumber_7 ?_
    refine oX12_readsNumber_10 (d + 1) _ [.int (J 67 8)] [] J _ (fun r h => r = some (.int (bA J (J 67 8))) ∧ h = (SH0, RF0, J)) 67 12 126 mX12_byteAt rfl List.mem_cons_self mt_X12_byteAt rfl ls1 ls0 (by simp) (byteAt_G ha.1 hi ⟨rfl, rfl⟩) ?_
    rintro _ _ ⟨rfl, rfl⟩
    dsimp only [Option.toList, List.cons_append, List.nil_append]
    refine G_bipush (pc := 13) (v := 48) (by decide) dX12_readsNumber_13 ?_
    refine G_bipush (pc := 15) (v := 57) (by decide) dX12_readsNumber_15 ?_
    rw [eb]
    refine oX12_readsNumber_17 (d + 1) _ [.int (-1 : Int32), .int 48, .int 57] [] J _ (fun r h => (∃ y : Int32, r = some (.int y) ∧ ((y = 1 ∧ 48 ≤ ((-1 : Int32)).toInt ∧ ((-1 : Int32)).toInt ≤ 57) ∨ (y = 0 ∧ ¬ (48 ≤ ((-1 : Int32)).toInt ∧ ((-1 : Int32)).toInt ≤ 57)))) ∧ h = (SH0, RF0, J)) mX12_in1 mt_X12_in1 rfl (ls3 ⟨_, rfl⟩ ⟨_, rfl⟩ ⟨_, rfl⟩) ls0 (by simp) (in1_G (fun a b => ⟨⟨1, rfl, Or.inl ⟨rfl, a, b⟩⟩, rfl⟩) (fun a => ⟨⟨0, rfl, Or.inr ⟨rfl, a⟩⟩, rfl⟩)) ?_
    rintro _ _ ⟨⟨y, rfl, hy⟩, rfl⟩
    dsimp only [Option.toList, List.cons_append, List.nil_append]
    have ey : y = 0 := by
      rcases hy with ⟨-, hy, -⟩ | ⟨hy, -⟩
      · exact absurd hy (by decide)
      · exact hy
    subst ey
    exact G_if_eq (pc := 20) (tgt := 79) (by decide) dX12_readsNumber_20 (fun _ => hQ J hJ' hb hv0 (by omega)) (fun c => absurd rfl c)
  | succ g ih =>
    intro J hg hJ hi hle hb hv0 hv1
    have ha := ain_of hi (show bnd bT 67 8 = (0, 200) by decide +kernel)
    have hz := ain_of hi (show bnd bT 67 6 = (0, 200) by decide +kernel)
    have hbb := ain_of hi (show bnd bT 67 9 = (0, 200) by decide +kernel)
    dsimp only at ha hz hbb
    have hpw := pw_m (k := (J 67 8).toInt - (J 67 9).toInt) (by omega)
    refine G_aload_n (pc := 5) rfl dX12_readsNumber_5 ?_
    refine G_aload_n (pc := 6) rfl dX12_readsNumber_6 ?_
    refine G_getI (pc := 7) (ci := 12) (j := 8) rfl rfl lq_RX12_130 rfl rfl dX12_readsNumber_7 ?_
    refine oX12_readsNumber_10 (d + 1) _ [.int (J 67 8)] [] J _ (fun r h => r = some (.int (bA J (J 67 8))) ∧ h = (SH0, RF0, J)) 67 12 126 mX12_byteAt rfl List.mem_cons_self mt_X12_byteAt rfl ls1 ls0 (by simp) (byteAt_G ha.1 hi ⟨rfl, rfl⟩) ?_
    rintro _ _ ⟨rfl, rfl⟩
    dsimp only [Option.toList, List.cons_append, List.nil_append]
    refine G_bipush (pc := 13) (v := 48) (by decide) dX12_readsNumber_13 ?_
    refine G_bipush (pc := 15) (v := 57) (by decide) dX12_readsNumber_15 ?_
    refine oX12_readsNumber_17 (d + 1) _ [.int (bA J (J 67 8)), .int 48, .int 57] [] J _ (fun r h => (∃ y : Int32, r = some (.int y) ∧ ((y = 1 ∧ 48 ≤ ((bA J (J 67 8))).toInt ∧ ((bA J (J 67 8))).toInt ≤ 57) ∨ (y = 0 ∧ ¬ (48 ≤ ((bA J (J 67 8))).toInt ∧ ((bA J (J 67 8))).toInt ≤ 57)))) ∧ h = (SH0, RF0, J)) mX12_in1 mt_X12_in1 rfl (ls3 ⟨_, rfl⟩ ⟨_, rfl⟩ ⟨_, rfl⟩) ls0 (by simp) (in1_G (fun a b => ⟨⟨1, rfl, Or.inl ⟨rfl, a, b⟩⟩, rfl⟩) (fun a => ⟨⟨0, rfl, Or.inr ⟨rfl, a⟩⟩, rfl⟩)) ?_
    rintro _ _ ⟨⟨y, rfl, hy⟩, rfl⟩
    dsimp only [Option.toList, List.cons_append, List.nil_append]
    rcases hy with ⟨rfl, hy1, hy2⟩ | ⟨rfl, hy⟩
    · have hy1 : (48 : Int) ≤ _ := hy1
      have hy2 : _ ≤ (57 : Int) := hy2
      have hlt := bA_lt (I := J) (x := J 67 8) (by omega)
      have e1 := a_inc (x := J 67 8) ha.1 (by omega)
      have e8 : ∀ v : Int32, gup J 67 11 v 67 8 = J 67 8 := fun v => gup_ne (Or.inr (by decide))
      have e9 : ∀ v w : Int32, gup (gup J 67 11 v) 67 8 w 67 9 = J 67 9 := fun v w => (gup_ne (Or.inr (by decide))).trans (gup_ne (Or.inr (by decide)))
      have e6 : ∀ v w : Int32, gup (gup J 67 11 v) 67 8 w 67 6 = J 67 6 := fun v w => (gup_ne (Or.inr (by decide))).trans (gup_ne (Or.inr (by decide)))
      have e11 : ∀ v w : Int32, gup (gup J 67 11 v) 67 8 w 67 11 = v := fun v w => (gup_ne (Or.inr (by decide))).trans gup_at
      have put : ∀ v : Int32, 0 ≤ v.toInt → v.toInt ≤ pw ((J 67 8).toInt - (J 67 9).toInt + 1) → gg (d + 2) mX12_readsNumber 63 [some (.ref 67)] [.int v, .ref 67] J Q := by
        intro v hv2 hv3
        refine G_putI (pc := 63) (ci := 12) (j := 11) rfl lq_RX12_146 rfl rfl rfl trivial dX12_readsNumber_63 ?_
        refine G_aload_n (pc := 66) rfl dX12_readsNumber_66 ?_
        refine G_dup (pc := 67) rfl dX12_readsNumber_67 ?_
        refine G_getI (pc := 68) (ci := 12) (j := 8) rfl rfl lq_RX12_130 rfl rfl dX12_readsNumber_68 ?_
        refine G_iconst (pc := 71) (v := 1) (by decide) dX12_readsNumber_71 ?_
        refine G_iadd (pc := 72) rfl dX12_readsNumber_72 ?_
        refine G_putI (pc := 73) (ci := 12) (j := 8) rfl lq_RX12_130 rfl rfl rfl trivial dX12_readsNumber_73 ?_
        refine G_goto (pc := 76) (tgt := 5) (by decide) dX12_readsNumber_76 ?_
        have hiK : aInv bT (gup (gup J 67 11 v) 67 8 (gup J 67 11 v 67 8 + 1)) := by
          rw [e8]
          exact inv_at (Or.inl rfl) (inv_put hi (a_full (by decide +kernel))) (by omega) (by omega)
        refine ih _ ?_ (Or.inl (rdQ.st hJ ((afr.rf.put (mdR_at (Or.inr (Or.inr rfl)))).put (mdR_at (Or.inl rfl))) hiK ?_ ?_)) hiK ?_ ?_ ?_ ?_
        · rw [e6, gup_at, e8, e1]
          omega
        · rw [gup_at, e8, e1]
        · rw [gup_at, e8, e1]
          omega
        · rw [e6, gup_at, e8, e1]
          omega
        · rw [e9, gup_at, e8, e1]
          omega
        · rw [e11]
          exact hv2
        · rw [e11, e9, gup_at, e8, e1, show (J 67 8).toInt + 1 - (J 67 9).toInt = (J 67 8).toInt - (J 67 9).toInt + 1 by omega]
          exact hv3
      refine G_if_eq (pc := 20) (tgt := 79) (by decide) dX12_readsNumber_20 (fun c => absurd c (by decide)) (fun _ => ?_)
      refine G_aload_n (pc := 23) rfl dX12_readsNumber_23 ?_
      refine G_aload_n (pc := 24) rfl dX12_readsNumber_24 ?_
      refine G_getI (pc := 25) (ci := 12) (j := 8) rfl rfl lq_RX12_130 rfl rfl dX12_readsNumber_25 ?_
      refine G_aload_n (pc := 28) rfl dX12_readsNumber_28 ?_
      refine G_getI (pc := 29) (ci := 12) (j := 9) rfl rfl lq_RX12_133 rfl rfl dX12_readsNumber_29 ?_
      refine G_isub (pc := 32) rfl dX12_readsNumber_32 ?_
      refine G_iconst (pc := 33) (v := 4) (by decide) dX12_readsNumber_33 ?_
      have ek : (J 67 8 - J 67 9).toInt = (J 67 8).toInt - (J 67 9).toInt := by rw [Int32.toInt_sub, a_bm (by unfold aLo; omega) (by unfold aHi; omega)]
      refine G_icmp_ge (pc := 34) (tgt := 59) (by decide) dX12_readsNumber_34 (fun c => ?_) (fun c => ?_)
      · refine G_aload_n (pc := 59) rfl dX12_readsNumber_59 ?_
        refine G_getI (pc := 60) (ci := 12) (j := 11) rfl rfl lq_RX12_146 rfl rfl dX12_readsNumber_60 ?_
        exact put _ hv0 (by omega)
      · rw [Int32.le_iff_toInt_le, ek] at c
        have c : ¬ (4 : Int) ≤ _ := c
        have hps := pw_s (k := (J 67 8).toInt - (J 67 9).toInt) (by omega) (by omega)
        refine G_bipush (pc := 37) (v := 10) (by decide) dX12_readsNumber_37 ?_
        refine G_aload_n (pc := 39) rfl dX12_readsNumber_39 ?_
        refine G_getI (pc := 40) (ci := 12) (j := 11) rfl rfl lq_RX12_146 rfl rfl dX12_readsNumber_40 ?_
        refine G_imul (pc := 43) rfl dX12_readsNumber_43 ?_
        refine G_aload_n (pc := 44) rfl dX12_readsNumber_44 ?_
        refine G_aload_n (pc := 45) rfl dX12_readsNumber_45 ?_
        refine G_getI (pc := 46) (ci := 12) (j := 8) rfl rfl lq_RX12_130 rfl rfl dX12_readsNumber_46 ?_
        refine oX12_readsNumber_49 (d + 1) _ [.int (J 67 8)] [.int (10 * J 67 11), .ref 67] J _ (fun r h => r = some (.int (bA J (J 67 8))) ∧ h = (SH0, RF0, J)) 67 12 126 mX12_byteAt rfl List.mem_cons_self mt_X12_byteAt rfl ls1 (fun v hv => by
          simp only [List.mem_cons, List.not_mem_nil, or_false] at hv
          rcases hv with rfl | rfl
          · exact Or.inl ⟨_, rfl⟩
          · exact Or.inr ⟨_, rfl⟩) (by simp) (byteAt_G ha.1 hi ⟨rfl, rfl⟩) ?_
        rintro _ _ ⟨rfl, rfl⟩
        dsimp only [Option.toList, List.cons_append, List.nil_append]
        refine G_iadd (pc := 52) rfl dX12_readsNumber_52 ?_
        refine G_bipush (pc := 53) (v := 48) (by decide) dX12_readsNumber_53 ?_
        refine G_isub (pc := 55) rfl dX12_readsNumber_55 ?_
        refine G_goto (pc := 56) (tgt := 63) (by decide) dX12_readsNumber_56 ?_
        have ev := val_s (v := J 67 11) (c := bA J (J 67 8)) hv0 (by omega) hy1 hy2
        exact put _ (by rw [ev]; omega) (by rw [ev]; omega)
    · refine G_if_eq (pc := 20) (tgt := 79) (by decide) dX12_readsNumber_20 (fun _ => hQ J ?_ hb hv0 (by omega)) (fun c => absurd rfl c)
      rcases hJ with h | h
      · exact h
      · refine ⟨h.1, hi, by rw [h.2]; exact Int.le_refl _, by rw [← h.1 67 6 (mdR_ne (Or.inr (Or.inl (by decide))))]; exact hle, fun a b => absurd ?_ hy⟩
        rw [h.2, bA_eqR h.1]
        exact ⟨a, b⟩
set_option maxRecDepth 100000 in
set_option maxHeartbeats 4000000 in
theorem readsNumber_G (hi : aInv bT I) (hle : (I 67 8).toInt ≤ (I 67 6).toInt) (hb : (I 67 9).toInt ≤ (I 67 8).toInt) (hQ : ∀ J, rdQ I J 48 57 → (J 67 10).toInt ≠ -1 → 0 ≤ (J 67 11).toInt → (J 67 11).toInt ≤ 9999 → Q none (SH0, RF0, J)) : gg (d + 2) mX12_readsNumber 0 (gent 1 [.ref 67]) [] I Q := by
  have hz := ain_of hi (show bnd bT 67 6 = (0, 200) by decide +kernel)
  have ha := ain_of hi (show bnd bT 67 8 = (0, 200) by decide +kernel)
  dsimp only at hz ha
  refine G_aload_n (pc := 0) rfl dX12_readsNumber_0 ?_
  refine G_iconst (pc := 1) (v := 0) (by decide) dX12_readsNumber_1 ?_
  refine G_putI (pc := 2) (ci := 12) (j := 11) rfl lq_RX12_146 rfl rfl rfl trivial dX12_readsNumber_2 ?_
  have e8 : gup I 67 11 0 67 8 = I 67 8 := gup_ne (Or.inr (by decide))
  have e9 : gup I 67 11 0 67 9 = I 67 9 := gup_ne (Or.inr (by decide))
  have e6 : gup I 67 11 0 67 6 = I 67 6 := gup_ne (Or.inr (by decide))
  refine readsNumber_loop (I := I) (fun J hJ hbJ hv0 hv1 => ?_) 200 _ (by rw [e6, e8]; omega) (Or.inr ⟨afr.rf.put (mdR_at (Or.inr (Or.inr rfl))), e8⟩) (inv_put hi (a_full (by decide +kernel))) (by rw [e6, e8]; exact hle) (by rw [e9, e8]; exact hb) (by rw [gup_at]; decide) (by rw [gup_at, e8, e9]; exact (pw_m (by omega)).1)
  have fin : ∀ v : Int32, v.toInt ≠ -1 → gg (d + 2) mX12_readsNumber 100 [some (.ref 67)] [.int v, .ref 67] J Q := by
    intro v hv
    refine G_putI (pc := 100) (ci := 12) (j := 10) rfl lq_RX12_139 rfl rfl rfl trivial dX12_readsNumber_100 ?_
    have k8 : gup J 67 10 v 67 8 = J 67 8 := gup_ne (Or.inr (by decide))
    have k11 : gup J 67 10 v 67 11 = J 67 11 := gup_ne (Or.inr (by decide))
    refine G_vret (pc := 103) (Nat.le_refl _) (Nat.le_refl _) rfl dX12_readsNumber_103 (hQ _ ⟨hJ.1.put (mdR_at (Or.inr (Or.inl rfl))), inv_put hJ.2.1 (a_full (by decide +kernel)), by rw [k8]; exact hJ.2.2.1, by rw [k8]; exact hJ.2.2.2.1, fun a b => by rw [k8]; exact hJ.2.2.2.2 a b⟩ (by rw [gup_at]; exact hv) (by rw [k11]; exact hv0) (by rw [k11]; exact hv1))
  refine G_aload_n (pc := 79) rfl dX12_readsNumber_79 ?_
  refine G_aload_n (pc := 80) rfl dX12_readsNumber_80 ?_
  refine G_getI (pc := 81) (ci := 12) (j := 8) rfl rfl lq_RX12_130 rfl rfl dX12_readsNumber_81 ?_
  refine G_aload_n (pc := 84) rfl dX12_readsNumber_84 ?_
  refine G_getI (pc := 85) (ci := 12) (j := 9) rfl rfl lq_RX12_133 rfl rfl dX12_readsNumber_85 ?_
  refine G_isub (pc := 88) rfl dX12_readsNumber_88 ?_
  refine G_iconst (pc := 89) (v := 4) (by decide) dX12_readsNumber_89 ?_
  refine G_icmp_le (pc := 90) (tgt := 98) (by decide) dX12_readsNumber_90 (fun _ => ?_) (fun _ => ?_)
  · refine G_bipush (pc := 98) (v := 100) (by decide) dX12_readsNumber_98 ?_
    exact fin _ (by decide)
  · refine G_bipush (pc := 93) (v := 101) (by decide) dX12_readsNumber_93 ?_
    refine G_goto (pc := 95) (tgt := 100) (by decide) dX12_readsNumber_95 ?_
    exact fin _ (by decide)
end RD
