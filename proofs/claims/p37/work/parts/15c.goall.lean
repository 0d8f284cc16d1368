/-! ===== goAll: how many halts go by ===== -/
def mdB : aMd := [(19, 1, 1), (19, 9, 9), (24, 0, 5), (33, 0, 4)]
def mdGX : aMd := [(19, 1, 1), (19, 9, 9), (24, 0, 5), (33, 0, 4), (19, 3, 3)]
def mdG : aMd := [(68, 0, 0), (68, 2, 2), (68, 36, 36), (68, 39, 39), (68, 41, 41), (68, 44, 44), (68, 46, 46), (68, 49, 49), (68, 51, 51), (68, 54, 54), (68, 56, 56), (68, 59, 59), (68, 61, 61), (68, 64, 64), (71, 0, 199)]
/-- HALT behind g items from the k-th on -/
def goF (it : Nat → Int) (cn en sz i : Int) : Nat → Nat → Int → Int
  | 0, _, h => h
  | g + 1, k, h => if i + (k : Int) < sz then goF it cn en sz i g (k + 1) (if 0 ≤ it k ∧ it k ≤ cn ∧ h < en then h + 1 else h) else h
theorem add_k {i : Int32} {k : Nat} (hi : 0 ≤ i.toInt) (hk : k < 100) : (i + Int32.ofNat k).toInt = i.toInt + k ∨ ((i + Int32.ofNat k).toInt < 0 ∧ 2147483647 < i.toInt + k) := by
  have hr := a_rng i
  unfold aLo aHi at hr
  rw [Int32.toInt_add, n_int (by omega)]
  by_cases h : i.toInt + (k : Int) ≤ 2147483647
  · exact Or.inl (a_bm (by unfold aLo; omega) (by unfold aHi; omega))
  · refine Or.inr ⟨?_, by omega⟩
    show Int.bmod (i.toInt + (k : Int)) 4294967296 < 0
    rw [Int.bmod]
    split <;> omega
theorem isAct_G {d : Nat} {t : Int32} {I : gI} {Q : Option Value → gH → Prop} (h1 : 0 ≤ t.toInt → t.toInt ≤ (I 19 8).toInt → Q (some (.int 1)) (SH0, RF0, I)) (h0 : ¬ (0 ≤ t.toInt ∧ t.toInt ≤ (I 19 8).toInt) → Q (some (.int 0)) (SH0, RF0, I)) : gg d mX1_isAct 0 (gent 2 [.ref 19, .int t]) [] I Q := by
  refine G_iload_n (pc := 0) rfl dX1_isAct_0 ?_
  refine oX1_isAct_1 _ _ _ _ _ _ (fun c => ?_) (fun c => ?_)
  · have c : t.toInt < 0 := c
    refine G_iconst (pc := 16) (v := 0) (by decide) dX1_isAct_16 ?_
    exact oX1_isAct_17 _ _ _ _ _ (Or.inl rfl) (h0 (by omega))
  · have c : ¬ t.toInt < 0 := c
    refine G_iload_n (pc := 4) rfl dX1_isAct_4 ?_
    refine G_aload_n (pc := 5) rfl dX1_isAct_5 ?_
    refine G_getI (pc := 6) (ci := 1) (j := 8) rfl rfl lq_RX1_72 rfl rfl dX1_isAct_6 ?_
    refine oX1_isAct_9 _ _ _ _ _ _ _ (fun c2 => ?_) (fun c2 => ?_)
    · have c2 : (I 19 8).toInt < t.toInt := c2
      refine G_iconst (pc := 16) (v := 0) (by decide) dX1_isAct_16 ?_
      exact oX1_isAct_17 _ _ _ _ _ (Or.inl rfl) (h0 (by omega))
    · have c2 : ¬ (I 19 8).toInt < t.toInt := c2
      refine G_iconst (pc := 12) (v := 1) (by decide) dX1_isAct_12 ?_
      refine G_goto (pc := 13) (tgt := 17) (by decide) dX1_isAct_13 ?_
      exact oX1_isAct_17 _ _ _ _ _ (Or.inr rfl) (h1 (by omega) (by omega))
theorem isOver_G {d : Nat} {I : gI} {Q : Option Value → gH → Prop} (h1 : (I 19 2).toInt ≤ (I 19 1).toInt → Q (some (.int 1)) (SH0, RF0, I)) (h0 : (I 19 1).toInt < (I 19 2).toInt → Q (some (.int 0)) (SH0, RF0, I)) : gg d mX1_isOver 0 (gent 1 [.ref 19]) [] I Q := by
  refine G_aload_n (pc := 0) rfl dX1_isOver_0 ?_
  refine G_getI (pc := 1) (ci := 1) (j := 1) rfl rfl lq_RX1_60 rfl rfl dX1_isOver_1 ?_
  refine G_aload_n (pc := 4) rfl dX1_isOver_4 ?_
  refine G_getI (pc := 5) (ci := 1) (j := 2) rfl rfl lq_RX1_9 rfl rfl dX1_isOver_5 ?_
  refine oX1_isOver_8 _ _ _ _ _ _ _ (fun c => ?_) (fun c => ?_)
  · have c : (I 19 1).toInt < (I 19 2).toInt := c
    refine G_iconst (pc := 15) (v := 0) (by decide) dX1_isOver_15 ?_
    exact oX1_isOver_16 _ _ _ _ _ (Or.inl rfl) (h0 c)
  · have c : ¬ (I 19 1).toInt < (I 19 2).toInt := c
    refine G_iconst (pc := 11) (v := 1) (by decide) dX1_isOver_11 ?_
    refine G_goto (pc := 12) (tgt := 16) (by decide) dX1_isOver_12 ?_
    exact oX1_isOver_16 _ _ _ _ _ (Or.inr rfl) (h1 (by omega))
theorem scored_G {d : Nat} {w : Int32} {I : gI} {Q : Option Value → gH → Prop} (h : Q (some (.int w)) (SH0, RF0, gup I 19 3 (I 19 3 + w))) : gg d mX11_scored 0 (gent 2 [.ref 0, .int w]) [] I Q := by
  refine G_aload_n (pc := 0) rfl dX11_scored_0 ?_
  refine G_getR (pc := 1) (ci := 11) (j := 0) rfl lq_RX11_56 rfl rfl rfl dX11_scored_1 ?_
  refine G_dup (pc := 4) rfl dX11_scored_4 ?_
  refine G_getI (pc := 5) (ci := 1) (j := 3) rfl rfl lq_RX11_162 rfl rfl dX11_scored_5 ?_
  refine G_iload_n (pc := 8) rfl dX11_scored_8 ?_
  refine G_iadd (pc := 9) rfl dX11_scored_9 ?_
  refine G_putI (pc := 10) (ci := 1) (j := 3) rfl lq_RX11_162 rfl rfl rfl trivial dX11_scored_10 ?_
  refine G_iload_n (pc := 13) rfl dX11_scored_13 ?_
  exact oX11_scored_14 _ _ _ _ _ h
theorem isActM_G {d : Nat} {t : Int32} {I : gI} {Q : Option Value → gH → Prop} (h1 : 0 ≤ t.toInt → t.toInt ≤ (I 68 4).toInt → Q (some (.int 1)) (SH0, RF0, I)) (h0 : ¬ (0 ≤ t.toInt ∧ t.toInt ≤ (I 68 4).toInt) → Q (some (.int 0)) (SH0, RF0, I)) : gg (d + 1) mX12_isAct 0 (gent 2 [.ref 67, .int t]) [] I Q := by
  have k0 : (0 : Int32).toInt = 0 := rfl
  refine G_iload_n (pc := 0) rfl dX12_isAct_0 ?_
  refine G_iconst (pc := 1) (v := 0) (by decide) dX12_isAct_1 ?_
  refine G_aload_n (pc := 2) rfl dX12_isAct_2 ?_
  refine G_getR (pc := 3) (ci := 12) (j := 0) rfl lq_RX12_9 rfl rfl rfl dX12_isAct_3 ?_
  refine G_iconst (pc := 6) (v := 4) (by decide) dX12_isAct_6 ?_
  refine G_iald (pc := 7) (jj := 4) rfl rfl rfl (a_vin (by decide) (by decide)) dX12_isAct_7 ?_
  refine oX12_isAct_8 d _ [.int t, .int 0, .int (I 68 4)] [] I _ _ mX12_in1 mt_X12_in1 rfl (lsi (lsi (lsi ls0))) ls0 (by simp) (in1b_G (fun a b => ?_) (fun a => ?_)) (fun _ _ h => h)
  · dsimp only [Option.toList, List.cons_append, List.nil_append]
    exact oX12_isAct_11 _ _ _ _ _ (Or.inr rfl) (h1 (by omega) b)
  · dsimp only [Option.toList, List.cons_append, List.nil_append]
    exact oX12_isAct_11 _ _ _ _ _ (Or.inl rfl) (h0 (by omega))
theorem isOverM_G {d : Nat} {I : gI} {Q : Option Value → gH → Prop} (h1 : (I 68 1).toInt ≤ (I 68 0).toInt → Q (some (.int 1)) (SH0, RF0, I)) (h0 : (I 68 0).toInt < (I 68 1).toInt → Q (some (.int 0)) (SH0, RF0, I)) : gg d mX12_isOver 0 (gent 1 [.ref 67]) [] I Q := by
  refine G_aload_n (pc := 0) rfl dX12_isOver_0 ?_
  refine G_getR (pc := 1) (ci := 12) (j := 0) rfl lq_RX12_9 rfl rfl rfl dX12_isOver_1 ?_
  refine G_iconst (pc := 4) (v := 0) (by decide) dX12_isOver_4 ?_
  refine G_iald (pc := 5) (jj := 0) rfl rfl rfl (a_vin (by decide) (by decide)) dX12_isOver_5 ?_
  refine G_aload_n (pc := 6) rfl dX12_isOver_6 ?_
  refine G_getR (pc := 7) (ci := 12) (j := 0) rfl lq_RX12_9 rfl rfl rfl dX12_isOver_7 ?_
  refine G_iconst (pc := 10) (v := 1) (by decide) dX12_isOver_10 ?_
  refine G_iald (pc := 11) (jj := 1) rfl rfl rfl (a_vin (by decide) (by decide)) dX12_isOver_11 ?_
  refine oX12_isOver_12 _ _ _ _ _ _ _ (fun c => ?_) (fun c => ?_)
  · have c : (I 68 0).toInt < (I 68 1).toInt := c
    refine G_iconst (pc := 19) (v := 0) (by decide) dX12_isOver_19 ?_
    exact oX12_isOver_20 _ _ _ _ _ (Or.inl rfl) (h0 c)
  · have c : ¬ (I 68 0).toInt < (I 68 1).toInt := c
    refine G_iconst (pc := 15) (v := 1) (by decide) dX12_isOver_15 ?_
    refine G_goto (pc := 16) (tgt := 20) (by decide) dX12_isOver_16 ?_
    exact oX12_isOver_20 _ _ _ _ _ (Or.inr rfl) (h1 (by omega))
/-- a halt of the class goes by -/
def hGoX (D : Nat) : Prop := ∀ (d : Nat) (t : Int32) (J : gI) (Q : Option Value → gH → Prop), aInv bT J → 0 ≤ (J 19 1).toInt → (J 19 1).toInt ≤ 15 → (∀ (y : Int32) (J' : gI), aInv bT J' → afr mdB J J' → (J' 19 1).toInt = (J 19 1).toInt + 1 → Q (some (.int y)) (SH0, RF0, J')) → gg (d + D) mX1_goBy 0 (gent mX1_goBy.2.2.1 [.ref 19, .int t]) [] J Q
def hGoM (D : Nat) : Prop := ∀ (d : Nat) (t : Int32) (J : gI) (Q : Option Value → gH → Prop), aInv bT J → WP J → 0 ≤ t.toInt → t.toInt ≤ 6 → 0 ≤ (J 68 0).toInt → (J 68 0).toInt ≤ 15 → (∀ (y : Int32) (J' : gI), aInv bT J' → afr mdG J J' → (J' 68 0).toInt = (J 68 0).toInt + 1 → Q (some (.int y)) (SH0, RF0, J')) → gg (d + D) mX12_goesBy 0 (gent mX12_goesBy.2.2.1 [.ref 67, .int t]) [] J Q
set_option maxRecDepth 100000 in
set_option maxHeartbeats 4000000 in
theorem goX_loop_0 {d : Nat} {I : gI} {i : Int32} {n : Nat} {Q : Option Value → gH → Prop} (hGo : hGoX 30) (hn : n ≤ 20) (hi0 : 0 ≤ i.toInt) (hsz : 0 ≤ (I 3 0).toInt ∧ (I 3 0).toInt ≤ 40) (hen : (I 19 2).toInt ≤ 16) (hQ : ∀ (y : Int32) (J : gI), aInv bT J → afr mdGX I J → (J 19 1).toInt = goF (fun q => (I 5 (i.toInt.toNat + q)).toInt) (I 19 8).toInt (I 19 2).toInt (I 3 0).toInt i.toInt n 0 (I 19 1).toInt → Q (some (.int y)) (SH0, RF0, J)) : ∀ (g k : Nat) (w : Int32) (J : gI), k + g = n → aInv bT J → afr mdGX I J → 0 ≤ (J 19 1).toInt → goF (fun q => (I 5 (i.toInt.toNat + q)).toInt) (I 19 8).toInt (I 19 2).toInt (I 3 0).toInt i.toInt g k (J 19 1).toInt = goF (fun q => (I 5 (i.toInt.toNat + q)).toInt) (I 19 8).toInt (I 19 2).toInt (I 3 0).toInt i.toInt n 0 (I 19 1).toInt → gg (d + 39 + 1) mX11_goAll 41 [some (.ref 0), some (.int 0), some (.int i), some (.int (Int32.ofNat n)), some (.int 0), some (.int w), some (.int (Int32.ofNat k)), none] [] J Q := by
  intro g
  induction g with
  | zero =>
    intro k w J hk hJ hf h0 he
    have e : k = n := by omega
    subst e
    refine G_iload (pc := 41) rfl dX11_goAll_41 ?_
    refine G_iload_n (pc := 43) rfl dX11_goAll_43 ?_
    refine oX11_goAll_44 _ _ _ _ _ _ _ (fun _ => ?_) (fun c => absurd (Int.le_refl _) c)
    refine G_iload (pc := 121) rfl dX11_goAll_121 ?_
    exact oX11_goAll_123 _ _ _ _ _ (hQ w J hJ hf he)
  | succ g ih =>
    intro k w J hk hJ hf h0 he
    have e2 : J 19 2 = I 19 2 := hf 19 2 (by decide +kernel)
    have e3 : J 3 0 = I 3 0 := hf 3 0 (by decide +kernel)
    have e8 : J 19 8 = I 19 8 := hf 19 8 (by decide +kernel)
    have e5 : ∀ q, J 5 q = I 5 q := fun q => hf 5 q (nc_ok (by decide +kernel))
    have hkn : (Int32.ofNat k).toInt = k := n_int (by omega)
    have hnn : (Int32.ofNat n).toInt = n := n_int (by omega)
    refine G_iload (pc := 41) rfl dX11_goAll_41 ?_
    refine G_iload_n (pc := 43) rfl dX11_goAll_43 ?_
    refine oX11_goAll_44 _ _ _ _ _ _ _ (fun c => absurd c (by show ¬ ((Int32.ofNat n).toInt ≤ (Int32.ofNat k).toInt); omega)) (fun _ => ?_)
    refine G_aload_n (pc := 47) rfl dX11_goAll_47 ?_
    refine G_iload_n (pc := 48) rfl dX11_goAll_48 ?_
    refine G_iload_n (pc := 49) rfl dX11_goAll_49 ?_
    refine G_iload (pc := 50) rfl dX11_goAll_50 ?_
    refine G_iadd (pc := 52) rfl dX11_goAll_52 ?_
    have ha := add_k (i := i) (k := k) hi0 (by omega)
    refine oX11_goAll_53 (d + 39) _ [.int 0, .int (i + Int32.ofNat k)] [] J _ _ 0 11 105 mX11_isItem rfl List.mem_cons_self mt_X11_isItem rfl (lsi (lsi ls0)) ls0 (by simp) (isItem_0 (d := d + 38) (by rw [e3]; exact hsz.1) (fun a b => ?_) (fun a => ?_)) (fun _ _ h => h)
    · dsimp only [Option.toList, List.cons_append, List.nil_append]
      rw [e3] at b
      have ek : (i + Int32.ofNat k).toInt = i.toInt + k := by omega
      have en : (i + Int32.ofNat k).toInt.toNat = i.toInt.toNat + k := by omega
      simp only [goF] at he
      rw [if_pos (by omega)] at he
      refine oX11_goAll_56 _ _ _ _ _ _ (fun _ => ?_) (fun c => absurd (nez (by decide)) c)
      refine G_aload_n (pc := 62) rfl dX11_goAll_62 ?_
      refine G_getR (pc := 63) (ci := 11) (j := 10) rfl lq_RX11_21 rfl rfl rfl dX11_goAll_63 ?_
      refine G_iload_n (pc := 66) rfl dX11_goAll_66 ?_
      refine G_rald (pc := 67) (jj := 0) rfl rfl (a_vin (by decide) (by decide)) rfl dX11_goAll_67 ?_
      refine G_iload_n (pc := 68) rfl dX11_goAll_68 ?_
      refine G_iload (pc := 69) rfl dX11_goAll_69 ?_
      refine G_iadd (pc := 71) rfl dX11_goAll_71 ?_
      refine G_iald (pc := 72) (jj := i.toInt.toNat + k) (by rw [a_nc, en]) (e5 _) rfl (a_vin a (by omega)) dX11_goAll_72 ?_
      refine G_istore (pc := 73) rfl rfl (by decide) dX11_goAll_73 ?_
      refine G_aload_n (pc := 75) rfl dX11_goAll_75 ?_
      refine G_getR (pc := 76) (ci := 11) (j := 0) rfl lq_RX11_56 rfl rfl rfl dX11_goAll_76 ?_
      refine G_iload (pc := 79) rfl dX11_goAll_79 ?_
      refine oX11_goAll_81 (d + 39) _ [.int _] [] J _ _ 19 1 101 mX1_isAct rfl List.mem_cons_self mt_X1_isAct rfl (lsi ls0) ls0 (by simp) (isAct_G (fun p q => ?_) (fun p => ?_)) (fun _ _ h => h)
      · dsimp only [Option.toList, List.cons_append, List.nil_append]
        rw [e8] at q
        refine oX11_goAll_84 _ _ _ _ _ _ (fun c => absurd c (eqz (by decide))) (fun _ => ?_)
        refine G_aload_n (pc := 87) rfl dX11_goAll_87 ?_
        refine G_getR (pc := 88) (ci := 11) (j := 0) rfl lq_RX11_56 rfl rfl rfl dX11_goAll_88 ?_
        refine oX11_goAll_91 (d + 39) _ [] [] J _ _ 19 1 31 mX1_isOver rfl List.mem_cons_self mt_X1_isOver rfl ls0 ls0 (by simp) (isOver_G (fun r => ?_) (fun r => ?_)) (fun _ _ h => h)
        · dsimp only [Option.toList, List.cons_append, List.nil_append]
          rw [e2] at r
          rw [if_neg (by omega)] at he
          refine oX11_goAll_94 _ _ _ _ _ _ (fun _ => ?_) (fun c => absurd (nez (by decide)) c)
          refine G_iinc (pc := 115) (v := Int32.ofNat 1) n_add rfl rfl (by decide) rfl (by decide) dX11_goAll_115 ?_
          refine G_goto (pc := 118) (tgt := 41) (by decide) dX11_goAll_118 ?_
          refine G_drop 7 rfl ?_
          exact ih (k + 1) _ J (by omega) hJ hf h0 he
        · dsimp only [Option.toList, List.cons_append, List.nil_append]
          rw [e2] at r
          rw [if_pos ⟨p, q, r⟩] at he
          refine oX11_goAll_94 _ _ _ _ _ _ (fun c => absurd rfl c) (fun _ => ?_)
          refine G_iload (pc := 97) rfl dX11_goAll_97 ?_
          refine G_aload_n (pc := 99) rfl dX11_goAll_99 ?_
          refine G_aload_n (pc := 100) rfl dX11_goAll_100 ?_
          refine G_getR (pc := 101) (ci := 11) (j := 0) rfl lq_RX11_56 rfl rfl rfl dX11_goAll_101 ?_
          refine G_iload (pc := 104) rfl dX11_goAll_104 ?_
          refine oX11_goAll_106 (d + 39) _ [.int _] [.ref 0, .int w] J _ _ 19 1 81 mX1_goBy rfl List.mem_cons_self mt_X1_goBy rfl (lsi ls0) (lsr (lsi ls0)) (by simp) (hGo (d + 9) _ J _ hJ h0 (by omega) (fun y J1 j1 j2 j3 => ?_)) (fun _ _ h => h)
          dsimp only [Option.toList, List.cons_append, List.nil_append]
          refine oX11_goAll_109 (d + 39) _ [.int y] [.int w] J1 _ _ 0 11 82 mX11_scored rfl List.mem_cons_self mt_X11_scored rfl (lsi ls0) (lsi ls0) (by simp) (scored_G ?_) (fun _ _ h => h)
          dsimp only [Option.toList, List.cons_append, List.nil_append]
          refine G_iadd (pc := 112) rfl dX11_goAll_112 ?_
          refine G_istore (pc := 113) rfl rfl (by decide) dX11_goAll_113 ?_
          have e1 : gup J1 19 3 (J1 19 3 + y) 19 1 = J1 19 1 := gup_ne (Or.inr (by decide))
          refine G_iinc (pc := 115) (v := Int32.ofNat 1) n_add rfl rfl (by decide) rfl (by decide) dX11_goAll_115 ?_
          refine G_goto (pc := 118) (tgt := 41) (by decide) dX11_goAll_118 ?_
          refine G_drop 7 rfl ?_
          exact ih (k + 1) _ _ (by omega) (inv_put j1 (a_full (by decide +kernel))) ((hf.tr j2 (by decide +kernel)).put (by decide +kernel)) (by rw [e1, j3]; omega) (by rw [e1, j3]; exact he)
      · dsimp only [Option.toList, List.cons_append, List.nil_append]
        rw [e8] at p
        rw [if_neg (fun z => p ⟨z.1, z.2.1⟩)] at he
        refine oX11_goAll_84 _ _ _ _ _ _ (fun _ => ?_) (fun c => absurd rfl c)
        refine G_iinc (pc := 115) (v := Int32.ofNat 1) n_add rfl rfl (by decide) rfl (by decide) dX11_goAll_115 ?_
        refine G_goto (pc := 118) (tgt := 41) (by decide) dX11_goAll_118 ?_
        refine G_drop 7 rfl ?_
        exact ih (k + 1) _ J (by omega) hJ hf h0 he
    · dsimp only [Option.toList, List.cons_append, List.nil_append]
      rw [e3] at a
      simp only [goF] at he
      rw [if_neg (by omega)] at he
      refine oX11_goAll_56 _ _ _ _ _ _ (fun c => absurd rfl c) (fun _ => ?_)
      refine G_bipush (pc := 59) (v := (-12)) (by decide) dX11_goAll_59 ?_
      exact oX11_goAll_61 _ _ _ _ _ (hQ _ J hJ hf he)
set_option maxRecDepth 100000 in
set_option maxHeartbeats 4000000 in
theorem goX_0 {d : Nat} {I : gI} {i n : Int32} {Q : Option Value → gH → Prop} (hGo : hGoX 30) (hi : aInv bT I) (hn : 0 ≤ n.toInt ∧ n.toInt ≤ 20) (hi0 : 0 ≤ i.toInt) (ht : (I 2 0).toInt = 0) (hsz : 0 ≤ (I 3 0).toInt ∧ (I 3 0).toInt ≤ 40) (hh : 0 ≤ (I 19 1).toInt) (hen : (I 19 2).toInt ≤ 16) (hQ : ∀ (y : Int32) (J : gI), aInv bT J → afr mdGX I J → (J 19 1).toInt = goF (fun q => (I 5 (i.toInt.toNat + q)).toInt) (I 19 8).toInt (I 19 2).toInt (I 3 0).toInt i.toInt n.toInt.toNat 0 (I 19 1).toInt → Q (some (.int y)) (SH0, RF0, J)) : gg (d + 39 + 1) mX11_goAll 0 (gent 8 [.ref 0, .int 0, .int i, .int n]) [] I Q := by
  have k0 : (0 : Int32).toInt = 0 := rfl
  have k20 : (20 : Int32).toInt = 20 := rfl
  refine G_iload_n (pc := 0) rfl dX11_goAll_0 ?_
  refine oX11_goAll_1 (d + 39) _ [.int 0] [] I _ _ mX11_isPlace mt_X11_isPlace rfl (lsi ls0) ls0 (by simp) (isPlace_G (d := d + 38) (by decide) ?_) (fun _ _ h => h)
  dsimp only [Option.toList, List.cons_append, List.nil_append]
  refine oX11_goAll_4 _ _ _ _ _ _ (fun c => absurd c (eqz (by decide))) (fun _ => ?_)
  refine G_iload_n (pc := 7) rfl dX11_goAll_7 ?_
  refine G_iconst (pc := 8) (v := 0) (by decide) dX11_goAll_8 ?_
  refine G_bipush (pc := 9) (v := 20) (by decide) dX11_goAll_9 ?_
  refine oX11_goAll_11 (d + 39) _ [.int n, .int 0, .int 20] [] I _ _ mX11_isIn mt_X11_isIn rfl (lsi (lsi (lsi ls0))) ls0 (by simp) (isIn_G (fun _ _ => ?_) (fun a => by omega)) (fun _ _ h => h)
  dsimp only [Option.toList, List.cons_append, List.nil_append]
  refine oX11_goAll_14 _ _ _ _ _ _ (fun _ => ?_) (fun c => absurd (nez (by decide)) c)
  refine G_aload_n (pc := 19) rfl dX11_goAll_19 ?_
  refine G_iload_n (pc := 20) rfl dX11_goAll_20 ?_
  refine G_iconst (pc := 21) (v := 0) (by decide) dX11_goAll_21 ?_
  refine oX11_goAll_22 (d + 39) _ [.int 0, .int 0] [] I _ _ 0 11 104 mX11_refusalOf rfl List.mem_cons_self mt_X11_refusalOf rfl (lsi (lsi ls0)) ls0 (by simp) (refX_0 (fun a => by omega) (fun _ _ => ?_) (fun _ b => by omega)) (fun _ _ h => h)
  dsimp only [Option.toList, List.cons_append, List.nil_append]
  refine G_istore (pc := 25) rfl rfl (by decide) dX11_goAll_25 ?_
  refine G_iload (pc := 27) rfl dX11_goAll_27 ?_
  refine oX11_goAll_29 _ _ _ _ _ _ (fun _ => ?_) (fun c => absurd rfl c)
  refine G_iconst (pc := 35) (v := 0) (by decide) dX11_goAll_35 ?_
  refine G_istore (pc := 36) rfl rfl (by decide) dX11_goAll_36 ?_
  refine G_iconst (pc := 38) (v := Int32.ofNat 0) (by decide) dX11_goAll_38 ?_
  refine G_istore (pc := 39) rfl rfl (by decide) dX11_goAll_39 ?_
  have en : n = Int32.ofNat n.toInt.toNat := to_nat hn.1 (by omega)
  have h := goX_loop_0 (d := d) (I := I) (i := i) (n := n.toInt.toNat) (Q := Q) hGo (by omega) hi0 hsz hen hQ n.toInt.toNat 0 0 I (by omega) hi afr.rf hh rfl
  rw [← en] at h
  exact h
theorem isItemM_0 {d k : Nat} {i : Int32} {I : gI} {Q : Option Value → gH → Prop} (hz : 0 ≤ (I 83 0).toInt ∧ (I 83 0).toInt ≤ 40) (hk : k < 100) (h1 : 0 ≤ i.toInt → i.toInt + k < (I 83 0).toInt → Q (some (.int 1)) (SH0, RF0, I)) (h0 : (i.toInt < 0 ∨ (I 83 0).toInt ≤ i.toInt + k) → Q (some (.int 0)) (SH0, RF0, I)) : gg d mX12_isItem 0 (gent 4 [.ref 67, .int 0, .int i, .int (Int32.ofNat k)]) [] I Q := by
  have kz : (I 83 0 - Int32.ofNat k).toInt = (I 83 0).toInt - k := by
    rw [Int32.toInt_sub, n_int (by omega)]
    exact a_bm (by unfold aLo; omega) (by unfold aHi; omega)
  refine G_iload_n (pc := 0) rfl dX12_isItem_0 ?_
  refine oX12_isItem_1 _ _ _ _ _ _ (fun c => ?_) (fun c => ?_)
  · have c : i.toInt < 0 := c
    refine G_iconst (pc := 20) (v := 0) (by decide) dX12_isItem_20 ?_
    exact oX12_isItem_21 _ _ _ _ _ (Or.inl rfl) (h0 (Or.inl c))
  · have c : ¬ i.toInt < 0 := c
    refine G_iload_n (pc := 4) rfl dX12_isItem_4 ?_
    refine G_aload_n (pc := 5) rfl dX12_isItem_5 ?_
    refine G_getR (pc := 6) (ci := 12) (j := 29) rfl lq_RX12_56 rfl rfl rfl dX12_isItem_6 ?_
    refine G_iload_n (pc := 9) rfl dX12_isItem_9 ?_
    refine G_iald (pc := 10) (jj := 0) rfl rfl rfl (a_vin (by decide) (by decide)) dX12_isItem_10 ?_
    refine G_iload_n (pc := 11) rfl dX12_isItem_11 ?_
    refine G_isub (pc := 12) rfl dX12_isItem_12 ?_
    refine oX12_isItem_13 _ _ _ _ _ _ _ (fun c2 => ?_) (fun c2 => ?_)
    · have c2 : (I 83 0 - Int32.ofNat k).toInt ≤ i.toInt := c2
      refine G_iconst (pc := 20) (v := 0) (by decide) dX12_isItem_20 ?_
      exact oX12_isItem_21 _ _ _ _ _ (Or.inl rfl) (h0 (by omega))
    · have c2 : ¬ (I 83 0 - Int32.ofNat k).toInt ≤ i.toInt := c2
      refine G_iconst (pc := 16) (v := 1) (by decide) dX12_isItem_16 ?_
      refine G_goto (pc := 17) (tgt := 21) (by decide) dX12_isItem_17 ?_
      exact oX12_isItem_21 _ _ _ _ _ (Or.inr rfl) (h1 (by omega) (by omega))
set_option maxRecDepth 100000 in
set_option maxHeartbeats 4000000 in
theorem goM_loop_0 {d : Nat} {I : gI} {i : Int32} {n : Nat} {Q : Option Value → gH → Prop} (hGo : hGoM 30) (hn : n ≤ 20) (hi0 : 0 ≤ i.toInt) (hsz : 0 ≤ (I 83 0).toInt ∧ (I 83 0).toInt ≤ 40) (hcn : (I 68 4).toInt ≤ 6) (hen : (I 68 1).toInt ≤ 16) (hQ : ∀ (y : Int32) (J : gI), aInv bT J → afr mdG I J → (J 68 0).toInt = goF (fun q => (I 84 (0 + (i.toInt.toNat + q))).toInt) (I 68 4).toInt (I 68 1).toInt (I 83 0).toInt i.toInt n 0 (I 68 0).toInt → Q (some (.int y)) (SH0, RF0, J)) : ∀ (g k : Nat) (w : Int32) (J : gI), k + g = n → aInv bT J → WP J → afr mdG I J → 0 ≤ (J 68 0).toInt → goF (fun q => (I 84 (0 + (i.toInt.toNat + q))).toInt) (I 68 4).toInt (I 68 1).toInt (I 83 0).toInt i.toInt g k (J 68 0).toInt = goF (fun q => (I 84 (0 + (i.toInt.toNat + q))).toInt) (I 68 4).toInt (I 68 1).toInt (I 83 0).toInt i.toInt n 0 (I 68 0).toInt → gg (d + 39 + 1) mX12_goAll 41 [some (.ref 67), some (.int 0), some (.int i), some (.int (Int32.ofNat n)), some (.int 0), some (.int w), some (.int (Int32.ofNat k)), none] [] J Q := by
  intro g
  induction g with
  | zero =>
    intro k w J hk hJ hw hf h0 he
    have e : k = n := by omega
    subst e
    refine G_iload (pc := 41) rfl dX12_goAll_41 ?_
    refine G_iload_n (pc := 43) rfl dX12_goAll_43 ?_
    refine oX12_goAll_44 _ _ _ _ _ _ _ (fun _ => ?_) (fun c => absurd (Int.le_refl _) c)
    refine G_iload (pc := 114) rfl dX12_goAll_114 ?_
    exact oX12_goAll_116 _ _ _ _ _ (hQ w J hJ hf he)
  | succ g ih =>
    intro k w J hk hJ hw hf h0 he
    have e2 : J 68 1 = I 68 1 := hf 68 1 (by decide +kernel)
    have e3 : J 83 0 = I 83 0 := hf 83 0 (by decide +kernel)
    have e8 : J 68 4 = I 68 4 := hf 68 4 (by decide +kernel)
    have e5 : ∀ q, J 84 q = I 84 q := fun q => hf 84 q (nc_ok (by decide +kernel))
    have hkn : (Int32.ofNat k).toInt = k := n_int (by omega)
    have hnn : (Int32.ofNat n).toInt = n := n_int (by omega)
    refine G_iload (pc := 41) rfl dX12_goAll_41 ?_
    refine G_iload_n (pc := 43) rfl dX12_goAll_43 ?_
    refine oX12_goAll_44 _ _ _ _ _ _ _ (fun c => absurd c (by show ¬ ((Int32.ofNat n).toInt ≤ (Int32.ofNat k).toInt); omega)) (fun _ => ?_)
    refine G_aload_n (pc := 47) rfl dX12_goAll_47 ?_
    refine G_iload_n (pc := 48) rfl dX12_goAll_48 ?_
    refine G_iload_n (pc := 49) rfl dX12_goAll_49 ?_
    refine G_iload (pc := 50) rfl dX12_goAll_50 ?_
    refine oX12_goAll_52 (d + 39) _ [.int 0, .int i, .int (Int32.ofNat k)] [] J _ _ 67 12 176 mX12_isItem rfl List.mem_cons_self mt_X12_isItem rfl (lsi (lsi (lsi ls0))) ls0 (by simp) (isItemM_0 (by rw [e3]; exact hsz) (by omega) (fun a b => ?_) (fun a => ?_)) (fun _ _ h => h)
    · dsimp only [Option.toList, List.cons_append, List.nil_append]
      rw [e3] at b
      simp only [goF] at he
      rw [if_pos (by omega)] at he
      have ki : ((40 : Int32) * 0 + i + Int32.ofNat k).toInt = 0 + (i.toInt + k) := by
        have e1 : ((40 : Int32) * 0 + i).toInt = 0 + i.toInt := by
          rw [show (40 : Int32) * 0 = 0 by decide, Int32.toInt_add, show (0 : Int32).toInt = 0 from rfl]
          exact a_bm (by unfold aLo; omega) (by unfold aHi; omega)
        rw [Int32.toInt_add, e1, hkn, a_bm (by unfold aLo; omega) (by unfold aHi; omega)]
        omega
      refine oX12_goAll_55 _ _ _ _ _ _ (fun _ => ?_) (fun c => absurd (nez (by decide)) c)
      refine G_aload_n (pc := 61) rfl dX12_goAll_61 ?_
      refine G_getR (pc := 62) (ci := 12) (j := 30) rfl lq_RX12_59 rfl rfl rfl dX12_goAll_62 ?_
      refine G_bipush (pc := 65) (v := 40) (by decide) dX12_goAll_65 ?_
      refine G_iload_n (pc := 67) rfl dX12_goAll_67 ?_
      refine G_imul (pc := 68) rfl dX12_goAll_68 ?_
      refine G_iload_n (pc := 69) rfl dX12_goAll_69 ?_
      refine G_iadd (pc := 70) rfl dX12_goAll_70 ?_
      refine G_iload (pc := 71) rfl dX12_goAll_71 ?_
      refine G_iadd (pc := 73) rfl dX12_goAll_73 ?_
      refine G_iald (pc := 74) (jj := 0 + (i.toInt.toNat + k)) (by rw [a_nc, ki]; omega) (e5 _) rfl (a_vin (by omega) (by omega)) dX12_goAll_74 ?_
      refine G_istore (pc := 75) rfl rfl (by decide) dX12_goAll_75 ?_
      refine G_iload (pc := 77) rfl dX12_goAll_77 ?_
      refine G_aload_n (pc := 79) rfl dX12_goAll_79 ?_
      refine G_iload (pc := 80) rfl dX12_goAll_80 ?_
      refine oX12_goAll_82 (d + 39) _ [.int _] [.int w] J _ _ 67 12 173 mX12_isAct rfl List.mem_cons_self mt_X12_isAct rfl (lsi ls0) (lsi ls0) (by simp) (isActM_G (d := d + 38) (fun p q => ?_) (fun p => ?_)) (fun _ _ h => h)
      · dsimp only [Option.toList, List.cons_append, List.nil_append]
        rw [e8] at q
        refine oX12_goAll_85 _ _ _ _ _ _ (fun c => absurd c (eqz (by decide))) (fun _ => ?_)
        refine G_aload_n (pc := 88) rfl dX12_goAll_88 ?_
        refine oX12_goAll_89 (d + 39) _ [] [.int w] J _ _ 67 12 150 mX12_isOver rfl List.mem_cons_self mt_X12_isOver rfl ls0 (lsi ls0) (by simp) (isOverM_G (fun r => ?_) (fun r => ?_)) (fun _ _ h => h)
        · dsimp only [Option.toList, List.cons_append, List.nil_append]
          rw [e2] at r
          rw [if_neg (by omega)] at he
          refine oX12_goAll_92 _ _ _ _ _ _ (fun _ => ?_) (fun c => absurd (nez (by decide)) c)
          refine G_iconst (pc := 104) (v := 0) (by decide) dX12_goAll_104 ?_
          refine G_iadd (pc := 105) rfl dX12_goAll_105 ?_
          refine G_istore (pc := 106) rfl rfl (by decide) dX12_goAll_106 ?_
          refine G_iinc (pc := 108) (v := Int32.ofNat 1) n_add rfl rfl (by decide) rfl (by decide) dX12_goAll_108 ?_
          refine G_goto (pc := 111) (tgt := 41) (by decide) dX12_goAll_111 ?_
          refine G_drop 7 rfl ?_
          exact ih (k + 1) _ J (by omega) hJ hw hf h0 he
        · dsimp only [Option.toList, List.cons_append, List.nil_append]
          rw [e2] at r
          rw [if_pos ⟨p, q, r⟩] at he
          refine oX12_goAll_92 _ _ _ _ _ _ (fun c => absurd rfl c) (fun _ => ?_)
          refine G_aload_n (pc := 95) rfl dX12_goAll_95 ?_
          refine G_iload (pc := 96) rfl dX12_goAll_96 ?_
          refine oX12_goAll_98 (d + 39) _ [.int _] [.int w] J _ _ 67 12 151 mX12_goesBy rfl List.mem_cons_self mt_X12_goesBy rfl (lsi ls0) (lsi ls0) (by simp) (hGo (d + 9) _ J _ hJ hw p (by omega) h0 (by omega) (fun y J1 j1 j2 j3 => ?_)) (fun _ _ h => h)
          dsimp only [Option.toList, List.cons_append, List.nil_append]
          refine G_goto (pc := 101) (tgt := 105) (by decide) dX12_goAll_101 ?_
          refine G_iadd (pc := 105) rfl dX12_goAll_105 ?_
          refine G_istore (pc := 106) rfl rfl (by decide) dX12_goAll_106 ?_
          refine G_iinc (pc := 108) (v := Int32.ofNat 1) n_add rfl rfl (by decide) rfl (by decide) dX12_goAll_108 ?_
          refine G_goto (pc := 111) (tgt := 41) (by decide) dX12_goAll_111 ?_
          refine G_drop 7 rfl ?_
          exact ih (k + 1) _ J1 (by omega) j1 (pE WF_st (md := mdG) (by decide +kernel) J J1 hw j2) (hf.tr j2 (by decide +kernel)) (by rw [j3]; omega) (by rw [j3]; exact he)
      · dsimp only [Option.toList, List.cons_append, List.nil_append]
        rw [e8] at p
        rw [if_neg (fun z => p ⟨z.1, z.2.1⟩)] at he
        refine oX12_goAll_85 _ _ _ _ _ _ (fun _ => ?_) (fun c => absurd rfl c)
        refine G_iconst (pc := 104) (v := 0) (by decide) dX12_goAll_104 ?_
        refine G_iadd (pc := 105) rfl dX12_goAll_105 ?_
        refine G_istore (pc := 106) rfl rfl (by decide) dX12_goAll_106 ?_
        refine G_iinc (pc := 108) (v := Int32.ofNat 1) n_add rfl rfl (by decide) rfl (by decide) dX12_goAll_108 ?_
        refine G_goto (pc := 111) (tgt := 41) (by decide) dX12_goAll_111 ?_
        refine G_drop 7 rfl ?_
        exact ih (k + 1) _ J (by omega) hJ hw hf h0 he
    · dsimp only [Option.toList, List.cons_append, List.nil_append]
      rw [e3] at a
      simp only [goF] at he
      rw [if_neg (by omega)] at he
      refine oX12_goAll_55 _ _ _ _ _ _ (fun c => absurd rfl c) (fun _ => ?_)
      refine G_bipush (pc := 58) (v := (-12)) (by decide) dX12_goAll_58 ?_
      exact oX12_goAll_60 _ _ _ _ _ (hQ _ J hJ hf he)
set_option maxRecDepth 100000 in
set_option maxHeartbeats 4000000 in
theorem goM_0 {d : Nat} {I : gI} {i n : Int32} {Q : Option Value → gH → Prop} (hGo : hGoM 30) (hi : aInv bT I) (hw : WP I) (hn : 0 ≤ n.toInt ∧ n.toInt ≤ 20) (hi0 : 0 ≤ i.toInt) (ht : (I 82 0).toInt = 0) (hsz : 0 ≤ (I 83 0).toInt ∧ (I 83 0).toInt ≤ 40) (hh : 0 ≤ (I 68 0).toInt) (hcn : (I 68 4).toInt ≤ 6) (hen : (I 68 1).toInt ≤ 16) (hQ : ∀ (y : Int32) (J : gI), aInv bT J → afr mdG I J → (J 68 0).toInt = goF (fun q => (I 84 (0 + (i.toInt.toNat + q))).toInt) (I 68 4).toInt (I 68 1).toInt (I 83 0).toInt i.toInt n.toInt.toNat 0 (I 68 0).toInt → Q (some (.int y)) (SH0, RF0, J)) : gg (d + 39 + 1) mX12_goAll 0 (gent 8 [.ref 67, .int 0, .int i, .int n]) [] I Q := by
  have k0 : (0 : Int32).toInt = 0 := rfl
  have k20 : (20 : Int32).toInt = 20 := rfl
  refine G_iload_n (pc := 0) rfl dX12_goAll_0 ?_
  refine oX12_goAll_1 (d + 39) _ [.int 0] [] I _ _ mX12_isSheet mt_X12_isSheet rfl (lsi ls0) ls0 (by simp) (isSheet_G (d := d + 38) (by decide) ?_) (fun _ _ h => h)
  dsimp only [Option.toList, List.cons_append, List.nil_append]
  refine oX12_goAll_4 _ _ _ _ _ _ (fun c => absurd c (eqz (by decide))) (fun _ => ?_)
  refine G_iload_n (pc := 7) rfl dX12_goAll_7 ?_
  refine G_iconst (pc := 8) (v := 0) (by decide) dX12_goAll_8 ?_
  refine G_bipush (pc := 9) (v := 20) (by decide) dX12_goAll_9 ?_
  refine oX12_goAll_11 (d + 39) _ [.int n, .int 0, .int 20] [] I _ _ mX12_in1 mt_X12_in1 rfl (lsi (lsi (lsi ls0))) ls0 (by simp) (in1b_G (fun _ _ => ?_) (fun a => by omega)) (fun _ _ h => h)
  dsimp only [Option.toList, List.cons_append, List.nil_append]
  refine oX12_goAll_14 _ _ _ _ _ _ (fun _ => ?_) (fun c => absurd (nez (by decide)) c)
  refine G_aload_n (pc := 19) rfl dX12_goAll_19 ?_
  refine G_iload_n (pc := 20) rfl dX12_goAll_20 ?_
  refine G_iconst (pc := 21) (v := 0) (by decide) dX12_goAll_21 ?_
  refine oX12_goAll_22 (d + 39) _ [.int 0, .int 0] [] I _ _ 67 12 175 mX12_lacks rfl List.mem_cons_self mt_X12_lacks rfl (lsi (lsi ls0)) ls0 (by simp) (lacksM_0 (fun a => by omega) (fun _ _ => ?_) (fun _ b => by omega)) (fun _ _ h => h)
  dsimp only [Option.toList, List.cons_append, List.nil_append]
  refine G_istore (pc := 25) rfl rfl (by decide) dX12_goAll_25 ?_
  refine G_iload (pc := 27) rfl dX12_goAll_27 ?_
  refine oX12_goAll_29 _ _ _ _ _ _ (fun _ => ?_) (fun c => absurd rfl c)
  refine G_iconst (pc := 35) (v := 0) (by decide) dX12_goAll_35 ?_
  refine G_istore (pc := 36) rfl rfl (by decide) dX12_goAll_36 ?_
  refine G_iconst (pc := 38) (v := Int32.ofNat 0) (by decide) dX12_goAll_38 ?_
  refine G_istore (pc := 39) rfl rfl (by decide) dX12_goAll_39 ?_
  have en : n = Int32.ofNat n.toInt.toNat := to_nat hn.1 (by omega)
  have h := goM_loop_0 (d := d) (I := I) (i := i) (n := n.toInt.toNat) (Q := Q) hGo (by omega) hi0 hsz hcn hen hQ n.toInt.toNat 0 0 I (by omega) hi hw afr.rf hh rfl
  rw [← en] at h
  exact h
set_option maxRecDepth 100000 in
set_option maxHeartbeats 4000000 in
theorem goX_loop_1 {d : Nat} {I : gI} {i : Int32} {n : Nat} {Q : Option Value → gH → Prop} (hGo : hGoX 30) (hn : n ≤ 20) (hi0 : 0 ≤ i.toInt) (hsz : 0 ≤ (I 3 1).toInt ∧ (I 3 1).toInt ≤ 40) (hen : (I 19 2).toInt ≤ 16) (hQ : ∀ (y : Int32) (J : gI), aInv bT J → afr mdGX I J → (J 19 1).toInt = goF (fun q => (I 6 (i.toInt.toNat + q)).toInt) (I 19 8).toInt (I 19 2).toInt (I 3 1).toInt i.toInt n 0 (I 19 1).toInt → Q (some (.int y)) (SH0, RF0, J)) : ∀ (g k : Nat) (w : Int32) (J : gI), k + g = n → aInv bT J → afr mdGX I J → 0 ≤ (J 19 1).toInt → goF (fun q => (I 6 (i.toInt.toNat + q)).toInt) (I 19 8).toInt (I 19 2).toInt (I 3 1).toInt i.toInt g k (J 19 1).toInt = goF (fun q => (I 6 (i.toInt.toNat + q)).toInt) (I 19 8).toInt (I 19 2).toInt (I 3 1).toInt i.toInt n 0 (I 19 1).toInt → gg (d + 39 + 1) mX11_goAll 41 [some (.ref 0), some (.int 1), some (.int i), some (.int (Int32.ofNat n)), some (.int 0), some (.int w), some (.int (Int32.ofNat k)), none] [] J Q := by
  intro g
  induction g with
  | zero =>
    intro k w J hk hJ hf h0 he
    have e : k = n := by omega
    subst e
    refine G_iload (pc := 41) rfl dX11_goAll_41 ?_
    refine G_iload_n (pc := 43) rfl dX11_goAll_43 ?_
    refine oX11_goAll_44 _ _ _ _ _ _ _ (fun _ => ?_) (fun c => absurd (Int.le_refl _) c)
    refine G_iload (pc := 121) rfl dX11_goAll_121 ?_
    exact oX11_goAll_123 _ _ _ _ _ (hQ w J hJ hf he)
  | succ g ih =>
    intro k w J hk hJ hf h0 he
    have e2 : J 19 2 = I 19 2 := hf 19 2 (by decide +kernel)
    have e3 : J 3 1 = I 3 1 := hf 3 1 (by decide +kernel)
    have e8 : J 19 8 = I 19 8 := hf 19 8 (by decide +kernel)
    have e5 : ∀ q, J 6 q = I 6 q := fun q => hf 6 q (nc_ok (by decide +kernel))
    have hkn : (Int32.ofNat k).toInt = k := n_int (by omega)
    have hnn : (Int32.ofNat n).toInt = n := n_int (by omega)
    refine G_iload (pc := 41) rfl dX11_goAll_41 ?_
    refine G_iload_n (pc := 43) rfl dX11_goAll_43 ?_
    refine oX11_goAll_44 _ _ _ _ _ _ _ (fun c => absurd c (by show ¬ ((Int32.ofNat n).toInt ≤ (Int32.ofNat k).toInt); omega)) (fun _ => ?_)
    refine G_aload_n (pc := 47) rfl dX11_goAll_47 ?_
    refine G_iload_n (pc := 48) rfl dX11_goAll_48 ?_
    refine G_iload_n (pc := 49) rfl dX11_goAll_49 ?_
    refine G_iload (pc := 50) rfl dX11_goAll_50 ?_
    refine G_iadd (pc := 52) rfl dX11_goAll_52 ?_
    have ha := add_k (i := i) (k := k) hi0 (by omega)
    refine oX11_goAll_53 (d + 39) _ [.int 1, .int (i + Int32.ofNat k)] [] J _ _ 0 11 105 mX11_isItem rfl List.mem_cons_self mt_X11_isItem rfl (lsi (lsi ls0)) ls0 (by simp) (isItem_1 (d := d + 38) (by rw [e3]; exact hsz.1) (fun a b => ?_) (fun a => ?_)) (fun _ _ h => h)
    · dsimp only [Option.toList, List.cons_append, List.nil_append]
      rw [e3] at b
      have ek : (i + Int32.ofNat k).toInt = i.toInt + k := by omega
      have en : (i + Int32.ofNat k).toInt.toNat = i.toInt.toNat + k := by omega
      simp only [goF] at he
      rw [if_pos (by omega)] at he
      refine oX11_goAll_56 _ _ _ _ _ _ (fun _ => ?_) (fun c => absurd (nez (by decide)) c)
      refine G_aload_n (pc := 62) rfl dX11_goAll_62 ?_
      refine G_getR (pc := 63) (ci := 11) (j := 10) rfl lq_RX11_21 rfl rfl rfl dX11_goAll_63 ?_
      refine G_iload_n (pc := 66) rfl dX11_goAll_66 ?_
      refine G_rald (pc := 67) (jj := 1) rfl rfl (a_vin (by decide) (by decide)) rfl dX11_goAll_67 ?_
      refine G_iload_n (pc := 68) rfl dX11_goAll_68 ?_
      refine G_iload (pc := 69) rfl dX11_goAll_69 ?_
      refine G_iadd (pc := 71) rfl dX11_goAll_71 ?_
      refine G_iald (pc := 72) (jj := i.toInt.toNat + k) (by rw [a_nc, en]) (e5 _) rfl (a_vin a (by omega)) dX11_goAll_72 ?_
      refine G_istore (pc := 73) rfl rfl (by decide) dX11_goAll_73 ?_
      refine G_aload_n (pc := 75) rfl dX11_goAll_75 ?_
      refine G_getR (pc := 76) (ci := 11) (j := 0) rfl lq_RX11_56 rfl rfl rfl dX11_goAll_76 ?_
      refine G_iload (pc := 79) rfl dX11_goAll_79 ?_
      refine oX11_goAll_81 (d + 39) _ [.int _] [] J _ _ 19 1 101 mX1_isAct rfl List.mem_cons_self mt_X1_isAct rfl (lsi ls0) ls0 (by simp) (isAct_G (fun p q => ?_) (fun p => ?_)) (fun _ _ h => h)
      · dsimp only [Option.toList, List.cons_append, List.nil_append]
        rw [e8] at q
        refine oX11_goAll_84 _ _ _ _ _ _ (fun c => absurd c (eqz (by decide))) (fun _ => ?_)
        refine G_aload_n (pc := 87) rfl dX11_goAll_87 ?_
        refine G_getR (pc := 88) (ci := 11) (j := 0) rfl lq_RX11_56 rfl rfl rfl dX11_goAll_88 ?_
        refine oX11_goAll_91 (d + 39) _ [] [] J _ _ 19 1 31 mX1_isOver rfl List.mem_cons_self mt_X1_isOver rfl ls0 ls0 (by simp) (isOver_G (fun r => ?_) (fun r => ?_)) (fun _ _ h => h)
        · dsimp only [Option.toList, List.cons_append, List.nil_append]
          rw [e2] at r
          rw [if_neg (by omega)] at he
          refine oX11_goAll_94 _ _ _ _ _ _ (fun _ => ?_) (fun c => absurd (nez (by decide)) c)
          refine G_iinc (pc := 115) (v := Int32.ofNat 1) n_add rfl rfl (by decide) rfl (by decide) dX11_goAll_115 ?_
          refine G_goto (pc := 118) (tgt := 41) (by decide) dX11_goAll_118 ?_
          refine G_drop 7 rfl ?_
          exact ih (k + 1) _ J (by omega) hJ hf h0 he
        · dsimp only [Option.toList, List.cons_append, List.nil_append]
          rw [e2] at r
          rw [if_pos ⟨p, q, r⟩] at he
          refine oX11_goAll_94 _ _ _ _ _ _ (fun c => absurd rfl c) (fun _ => ?_)
          refine G_iload (pc := 97) rfl dX11_goAll_97 ?_
          refine G_aload_n (pc := 99) rfl dX11_goAll_99 ?_
          refine G_aload_n (pc := 100) rfl dX11_goAll_100 ?_
          refine G_getR (pc := 101) (ci := 11) (j := 0) rfl lq_RX11_56 rfl rfl rfl dX11_goAll_101 ?_
          refine G_iload (pc := 104) rfl dX11_goAll_104 ?_
          refine oX11_goAll_106 (d + 39) _ [.int _] [.ref 0, .int w] J _ _ 19 1 81 mX1_goBy rfl List.mem_cons_self mt_X1_goBy rfl (lsi ls0) (lsr (lsi ls0)) (by simp) (hGo (d + 9) _ J _ hJ h0 (by omega) (fun y J1 j1 j2 j3 => ?_)) (fun _ _ h => h)
          dsimp only [Option.toList, List.cons_append, List.nil_append]
          refine oX11_goAll_109 (d + 39) _ [.int y] [.int w] J1 _ _ 0 11 82 mX11_scored rfl List.mem_cons_self mt_X11_scored rfl (lsi ls0) (lsi ls0) (by simp) (scored_G ?_) (fun _ _ h => h)
          dsimp only [Option.toList, List.cons_append, List.nil_append]
          refine G_iadd (pc := 112) rfl dX11_goAll_112 ?_
          refine G_istore (pc := 113) rfl rfl (by decide) dX11_goAll_113 ?_
          have e1 : gup J1 19 3 (J1 19 3 + y) 19 1 = J1 19 1 := gup_ne (Or.inr (by decide))
          refine G_iinc (pc := 115) (v := Int32.ofNat 1) n_add rfl rfl (by decide) rfl (by decide) dX11_goAll_115 ?_
          refine G_goto (pc := 118) (tgt := 41) (by decide) dX11_goAll_118 ?_
          refine G_drop 7 rfl ?_
          exact ih (k + 1) _ _ (by omega) (inv_put j1 (a_full (by decide +kernel))) ((hf.tr j2 (by decide +kernel)).put (by decide +kernel)) (by rw [e1, j3]; omega) (by rw [e1, j3]; exact he)
      · dsimp only [Option.toList, List.cons_append, List.nil_append]
        rw [e8] at p
        rw [if_neg (fun z => p ⟨z.1, z.2.1⟩)] at he
        refine oX11_goAll_84 _ _ _ _ _ _ (fun _ => ?_) (fun c => absurd rfl c)
        refine G_iinc (pc := 115) (v := Int32.ofNat 1) n_add rfl rfl (by decide) rfl (by decide) dX11_goAll_115 ?_
        refine G_goto (pc := 118) (tgt := 41) (by decide) dX11_goAll_118 ?_
        refine G_drop 7 rfl ?_
        exact ih (k + 1) _ J (by omega) hJ hf h0 he
    · dsimp only [Option.toList, List.cons_append, List.nil_append]
      rw [e3] at a
      simp only [goF] at he
      rw [if_neg (by omega)] at he
      refine oX11_goAll_56 _ _ _ _ _ _ (fun c => absurd rfl c) (fun _ => ?_)
      refine G_bipush (pc := 59) (v := (-12)) (by decide) dX11_goAll_59 ?_
      exact oX11_goAll_61 _ _ _ _ _ (hQ _ J hJ hf he)
set_option maxRecDepth 100000 in
set_option maxHeartbeats 4000000 in
theorem goX_1 {d : Nat} {I : gI} {i n : Int32} {Q : Option Value → gH → Prop} (hGo : hGoX 30) (hi : aInv bT I) (hn : 0 ≤ n.toInt ∧ n.toInt ≤ 20) (hi0 : 0 ≤ i.toInt) (ht : (I 2 1).toInt = 0) (hsz : 0 ≤ (I 3 1).toInt ∧ (I 3 1).toInt ≤ 40) (hh : 0 ≤ (I 19 1).toInt) (hen : (I 19 2).toInt ≤ 16) (hQ : ∀ (y : Int32) (J : gI), aInv bT J → afr mdGX I J → (J 19 1).toInt = goF (fun q => (I 6 (i.toInt.toNat + q)).toInt) (I 19 8).toInt (I 19 2).toInt (I 3 1).toInt i.toInt n.toInt.toNat 0 (I 19 1).toInt → Q (some (.int y)) (SH0, RF0, J)) : gg (d + 39 + 1) mX11_goAll 0 (gent 8 [.ref 0, .int 1, .int i, .int n]) [] I Q := by
  have k0 : (0 : Int32).toInt = 0 := rfl
  have k20 : (20 : Int32).toInt = 20 := rfl
  refine G_iload_n (pc := 0) rfl dX11_goAll_0 ?_
  refine oX11_goAll_1 (d + 39) _ [.int 1] [] I _ _ mX11_isPlace mt_X11_isPlace rfl (lsi ls0) ls0 (by simp) (isPlace_G (d := d + 38) (by decide) ?_) (fun _ _ h => h)
  dsimp only [Option.toList, List.cons_append, List.nil_append]
  refine oX11_goAll_4 _ _ _ _ _ _ (fun c => absurd c (eqz (by decide))) (fun _ => ?_)
  refine G_iload_n (pc := 7) rfl dX11_goAll_7 ?_
  refine G_iconst (pc := 8) (v := 0) (by decide) dX11_goAll_8 ?_
  refine G_bipush (pc := 9) (v := 20) (by decide) dX11_goAll_9 ?_
  refine oX11_goAll_11 (d + 39) _ [.int n, .int 0, .int 20] [] I _ _ mX11_isIn mt_X11_isIn rfl (lsi (lsi (lsi ls0))) ls0 (by simp) (isIn_G (fun _ _ => ?_) (fun a => by omega)) (fun _ _ h => h)
  dsimp only [Option.toList, List.cons_append, List.nil_append]
  refine oX11_goAll_14 _ _ _ _ _ _ (fun _ => ?_) (fun c => absurd (nez (by decide)) c)
  refine G_aload_n (pc := 19) rfl dX11_goAll_19 ?_
  refine G_iload_n (pc := 20) rfl dX11_goAll_20 ?_
  refine G_iconst (pc := 21) (v := 0) (by decide) dX11_goAll_21 ?_
  refine oX11_goAll_22 (d + 39) _ [.int 1, .int 0] [] I _ _ 0 11 104 mX11_refusalOf rfl List.mem_cons_self mt_X11_refusalOf rfl (lsi (lsi ls0)) ls0 (by simp) (refX_1 (fun a => by omega) (fun _ _ => ?_) (fun _ b => by omega)) (fun _ _ h => h)
  dsimp only [Option.toList, List.cons_append, List.nil_append]
  refine G_istore (pc := 25) rfl rfl (by decide) dX11_goAll_25 ?_
  refine G_iload (pc := 27) rfl dX11_goAll_27 ?_
  refine oX11_goAll_29 _ _ _ _ _ _ (fun _ => ?_) (fun c => absurd rfl c)
  refine G_iconst (pc := 35) (v := 0) (by decide) dX11_goAll_35 ?_
  refine G_istore (pc := 36) rfl rfl (by decide) dX11_goAll_36 ?_
  refine G_iconst (pc := 38) (v := Int32.ofNat 0) (by decide) dX11_goAll_38 ?_
  refine G_istore (pc := 39) rfl rfl (by decide) dX11_goAll_39 ?_
  have en : n = Int32.ofNat n.toInt.toNat := to_nat hn.1 (by omega)
  have h := goX_loop_1 (d := d) (I := I) (i := i) (n := n.toInt.toNat) (Q := Q) hGo (by omega) hi0 hsz hen hQ n.toInt.toNat 0 0 I (by omega) hi afr.rf hh rfl
  rw [← en] at h
  exact h
theorem isItemM_1 {d k : Nat} {i : Int32} {I : gI} {Q : Option Value → gH → Prop} (hz : 0 ≤ (I 83 1).toInt ∧ (I 83 1).toInt ≤ 40) (hk : k < 100) (h1 : 0 ≤ i.toInt → i.toInt + k < (I 83 1).toInt → Q (some (.int 1)) (SH0, RF0, I)) (h0 : (i.toInt < 0 ∨ (I 83 1).toInt ≤ i.toInt + k) → Q (some (.int 0)) (SH0, RF0, I)) : gg d mX12_isItem 0 (gent 4 [.ref 67, .int 1, .int i, .int (Int32.ofNat k)]) [] I Q := by
  have kz : (I 83 1 - Int32.ofNat k).toInt = (I 83 1).toInt - k := by
    rw [Int32.toInt_sub, n_int (by omega)]
    exact a_bm (by unfold aLo; omega) (by unfold aHi; omega)
  refine G_iload_n (pc := 0) rfl dX12_isItem_0 ?_
  refine oX12_isItem_1 _ _ _ _ _ _ (fun c => ?_) (fun c => ?_)
  · have c : i.toInt < 0 := c
    refine G_iconst (pc := 20) (v := 0) (by decide) dX12_isItem_20 ?_
    exact oX12_isItem_21 _ _ _ _ _ (Or.inl rfl) (h0 (Or.inl c))
  · have c : ¬ i.toInt < 0 := c
    refine G_iload_n (pc := 4) rfl dX12_isItem_4 ?_
    refine G_aload_n (pc := 5) rfl dX12_isItem_5 ?_
    refine G_getR (pc := 6) (ci := 12) (j := 29) rfl lq_RX12_56 rfl rfl rfl dX12_isItem_6 ?_
    refine G_iload_n (pc := 9) rfl dX12_isItem_9 ?_
    refine G_iald (pc := 10) (jj := 1) rfl rfl rfl (a_vin (by decide) (by decide)) dX12_isItem_10 ?_
    refine G_iload_n (pc := 11) rfl dX12_isItem_11 ?_
    refine G_isub (pc := 12) rfl dX12_isItem_12 ?_
    refine oX12_isItem_13 _ _ _ _ _ _ _ (fun c2 => ?_) (fun c2 => ?_)
    · have c2 : (I 83 1 - Int32.ofNat k).toInt ≤ i.toInt := c2
      refine G_iconst (pc := 20) (v := 0) (by decide) dX12_isItem_20 ?_
      exact oX12_isItem_21 _ _ _ _ _ (Or.inl rfl) (h0 (by omega))
    · have c2 : ¬ (I 83 1 - Int32.ofNat k).toInt ≤ i.toInt := c2
      refine G_iconst (pc := 16) (v := 1) (by decide) dX12_isItem_16 ?_
      refine G_goto (pc := 17) (tgt := 21) (by decide) dX12_isItem_17 ?_
      exact oX12_isItem_21 _ _ _ _ _ (Or.inr rfl) (h1 (by omega) (by omega))
set_option maxRecDepth 100000 in
set_option maxHeartbeats 4000000 in
theorem goM_loop_1 {d : Nat} {I : gI} {i : Int32} {n : Nat} {Q : Option Value → gH → Prop} (hGo : hGoM 30) (hn : n ≤ 20) (hi0 : 0 ≤ i.toInt) (hsz : 0 ≤ (I 83 1).toInt ∧ (I 83 1).toInt ≤ 40) (hcn : (I 68 4).toInt ≤ 6) (hen : (I 68 1).toInt ≤ 16) (hQ : ∀ (y : Int32) (J : gI), aInv bT J → afr mdG I J → (J 68 0).toInt = goF (fun q => (I 84 (40 + (i.toInt.toNat + q))).toInt) (I 68 4).toInt (I 68 1).toInt (I 83 1).toInt i.toInt n 0 (I 68 0).toInt → Q (some (.int y)) (SH0, RF0, J)) : ∀ (g k : Nat) (w : Int32) (J : gI), k + g = n → aInv bT J → WP J → afr mdG I J → 0 ≤ (J 68 0).toInt → goF (fun q => (I 84 (40 + (i.toInt.toNat + q))).toInt) (I 68 4).toInt (I 68 1).toInt (I 83 1).toInt i.toInt g k (J 68 0).toInt = goF (fun q => (I 84 (40 + (i.toInt.toNat + q))).toInt) (I 68 4).toInt (I 68 1).toInt (I 83 1).toInt i.toInt n 0 (I 68 0).toInt → gg (d + 39 + 1) mX12_goAll 41 [some (.ref 67), some (.int 1), some (.int i), some (.int (Int32.ofNat n)), some (.int 0), some (.int w), some (.int (Int32.ofNat k)), none] [] J Q := by
  intro g
  induction g with
  | zero =>
    intro k w J hk hJ hw hf h0 he
    have e : k = n := by omega
    subst e
    refine G_iload (pc := 41) rfl dX12_goAll_41 ?_
    refine G_iload_n (pc := 43) rfl dX12_goAll_43 ?_
    refine oX12_goAll_44 _ _ _ _ _ _ _ (fun _ => ?_) (fun c => absurd (Int.le_refl _) c)
    refine G_iload (pc := 114) rfl dX12_goAll_114 ?_
    exact oX12_goAll_116 _ _ _ _ _ (hQ w J hJ hf he)
  | succ g ih =>
    intro k w J hk hJ hw hf h0 he
    have e2 : J 68 1 = I 68 1 := hf 68 1 (by decide +kernel)
    have e3 : J 83 1 = I 83 1 := hf 83 1 (by decide +kernel)
    have e8 : J 68 4 = I 68 4 := hf 68 4 (by decide +kernel)
    have e5 : ∀ q, J 84 q = I 84 q := fun q => hf 84 q (nc_ok (by decide +kernel))
    have hkn : (Int32.ofNat k).toInt = k := n_int (by omega)
    have hnn : (Int32.ofNat n).toInt = n := n_int (by omega)
    refine G_iload (pc := 41) rfl dX12_goAll_41 ?_
    refine G_iload_n (pc := 43) rfl dX12_goAll_43 ?_
    refine oX12_goAll_44 _ _ _ _ _ _ _ (fun c => absurd c (by show ¬ ((Int32.ofNat n).toInt ≤ (Int32.ofNat k).toInt); omega)) (fun _ => ?_)
    refine G_aload_n (pc := 47) rfl dX12_goAll_47 ?_
    refine G_iload_n (pc := 48) rfl dX12_goAll_48 ?_
    refine G_iload_n (pc := 49) rfl dX12_goAll_49 ?_
    refine G_iload (pc := 50) rfl dX12_goAll_50 ?_
    refine oX12_goAll_52 (d + 39) _ [.int 1, .int i, .int (Int32.ofNat k)] [] J _ _ 67 12 176 mX12_isItem rfl List.mem_cons_self mt_X12_isItem rfl (lsi (lsi (lsi ls0))) ls0 (by simp) (isItemM_1 (by rw [e3]; exact hsz) (by omega) (fun a b => ?_) (fun a => ?_)) (fun _ _ h => h)
    · dsimp only [Option.toList, List.cons_append, List.nil_append]
      rw [e3] at b
      simp only [goF] at he
      rw [if_pos (by omega)] at he
      have ki : ((40 : Int32) * 1 + i + Int32.ofNat k).toInt = 40 + (i.toInt + k) := by
        have e1 : ((40 : Int32) * 1 + i).toInt = 40 + i.toInt := by
          rw [show (40 : Int32) * 1 = 40 by decide, Int32.toInt_add, show (40 : Int32).toInt = 40 from rfl]
          exact a_bm (by unfold aLo; omega) (by unfold aHi; omega)
        rw [Int32.toInt_add, e1, hkn, a_bm (by unfold aLo; omega) (by unfold aHi; omega)]
        omega
      refine oX12_goAll_55 _ _ _ _ _ _ (fun _ => ?_) (fun c => absurd (nez (by decide)) c)
      refine G_aload_n (pc := 61) rfl dX12_goAll_61 ?_
      refine G_getR (pc := 62) (ci := 12) (j := 30) rfl lq_RX12_59 rfl rfl rfl dX12_goAll_62 ?_
      refine G_bipush (pc := 65) (v := 40) (by decide) dX12_goAll_65 ?_
      refine G_iload_n (pc := 67) rfl dX12_goAll_67 ?_
      refine G_imul (pc := 68) rfl dX12_goAll_68 ?_
      refine G_iload_n (pc := 69) rfl dX12_goAll_69 ?_
      refine G_iadd (pc := 70) rfl dX12_goAll_70 ?_
      refine G_iload (pc := 71) rfl dX12_goAll_71 ?_
      refine G_iadd (pc := 73) rfl dX12_goAll_73 ?_
      refine G_iald (pc := 74) (jj := 40 + (i.toInt.toNat + k)) (by rw [a_nc, ki]; omega) (e5 _) rfl (a_vin (by omega) (by omega)) dX12_goAll_74 ?_
      refine G_istore (pc := 75) rfl rfl (by decide) dX12_goAll_75 ?_
      refine G_iload (pc := 77) rfl dX12_goAll_77 ?_
      refine G_aload_n (pc := 79) rfl dX12_goAll_79 ?_
      refine G_iload (pc := 80) rfl dX12_goAll_80 ?_
      refine oX12_goAll_82 (d + 39) _ [.int _] [.int w] J _ _ 67 12 173 mX12_isAct rfl List.mem_cons_self mt_X12_isAct rfl (lsi ls0) (lsi ls0) (by simp) (isActM_G (d := d + 38) (fun p q => ?_) (fun p => ?_)) (fun _ _ h => h)
      · dsimp only [Option.toList, List.cons_append, List.nil_append]
        rw [e8] at q
        refine oX12_goAll_85 _ _ _ _ _ _ (fun c => absurd c (eqz (by decide))) (fun _ => ?_)
        refine G_aload_n (pc := 88) rfl dX12_goAll_88 ?_
        refine oX12_goAll_89 (d + 39) _ [] [.int w] J _ _ 67 12 150 mX12_isOver rfl List.mem_cons_self mt_X12_isOver rfl ls0 (lsi ls0) (by simp) (isOverM_G (fun r => ?_) (fun r => ?_)) (fun _ _ h => h)
        · dsimp only [Option.toList, List.cons_append, List.nil_append]
          rw [e2] at r
          rw [if_neg (by omega)] at he
          refine oX12_goAll_92 _ _ _ _ _ _ (fun _ => ?_) (fun c => absurd (nez (by decide)) c)
          refine G_iconst (pc := 104) (v := 0) (by decide) dX12_goAll_104 ?_
          refine G_iadd (pc := 105) rfl dX12_goAll_105 ?_
          refine G_istore (pc := 106) rfl rfl (by decide) dX12_goAll_106 ?_
          refine G_iinc (pc := 108) (v := Int32.ofNat 1) n_add rfl rfl (by decide) rfl (by decide) dX12_goAll_108 ?_
          refine G_goto (pc := 111) (tgt := 41) (by decide) dX12_goAll_111 ?_
          refine G_drop 7 rfl ?_
          exact ih (k + 1) _ J (by omega) hJ hw hf h0 he
        · dsimp only [Option.toList, List.cons_append, List.nil_append]
          rw [e2] at r
          rw [if_pos ⟨p, q, r⟩] at he
          refine oX12_goAll_92 _ _ _ _ _ _ (fun c => absurd rfl c) (fun _ => ?_)
          refine G_aload_n (pc := 95) rfl dX12_goAll_95 ?_
          refine G_iload (pc := 96) rfl dX12_goAll_96 ?_
          refine oX12_goAll_98 (d + 39) _ [.int _] [.int w] J _ _ 67 12 151 mX12_goesBy rfl List.mem_cons_self mt_X12_goesBy rfl (lsi ls0) (lsi ls0) (by simp) (hGo (d + 9) _ J _ hJ hw p (by omega) h0 (by omega) (fun y J1 j1 j2 j3 => ?_)) (fun _ _ h => h)
          dsimp only [Option.toList, List.cons_append, List.nil_append]
          refine G_goto (pc := 101) (tgt := 105) (by decide) dX12_goAll_101 ?_
          refine G_iadd (pc := 105) rfl dX12_goAll_105 ?_
          refine G_istore (pc := 106) rfl rfl (by decide) dX12_goAll_106 ?_
          refine G_iinc (pc := 108) (v := Int32.ofNat 1) n_add rfl rfl (by decide) rfl (by decide) dX12_goAll_108 ?_
          refine G_goto (pc := 111) (tgt := 41) (by decide) dX12_goAll_111 ?_
          refine G_drop 7 rfl ?_
          exact ih (k + 1) _ J1 (by omega) j1 (pE WF_st (md := mdG) (by decide +kernel) J J1 hw j2) (hf.tr j2 (by decide +kernel)) (by rw [j3]; omega) (by rw [j3]; exact he)
      · dsimp only [Option.toList, List.cons_append, List.nil_append]
        rw [e8] at p
        rw [if_neg (fun z => p ⟨z.1, z.2.1⟩)] at he
        refine oX12_goAll_85 _ _ _ _ _ _ (fun _ => ?_) (fun c => absurd rfl c)
        refine G_iconst (pc := 104) (v := 0) (by decide) dX12_goAll_104 ?_
        refine G_iadd (pc := 105) rfl dX12_goAll_105 ?_
        refine G_istore (pc := 106) rfl rfl (by decide) dX12_goAll_106 ?_
        refine G_iinc (pc := 108) (v := Int32.ofNat 1) n_add rfl rfl (by decide) rfl (by decide) dX12_goAll_108 ?_
        refine G_goto (pc := 111) (tgt := 41) (by decide) dX12_goAll_111 ?_
        refine G_drop 7 rfl ?_
        exact ih (k + 1) _ J (by omega) hJ hw hf h0 he
    · dsimp only [Option.toList, List.cons_append, List.nil_append]
      rw [e3] at a
      simp only [goF] at he
      rw [if_neg (by omega)] at he
      refine oX12_goAll_55 _ _ _ _ _ _ (fun c => absurd rfl c) (fun _ => ?_)
      refine G_bipush (pc := 58) (v := (-12)) (by decide) dX12_goAll_58 ?_
      exact oX12_goAll_60 _ _ _ _ _ (hQ _ J hJ hf he)
set_option maxRecDepth 100000 in
set_option maxHeartbeats 4000000 in
theorem goM_1 {d : Nat} {I : gI} {i n : Int32} {Q : Option Value → gH → Prop} (hGo : hGoM 30) (hi : aInv bT I) (hw : WP I) (hn : 0 ≤ n.toInt ∧ n.toInt ≤ 20) (hi0 : 0 ≤ i.toInt) (ht : (I 82 1).toInt = 0) (hsz : 0 ≤ (I 83 1).toInt ∧ (I 83 1).toInt ≤ 40) (hh : 0 ≤ (I 68 0).toInt) (hcn : (I 68 4).toInt ≤ 6) (hen : (I 68 1).toInt ≤ 16) (hQ : ∀ (y : Int32) (J : gI), aInv bT J → afr mdG I J → (J 68 0).toInt = goF (fun q => (I 84 (40 + (i.toInt.toNat + q))).toInt) (I 68 4).toInt (I 68 1).toInt (I 83 1).toInt i.toInt n.toInt.toNat 0 (I 68 0).toInt → Q (some (.int y)) (SH0, RF0, J)) : gg (d + 39 + 1) mX12_goAll 0 (gent 8 [.ref 67, .int 1, .int i, .int n]) [] I Q := by
  have k0 : (0 : Int32).toInt = 0 := rfl
  have k20 : (20 : Int32).toInt = 20 := rfl
  refine G_iload_n (pc := 0) rfl dX12_goAll_0 ?_
  refine oX12_goAll_1 (d + 39) _ [.int 1] [] I _ _ mX12_isSheet mt_X12_isSheet rfl (lsi ls0) ls0 (by simp) (isSheet_G (d := d + 38) (by decide) ?_) (fun _ _ h => h)
  dsimp only [Option.toList, List.cons_append, List.nil_append]
  refine oX12_goAll_4 _ _ _ _ _ _ (fun c => absurd c (eqz (by decide))) (fun _ => ?_)
  refine G_iload_n (pc := 7) rfl dX12_goAll_7 ?_
  refine G_iconst (pc := 8) (v := 0) (by decide) dX12_goAll_8 ?_
  refine G_bipush (pc := 9) (v := 20) (by decide) dX12_goAll_9 ?_
  refine oX12_goAll_11 (d + 39) _ [.int n, .int 0, .int 20] [] I _ _ mX12_in1 mt_X12_in1 rfl (lsi (lsi (lsi ls0))) ls0 (by simp) (in1b_G (fun _ _ => ?_) (fun a => by omega)) (fun _ _ h => h)
  dsimp only [Option.toList, List.cons_append, List.nil_append]
  refine oX12_goAll_14 _ _ _ _ _ _ (fun _ => ?_) (fun c => absurd (nez (by decide)) c)
  refine G_aload_n (pc := 19) rfl dX12_goAll_19 ?_
  refine G_iload_n (pc := 20) rfl dX12_goAll_20 ?_
  refine G_iconst (pc := 21) (v := 0) (by decide) dX12_goAll_21 ?_
  refine oX12_goAll_22 (d + 39) _ [.int 1, .int 0] [] I _ _ 67 12 175 mX12_lacks rfl List.mem_cons_self mt_X12_lacks rfl (lsi (lsi ls0)) ls0 (by simp) (lacksM_1 (fun a => by omega) (fun _ _ => ?_) (fun _ b => by omega)) (fun _ _ h => h)
  dsimp only [Option.toList, List.cons_append, List.nil_append]
  refine G_istore (pc := 25) rfl rfl (by decide) dX12_goAll_25 ?_
  refine G_iload (pc := 27) rfl dX12_goAll_27 ?_
  refine oX12_goAll_29 _ _ _ _ _ _ (fun _ => ?_) (fun c => absurd rfl c)
  refine G_iconst (pc := 35) (v := 0) (by decide) dX12_goAll_35 ?_
  refine G_istore (pc := 36) rfl rfl (by decide) dX12_goAll_36 ?_
  refine G_iconst (pc := 38) (v := Int32.ofNat 0) (by decide) dX12_goAll_38 ?_
  refine G_istore (pc := 39) rfl rfl (by decide) dX12_goAll_39 ?_
  have en : n = Int32.ofNat n.toInt.toNat := to_nat hn.1 (by omega)
  have h := goM_loop_1 (d := d) (I := I) (i := i) (n := n.toInt.toNat) (Q := Q) hGo (by omega) hi0 hsz hcn hen hQ n.toInt.toNat 0 0 I (by omega) hi hw afr.rf hh rfl
  rw [← en] at h
  exact h
set_option maxRecDepth 100000 in
set_option maxHeartbeats 4000000 in
theorem goX_loop_2 {d : Nat} {I : gI} {i : Int32} {n : Nat} {Q : Option Value → gH → Prop} (hGo : hGoX 30) (hn : n ≤ 20) (hi0 : 0 ≤ i.toInt) (hsz : 0 ≤ (I 3 2).toInt ∧ (I 3 2).toInt ≤ 40) (hen : (I 19 2).toInt ≤ 16) (hQ : ∀ (y : Int32) (J : gI), aInv bT J → afr mdGX I J → (J 19 1).toInt = goF (fun q => (I 7 (i.toInt.toNat + q)).toInt) (I 19 8).toInt (I 19 2).toInt (I 3 2).toInt i.toInt n 0 (I 19 1).toInt → Q (some (.int y)) (SH0, RF0, J)) : ∀ (g k : Nat) (w : Int32) (J : gI), k + g = n → aInv bT J → afr mdGX I J → 0 ≤ (J 19 1).toInt → goF (fun q => (I 7 (i.toInt.toNat + q)).toInt) (I 19 8).toInt (I 19 2).toInt (I 3 2).toInt i.toInt g k (J 19 1).toInt = goF (fun q => (I 7 (i.toInt.toNat + q)).toInt) (I 19 8).toInt (I 19 2).toInt (I 3 2).toInt i.toInt n 0 (I 19 1).toInt → gg (d + 39 + 1) mX11_goAll 41 [some (.ref 0), some (.int 2), some (.int i), some (.int (Int32.ofNat n)), some (.int 0), some (.int w), some (.int (Int32.ofNat k)), none] [] J Q := by
  intro g
  induction g with
  | zero =>
    intro k w J hk hJ hf h0 he
    have e : k = n := by omega
    subst e
    refine G_iload (pc := 41) rfl dX11_goAll_41 ?_
    refine G_iload_n (pc := 43) rfl dX11_goAll_43 ?_
    refine oX11_goAll_44 _ _ _ _ _ _ _ (fun _ => ?_) (fun c => absurd (Int.le_refl _) c)
    refine G_iload (pc := 121) rfl dX11_goAll_121 ?_
    exact oX11_goAll_123 _ _ _ _ _ (hQ w J hJ hf he)
  | succ g ih =>
    intro k w J hk hJ hf h0 he
    have e2 : J 19 2 = I 19 2 := hf 19 2 (by decide +kernel)
    have e3 : J 3 2 = I 3 2 := hf 3 2 (by decide +kernel)
    have e8 : J 19 8 = I 19 8 := hf 19 8 (by decide +kernel)
    have e5 : ∀ q, J 7 q = I 7 q := fun q => hf 7 q (nc_ok (by decide +kernel))
    have hkn : (Int32.ofNat k).toInt = k := n_int (by omega)
    have hnn : (Int32.ofNat n).toInt = n := n_int (by omega)
    refine G_iload (pc := 41) rfl dX11_goAll_41 ?_
    refine G_iload_n (pc := 43) rfl dX11_goAll_43 ?_
    refine oX11_goAll_44 _ _ _ _ _ _ _ (fun c => absurd c (by show ¬ ((Int32.ofNat n).toInt ≤ (Int32.ofNat k).toInt); omega)) (fun _ => ?_)
    refine G_aload_n (pc := 47) rfl dX11_goAll_47 ?_
    refine G_iload_n (pc := 48) rfl dX11_goAll_48 ?_
    refine G_iload_n (pc := 49) rfl dX11_goAll_49 ?_
    refine G_iload (pc := 50) rfl dX11_goAll_50 ?_
    refine G_iadd (pc := 52) rfl dX11_goAll_52 ?_
    have ha := add_k (i := i) (k := k) hi0 (by omega)
    refine oX11_goAll_53 (d + 39) _ [.int 2, .int (i + Int32.ofNat k)] [] J _ _ 0 11 105 mX11_isItem rfl List.mem_cons_self mt_X11_isItem rfl (lsi (lsi ls0)) ls0 (by simp) (isItem_2 (d := d + 38) (by rw [e3]; exact hsz.1) (fun a b => ?_) (fun a => ?_)) (fun _ _ h => h)
    · dsimp only [Option.toList, List.cons_append, List.nil_append]
      rw [e3] at b
      have ek : (i + Int32.ofNat k).toInt = i.toInt + k := by omega
      have en : (i + Int32.ofNat k).toInt.toNat = i.toInt.toNat + k := by omega
      simp only [goF] at he
      rw [if_pos (by omega)] at he
      refine oX11_goAll_56 _ _ _ _ _ _ (fun _ => ?_) (fun c => absurd (nez (by decide)) c)
      refine G_aload_n (pc := 62) rfl dX11_goAll_62 ?_
      refine G_getR (pc := 63) (ci := 11) (j := 10) rfl lq_RX11_21 rfl rfl rfl dX11_goAll_63 ?_
      refine G_iload_n (pc := 66) rfl dX11_goAll_66 ?_
      refine G_rald (pc := 67) (jj := 2) rfl rfl (a_vin (by decide) (by decide)) rfl dX11_goAll_67 ?_
      refine G_iload_n (pc := 68) rfl dX11_goAll_68 ?_
      refine G_iload (pc := 69) rfl dX11_goAll_69 ?_
      refine G_iadd (pc := 71) rfl dX11_goAll_71 ?_
      refine G_iald (pc := 72) (jj := i.toInt.toNat + k) (by rw [a_nc, en]) (e5 _) rfl (a_vin a (by omega)) dX11_goAll_72 ?_
      refine G_istore (pc := 73) rfl rfl (by decide) dX11_goAll_73 ?_
      refine G_aload_n (pc := 75) rfl dX11_goAll_75 ?_
      refine G_getR (pc := 76) (ci := 11) (j := 0) rfl lq_RX11_56 rfl rfl rfl dX11_goAll_76 ?_
      refine G_iload (pc := 79) rfl dX11_goAll_79 ?_
      refine oX11_goAll_81 (d + 39) _ [.int _] [] J _ _ 19 1 101 mX1_isAct rfl List.mem_cons_self mt_X1_isAct rfl (lsi ls0) ls0 (by simp) (isAct_G (fun p q => ?_) (fun p => ?_)) (fun _ _ h => h)
      · dsimp only [Option.toList, List.cons_append, List.nil_append]
        rw [e8] at q
        refine oX11_goAll_84 _ _ _ _ _ _ (fun c => absurd c (eqz (by decide))) (fun _ => ?_)
        refine G_aload_n (pc := 87) rfl dX11_goAll_87 ?_
        refine G_getR (pc := 88) (ci := 11) (j := 0) rfl lq_RX11_56 rfl rfl rfl dX11_goAll_88 ?_
        refine oX11_goAll_91 (d + 39) _ [] [] J _ _ 19 1 31 mX1_isOver rfl List.mem_cons_self mt_X1_isOver rfl ls0 ls0 (by simp) (isOver_G (fun r => ?_) (fun r => ?_)) (fun _ _ h => h)
        · dsimp only [Option.toList, List.cons_append, List.nil_append]
          rw [e2] at r
          rw [if_neg (by omega)] at he
          refine oX11_goAll_94 _ _ _ _ _ _ (fun _ => ?_) (fun c => absurd (nez (by decide)) c)
          refine G_iinc (pc := 115) (v := Int32.ofNat 1) n_add rfl rfl (by decide) rfl (by decide) dX11_goAll_115 ?_
          refine G_goto (pc := 118) (tgt := 41) (by decide) dX11_goAll_118 ?_
          refine G_drop 7 rfl ?_
          exact ih (k + 1) _ J (by omega) hJ hf h0 he
        · dsimp only [Option.toList, List.cons_append, List.nil_append]
          rw [e2] at r
          rw [if_pos ⟨p, q, r⟩] at he
          refine oX11_goAll_94 _ _ _ _ _ _ (fun c => absurd rfl c) (fun _ => ?_)
          refine G_iload (pc := 97) rfl dX11_goAll_97 ?_
          refine G_aload_n (pc := 99) rfl dX11_goAll_99 ?_
          refine G_aload_n (pc := 100) rfl dX11_goAll_100 ?_
          refine G_getR (pc := 101) (ci := 11) (j := 0) rfl lq_RX11_56 rfl rfl rfl dX11_goAll_101 ?_
          refine G_iload (pc := 104) rfl dX11_goAll_104 ?_
          refine oX11_goAll_106 (d + 39) _ [.int _] [.ref 0, .int w] J _ _ 19 1 81 mX1_goBy rfl List.mem_cons_self mt_X1_goBy rfl (lsi ls0) (lsr (lsi ls0)) (by simp) (hGo (d + 9) _ J _ hJ h0 (by omega) (fun y J1 j1 j2 j3 => ?_)) (fun _ _ h => h)
          dsimp only [Option.toList, List.cons_append, List.nil_append]
          refine oX11_goAll_109 (d + 39) _ [.int y] [.int w] J1 _ _ 0 11 82 mX11_scored rfl List.mem_cons_self mt_X11_scored rfl (lsi ls0) (lsi ls0) (by simp) (scored_G ?_) (fun _ _ h => h)
          dsimp only [Option.toList, List.cons_append, List.nil_append]
          refine G_iadd (pc := 112) rfl dX11_goAll_112 ?_
          refine G_istore (pc := 113) rfl rfl (by decide) dX11_goAll_113 ?_
          have e1 : gup J1 19 3 (J1 19 3 + y) 19 1 = J1 19 1 := gup_ne (Or.inr (by decide))
          refine G_iinc (pc := 115) (v := Int32.ofNat 1) n_add rfl rfl (by decide) rfl (by decide) dX11_goAll_115 ?_
          refine G_goto (pc := 118) (tgt := 41) (by decide) dX11_goAll_118 ?_
          refine G_drop 7 rfl ?_
          exact ih (k + 1) _ _ (by omega) (inv_put j1 (a_full (by decide +kernel))) ((hf.tr j2 (by decide +kernel)).put (by decide +kernel)) (by rw [e1, j3]; omega) (by rw [e1, j3]; exact he)
      · dsimp only [Option.toList, List.cons_append, List.nil_append]
        rw [e8] at p
        rw [if_neg (fun z => p ⟨z.1, z.2.1⟩)] at he
        refine oX11_goAll_84 _ _ _ _ _ _ (fun _ => ?_) (fun c => absurd rfl c)
        refine G_iinc (pc := 115) (v := Int32.ofNat 1) n_add rfl rfl (by decide) rfl (by decide) dX11_goAll_115 ?_
        refine G_goto (pc := 118) (tgt := 41) (by decide) dX11_goAll_118 ?_
        refine G_drop 7 rfl ?_
        exact ih (k + 1) _ J (by omega) hJ hf h0 he
    · dsimp only [Option.toList, List.cons_append, List.nil_append]
      rw [e3] at a
      simp only [goF] at he
      rw [if_neg (by omega)] at he
      refine oX11_goAll_56 _ _ _ _ _ _ (fun c => absurd rfl c) (fun _ => ?_)
      refine G_bipush (pc := 59) (v := (-12)) (by decide) dX11_goAll_59 ?_
      exact oX11_goAll_61 _ _ _ _ _ (hQ _ J hJ hf he)
set_option maxRecDepth 100000 in
set_option maxHeartbeats 4000000 in
theorem goX_2 {d : Nat} {I : gI} {i n : Int32} {Q : Option Value → gH → Prop} (hGo : hGoX 30) (hi : aInv bT I) (hn : 0 ≤ n.toInt ∧ n.toInt ≤ 20) (hi0 : 0 ≤ i.toInt) (ht : (I 2 2).toInt = 0) (hsz : 0 ≤ (I 3 2).toInt ∧ (I 3 2).toInt ≤ 40) (hh : 0 ≤ (I 19 1).toInt) (hen : (I 19 2).toInt ≤ 16) (hQ : ∀ (y : Int32) (J : gI), aInv bT J → afr mdGX I J → (J 19 1).toInt = goF (fun q => (I 7 (i.toInt.toNat + q)).toInt) (I 19 8).toInt (I 19 2).toInt (I 3 2).toInt i.toInt n.toInt.toNat 0 (I 19 1).toInt → Q (some (.int y)) (SH0, RF0, J)) : gg (d + 39 + 1) mX11_goAll 0 (gent 8 [.ref 0, .int 2, .int i, .int n]) [] I Q := by
  have k0 : (0 : Int32).toInt = 0 := rfl
  have k20 : (20 : Int32).toInt = 20 := rfl
  refine G_iload_n (pc := 0) rfl dX11_goAll_0 ?_
  refine oX11_goAll_1 (d + 39) _ [.int 2] [] I _ _ mX11_isPlace mt_X11_isPlace rfl (lsi ls0) ls0 (by simp) (isPlace_G (d := d + 38) (by decide) ?_) (fun _ _ h => h)
  dsimp only [Option.toList, List.cons_append, List.nil_append]
  refine oX11_goAll_4 _ _ _ _ _ _ (fun c => absurd c (eqz (by decide))) (fun _ => ?_)
  refine G_iload_n (pc := 7) rfl dX11_goAll_7 ?_
  refine G_iconst (pc := 8) (v := 0) (by decide) dX11_goAll_8 ?_
  refine G_bipush (pc := 9) (v := 20) (by decide) dX11_goAll_9 ?_
  refine oX11_goAll_11 (d + 39) _ [.int n, .int 0, .int 20] [] I _ _ mX11_isIn mt_X11_isIn rfl (lsi (lsi (lsi ls0))) ls0 (by simp) (isIn_G (fun _ _ => ?_) (fun a => by omega)) (fun _ _ h => h)
  dsimp only [Option.toList, List.cons_append, List.nil_append]
  refine oX11_goAll_14 _ _ _ _ _ _ (fun _ => ?_) (fun c => absurd (nez (by decide)) c)
  refine G_aload_n (pc := 19) rfl dX11_goAll_19 ?_
  refine G_iload_n (pc := 20) rfl dX11_goAll_20 ?_
  refine G_iconst (pc := 21) (v := 0) (by decide) dX11_goAll_21 ?_
  refine oX11_goAll_22 (d + 39) _ [.int 2, .int 0] [] I _ _ 0 11 104 mX11_refusalOf rfl List.mem_cons_self mt_X11_refusalOf rfl (lsi (lsi ls0)) ls0 (by simp) (refX_2 (fun a => by omega) (fun _ _ => ?_) (fun _ b => by omega)) (fun _ _ h => h)
  dsimp only [Option.toList, List.cons_append, List.nil_append]
  refine G_istore (pc := 25) rfl rfl (by decide) dX11_goAll_25 ?_
  refine G_iload (pc := 27) rfl dX11_goAll_27 ?_
  refine oX11_goAll_29 _ _ _ _ _ _ (fun _ => ?_) (fun c => absurd rfl c)
  refine G_iconst (pc := 35) (v := 0) (by decide) dX11_goAll_35 ?_
  refine G_istore (pc := 36) rfl rfl (by decide) dX11_goAll_36 ?_
  refine G_iconst (pc := 38) (v := Int32.ofNat 0) (by decide) dX11_goAll_38 ?_
  refine G_istore (pc := 39) rfl rfl (by decide) dX11_goAll_39 ?_
  have en : n = Int32.ofNat n.toInt.toNat := to_nat hn.1 (by omega)
  have h := goX_loop_2 (d := d) (I := I) (i := i) (n := n.toInt.toNat) (Q := Q) hGo (by omega) hi0 hsz hen hQ n.toInt.toNat 0 0 I (by omega) hi afr.rf hh rfl
  rw [← en] at h
  exact h
theorem isItemM_2 {d k : Nat} {i : Int32} {I : gI} {Q : Option Value → gH → Prop} (hz : 0 ≤ (I 83 2).toInt ∧ (I 83 2).toInt ≤ 40) (hk : k < 100) (h1 : 0 ≤ i.toInt → i.toInt + k < (I 83 2).toInt → Q (some (.int 1)) (SH0, RF0, I)) (h0 : (i.toInt < 0 ∨ (I 83 2).toInt ≤ i.toInt + k) → Q (some (.int 0)) (SH0, RF0, I)) : gg d mX12_isItem 0 (gent 4 [.ref 67, .int 2, .int i, .int (Int32.ofNat k)]) [] I Q := by
  have kz : (I 83 2 - Int32.ofNat k).toInt = (I 83 2).toInt - k := by
    rw [Int32.toInt_sub, n_int (by omega)]
    exact a_bm (by unfold aLo; omega) (by unfold aHi; omega)
  refine G_iload_n (pc := 0) rfl dX12_isItem_0 ?_
  refine oX12_isItem_1 _ _ _ _ _ _ (fun c => ?_) (fun c => ?_)
  · have c : i.toInt < 0 := c
    refine G_iconst (pc := 20) (v := 0) (by decide) dX12_isItem_20 ?_
    exact oX12_isItem_21 _ _ _ _ _ (Or.inl rfl) (h0 (Or.inl c))
  · have c : ¬ i.toInt < 0 := c
    refine G_iload_n (pc := 4) rfl dX12_isItem_4 ?_
    refine G_aload_n (pc := 5) rfl dX12_isItem_5 ?_
    refine G_getR (pc := 6) (ci := 12) (j := 29) rfl lq_RX12_56 rfl rfl rfl dX12_isItem_6 ?_
    refine G_iload_n (pc := 9) rfl dX12_isItem_9 ?_
    refine G_iald (pc := 10) (jj := 2) rfl rfl rfl (a_vin (by decide) (by decide)) dX12_isItem_10 ?_
    refine G_iload_n (pc := 11) rfl dX12_isItem_11 ?_
    refine G_isub (pc := 12) rfl dX12_isItem_12 ?_
    refine oX12_isItem_13 _ _ _ _ _ _ _ (fun c2 => ?_) (fun c2 => ?_)
    · have c2 : (I 83 2 - Int32.ofNat k).toInt ≤ i.toInt := c2
      refine G_iconst (pc := 20) (v := 0) (by decide) dX12_isItem_20 ?_
      exact oX12_isItem_21 _ _ _ _ _ (Or.inl rfl) (h0 (by omega))
    · have c2 : ¬ (I 83 2 - Int32.ofNat k).toInt ≤ i.toInt := c2
      refine G_iconst (pc := 16) (v := 1) (by decide) dX12_isItem_16 ?_
      refine G_goto (pc := 17) (tgt := 21) (by decide) dX12_isItem_17 ?_
      exact oX12_isItem_21 _ _ _ _ _ (Or.inr rfl) (h1 (by omega) (by omega))
set_option maxRecDepth 100000 in
set_option maxHeartbeats 4000000 in
theorem goM_loop_2 {d : Nat} {I : gI} {i : Int32} {n : Nat} {Q : Option Value → gH → Prop} (hGo : hGoM 30) (hn : n ≤ 20) (hi0 : 0 ≤ i.toInt) (hsz : 0 ≤ (I 83 2).toInt ∧ (I 83 2).toInt ≤ 40) (hcn : (I 68 4).toInt ≤ 6) (hen : (I 68 1).toInt ≤ 16) (hQ : ∀ (y : Int32) (J : gI), aInv bT J → afr mdG I J → (J 68 0).toInt = goF (fun q => (I 84 (80 + (i.toInt.toNat + q))).toInt) (I 68 4).toInt (I 68 1).toInt (I 83 2).toInt i.toInt n 0 (I 68 0).toInt → Q (some (.int y)) (SH0, RF0, J)) : ∀ (g k : Nat) (w : Int32) (J : gI), k + g = n → aInv bT J → WP J → afr mdG I J → 0 ≤ (J 68 0).toInt → goF (fun q => (I 84 (80 + (i.toInt.toNat + q))).toInt) (I 68 4).toInt (I 68 1).toInt (I 83 2).toInt i.toInt g k (J 68 0).toInt = goF (fun q => (I 84 (80 + (i.toInt.toNat + q))).toInt) (I 68 4).toInt (I 68 1).toInt (I 83 2).toInt i.toInt n 0 (I 68 0).toInt → gg (d + 39 + 1) mX12_goAll 41 [some (.ref 67), some (.int 2), some (.int i), some (.int (Int32.ofNat n)), some (.int 0), some (.int w), some (.int (Int32.ofNat k)), none] [] J Q := by
  intro g
  induction g with
  | zero =>
    intro k w J hk hJ hw hf h0 he
    have e : k = n := by omega
    subst e
    refine G_iload (pc := 41) rfl dX12_goAll_41 ?_
    refine G_iload_n (pc := 43) rfl dX12_goAll_43 ?_
    refine oX12_goAll_44 _ _ _ _ _ _ _ (fun _ => ?_) (fun c => absurd (Int.le_refl _) c)
    refine G_iload (pc := 114) rfl dX12_goAll_114 ?_
    exact oX12_goAll_116 _ _ _ _ _ (hQ w J hJ hf he)
  | succ g ih =>
    intro k w J hk hJ hw hf h0 he
    have e2 : J 68 1 = I 68 1 := hf 68 1 (by decide +kernel)
    have e3 : J 83 2 = I 83 2 := hf 83 2 (by decide +kernel)
    have e8 : J 68 4 = I 68 4 := hf 68 4 (by decide +kernel)
    have e5 : ∀ q, J 84 q = I 84 q := fun q => hf 84 q (nc_ok (by decide +kernel))
    have hkn : (Int32.ofNat k).toInt = k := n_int (by omega)
    have hnn : (Int32.ofNat n).toInt = n := n_int (by omega)
    refine G_iload (pc := 41) rfl dX12_goAll_41 ?_
    refine G_iload_n (pc := 43) rfl dX12_goAll_43 ?_
    refine oX12_goAll_44 _ _ _ _ _ _ _ (fun c => absurd c (by show ¬ ((Int32.ofNat n).toInt ≤ (Int32.ofNat k).toInt); omega)) (fun _ => ?_)
    refine G_aload_n (pc := 47) rfl dX12_goAll_47 ?_
    refine G_iload_n (pc := 48) rfl dX12_goAll_48 ?_
    refine G_iload_n (pc := 49) rfl dX12_goAll_49 ?_
    refine G_iload (pc := 50) rfl dX12_goAll_50 ?_
    refine oX12_goAll_52 (d + 39) _ [.int 2, .int i, .int (Int32.ofNat k)] [] J _ _ 67 12 176 mX12_isItem rfl List.mem_cons_self mt_X12_isItem rfl (lsi (lsi (lsi ls0))) ls0 (by simp) (isItemM_2 (by rw [e3]; exact hsz) (by omega) (fun a b => ?_) (fun a => ?_)) (fun _ _ h => h)
    · dsimp only [Option.toList, List.cons_append, List.nil_append]
      rw [e3] at b
      simp only [goF] at he
      rw [if_pos (by omega)] at he
      have ki : ((40 : Int32) * 2 + i + Int32.ofNat k).toInt = 80 + (i.toInt + k) := by
        have e1 : ((40 : Int32) * 2 + i).toInt = 80 + i.toInt := by
          rw [show (40 : Int32) * 2 = 80 by decide, Int32.toInt_add, show (80 : Int32).toInt = 80 from rfl]
          exact a_bm (by unfold aLo; omega) (by unfold aHi; omega)
        rw [Int32.toInt_add, e1, hkn, a_bm (by unfold aLo; omega) (by unfold aHi; omega)]
        omega
      refine oX12_goAll_55 _ _ _ _ _ _ (fun _ => ?_) (fun c => absurd (nez (by decide)) c)
      refine G_aload_n (pc := 61) rfl dX12_goAll_61 ?_
      refine G_getR (pc := 62) (ci := 12) (j := 30) rfl lq_RX12_59 rfl rfl rfl dX12_goAll_62 ?_
      refine G_bipush (pc := 65) (v := 40) (by decide) dX12_goAll_65 ?_
      refine G_iload_n (pc := 67) rfl dX12_goAll_67 ?_
      refine G_imul (pc := 68) rfl dX12_goAll_68 ?_
      refine G_iload_n (pc := 69) rfl dX12_goAll_69 ?_
      refine G_iadd (pc := 70) rfl dX12_goAll_70 ?_
      refine G_iload (pc := 71) rfl dX12_goAll_71 ?_
      refine G_iadd (pc := 73) rfl dX12_goAll_73 ?_
      refine G_iald (pc := 74) (jj := 80 + (i.toInt.toNat + k)) (by rw [a_nc, ki]; omega) (e5 _) rfl (a_vin (by omega) (by omega)) dX12_goAll_74 ?_
      refine G_istore (pc := 75) rfl rfl (by decide) dX12_goAll_75 ?_
      refine G_iload (pc := 77) rfl dX12_goAll_77 ?_
      refine G_aload_n (pc := 79) rfl dX12_goAll_79 ?_
      refine G_iload (pc := 80) rfl dX12_goAll_80 ?_
      refine oX12_goAll_82 (d + 39) _ [.int _] [.int w] J _ _ 67 12 173 mX12_isAct rfl List.mem_cons_self mt_X12_isAct rfl (lsi ls0) (lsi ls0) (by simp) (isActM_G (d := d + 38) (fun p q => ?_) (fun p => ?_)) (fun _ _ h => h)
      · dsimp only [Option.toList, List.cons_append, List.nil_append]
        rw [e8] at q
        refine oX12_goAll_85 _ _ _ _ _ _ (fun c => absurd c (eqz (by decide))) (fun _ => ?_)
        refine G_aload_n (pc := 88) rfl dX12_goAll_88 ?_
        refine oX12_goAll_89 (d + 39) _ [] [.int w] J _ _ 67 12 150 mX12_isOver rfl List.mem_cons_self mt_X12_isOver rfl ls0 (lsi ls0) (by simp) (isOverM_G (fun r => ?_) (fun r => ?_)) (fun _ _ h => h)
        · dsimp only [Option.toList, List.cons_append, List.nil_append]
          rw [e2] at r
          rw [if_neg (by omega)] at he
          refine oX12_goAll_92 _ _ _ _ _ _ (fun _ => ?_) (fun c => absurd (nez (by decide)) c)
          refine G_iconst (pc := 104) (v := 0) (by decide) dX12_goAll_104 ?_
          refine G_iadd (pc := 105) rfl dX12_goAll_105 ?_
          refine G_istore (pc := 106) rfl rfl (by decide) dX12_goAll_106 ?_
          refine G_iinc (pc := 108) (v := Int32.ofNat 1) n_add rfl rfl (by decide) rfl (by decide) dX12_goAll_108 ?_
          refine G_goto (pc := 111) (tgt := 41) (by decide) dX12_goAll_111 ?_
          refine G_drop 7 rfl ?_
          exact ih (k + 1) _ J (by omega) hJ hw hf h0 he
        · dsimp only [Option.toList, List.cons_append, List.nil_append]
          rw [e2] at r
          rw [if_pos ⟨p, q, r⟩] at he
          refine oX12_goAll_92 _ _ _ _ _ _ (fun c => absurd rfl c) (fun _ => ?_)
          refine G_aload_n (pc := 95) rfl dX12_goAll_95 ?_
          refine G_iload (pc := 96) rfl dX12_goAll_96 ?_
          refine oX12_goAll_98 (d + 39) _ [.int _] [.int w] J _ _ 67 12 151 mX12_goesBy rfl List.mem_cons_self mt_X12_goesBy rfl (lsi ls0) (lsi ls0) (by simp) (hGo (d + 9) _ J _ hJ hw p (by omega) h0 (by omega) (fun y J1 j1 j2 j3 => ?_)) (fun _ _ h => h)
          dsimp only [Option.toList, List.cons_append, List.nil_append]
          refine G_goto (pc := 101) (tgt := 105) (by decide) dX12_goAll_101 ?_
          refine G_iadd (pc := 105) rfl dX12_goAll_105 ?_
          refine G_istore (pc := 106) rfl rfl (by decide) dX12_goAll_106 ?_
          refine G_iinc (pc := 108) (v := Int32.ofNat 1) n_add rfl rfl (by decide) rfl (by decide) dX12_goAll_108 ?_
          refine G_goto (pc := 111) (tgt := 41) (by decide) dX12_goAll_111 ?_
          refine G_drop 7 rfl ?_
          exact ih (k + 1) _ J1 (by omega) j1 (pE WF_st (md := mdG) (by decide +kernel) J J1 hw j2) (hf.tr j2 (by decide +kernel)) (by rw [j3]; omega) (by rw [j3]; exact he)
      · dsimp only [Option.toList, List.cons_append, List.nil_append]
        rw [e8] at p
        rw [if_neg (fun z => p ⟨z.1, z.2.1⟩)] at he
        refine oX12_goAll_85 _ _ _ _ _ _ (fun _ => ?_) (fun c => absurd rfl c)
        refine G_iconst (pc := 104) (v := 0) (by decide) dX12_goAll_104 ?_
        refine G_iadd (pc := 105) rfl dX12_goAll_105 ?_
        refine G_istore (pc := 106) rfl rfl (by decide) dX12_goAll_106 ?_
        refine G_iinc (pc := 108) (v := Int32.ofNat 1) n_add rfl rfl (by decide) rfl (by decide) dX12_goAll_108 ?_
        refine G_goto (pc := 111) (tgt := 41) (by decide) dX12_goAll_111 ?_
        refine G_drop 7 rfl ?_
        exact ih (k + 1) _ J (by omega) hJ hw hf h0 he
    · dsimp only [Option.toList, List.cons_append, List.nil_append]
      rw [e3] at a
      simp only [goF] at he
      rw [if_neg (by omega)] at he
      refine oX12_goAll_55 _ _ _ _ _ _ (fun c => absurd rfl c) (fun _ => ?_)
      refine G_bipush (pc := 58) (v := (-12)) (by decide) dX12_goAll_58 ?_
      exact oX12_goAll_60 _ _ _ _ _ (hQ _ J hJ hf he)
set_option maxRecDepth 100000 in
set_option maxHeartbeats 4000000 in
theorem goM_2 {d : Nat} {I : gI} {i n : Int32} {Q : Option Value → gH → Prop} (hGo : hGoM 30) (hi : aInv bT I) (hw : WP I) (hn : 0 ≤ n.toInt ∧ n.toInt ≤ 20) (hi0 : 0 ≤ i.toInt) (ht : (I 82 2).toInt = 0) (hsz : 0 ≤ (I 83 2).toInt ∧ (I 83 2).toInt ≤ 40) (hh : 0 ≤ (I 68 0).toInt) (hcn : (I 68 4).toInt ≤ 6) (hen : (I 68 1).toInt ≤ 16) (hQ : ∀ (y : Int32) (J : gI), aInv bT J → afr mdG I J → (J 68 0).toInt = goF (fun q => (I 84 (80 + (i.toInt.toNat + q))).toInt) (I 68 4).toInt (I 68 1).toInt (I 83 2).toInt i.toInt n.toInt.toNat 0 (I 68 0).toInt → Q (some (.int y)) (SH0, RF0, J)) : gg (d + 39 + 1) mX12_goAll 0 (gent 8 [.ref 67, .int 2, .int i, .int n]) [] I Q := by
  have k0 : (0 : Int32).toInt = 0 := rfl
  have k20 : (20 : Int32).toInt = 20 := rfl
  refine G_iload_n (pc := 0) rfl dX12_goAll_0 ?_
  refine oX12_goAll_1 (d + 39) _ [.int 2] [] I _ _ mX12_isSheet mt_X12_isSheet rfl (lsi ls0) ls0 (by simp) (isSheet_G (d := d + 38) (by decide) ?_) (fun _ _ h => h)
  dsimp only [Option.toList, List.cons_append, List.nil_append]
  refine oX12_goAll_4 _ _ _ _ _ _ (fun c => absurd c (eqz (by decide))) (fun _ => ?_)
  refine G_iload_n (pc := 7) rfl dX12_goAll_7 ?_
  refine G_iconst (pc := 8) (v := 0) (by decide) dX12_goAll_8 ?_
  refine G_bipush (pc := 9) (v := 20) (by decide) dX12_goAll_9 ?_
  refine oX12_goAll_11 (d + 39) _ [.int n, .int 0, .int 20] [] I _ _ mX12_in1 mt_X12_in1 rfl (lsi (lsi (lsi ls0))) ls0 (by simp) (in1b_G (fun _ _ => ?_) (fun a => by omega)) (fun _ _ h => h)
  dsimp only [Option.toList, List.cons_append, List.nil_append]
  refine oX12_goAll_14 _ _ _ _ _ _ (fun _ => ?_) (fun c => absurd (nez (by decide)) c)
  refine G_aload_n (pc := 19) rfl dX12_goAll_19 ?_
  refine G_iload_n (pc := 20) rfl dX12_goAll_20 ?_
  refine G_iconst (pc := 21) (v := 0) (by decide) dX12_goAll_21 ?_
  refine oX12_goAll_22 (d + 39) _ [.int 2, .int 0] [] I _ _ 67 12 175 mX12_lacks rfl List.mem_cons_self mt_X12_lacks rfl (lsi (lsi ls0)) ls0 (by simp) (lacksM_2 (fun a => by omega) (fun _ _ => ?_) (fun _ b => by omega)) (fun _ _ h => h)
  dsimp only [Option.toList, List.cons_append, List.nil_append]
  refine G_istore (pc := 25) rfl rfl (by decide) dX12_goAll_25 ?_
  refine G_iload (pc := 27) rfl dX12_goAll_27 ?_
  refine oX12_goAll_29 _ _ _ _ _ _ (fun _ => ?_) (fun c => absurd rfl c)
  refine G_iconst (pc := 35) (v := 0) (by decide) dX12_goAll_35 ?_
  refine G_istore (pc := 36) rfl rfl (by decide) dX12_goAll_36 ?_
  refine G_iconst (pc := 38) (v := Int32.ofNat 0) (by decide) dX12_goAll_38 ?_
  refine G_istore (pc := 39) rfl rfl (by decide) dX12_goAll_39 ?_
  have en : n = Int32.ofNat n.toInt.toNat := to_nat hn.1 (by omega)
  have h := goM_loop_2 (d := d) (I := I) (i := i) (n := n.toInt.toNat) (Q := Q) hGo (by omega) hi0 hsz hcn hen hQ n.toInt.toNat 0 0 I (by omega) hi hw afr.rf hh rfl
  rw [← en] at h
  exact h
set_option maxRecDepth 100000 in
set_option maxHeartbeats 4000000 in
theorem goX_loop_3 {d : Nat} {I : gI} {i : Int32} {n : Nat} {Q : Option Value → gH → Prop} (hGo : hGoX 30) (hn : n ≤ 20) (hi0 : 0 ≤ i.toInt) (hsz : 0 ≤ (I 3 3).toInt ∧ (I 3 3).toInt ≤ 40) (hen : (I 19 2).toInt ≤ 16) (hQ : ∀ (y : Int32) (J : gI), aInv bT J → afr mdGX I J → (J 19 1).toInt = goF (fun q => (I 8 (i.toInt.toNat + q)).toInt) (I 19 8).toInt (I 19 2).toInt (I 3 3).toInt i.toInt n 0 (I 19 1).toInt → Q (some (.int y)) (SH0, RF0, J)) : ∀ (g k : Nat) (w : Int32) (J : gI), k + g = n → aInv bT J → afr mdGX I J → 0 ≤ (J 19 1).toInt → goF (fun q => (I 8 (i.toInt.toNat + q)).toInt) (I 19 8).toInt (I 19 2).toInt (I 3 3).toInt i.toInt g k (J 19 1).toInt = goF (fun q => (I 8 (i.toInt.toNat + q)).toInt) (I 19 8).toInt (I 19 2).toInt (I 3 3).toInt i.toInt n 0 (I 19 1).toInt → gg (d + 39 + 1) mX11_goAll 41 [some (.ref 0), some (.int 3), some (.int i), some (.int (Int32.ofNat n)), some (.int 0), some (.int w), some (.int (Int32.ofNat k)), none] [] J Q := by
  intro g
  induction g with
  | zero =>
    intro k w J hk hJ hf h0 he
    have e : k = n := by omega
    subst e
    refine G_iload (pc := 41) rfl dX11_goAll_41 ?_
    refine G_iload_n (pc := 43) rfl dX11_goAll_43 ?_
    refine oX11_goAll_44 _ _ _ _ _ _ _ (fun _ => ?_) (fun c => absurd (Int.le_refl _) c)
    refine G_iload (pc := 121) rfl dX11_goAll_121 ?_
    exact oX11_goAll_123 _ _ _ _ _ (hQ w J hJ hf he)
  | succ g ih =>
    intro k w J hk hJ hf h0 he
    have e2 : J 19 2 = I 19 2 := hf 19 2 (by decide +kernel)
    have e3 : J 3 3 = I 3 3 := hf 3 3 (by decide +kernel)
    have e8 : J 19 8 = I 19 8 := hf 19 8 (by decide +kernel)
    have e5 : ∀ q, J 8 q = I 8 q := fun q => hf 8 q (nc_ok (by decide +kernel))
    have hkn : (Int32.ofNat k).toInt = k := n_int (by omega)
    have hnn : (Int32.ofNat n).toInt = n := n_int (by omega)
    refine G_iload (pc := 41) rfl dX11_goAll_41 ?_
    refine G_iload_n (pc := 43) rfl dX11_goAll_43 ?_
    refine oX11_goAll_44 _ _ _ _ _ _ _ (fun c => absurd c (by show ¬ ((Int32.ofNat n).toInt ≤ (Int32.ofNat k).toInt); omega)) (fun _ => ?_)
    refine G_aload_n (pc := 47) rfl dX11_goAll_47 ?_
    refine G_iload_n (pc := 48) rfl dX11_goAll_48 ?_
    refine G_iload_n (pc := 49) rfl dX11_goAll_49 ?_
    refine G_iload (pc := 50) rfl dX11_goAll_50 ?_
    refine G_iadd (pc := 52) rfl dX11_goAll_52 ?_
    have ha := add_k (i := i) (k := k) hi0 (by omega)
    refine oX11_goAll_53 (d + 39) _ [.int 3, .int (i + Int32.ofNat k)] [] J _ _ 0 11 105 mX11_isItem rfl List.mem_cons_self mt_X11_isItem rfl (lsi (lsi ls0)) ls0 (by simp) (isItem_3 (d := d + 38) (by rw [e3]; exact hsz.1) (fun a b => ?_) (fun a => ?_)) (fun _ _ h => h)
    · dsimp only [Option.toList, List.cons_append, List.nil_append]
      rw [e3] at b
      have ek : (i + Int32.ofNat k).toInt = i.toInt + k := by omega
      have en : (i + Int32.ofNat k).toInt.toNat = i.toInt.toNat + k := by omega
      simp only [goF] at he
      rw [if_pos (by omega)] at he
      refine oX11_goAll_56 _ _ _ _ _ _ (fun _ => ?_) (fun c => absurd (nez (by decide)) c)
      refine G_aload_n (pc := 62) rfl dX11_goAll_62 ?_
      refine G_getR (pc := 63) (ci := 11) (j := 10) rfl lq_RX11_21 rfl rfl rfl dX11_goAll_63 ?_
      refine G_iload_n (pc := 66) rfl dX11_goAll_66 ?_
      refine G_rald (pc := 67) (jj := 3) rfl rfl (a_vin (by decide) (by decide)) rfl dX11_goAll_67 ?_
      refine G_iload_n (pc := 68) rfl dX11_goAll_68 ?_
      refine G_iload (pc := 69) rfl dX11_goAll_69 ?_
      refine G_iadd (pc := 71) rfl dX11_goAll_71 ?_
      refine G_iald (pc := 72) (jj := i.toInt.toNat + k) (by rw [a_nc, en]) (e5 _) rfl (a_vin a (by omega)) dX11_goAll_72 ?_
      refine G_istore (pc := 73) rfl rfl (by decide) dX11_goAll_73 ?_
      refine G_aload_n (pc := 75) rfl dX11_goAll_75 ?_
      refine G_getR (pc := 76) (ci := 11) (j := 0) rfl lq_RX11_56 rfl rfl rfl dX11_goAll_76 ?_
      refine G_iload (pc := 79) rfl dX11_goAll_79 ?_
      refine oX11_goAll_81 (d + 39) _ [.int _] [] J _ _ 19 1 101 mX1_isAct rfl List.mem_cons_self mt_X1_isAct rfl (lsi ls0) ls0 (by simp) (isAct_G (fun p q => ?_) (fun p => ?_)) (fun _ _ h => h)
      · dsimp only [Option.toList, List.cons_append, List.nil_append]
        rw [e8] at q
        refine oX11_goAll_84 _ _ _ _ _ _ (fun c => absurd c (eqz (by decide))) (fun _ => ?_)
        refine G_aload_n (pc := 87) rfl dX11_goAll_87 ?_
        refine G_getR (pc := 88) (ci := 11) (j := 0) rfl lq_RX11_56 rfl rfl rfl dX11_goAll_88 ?_
        refine oX11_goAll_91 (d + 39) _ [] [] J _ _ 19 1 31 mX1_isOver rfl List.mem_cons_self mt_X1_isOver rfl ls0 ls0 (by simp) (isOver_G (fun r => ?_) (fun r => ?_)) (fun _ _ h => h)
        · dsimp only [Option.toList, List.cons_append, List.nil_append]
          rw [e2] at r
          rw [if_neg (by omega)] at he
          refine oX11_goAll_94 _ _ _ _ _ _ (fun _ => ?_) (fun c => absurd (nez (by decide)) c)
          refine G_iinc (pc := 115) (v := Int32.ofNat 1) n_add rfl rfl (by decide) rfl (by decide) dX11_goAll_115 ?_
          refine G_goto (pc := 118) (tgt := 41) (by decide) dX11_goAll_118 ?_
          refine G_drop 7 rfl ?_
          exact ih (k + 1) _ J (by omega) hJ hf h0 he
        · dsimp only [Option.toList, List.cons_append, List.nil_append]
          rw [e2] at r
          rw [if_pos ⟨p, q, r⟩] at he
          refine oX11_goAll_94 _ _ _ _ _ _ (fun c => absurd rfl c) (fun _ => ?_)
          refine G_iload (pc := 97) rfl dX11_goAll_97 ?_
          refine G_aload_n (pc := 99) rfl dX11_goAll_99 ?_
          refine G_aload_n (pc := 100) rfl dX11_goAll_100 ?_
          refine G_getR (pc := 101) (ci := 11) (j := 0) rfl lq_RX11_56 rfl rfl rfl dX11_goAll_101 ?_
          refine G_iload (pc := 104) rfl dX11_goAll_104 ?_
          refine oX11_goAll_106 (d + 39) _ [.int _] [.ref 0, .int w] J _ _ 19 1 81 mX1_goBy rfl List.mem_cons_self mt_X1_goBy rfl (lsi ls0) (lsr (lsi ls0)) (by simp) (hGo (d + 9) _ J _ hJ h0 (by omega) (fun y J1 j1 j2 j3 => ?_)) (fun _ _ h => h)
          dsimp only [Option.toList, List.cons_append, List.nil_append]
          refine oX11_goAll_109 (d + 39) _ [.int y] [.int w] J1 _ _ 0 11 82 mX11_scored rfl List.mem_cons_self mt_X11_scored rfl (lsi ls0) (lsi ls0) (by simp) (scored_G ?_) (fun _ _ h => h)
          dsimp only [Option.toList, List.cons_append, List.nil_append]
          refine G_iadd (pc := 112) rfl dX11_goAll_112 ?_
          refine G_istore (pc := 113) rfl rfl (by decide) dX11_goAll_113 ?_
          have e1 : gup J1 19 3 (J1 19 3 + y) 19 1 = J1 19 1 := gup_ne (Or.inr (by decide))
          refine G_iinc (pc := 115) (v := Int32.ofNat 1) n_add rfl rfl (by decide) rfl (by decide) dX11_goAll_115 ?_
          refine G_goto (pc := 118) (tgt := 41) (by decide) dX11_goAll_118 ?_
          refine G_drop 7 rfl ?_
          exact ih (k + 1) _ _ (by omega) (inv_put j1 (a_full (by decide +kernel))) ((hf.tr j2 (by decide +kernel)).put (by decide +kernel)) (by rw [e1, j3]; omega) (by rw [e1, j3]; exact he)
      · dsimp only [Option.toList, List.cons_append, List.nil_append]
        rw [e8] at p
        rw [if_neg (fun z => p ⟨z.1, z.2.1⟩)] at he
        refine oX11_goAll_84 _ _ _ _ _ _ (fun _ => ?_) (fun c => absurd rfl c)
        refine G_iinc (pc := 115) (v := Int32.ofNat 1) n_add rfl rfl (by decide) rfl (by decide) dX11_goAll_115 ?_
        refine G_goto (pc := 118) (tgt := 41) (by decide) dX11_goAll_118 ?_
        refine G_drop 7 rfl ?_
        exact ih (k + 1) _ J (by omega) hJ hf h0 he
    · dsimp only [Option.toList, List.cons_append, List.nil_append]
      rw [e3] at a
      simp only [goF] at he
      rw [if_neg (by omega)] at he
      refine oX11_goAll_56 _ _ _ _ _ _ (fun c => absurd rfl c) (fun _ => ?_)
      refine G_bipush (pc := 59) (v := (-12)) (by decide) dX11_goAll_59 ?_
      exact oX11_goAll_61 _ _ _ _ _ (hQ _ J hJ hf he)
set_option maxRecDepth 100000 in
set_option maxHeartbeats 4000000 in
theorem goX_3 {d : Nat} {I : gI} {i n : Int32} {Q : Option Value → gH → Prop} (hGo : hGoX 30) (hi : aInv bT I) (hn : 0 ≤ n.toInt ∧ n.toInt ≤ 20) (hi0 : 0 ≤ i.toInt) (ht : (I 2 3).toInt = 0) (hsz : 0 ≤ (I 3 3).toInt ∧ (I 3 3).toInt ≤ 40) (hh : 0 ≤ (I 19 1).toInt) (hen : (I 19 2).toInt ≤ 16) (hQ : ∀ (y : Int32) (J : gI), aInv bT J → afr mdGX I J → (J 19 1).toInt = goF (fun q => (I 8 (i.toInt.toNat + q)).toInt) (I 19 8).toInt (I 19 2).toInt (I 3 3).toInt i.toInt n.toInt.toNat 0 (I 19 1).toInt → Q (some (.int y)) (SH0, RF0, J)) : gg (d + 39 + 1) mX11_goAll 0 (gent 8 [.ref 0, .int 3, .int i, .int n]) [] I Q := by
  have k0 : (0 : Int32).toInt = 0 := rfl
  have k20 : (20 : Int32).toInt = 20 := rfl
  refine G_iload_n (pc := 0) rfl dX11_goAll_0 ?_
  refine oX11_goAll_1 (d + 39) _ [.int 3] [] I _ _ mX11_isPlace mt_X11_isPlace rfl (lsi ls0) ls0 (by simp) (isPlace_G (d := d + 38) (by decide) ?_) (fun _ _ h => h)
  dsimp only [Option.toList, List.cons_append, List.nil_append]
  refine oX11_goAll_4 _ _ _ _ _ _ (fun c => absurd c (eqz (by decide))) (fun _ => ?_)
  refine G_iload_n (pc := 7) rfl dX11_goAll_7 ?_
  refine G_iconst (pc := 8) (v := 0) (by decide) dX11_goAll_8 ?_
  refine G_bipush (pc := 9) (v := 20) (by decide) dX11_goAll_9 ?_
  refine oX11_goAll_11 (d + 39) _ [.int n, .int 0, .int 20] [] I _ _ mX11_isIn mt_X11_isIn rfl (lsi (lsi (lsi ls0))) ls0 (by simp) (isIn_G (fun _ _ => ?_) (fun a => by omega)) (fun _ _ h => h)
  dsimp only [Option.toList, List.cons_append, List.nil_append]
  refine oX11_goAll_14 _ _ _ _ _ _ (fun _ => ?_) (fun c => absurd (nez (by decide)) c)
  refine G_aload_n (pc := 19) rfl dX11_goAll_19 ?_
  refine G_iload_n (pc := 20) rfl dX11_goAll_20 ?_
  refine G_iconst (pc := 21) (v := 0) (by decide) dX11_goAll_21 ?_
  refine oX11_goAll_22 (d + 39) _ [.int 3, .int 0] [] I _ _ 0 11 104 mX11_refusalOf rfl List.mem_cons_self mt_X11_refusalOf rfl (lsi (lsi ls0)) ls0 (by simp) (refX_3 (fun a => by omega) (fun _ _ => ?_) (fun _ b => by omega)) (fun _ _ h => h)
  dsimp only [Option.toList, List.cons_append, List.nil_append]
  refine G_istore (pc := 25) rfl rfl (by decide) dX11_goAll_25 ?_
  refine G_iload (pc := 27) rfl dX11_goAll_27 ?_
  refine oX11_goAll_29 _ _ _ _ _ _ (fun _ => ?_) (fun c => absurd rfl c)
  refine G_iconst (pc := 35) (v := 0) (by decide) dX11_goAll_35 ?_
  refine G_istore (pc := 36) rfl rfl (by decide) dX11_goAll_36 ?_
  refine G_iconst (pc := 38) (v := Int32.ofNat 0) (by decide) dX11_goAll_38 ?_
  refine G_istore (pc := 39) rfl rfl (by decide) dX11_goAll_39 ?_
  have en : n = Int32.ofNat n.toInt.toNat := to_nat hn.1 (by omega)
  have h := goX_loop_3 (d := d) (I := I) (i := i) (n := n.toInt.toNat) (Q := Q) hGo (by omega) hi0 hsz hen hQ n.toInt.toNat 0 0 I (by omega) hi afr.rf hh rfl
  rw [← en] at h
  exact h
theorem isItemM_3 {d k : Nat} {i : Int32} {I : gI} {Q : Option Value → gH → Prop} (hz : 0 ≤ (I 83 3).toInt ∧ (I 83 3).toInt ≤ 40) (hk : k < 100) (h1 : 0 ≤ i.toInt → i.toInt + k < (I 83 3).toInt → Q (some (.int 1)) (SH0, RF0, I)) (h0 : (i.toInt < 0 ∨ (I 83 3).toInt ≤ i.toInt + k) → Q (some (.int 0)) (SH0, RF0, I)) : gg d mX12_isItem 0 (gent 4 [.ref 67, .int 3, .int i, .int (Int32.ofNat k)]) [] I Q := by
  have kz : (I 83 3 - Int32.ofNat k).toInt = (I 83 3).toInt - k := by
    rw [Int32.toInt_sub, n_int (by omega)]
    exact a_bm (by unfold aLo; omega) (by unfold aHi; omega)
  refine G_iload_n (pc := 0) rfl dX12_isItem_0 ?_
  refine oX12_isItem_1 _ _ _ _ _ _ (fun c => ?_) (fun c => ?_)
  · have c : i.toInt < 0 := c
    refine G_iconst (pc := 20) (v := 0) (by decide) dX12_isItem_20 ?_
    exact oX12_isItem_21 _ _ _ _ _ (Or.inl rfl) (h0 (Or.inl c))
  · have c : ¬ i.toInt < 0 := c
    refine G_iload_n (pc := 4) rfl dX12_isItem_4 ?_
    refine G_aload_n (pc := 5) rfl dX12_isItem_5 ?_
    refine G_getR (pc := 6) (ci := 12) (j := 29) rfl lq_RX12_56 rfl rfl rfl dX12_isItem_6 ?_
    refine G_iload_n (pc := 9) rfl dX12_isItem_9 ?_
    refine G_iald (pc := 10) (jj := 3) rfl rfl rfl (a_vin (by decide) (by decide)) dX12_isItem_10 ?_
    refine G_iload_n (pc := 11) rfl dX12_isItem_11 ?_
    refine G_isub (pc := 12) rfl dX12_isItem_12 ?_
    refine oX12_isItem_13 _ _ _ _ _ _ _ (fun c2 => ?_) (fun c2 => ?_)
    · have c2 : (I 83 3 - Int32.ofNat k).toInt ≤ i.toInt := c2
      refine G_iconst (pc := 20) (v := 0) (by decide) dX12_isItem_20 ?_
      exact oX12_isItem_21 _ _ _ _ _ (Or.inl rfl) (h0 (by omega))
    · have c2 : ¬ (I 83 3 - Int32.ofNat k).toInt ≤ i.toInt := c2
      refine G_iconst (pc := 16) (v := 1) (by decide) dX12_isItem_16 ?_
      refine G_goto (pc := 17) (tgt := 21) (by decide) dX12_isItem_17 ?_
      exact oX12_isItem_21 _ _ _ _ _ (Or.inr rfl) (h1 (by omega) (by omega))
set_option maxRecDepth 100000 in
set_option maxHeartbeats 4000000 in
theorem goM_loop_3 {d : Nat} {I : gI} {i : Int32} {n : Nat} {Q : Option Value → gH → Prop} (hGo : hGoM 30) (hn : n ≤ 20) (hi0 : 0 ≤ i.toInt) (hsz : 0 ≤ (I 83 3).toInt ∧ (I 83 3).toInt ≤ 40) (hcn : (I 68 4).toInt ≤ 6) (hen : (I 68 1).toInt ≤ 16) (hQ : ∀ (y : Int32) (J : gI), aInv bT J → afr mdG I J → (J 68 0).toInt = goF (fun q => (I 84 (120 + (i.toInt.toNat + q))).toInt) (I 68 4).toInt (I 68 1).toInt (I 83 3).toInt i.toInt n 0 (I 68 0).toInt → Q (some (.int y)) (SH0, RF0, J)) : ∀ (g k : Nat) (w : Int32) (J : gI), k + g = n → aInv bT J → WP J → afr mdG I J → 0 ≤ (J 68 0).toInt → goF (fun q => (I 84 (120 + (i.toInt.toNat + q))).toInt) (I 68 4).toInt (I 68 1).toInt (I 83 3).toInt i.toInt g k (J 68 0).toInt = goF (fun q => (I 84 (120 + (i.toInt.toNat + q))).toInt) (I 68 4).toInt (I 68 1).toInt (I 83 3).toInt i.toInt n 0 (I 68 0).toInt → gg (d + 39 + 1) mX12_goAll 41 [some (.ref 67), some (.int 3), some (.int i), some (.int (Int32.ofNat n)), some (.int 0), some (.int w), some (.int (Int32.ofNat k)), none] [] J Q := by
  intro g
  induction g with
  | zero =>
    intro k w J hk hJ hw hf h0 he
    have e : k = n := by omega
    subst e
    refine G_iload (pc := 41) rfl dX12_goAll_41 ?_
    refine G_iload_n (pc := 43) rfl dX12_goAll_43 ?_
    refine oX12_goAll_44 _ _ _ _ _ _ _ (fun _ => ?_) (fun c => absurd (Int.le_refl _) c)
    refine G_iload (pc := 114) rfl dX12_goAll_114 ?_
    exact oX12_goAll_116 _ _ _ _ _ (hQ w J hJ hf he)
  | succ g ih =>
    intro k w J hk hJ hw hf h0 he
    have e2 : J 68 1 = I 68 1 := hf 68 1 (by decide +kernel)
    have e3 : J 83 3 = I 83 3 := hf 83 3 (by decide +kernel)
    have e8 : J 68 4 = I 68 4 := hf 68 4 (by decide +kernel)
    have e5 : ∀ q, J 84 q = I 84 q := fun q => hf 84 q (nc_ok (by decide +kernel))
    have hkn : (Int32.ofNat k).toInt = k := n_int (by omega)
    have hnn : (Int32.ofNat n).toInt = n := n_int (by omega)
    refine G_iload (pc := 41) rfl dX12_goAll_41 ?_
    refine G_iload_n (pc := 43) rfl dX12_goAll_43 ?_
    refine oX12_goAll_44 _ _ _ _ _ _ _ (fun c => absurd c (by show ¬ ((Int32.ofNat n).toInt ≤ (Int32.ofNat k).toInt); omega)) (fun _ => ?_)
    refine G_aload_n (pc := 47) rfl dX12_goAll_47 ?_
    refine G_iload_n (pc := 48) rfl dX12_goAll_48 ?_
    refine G_iload_n (pc := 49) rfl dX12_goAll_49 ?_
    refine G_iload (pc := 50) rfl dX12_goAll_50 ?_
    refine oX12_goAll_52 (d + 39) _ [.int 3, .int i, .int (Int32.ofNat k)] [] J _ _ 67 12 176 mX12_isItem rfl List.mem_cons_self mt_X12_isItem rfl (lsi (lsi (lsi ls0))) ls0 (by simp) (isItemM_3 (by rw [e3]; exact hsz) (by omega) (fun a b => ?_) (fun a => ?_)) (fun _ _ h => h)
    · dsimp only [Option.toList, List.cons_append, List.nil_append]
      rw [e3] at b
      simp only [goF] at he
      rw [if_pos (by omega)] at he
      have ki : ((40 : Int32) * 3 + i + Int32.ofNat k).toInt = 120 + (i.toInt + k) := by
        have e1 : ((40 : Int32) * 3 + i).toInt = 120 + i.toInt := by
          rw [show (40 : Int32) * 3 = 120 by decide, Int32.toInt_add, show (120 : Int32).toInt = 120 from rfl]
          exact a_bm (by unfold aLo; omega) (by unfold aHi; omega)
        rw [Int32.toInt_add, e1, hkn, a_bm (by unfold aLo; omega) (by unfold aHi; omega)]
        omega
      refine oX12_goAll_55 _ _ _ _ _ _ (fun _ => ?_) (fun c => absurd (nez (by decide)) c)
      refine G_aload_n (pc := 61) rfl dX12_goAll_61 ?_
      refine G_getR (pc := 62) (ci := 12) (j := 30) rfl lq_RX12_59 rfl rfl rfl dX12_goAll_62 ?_
      refine G_bipush (pc := 65) (v := 40) (by decide) dX12_goAll_65 ?_
      refine G_iload_n (pc := 67) rfl dX12_goAll_67 ?_
      refine G_imul (pc := 68) rfl dX12_goAll_68 ?_
      refine G_iload_n (pc := 69) rfl dX12_goAll_69 ?_
      refine G_iadd (pc := 70) rfl dX12_goAll_70 ?_
      refine G_iload (pc := 71) rfl dX12_goAll_71 ?_
      refine G_iadd (pc := 73) rfl dX12_goAll_73 ?_
      refine G_iald (pc := 74) (jj := 120 + (i.toInt.toNat + k)) (by rw [a_nc, ki]; omega) (e5 _) rfl (a_vin (by omega) (by omega)) dX12_goAll_74 ?_
      refine G_istore (pc := 75) rfl rfl (by decide) dX12_goAll_75 ?_
      refine G_iload (pc := 77) rfl dX12_goAll_77 ?_
      refine G_aload_n (pc := 79) rfl dX12_goAll_79 ?_
      refine G_iload (pc := 80) rfl dX12_goAll_80 ?_
      refine oX12_goAll_82 (d + 39) _ [.int _] [.int w] J _ _ 67 12 173 mX12_isAct rfl List.mem_cons_self mt_X12_isAct rfl (lsi ls0) (lsi ls0) (by simp) (isActM_G (d := d + 38) (fun p q => ?_) (fun p => ?_)) (fun _ _ h => h)
      · dsimp only [Option.toList, List.cons_append, List.nil_append]
        rw [e8] at q
        refine oX12_goAll_85 _ _ _ _ _ _ (fun c => absurd c (eqz (by decide))) (fun _ => ?_)
        refine G_aload_n (pc := 88) rfl dX12_goAll_88 ?_
        refine oX12_goAll_89 (d + 39) _ [] [.int w] J _ _ 67 12 150 mX12_isOver rfl List.mem_cons_self mt_X12_isOver rfl ls0 (lsi ls0) (by simp) (isOverM_G (fun r => ?_) (fun r => ?_)) (fun _ _ h => h)
        · dsimp only [Option.toList, List.cons_append, List.nil_append]
          rw [e2] at r
          rw [if_neg (by omega)] at he
          refine oX12_goAll_92 _ _ _ _ _ _ (fun _ => ?_) (fun c => absurd (nez (by decide)) c)
          refine G_iconst (pc := 104) (v := 0) (by decide) dX12_goAll_104 ?_
          refine G_iadd (pc := 105) rfl dX12_goAll_105 ?_
          refine G_istore (pc := 106) rfl rfl (by decide) dX12_goAll_106 ?_
          refine G_iinc (pc := 108) (v := Int32.ofNat 1) n_add rfl rfl (by decide) rfl (by decide) dX12_goAll_108 ?_
          refine G_goto (pc := 111) (tgt := 41) (by decide) dX12_goAll_111 ?_
          refine G_drop 7 rfl ?_
          exact ih (k + 1) _ J (by omega) hJ hw hf h0 he
        · dsimp only [Option.toList, List.cons_append, List.nil_append]
          rw [e2] at r
          rw [if_pos ⟨p, q, r⟩] at he
          refine oX12_goAll_92 _ _ _ _ _ _ (fun c => absurd rfl c) (fun _ => ?_)
          refine G_aload_n (pc := 95) rfl dX12_goAll_95 ?_
          refine G_iload (pc := 96) rfl dX12_goAll_96 ?_
          refine oX12_goAll_98 (d + 39) _ [.int _] [.int w] J _ _ 67 12 151 mX12_goesBy rfl List.mem_cons_self mt_X12_goesBy rfl (lsi ls0) (lsi ls0) (by simp) (hGo (d + 9) _ J _ hJ hw p (by omega) h0 (by omega) (fun y J1 j1 j2 j3 => ?_)) (fun _ _ h => h)
          dsimp only [Option.toList, List.cons_append, List.nil_append]
          refine G_goto (pc := 101) (tgt := 105) (by decide) dX12_goAll_101 ?_
          refine G_iadd (pc := 105) rfl dX12_goAll_105 ?_
          refine G_istore (pc := 106) rfl rfl (by decide) dX12_goAll_106 ?_
          refine G_iinc (pc := 108) (v := Int32.ofNat 1) n_add rfl rfl (by decide) rfl (by decide) dX12_goAll_108 ?_
          refine G_goto (pc := 111) (tgt := 41) (by decide) dX12_goAll_111 ?_
          refine G_drop 7 rfl ?_
          exact ih (k + 1) _ J1 (by omega) j1 (pE WF_st (md := mdG) (by decide +kernel) J J1 hw j2) (hf.tr j2 (by decide +kernel)) (by rw [j3]; omega) (by rw [j3]; exact he)
      · dsimp only [Option.toList, List.cons_append, List.nil_append]
        rw [e8] at p
        rw [if_neg (fun z => p ⟨z.1, z.2.1⟩)] at he
        refine oX12_goAll_85 _ _ _ _ _ _ (fun _ => ?_) (fun c => absurd rfl c)
        refine G_iconst (pc := 104) (v := 0) (by decide) dX12_goAll_104 ?_
        refine G_iadd (pc := 105) rfl dX12_goAll_105 ?_
        refine G_istore (pc := 106) rfl rfl (by decide) dX12_goAll_106 ?_
        refine G_iinc (pc := 108) (v := Int32.ofNat 1) n_add rfl rfl (by decide) rfl (by decide) dX12_goAll_108 ?_
        refine G_goto (pc := 111) (tgt := 41) (by decide) dX12_goAll_111 ?_
        refine G_drop 7 rfl ?_
        exact ih (k + 1) _ J (by omega) hJ hw hf h0 he
    · dsimp only [Option.toList, List.cons_append, List.nil_append]
      rw [e3] at a
      simp only [goF] at he
      rw [if_neg (by omega)] at he
      refine oX12_goAll_55 _ _ _ _ _ _ (fun c => absurd rfl c) (fun _ => ?_)
      refine G_bipush (pc := 58) (v := (-12)) (by decide) dX12_goAll_58 ?_
      exact oX12_goAll_60 _ _ _ _ _ (hQ _ J hJ hf he)
set_option maxRecDepth 100000 in
set_option maxHeartbeats 4000000 in
theorem goM_3 {d : Nat} {I : gI} {i n : Int32} {Q : Option Value → gH → Prop} (hGo : hGoM 30) (hi : aInv bT I) (hw : WP I) (hn : 0 ≤ n.toInt ∧ n.toInt ≤ 20) (hi0 : 0 ≤ i.toInt) (ht : (I 82 3).toInt = 0) (hsz : 0 ≤ (I 83 3).toInt ∧ (I 83 3).toInt ≤ 40) (hh : 0 ≤ (I 68 0).toInt) (hcn : (I 68 4).toInt ≤ 6) (hen : (I 68 1).toInt ≤ 16) (hQ : ∀ (y : Int32) (J : gI), aInv bT J → afr mdG I J → (J 68 0).toInt = goF (fun q => (I 84 (120 + (i.toInt.toNat + q))).toInt) (I 68 4).toInt (I 68 1).toInt (I 83 3).toInt i.toInt n.toInt.toNat 0 (I 68 0).toInt → Q (some (.int y)) (SH0, RF0, J)) : gg (d + 39 + 1) mX12_goAll 0 (gent 8 [.ref 67, .int 3, .int i, .int n]) [] I Q := by
  have k0 : (0 : Int32).toInt = 0 := rfl
  have k20 : (20 : Int32).toInt = 20 := rfl
  refine G_iload_n (pc := 0) rfl dX12_goAll_0 ?_
  refine oX12_goAll_1 (d + 39) _ [.int 3] [] I _ _ mX12_isSheet mt_X12_isSheet rfl (lsi ls0) ls0 (by simp) (isSheet_G (d := d + 38) (by decide) ?_) (fun _ _ h => h)
  dsimp only [Option.toList, List.cons_append, List.nil_append]
  refine oX12_goAll_4 _ _ _ _ _ _ (fun c => absurd c (eqz (by decide))) (fun _ => ?_)
  refine G_iload_n (pc := 7) rfl dX12_goAll_7 ?_
  refine G_iconst (pc := 8) (v := 0) (by decide) dX12_goAll_8 ?_
  refine G_bipush (pc := 9) (v := 20) (by decide) dX12_goAll_9 ?_
  refine oX12_goAll_11 (d + 39) _ [.int n, .int 0, .int 20] [] I _ _ mX12_in1 mt_X12_in1 rfl (lsi (lsi (lsi ls0))) ls0 (by simp) (in1b_G (fun _ _ => ?_) (fun a => by omega)) (fun _ _ h => h)
  dsimp only [Option.toList, List.cons_append, List.nil_append]
  refine oX12_goAll_14 _ _ _ _ _ _ (fun _ => ?_) (fun c => absurd (nez (by decide)) c)
  refine G_aload_n (pc := 19) rfl dX12_goAll_19 ?_
  refine G_iload_n (pc := 20) rfl dX12_goAll_20 ?_
  refine G_iconst (pc := 21) (v := 0) (by decide) dX12_goAll_21 ?_
  refine oX12_goAll_22 (d + 39) _ [.int 3, .int 0] [] I _ _ 67 12 175 mX12_lacks rfl List.mem_cons_self mt_X12_lacks rfl (lsi (lsi ls0)) ls0 (by simp) (lacksM_3 (fun a => by omega) (fun _ _ => ?_) (fun _ b => by omega)) (fun _ _ h => h)
  dsimp only [Option.toList, List.cons_append, List.nil_append]
  refine G_istore (pc := 25) rfl rfl (by decide) dX12_goAll_25 ?_
  refine G_iload (pc := 27) rfl dX12_goAll_27 ?_
  refine oX12_goAll_29 _ _ _ _ _ _ (fun _ => ?_) (fun c => absurd rfl c)
  refine G_iconst (pc := 35) (v := 0) (by decide) dX12_goAll_35 ?_
  refine G_istore (pc := 36) rfl rfl (by decide) dX12_goAll_36 ?_
  refine G_iconst (pc := 38) (v := Int32.ofNat 0) (by decide) dX12_goAll_38 ?_
  refine G_istore (pc := 39) rfl rfl (by decide) dX12_goAll_39 ?_
  have en : n = Int32.ofNat n.toInt.toNat := to_nat hn.1 (by omega)
  have h := goM_loop_3 (d := d) (I := I) (i := i) (n := n.toInt.toNat) (Q := Q) hGo (by omega) hi0 hsz hcn hen hQ n.toInt.toNat 0 0 I (by omega) hi hw afr.rf hh rfl
  rw [← en] at h
  exact h
