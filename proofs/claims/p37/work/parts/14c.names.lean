/-! ===== the class's reader: isNamed, nextName ===== -/
theorem inv_put {I : gI} {c j : Nat} {v : Int32} (h : aInv bT I) (hv : ain (bnd bT c j) v) : aInv bT (gup I c j v) := fun c' j' => by
  by_cases e : c' = c ∧ j' = j
  · obtain ⟨rfl, rfl⟩ := e
    simp only [gup, if_true]
    exact hv
  · have e1 : gup I c j v c' j' = I c' j' := by
      by_cases ec : c' = c
      · have : j' ≠ j := fun z => e ⟨ec, z⟩
        simp [gup, this]
      · simp [gup, ec]
    rw [e1]
    exact h c' j'
theorem gup_at {I : gI} {c j : Nat} {v : Int32} : gup I c j v c j = v := by simp [gup]
theorem gup_ne {I : gI} {c j c' j' : Nat} {v : Int32} (h : c' ≠ c ∨ j' ≠ j) : gup I c j v c' j' = I c' j' := by
  rcases h with h | h
  · simp [gup, h]
  · by_cases e : c' = c <;> simp [gup, h]
theorem ain_of {bt : aT} {c j : Nat} {I : gI} {p : Int × Int} (h : aInv bt I) (e : bnd bt c j = p) : p.1 ≤ (I c j).toInt ∧ (I c j).toInt ≤ p.2 := by
  subst e
  exact h c j
theorem a_full {c j : Nat} {v : Int32} (h : bnd bT c j = (-2147483648, 2147483647)) : ain (bnd bT c j) v := by
  rw [h]
  exact a_rng v
theorem to_nat {x : Int32} (h : 0 ≤ x.toInt) (h1 : x.toInt < 1000) : x = Int32.ofNat x.toInt.toNat := Int32.toInt_inj.mp (by rw [n_int (by omega)]; omega)

section NM
variable {d : Nat} {I : gI} {Q : Option Value → gH → Prop}
set_option maxRecDepth 100000 in
set_option maxHeartbeats 4000000 in
theorem isNamed_loop {bg ln pl : Nat} (hb : bg + ln ≤ 93) (hp : pl + ln ≤ 200) (hpl : I 55 4 = Int32.ofNat pl) (hQ : ∀ w : Int32, w = 0 ∨ w = 1 → Q (some (.int w)) (SH0, RF0, I)) : ∀ g k : Nat, k + g = ln → gg (d + 4) mX5_isNamed 17 [some (.ref 55), some (.int (Int32.ofNat bg)), some (.int (Int32.ofNat ln)), some (.int (Int32.ofNat k))] [] I Q
  | 0, k, hk => by
    have e : k = ln := by omega
    subst e
    refine G_iload_n (pc := 17) rfl dX5_isNamed_17 ?_
    refine G_iload_n (pc := 18) rfl dX5_isNamed_18 ?_
    refine G_icmp_ge (pc := 19) (tgt := 52) (by decide) dX5_isNamed_19 (fun _ => ?_) (fun c => absurd (Int32.le_refl _) c)
    refine G_iconst (pc := 52) (v := 1) (by decide) dX5_isNamed_52 ?_
    exact G_zret (pc := 53) (Nat.le_refl _) (Nat.le_refl _) rfl (by decide) dX5_isNamed_53 (hQ 1 (Or.inr rfl))
  | g + 1, k, hk => by
    have hk1 : k < ln := by omega
    refine G_iload_n (pc := 17) rfl dX5_isNamed_17 ?_
    refine G_iload_n (pc := 18) rfl dX5_isNamed_18 ?_
    refine G_icmp_ge (pc := 19) (tgt := 52) (by decide) dX5_isNamed_19 (fun c => absurd c (by rw [Int32.le_iff_toInt_le, n_int (by omega), n_int (by omega)]; omega)) (fun _ => ?_)
    refine G_aload_n (pc := 22) rfl dX5_isNamed_22 ?_
    refine G_getR (pc := 23) (ci := 5) (j := 0) rfl lq_RX5_9 rfl rfl rfl dX5_isNamed_23 ?_
    refine G_aload_n (pc := 26) rfl dX5_isNamed_26 ?_
    refine G_getI (pc := 27) (ci := 5) (j := 4) hpl rfl lq_RX5_52 rfl rfl dX5_isNamed_27 ?_
    refine G_iload_n (pc := 30) rfl dX5_isNamed_30 ?_
    refine G_iadd (pc := 31) n_add dX5_isNamed_31 ?_
    refine G_iald (pc := 32) (n_clamp (show pl + k < 1000 by omega)) rfl rfl (n_in (show pl + k < 1000 by omega) (show pl + k < 200 by omega)) dX5_isNamed_32 ?_
    refine G_wat2 (pc := 33) (z := Int32.ofNat (bg + k)) rfl dX5_isNamed_33 dX5_isNamed_35 dX5_isNamed_36 dX5_isNamed_37 dX5_isNamed_38 rfl rfl n_add (n_in (show bg + k < 1000 by omega) (by omega)) (Nat.le_refl _) (Nat.le_refl _) (by simp [Value.category]) ?_
    refine G_icmp_eq (pc := 41) (tgt := 46) (by decide) dX5_isNamed_41 (fun _ => ?_) (fun _ => ?_)
    · refine G_iinc (pc := 46) (v := Int32.ofNat 1) n_add rfl rfl (by decide) rfl (by decide) dX5_isNamed_46 ?_
      refine G_goto (pc := 49) (tgt := 17) (by decide) dX5_isNamed_49 ?_
      exact isNamed_loop hb hp hpl hQ g (k + 1) (by omega)
    · refine G_iconst (pc := 44) (v := 0) (by decide) dX5_isNamed_44 ?_
      exact G_zret (pc := 45) (Nat.le_refl _) (Nat.le_refl _) rfl (by decide) dX5_isNamed_45 (hQ 0 (Or.inl rfl))
set_option maxRecDepth 100000 in
set_option maxHeartbeats 4000000 in
theorem isNamed_G {bg ln : Nat} (hb : bg + ln ≤ 93) (hi : aInv bT I) (hQ : ∀ w : Int32, w = 0 ∨ w = 1 → Q (some (.int w)) (SH0, RF0, I)) : gg (d + 4) mX5_isNamed 0 (gent 4 [.ref 55, .int (Int32.ofNat bg), .int (Int32.ofNat ln)]) [] I Q := by
  have ha := ain_of hi (show bnd bT 55 3 = (0, 200) by decide +kernel)
  have hp := ain_of hi (show bnd bT 55 4 = (0, 200) by decide +kernel)
  dsimp only at ha hp
  refine G_aload_n (pc := 0) rfl dX5_isNamed_0 ?_
  refine G_getI (pc := 1) (ci := 5) (j := 3) rfl rfl lq_RX5_58 rfl rfl dX5_isNamed_1 ?_
  refine G_aload_n (pc := 4) rfl dX5_isNamed_4 ?_
  refine G_getI (pc := 5) (ci := 5) (j := 4) rfl rfl lq_RX5_52 rfl rfl dX5_isNamed_5 ?_
  refine G_isub (pc := 8) rfl dX5_isNamed_8 ?_
  refine G_iload_n (pc := 9) rfl dX5_isNamed_9 ?_
  refine G_icmp_eq (pc := 10) (tgt := 15) (by decide) dX5_isNamed_10 (fun c => ?_) (fun _ => ?_)
  · have h1 : (I 55 3 - I 55 4).toInt = (ln : Int) := by rw [c, n_int (by omega)]
    rw [Int32.toInt_sub, a_bm (by unfold aLo; omega) (by unfold aHi; omega)] at h1
    refine G_iconst (pc := 15) (v := Int32.ofNat 0) (by decide) dX5_isNamed_15 ?_
    refine G_istore_n (pc := 16) rfl rfl (by decide) dX5_isNamed_16 ?_
    exact isNamed_loop (pl := (I 55 4).toInt.toNat) hb (by omega) (to_nat hp.1 (by omega)) hQ ln 0 (by omega)
  · refine G_iconst (pc := 13) (v := 0) (by decide) dX5_isNamed_13 ?_
    exact G_zret (pc := 14) (Nat.le_refl _) (Nat.le_refl _) rfl (by decide) dX5_isNamed_14 (hQ 0 (Or.inl rfl))
theorem oX5_nextName_20 : oP MT mX5_nextName 20 (25, 3, 53, 1, []) := o_callS dX5_nextName_20 (mj := mX5_isLetter) mt_X5_isLetter cmq_X5_isLetter wq_240 wq_242 (by decide) (by decide)
theorem wn_code : Cond.code yX5_isNamed cX5_isNamed 4 (some .boolean) ∈ gBIG := gm_at (l := tables_1_3) 138 (by decide +kernel) gs3
theorem wn_link : Cond.methodLink RX5 89 yX5_isNamed ∈ gBIG := gm_at (l := tables_1_3) 135 (by decide +kernel) gs3
theorem wn_inst : Cond.instanceMethod yX5_isNamed ∈ gBIG := gm_at (l := tables_1_3) 137 (by decide +kernel) gs3
theorem wn_sel : Cond.selects RX5 yX5_isNamed yX5_isNamed ∈ gBIG := gm_at (l := (k2_sels lw_privs)) 8 (by decide +kernel) gs0
theorem cmn_isNamed : gcm mX5_isNamed 2 := ⟨wn_code, wq_206, by decide, by decide, by decide, by decide +kernel, by decide⟩
def mdN : aMd := [(55, 3, 3), (55, 5, 5)]
theorem mdN3 : amodr mdN 55 3 3 = true := by decide
theorem mdN5 : amodr mdN 55 5 5 = true := by decide
set_option maxRecDepth 100000 in
set_option maxHeartbeats 4000000 in
theorem nextName_loop2 (hQ : ∀ J, afr mdN I J → aInv bT J → Q none (SH0, RF0, J)) : ∀ (g i bg : Nat) (w : Int32) (J : gI), i + g = 93 → bg ≤ i → afr mdN I J → aInv bT J → gg (d + 5) mX5_nextName 50 [some (.ref 55), some (.int w), some (.int (Int32.ofNat bg)), some (.int (Int32.ofNat i))] [] J Q
  | 0, i, bg, w, J, hg, hb, hf, hi => by
    have e : i = 93 := by omega
    subst e
    refine G_iload_n (pc := 50) rfl dX5_nextName_50 ?_
    refine G_wlen (pc := 51) rfl dX5_nextName_51 dX5_nextName_53 (Nat.le_refl _) (Nat.le_refl _) (by simp [Value.category]) ?_
    refine G_icmp_ge (pc := 56) (tgt := 107) (by decide) dX5_nextName_56 (fun _ => ?_) (fun c => absurd (by decide) c)
    exact G_vret (pc := 107) (Nat.le_refl _) (Nat.le_refl _) rfl dX5_nextName_107 (hQ J hf hi)
  | g + 1, i, bg, w, J, hg, hb, hf, hi => by
    have hi93 : i < 93 := by omega
    refine G_iload_n (pc := 50) rfl dX5_nextName_50 ?_
    refine G_wlen (pc := 51) rfl dX5_nextName_51 dX5_nextName_53 (Nat.le_refl _) (Nat.le_refl _) (by simp [Value.category]) ?_
    refine G_icmp_ge (pc := 56) (tgt := 107) (by decide) dX5_nextName_56 (fun _ => G_vret (pc := 107) (Nat.le_refl _) (Nat.le_refl _) rfl dX5_nextName_107 (hQ J hf hi)) (fun _ => ?_)
    refine G_aload_n (pc := 59) rfl dX5_nextName_59 ?_
    refine G_getI (pc := 60) (ci := 5) (j := 5) rfl rfl lq_RX5_42 rfl rfl dX5_nextName_60 ?_
    refine G_iconst (pc := 63) (v := (-1)) (by decide) dX5_nextName_63 ?_
    refine G_icmp_ne (pc := 64) (tgt := 107) (by decide) dX5_nextName_64 (fun _ => G_vret (pc := 107) (Nat.le_refl _) (Nat.le_refl _) rfl dX5_nextName_107 (hQ J hf hi)) (fun _ => ?_)
    refine G_wat1 (pc := 67) rfl dX5_nextName_67 dX5_nextName_69 dX5_nextName_70 rfl (n_in (show i < 1000 by omega) hi93) (Nat.le_refl _) (Nat.le_refl _) (by simp [Value.category]) ?_
    have tail : ∀ (w' : Int32) (bg' : Nat) (J' : gI), bg' ≤ i + 1 → afr mdN I J' → aInv bT J' → gg (d + 5) mX5_nextName 101 [some (.ref 55), some (.int w'), some (.int (Int32.ofNat bg')), some (.int (Int32.ofNat i))] [] J' Q := by
      intro w' bg' J' h1 h2 h3
      refine G_iinc (pc := 101) (v := Int32.ofNat 1) n_add rfl rfl (by decide) rfl (by decide) dX5_nextName_101 ?_
      refine G_goto (pc := 104) (tgt := 50) (by decide) dX5_nextName_104 ?_
      exact nextName_loop2 hQ g (i + 1) bg' w' J' (by omega) h1 h2 h3
    refine G_bipush (pc := 73) (v := 32) (by decide) dX5_nextName_73 ?_
    refine G_icmp_ne (pc := 75) (tgt := 101) (by decide) dX5_nextName_75 (fun _ => tail w bg J (by omega) hf hi) (fun _ => ?_)
    refine G_aload_n (pc := 78) rfl dX5_nextName_78 ?_
    refine G_iload_n (pc := 79) rfl dX5_nextName_79 ?_
    refine G_iload_n (pc := 80) rfl dX5_nextName_80 ?_
    refine G_iload_n (pc := 81) rfl dX5_nextName_81 ?_
    refine G_isub (pc := 82) (n_sub (by omega) (by omega)) dX5_nextName_82 ?_
    have adv : ∀ (J' : gI), afr mdN I J' → aInv bT J' → gg (d + 5) mX5_nextName 94 [some (.ref 55), some (.int w), some (.int (Int32.ofNat bg)), some (.int (Int32.ofNat i))] [] J' Q := by
      intro J' h2 h3
      refine G_iinc (pc := 94) (v := 1) rfl rfl rfl (by decide) rfl (by decide) dX5_nextName_94 ?_
      refine G_iload_n (pc := 97) rfl dX5_nextName_97 ?_
      refine G_iconst (pc := 98) (v := Int32.ofNat 1) (by decide) dX5_nextName_98 ?_
      refine G_iadd (pc := 99) n_add dX5_nextName_99 ?_
      refine G_istore_n (pc := 100) rfl rfl (by decide) dX5_nextName_100 ?_
      exact tail _ (i + 1) J' (Nat.le_refl _) h2 h3
    refine G_callV (pc := 83) (d := d + 4) (mc1 := 0) (ms1 := 0) (mj := mX5_isNamed) (vs := [.int (Int32.ofNat bg), .int (Int32.ofNat (i - bg))]) (S := []) (Q1 := fun r h => (∃ y : Int32, r = some (.int y)) ∧ h = (SH0, RF0, J)) (C := RX5) (T := TX5) (N := 15) (ci := 5) (x := 55) dX5_nextName_83 rfl rfl cmn_isNamed wn_link wn_inst wn_sel rfl (by simp) (by simp [gen, Value.category]) (Nat.le_refl _) (Nat.le_refl _) (isNamed_G (by omega) hi (fun y _ => ⟨⟨y, rfl⟩, rfl⟩)) ?_
    rintro _ _ ⟨⟨y, rfl⟩, rfl⟩
    dsimp only [Option.toList, List.cons_append, List.nil_append]
    refine G_if_eq (pc := 86) (tgt := 94) (by decide) dX5_nextName_86 (fun _ => adv J hf hi) (fun _ => ?_)
    refine G_aload_n (pc := 89) rfl dX5_nextName_89 ?_
    refine G_iload_n (pc := 90) rfl dX5_nextName_90 ?_
    refine G_putI (pc := 91) (ci := 5) (j := 5) rfl lq_RX5_42 rfl rfl rfl trivial dX5_nextName_91 ?_
    exact adv _ (hf.put mdN5) (inv_put hi (a_full (by decide +kernel)))
set_option maxRecDepth 100000 in
set_option maxHeartbeats 4000000 in
theorem nextName_loop1 {Ext : gI → Prop} (hL : MSok bT Ext MT (53, 0, [(0, (-2147483648), 2147483647)], [], [], [(some (0, 1), [], [])])) (hE : ∀ J, afr mdN I J → Ext J) (hQ : ∀ J, afr mdN I J → aInv bT J → Q none (SH0, RF0, J)) : ∀ (g : Nat) (J : gI), (J 55 1).toInt ≤ (J 55 3).toInt + g → afr mdN I J → aInv bT J → gg (d + 5) mX5_nextName 0 [some (.ref 55), none, none, none] [] J Q := by
  intro g
  induction g with
  | zero =>
    intro J hg hf hi
    refine G_aload_n (pc := 0) rfl dX5_nextName_0 ?_
    refine G_getI (pc := 1) (ci := 5) (j := 3) rfl rfl lq_RX5_58 rfl rfl dX5_nextName_1 ?_
    refine G_aload_n (pc := 4) rfl dX5_nextName_4 ?_
    refine G_getI (pc := 5) (ci := 5) (j := 1) rfl rfl lq_RX5_32 rfl rfl dX5_nextName_5 ?_
    refine G_icmp_ge (pc := 8) (tgt := 39) (by decide) dX5_nextName_8 (fun _ => ?_) (fun c => absurd (by rw [Int32.le_iff_toInt_le]; omega) c)
    refine G_aload_n (pc := 39) rfl dX5_nextName_39 ?_
    refine G_iconst (pc := 40) (v := (-1)) (by decide) dX5_nextName_40 ?_
    refine G_putI (pc := 41) (ci := 5) (j := 5) rfl lq_RX5_42 rfl rfl rfl trivial dX5_nextName_41 ?_
    refine G_iconst (pc := 44) (v := 0) (by decide) dX5_nextName_44 ?_
    refine G_istore_n (pc := 45) rfl rfl (by decide) dX5_nextName_45 ?_
    refine G_iconst (pc := 46) (v := Int32.ofNat 0) (by decide) dX5_nextName_46 ?_
    refine G_istore_n (pc := 47) rfl rfl (by decide) dX5_nextName_47 ?_
    refine G_iconst (pc := 48) (v := Int32.ofNat 0) (by decide) dX5_nextName_48 ?_
    refine G_istore_n (pc := 49) rfl rfl (by decide) dX5_nextName_49 ?_
    exact nextName_loop2 hQ 93 0 0 _ _ rfl (Nat.le_refl _) (hf.put mdN5) (inv_put hi (a_full (by decide +kernel)))
  | succ g ih =>
    intro J hg hf hi
    have ha := ain_of hi (show bnd bT 55 3 = (0, 200) by decide +kernel)
    have hz := ain_of hi (show bnd bT 55 1 = (0, 200) by decide +kernel)
    dsimp only at ha hz
    have out : gg (d + 5) mX5_nextName 39 [some (.ref 55), none, none, none] [] J Q := by
      refine G_aload_n (pc := 39) rfl dX5_nextName_39 ?_
      refine G_iconst (pc := 40) (v := (-1)) (by decide) dX5_nextName_40 ?_
      refine G_putI (pc := 41) (ci := 5) (j := 5) rfl lq_RX5_42 rfl rfl rfl trivial dX5_nextName_41 ?_
      refine G_iconst (pc := 44) (v := 0) (by decide) dX5_nextName_44 ?_
      refine G_istore_n (pc := 45) rfl rfl (by decide) dX5_nextName_45 ?_
      refine G_iconst (pc := 46) (v := Int32.ofNat 0) (by decide) dX5_nextName_46 ?_
      refine G_istore_n (pc := 47) rfl rfl (by decide) dX5_nextName_47 ?_
      refine G_iconst (pc := 48) (v := Int32.ofNat 0) (by decide) dX5_nextName_48 ?_
      refine G_istore_n (pc := 49) rfl rfl (by decide) dX5_nextName_49 ?_
      exact nextName_loop2 hQ 93 0 0 _ _ rfl (Nat.le_refl _) (hf.put mdN5) (inv_put hi (a_full (by decide +kernel)))
    refine G_aload_n (pc := 0) rfl dX5_nextName_0 ?_
    refine G_getI (pc := 1) (ci := 5) (j := 3) rfl rfl lq_RX5_58 rfl rfl dX5_nextName_1 ?_
    refine G_aload_n (pc := 4) rfl dX5_nextName_4 ?_
    refine G_getI (pc := 5) (ci := 5) (j := 1) rfl rfl lq_RX5_32 rfl rfl dX5_nextName_5 ?_
    refine G_icmp_ge (pc := 8) (tgt := 39) (by decide) dX5_nextName_8 (fun _ => out) (fun c => ?_)
    rw [Int32.le_iff_toInt_le] at c
    refine G_aload_n (pc := 11) rfl dX5_nextName_11 ?_
    refine G_getR (pc := 12) (ci := 5) (j := 0) rfl lq_RX5_9 rfl rfl rfl dX5_nextName_12 ?_
    refine G_aload_n (pc := 15) rfl dX5_nextName_15 ?_
    refine G_getI (pc := 16) (ci := 5) (j := 3) rfl rfl lq_RX5_58 rfl rfl dX5_nextName_16 ?_
    refine G_iald (pc := 19) a_nc rfl rfl (a_vin ha.1 (by omega)) dX5_nextName_19 ?_
    refine oX5_nextName_20 (d + 4) _ [.int (J 56 (J 55 3).toInt.toNat)] [] J Q _ mX5_isLetter mt_X5_isLetter rfl (fun v hv => ?_) (fun v hv => absurd hv List.not_mem_nil) (by simp) (hL mX5_isLetter mt_X5_isLetter (d + 4) _ J ⟨⟨_, rfl, a_rng _⟩, trivial⟩ hi (hE J hf) (fun s hs => absurd hs List.not_mem_nil)) ?_
    · simp only [List.mem_cons, List.not_mem_nil, or_false] at hv
      rcases hv with rfl
      exact Or.inl ⟨_, rfl⟩
    rintro _ _ ⟨J', rfl, -, hf', c', hc', hcase⟩
    have ec : c' = (some (0, 1), [], []) := by simpa using hc'
    subst ec
    obtain ⟨⟨y, rfl, -⟩, -, -⟩ := hcase
    rw [afr_nil hf']
    dsimp only [Option.toList, List.cons_append, List.nil_append]
    refine G_if_eq (pc := 23) (tgt := 39) (by decide) dX5_nextName_23 (fun _ => out) (fun _ => ?_)
    refine G_aload_n (pc := 26) rfl dX5_nextName_26 ?_
    refine G_dup (pc := 27) rfl dX5_nextName_27 ?_
    refine G_getI (pc := 28) (ci := 5) (j := 3) rfl rfl lq_RX5_58 rfl rfl dX5_nextName_28 ?_
    refine G_iconst (pc := 31) (v := 1) (by decide) dX5_nextName_31 ?_
    refine G_iadd (pc := 32) rfl dX5_nextName_32 ?_
    refine G_putI (pc := 33) (ci := 5) (j := 3) rfl lq_RX5_58 rfl rfl rfl trivial dX5_nextName_33 ?_
    refine G_goto (pc := 36) (tgt := 0) (by decide) dX5_nextName_36 ?_
    have e1 : (J 55 3 + 1).toInt = (J 55 3).toInt + 1 := by
      rw [Int32.toInt_add, show (1 : Int32).toInt = 1 from rfl, a_bm (by unfold aLo; omega) (by unfold aHi; omega)]
    refine ih _ ?_ (hf.put mdN3) (inv_put hi (show ain (bnd bT 55 3) _ by rw [show bnd bT 55 3 = (0, 200) by decide +kernel]; exact ⟨by show (0 : Int) ≤ _; omega, by show _ ≤ (200 : Int); omega⟩))
    rw [gup_at, gup_ne (Or.inr (by decide)), e1]
    omega
end NM
theorem ms_nextName {Ext : gI → Prop} (hX : pSt Ext) (hL : MSok bT Ext MT (53, 0, [(0, (-2147483648), 2147483647)], [], [], [(some (0, 1), [], [])])) : MSok bT Ext MT (55, 5, [(1, 55, 0)], [], mdN, [(none, [], [])]) := by
  intro mj hmj d vs I hargs hinv hext hpre
  have e : mX5_nextName = mj := Option.some.inj (mt_X5_nextName.symm.trans hmj)
  subst e
  match vs, hargs with
  | [a0], hargs =>
    obtain ⟨c0, rfl, hc0⟩ : ∃ c : Nat, a0 = .ref c ∧ (55 : Int) = (c : Int) := hargs.1
    have ec : c0 = 55 := by omega
    subst ec
    exact nextName_loop1 hL (fun J hJ => pE hX (md := mdN) (by decide +kernel) I J hext hJ) (fun J h1 h2 => ⟨J, rfl, h2, h1, _, List.mem_cons_self, rfl, fun q hq => absurd hq List.not_mem_nil, fun s hs => absurd hs List.not_mem_nil⟩) ((I 55 1).toInt - (I 55 3).toInt).toNat I (by omega) afr.rf hinv
