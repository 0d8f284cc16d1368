/-! ===== rules() of the reference ===== -/
def mdV : aMd := [(67, 6, 6), (67, 8, 13), (74, 0, 199), (75, 0, 23)]
def ee (J : gI) (r : Nat) : Int := (J 75 (3 * r + 2)).toInt
def eb (J : gI) (r : Nat) : Int := if r = 0 then 0 else ee J (r - 1)
def RI (J : gI) (n : Nat) : Prop := (n = 0 → (J 67 13).toInt = 0) ∧ (0 < n → ee J (n - 1) = (J 67 13).toInt) ∧ ∀ r, r < n → ee J r ≤ (J 67 13).toInt ∧ eb J r ≤ ee J r ∧ 0 ≤ eb J r ∧ rdn (cd J) (ee J r - eb J r).toNat (eb J r).toNat 0 = true
theorem eb_at {J : gI} {n : Nat} (h : RI J n) : eb J n = (J 67 13).toInt := by
  unfold eb
  by_cases h0 : n = 0
  · rw [if_pos h0]
    exact (h.1 h0).symm
  · rw [if_neg h0]
    exact h.2.1 (by omega)
theorem RI.step {I J : gI} {n : Nat} (h : RI I n) (h0 : 0 ≤ (I 67 13).toInt) (hu : RU I n J) : RI J (n + 1) := by
  obtain ⟨u1, u2, u3, u4, u5, u6, u7, u8⟩ := hu
  have hee : ∀ r, r < n → ee J r = ee I r := fun r hr => by
    unfold ee
    rw [u6 _ (by omega)]
  have heb : ∀ r, r ≤ n → eb J r = eb I r := fun r hr => by
    unfold eb
    by_cases hz : r = 0
    · rw [if_pos hz, if_pos hz]
    · rw [if_neg hz, if_neg hz, hee _ (by omega)]
  have hn : ee J n = (J 67 13).toInt := by
    unfold ee
    rw [u7]
  refine ⟨fun e => by omega, fun _ => hn, fun r hr => ?_⟩
  by_cases hrn : r < n
  · obtain ⟨a1, a2, a3, a4⟩ := h.2.2 r hrn
    rw [hee r hrn, heb r (by omega)]
    refine ⟨by omega, a2, a3, ?_⟩
    rw [rdn_eq (f' := cd I) _ _ _ (fun q b1 b2 => u5 q (by unfold sN; omega))]
    exact a4
  · have er : r = n := by omega
    subst er
    rw [hn, heb r (Nat.le_refl _), eb_at h]
    refine ⟨Int.le_refl _, u4, h0, ?_⟩
    have e1 : ((J 67 13).toInt - (I 67 13).toInt).toNat = sN J - sN I := by
      unfold sN
      omega
    rw [e1]
    exact u8
theorem V_of {I J : gI} (h : afr mdU I J) : afr mdV I J := fun c j hm => h c j (amdsub_ok (md1 := mdU) (md := mdV) (by decide) hm)
section rlK
variable {d : Nat} {I : gI} {Q : Option Value → gH → Prop}
set_option maxRecDepth 100000 in
set_option maxHeartbeats 8000000 in
theorem rules_l (hN : MSok bT (fun _ => True) MT (129, 1, [(1, 67, 0), (0, 0, 17)], [], [], [(some (0, 1), [], [])])) (hbad : ∀ (n : Int32) (J : gI), afr mdV I J → aInv bT J → gg (d + 24) mX12_rules 42 [some (.ref 67), some (.int n), some (.int 0), none] [] J Q) (hok : ∀ (n : Nat) (J : gI), n ≤ 8 → PS J 0 → RI J n → afr mdV I J → gg (d + 24) mX12_rules 42 [some (.ref 67), some (.int (Int32.ofNat n)), some (.int 1), none] [] J Q) : ∀ (g n : Nat) (J : gI), 200 ≤ (J 67 9).toInt + g → n ≤ 8 → PS J 0 → RI J n → afr mdV I J → gg (d + 24) mX12_rules 18 [some (.ref 67), some (.int (Int32.ofNat n)), some (.int 1), none] [] J Q := by
  intro g
  induction g with
  | zero =>
    intro n J hg hn h hR hf
    have hr := h.rng
    refine G_iload_n (pc := 18) rfl dX12_rules_18 ?_
    refine G_if_eq (pc := 19) (tgt := 42) (by decide) dX12_rules_19 (fun c => absurd c (by decide)) (fun _ => ?_)
    refine G_aload_n (pc := 22) rfl dX12_rules_22 ?_
    refine G_getI (pc := 23) (ci := 12) (j := 10) rfl rfl lq_RX12_139 rfl rfl dX12_rules_23 ?_
    refine G_iconst (pc := 26) (v := (-1)) (by decide) dX12_rules_26 ?_
    refine G_icmp_eq (pc := 27) (tgt := 42) (by decide) dX12_rules_27 (fun _ => hok n J hn h hR hf) (fun c => absurd (Int32.toInt_inj.mp ?_) c)
    have h4 := h.2.2.2.1
    show (J 67 10).toInt = -1
    omega
  | succ g ih =>
    intro n J hg hn h hR hf
    have hr := h.rng
    refine G_iload_n (pc := 18) rfl dX12_rules_18 ?_
    refine G_if_eq (pc := 19) (tgt := 42) (by decide) dX12_rules_19 (fun c => absurd c (by decide)) (fun _ => ?_)
    refine G_aload_n (pc := 22) rfl dX12_rules_22 ?_
    refine G_getI (pc := 23) (ci := 12) (j := 10) rfl rfl lq_RX12_139 rfl rfl dX12_rules_23 ?_
    refine G_iconst (pc := 26) (v := (-1)) (by decide) dX12_rules_26 ?_
    refine G_icmp_eq (pc := 27) (tgt := 42) (by decide) dX12_rules_27 (fun _ => hok n J hn h hR hf) (fun c => ?_)
    refine G_aload_n (pc := 30) rfl dX12_rules_30 ?_
    refine G_iload_n (pc := 31) rfl dX12_rules_31 ?_
    refine oX12_rules_32 (d + 23) _ [.int (Int32.ofNat n)] [] J _ (UQ J n) 67 12 140 mX12_readsRule rfl List.mem_cons_self mt_X12_readsRule rfl ls1 ls0 (by simp) (rule_G hN h hn) ?_
    rintro _ _ ⟨y, K, rfl, rfl, hf2, hi2, hy⟩
    dsimp only [Option.toList, List.cons_append, List.nil_append]
    refine G_istore_n (pc := 35) rfl rfl (by decide) dX12_rules_35 ?_
    refine G_iinc (pc := 36) (v := Int32.ofNat 1) n_add rfl rfl (by decide) rfl (by decide) dX12_rules_36 ?_
    refine G_goto (pc := 39) (tgt := 18) (by decide) dX12_rules_39 ?_
    have hf3 := hf.tr (V_of hf2) (by decide)
    rcases hy with rfl | ⟨rfl, hu⟩
    · refine G_iload_n (pc := 18) rfl dX12_rules_18 ?_
      exact G_if_eq (pc := 19) (tgt := 42) (by decide) dX12_rules_19 (fun _ => hbad _ K hf3 hi2) (fun c => absurd rfl c)
    · have := hu.2.2.1
      have := hu.2.1
      exact ih (n + 1) K (by omega) (by omega) hu.1 (hR.step hr.1 hu) hf3
set_option maxRecDepth 100000 in
set_option maxHeartbeats 8000000 in
theorem rules_c1 {n : Nat} (hn : n ≤ 8) (hQ : gg d mX12_rules 96 [some (.ref 67), some (.int (Int32.ofNat n)), some (.int 1), some (.int (Int32.ofNat (3 * n)))] [] (gcp I 75 68 0 89 (3 * n)) Q) : ∀ g k : Nat, k + g = 3 * n → gg d mX12_rules 68 [some (.ref 67), some (.int (Int32.ofNat n)), some (.int 1), some (.int (Int32.ofNat k))] [] (gcp I 75 68 0 89 k) Q
  | 0, k, hk => by
    have e : k = 3 * n := by omega
    subst e
    refine G_iload_n (pc := 68) rfl dX12_rules_68 ?_
    refine G_iconst (pc := 69) (v := Int32.ofNat 3) (by decide) dX12_rules_69 ?_
    refine G_iload_n (pc := 70) rfl dX12_rules_70 ?_
    refine G_imul (pc := 71) n_mul dX12_rules_71 ?_
    exact G_icmp_ge (pc := 72) (tgt := 96) (by decide) dX12_rules_72 (fun _ => hQ) (fun c => absurd (Int32.le_refl _) c)
  | g + 1, k, hk => by
    have hk1 : k < 24 := by omega
    have ih := rules_c1 hn hQ g (k + 1) (by omega)
    refine G_iload_n (pc := 68) rfl dX12_rules_68 ?_
    refine G_iconst (pc := 69) (v := Int32.ofNat 3) (by decide) dX12_rules_69 ?_
    refine G_iload_n (pc := 70) rfl dX12_rules_70 ?_
    refine G_imul (pc := 71) n_mul dX12_rules_71 ?_
    refine G_icmp_ge (pc := 72) (tgt := 96) (by decide) dX12_rules_72 (fun c => absurd c (by rw [n_le (by omega) (by omega)]; omega)) (fun _ => ?_)
    refine G_aload_n (pc := 75) rfl dX12_rules_75 ?_
    refine G_getR (pc := 76) (ci := 12) (j := 0) rfl lq_RX12_9 rfl rfl rfl dX12_rules_76 ?_
    refine G_bipush (pc := 79) (v := Int32.ofNat 89) (by decide) dX12_rules_79 ?_
    refine G_iload_n (pc := 81) rfl dX12_rules_81 ?_
    refine G_iadd (pc := 82) n_add dX12_rules_82 ?_
    refine G_aload_n (pc := 83) rfl dX12_rules_83 ?_
    refine G_getR (pc := 84) (ci := 12) (j := 15) rfl lq_RX12_32 rfl rfl rfl dX12_rules_84 ?_
    refine G_iload_n (pc := 87) rfl dX12_rules_87 ?_
    refine G_iald (pc := 88) (n_clamp (show k < 1000 by omega)) rfl rfl (n_in (show k < 1000 by omega) hk1) dX12_rules_88 ?_
    refine G_iast (pc := 89) (n_clamp (show 89 + k < 1000 by omega)) rfl (n_in (show 89 + k < 1000 by omega) (show 89 + k < 313 by omega)) dX12_rules_89 ?_
    rw [gcp_step (by decide) (by omega) (by omega)]
    refine G_iinc (pc := 90) (v := Int32.ofNat 1) n_add rfl rfl (by decide) rfl (by decide) dX12_rules_90 ?_
    refine G_goto (pc := 93) (tgt := 68) (by decide) dX12_rules_93 ?_
    exact ih
set_option maxRecDepth 100000 in
set_option maxHeartbeats 8000000 in
theorem rules_c2 {n S : Nat} (hS : S ≤ 200) (eS : I 67 13 = Int32.ofNat S) (hQ : gg d mX12_rules 127 [some (.ref 67), some (.int (Int32.ofNat n)), some (.int 1), some (.int (Int32.ofNat S))] [] (gcp I 74 68 0 113 S) Q) : ∀ g k : Nat, k + g = S → gg d mX12_rules 98 [some (.ref 67), some (.int (Int32.ofNat n)), some (.int 1), some (.int (Int32.ofNat k))] [] (gcp I 74 68 0 113 k) Q
  | 0, k, hk => by
    have e : k = S := by omega
    subst e
    have e13 : gcp I 74 68 0 113 k 67 13 = Int32.ofNat k := by rw [gcp_at, if_neg (by omega)]; exact eS
    refine G_iload_n (pc := 98) rfl dX12_rules_98 ?_
    refine G_aload_n (pc := 99) rfl dX12_rules_99 ?_
    refine G_getI (pc := 100) (ci := 12) (j := 13) e13 rfl lq_RX12_158 rfl rfl dX12_rules_100 ?_
    exact G_icmp_ge (pc := 103) (tgt := 127) (by decide) dX12_rules_103 (fun _ => hQ) (fun c => absurd (Int32.le_refl _) c)
  | g + 1, k, hk => by
    have hk1 : k < 200 := by omega
    have e13 : gcp I 74 68 0 113 k 67 13 = Int32.ofNat S := by rw [gcp_at, if_neg (by omega)]; exact eS
    have ih := rules_c2 hS eS hQ g (k + 1) (by omega)
    refine G_iload_n (pc := 98) rfl dX12_rules_98 ?_
    refine G_aload_n (pc := 99) rfl dX12_rules_99 ?_
    refine G_getI (pc := 100) (ci := 12) (j := 13) e13 rfl lq_RX12_158 rfl rfl dX12_rules_100 ?_
    refine G_icmp_ge (pc := 103) (tgt := 127) (by decide) dX12_rules_103 (fun c => absurd c (by rw [n_le (by omega) (by omega)]; omega)) (fun _ => ?_)
    refine G_aload_n (pc := 106) rfl dX12_rules_106 ?_
    refine G_getR (pc := 107) (ci := 12) (j := 0) rfl lq_RX12_9 rfl rfl rfl dX12_rules_107 ?_
    refine G_bipush (pc := 110) (v := Int32.ofNat 113) (by decide) dX12_rules_110 ?_
    refine G_iload_n (pc := 112) rfl dX12_rules_112 ?_
    refine G_iadd (pc := 113) n_add dX12_rules_113 ?_
    refine G_aload_n (pc := 114) rfl dX12_rules_114 ?_
    refine G_getR (pc := 115) (ci := 12) (j := 14) rfl lq_RX12_29 rfl rfl rfl dX12_rules_115 ?_
    refine G_iload_n (pc := 118) rfl dX12_rules_118 ?_
    refine G_iald (pc := 119) (n_clamp (show k < 1000 by omega)) rfl rfl (n_in (show k < 1000 by omega) hk1) dX12_rules_119 ?_
    refine G_iast (pc := 120) (n_clamp (show 113 + k < 1000 by omega)) rfl (n_in (show 113 + k < 1000 by omega) (show 113 + k < 313 by omega)) dX12_rules_120 ?_
    rw [gcp_step (by decide) (by omega) (by omega)]
    refine G_iinc (pc := 121) (v := Int32.ofNat 1) n_add rfl rfl (by decide) rfl (by decide) dX12_rules_121 ?_
    refine G_goto (pc := 124) (tgt := 98) (by decide) dX12_rules_124 ?_
    exact ih
end rlK
theorem full68 : (List.range 224).all (fun t => decide (bnd bT 68 (89 + t) = (-2147483648, 2147483647))) = true := by decide +kernel
theorem mdV_ne {c j : Nat} (h : c ≠ 67 ∧ c ≠ 74 ∧ c ≠ 75) : amodr mdV c j j = false := amodr_n1 (Or.inl (Ne.symm h.1)) (amodr_n1 (Or.inl (Ne.symm h.1)) (amodr_n1 (Or.inl (Ne.symm h.2.1)) (amodr_n1 (Or.inl (Ne.symm h.2.2)) amodr_n0)))
/-- the heap that the new rules leave -/
def ruled (J : gI) (n : Nat) : gI := gcp (gcp (gup (gup J 67 6 0) 68 5 (Int32.ofNat n)) 75 68 0 89 (3 * n)) 74 68 0 113 (sN J)
theorem ruled_at {J : gI} {n : Nat} (hn : n ≤ 8) (c j : Nat) : ruled J n c j = if c = 68 then (if 113 ≤ j ∧ j < 113 + sN J then J 74 (j - 113) else if 89 ≤ j ∧ j < 89 + 3 * n then J 75 (j - 89) else if j = 5 then Int32.ofNat n else J 68 j) else if c = 67 ∧ j = 6 then 0 else J c j := by
  have a1 : ∀ x y, x ≠ 68 → gcp (gup (gup J 67 6 0) 68 5 (Int32.ofNat n)) 75 68 0 89 (3 * n) x y = gup J 67 6 0 x y := fun x y hx => by rw [gcp_at, if_neg (fun q => hx q.1), gup_ne (Or.inl hx)]
  unfold ruled
  rw [gcp_at]
  by_cases hc : c = 68
  · subst hc
    rw [if_pos (rfl : 68 = 68)]
    by_cases h1 : 113 ≤ j ∧ j < 113 + sN J
    · rw [if_pos ⟨rfl, h1⟩, if_pos h1, a1 _ _ (by decide), gup_ne (Or.inl (by decide)), Nat.zero_add]
    · rw [if_neg (fun q => h1 q.2), if_neg h1, gcp_at]
      by_cases h2 : 89 ≤ j ∧ j < 89 + 3 * n
      · rw [if_pos ⟨rfl, h2⟩, if_pos h2, gup_ne (Or.inl (by decide)), gup_ne (Or.inl (by decide)), Nat.zero_add]
      · rw [if_neg (fun q => h2 q.2), if_neg h2]
        by_cases h3 : j = 5
        · subst h3
          rw [if_pos rfl, gup_at]
        · rw [if_neg h3, gup_ne (Or.inr h3), gup_ne (Or.inl (by decide))]
  · rw [if_neg (fun q => hc q.1), if_neg hc, a1 _ _ hc]
    by_cases h4 : c = 67 ∧ j = 6
    · obtain ⟨rfl, rfl⟩ := h4
      rw [if_pos ⟨rfl, rfl⟩, gup_at]
    · rw [if_neg h4]
      refine gup_ne ?_
      by_cases h5 : c = 67
      · exact Or.inr (fun h6 => h4 ⟨h5, h6⟩)
      · exact Or.inl h5
theorem ruled_inv {J : gI} {n : Nat} (hn : n ≤ 8) (hs : sN J ≤ 200) (h : aInv bT J) : aInv bT (ruled J n) := fun c j => by
  rw [ruled_at hn]
  have hf : ∀ v : Int32, 89 ≤ j → j < 313 → ain (bnd bT 68 j) v := fun v h1 h2 => by
    have := List.all_eq_true.mp full68 (j - 89) (List.mem_range.mpr (by omega))
    rw [show 89 + (j - 89) = j by omega] at this
    exact a_full (of_decide_eq_true this)
  by_cases hc : c = 68
  · subst hc
    rw [if_pos (rfl : 68 = 68)]
    by_cases h1 : 113 ≤ j ∧ j < 113 + sN J
    · exact hf _ (by omega) (by omega)
    · rw [if_neg h1]
      by_cases h2 : 89 ≤ j ∧ j < 89 + 3 * n
      · exact hf _ (by omega) (by omega)
      · rw [if_neg h2]
        by_cases h3 : j = 5
        · subst h3
          rw [if_pos rfl, show bnd bT 68 5 = (0, 8) by decide +kernel]
          exact ⟨by rw [n_int (by omega)]; show (0 : Int) ≤ _; omega, by rw [n_int (by omega)]; show _ ≤ (8 : Int); omega⟩
        · rw [if_neg h3]
          exact h 68 j
  · rw [if_neg hc]
    by_cases h4 : c = 67 ∧ j = 6
    · obtain ⟨rfl, rfl⟩ := h4
      rw [if_pos ⟨rfl, rfl⟩, show bnd bT 67 6 = (0, 200) by decide +kernel]
      exact ⟨by decide, by decide⟩
    · rw [if_neg h4]
      exact h c j
theorem ruled_wf0 {I J : gI} {n : Nat} (hn : n ≤ 8) (hp : PS J 0) (hR : RI J n) (hf : afr mdV I J) (hw : WF0 I) : WF0 (ruled J n) := by
  have hr := hp.rng
  have hs : sN J ≤ 200 := by
    unfold sN
    omega
  have hsI : (sN J : Int) = (J 67 13).toInt := by
    unfold sN
    omega
  intro c hc r hr8 hr5
  rcases hc with rfl | rfl
  · rw [ruled_at hn, if_pos (rfl : 68 = 68), if_neg (by omega), if_neg (by omega), if_pos (rfl : 5 = 5), n_int (by omega)] at hr5
    have hrn : r < n := by omega
    have e1 : ∀ q, q < n → wEnd (ruled J n) 68 q = ee J q := fun q hq => by
      unfold wEnd ee
      rw [ruled_at hn, if_pos (rfl : 68 = 68), if_neg (by omega), if_pos (by omega), show 89 + 3 * q + 2 - 89 = 3 * q + 2 by omega]
    have e2 : wBeg (ruled J n) 68 r = eb J r := by
      unfold wBeg eb
      by_cases h0 : r = 0
      · rw [if_pos h0, if_pos h0]
      · rw [if_neg h0, if_neg h0, e1 _ (by omega)]
    obtain ⟨a1, a2, a3, a4⟩ := hR.2.2 r hrn
    refine ⟨by rw [e2]; exact a3, by rw [e2]; omega, by rw [e1 r hrn]; omega, ?_⟩
    rw [e1 r hrn, e2, rdn_eq (f' := cd J) _ _ _ (fun q b1 b2 => ?_)]
    · exact a4
    · show ruled J n 68 (113 + q) = J 74 q
      rw [ruled_at hn, if_pos (rfl : 68 = 68), if_pos (by omega), show 113 + q - 113 = q by omega]
  · have e3 : ∀ j, ruled J n 69 j = I 69 j := fun j => by
      rw [ruled_at hn, if_neg (by decide), if_neg (by omega)]
      exact hf 69 j (mdV_ne (by decide))
    rw [e3] at hr5
    exact WFr_tr hr8 (fun j _ => e3 j) (hw 69 (Or.inr rfl) r hr8 hr5)
theorem rlL_r : rlL.all (fun s => !(amodr mdV s.1 s.2 s.2) && (decide (s.1 ≠ 68) || (decide (s.2 < 89) && decide (s.2 ≠ 5))) && (decide (s.1 ≠ 67) || decide (s.2 ≠ 6))) = true := by decide +kernel
theorem rxS_r : (dsj mdV rxS && dsj [(67, 6, 6)] rxS) = true := by decide +kernel
theorem ruled_wf {I J : gI} {n : Nat} (hn : n ≤ 8) (hp : PS J 0) (hR : RI J n) (hf : afr mdV I J) (hw : WP I) : WP (ruled J n) := WF_eq (ruled_wf0 hn hp hR hf hw.1) hw (hx := fun c j hx => by
  have h1 := rxS_r
  simp only [Bool.and_eq_true] at h1
  obtain ⟨b1, b2, b3⟩ := rxS_b hx
  have g1 := dsj_ok h1.1 hx
  have g2 : ¬ (c = 67 ∧ j = 6) := fun e => by
    obtain ⟨rfl, rfl⟩ := e
    have g3 := dsj_ok h1.2 hx
    rw [amodr_i (a := 6) (b := 6) List.mem_cons_self (Nat.le_refl _) (Nat.le_refl _)] at g3
    cases g3
  rw [← hf c j g1, ruled_at hn, if_neg b1, if_neg g2]) (fun s hs => by
  have h := List.all_eq_true.mp rlL_r s hs
  simp only [Bool.and_eq_true, Bool.or_eq_true, Bool.not_eq_true', decide_eq_true_eq] at h
  obtain ⟨⟨h1, h2⟩, h3⟩ := h
  rw [← hf s.1 s.2 h1, ruled_at hn]
  by_cases hc : s.1 = 68
  · rw [if_pos hc, if_neg (by omega), if_neg (by omega), if_neg (by omega), hc]
  · rw [if_neg hc, if_neg (by omega)])
/-- what rules() leaves as it was -/
def rsm (I J : gI) : Prop := (∀ c j, c < 67 → J c j = I c j) ∧ (∀ j, J 69 j = I 69 j) ∧ J 68 0 = I 68 0 ∧ J 68 3 = I 68 3 ∧ J 67 3 = I 67 3
theorem rsm_of {I J : gI} (h : afr mdV I J) : rsm I J := ⟨fun c j hc => h c j (mdV_ne (by omega)), fun j => h 69 j (mdV_ne (by decide)), h 68 0 (by decide +kernel), h 68 3 (by decide +kernel), h 67 3 (by decide +kernel)⟩
theorem rsm_ruled {I J : gI} {n : Nat} (hn : n ≤ 8) (hf : afr mdV I J) : rsm I (ruled J n) := by
  obtain ⟨h1, h2, h3, h4, h5⟩ := rsm_of hf
  refine ⟨fun c j hc => ?_, fun j => ?_, ?_, ?_, ?_⟩
  · rw [ruled_at hn, if_neg (by omega), if_neg (by omega)]
    exact h1 c j hc
  · rw [ruled_at hn, if_neg (by decide), if_neg (by omega)]
    exact h2 j
  · rw [ruled_at hn, if_pos (rfl : 68 = 68), if_neg (by omega), if_neg (by omega), if_neg (by decide)]
    exact h3
  · rw [ruled_at hn, if_pos (rfl : 68 = 68), if_neg (by omega), if_neg (by omega), if_neg (by decide)]
    exact h4
  · rw [ruled_at hn, if_neg (by decide), if_neg (by decide)]
    exact h5
def pbRl (I : gI) : Option Value → gH → Prop := pbM (fun _ J => aInv bT J ∧ WP J ∧ rsm I J ∧ J 67 6 = 0)
theorem ruled_6 {J : gI} {n : Nat} (hn : n ≤ 8) : ruled J n 67 6 = 0 := by rw [ruled_at hn, if_neg (by decide), if_pos ⟨rfl, rfl⟩]
set_option maxRecDepth 100000 in
set_option maxHeartbeats 8000000 in
theorem pb_rulesM (hN : MSok bT (fun _ => True) MT (129, 1, [(1, 67, 0), (0, 0, 17)], [], [], [(some (0, 1), [], [])])) : ∀ (d : Nat) (xs : List Int32) (I : gI), xs.length = 0 → aInv bT I → WP I → gg (d + 40) mX12_rules 0 (gent mX12_rules.2.2.1 (.ref 67 :: xs.map Value.int)) [] I (pbRl I) := by
  intro d xs I hn hi hw
  have hn : xs = [] := List.eq_nil_of_length_eq_zero hn
  subst hn
  refine G_aload_n (pc := 0) rfl dX12_rules_0 ?_
  refine G_iconst (pc := 1) (v := 0) (by decide) dX12_rules_1 ?_
  refine G_putI (pc := 2) (ci := 12) (j := 8) rfl lq_RX12_130 rfl rfl rfl trivial dX12_rules_2 ?_
  refine G_aload_n (pc := 5) rfl dX12_rules_5 ?_
  refine G_iconst (pc := 6) (v := 0) (by decide) dX12_rules_6 ?_
  refine G_putI (pc := 7) (ci := 12) (j := 13) rfl lq_RX12_158 rfl rfl rfl trivial dX12_rules_7 ?_
  have i2 : aInv bT (gup (gup I 67 8 0) 67 13 0) := inv_put (inv_at (Or.inl rfl) hi (by decide) (by decide)) (a_full (by decide +kernel))
  have f2 : afr mdV I (gup (gup I 67 8 0) 67 13 0) := (afr.rf.put (by decide)).put (by decide)
  have e8 : gup (gup I 67 8 0) 67 13 0 67 8 = 0 := (gup_ne (Or.inr (by decide))).trans gup_at
  have e13 : gup (gup I 67 8 0) 67 13 0 67 13 = 0 := gup_at
  generalize gup (gup I 67 8 0) 67 13 0 = I2 at i2 f2 e8 e13 ⊢
  have h6 := ain_of i2 (show bnd bT 67 6 = (0, 200) by decide +kernel)
  dsimp only at h6
  refine G_iconst (pc := 10) (v := Int32.ofNat 0) (by decide) dX12_rules_10 ?_
  refine G_istore_n (pc := 11) rfl rfl (by decide) dX12_rules_11 ?_
  refine G_aload_n (pc := 12) rfl dX12_rules_12 ?_
  refine oX12_rules_13 (d + 39) _ [] [] I2 _ (fun r h => r = none ∧ ∃ J9, h = (SH0, RF0, J9) ∧ NQ (I2) J9) 67 12 131 mX12_next rfl List.mem_cons_self mt_X12_next rfl ls0 ls0 (by simp) (next_G hN (d := d + 35) i2 (by rw [e8]; exact h6.1) (fun J9 hJ => ⟨rfl, J9, rfl, hJ⟩)) ?_
  rintro _ _ ⟨rfl, J, rfl, hJ⟩
  dsimp only [Option.toList, List.nil_append]
  refine G_iconst (pc := 16) (v := 1) (by decide) dX12_rules_16 ?_
  refine G_istore_n (pc := 17) rfl rfl (by decide) dX12_rules_17 ?_
  obtain ⟨n1, n2, n3, n4, n5, n6, n7⟩ := hJ
  have j13 : J 67 13 = 0 := (n1 67 13 (mdX_ne (by omega))).trans e13
  have j6 : J 67 6 = I2 67 6 := n1 67 6 (mdX_ne (by omega))
  have h9 := ain_of n2 (show bnd bT 67 9 = (0, 200) by decide +kernel)
  dsimp only at h9
  have hP : PS J 0 := ⟨n2, by rw [j6]; exact n5, n4, n6, n7, by rw [j13]; decide, by rw [j13]; show (0 : Int) + 0 ≤ _; omega⟩
  have fJ : afr mdV I J := f2.tr n1 (by decide)
  refine rules_l (d := d + 16) (I := I) hN (fun n K hf hiK => ?_) (fun n K hn8 hK hR hf => ?_) 200 0 J (by omega) (by decide) hP ⟨fun _ => by rw [j13]; rfl, fun h => absurd h (by decide), fun r h => absurd h (by omega)⟩ fJ
  · refine G_aload_n (pc := 42) rfl dX12_rules_42 ?_
    refine G_iconst (pc := 43) (v := 0) (by decide) dX12_rules_43 ?_
    refine G_putI (pc := 44) (ci := 12) (j := 6) rfl lq_RX12_126 rfl rfl rfl trivial dX12_rules_44 ?_
    refine G_iload_n (pc := 47) rfl dX12_rules_47 ?_
    refine G_if_ne (pc := 48) (tgt := 59) (by decide) dX12_rules_48 (fun c => absurd rfl c) (fun _ => ?_)
    refine G_bipush (pc := 51) (v := (-100)) (by decide) dX12_rules_51 ?_
    refine G_aload_n (pc := 53) rfl dX12_rules_53 ?_
    refine G_getI (pc := 54) (ci := 12) (j := 9) rfl rfl lq_RX12_133 rfl rfl dX12_rules_54 ?_
    refine G_isub (pc := 57) rfl dX12_rules_57 ?_
    have fK : afr mdV I (gup K 67 6 0) := hf.put (by decide)
    exact G_iret (pc := 58) (Nat.le_refl _) (Nat.le_refl _) rfl dX12_rules_58 ⟨_, _, rfl, rfl, inv_put hiK (by rw [show bnd bT 67 6 = (0, 200) by decide +kernel]; exact ⟨by decide, by decide⟩), pE WF_st (md := mdV) (by decide +kernel) I _ hw fK, rsm_of fK, gup_at⟩
  · have hr := hK.rng
    have hsK : K 67 13 = Int32.ofNat (sN K) := to_nat hr.1 (by omega)
    have hs2 : sN K ≤ 200 := by
      unfold sN
      omega
    refine G_aload_n (pc := 42) rfl dX12_rules_42 ?_
    refine G_iconst (pc := 43) (v := 0) (by decide) dX12_rules_43 ?_
    refine G_putI (pc := 44) (ci := 12) (j := 6) rfl lq_RX12_126 rfl rfl rfl trivial dX12_rules_44 ?_
    refine G_iload_n (pc := 47) rfl dX12_rules_47 ?_
    refine G_if_ne (pc := 48) (tgt := 59) (by decide) dX12_rules_48 (fun _ => ?_) (fun c => absurd c (by decide))
    refine G_aload_n (pc := 59) rfl dX12_rules_59 ?_
    refine G_getR (pc := 60) (ci := 12) (j := 0) rfl lq_RX12_9 rfl rfl rfl dX12_rules_60 ?_
    refine G_iconst (pc := 63) (v := 5) (by decide) dX12_rules_63 ?_
    refine G_iload_n (pc := 64) rfl dX12_rules_64 ?_
    refine G_iast (pc := 65) (jj := 5) rfl rfl (a_vin (by decide) (by decide)) dX12_rules_65 ?_
    refine G_iconst (pc := 66) (v := Int32.ofNat 0) (by decide) dX12_rules_66 ?_
    refine G_istore_n (pc := 67) rfl rfl (by decide) dX12_rules_67 ?_
    have c1 := rules_c1 (d := d + 40) (I := gup (gup K 67 6 0) 68 5 (Int32.ofNat n)) (Q := pbRl I) (n := n) hn8 (by
      refine G_iconst (pc := 96) (v := Int32.ofNat 0) (by decide) dX12_rules_96 ?_
      refine G_istore_n (pc := 97) rfl rfl (by decide) dX12_rules_97 ?_
      have c2 := rules_c2 (d := d + 40) (I := gcp (gup (gup K 67 6 0) 68 5 (Int32.ofNat n)) 75 68 0 89 (3 * n)) (Q := pbRl I) (n := n) (S := sN K) hs2 (by rw [gcp_at, if_neg (by omega), gup_ne (Or.inl (by decide)), gup_ne (Or.inr (by decide))]; exact hsK) (by
        refine G_iload_n (pc := 127) rfl dX12_rules_127 ?_
        exact G_iret (pc := 128) (Nat.le_refl _) (Nat.le_refl _) rfl dX12_rules_128 ⟨_, ruled K n, rfl, rfl, ruled_inv hn8 hs2 hK.1, ruled_wf hn8 hK hR hf hw, rsm_ruled hn8 hf, ruled_6 hn8⟩) (sN K) 0 (by omega)
      rw [gcp_none] at c2
      exact c2) (3 * n) 0 (by omega)
    rw [gcp_none] at c1
    exact c1
