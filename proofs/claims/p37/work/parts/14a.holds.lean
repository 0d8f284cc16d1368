/-! ===== which slots: rows ===== -/
theorem amodr_i {md : aMd} {c p q a b : Nat} (h : (c, a, b) ∈ md) (h1 : a ≤ p) (h2 : q ≤ b) : amodr md c p q = true := List.any_eq_true.mpr ⟨(c, a, b), h, by
  show (decide (c = c) && decide (a ≤ p) && decide (q ≤ b)) = true
  rw [decide_eq_true (rfl : c = c), decide_eq_true h1, decide_eq_true h2]
  rfl⟩
theorem amodr_n0 {c j : Nat} : amodr [] c j j = false := rfl
theorem amodr_n1 {md : aMd} {c c' a b j : Nat} (h : c ≠ c' ∨ j < a ∨ b < j) (hm : amodr md c' j j = false) : amodr ((c, a, b) :: md) c' j j = false := by
  unfold amodr at *
  rw [List.any_cons, hm, Bool.or_false]
  show (decide (c = c') && decide (a ≤ j) && decide (j ≤ b)) = false
  rcases h with h | h | h
  · rw [decide_eq_false h]
    rfl
  · rw [decide_eq_false (show ¬ a ≤ j by omega), Bool.and_false]
    rfl
  · rw [decide_eq_false (show ¬ j ≤ b by omega), Bool.and_false]
theorem pPR_n {c j : Nat} (h : pPR.all (fun p => decide (p.1 ≠ c)) = true) : amodr pPR c j j = false := by
  cases hm : amodr pPR c j j with
  | false => rfl
  | true =>
    obtain ⟨p, h1, h2⟩ := List.any_eq_true.mp hm
    have h3 := of_decide_eq_true (List.all_eq_true.mp h p h1)
    simp only [Bool.and_eq_true, decide_eq_true_eq] at h2
    exact absurd h2.1.1 h3
theorem pPR_i {c j : Nat} (hc : c = 68 ∨ c = 69) (hj : j = 5 ∨ (89 ≤ j ∧ j ≤ 312)) : amodr pPR c j j = true := by
  rcases hc with rfl | rfl <;> rcases hj with rfl | ⟨h1, h2⟩
  · exact amodr_i (a := 5) (b := 5) (by decide) (Nat.le_refl _) (Nat.le_refl _)
  · exact amodr_i (a := 89) (b := 312) (by decide) h1 h2
  · exact amodr_i (a := 5) (b := 5) (by decide) (Nat.le_refl _) (Nat.le_refl _)
  · exact amodr_i (a := 89) (b := 312) (by decide) h1 h2
/-! ===== conditions of the reference's rules: code in order ===== -/
/-- g steps from place p with n on the pile go through -/
def rdn (f : Nat → Int32) : Nat → Nat → Nat → Bool
  | 0, _, _ => true
  | g + 1, p, n => if (f p).toInt < 10010 then rdn f g (p + 1) (n + 1) else if (f p).toInt = 10015 then decide (1 ≤ n) && rdn f g (p + 1) n else decide (2 ≤ n) && rdn f g (p + 1) (n - 1)
def wEnd (I : gI) (c r : Nat) : Int := (I c (89 + 3 * r + 2)).toInt
def wBeg (I : gI) (c r : Nat) : Int := if r = 0 then 0 else wEnd I c (r - 1)
def WFr (I : gI) (c r : Nat) : Prop := 0 ≤ wBeg I c r ∧ wBeg I c r ≤ 200 ∧ wEnd I c r ≤ 200 ∧ rdn (fun p => I c (113 + p)) (wEnd I c r - wBeg I c r).toNat (wBeg I c r).toNat 0 = true
def WF0 (I : gI) : Prop := ∀ c, c = 68 ∨ c = 69 → ∀ r : Nat, r < 8 → (r : Int) < (I c 5).toInt → WFr I c r
theorem rdn_eq {f f' : Nat → Int32} : ∀ (g p n : Nat), (∀ q, p ≤ q → q < p + g → f q = f' q) → rdn f g p n = rdn f' g p n
  | 0, _, _, _ => rfl
  | g + 1, p, n, h => by
    have h0 := h p (Nat.le_refl _) (by omega)
    have ih := fun n' => rdn_eq (f := f) (f' := f') g (p + 1) n' (fun q h1 h2 => h q (by omega) (by omega))
    simp only [rdn, h0, ih]
theorem WF0_tr {I I' : gI} (h : WF0 I) (hp : ∀ c j, (c = 68 ∨ c = 69) → (j = 5 ∨ (89 ≤ j ∧ j ≤ 312)) → I' c j = I c j) : WF0 I' := by
  intro c hc r hr hr5
  have hpr : ∀ j, j = 5 ∨ (89 ≤ j ∧ j ≤ 312) → I' c j = I c j := fun j hj => hp c j hc hj
  have h5 : (r : Int) < (I c 5).toInt := by rw [← hpr 5 (Or.inl rfl)]; exact hr5
  have he : ∀ q, q < 8 → wEnd I' c q = wEnd I c q := fun q hq => by unfold wEnd; rw [hpr _ (Or.inr (by omega))]
  have hb : wBeg I' c r = wBeg I c r := by
    unfold wBeg
    by_cases h0 : r = 0
    · rw [if_pos h0, if_pos h0]
    · rw [if_neg h0, if_neg h0, he _ (by omega)]
  obtain ⟨g1, g2, g3, g4⟩ := h c hc r hr h5
  refine ⟨by rw [hb]; exact g1, by rw [hb]; exact g2, by rw [he r hr]; exact g3, ?_⟩
  rw [hb, he r hr, rdn_eq (f' := fun p => I c (113 + p)) _ _ _ (fun q h1 h2 => hpr _ (Or.inr (by omega)))]
  exact g4
theorem WF0_st : pSt WF0 := fun I I' h hp => WF0_tr h (fun c j hc hj => hp c j (pPR_i hc hj))
/-- what class and reference hold alike: the class's slot, its kept slot, the place in the reference's row -/
def rlM : List (Nat × Nat × Nat × Nat × Nat) := [(19, 8, 35, 8, 4), (19, 2, 35, 2, 1)]
/-- other pairs of slots -/
def rlO : List (Nat × Nat × Nat × Nat) := [(2, 0, 82, 0), (2, 1, 82, 1), (2, 2, 82, 2), (2, 3, 82, 3)]
def rM (I : gI) : Prop := ∀ q ∈ rlM, I q.1 q.2.1 = I 68 q.2.2.2.2
def rK (I : gI) : Prop := ∀ q ∈ rlM, I q.2.2.1 q.2.2.2.1 = I 69 q.2.2.2.2
def rO (I : gI) : Prop := ∀ e ∈ rlO, I e.1 e.2.1 = I e.2.2.1 e.2.2.2
/-- of which slots rX speaks -/
def rxS : aMd := [(2, 0, 3), (3, 0, 3), (83, 0, 3), (5, 0, 39), (6, 0, 39), (7, 0, 39), (8, 0, 39), (84, 0, 159)]
def rXs (I : gI) (s : Nat) : Prop := I 2 s ≠ -1 → I 3 s = I 83 s ∧ ∀ j : Nat, j < 40 → (j : Int) < (I 3 s).toInt → I (5 + s) j = I 84 (40 * s + j)
def rX (I : gI) : Prop := ∀ s, s < 4 → rXs I s
theorem rxS_2 {c s : Nat} (hc : c = 2 ∨ c = 3 ∨ c = 83) (hs : s < 4) : amodr rxS c s s = true := by
  rcases hc with rfl | rfl | rfl
  · exact amodr_i (a := 0) (b := 3) (by decide) (Nat.zero_le _) (by omega)
  · exact amodr_i (a := 0) (b := 3) (by decide) (Nat.zero_le _) (by omega)
  · exact amodr_i (a := 0) (b := 3) (by decide) (Nat.zero_le _) (by omega)
theorem rxS_5 {s j : Nat} (hs : s < 4) (hj : j < 40) : amodr rxS (5 + s) j j = true := by
  rcases (by omega : s = 0 ∨ s = 1 ∨ s = 2 ∨ s = 3) with rfl | rfl | rfl | rfl
  · exact amodr_i (a := 0) (b := 39) (by decide) (Nat.zero_le _) (by omega)
  · exact amodr_i (a := 0) (b := 39) (by decide) (Nat.zero_le _) (by omega)
  · exact amodr_i (a := 0) (b := 39) (by decide) (Nat.zero_le _) (by omega)
  · exact amodr_i (a := 0) (b := 39) (by decide) (Nat.zero_le _) (by omega)
theorem rXs_eq {I I' : gI} {s : Nat} (h : rXs I s) (h2 : I' 2 s = I 2 s) (h3 : I' 3 s = I 3 s) (h8 : I' 83 s = I 83 s) (h5 : ∀ j, j < 40 → I' (5 + s) j = I (5 + s) j) (h4 : ∀ j, j < 40 → I' 84 (40 * s + j) = I 84 (40 * s + j)) : rXs I' s := fun hn => by
  rw [h2] at hn
  obtain ⟨g1, g2⟩ := h hn
  refine ⟨by rw [h3, h8]; exact g1, fun j hj hz => ?_⟩
  rw [h3] at hz
  rw [h5 j hj, h4 j hj]
  exact g2 j hj hz
theorem rX_eq {I I' : gI} (h : rX I) (hx : ∀ c j, amodr rxS c j j = true → I' c j = I c j) : rX I' := fun s hs => rXs_eq (h s hs) (hx 2 s (rxS_2 (Or.inl rfl) hs)) (hx 3 s (rxS_2 (Or.inr (Or.inl rfl)) hs)) (hx 83 s (rxS_2 (Or.inr (Or.inr rfl)) hs)) (fun j hj => hx _ j (rxS_5 hs hj)) (fun j hj => hx 84 _ (amodr_i (a := 0) (b := 159) (by decide) (Nat.zero_le _) (by omega)))
def WP (I : gI) : Prop := WF0 I ∧ rM I ∧ I 0 2 = I 67 3 ∧ (I 67 3 ≠ 0 → rK I) ∧ rO I ∧ rX I
/-- no range of the one meets one of the other -/
def dsj (md md' : aMd) : Bool := md.all (fun r => md'.all (fun p => decide (p.1 ≠ r.1) || decide (r.2.2 < p.2.1) || decide (p.2.2 < r.2.1)))
theorem dsj_ok {md md' : aMd} {c j : Nat} (h : dsj md md' = true) (hp : amodr md' c j j = true) : amodr md c j j = false := by
  cases hm : amodr md c j j with
  | false => rfl
  | true =>
    obtain ⟨p, hp1, hp2⟩ := List.any_eq_true.mp hp
    obtain ⟨r, hr1, hr2⟩ := List.any_eq_true.mp hm
    have h1 := List.all_eq_true.mp (List.all_eq_true.mp h r hr1) p hp1
    simp only [Bool.and_eq_true, Bool.or_eq_true, decide_eq_true_eq] at hp2 hr2 h1
    omega
theorem amd_in {md md' : aMd} {c j : Nat} (h : amdsub md md' = true) (hp : amodr md c j j = true) : amodr md' c j j = true := by
  obtain ⟨r, hr, h1⟩ := List.any_eq_true.mp hp
  simp only [Bool.and_eq_true, decide_eq_true_eq] at h1
  have h2 := amodr_in (List.all_eq_true.mp h r hr) h1.1.2 h1.2
  rw [h1.1.1] at h2
  exact h2
/-- the slots of which it speaks -/
def rlL : List (Nat × Nat) := [(0, 2), (67, 3)] ++ rlM.flatMap (fun q => [(q.1, q.2.1), (q.2.2.1, q.2.2.2.1), (68, q.2.2.2.2), (69, q.2.2.2.2)]) ++ rlO.flatMap (fun e => [(e.1, e.2.1), (e.2.2.1, e.2.2.2)])
theorem rlL_k {s : Nat × Nat} (h : s = (0, 2) ∨ s = (67, 3)) : s ∈ rlL := List.mem_append_left _ (List.mem_append_left _ (by
  rcases h with rfl | rfl <;> decide))
theorem rlL_m {s : Nat × Nat} {q : Nat × Nat × Nat × Nat × Nat} (hq : q ∈ rlM) (h : s = (q.1, q.2.1) ∨ s = (q.2.2.1, q.2.2.2.1) ∨ s = (68, q.2.2.2.2) ∨ s = (69, q.2.2.2.2)) : s ∈ rlL := List.mem_append_left _ (List.mem_append_right _ (List.mem_flatMap.mpr ⟨q, hq, by
  rcases h with rfl | rfl | rfl | rfl <;> simp⟩))
theorem rlL_o {s : Nat × Nat} {e : Nat × Nat × Nat × Nat} (he : e ∈ rlO) (h : s = (e.1, e.2.1) ∨ s = (e.2.2.1, e.2.2.2)) : s ∈ rlL := List.mem_append_right _ (List.mem_flatMap.mpr ⟨e, he, by
  rcases h with rfl | rfl <;> simp⟩)
theorem WF_eq {I I' : gI} (h0 : WF0 I') (h : WP I) (hs : ∀ s ∈ rlL, I' s.1 s.2 = I s.1 s.2) (hx : ∀ c j, amodr rxS c j j = true → I' c j = I c j) : WP I' := by
  obtain ⟨-, h1, h2, h3, h4, h5⟩ := h
  refine ⟨h0, fun q hq => ?_, ?_, fun hk q hq => ?_, fun e he => ?_, rX_eq h5 hx⟩
  · rw [hs (q.1, q.2.1) (rlL_m hq (Or.inl rfl)), hs (68, q.2.2.2.2) (rlL_m hq (Or.inr (Or.inr (Or.inl rfl))))]
    exact h1 q hq
  · rw [hs (0, 2) (rlL_k (Or.inl rfl)), hs (67, 3) (rlL_k (Or.inr rfl))]
    exact h2
  · rw [hs (67, 3) (rlL_k (Or.inr rfl))] at hk
    rw [hs (q.2.2.1, q.2.2.2.1) (rlL_m hq (Or.inr (Or.inl rfl))), hs (69, q.2.2.2.2) (rlL_m hq (Or.inr (Or.inr (Or.inr rfl))))]
    exact h3 hk q hq
  · rw [hs (e.1, e.2.1) (rlL_o he (Or.inl rfl)), hs (e.2.2.1, e.2.2.2) (rlL_o he (Or.inr rfl))]
    exact h4 e he
theorem rlL_p : rlL.all (fun s => amodr pPR s.1 s.2 s.2) = true := by decide +kernel
theorem WF_st : pSt WP := fun I I' h hp => WF_eq (WF0_st I I' h.1 hp) h (fun s hs => hp s.1 s.2 (List.all_eq_true.mp rlL_p s hs)) (fun c j hx => hp c j (amd_in (by decide +kernel) hx))
theorem G_drop {d : Nat} {M : gM} {mc ms k n pc : Nat} {L L1 : gL} {S : List Value} {sh : List (Nat × Nat)} {R : gR} {I : gI} {Q : Option Value → gH → Prop} (i : Nat) (e : L.set i none = L1) (kk : G d M mc ms k n pc L1 S sh R I Q) : G d M mc ms k n pc L S sh R I Q := by
  subst e
  intro p l e s m args below meth c H locs ls b D cy hC hF hS hW hl
  refine kk p l e s m args below meth c H locs ls b D cy hC hF hS hW ⟨hl.1, hl.2.1, fun q hq => ?_⟩
  obtain ⟨j, v, h1, rfl⟩ := gal_mem.mp hq
  refine hl.2.2 _ (gal_mem.mpr ⟨j, v, ?_, rfl⟩)
  by_cases hij : i = j
  · subst hij
    by_cases hi : i < L.length
    · rw [List.getElem?_set_self hi] at h1
      cases h1
    · rw [List.set_eq_of_length_le (by omega)] at h1
      exact h1
  · rw [List.getElem?_set_ne hij] at h1
    exact h1
theorem n_mul {a b : Nat} : Int32.ofNat a * Int32.ofNat b = Int32.ofNat (a * b) := (Int32.ofNat_mul a b).symm
theorem n_sub {a b : Nat} (h : b ≤ a) (ha : a < 1000) : Int32.ofNat a - Int32.ofNat b = Int32.ofNat (a - b) := by
  apply Int32.toInt_inj.mp
  rw [Int32.toInt_sub, n_int ha, n_int (by omega), n_int (by omega), a_bm (by unfold aLo; omega) (by unfold aHi; omega)]
  omega
theorem n_dec {n : Nat} (h : 1 ≤ n) (hn : n < 1000) : Int32.ofNat n + (-1) = Int32.ofNat (n - 1) := by
  apply Int32.toInt_inj.mp
  rw [Int32.toInt_add, n_int hn, n_int (by omega), show (-1 : Int32).toInt = -1 from rfl, a_bm (by unfold aLo; omega) (by unfold aHi; omega)]
  omega
theorem ruleOf_G (d : Nat) (I : gI) (Q : Option Value → gH → Prop) (r w : Nat) (hr : r < 8) (hw : w < 3) (hQ : Q (some (.int (I 68 (89 + 3 * r + w)))) (SH0, RF0, I)) : gg d mX12_ruleOf 0 (gent 3 [.ref 67, .int (Int32.ofNat r), .int (Int32.ofNat w)]) [] I Q := by
  refine G_aload_n (pc := 0) rfl dX12_ruleOf_0 ?_
  refine G_getR (pc := 1) (ci := 12) (j := 0) rfl lq_RX12_9 rfl rfl rfl dX12_ruleOf_1 ?_
  refine G_bipush (pc := 4) (v := Int32.ofNat 89) (by decide) dX12_ruleOf_4 ?_
  refine G_iconst (pc := 6) (v := Int32.ofNat 3) (by decide) dX12_ruleOf_6 ?_
  refine G_iload_n (pc := 7) rfl dX12_ruleOf_7 ?_
  refine G_imul (pc := 8) n_mul dX12_ruleOf_8 ?_
  refine G_iadd (pc := 9) n_add dX12_ruleOf_9 ?_
  refine G_iload_n (pc := 10) rfl dX12_ruleOf_10 ?_
  refine G_iadd (pc := 11) n_add dX12_ruleOf_11 ?_
  refine G_iald (pc := 12) (n_clamp (show 89 + 3 * r + w < 1000 by omega)) rfl rfl (n_in (by omega) (show 89 + 3 * r + w < 313 by omega)) dX12_ruleOf_12 ?_
  exact G_iret (pc := 13) (Nat.le_refl _) (Nat.le_refl _) rfl dX12_ruleOf_13 hQ
theorem afr_nil {J J' : gI} (h : afr [] J J') : J' = J := by
  funext c j
  exact h c j rfl
theorem bT71 : bT.getD 71 [] = [] := by decide +kernel
/-- as I but for the pile -/
def pil (I J : gI) : Prop := afr [(71, 0, 199)] I J
theorem pil.get {I J : gI} (h : pil I J) {c : Nat} (j : Nat) (hc : c ≠ 71) : J c j = I c j := h c j (amodr_n1 (Or.inl (Ne.symm hc)) amodr_n0)
theorem pil.put {I J : gI} {j : Nat} {v : Int32} (h : pil I J) (hj : j < 200) : pil I (gup J 71 j v) := afr.put h (amodr_i (a := 0) (b := 199) List.mem_cons_self (Nat.zero_le _) (by omega))
theorem pil.inv {I J : gI} (h : pil I J) (hi : aInv bT I) : aInv bT J := fun c j => by
  by_cases hc : c = 71
  · subst hc
    show ain (bseg (bT.getD 71 []) j) _
    rw [bT71]
    exact a_rng _
  · rw [h.get j hc]
    exact hi c j
theorem pil.wf {I J : gI} (h : pil I J) (hi : WP I) : WP J := WF_st I J hi (fun c j hp => h.get j (fun hc => by
  subst hc
  rw [pPR_n (by decide +kernel)] at hp
  cases hp))
section HF
variable {Ext : gI → Prop} {d r e : Nat} {k : Int32} {I : gI} {Q : Option Value → gH → Prop}
set_option maxRecDepth 100000 in
set_option maxHeartbeats 4000000 in
theorem hf_loop (hk : MSok bT Ext MT (117, 1, [(1, 67, 0), (0, (-2147483648), 2147483647), (0, 0, 5)], [], [], [(some (0, 99), [], [])])) (hj : MSok bT Ext MT (119, 0, [(0, (-2147483648), 2147483647), (0, (-2147483648), 2147483647), (0, (-2147483648), 2147483647)], [], [], [(some (0, 1), [], [])]))
    (hE : ∀ J, pil I J → Ext J) (hinv : aInv bT I) (hr : r < 8) (hk5 : ain (0, 5) k) (hQ : ∀ (b : Int32) J, b = 0 ∨ b = 1 → pil I J → Q (some (.int b)) (SH0, RF0, J)) (he : e ≤ 200) (hend : wEnd I 68 r ≤ (e : Int)) (hend2 : ∀ p : Nat, p < e → (p : Int) < wEnd I 68 r) :
    ∀ (g p n : Nat) (J : gI), p + g = e ∨ (g = 0 ∧ e ≤ p ∧ p ≤ 200) → n ≤ p → rdn (fun q => I 68 (113 + q)) g p n = true → pil I J → gg (d + 6) mX12_holdsFor 20 [some (.ref 67), some (.int (Int32.ofNat r)), some (.int k), some (.int (Int32.ofNat n)), some (.int (Int32.ofNat p)), none] [] J Q := by
  intro g
  induction g with
  | zero =>
    intro p n J hp hn _ hJ
    have hp2 : e ≤ p ∧ p ≤ 200 := by omega
    refine G_iload (pc := 20) rfl dX12_holdsFor_20 ?_
    refine G_aload_n (pc := 22) rfl dX12_holdsFor_22 ?_
    refine G_iload_n (pc := 23) rfl dX12_holdsFor_23 ?_
    refine G_iconst (pc := 24) (v := Int32.ofNat 2) (by decide) dX12_holdsFor_24 ?_
    refine oX12_holdsFor_25 (d + 5) _ [.int (Int32.ofNat r), .int (Int32.ofNat 2)] [.int (Int32.ofNat p)] J Q (fun rv h' => rv = some (.int (J 68 (89 + 3 * r + 2))) ∧ h' = (SH0, RF0, J)) 67 12 113 mX12_ruleOf rfl List.mem_cons_self mt_X12_ruleOf rfl (fun v hv => ?_) (fun v hv => ?_) (by simp) (ruleOf_G _ _ _ r 2 hr (by decide) ⟨rfl, rfl⟩) ?_
    · simp only [List.mem_cons, List.not_mem_nil, or_false] at hv
      rcases hv with rfl | rfl <;> exact Or.inl ⟨_, rfl⟩
    · simp only [List.mem_cons, List.not_mem_nil, or_false] at hv
      rcases hv with rfl
      exact Or.inl ⟨_, rfl⟩
    rintro _ _ ⟨rfl, rfl⟩
    dsimp only [Option.toList, List.cons_append, List.nil_append]
    have eJ : (J 68 (89 + 3 * r + 2)).toInt = wEnd I 68 r := by rw [hJ.get _ (by decide)]; rfl
    have one : gg (d + 6) mX12_holdsFor 165 [some (.ref 67), some (.int (Int32.ofNat r)), some (.int k), some (.int (Int32.ofNat n)), some (.int (Int32.ofNat p)), none] [] J Q := by
      refine G_iconst (pc := 165) (v := 1) (by decide) dX12_holdsFor_165 ?_
      refine G_goto (pc := 166) (tgt := 170) (by decide) dX12_holdsFor_166 ?_
      exact G_zret (pc := 170) (Nat.le_refl _) (Nat.le_refl _) rfl (by decide) dX12_holdsFor_170 (hQ 1 J (Or.inr rfl) hJ)
    refine G_icmp_ge (pc := 28) (tgt := 152) (by decide) dX12_holdsFor_28 (fun _ => ?_) (fun c => absurd ?_ c)
    · refine G_iload_n (pc := 152) rfl dX12_holdsFor_152 ?_
      refine G_if_eq (pc := 153) (tgt := 165) (by decide) dX12_holdsFor_153 (fun _ => one) (fun _ => ?_)
      refine G_aload_n (pc := 156) rfl dX12_holdsFor_156 ?_
      refine G_getR (pc := 157) (ci := 12) (j := 4) rfl lq_RX12_19 rfl rfl rfl dX12_holdsFor_157 ?_
      refine G_iconst (pc := 160) (v := Int32.ofNat 0) (by decide) dX12_holdsFor_160 ?_
      refine G_iald (pc := 161) (n_clamp (show 0 < 1000 by decide)) rfl rfl (n_in (by decide) (show 0 < 200 by decide)) dX12_holdsFor_161 ?_
      refine G_if_eq (pc := 162) (tgt := 169) (by decide) dX12_holdsFor_162 (fun _ => ?_) (fun _ => one)
      refine G_iconst (pc := 169) (v := 0) (by decide) dX12_holdsFor_169 ?_
      exact G_zret (pc := 170) (Nat.le_refl _) (Nat.le_refl _) rfl (by decide) dX12_holdsFor_170 (hQ 0 J (Or.inl rfl) hJ)
    · rw [Int32.le_iff_toInt_le, eJ, n_int (by omega)]
      omega
  | succ g ih =>
    intro p n J hp hn hrd hJ
    have hp2 : p < e := by omega
    have hp3 : p + (g + 1) = e := by omega
    refine G_iload (pc := 20) rfl dX12_holdsFor_20 ?_
    refine G_aload_n (pc := 22) rfl dX12_holdsFor_22 ?_
    refine G_iload_n (pc := 23) rfl dX12_holdsFor_23 ?_
    refine G_iconst (pc := 24) (v := Int32.ofNat 2) (by decide) dX12_holdsFor_24 ?_
    refine oX12_holdsFor_25 (d + 5) _ [.int (Int32.ofNat r), .int (Int32.ofNat 2)] [.int (Int32.ofNat p)] J Q (fun rv h' => rv = some (.int (J 68 (89 + 3 * r + 2))) ∧ h' = (SH0, RF0, J)) 67 12 113 mX12_ruleOf rfl List.mem_cons_self mt_X12_ruleOf rfl (fun v hv => ?_) (fun v hv => ?_) (by simp) (ruleOf_G _ _ _ r 2 hr (by decide) ⟨rfl, rfl⟩) ?_
    · simp only [List.mem_cons, List.not_mem_nil, or_false] at hv
      rcases hv with rfl | rfl <;> exact Or.inl ⟨_, rfl⟩
    · simp only [List.mem_cons, List.not_mem_nil, or_false] at hv
      rcases hv with rfl
      exact Or.inl ⟨_, rfl⟩
    rintro _ _ ⟨rfl, rfl⟩
    dsimp only [Option.toList, List.cons_append, List.nil_append]
    have eJ : (J 68 (89 + 3 * r + 2)).toInt = wEnd I 68 r := by rw [hJ.get _ (by decide)]; rfl
    refine G_icmp_ge (pc := 28) (tgt := 152) (by decide) dX12_holdsFor_28 (fun c => absurd c ?_) (fun _ => ?_)
    · rw [Int32.le_iff_toInt_le, eJ, n_int (by omega)]
      have := hend2 p hp2
      omega
    refine G_aload_n (pc := 31) rfl dX12_holdsFor_31 ?_
    refine G_getR (pc := 32) (ci := 12) (j := 0) rfl lq_RX12_9 rfl rfl rfl dX12_holdsFor_32 ?_
    refine G_bipush (pc := 35) (v := Int32.ofNat 113) (by decide) dX12_holdsFor_35 ?_
    refine G_iload (pc := 37) rfl dX12_holdsFor_37 ?_
    refine G_iadd (pc := 39) n_add dX12_holdsFor_39 ?_
    refine G_iald (pc := 40) (n_clamp (show 113 + p < 1000 by omega)) (hJ.get (113 + p) (by decide)) rfl (n_in (by omega) (show 113 + p < 313 by omega)) dX12_holdsFor_40 ?_
    generalize hcv : I 68 (113 + p) = cv
    refine G_istore (pc := 41) rfl rfl (by decide) dX12_holdsFor_41 ?_
    have tail : ∀ (n' : Nat) (J' : gI), n' ≤ p + 1 → rdn (fun q => I 68 (113 + q)) g (p + 1) n' = true → pil I J' → gg (d + 6) mX12_holdsFor 146 [some (.ref 67), some (.int (Int32.ofNat r)), some (.int k), some (.int (Int32.ofNat n')), some (.int (Int32.ofNat p)), some (.int cv)] [] J' Q := by
      intro n' J' h1 h2 h3
      refine G_iinc (pc := 146) (v := Int32.ofNat 1) n_add rfl rfl (by decide) rfl (by decide) dX12_holdsFor_146 ?_
      refine G_goto (pc := 149) (tgt := 20) (by decide) dX12_holdsFor_149 ?_
      exact G_drop 5 rfl (ih (p + 1) n' J' (Or.inl (by omega)) h1 h2 h3)
    have hcv' : (fun q => I 68 (113 + q)) p = cv := hcv
    simp only [rdn, hcv] at hrd
    refine G_iload (pc := 43) rfl dX12_holdsFor_43 ?_
    refine G_sipush (pc := 45) (v := 10010) (by decide) dX12_holdsFor_45 ?_
    refine G_icmp_ge (pc := 48) (tgt := 87) (by decide) dX12_holdsFor_48 (fun c1 => ?_) (fun c1 => ?_)
    · have c1' : ¬ cv.toInt < 10010 := by
        rw [Int32.le_iff_toInt_le] at c1
        have : (10010 : Int32).toInt = 10010 := rfl
        omega
      rw [if_neg c1'] at hrd
      refine G_iload (pc := 87) rfl dX12_holdsFor_87 ?_
      refine G_sipush (pc := 89) (v := 10015) (by decide) dX12_holdsFor_89 ?_
      refine G_icmp_ne (pc := 92) (tgt := 116) (by decide) dX12_holdsFor_92 (fun c2 => ?_) (fun c2 => ?_)
      · have c2' : ¬ cv.toInt = 10015 := fun h => c2 (Int32.toInt_inj.mp h)
        rw [if_neg c2', Bool.and_eq_true, decide_eq_true_eq] at hrd
        obtain ⟨hn2, hrd⟩ := hrd
        refine G_iinc (pc := 116) (v := -1) (w := Int32.ofNat (n - 1)) (n_dec (by omega) (by omega)) rfl rfl (by decide) rfl (by decide) dX12_holdsFor_116 ?_
        refine G_aload_n (pc := 119) rfl dX12_holdsFor_119 ?_
        refine G_getR (pc := 120) (ci := 12) (j := 4) rfl lq_RX12_19 rfl rfl rfl dX12_holdsFor_120 ?_
        refine G_iload_n (pc := 123) rfl dX12_holdsFor_123 ?_
        refine G_iconst (pc := 124) (v := Int32.ofNat 1) (by decide) dX12_holdsFor_124 ?_
        refine G_isub (pc := 125) (n_sub (by omega) (by omega)) dX12_holdsFor_125 ?_
        refine G_iload (pc := 126) rfl dX12_holdsFor_126 ?_
        refine G_aload_n (pc := 128) rfl dX12_holdsFor_128 ?_
        refine G_getR (pc := 129) (ci := 12) (j := 4) rfl lq_RX12_19 rfl rfl rfl dX12_holdsFor_129 ?_
        refine G_iload_n (pc := 132) rfl dX12_holdsFor_132 ?_
        refine G_iconst (pc := 133) (v := Int32.ofNat 1) (by decide) dX12_holdsFor_133 ?_
        refine G_isub (pc := 134) (n_sub (by omega) (by omega)) dX12_holdsFor_134 ?_
        refine G_iald (pc := 135) (n_clamp (show n - 1 - 1 < 1000 by omega)) rfl rfl (n_in (by omega) (show n - 1 - 1 < 200 by omega)) dX12_holdsFor_135 ?_
        refine G_aload_n (pc := 136) rfl dX12_holdsFor_136 ?_
        refine G_getR (pc := 137) (ci := 12) (j := 4) rfl lq_RX12_19 rfl rfl rfl dX12_holdsFor_137 ?_
        refine G_iload_n (pc := 140) rfl dX12_holdsFor_140 ?_
        refine G_iald (pc := 141) (n_clamp (show n - 1 < 1000 by omega)) rfl rfl (n_in (by omega) (show n - 1 < 200 by omega)) dX12_holdsFor_141 ?_
        refine oX12_holdsFor_142 (d + 5) _ [.int cv, .int (J 71 (n - 1 - 1)), .int (J 71 (n - 1))] [.int (Int32.ofNat (n - 1 - 1)), .ref 71] J Q _ mX12_joined mt_X12_joined rfl (fun v hv => ?_) (fun v hv => ?_) (by simp) (hj mX12_joined mt_X12_joined (d + 5) _ J ⟨⟨_, rfl, a_rng _⟩, ⟨_, rfl, a_rng _⟩, ⟨_, rfl, a_rng _⟩, trivial⟩ (hJ.inv hinv) (hE J hJ) (fun s hs => absurd hs List.not_mem_nil)) ?_
        · simp only [List.mem_cons, List.not_mem_nil, or_false] at hv
          rcases hv with rfl | rfl | rfl <;> exact Or.inl ⟨_, rfl⟩
        · simp only [List.mem_cons, List.not_mem_nil, or_false] at hv
          rcases hv with rfl | rfl
          · exact Or.inl ⟨_, rfl⟩
          · exact Or.inr ⟨_, rfl⟩
        rintro _ _ ⟨J', rfl, -, hf, c, hc, hcase⟩
        have ec : c = (some (0, 1), [], []) := by simpa using hc
        subst ec
        obtain ⟨⟨w, rfl, -⟩, -, -⟩ := hcase
        rw [afr_nil hf]
        dsimp only [Option.toList, List.cons_append, List.nil_append]
        refine G_iast (pc := 145) (n_clamp (show n - 1 - 1 < 1000 by omega)) rfl (n_in (by omega) (show n - 1 - 1 < 200 by omega)) dX12_holdsFor_145 ?_
        exact tail (n - 1) _ (by omega) hrd (hJ.put (by omega))
      · have c2' : cv.toInt = 10015 := by rw [c2]; rfl
        rw [if_pos c2', Bool.and_eq_true, decide_eq_true_eq] at hrd
        obtain ⟨hn1, hrd⟩ := hrd
        refine G_aload_n (pc := 95) rfl dX12_holdsFor_95 ?_
        refine G_getR (pc := 96) (ci := 12) (j := 4) rfl lq_RX12_19 rfl rfl rfl dX12_holdsFor_96 ?_
        refine G_iload_n (pc := 99) rfl dX12_holdsFor_99 ?_
        refine G_iconst (pc := 100) (v := Int32.ofNat 1) (by decide) dX12_holdsFor_100 ?_
        refine G_isub (pc := 101) (n_sub (by omega) (by omega)) dX12_holdsFor_101 ?_
        refine G_iconst (pc := 102) (v := 1) (by decide) dX12_holdsFor_102 ?_
        refine G_aload_n (pc := 103) rfl dX12_holdsFor_103 ?_
        refine G_getR (pc := 104) (ci := 12) (j := 4) rfl lq_RX12_19 rfl rfl rfl dX12_holdsFor_104 ?_
        refine G_iload_n (pc := 107) rfl dX12_holdsFor_107 ?_
        refine G_iconst (pc := 108) (v := Int32.ofNat 1) (by decide) dX12_holdsFor_108 ?_
        refine G_isub (pc := 109) (n_sub (by omega) (by omega)) dX12_holdsFor_109 ?_
        refine G_iald (pc := 110) (n_clamp (show n - 1 < 1000 by omega)) rfl rfl (n_in (by omega) (show n - 1 < 200 by omega)) dX12_holdsFor_110 ?_
        refine G_isub (pc := 111) rfl dX12_holdsFor_111 ?_
        refine G_iast (pc := 112) (n_clamp (show n - 1 < 1000 by omega)) rfl (n_in (by omega) (show n - 1 < 200 by omega)) dX12_holdsFor_112 ?_
        refine G_goto (pc := 113) (tgt := 146) (by decide) dX12_holdsFor_113 ?_
        exact tail n _ (by omega) hrd (hJ.put (by omega))
    · have c1' : cv.toInt < 10010 := by
        rw [Int32.le_iff_toInt_le] at c1
        have : (10010 : Int32).toInt = 10010 := rfl
        omega
      rw [if_pos c1'] at hrd
      have push : ∀ w : Int32, gg (d + 6) mX12_holdsFor 80 [some (.ref 67), some (.int (Int32.ofNat r)), some (.int k), some (.int (Int32.ofNat n)), some (.int (Int32.ofNat p)), some (.int cv)] [.int w, .int (Int32.ofNat n), .ref 71] J Q := by
        intro w
        refine G_iast (pc := 80) (n_clamp (show n < 1000 by omega)) rfl (n_in (by omega) (show n < 200 by omega)) dX12_holdsFor_80 ?_
        refine G_iinc (pc := 81) (v := Int32.ofNat 1) n_add rfl rfl (by decide) rfl (by decide) dX12_holdsFor_81 ?_
        refine G_goto (pc := 84) (tgt := 146) (by decide) dX12_holdsFor_84 ?_
        exact tail (n + 1) _ (by omega) hrd (hJ.put (by omega))
      refine G_aload_n (pc := 51) rfl dX12_holdsFor_51 ?_
      refine G_getR (pc := 52) (ci := 12) (j := 4) rfl lq_RX12_19 rfl rfl rfl dX12_holdsFor_52 ?_
      refine G_iload_n (pc := 55) rfl dX12_holdsFor_55 ?_
      refine G_iload (pc := 56) rfl dX12_holdsFor_56 ?_
      refine G_sipush (pc := 58) (v := 10000) (by decide) dX12_holdsFor_58 ?_
      refine G_icmp_ge (pc := 61) (tgt := 69) (by decide) dX12_holdsFor_61 (fun _ => ?_) (fun _ => ?_)
      · refine G_aload_n (pc := 69) rfl dX12_holdsFor_69 ?_
        refine G_iload (pc := 70) rfl dX12_holdsFor_70 ?_
        refine G_sipush (pc := 72) (v := 10000) (by decide) dX12_holdsFor_72 ?_
        refine G_isub (pc := 75) rfl dX12_holdsFor_75 ?_
        refine G_iload_n (pc := 76) rfl dX12_holdsFor_76 ?_
        refine oX12_holdsFor_77 (d + 5) _ [.int (cv - 10000), .int k] [.int (Int32.ofNat n), .ref 71] J Q _ 67 12 117 mX12_knownOf rfl List.mem_cons_self mt_X12_knownOf rfl (fun v hv => ?_) (fun v hv => ?_) (by simp) (hk mX12_knownOf mt_X12_knownOf (d + 4) [.ref 67, .int (cv - 10000), .int k] J ⟨⟨67, rfl, rfl⟩, ⟨_, rfl, a_rng _⟩, ⟨_, rfl, hk5⟩, trivial⟩ (hJ.inv hinv) (hE J hJ) (fun s hs => absurd hs List.not_mem_nil)) ?_
        · simp only [List.mem_cons, List.not_mem_nil, or_false] at hv
          rcases hv with rfl | rfl <;> exact Or.inl ⟨_, rfl⟩
        · simp only [List.mem_cons, List.not_mem_nil, or_false] at hv
          rcases hv with rfl | rfl
          · exact Or.inl ⟨_, rfl⟩
          · exact Or.inr ⟨_, rfl⟩
        rintro _ _ ⟨J', rfl, -, hf, c, hc, hcase⟩
        have ec : c = (some (0, 99), [], []) := by simpa using hc
        subst ec
        obtain ⟨⟨w, rfl, -⟩, -, -⟩ := hcase
        rw [afr_nil hf]
        dsimp only [Option.toList, List.cons_append, List.nil_append]
        exact push w
      · refine G_iload (pc := 64) rfl dX12_holdsFor_64 ?_
        refine G_goto (pc := 66) (tgt := 80) (by decide) dX12_holdsFor_66 ?_
        exact push cv
end HF
set_option maxRecDepth 100000 in
set_option maxHeartbeats 4000000 in
theorem hf_ms (hk : MSok bT WP MT (117, 1, [(1, 67, 0), (0, (-2147483648), 2147483647), (0, 0, 5)], [], [], [(some (0, 99), [], [])])) (hj : MSok bT WP MT (119, 0, [(0, (-2147483648), 2147483647), (0, (-2147483648), 2147483647), (0, (-2147483648), 2147483647)], [], [], [(some (0, 1), [], [])]))
    (v u : Int) (hv : v ≤ 8) (hu : u < v) : MSok bT WP MT (116, 6, [(1, 67, 0), (0, 0, u), (0, 0, 5)], [(68, 5, v, v)], [(71, 0, 199)], [(some (0, 1), [], [])]) := by
  intro mj hmj d vs I hargs hinv hext hpre
  have e : mX12_holdsFor = mj := Option.some.inj (mt_X12_holdsFor.symm.trans hmj)
  subst e
  match vs, hargs with
  | [a0, a1, a2], hargs =>
    obtain ⟨c0, rfl, hc0⟩ : ∃ c : Nat, a0 = .ref c ∧ (67 : Int) = (c : Int) := hargs.1
    obtain ⟨x, rfl, hx⟩ : ∃ x, a1 = .int x ∧ ain (0, u) x := hargs.2.1
    obtain ⟨k, rfl, hk5⟩ : ∃ x, a2 = .int x ∧ ain (0, 5) x := hargs.2.2.1
    have ec : c0 = 67 := by omega
    subst ec
    have h5 : ain (v, v) (I 68 5) := slotOK_b (s := (68, 5, v, v)) (by show v < aEQ; unfold aEQ; omega) (hpre _ List.mem_cons_self)
    have hx1 : 0 ≤ x.toInt := hx.1
    have hx2 : x.toInt ≤ u := hx.2
    have h51 : v ≤ (I 68 5).toInt := h5.1
    obtain ⟨r, hr⟩ : ∃ r : Nat, x.toInt = (r : Int) := ⟨x.toInt.toNat, by omega⟩
    have hr8 : r < 8 := by omega
    have ex : x = Int32.ofNat r := Int32.toInt_inj.mp (by rw [hr, n_int (by omega)])
    subst ex
    obtain ⟨w1, w2, w3, w4⟩ := hext.1 68 (Or.inl rfl) r hr8 (by omega)
    have go : ∀ y : Int32, y.toInt = wBeg I 68 r → gg (d + 6) mX12_holdsFor 18 [some (.ref 67), some (.int (Int32.ofNat r)), some (.int k), some (.int (Int32.ofNat 0)), none, none] [.int y] I (mQ bT [(71, 0, 199)] [(some (0, 1), [], [])] [.ref 67, .int (Int32.ofNat r), .int k] I) := by
      intro y hy
      have ey : y = Int32.ofNat (wBeg I 68 r).toNat := Int32.toInt_inj.mp (by rw [hy, n_int (by omega)]; omega)
      subst ey
      refine G_istore (pc := 18) rfl rfl (by decide) dX12_holdsFor_18 ?_
      refine hf_loop (Ext := WP) (e := (wEnd I 68 r).toNat) (I := I) hk hj (fun J hJ => hJ.wf hext) hinv hr8 hk5 (fun b J hb hJ => ⟨J, rfl, hJ.inv hinv, hJ, _, List.mem_cons_self, ⟨b, rfl, ?_⟩, fun q hq => absurd hq List.not_mem_nil, fun s hs => absurd hs List.not_mem_nil⟩) (by omega) (by omega) (fun p hp => by omega) (wEnd I 68 r - wBeg I 68 r).toNat (wBeg I 68 r).toNat 0 I (by omega) (Nat.zero_le _) w4 afr.rf
      rcases hb with rfl | rfl <;> exact ⟨by decide, by decide⟩
    refine G_iconst (pc := 0) (v := Int32.ofNat 0) (by decide) dX12_holdsFor_0 ?_
    refine G_istore_n (pc := 1) rfl rfl (by decide) dX12_holdsFor_1 ?_
    refine G_iload_n (pc := 2) rfl dX12_holdsFor_2 ?_
    refine G_if_ne (pc := 3) (tgt := 10) (by decide) dX12_holdsFor_3 (fun c => ?_) (fun c => ?_)
    · have hr0 : ¬ r = 0 := fun h => c (by rw [h]; rfl)
      have hb : wBeg I 68 r = wEnd I 68 (r - 1) := if_neg hr0
      refine G_aload_n (pc := 10) rfl dX12_holdsFor_10 ?_
      refine G_iload_n (pc := 11) rfl dX12_holdsFor_11 ?_
      refine G_iconst (pc := 12) (v := Int32.ofNat 1) (by decide) dX12_holdsFor_12 ?_
      refine G_isub (pc := 13) (n_sub (by omega) (by omega)) dX12_holdsFor_13 ?_
      refine G_iconst (pc := 14) (v := Int32.ofNat 2) (by decide) dX12_holdsFor_14 ?_
      refine oX12_holdsFor_15 (d + 5) _ [.int (Int32.ofNat (r - 1)), .int (Int32.ofNat 2)] [] I _ (fun rv h' => rv = some (.int (I 68 (89 + 3 * (r - 1) + 2))) ∧ h' = (SH0, RF0, I)) 67 12 113 mX12_ruleOf rfl List.mem_cons_self mt_X12_ruleOf rfl (fun v hv => ?_) (fun v hv => absurd hv List.not_mem_nil) (by simp) (ruleOf_G _ _ _ (r - 1) 2 (by omega) (by decide) ⟨rfl, rfl⟩) ?_
      · simp only [List.mem_cons, List.not_mem_nil, or_false] at hv
        rcases hv with rfl | rfl <;> exact Or.inl ⟨_, rfl⟩
      rintro _ _ ⟨rfl, rfl⟩
      dsimp only [Option.toList, List.cons_append, List.nil_append]
      exact go _ hb.symm
    · have hr0 : r = 0 := by
        have h1 : (Int32.ofNat r).toInt = 0 := by rw [c]; rfl
        rw [n_int (by omega)] at h1
        omega
      have hb : wBeg I 68 r = 0 := if_pos hr0
      refine G_iconst (pc := 6) (v := Int32.ofNat 0) (by decide) dX12_holdsFor_6 ?_
      refine G_goto (pc := 7) (tgt := 18) (by decide) dX12_holdsFor_7 ?_
      exact go _ (by rw [hb]; rfl)
