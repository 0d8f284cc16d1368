set_option maxRecDepth 16384 in
/-! ===== the reference's reader: what stands at a place, names, numbers ===== -/
def bA (I : gI) (x : Int32) : Int32 := if x.toInt < (I 67 6).toInt then I 72 x.toInt.toNat else -1
set_option maxRecDepth 16384 in
theorem bA_neg {I : gI} {x : Int32} (h : (I 67 6).toInt ≤ x.toInt) : bA I x = -1 := if_neg (by omega)
set_option maxRecDepth 16384 in
theorem bA_lt {I : gI} {x : Int32} (h : 0 ≤ (bA I x).toInt) : x.toInt < (I 67 6).toInt := by
  by_cases h1 : x.toInt < (I 67 6).toInt
  · exact h1
  · rw [bA, if_neg h1] at h
    exact absurd h (by decide)
set_option maxRecDepth 16384 in
theorem lsR {c : Nat} : aSG [.ref c] := fun v hv => by
  simp only [List.mem_cons, List.not_mem_nil, or_false] at hv
  rcases hv with rfl
  exact Or.inr ⟨_, rfl⟩
set_option maxRecDepth 16384 in
theorem a_inc {x : Int32} (h0 : 0 ≤ x.toInt) (h1 : x.toInt ≤ 100000) : (x + 1).toInt = x.toInt + 1 := by
  rw [Int32.toInt_add, show (1 : Int32).toInt = 1 from rfl, a_bm (by unfold aLo; omega) (by unfold aHi; omega)]
set_option maxRecDepth 16384 in
theorem inv_at {I : gI} {v : Int32} {j : Nat} (hj : j = 8 ∨ j = 9) (h : aInv bT I) (h0 : 0 ≤ v.toInt) (h1 : v.toInt ≤ 200) : aInv bT (gup I 67 j v) := by
  refine inv_put h ?_
  rcases hj with rfl | rfl
  · rw [show bnd bT 67 8 = (0, 200) by decide +kernel]
    exact ⟨h0, h1⟩
  · rw [show bnd bT 67 9 = (0, 200) by decide +kernel]
    exact ⟨h0, h1⟩
section RD
variable {d : Nat} {I : gI} {Q : Option Value → gH → Prop}
set_option maxRecDepth 100000 in
set_option maxHeartbeats 4000000 in
theorem byteAt_G {x : Int32} (hx : 0 ≤ x.toInt) (hi : aInv bT I) (hQ : Q (some (.int (bA I x))) (SH0, RF0, I)) : gg d mX12_byteAt 0 (gent 2 [.ref 67, .int x]) [] I Q := by
  have hz := ain_of hi (show bnd bT 67 6 = (0, 200) by decide +kernel)
  dsimp only at hz
  refine G_iload_n (pc := 0) rfl dX12_byteAt_0 ?_
  refine G_aload_n (pc := 1) rfl dX12_byteAt_1 ?_
  refine G_getI (pc := 2) (ci := 12) (j := 6) rfl rfl lq_RX12_126 rfl rfl dX12_byteAt_2 ?_
  refine G_icmp_ge (pc := 5) (tgt := 17) (by decide) dX12_byteAt_5 (fun c => ?_) (fun c => ?_)
  · rw [Int32.le_iff_toInt_le] at c
    rw [bA_neg c] at hQ
    refine G_iconst (pc := 17) (v := -1) (by decide) dX12_byteAt_17 ?_
    exact G_iret (pc := 18) (Nat.le_refl _) (Nat.le_refl _) rfl dX12_byteAt_18 hQ
  · rw [Int32.le_iff_toInt_le] at c
    rw [bA, if_pos (by omega)] at hQ
    refine G_aload_n (pc := 8) rfl dX12_byteAt_8 ?_
    refine G_getR (pc := 9) (ci := 12) (j := 5) rfl lq_RX12_22 rfl rfl rfl dX12_byteAt_9 ?_
    refine G_iload_n (pc := 12) rfl dX12_byteAt_12 ?_
    refine G_iald (pc := 13) a_nc rfl rfl (a_vin hx (by omega)) dX12_byteAt_13 ?_
    refine G_goto (pc := 14) (tgt := 18) (by decide) dX12_byteAt_14 ?_
    exact G_iret (pc := 18) (Nat.le_refl _) (Nat.le_refl _) rfl dX12_byteAt_18 hQ
set_option maxRecDepth 16384 in
theorem in1_G {v lo hi : Int32} (h1 : lo.toInt ≤ v.toInt → v.toInt ≤ hi.toInt → Q (some (.int 1)) (SH0, RF0, I)) (h0 : ¬ (lo.toInt ≤ v.toInt ∧ v.toInt ≤ hi.toInt) → Q (some (.int 0)) (SH0, RF0, I)) : gg d mX12_in1 0 (gent 3 [.int v, .int lo, .int hi]) [] I Q := by
  have no : ¬ (lo.toInt ≤ v.toInt ∧ v.toInt ≤ hi.toInt) → gg d mX12_in1 14 [some (.int v), some (.int lo), some (.int hi)] [] I Q := fun h => by
    refine G_iconst (pc := 14) (v := 0) (by decide) dX12_in1_14 ?_
    exact G_zret (pc := 15) (Nat.le_refl _) (Nat.le_refl _) rfl (by decide) dX12_in1_15 (h0 h)
  refine G_iload_n (pc := 0) rfl dX12_in1_0 ?_
  refine G_iload_n (pc := 1) rfl dX12_in1_1 ?_
  refine G_icmp_lt (pc := 2) (tgt := 14) (by decide) dX12_in1_2 (fun c => no ?_) (fun c => ?_)
  · rw [Int32.lt_iff_toInt_lt] at c
    omega
  rw [Int32.lt_iff_toInt_lt] at c
  refine G_iload_n (pc := 5) rfl dX12_in1_5 ?_
  refine G_iload_n (pc := 6) rfl dX12_in1_6 ?_
  refine G_icmp_gt (pc := 7) (tgt := 14) (by decide) dX12_in1_7 (fun c2 => no ?_) (fun c2 => ?_)
  · rw [Int32.lt_iff_toInt_lt] at c2
    omega
  rw [Int32.lt_iff_toInt_lt] at c2
  refine G_iconst (pc := 10) (v := 1) (by decide) dX12_in1_10 ?_
  refine G_goto (pc := 11) (tgt := 15) (by decide) dX12_in1_11 ?_
  exact G_zret (pc := 15) (Nat.le_refl _) (Nat.le_refl _) rfl (by decide) dX12_in1_15 (h1 (by omega) (by omega))
set_option maxRecDepth 16384 in
def mdX : aMd := [(67, 8, 11)]
set_option maxRecDepth 16384 in
def mdR : aMd := [(67, 8, 8), (67, 10, 11)]
set_option maxRecDepth 16384 in
/-- a name or a number was read from J on -/
def rdQ (J J' : gI) (lo hi : Int) : Prop := afr mdR J J' ∧ aInv bT J' ∧ (J 67 8).toInt ≤ (J' 67 8).toInt ∧ (J' 67 8).toInt ≤ (J 67 6).toInt ∧ (lo ≤ (bA J (J 67 8)).toInt → (bA J (J 67 8)).toInt ≤ hi → (J 67 8).toInt < (J' 67 8).toInt)
set_option maxRecDepth 16384 in
theorem mdX_at {j : Nat} (h : 8 ≤ j ∧ j ≤ 11) : amodr mdX 67 j j = true := amodr_i (a := 8) (b := 11) List.mem_cons_self h.1 h.2
set_option maxRecDepth 16384 in
theorem mdX_ne {c j : Nat} (h : c ≠ 67 ∨ j < 8 ∨ 11 < j) : amodr mdX c j j = false := amodr_n1 (by omega) amodr_n0
set_option maxRecDepth 16384 in
theorem mdR_at {j : Nat} (h : j = 8 ∨ j = 10 ∨ j = 11) : amodr mdR 67 j j = true := by
  rcases h with rfl | rfl | rfl <;> decide
set_option maxRecDepth 16384 in
theorem mdR_ne {c j : Nat} (h : c ≠ 67 ∨ j < 8 ∨ j = 9 ∨ 11 < j) : amodr mdR c j j = false := amodr_n1 (by omega) (amodr_n1 (by omega) amodr_n0)
set_option maxRecDepth 16384 in
theorem mdX_tr {I J K : gI} (h : afr mdX I J) (h1 : afr mdX J K) : afr mdX I K := h.tr h1 (by decide)
set_option maxRecDepth 16384 in
theorem bA_eq {I J : gI} {x : Int32} (h : afr mdX I J) : bA J x = bA I x := by
  unfold bA
  rw [h 67 6 (mdX_ne (Or.inr (Or.inl (by decide)))), h 72 _ (mdX_ne (Or.inl (by decide)))]
set_option maxRecDepth 16384 in
theorem bA_eqR {I J : gI} {x : Int32} (h : afr mdR I J) : bA J x = bA I x := by
  unfold bA
  rw [h 67 6 (mdR_ne (Or.inr (Or.inl (by decide)))), h 72 _ (mdR_ne (Or.inl (by decide)))]
end RD
set_option maxRecDepth 16384 in
theorem nez {v : Int32} (h : v.toInt ≠ 0) : crel 1 v.toInt 0 := h
set_option maxRecDepth 16384 in
theorem eqz {v : Int32} (h : v.toInt ≠ 0) : ¬ crel 0 v.toInt 0 := h
set_option maxRecDepth 16384 in
theorem lsr {c : Nat} {S : List Value} (h : aSG S) : aSG (.ref c :: S) := fun v hv => by
  rcases List.mem_cons.mp hv with rfl | hv
  · exact Or.inr ⟨c, rfl⟩
  · exact h v hv
set_option maxRecDepth 16384 in
theorem lsi {x : Int32} {S : List Value} (h : aSG S) : aSG (.int x :: S) := fun v hv => by
  rcases List.mem_cons.mp hv with rfl | hv
  · exact Or.inl ⟨x, rfl⟩
  · exact h v hv
set_option maxRecDepth 16384 in
theorem n_add1 {k : Nat} : Int32.ofNat k + 1 = Int32.ofNat (k + 1) := n_add
set_option maxRecDepth 16384 in
theorem n_jj {k : Nat} (h : k < 1000) : (Int32.ofNat k).toNatClampNeg = k := by rw [a_nc, n_int h, Int.toNat_natCast]
set_option maxRecDepth 16384 in
theorem gup_up {I : gI} {c j : Nat} {x y : Int32} : gup (gup I c j x) c j y = gup I c j y := by
  funext c' j'
  by_cases h : c' = c ∧ j' = j
  · obtain ⟨rfl, rfl⟩ := h
    rw [gup_at, gup_at]
  · rw [gup_ne (by omega), gup_ne (by omega), gup_ne (by omega)]
set_option maxRecDepth 16384 in
theorem gup_id {I : gI} {c j : Nat} {x : Int32} (e : I c j = x) : gup I c j x = I := by
  funext c' j'
  by_cases h : c' = c ∧ j' = j
  · obtain ⟨rfl, rfl⟩ := h
    rw [gup_at, e]
  · rw [gup_ne (by omega)]
set_option maxRecDepth 16384 in
theorem gup_cm {I : gI} {c j k : Nat} {x y : Int32} (h : j ≠ k) : gup (gup I c j x) c k y = gup (gup I c k y) c j x := by
  funext c' j'
  by_cases h1 : c' = c ∧ j' = j
  · obtain ⟨rfl, rfl⟩ := h1
    rw [gup_ne (Or.inr h), gup_at, gup_at]
  · by_cases h2 : c' = c ∧ j' = k
    · obtain ⟨rfl, rfl⟩ := h2
      rw [gup_at, gup_ne (by omega), gup_at]
    · rw [gup_ne (by omega), gup_ne (by omega), gup_ne (by omega), gup_ne (by omega)]
set_option maxRecDepth 16384 in
/-- bytes of the tape as they are, for places that are numbers -/
theorem bA_bN {I : gI} {a : Nat} (ha : a < 1000) : (bA I (Int32.ofNat a)).toInt = bN I a := by
  unfold bA bN
  rw [n_int ha]
  by_cases h : (a : Int) < (I 67 6).toInt
  · rw [if_pos h, if_pos h, Int.toNat_natCast]
  · rw [if_neg h, if_neg h]
    rfl
set_option maxRecDepth 16384 in
theorem bN_67 {I : gI} {j : Nat} {v : Int32} (hj : j ≠ 6) : bN (gup I 67 j v) = bN I := by
  funext a
  unfold bN
  rw [gup_ne (Or.inr (fun e => hj e.symm)), gup_ne (Or.inl (by decide))]
set_option maxRecDepth 16384 in
theorem bN_eq {I J : gI} {md : aMd} (h : afr md I J) (h1 : amodr md 67 6 6 = false) (h2 : md.all (fun r => decide (r.1 ≠ 72)) = true) : bN J = bN I := by
  funext a
  unfold bN
  have e : amodr md 72 a a = false := by
    cases hm : amodr md 72 a a with
    | false => rfl
    | true =>
      obtain ⟨r, hr, h3⟩ := List.any_eq_true.mp hm
      have h4 := of_decide_eq_true (List.all_eq_true.mp h2 r hr)
      simp only [Bool.and_eq_true, decide_eq_true_eq] at h3
      exact absurd h3.1.1 h4
  rw [h 67 6 h1, h 72 a e]
set_option maxRecDepth 16384 in
theorem okB_of {I : gI} (hi : aInv bT I) : okB (bN I) := by
  have hz := ain_of hi (show bnd bT 67 6 = (0, 200) by decide +kernel)
  dsimp only at hz
  refine ⟨fun j hj => ?_, fun j => ?_⟩
  · unfold bN
    rw [if_neg (by omega)]
  · unfold bN
    by_cases h : (j : Int) < (I 67 6).toInt
    · rw [if_pos h]
      have h1 := hi 72 j
      have e2 : bnd bT 72 j = (0, 255) := by
        show bseg (bT.getD 72 []) _ = _
        rw [show bT.getD 72 [] = [(199, 0, 255)] by decide +kernel]
        show (if _ ≤ 199 then _ else _) = _
        rw [if_pos (by omega)]
      rw [e2] at h1
      have h1 : (0 : Int) ≤ (I 72 j).toInt ∧ (I 72 j).toInt ≤ 255 := h1
      omega
    · rw [if_neg h]
      omega
set_option maxRecDepth 16384 in
theorem bN_lt {I : gI} {j : Nat} (h : bN I j ≠ -1) : (j : Int) < (I 67 6).toInt := by
  by_cases e : (j : Int) < (I 67 6).toInt
  · exact e
  · unfold bN at h
    rw [if_neg e] at h
    exact absurd rfl h
set_option maxRecDepth 16384 in
theorem sk_le {P : Int → Bool} {I : gI} (hP : P (-1) = false) {a : Nat} (ha : (a : Int) ≤ (I 67 6).toInt) : (sk P (bN I) a : Int) ≤ (I 67 6).toInt := by
  by_cases e : (sk P (bN I) a : Int) ≤ (I 67 6).toInt
  · exact e
  · have h1 := sk_in (P := P) (B := bN I) (a := a) (j := (I 67 6).toInt.toNat) (by omega) (by omega)
    have h2 : bN I (I 67 6).toInt.toNat = -1 := by
      unfold bN
      rw [if_neg (by omega)]
    rw [h2, hP] at h1
    cases h1
set_option maxRecDepth 16384 in
theorem lt_f {c : Int} (h : ¬ (97 ≤ c ∧ c ≤ 122)) : isLt c = false := by
  unfold isLt
  by_cases h1 : 97 ≤ c
  · rw [decide_eq_true h1, decide_eq_false (by omega)]
    rfl
  · rw [decide_eq_false h1]
    rfl
set_option maxRecDepth 16384 in
theorem lt_t {c : Int} (h1 : 97 ≤ c) (h2 : c ≤ 122) : isLt c = true := by
  unfold isLt
  rw [decide_eq_true h1, decide_eq_true h2]
  rfl
set_option maxRecDepth 16384 in
theorem dg_f {c : Int} (h : ¬ (48 ≤ c ∧ c ≤ 57)) : isDg c = false := by
  unfold isDg
  by_cases h1 : 48 ≤ c
  · rw [decide_eq_true h1, decide_eq_false (by omega)]
    rfl
  · rw [decide_eq_false h1]
    rfl
set_option maxRecDepth 16384 in
theorem dg_t {c : Int} (h1 : 48 ≤ c) (h2 : c ≤ 57) : isDg c = true := by
  unfold isDg
  rw [decide_eq_true h1, decide_eq_true h2]
  rfl
set_option maxRecDepth 16384 in
/-- letters stand as they were made -/
theorem ltr_b : (List.range 144).all (fun j => decide (bnd bT 73 j = (ltr.getD j 0, ltr.getD j 0))) = true := by decide +kernel
set_option maxRecDepth 16384 in
theorem ltr_of {I : gI} (hi : aInv bT I) {j : Nat} (hj : j < 144) : (I 73 j).toInt = ltr.getD j 0 := by
  have h := of_decide_eq_true (List.all_eq_true.mp ltr_b j (List.mem_range.mpr hj))
  have h1 := hi 73 j
  rw [h] at h1
  have h1 : ltr.getD j 0 ≤ (I 73 j).toInt ∧ (I 73 j).toInt ≤ ltr.getD j 0 := h1
  omega
set_option maxRecDepth 16384 in
theorem n_8m {k : Nat} : (8 : Int32) * Int32.ofNat k = Int32.ofNat (8 * k) := (Int32.ofNat_mul 8 k).symm
section RN
variable {d : Nat} {Q : Option Value → gH → Prop}
set_option maxRecDepth 100000 in
set_option maxHeartbeats 8000000 in
theorem inm_0 {J : gI} {e b w k : Nat} (hk : k ≤ 8) (hz : isW (bN J) b e w = false) (h0 : isW (bN J) b e w = false → Q (some (.int 0)) (SH0, RF0, J)) : gg (d + 1) mX12_isNameOf 22 [some (.ref 67), some (.int (Int32.ofNat w)), some (.int 0), some (.int (Int32.ofNat k))] [] J Q := by
  have k8 : (8 : Int32).toInt = 8 := rfl
  have kk : (Int32.ofNat k).toInt = k := n_int (by omega)
  refine G_iload_n (pc := 22) rfl dX12_isNameOf_22 ?_
  refine G_bipush (pc := 23) (v := 8) (by decide) dX12_isNameOf_23 ?_
  refine oX12_isNameOf_25 _ _ _ _ _ _ _ (fun c25 => ?_) (fun c25 => ?_)
  · simp only [crel, ne_eq, Classical.not_not] at c25
    refine G_iload_n (pc := 86) rfl dX12_isNameOf_86 ?_
    exact oX12_isNameOf_87 _ _ _ _ _ (Or.inl rfl) (h0 hz)
  · simp only [crel, ne_eq, Classical.not_not] at c25
    refine G_iload_n (pc := 28) rfl dX12_isNameOf_28 ?_
    refine oX12_isNameOf_29 _ _ _ _ _ _ (fun c29 => ?_) (fun c29 => absurd (by show (0 : Int32).toInt = 0; rfl) c29)
    refine G_iload_n (pc := 86) rfl dX12_isNameOf_86 ?_
    exact oX12_isNameOf_87 _ _ _ _ _ (Or.inl rfl) (h0 hz)
set_option maxRecDepth 100000 in
set_option maxHeartbeats 8000000 in
theorem inm_1 {J : gI} {e b w : Nat} (hi : aInv bT J) (h8 : J 67 8 = Int32.ofNat e) (h9 : J 67 9 = Int32.ofNat b) (hbe : b ≤ e) (he : e ≤ 200) (hw : w < 18) (hb8 : e ≤ b + 8) (h1 : isW (bN J) b e w = true → Q (some (.int 1)) (SH0, RF0, J)) (h0 : isW (bN J) b e w = false → Q (some (.int 0)) (SH0, RF0, J)) : ∀ (g k : Nat), k + g = 8 → (∀ q, q < k → ltr.getD (8 * w + q) 0 = if b + q < e then bN J (b + q) else 32) → gg (d + 1) mX12_isNameOf 22 [some (.ref 67), some (.int (Int32.ofNat w)), some (.int 1), some (.int (Int32.ofNat k))] [] J Q := by
  have k8 : (8 : Int32).toInt = 8 := rfl
  intro g
  induction g with
  | zero =>
    intro k hk hp
    have e1 : k = 8 := by omega
    subst e1
    refine G_iload_n (pc := 22) rfl dX12_isNameOf_22 ?_
    refine G_bipush (pc := 23) (v := 8) (by decide) dX12_isNameOf_23 ?_
    refine oX12_isNameOf_25 _ _ _ _ _ _ _ (fun c25 => ?_) (fun c25 => absurd (by show (8 : Int32).toInt ≤ (Int32.ofNat 8).toInt; decide) c25)
    refine G_iload_n (pc := 86) rfl dX12_isNameOf_86 ?_
    refine oX12_isNameOf_87 _ _ _ _ _ (Or.inr rfl) (h1 ?_)
    unfold isW
    rw [Bool.and_eq_true, decide_eq_true_eq, List.all_eq_true]
    exact ⟨hb8, fun q hq => decide_eq_true (hp q (List.mem_range.mp hq))⟩
  | succ g ih =>
    intro k hk hp
    have kk : (Int32.ofNat k).toInt = k := n_int (by omega)
    have hl : (J 73 (8 * w + k)).toInt = ltr.getD (8 * w + k) 0 := ltr_of hi (by omega)
    refine G_iload_n (pc := 22) rfl dX12_isNameOf_22 ?_
    refine G_bipush (pc := 23) (v := 8) (by decide) dX12_isNameOf_23 ?_
    refine oX12_isNameOf_25 _ _ _ _ _ _ _ (fun c25 => absurd c25 (by show ¬ ((8 : Int32).toInt ≤ (Int32.ofNat k).toInt); omega)) (fun c25 => ?_)
    refine G_iload_n (pc := 28) rfl dX12_isNameOf_28 ?_
    refine oX12_isNameOf_29 _ _ _ _ _ _ (fun c29 => absurd c29 (by show ¬ ((1 : Int32).toInt = 0); decide)) (fun c29 => ?_)
    refine G_aload_n (pc := 32) rfl dX12_isNameOf_32 ?_
    refine G_getR (pc := 33) (ci := 12) (j := 7) rfl lq_RX12_25 rfl rfl rfl dX12_isNameOf_33 ?_
    refine G_bipush (pc := 36) (v := 8) (by decide) dX12_isNameOf_36 ?_
    refine G_iload_n (pc := 38) rfl dX12_isNameOf_38 ?_
    refine G_imul (pc := 39) n_8m dX12_isNameOf_39 ?_
    refine G_iload_n (pc := 40) rfl dX12_isNameOf_40 ?_
    refine G_iadd (pc := 41) n_add dX12_isNameOf_41 ?_
    refine G_cald (pc := 42) (jj := 8 * w + k) (n_jj (by omega)) rfl rfl (n_in (by omega) (by omega)) dX12_isNameOf_42 ?_
    refine G_aload_n (pc := 43) rfl dX12_isNameOf_43 ?_
    refine G_getI (pc := 44) (ci := 12) (j := 9) h9 rfl lq_RX12_133 rfl rfl dX12_isNameOf_44 ?_
    refine G_iload_n (pc := 47) rfl dX12_isNameOf_47 ?_
    refine G_iadd (pc := 48) n_add dX12_isNameOf_48 ?_
    refine G_aload_n (pc := 49) rfl dX12_isNameOf_49 ?_
    refine G_getI (pc := 50) (ci := 12) (j := 8) h8 rfl lq_RX12_130 rfl rfl dX12_isNameOf_50 ?_
    refine oX12_isNameOf_53 _ _ _ _ _ _ _ (fun c53 => ?_) (fun c53 => ?_)
    · simp only [crel, ne_eq, Classical.not_not] at c53
      rw [n_int (by omega), n_int (by omega)] at c53
      have ek : (if b + k < e then bN J (b + k) else 32) = 32 := if_neg (by omega)
      refine G_bipush (pc := 69) (v := 32) (by decide) dX12_isNameOf_69 ?_
      refine oX12_isNameOf_71 _ _ _ _ _ _ _ (fun c71 => ?_) (fun c71 => ?_)
      · simp only [crel, ne_eq, Classical.not_not] at c71
        refine G_iconst (pc := 78) (v := 0) (by decide) dX12_isNameOf_78 ?_
        refine G_istore_n (pc := 79) rfl rfl (by decide) dX12_isNameOf_79 ?_
        refine G_iinc (pc := 80) (v := Int32.ofNat 1) n_add rfl rfl (by decide) rfl (by decide) dX12_isNameOf_80 ?_
        refine G_goto (pc := 83) (tgt := 22) (by decide) dX12_isNameOf_83 ?_
        exact inm_0 (by omega) (by
          cases hz : isW (bN J) b e w with
          | false => rfl
          | true =>
            unfold isW at hz
            rw [Bool.and_eq_true, List.all_eq_true] at hz
            have h5 := of_decide_eq_true (hz.2 k (List.mem_range.mpr (by omega)))
            rw [show (32 : Int32).toInt = 32 from rfl] at c71
            rw [ek, ← hl] at h5
            exact absurd h5 c71) h0
      · simp only [crel, ne_eq, Classical.not_not] at c71
        refine G_iconst (pc := 74) (v := 1) (by decide) dX12_isNameOf_74 ?_
        refine G_goto (pc := 75) (tgt := 79) (by decide) dX12_isNameOf_75 ?_
        refine G_istore_n (pc := 79) rfl rfl (by decide) dX12_isNameOf_79 ?_
        refine G_iinc (pc := 80) (v := Int32.ofNat 1) n_add rfl rfl (by decide) rfl (by decide) dX12_isNameOf_80 ?_
        refine G_goto (pc := 83) (tgt := 22) (by decide) dX12_isNameOf_83 ?_
        refine ih (k + 1) (by omega) (fun q hq => ?_)
        by_cases e1 : q = k
        · rw [e1, ek, ← hl]
          rw [show (32 : Int32).toInt = 32 from rfl] at c71
          exact c71
        · exact hp q (by omega)
    · simp only [crel, ne_eq, Classical.not_not] at c53
      rw [n_int (by omega), n_int (by omega)] at c53
      have ek : (if b + k < e then bN J (b + k) else 32) = bN J (b + k) := if_pos (by omega)
      refine G_aload_n (pc := 56) rfl dX12_isNameOf_56 ?_
      refine G_aload_n (pc := 57) rfl dX12_isNameOf_57 ?_
      refine G_getI (pc := 58) (ci := 12) (j := 9) h9 rfl lq_RX12_133 rfl rfl dX12_isNameOf_58 ?_
      refine G_iload_n (pc := 61) rfl dX12_isNameOf_61 ?_
      refine G_iadd (pc := 62) n_add dX12_isNameOf_62 ?_
      refine oX12_isNameOf_63 _ _ [.int _] [.int _] J _ _ 67 12 126 mX12_byteAt rfl List.mem_cons_self mt_X12_byteAt rfl (lsi ls0) (lsi ls0) (by simp) (byteAt_G (by rw [n_int (by omega)]; omega) hi ?_) (fun _ _ h => h)
      dsimp only [Option.toList, List.cons_append, List.nil_append]
      have hc : (bA J (Int32.ofNat (b + k))).toInt = bN J (b + k) := bA_bN (by omega)
      refine G_goto (pc := 66) (tgt := 71) (by decide) dX12_isNameOf_66 ?_
      refine oX12_isNameOf_71 _ _ _ _ _ _ _ (fun c71 => ?_) (fun c71 => ?_)
      · simp only [crel, ne_eq, Classical.not_not] at c71
        refine G_iconst (pc := 78) (v := 0) (by decide) dX12_isNameOf_78 ?_
        refine G_istore_n (pc := 79) rfl rfl (by decide) dX12_isNameOf_79 ?_
        refine G_iinc (pc := 80) (v := Int32.ofNat 1) n_add rfl rfl (by decide) rfl (by decide) dX12_isNameOf_80 ?_
        refine G_goto (pc := 83) (tgt := 22) (by decide) dX12_isNameOf_83 ?_
        exact inm_0 (by omega) (by
          cases hz : isW (bN J) b e w with
          | false => rfl
          | true =>
            unfold isW at hz
            rw [Bool.and_eq_true, List.all_eq_true] at hz
            have h5 := of_decide_eq_true (hz.2 k (List.mem_range.mpr (by omega)))
            rw [hc] at c71
            rw [ek, ← hl] at h5
            exact absurd h5 c71) h0
      · simp only [crel, ne_eq, Classical.not_not] at c71
        refine G_iconst (pc := 74) (v := 1) (by decide) dX12_isNameOf_74 ?_
        refine G_goto (pc := 75) (tgt := 79) (by decide) dX12_isNameOf_75 ?_
        refine G_istore_n (pc := 79) rfl rfl (by decide) dX12_isNameOf_79 ?_
        refine G_iinc (pc := 80) (v := Int32.ofNat 1) n_add rfl rfl (by decide) rfl (by decide) dX12_isNameOf_80 ?_
        refine G_goto (pc := 83) (tgt := 22) (by decide) dX12_isNameOf_83 ?_
        refine ih (k + 1) (by omega) (fun q hq => ?_)
        by_cases e1 : q = k
        · rw [e1, ek, ← hl]
          rw [hc] at c71
          exact c71
        · exact hp q (by omega)
set_option maxRecDepth 100000 in
set_option maxHeartbeats 8000000 in
theorem isNameOf_N {J : gI} {e b w : Nat} (hi : aInv bT J) (h8 : J 67 8 = Int32.ofNat e) (h9 : J 67 9 = Int32.ofNat b) (hbe : b ≤ e) (he : e ≤ 200) (hw : w < 18) (h1 : isW (bN J) b e w = true → Q (some (.int 1)) (SH0, RF0, J)) (h0 : isW (bN J) b e w = false → Q (some (.int 0)) (SH0, RF0, J)) : gg (d + 1) mX12_isNameOf 0 (gent 4 [.ref 67, .int (Int32.ofNat w)]) [] J Q := by
  have k8 : (8 : Int32).toInt = 8 := rfl
  refine G_aload_n (pc := 0) rfl dX12_isNameOf_0 ?_
  refine G_getI (pc := 1) (ci := 12) (j := 8) h8 rfl lq_RX12_130 rfl rfl dX12_isNameOf_1 ?_
  refine G_aload_n (pc := 4) rfl dX12_isNameOf_4 ?_
  refine G_getI (pc := 5) (ci := 12) (j := 9) h9 rfl lq_RX12_133 rfl rfl dX12_isNameOf_5 ?_
  refine G_isub (pc := 8) (n_sub hbe (by omega)) dX12_isNameOf_8 ?_
  refine G_bipush (pc := 9) (v := 8) (by decide) dX12_isNameOf_9 ?_
  refine oX12_isNameOf_11 _ _ _ _ _ _ _ (fun c11 => ?_) (fun c11 => ?_)
  · simp only [crel, ne_eq, Classical.not_not] at c11
    rw [n_int (by omega), k8] at c11
    refine G_iconst (pc := 18) (v := 0) (by decide) dX12_isNameOf_18 ?_
    refine G_istore_n (pc := 19) rfl rfl (by decide) dX12_isNameOf_19 ?_
    refine G_iconst (pc := 20) (v := Int32.ofNat 0) (by decide) dX12_isNameOf_20 ?_
    refine G_istore_n (pc := 21) rfl rfl (by decide) dX12_isNameOf_21 ?_
    exact inm_0 (k := 0) (by omega) (by unfold isW; rw [decide_eq_false (by omega : ¬ e ≤ b + 8), Bool.false_and]) h0
  · simp only [crel, ne_eq, Classical.not_not] at c11
    rw [n_int (by omega), k8] at c11
    refine G_iconst (pc := 14) (v := 1) (by decide) dX12_isNameOf_14 ?_
    refine G_goto (pc := 15) (tgt := 19) (by decide) dX12_isNameOf_15 ?_
    refine G_istore_n (pc := 19) rfl rfl (by decide) dX12_isNameOf_19 ?_
    refine G_iconst (pc := 20) (v := Int32.ofNat 0) (by decide) dX12_isNameOf_20 ?_
    refine G_istore_n (pc := 21) rfl rfl (by decide) dX12_isNameOf_21 ?_
    exact inm_1 hi h8 h9 hbe he hw (by omega) h1 h0 8 0 rfl (fun q hq => by omega)
set_option maxRecDepth 100000 in
set_option maxHeartbeats 8000000 in
theorem rnm_skip {H : gI} {a0 : Nat} (hi : aInv bT H) (kk : gg (d + 2) mX12_readsName 31 [some (.ref 67), none] [] (gup H 67 8 (Int32.ofNat (sk isLt (bN H) a0))) Q) : ∀ (g a : Nat), 200 ≤ a + g → a ≤ 200 → sk isLt (bN H) a = sk isLt (bN H) a0 → gg (d + 2) mX12_readsName 0 [some (.ref 67), none] [] (gup H 67 8 (Int32.ofNat (a))) Q := by
  intro g
  induction g with
  | zero =>
    intro a hg ha hs
    refine G_aload_n (pc := 0) rfl dX12_readsName_0 ?_
    refine G_aload_n (pc := 1) rfl dX12_readsName_1 ?_
    refine G_getI (pc := 2) (ci := 12) (j := 8) gup_at rfl lq_RX12_130 rfl rfl dX12_readsName_2 ?_
    refine oX12_readsName_5 _ _ [.int _] [] (gup H 67 8 (Int32.ofNat a)) _ _ 67 12 126 mX12_byteAt rfl List.mem_cons_self mt_X12_byteAt rfl (lsi ls0) ls0 (by simp) (byteAt_G (by rw [n_int (by omega)]; omega) (inv_at (Or.inl rfl) hi (by rw [n_int (by omega)]; omega) (by rw [n_int (by omega)]; omega)) ?_) (fun _ _ h => h)
    dsimp only [Option.toList, List.cons_append, List.nil_append]
    have hc : (bA (gup H 67 8 (Int32.ofNat a)) (Int32.ofNat a)).toInt = bN H a := by rw [bA_bN (by omega), bN_67 (by decide)]
    generalize bA (gup H 67 8 (Int32.ofNat a)) (Int32.ofNat a) = c at hc ⊢
    refine G_bipush (pc := 8) (v := 97) (by decide) dX12_readsName_8 ?_
    refine G_bipush (pc := 10) (v := 122) (by decide) dX12_readsName_10 ?_
    refine oX12_readsName_12 _ _ [.int _, .int _, .int _] [] (gup H 67 8 (Int32.ofNat a)) _ _ mX12_in1 mt_X12_in1 rfl (lsi (lsi (lsi ls0))) ls0 (by simp) (in1_G (fun p q => ?_) (fun p => ?_)) (fun _ _ h => h)
    · dsimp only [Option.toList, List.cons_append, List.nil_append]
      have p : (97 : Int) ≤ c.toInt := p
      have q : c.toInt ≤ (122 : Int) := q
      have hl : isLt (bN H a) = true := by rw [← hc]; exact lt_t p q
      have a2 : a < 200 := by
        by_cases e : a < 200
        · exact e
        · rw [okB_lt (okB_of hi) a (by omega)] at hl
          cases hl
      refine oX12_readsName_15 _ _ _ _ _ _ (fun c => absurd c (eqz (by decide))) (fun _ => ?_)
      omega
    · dsimp only [Option.toList, List.cons_append, List.nil_append]
      have p : ¬ ((97 : Int) ≤ c.toInt ∧ c.toInt ≤ (122 : Int)) := p
      have hl : isLt (bN H a) = false := by rw [← hc]; exact lt_f p
      refine oX12_readsName_15 _ _ _ _ _ _ (fun _ => ?_) (fun c => absurd rfl c)
      rw [sk_stop hl] at hs
      rw [← hs] at kk
      exact kk
  | succ g ih =>
    intro a hg ha hs
    refine G_aload_n (pc := 0) rfl dX12_readsName_0 ?_
    refine G_aload_n (pc := 1) rfl dX12_readsName_1 ?_
    refine G_getI (pc := 2) (ci := 12) (j := 8) gup_at rfl lq_RX12_130 rfl rfl dX12_readsName_2 ?_
    refine oX12_readsName_5 _ _ [.int _] [] (gup H 67 8 (Int32.ofNat a)) _ _ 67 12 126 mX12_byteAt rfl List.mem_cons_self mt_X12_byteAt rfl (lsi ls0) ls0 (by simp) (byteAt_G (by rw [n_int (by omega)]; omega) (inv_at (Or.inl rfl) hi (by rw [n_int (by omega)]; omega) (by rw [n_int (by omega)]; omega)) ?_) (fun _ _ h => h)
    dsimp only [Option.toList, List.cons_append, List.nil_append]
    have hc : (bA (gup H 67 8 (Int32.ofNat a)) (Int32.ofNat a)).toInt = bN H a := by rw [bA_bN (by omega), bN_67 (by decide)]
    generalize bA (gup H 67 8 (Int32.ofNat a)) (Int32.ofNat a) = c at hc ⊢
    refine G_bipush (pc := 8) (v := 97) (by decide) dX12_readsName_8 ?_
    refine G_bipush (pc := 10) (v := 122) (by decide) dX12_readsName_10 ?_
    refine oX12_readsName_12 _ _ [.int _, .int _, .int _] [] (gup H 67 8 (Int32.ofNat a)) _ _ mX12_in1 mt_X12_in1 rfl (lsi (lsi (lsi ls0))) ls0 (by simp) (in1_G (fun p q => ?_) (fun p => ?_)) (fun _ _ h => h)
    · dsimp only [Option.toList, List.cons_append, List.nil_append]
      have p : (97 : Int) ≤ c.toInt := p
      have q : c.toInt ≤ (122 : Int) := q
      have hl : isLt (bN H a) = true := by rw [← hc]; exact lt_t p q
      have a2 : a < 200 := by
        by_cases e : a < 200
        · exact e
        · rw [okB_lt (okB_of hi) a (by omega)] at hl
          cases hl
      refine oX12_readsName_15 _ _ _ _ _ _ (fun c => absurd c (eqz (by decide))) (fun _ => ?_)
      refine G_aload_n (pc := 18) rfl dX12_readsName_18 ?_
      refine G_dup (pc := 19) rfl dX12_readsName_19 ?_
      refine G_getI (pc := 20) (ci := 12) (j := 8) gup_at rfl lq_RX12_130 rfl rfl dX12_readsName_20 ?_
      refine G_iconst (pc := 23) (v := 1) (by decide) dX12_readsName_23 ?_
      refine G_iadd (pc := 24) n_add1 dX12_readsName_24 ?_
      refine G_putI (pc := 25) (ci := 12) (j := 8) rfl lq_RX12_130 rfl rfl rfl trivial dX12_readsName_25 ?_
      rw [gup_up]
      refine G_goto (pc := 28) (tgt := 0) (by decide) dX12_readsName_28 ?_
      exact ih (a + 1) (by omega) (by omega) (by rw [← sk_go (okB_lt (okB_of hi)) hl]; exact hs)
    · dsimp only [Option.toList, List.cons_append, List.nil_append]
      have p : ¬ ((97 : Int) ≤ c.toInt ∧ c.toInt ≤ (122 : Int)) := p
      have hl : isLt (bN H a) = false := by rw [← hc]; exact lt_f p
      refine oX12_readsName_15 _ _ _ _ _ _ (fun _ => ?_) (fun c => absurd rfl c)
      rw [sk_stop hl] at hs
      rw [← hs] at kk
      exact kk
set_option maxRecDepth 16384 in
def wdP (B : Nat → Int) (b e k : Nat) : Int := (List.range k).foldl (fun t w => if eqW B b e (wordsR.getD w []) = true then (w : Int) else t) 101
set_option maxRecDepth 16384 in
theorem wdP_s {B : Nat → Int} {b e k : Nat} : wdP B b e (k + 1) = if eqW B b e (wordsR.getD k []) = true then (k : Int) else wdP B b e k := by
  unfold wdP
  rw [List.range_succ, List.foldl_append]
  rfl
set_option maxRecDepth 100000 in
set_option maxHeartbeats 8000000 in
theorem rnm_words {H : gI} {e b : Nat} (hi : aInv bT H) (h8 : H 67 8 = Int32.ofNat e) (h9 : H 67 9 = Int32.ofNat b) (hbe : b ≤ e) (he : e ≤ 200) (hl : ∀ j, b ≤ j → j < e → isLt (bN H j) = true) (kk : ∀ t : Int32, t.toInt = wdR (bN H) b e → Q none (SH0, RF0, gup H 67 10 t)) : ∀ (g w : Nat) (t : Int32), w + g = 18 → t.toInt = wdP (bN H) b e w → gg (d + 2) mX12_readsName 39 [some (.ref 67), some (.int (Int32.ofNat w))] [] (gup H 67 10 t) Q := by
  intro g
  induction g with
  | zero =>
    intro w t hw ht
    have e1 : w = 18 := by omega
    subst e1
    refine G_iload_n (pc := 39) rfl dX12_readsName_39 ?_
    refine G_bipush (pc := 40) (v := 18) (by decide) dX12_readsName_40 ?_
    refine oX12_readsName_42 _ _ _ _ _ _ _ (fun c42 => ?_) (fun c42 => absurd (by show (18 : Int32).toInt ≤ (Int32.ofNat 18).toInt; decide) c42)
    exact oX12_readsName_71 _ _ _ _ (kk t ht)
  | succ g ih =>
    intro w t hw ht
    refine G_iload_n (pc := 39) rfl dX12_readsName_39 ?_
    refine G_bipush (pc := 40) (v := 18) (by decide) dX12_readsName_40 ?_
    refine oX12_readsName_42 _ _ _ _ _ _ _ (fun c42 => absurd c42 (by show ¬ ((18 : Int32).toInt ≤ (Int32.ofNat w).toInt); rw [n_int (by omega)]; show ¬ ((18 : Int) ≤ _); omega)) (fun c42 => ?_)
    refine G_aload_n (pc := 45) rfl dX12_readsName_45 ?_
    refine G_aload_n (pc := 46) rfl dX12_readsName_46 ?_
    refine G_iload_n (pc := 47) rfl dX12_readsName_47 ?_
    refine oX12_readsName_48 (d + 1) _ [.int _] [.ref 67] (gup H 67 10 t) _ _ 67 12 129 mX12_isNameOf rfl List.mem_cons_self mt_X12_isNameOf rfl (lsi ls0) (lsr ls0) (by simp) (isNameOf_N (e := e) (b := b) (inv_put hi (a_full (by decide +kernel))) (by rw [gup_ne (Or.inr (by decide))]; exact h8) (by rw [gup_ne (Or.inr (by decide))]; exact h9) hbe he (by omega) (fun hW => ?_) (fun hW => ?_)) (fun _ _ h => h)
    · dsimp only [Option.toList, List.cons_append, List.nil_append]
      rw [bN_67 (by decide), isW_eq (by omega) hbe hl] at hW
      refine oX12_readsName_51 _ _ _ _ _ _ (fun c => absurd c (eqz (by decide))) (fun _ => ?_)
      refine G_iload_n (pc := 54) rfl dX12_readsName_54 ?_
      refine G_goto (pc := 55) (tgt := 62) (by decide) dX12_readsName_55 ?_
      refine G_putI (pc := 62) (ci := 12) (j := 10) rfl lq_RX12_139 rfl rfl rfl trivial dX12_readsName_62 ?_
      rw [gup_up]
      refine G_iinc (pc := 65) (v := Int32.ofNat 1) n_add rfl rfl (by decide) rfl (by decide) dX12_readsName_65 ?_
      refine G_goto (pc := 68) (tgt := 39) (by decide) dX12_readsName_68 ?_
      exact ih (w + 1) (Int32.ofNat w) (by omega) (by rw [wdP_s, if_pos hW, n_int (by omega)])
    · dsimp only [Option.toList, List.cons_append, List.nil_append]
      rw [bN_67 (by decide), isW_eq (by omega) hbe hl] at hW
      refine oX12_readsName_51 _ _ _ _ _ _ (fun _ => ?_) (fun c => absurd rfl c)
      refine G_aload_n (pc := 58) rfl dX12_readsName_58 ?_
      refine G_getI (pc := 59) (ci := 12) (j := 10) gup_at rfl lq_RX12_139 rfl rfl dX12_readsName_59 ?_
      refine G_putI (pc := 62) (ci := 12) (j := 10) rfl lq_RX12_139 rfl rfl rfl trivial dX12_readsName_62 ?_
      rw [gup_up]
      refine G_iinc (pc := 65) (v := Int32.ofNat 1) n_add rfl rfl (by decide) rfl (by decide) dX12_readsName_65 ?_
      refine G_goto (pc := 68) (tgt := 39) (by decide) dX12_readsName_68 ?_
      exact ih (w + 1) (t) (by omega) (by rw [wdP_s, hW, if_neg (by decide)]; exact ht)
set_option maxRecDepth 100000 in
set_option maxHeartbeats 8000000 in
theorem readsName_N {H : gI} {b : Nat} (hi : aInv bT H) (h8 : H 67 8 = Int32.ofNat b) (h9 : H 67 9 = Int32.ofNat b) (hb : (b : Int) ≤ (H 67 6).toInt) (kk : ∀ t : Int32, t.toInt = wdR (bN H) b (sk isLt (bN H) b) → Q none (SH0, RF0, gup (gup H 67 8 (Int32.ofNat (sk isLt (bN H) b))) 67 10 t)) : gg (d + 2) mX12_readsName 0 (gent 2 [.ref 67]) [] H Q := by
  have hz := ain_of hi (show bnd bT 67 6 = (0, 200) by decide +kernel)
  dsimp only at hz
  have hle := sk_le (P := isLt) rfl hb
  have hge := sk_ge (P := isLt) (B := bN H) (a := b)
  have go := rnm_skip (d := d) (Q := Q) (a0 := b) hi (by
    refine G_aload_n (pc := 31) rfl dX12_readsName_31 ?_
    refine G_bipush (pc := 32) (v := 101) (by decide) dX12_readsName_32 ?_
    refine G_putI (pc := 34) (ci := 12) (j := 10) rfl lq_RX12_139 rfl rfl rfl trivial dX12_readsName_34 ?_
    refine G_iconst (pc := 37) (v := Int32.ofNat 0) (by decide) dX12_readsName_37 ?_
    refine G_istore_n (pc := 38) rfl rfl (by decide) dX12_readsName_38 ?_
    refine rnm_words (H := gup H 67 8 (Int32.ofNat (sk isLt (bN H) b))) (e := sk isLt (bN H) b) (b := b) (inv_at (Or.inl rfl) hi (by rw [n_int (by omega)]; omega) (by rw [n_int (by omega)]; omega)) gup_at (by rw [gup_ne (Or.inr (by decide))]; exact h9) hge (by omega) (fun j h1 h2 => by rw [bN_67 (by decide)]; exact sk_in h1 h2) (fun t ht => kk t (by rw [bN_67 (by decide)] at ht; exact ht)) 18 0 101 rfl rfl) 200 b (by omega) (by omega) rfl
  rw [gup_id h8] at go
  exact go
set_option maxRecDepth 16384 in
def pw (k : Int) : Int := if k ≤ 0 then 0 else if k = 1 then 9 else if k = 2 then 99 else if k = 3 then 999 else 9999
set_option maxRecDepth 16384 in
theorem pw_s {k : Int} (h0 : 0 ≤ k) (h : k < 4) : 10 * pw k + 9 = pw (k + 1) ∧ pw k ≤ 999 := by
  have : k = 0 ∨ k = 1 ∨ k = 2 ∨ k = 3 := by omega
  rcases this with rfl | rfl | rfl | rfl <;> decide
set_option maxRecDepth 16384 in
theorem pw_m {k : Int} (h0 : 0 ≤ k) : 0 ≤ pw k ∧ pw k ≤ pw (k + 1) ∧ pw k ≤ 9999 := by
  unfold pw
  repeat' split
  all_goals omega
set_option maxRecDepth 16384 in
theorem val_s {v c : Int32} (h0 : 0 ≤ v.toInt) (h1 : v.toInt ≤ 999) (h2 : 48 ≤ c.toInt) (h3 : c.toInt ≤ 57) : (10 * v + c - 48).toInt = 10 * v.toInt + c.toInt - 48 := by
  rw [Int32.toInt_sub, Int32.toInt_add, Int32.toInt_mul, show (10 : Int32).toInt = 10 from rfl, show (48 : Int32).toInt = 48 from rfl, a_bm (z := 10 * v.toInt) (by unfold aLo; omega) (by unfold aHi; omega), a_bm (z := 10 * v.toInt + c.toInt) (by unfold aLo; omega) (by unfold aHi; omega), a_bm (by unfold aLo; omega) (by unfold aHi; omega)]
set_option maxRecDepth 16384 in
theorem gup_4 {H : gI} {v w x y : Int32} : gup (gup (gup (gup H 67 11 v) 67 8 x) 67 11 w) 67 8 y = gup (gup H 67 11 w) 67 8 y := by
  rw [gup_cm (I := gup H 67 11 v) (j := 8) (k := 11) (by decide), gup_up, gup_up]
set_option maxRecDepth 100000 in
set_option maxHeartbeats 8000000 in
theorem rnu_loop {H : gI} {b : Nat} (hi : aInv bT H) (h9 : H 67 9 = Int32.ofNat b) (kk : ∀ v : Int32, 0 ≤ v.toInt → v.toInt ≤ 9999 → gg (d + 1) mX12_readsNumber 79 [some (.ref 67)] [] (gup (gup H 67 11 v) 67 8 (Int32.ofNat (sk isDg (bN H) b))) Q) : ∀ (g a : Nat) (v : Int32), 200 ≤ a + g → a ≤ 200 → b ≤ a → 0 ≤ v.toInt → v.toInt ≤ pw ((a : Int) - b) → sk isDg (bN H) a = sk isDg (bN H) b → gg (d + 1) mX12_readsNumber 5 [some (.ref 67)] [] (gup (gup H 67 11 v) 67 8 (Int32.ofNat (a))) Q := by
  intro g
  induction g with
  | zero =>
    intro a v hg ha hba hv0 hv1 hs
    refine G_aload_n (pc := 5) rfl dX12_readsNumber_5 ?_
    refine G_aload_n (pc := 6) rfl dX12_readsNumber_6 ?_
    refine G_getI (pc := 7) (ci := 12) (j := 8) gup_at rfl lq_RX12_130 rfl rfl dX12_readsNumber_7 ?_
    refine oX12_readsNumber_10 _ _ [.int _] [] (gup (gup H 67 11 v) 67 8 (Int32.ofNat a)) _ _ 67 12 126 mX12_byteAt rfl List.mem_cons_self mt_X12_byteAt rfl (lsi ls0) ls0 (by simp) (byteAt_G (by rw [n_int (by omega)]; omega) (inv_at (Or.inl rfl) (inv_put hi (a_full (by decide +kernel))) (by rw [n_int (by omega)]; omega) (by rw [n_int (by omega)]; omega)) ?_) (fun _ _ h => h)
    dsimp only [Option.toList, List.cons_append, List.nil_append]
    have hc : (bA (gup (gup H 67 11 v) 67 8 (Int32.ofNat a)) (Int32.ofNat a)).toInt = bN H a := by rw [bA_bN (by omega), bN_67 (by decide), bN_67 (by decide)]
    generalize hcd : bA (gup (gup H 67 11 v) 67 8 (Int32.ofNat a)) (Int32.ofNat a) = c at hc ⊢
    refine G_bipush (pc := 13) (v := 48) (by decide) dX12_readsNumber_13 ?_
    refine G_bipush (pc := 15) (v := 57) (by decide) dX12_readsNumber_15 ?_
    refine oX12_readsNumber_17 _ _ [.int _, .int _, .int _] [] (gup (gup H 67 11 v) 67 8 (Int32.ofNat a)) _ _ mX12_in1 mt_X12_in1 rfl (lsi (lsi (lsi ls0))) ls0 (by simp) (in1_G (fun p q => ?_) (fun p => ?_)) (fun _ _ h => h)
    · dsimp only [Option.toList, List.cons_append, List.nil_append]
      have p : (48 : Int) ≤ c.toInt := p
      have q : c.toInt ≤ (57 : Int) := q
      have hl : isDg (bN H a) = true := by rw [← hc]; exact dg_t p q
      have a2 : a < 200 := by
        by_cases e : a < 200
        · exact e
        · rw [okB_dg (okB_of hi) a (by omega)] at hl
          cases hl
      refine oX12_readsNumber_20 _ _ _ _ _ _ (fun c => absurd c (eqz (by decide))) (fun _ => ?_)
      omega
    · dsimp only [Option.toList, List.cons_append, List.nil_append]
      have p : ¬ ((48 : Int) ≤ c.toInt ∧ c.toInt ≤ (57 : Int)) := p
      have hl : isDg (bN H a) = false := by rw [← hc]; exact dg_f p
      refine oX12_readsNumber_20 _ _ _ _ _ _ (fun _ => ?_) (fun c => absurd rfl c)
      rw [sk_stop hl] at hs
      rw [← hs] at kk
      exact kk v hv0 (by have := pw_m (k := (a : Int) - b) (by omega); omega)
  | succ g ih =>
    intro a v hg ha hba hv0 hv1 hs
    refine G_aload_n (pc := 5) rfl dX12_readsNumber_5 ?_
    refine G_aload_n (pc := 6) rfl dX12_readsNumber_6 ?_
    refine G_getI (pc := 7) (ci := 12) (j := 8) gup_at rfl lq_RX12_130 rfl rfl dX12_readsNumber_7 ?_
    refine oX12_readsNumber_10 _ _ [.int _] [] (gup (gup H 67 11 v) 67 8 (Int32.ofNat a)) _ _ 67 12 126 mX12_byteAt rfl List.mem_cons_self mt_X12_byteAt rfl (lsi ls0) ls0 (by simp) (byteAt_G (by rw [n_int (by omega)]; omega) (inv_at (Or.inl rfl) (inv_put hi (a_full (by decide +kernel))) (by rw [n_int (by omega)]; omega) (by rw [n_int (by omega)]; omega)) ?_) (fun _ _ h => h)
    dsimp only [Option.toList, List.cons_append, List.nil_append]
    have hc : (bA (gup (gup H 67 11 v) 67 8 (Int32.ofNat a)) (Int32.ofNat a)).toInt = bN H a := by rw [bA_bN (by omega), bN_67 (by decide), bN_67 (by decide)]
    generalize hcd : bA (gup (gup H 67 11 v) 67 8 (Int32.ofNat a)) (Int32.ofNat a) = c at hc ⊢
    refine G_bipush (pc := 13) (v := 48) (by decide) dX12_readsNumber_13 ?_
    refine G_bipush (pc := 15) (v := 57) (by decide) dX12_readsNumber_15 ?_
    refine oX12_readsNumber_17 _ _ [.int _, .int _, .int _] [] (gup (gup H 67 11 v) 67 8 (Int32.ofNat a)) _ _ mX12_in1 mt_X12_in1 rfl (lsi (lsi (lsi ls0))) ls0 (by simp) (in1_G (fun p q => ?_) (fun p => ?_)) (fun _ _ h => h)
    · dsimp only [Option.toList, List.cons_append, List.nil_append]
      have p : (48 : Int) ≤ c.toInt := p
      have q : c.toInt ≤ (57 : Int) := q
      have hl : isDg (bN H a) = true := by rw [← hc]; exact dg_t p q
      have a2 : a < 200 := by
        by_cases e : a < 200
        · exact e
        · rw [okB_dg (okB_of hi) a (by omega)] at hl
          cases hl
      refine oX12_readsNumber_20 _ _ _ _ _ _ (fun c => absurd c (eqz (by decide))) (fun _ => ?_)
      refine G_aload_n (pc := 23) rfl dX12_readsNumber_23 ?_
      refine G_aload_n (pc := 24) rfl dX12_readsNumber_24 ?_
      refine G_getI (pc := 25) (ci := 12) (j := 8) gup_at rfl lq_RX12_130 rfl rfl dX12_readsNumber_25 ?_
      refine G_aload_n (pc := 28) rfl dX12_readsNumber_28 ?_
      refine G_getI (pc := 29) (ci := 12) (j := 9) ((gup_ne (Or.inr (by decide))).trans ((gup_ne (Or.inr (by decide))).trans h9)) rfl lq_RX12_133 rfl rfl dX12_readsNumber_29 ?_
      refine G_isub (pc := 32) (n_sub hba (by omega)) dX12_readsNumber_32 ?_
      refine G_iconst (pc := 33) (v := 4) (by decide) dX12_readsNumber_33 ?_
      refine oX12_readsNumber_34 _ _ _ _ _ _ _ (fun c34 => ?_) (fun c34 => ?_)
      · simp only [crel, ne_eq, Classical.not_not] at c34
        rw [n_int (by omega), show (4 : Int32).toInt = 4 from rfl] at c34
        refine G_aload_n (pc := 59) rfl dX12_readsNumber_59 ?_
        refine G_getI (pc := 60) (ci := 12) (j := 11) ((gup_ne (Or.inr (by decide))).trans gup_at) rfl lq_RX12_146 rfl rfl dX12_readsNumber_60 ?_
        refine G_putI (pc := 63) (ci := 12) (j := 11) rfl lq_RX12_146 rfl rfl rfl trivial dX12_readsNumber_63 ?_
        refine G_aload_n (pc := 66) rfl dX12_readsNumber_66 ?_
        refine G_dup (pc := 67) rfl dX12_readsNumber_67 ?_
        refine G_getI (pc := 68) (ci := 12) (j := 8) ((gup_ne (Or.inr (by decide))).trans gup_at) rfl lq_RX12_130 rfl rfl dX12_readsNumber_68 ?_
        refine G_iconst (pc := 71) (v := 1) (by decide) dX12_readsNumber_71 ?_
        refine G_iadd (pc := 72) n_add1 dX12_readsNumber_72 ?_
        refine G_putI (pc := 73) (ci := 12) (j := 8) rfl lq_RX12_130 rfl rfl rfl trivial dX12_readsNumber_73 ?_
        rw [gup_4]
        refine G_goto (pc := 76) (tgt := 5) (by decide) dX12_readsNumber_76 ?_
        exact ih (a + 1) v (by omega) (by omega) (by omega) hv0 (by rw [show ((a + 1 : Nat) : Int) - b = (a : Int) - b + 1 by omega]; have := pw_m (k := (a : Int) - b) (by omega); omega) (by rw [← sk_go (okB_dg (okB_of hi)) hl]; exact hs)
      · simp only [crel, ne_eq, Classical.not_not] at c34
        rw [n_int (by omega), show (4 : Int32).toInt = 4 from rfl] at c34
        refine G_bipush (pc := 37) (v := 10) (by decide) dX12_readsNumber_37 ?_
        refine G_aload_n (pc := 39) rfl dX12_readsNumber_39 ?_
        refine G_getI (pc := 40) (ci := 12) (j := 11) ((gup_ne (Or.inr (by decide))).trans gup_at) rfl lq_RX12_146 rfl rfl dX12_readsNumber_40 ?_
        refine G_imul (pc := 43) rfl dX12_readsNumber_43 ?_
        refine G_aload_n (pc := 44) rfl dX12_readsNumber_44 ?_
        refine G_aload_n (pc := 45) rfl dX12_readsNumber_45 ?_
        refine G_getI (pc := 46) (ci := 12) (j := 8) gup_at rfl lq_RX12_130 rfl rfl dX12_readsNumber_46 ?_
        refine oX12_readsNumber_49 _ _ [.int _] [.int _, .ref 67] (gup (gup H 67 11 v) 67 8 (Int32.ofNat a)) _ _ 67 12 126 mX12_byteAt rfl List.mem_cons_self mt_X12_byteAt rfl (lsi ls0) (lsi (lsr ls0)) (by simp) (byteAt_G (by rw [n_int (by omega)]; omega) (inv_at (Or.inl rfl) (inv_put hi (a_full (by decide +kernel))) (by rw [n_int (by omega)]; omega) (by rw [n_int (by omega)]; omega)) ?_) (fun _ _ h => h)
        dsimp only [Option.toList, List.cons_append, List.nil_append]
        rw [hcd]
        refine G_iadd (pc := 52) rfl dX12_readsNumber_52 ?_
        refine G_bipush (pc := 53) (v := 48) (by decide) dX12_readsNumber_53 ?_
        refine G_isub (pc := 55) rfl dX12_readsNumber_55 ?_
        refine G_goto (pc := 56) (tgt := 63) (by decide) dX12_readsNumber_56 ?_
        refine G_putI (pc := 63) (ci := 12) (j := 11) rfl lq_RX12_146 rfl rfl rfl trivial dX12_readsNumber_63 ?_
        refine G_aload_n (pc := 66) rfl dX12_readsNumber_66 ?_
        refine G_dup (pc := 67) rfl dX12_readsNumber_67 ?_
        refine G_getI (pc := 68) (ci := 12) (j := 8) ((gup_ne (Or.inr (by decide))).trans gup_at) rfl lq_RX12_130 rfl rfl dX12_readsNumber_68 ?_
        refine G_iconst (pc := 71) (v := 1) (by decide) dX12_readsNumber_71 ?_
        refine G_iadd (pc := 72) n_add1 dX12_readsNumber_72 ?_
        refine G_putI (pc := 73) (ci := 12) (j := 8) rfl lq_RX12_130 rfl rfl rfl trivial dX12_readsNumber_73 ?_
        rw [gup_4]
        refine G_goto (pc := 76) (tgt := 5) (by decide) dX12_readsNumber_76 ?_
        have hp4 := pw_s (k := (a : Int) - b) (by omega) (by omega)
        have hvs := val_s (v := v) (c := c) hv0 (by omega) p q
        exact ih (a + 1) (10 * v + c - 48) (by omega) (by omega) (by omega) (by omega) (by rw [show ((a + 1 : Nat) : Int) - b = (a : Int) - b + 1 by omega]; omega) (by rw [← sk_go (okB_dg (okB_of hi)) hl]; exact hs)
    · dsimp only [Option.toList, List.cons_append, List.nil_append]
      have p : ¬ ((48 : Int) ≤ c.toInt ∧ c.toInt ≤ (57 : Int)) := p
      have hl : isDg (bN H a) = false := by rw [← hc]; exact dg_f p
      refine oX12_readsNumber_20 _ _ _ _ _ _ (fun _ => ?_) (fun c => absurd rfl c)
      rw [sk_stop hl] at hs
      rw [← hs] at kk
      exact kk v hv0 (by have := pw_m (k := (a : Int) - b) (by omega); omega)
set_option maxRecDepth 100000 in
set_option maxHeartbeats 8000000 in
theorem readsNumber_N {H : gI} {b : Nat} (hi : aInv bT H) (h8 : H 67 8 = Int32.ofNat b) (h9 : H 67 9 = Int32.ofNat b) (hb : (b : Int) ≤ (H 67 6).toInt) (kk : ∀ v t : Int32, 0 ≤ v.toInt → v.toInt ≤ 9999 → t.toInt = (if b + 4 < sk isDg (bN H) b then 101 else 100) → Q none (SH0, RF0, gup (gup (gup H 67 11 v) 67 8 (Int32.ofNat (sk isDg (bN H) b))) 67 10 t)) : gg (d + 1) mX12_readsNumber 0 (gent 1 [.ref 67]) [] H Q := by
  have hz := ain_of hi (show bnd bT 67 6 = (0, 200) by decide +kernel)
  dsimp only at hz
  have hle := sk_le (P := isDg) rfl hb
  have hge := sk_ge (P := isDg) (B := bN H) (a := b)
  refine G_aload_n (pc := 0) rfl dX12_readsNumber_0 ?_
  refine G_iconst (pc := 1) (v := 0) (by decide) dX12_readsNumber_1 ?_
  refine G_putI (pc := 2) (ci := 12) (j := 11) rfl lq_RX12_146 rfl rfl rfl trivial dX12_readsNumber_2 ?_
  have kk2 : ∀ v : Int32, 0 ≤ v.toInt → v.toInt ≤ 9999 → gg (d + 1) mX12_readsNumber 79 [some (.ref 67)] [] (gup (gup H 67 11 v) 67 8 (Int32.ofNat (sk isDg (bN H) b))) Q := fun v hv0 hv1 => by
    refine G_aload_n (pc := 79) rfl dX12_readsNumber_79 ?_
    refine G_aload_n (pc := 80) rfl dX12_readsNumber_80 ?_
    refine G_getI (pc := 81) (ci := 12) (j := 8) gup_at rfl lq_RX12_130 rfl rfl dX12_readsNumber_81 ?_
    refine G_aload_n (pc := 84) rfl dX12_readsNumber_84 ?_
    refine G_getI (pc := 85) (ci := 12) (j := 9) ((gup_ne (Or.inr (by decide))).trans ((gup_ne (Or.inr (by decide))).trans h9)) rfl lq_RX12_133 rfl rfl dX12_readsNumber_85 ?_
    refine G_isub (pc := 88) (n_sub hge (by omega)) dX12_readsNumber_88 ?_
    refine G_iconst (pc := 89) (v := 4) (by decide) dX12_readsNumber_89 ?_
    refine oX12_readsNumber_90 _ _ _ _ _ _ _ (fun c90 => ?_) (fun c90 => ?_)
    · simp only [crel, ne_eq, Classical.not_not] at c90
      rw [n_int (by omega), show (4 : Int32).toInt = 4 from rfl] at c90
      refine G_bipush (pc := 98) (v := 100) (by decide) dX12_readsNumber_98 ?_
      refine G_putI (pc := 100) (ci := 12) (j := 10) rfl lq_RX12_139 rfl rfl rfl trivial dX12_readsNumber_100 ?_
      exact oX12_readsNumber_103 _ _ _ _ (kk v 100 hv0 hv1 (by rw [if_neg (by omega)]; rfl))
    · simp only [crel, ne_eq, Classical.not_not] at c90
      rw [n_int (by omega), show (4 : Int32).toInt = 4 from rfl] at c90
      refine G_bipush (pc := 93) (v := 101) (by decide) dX12_readsNumber_93 ?_
      refine G_goto (pc := 95) (tgt := 100) (by decide) dX12_readsNumber_95 ?_
      refine G_putI (pc := 100) (ci := 12) (j := 10) rfl lq_RX12_139 rfl rfl rfl trivial dX12_readsNumber_100 ?_
      exact oX12_readsNumber_103 _ _ _ _ (kk v 101 hv0 hv1 (by rw [if_pos (by omega)]; rfl))
  have go := rnu_loop (d := d) (Q := Q) hi h9 kk2 200 b 0 (by omega) (by omega) (Nat.le_refl _) (by decide) (by rw [Int.sub_self]; decide) rfl
  rw [gup_id ((gup_ne (Or.inr (by decide))).trans h8)] at go
  exact go
end RN
