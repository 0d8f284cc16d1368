set_option maxRecDepth 16384 in
/-! ===== the class's tokens, exact ===== -/
def wbt : List Int := [107, 101, 121, 32, 105, 114, 111, 110, 32, 115, 108, 101, 101, 118, 101, 32, 116, 104, 105, 114, 100, 32, 115, 97, 108, 116, 32, 115, 112, 97, 114, 101, 32, 116, 117, 114, 110, 32, 99, 97, 114, 114, 121, 32, 99, 104, 105, 108, 108, 32, 104, 97, 108, 116, 32, 116, 101, 101, 116, 104, 32, 115, 116, 114, 97, 119, 32, 104, 101, 97, 116, 32, 110, 117, 109, 98, 101, 114, 32, 105, 102, 32, 97, 110, 100, 32, 111, 114, 32, 110, 111, 116, 32]
set_option maxRecDepth 16384 in
theorem wb_t : (List.range 93).all (fun i => decide ((gwb.getD i 0 &&& 255).toInt = wbt.getD i 0)) = true := by decide +kernel
set_option maxRecDepth 16384 in
theorem wb_of {i : Nat} (h : i < 93) : (gwb.getD (Int32.ofNat i).toNatClampNeg 0 &&& 255).toInt = wbt.getD i 0 := by
  rw [n_clamp (by omega)]
  exact of_decide_eq_true (List.all_eq_true.mp wb_t i (List.mem_range.mpr h))
set_option maxRecDepth 16384 in
def wnN (i : Nat) : Nat := (List.range i).foldl (fun b j => if wbt.getD j 0 = 32 then b + 1 else b) 0
set_option maxRecDepth 16384 in
def bgN (i : Nat) : Nat := (List.range i).foldl (fun b j => if wbt.getD j 0 = 32 then j + 1 else b) 0
set_option maxRecDepth 16384 in
theorem wnN_s {i : Nat} : wnN (i + 1) = if wbt.getD i 0 = 32 then wnN i + 1 else wnN i := by
  unfold wnN
  rw [List.range_succ, List.foldl_append]
  rfl
set_option maxRecDepth 16384 in
theorem bgN_s {i : Nat} : bgN (i + 1) = if wbt.getD i 0 = 32 then i + 1 else bgN i := by
  unfold bgN
  rw [List.range_succ, List.foldl_append]
  rfl
set_option maxRecDepth 16384 in
theorem wn_t : (List.range 94).all (fun i => decide (bgN i ≤ i) && decide (wnN i ≤ 18) && (decide (93 ≤ i) || !decide (wbt.getD i 0 = 32) || (decide (wnN i < 18) && decide ((wordsC.getD (wnN i) []).length = i - bgN i) && (List.range (i - bgN i)).all (fun k => decide ((wordsC.getD (wnN i) []).getD k 0 = wbt.getD (bgN i + k) 0))))) = true := by decide +kernel
set_option maxRecDepth 16384 in
theorem bg_le {i : Nat} (h : i < 94) : bgN i ≤ i := by
  have k := List.all_eq_true.mp wn_t i (List.mem_range.mpr h)
  rw [Bool.and_eq_true, Bool.and_eq_true, decide_eq_true_eq, decide_eq_true_eq] at k
  exact k.1.1
set_option maxRecDepth 16384 in
theorem wn_le {i : Nat} (h : i < 94) : wnN i ≤ 18 := by
  have k := List.all_eq_true.mp wn_t i (List.mem_range.mpr h)
  rw [Bool.and_eq_true, Bool.and_eq_true, decide_eq_true_eq, decide_eq_true_eq] at k
  exact k.1.2
set_option maxRecDepth 16384 in
theorem wn_w {i : Nat} (h : i < 93) (h32 : wbt.getD i 0 = 32) : wnN i < 18 ∧ (wordsC.getD (wnN i) []).length = i - bgN i ∧ ∀ k, k < i - bgN i → (wordsC.getD (wnN i) []).getD k 0 = wbt.getD (bgN i + k) 0 := by
  have k := List.all_eq_true.mp wn_t i (List.mem_range.mpr (by omega))
  rw [Bool.and_eq_true] at k
  have k := k.2
  rw [decide_eq_true h32, decide_eq_false (by omega : ¬ 93 ≤ i)] at k
  simp only [Bool.not_true, Bool.or_false, Bool.false_or, Bool.and_eq_true, decide_eq_true_eq, List.all_eq_true, List.mem_range] at k
  exact ⟨k.1.1, k.1.2, k.2⟩
set_option maxRecDepth 16384 in
def wdQ (B : Nat → Int) (b e k : Nat) : Int := (List.range k).foldl (fun t w => if t = -1 then (if eqW B b e (wordsC.getD w []) = true then (w : Int) else t) else t) (-1)
set_option maxRecDepth 16384 in
theorem wdQ_s {B : Nat → Int} {b e k : Nat} : wdQ B b e (k + 1) = if wdQ B b e k = -1 then (if eqW B b e (wordsC.getD k []) = true then (k : Int) else wdQ B b e k) else wdQ B b e k := by
  unfold wdQ
  rw [List.range_succ, List.foldl_append]
  rfl
set_option maxRecDepth 16384 in
theorem wdQ_fix {B : Nat → Int} {b e k : Nat} (h : wdQ B b e k ≠ -1) : ∀ g, wdQ B b e (k + g) = wdQ B b e k
  | 0 => rfl
  | g + 1 => by
    rw [show k + (g + 1) = (k + g) + 1 from rfl, wdQ_s, wdQ_fix h g, if_neg h]
set_option maxRecDepth 16384 in
theorem wdQ_e {B : Nat → Int} {b e k : Nat} (hk : k ≤ 18) (h : wdQ B b e k ≠ -1) : wdQ B b e k = wdC B b e := by
  rw [← wdQ_fix h (18 - k), show k + (18 - k) = 18 by omega]
  rfl
set_option maxRecDepth 16384 in
/-- the class's tape tells B -/
def tpB (H : gI) (B : Nat → Int) : Prop := okB B ∧ (∀ j : Nat, (j : Int) < (H 55 1).toInt → (H 56 j).toInt = B j) ∧ (∀ j : Nat, (H 55 1).toInt ≤ (j : Int) → B j = -1) ∧ 0 ≤ (H 55 1).toInt ∧ (H 55 1).toInt ≤ 200 ∧ ∀ j : Nat, (j : Int) < (H 55 1).toInt → 0 ≤ B j
set_option maxRecDepth 16384 in
theorem tpB.eq {H H' : gI} {B : Nat → Int} (h : tpB H B) (h1 : H' 55 1 = H 55 1) (h2 : ∀ j, H' 56 j = H 56 j) : tpB H' B := by
  obtain ⟨a, b, c, e⟩ := h
  refine ⟨a, fun j hj => ?_, fun j hj => ?_, ?_⟩
  · rw [h1] at hj
    rw [h2]
    exact b j hj
  · rw [h1] at hj
    exact c j hj
  · rw [h1]
    exact e
set_option maxRecDepth 16384 in
theorem tpB.put {H : gI} {B : Nat → Int} {j : Nat} {v : Int32} (h : tpB H B) (hj : j ≠ 1) : tpB (gup H 55 j v) B := h.eq (gup_ne (Or.inr (fun e => hj e.symm))) (fun _ => gup_ne (Or.inl (by decide)))
set_option maxRecDepth 16384 in
theorem tpB.le {H : gI} {B : Nat → Int} (h : tpB H B) {P : Int → Bool} (hP : P (-1) = false) {a : Nat} (ha : (a : Int) ≤ (H 55 1).toInt) : (sk P B a : Int) ≤ (H 55 1).toInt := by
  obtain ⟨-, -, h3, h4, h5, -⟩ := h
  by_cases e : (sk P B a : Int) ≤ (H 55 1).toInt
  · exact e
  · have h1 := sk_in (P := P) (B := B) (a := a) (j := (H 55 1).toInt.toNat) (by omega) (by omega)
    rw [h3 _ (by omega), hP] at h1
    cases h1
set_option maxRecDepth 16384 in
theorem inv_a5 {I : gI} {v : Int32} {j : Nat} (hj : j = 3 ∨ j = 4) (h : aInv bT I) (h0 : 0 ≤ v.toInt) (h1 : v.toInt ≤ 200) : aInv bT (gup I 55 j v) := by
  refine inv_put h ?_
  rcases hj with rfl | rfl
  · rw [show bnd bT 55 3 = (0, 200) by decide +kernel]
    exact ⟨h0, h1⟩
  · rw [show bnd bT 55 4 = (0, 200) by decide +kernel]
    exact ⟨h0, h1⟩
section CT
variable {d : Nat} {Q : Option Value → gH → Prop}
set_option maxRecDepth 100000 in
set_option maxHeartbeats 8000000 in
theorem isLetter_C {I : gI} {v : Int32} (h1 : isLt v.toInt = true → Q (some (.int 1)) (SH0, RF0, I)) (h0 : isLt v.toInt = false → Q (some (.int 0)) (SH0, RF0, I)) : gg d mX5_isLetter 0 (gent 1 [.int v]) [] I Q := by
  have k1 : (97 : Int32).toInt = 97 := rfl
  have k2 : (122 : Int32).toInt = 122 := rfl
  refine G_iload_n (pc := 0) rfl dX5_isLetter_0 ?_
  refine G_bipush (pc := 1) (v := 97) (by decide) dX5_isLetter_1 ?_
  refine oX5_isLetter_3 _ _ _ _ _ _ _ (fun c3 => ?_) (fun c3 => ?_)
  · simp only [crel, ne_eq, Classical.not_not] at c3
    rw [k1] at c3
    refine G_iconst (pc := 16) (v := 0) (by decide) dX5_isLetter_16 ?_
    exact oX5_isLetter_17 _ _ _ _ _ (Or.inl rfl) (h0 (lt_f (by omega)))
  · simp only [crel, ne_eq, Classical.not_not] at c3
    rw [k1] at c3
    refine G_iload_n (pc := 6) rfl dX5_isLetter_6 ?_
    refine G_bipush (pc := 7) (v := 122) (by decide) dX5_isLetter_7 ?_
    refine oX5_isLetter_9 _ _ _ _ _ _ _ (fun c9 => ?_) (fun c9 => ?_)
    · simp only [crel, ne_eq, Classical.not_not] at c9
      rw [k2] at c9
      refine G_iconst (pc := 16) (v := 0) (by decide) dX5_isLetter_16 ?_
      exact oX5_isLetter_17 _ _ _ _ _ (Or.inl rfl) (h0 (lt_f (by omega)))
    · simp only [crel, ne_eq, Classical.not_not] at c9
      rw [k2] at c9
      refine G_iconst (pc := 12) (v := 1) (by decide) dX5_isLetter_12 ?_
      refine G_goto (pc := 13) (tgt := 17) (by decide) dX5_isLetter_13 ?_
      exact oX5_isLetter_17 _ _ _ _ _ (Or.inr rfl) (h1 (lt_t (by omega) (by omega)))
set_option maxRecDepth 100000 in
set_option maxHeartbeats 8000000 in
theorem isDigit_C {I : gI} {v : Int32} (h1 : isDg v.toInt = true → Q (some (.int 1)) (SH0, RF0, I)) (h0 : isDg v.toInt = false → Q (some (.int 0)) (SH0, RF0, I)) : gg d mX5_isDigit 0 (gent 1 [.int v]) [] I Q := by
  have k1 : (48 : Int32).toInt = 48 := rfl
  have k2 : (57 : Int32).toInt = 57 := rfl
  refine G_iload_n (pc := 0) rfl dX5_isDigit_0 ?_
  refine G_bipush (pc := 1) (v := 48) (by decide) dX5_isDigit_1 ?_
  refine oX5_isDigit_3 _ _ _ _ _ _ _ (fun c3 => ?_) (fun c3 => ?_)
  · simp only [crel, ne_eq, Classical.not_not] at c3
    rw [k1] at c3
    refine G_iconst (pc := 16) (v := 0) (by decide) dX5_isDigit_16 ?_
    exact oX5_isDigit_17 _ _ _ _ _ (Or.inl rfl) (h0 (dg_f (by omega)))
  · simp only [crel, ne_eq, Classical.not_not] at c3
    rw [k1] at c3
    refine G_iload_n (pc := 6) rfl dX5_isDigit_6 ?_
    refine G_bipush (pc := 7) (v := 57) (by decide) dX5_isDigit_7 ?_
    refine oX5_isDigit_9 _ _ _ _ _ _ _ (fun c9 => ?_) (fun c9 => ?_)
    · simp only [crel, ne_eq, Classical.not_not] at c9
      rw [k2] at c9
      refine G_iconst (pc := 16) (v := 0) (by decide) dX5_isDigit_16 ?_
      exact oX5_isDigit_17 _ _ _ _ _ (Or.inl rfl) (h0 (dg_f (by omega)))
    · simp only [crel, ne_eq, Classical.not_not] at c9
      rw [k2] at c9
      refine G_iconst (pc := 12) (v := 1) (by decide) dX5_isDigit_12 ?_
      refine G_goto (pc := 13) (tgt := 17) (by decide) dX5_isDigit_13 ?_
      exact oX5_isDigit_17 _ _ _ _ _ (Or.inr rfl) (h1 (dg_t (by omega) (by omega)))
set_option maxRecDepth 100000 in
set_option maxHeartbeats 8000000 in
theorem isMark_C {I : gI} {v : Int32} (h1 : (v.toInt = 40 ∨ v.toInt = 41 ∨ v.toInt = 59 ∨ v.toInt = 60 ∨ v.toInt = 61 ∨ v.toInt = 62) → Q (some (.int 1)) (SH0, RF0, I)) (h0 : ¬ (v.toInt = 40 ∨ v.toInt = 41 ∨ v.toInt = 59 ∨ v.toInt = 60 ∨ v.toInt = 61 ∨ v.toInt = 62) → Q (some (.int 0)) (SH0, RF0, I)) : gg d mX5_isMark 0 (gent 1 [.int v]) [] I Q := by
  refine G_iload_n (pc := 0) rfl dX5_isMark_0 ?_
  refine G_bipush (pc := 1) (v := 40) (by decide) dX5_isMark_1 ?_
  refine oX5_isMark_3 _ _ _ _ _ _ _ (fun c3 => ?_) (fun c3 => ?_)
  · simp only [crel, ne_eq, Classical.not_not] at c3
    rw [show (40 : Int32).toInt = 40 from rfl] at c3
    refine G_iconst (pc := 36) (v := 1) (by decide) dX5_isMark_36 ?_
    refine G_goto (pc := 37) (tgt := 41) (by decide) dX5_isMark_37 ?_
    exact oX5_isMark_41 _ _ _ _ _ (Or.inr rfl) (h1 (by omega))
  · simp only [crel, ne_eq, Classical.not_not] at c3
    rw [show (40 : Int32).toInt = 40 from rfl] at c3
    refine G_iload_n (pc := 6) rfl dX5_isMark_6 ?_
    refine G_bipush (pc := 7) (v := 41) (by decide) dX5_isMark_7 ?_
    refine oX5_isMark_9 _ _ _ _ _ _ _ (fun c9 => ?_) (fun c9 => ?_)
    · simp only [crel, ne_eq, Classical.not_not] at c9
      rw [show (41 : Int32).toInt = 41 from rfl] at c9
      refine G_iconst (pc := 36) (v := 1) (by decide) dX5_isMark_36 ?_
      refine G_goto (pc := 37) (tgt := 41) (by decide) dX5_isMark_37 ?_
      exact oX5_isMark_41 _ _ _ _ _ (Or.inr rfl) (h1 (by omega))
    · simp only [crel, ne_eq, Classical.not_not] at c9
      rw [show (41 : Int32).toInt = 41 from rfl] at c9
      refine G_iload_n (pc := 12) rfl dX5_isMark_12 ?_
      refine G_bipush (pc := 13) (v := 59) (by decide) dX5_isMark_13 ?_
      refine oX5_isMark_15 _ _ _ _ _ _ _ (fun c15 => ?_) (fun c15 => ?_)
      · simp only [crel, ne_eq, Classical.not_not] at c15
        rw [show (59 : Int32).toInt = 59 from rfl] at c15
        refine G_iconst (pc := 36) (v := 1) (by decide) dX5_isMark_36 ?_
        refine G_goto (pc := 37) (tgt := 41) (by decide) dX5_isMark_37 ?_
        exact oX5_isMark_41 _ _ _ _ _ (Or.inr rfl) (h1 (by omega))
      · simp only [crel, ne_eq, Classical.not_not] at c15
        rw [show (59 : Int32).toInt = 59 from rfl] at c15
        refine G_iload_n (pc := 18) rfl dX5_isMark_18 ?_
        refine G_bipush (pc := 19) (v := 60) (by decide) dX5_isMark_19 ?_
        refine oX5_isMark_21 _ _ _ _ _ _ _ (fun c21 => ?_) (fun c21 => ?_)
        · simp only [crel, ne_eq, Classical.not_not] at c21
          rw [show (60 : Int32).toInt = 60 from rfl] at c21
          refine G_iconst (pc := 36) (v := 1) (by decide) dX5_isMark_36 ?_
          refine G_goto (pc := 37) (tgt := 41) (by decide) dX5_isMark_37 ?_
          exact oX5_isMark_41 _ _ _ _ _ (Or.inr rfl) (h1 (by omega))
        · simp only [crel, ne_eq, Classical.not_not] at c21
          rw [show (60 : Int32).toInt = 60 from rfl] at c21
          refine G_iload_n (pc := 24) rfl dX5_isMark_24 ?_
          refine G_bipush (pc := 25) (v := 61) (by decide) dX5_isMark_25 ?_
          refine oX5_isMark_27 _ _ _ _ _ _ _ (fun c27 => ?_) (fun c27 => ?_)
          · simp only [crel, ne_eq, Classical.not_not] at c27
            rw [show (61 : Int32).toInt = 61 from rfl] at c27
            refine G_iconst (pc := 36) (v := 1) (by decide) dX5_isMark_36 ?_
            refine G_goto (pc := 37) (tgt := 41) (by decide) dX5_isMark_37 ?_
            exact oX5_isMark_41 _ _ _ _ _ (Or.inr rfl) (h1 (by omega))
          · simp only [crel, ne_eq, Classical.not_not] at c27
            rw [show (61 : Int32).toInt = 61 from rfl] at c27
            refine G_iload_n (pc := 30) rfl dX5_isMark_30 ?_
            refine G_bipush (pc := 31) (v := 62) (by decide) dX5_isMark_31 ?_
            refine oX5_isMark_33 _ _ _ _ _ _ _ (fun c33 => ?_) (fun c33 => ?_)
            · simp only [crel, ne_eq, Classical.not_not] at c33
              rw [show (62 : Int32).toInt = 62 from rfl] at c33
              refine G_iconst (pc := 40) (v := 0) (by decide) dX5_isMark_40 ?_
              exact oX5_isMark_41 _ _ _ _ _ (Or.inl rfl) (h0 (by omega))
            · simp only [crel, ne_eq, Classical.not_not] at c33
              rw [show (62 : Int32).toInt = 62 from rfl] at c33
              refine G_iconst (pc := 36) (v := 1) (by decide) dX5_isMark_36 ?_
              refine G_goto (pc := 37) (tgt := 41) (by decide) dX5_isMark_37 ?_
              exact oX5_isMark_41 _ _ _ _ _ (Or.inr rfl) (h1 (by omega))
set_option maxRecDepth 100000 in
set_option maxHeartbeats 8000000 in
theorem isNamedC_loop {I : gI} {B : Nat → Int} {bg ln b : Nat} (hb : bg + ln ≤ 93) (hp : b + ln ≤ 200) (h4 : I 55 4 = Int32.ofNat b) (hB : ∀ k, k < ln → (I 56 (b + k)).toInt = B (b + k)) (h1 : (∀ k, k < ln → B (b + k) = wbt.getD (bg + k) 0) → Q (some (.int 1)) (SH0, RF0, I)) (h0 : (∃ k, k < ln ∧ B (b + k) ≠ wbt.getD (bg + k) 0) → Q (some (.int 0)) (SH0, RF0, I)) : ∀ g k : Nat, k + g = ln → (∀ q, q < k → B (b + q) = wbt.getD (bg + q) 0) → gg (d + 4) mX5_isNamed 17 [some (.ref 55), some (.int (Int32.ofNat bg)), some (.int (Int32.ofNat ln)), some (.int (Int32.ofNat k))] [] I Q
  | 0, k, hk, hq => by
    have e : k = ln := by omega
    subst e
    refine G_iload_n (pc := 17) rfl dX5_isNamed_17 ?_
    refine G_iload_n (pc := 18) rfl dX5_isNamed_18 ?_
    refine G_icmp_ge (pc := 19) (tgt := 52) (by decide) dX5_isNamed_19 (fun _ => ?_) (fun c => absurd (Int32.le_refl _) c)
    refine G_iconst (pc := 52) (v := 1) (by decide) dX5_isNamed_52 ?_
    exact G_zret (pc := 53) (Nat.le_refl _) (Nat.le_refl _) rfl (by decide) dX5_isNamed_53 (h1 hq)
  | g + 1, k, hk, hq => by
    have hk1 : k < ln := by omega
    have e2 := hB k hk1
    have e3 := wb_of (i := bg + k) (by omega)
    refine G_iload_n (pc := 17) rfl dX5_isNamed_17 ?_
    refine G_iload_n (pc := 18) rfl dX5_isNamed_18 ?_
    refine G_icmp_ge (pc := 19) (tgt := 52) (by decide) dX5_isNamed_19 (fun c => absurd c (by rw [Int32.le_iff_toInt_le, n_int (by omega), n_int (by omega)]; omega)) (fun _ => ?_)
    refine G_aload_n (pc := 22) rfl dX5_isNamed_22 ?_
    refine G_getR (pc := 23) (ci := 5) (j := 0) rfl lq_RX5_9 rfl rfl rfl dX5_isNamed_23 ?_
    refine G_aload_n (pc := 26) rfl dX5_isNamed_26 ?_
    refine G_getI (pc := 27) (ci := 5) (j := 4) h4 rfl lq_RX5_52 rfl rfl dX5_isNamed_27 ?_
    refine G_iload_n (pc := 30) rfl dX5_isNamed_30 ?_
    refine G_iadd (pc := 31) n_add dX5_isNamed_31 ?_
    refine G_iald (pc := 32) (n_clamp (show b + k < 1000 by omega)) rfl rfl (n_in (show b + k < 1000 by omega) (show b + k < 200 by omega)) dX5_isNamed_32 ?_
    refine G_wat2 (pc := 33) (z := Int32.ofNat (bg + k)) rfl dX5_isNamed_33 dX5_isNamed_35 dX5_isNamed_36 dX5_isNamed_37 dX5_isNamed_38 rfl rfl n_add (n_in (show bg + k < 1000 by omega) (by omega)) (Nat.le_refl _) (Nat.le_refl _) (by simp [Value.category]) ?_
    refine G_icmp_eq (pc := 41) (tgt := 46) (by decide) dX5_isNamed_41 (fun c => ?_) (fun c => ?_)
    · refine G_iinc (pc := 46) (v := Int32.ofNat 1) n_add rfl rfl (by decide) rfl (by decide) dX5_isNamed_46 ?_
      refine G_goto (pc := 49) (tgt := 17) (by decide) dX5_isNamed_49 ?_
      exact isNamedC_loop hb hp h4 hB h1 h0 g (k + 1) (by omega) (fun q hq1 => by
        by_cases e1 : q = k
        · rw [e1, ← e2, ← e3, c]
        · exact hq q (by omega))
    · refine G_iconst (pc := 44) (v := 0) (by decide) dX5_isNamed_44 ?_
      exact G_zret (pc := 45) (Nat.le_refl _) (Nat.le_refl _) rfl (by decide) dX5_isNamed_45 (h0 ⟨k, hk1, fun z => c (Int32.toInt_inj.mp (by rw [e2, e3, z]))⟩)
set_option maxRecDepth 100000 in
set_option maxHeartbeats 8000000 in
theorem isNamed_C {I : gI} {B : Nat → Int} {bg ln b e : Nat} (hb : bg + ln ≤ 93) (h3 : I 55 3 = Int32.ofNat e) (h4 : I 55 4 = Int32.ofNat b) (hbe : b ≤ e) (he : e ≤ 200) (hB : ∀ j, j < e → (I 56 j).toInt = B j) (h1 : (e = b + ln ∧ ∀ k, k < ln → B (b + k) = wbt.getD (bg + k) 0) → Q (some (.int 1)) (SH0, RF0, I)) (h0 : ¬ (e = b + ln ∧ ∀ k, k < ln → B (b + k) = wbt.getD (bg + k) 0) → Q (some (.int 0)) (SH0, RF0, I)) : gg (d + 4) mX5_isNamed 0 (gent 4 [.ref 55, .int (Int32.ofNat bg), .int (Int32.ofNat ln)]) [] I Q := by
  refine G_aload_n (pc := 0) rfl dX5_isNamed_0 ?_
  refine G_getI (pc := 1) (ci := 5) (j := 3) h3 rfl lq_RX5_58 rfl rfl dX5_isNamed_1 ?_
  refine G_aload_n (pc := 4) rfl dX5_isNamed_4 ?_
  refine G_getI (pc := 5) (ci := 5) (j := 4) h4 rfl lq_RX5_52 rfl rfl dX5_isNamed_5 ?_
  refine G_isub (pc := 8) (n_sub hbe (by omega)) dX5_isNamed_8 ?_
  refine G_iload_n (pc := 9) rfl dX5_isNamed_9 ?_
  refine G_icmp_eq (pc := 10) (tgt := 15) (by decide) dX5_isNamed_10 (fun c => ?_) (fun c => ?_)
  · have hl : e = b + ln := by
      have h := congrArg Int32.toInt c
      rw [n_int (by omega), n_int (by omega)] at h
      omega
    refine G_iconst (pc := 15) (v := Int32.ofNat 0) (by decide) dX5_isNamed_15 ?_
    refine G_istore_n (pc := 16) rfl rfl (by decide) dX5_isNamed_16 ?_
    exact isNamedC_loop hb (by omega) h4 (fun k hk => hB _ (by omega)) (fun h => h1 ⟨hl, h⟩) (fun ⟨k, hk, hn⟩ => h0 (fun z => hn (z.2 k hk))) ln 0 (by omega) (fun q hq => by omega)
  · refine G_iconst (pc := 13) (v := 0) (by decide) dX5_isNamed_13 ?_
    exact G_zret (pc := 14) (Nat.le_refl _) (Nat.le_refl _) rfl (by decide) dX5_isNamed_14 (h0 (fun z => c (by rw [show e - b = ln by omega])))
set_option maxRecDepth 16384 in
theorem eqW_n {B : Nat → Int} {b e i : Nat} (hi : i < 93) (h32 : wbt.getD i 0 = 32) : (eqW B b e (wordsC.getD (wnN i) []) = true) ↔ (e = b + (i - bgN i) ∧ ∀ k, k < i - bgN i → B (b + k) = wbt.getD (bgN i + k) 0) := by
  obtain ⟨-, k2, k3⟩ := wn_w hi h32
  unfold eqW
  rw [k2]
  simp only [Bool.and_eq_true, decide_eq_true_eq, List.all_eq_true, List.mem_range]
  constructor
  · rintro ⟨h1, h2⟩
    exact ⟨h1, fun k hk => by rw [← k3 k hk]; exact h2 k hk⟩
  · rintro ⟨h1, h2⟩
    exact ⟨h1, fun k hk => by rw [k3 k hk]; exact h2 k hk⟩
set_option maxRecDepth 100000 in
set_option maxHeartbeats 8000000 in
theorem nn_words {H : gI} {B : Nat → Int} {e b : Nat} (h3 : H 55 3 = Int32.ofNat e) (h4 : H 55 4 = Int32.ofNat b) (hbe : b ≤ e) (he : e ≤ 200) (hB : ∀ j, j < e → (H 56 j).toInt = B j) (kk : ∀ t : Int32, t.toInt = wdC B b e → Q none (SH0, RF0, gup H 55 5 t)) : ∀ (g i : Nat) (t : Int32), i + g = 93 → t.toInt = wdQ B b e (wnN i) → gg (d + 5) mX5_nextName 50 [some (.ref 55), some (.int (Int32.ofNat (wnN i))), some (.int (Int32.ofNat (bgN i))), some (.int (Int32.ofNat (i)))] [] (gup H 55 5 t) Q
  | 0, i, t, hg, ht => by
    have e1 : i = 93 := by omega
    subst e1
    refine G_iload_n (pc := 50) rfl dX5_nextName_50 ?_
    refine G_wlen (pc := 51) rfl dX5_nextName_51 dX5_nextName_53 (Nat.le_refl _) (Nat.le_refl _) (by simp [Value.category]) ?_
    refine G_icmp_ge (pc := 56) (tgt := 107) (by decide) dX5_nextName_56 (fun _ => ?_) (fun c => absurd (by decide) c)
    exact G_vret (pc := 107) (Nat.le_refl _) (Nat.le_refl _) rfl dX5_nextName_107 (kk t (by rw [ht, show wnN 93 = 18 by decide +kernel]; rfl))
  | g + 1, i, t, hg, ht => by
    have hi93 : i < 93 := by omega
    have hbg := bg_le (i := i) (by omega)
    have hwn := wn_le (i := i) (by omega)
    have e3 := wb_of hi93
    refine G_iload_n (pc := 50) rfl dX5_nextName_50 ?_
    refine G_wlen (pc := 51) rfl dX5_nextName_51 dX5_nextName_53 (Nat.le_refl _) (Nat.le_refl _) (by simp [Value.category]) ?_
    refine G_icmp_ge (pc := 56) (tgt := 107) (by decide) dX5_nextName_56 (fun c => absurd c (by rw [Int32.le_iff_toInt_le, n_int (by omega)]; show ¬ ((93 : Int) ≤ _); omega)) (fun _ => ?_)
    refine G_aload_n (pc := 59) rfl dX5_nextName_59 ?_
    refine G_getI (pc := 60) (ci := 5) (j := 5) gup_at rfl lq_RX5_42 rfl rfl dX5_nextName_60 ?_
    refine G_iconst (pc := 63) (v := (-1)) (by decide) dX5_nextName_63 ?_
    refine G_icmp_ne (pc := 64) (tgt := 107) (by decide) dX5_nextName_64 (fun c => ?_) (fun c => ?_)
    · exact G_vret (pc := 107) (Nat.le_refl _) (Nat.le_refl _) rfl dX5_nextName_107 (kk t (by rw [ht]; exact wdQ_e hwn (fun z => c (Int32.toInt_inj.mp (by rw [ht, z]; rfl)))))
    have hm1 : wdQ B b e (wnN i) = -1 := by rw [← ht, c]; rfl
    refine G_wat1 (pc := 67) rfl dX5_nextName_67 dX5_nextName_69 dX5_nextName_70 rfl (n_in (show i < 1000 by omega) hi93) (Nat.le_refl _) (Nat.le_refl _) (by simp [Value.category]) ?_
    have tail : ∀ (t' : Int32), t'.toInt = wdQ B b e (wnN (i + 1)) → gg (d + 5) mX5_nextName 101 [some (.ref 55), some (.int (Int32.ofNat (wnN (i + 1)))), some (.int (Int32.ofNat (bgN (i + 1)))), some (.int (Int32.ofNat (i)))] [] (gup H 55 5 t') Q := by
      intro t' h1
      refine G_iinc (pc := 101) (v := Int32.ofNat 1) n_add rfl rfl (by decide) rfl (by decide) dX5_nextName_101 ?_
      refine G_goto (pc := 104) (tgt := 50) (by decide) dX5_nextName_104 ?_
      exact nn_words h3 h4 hbe he hB kk g (i + 1) t' (by omega) h1
    refine G_bipush (pc := 73) (v := 32) (by decide) dX5_nextName_73 ?_
    refine G_icmp_ne (pc := 75) (tgt := 101) (by decide) dX5_nextName_75 (fun c2 => ?_) (fun c2 => ?_)
    · have h32 : wbt.getD i 0 ≠ 32 := fun z => c2 (Int32.toInt_inj.mp (by rw [e3, z]; rfl))
      have t1 := tail t (by rw [wnN_s, if_neg h32]; exact ht)
      rw [wnN_s, bgN_s, if_neg h32, if_neg h32] at t1
      exact t1
    have h32 : wbt.getD i 0 = 32 := by rw [← e3, c2]; rfl
    have hlt := (wn_w hi93 h32).1
    rw [wnN_s, bgN_s, if_pos h32, if_pos h32] at tail
    refine G_aload_n (pc := 78) rfl dX5_nextName_78 ?_
    refine G_iload_n (pc := 79) rfl dX5_nextName_79 ?_
    refine G_iload_n (pc := 80) rfl dX5_nextName_80 ?_
    refine G_iload_n (pc := 81) rfl dX5_nextName_81 ?_
    refine G_isub (pc := 82) (n_sub (by omega) (by omega)) dX5_nextName_82 ?_
    have adv : ∀ (t' : Int32), t'.toInt = wdQ B b e (wnN i + 1) → gg (d + 5) mX5_nextName 94 [some (.ref 55), some (.int (Int32.ofNat (wnN i))), some (.int (Int32.ofNat (bgN i))), some (.int (Int32.ofNat (i)))] [] (gup H 55 5 t') Q := by
      intro t' h2
      refine G_iinc (pc := 94) (v := Int32.ofNat 1) n_add rfl rfl (by decide) rfl (by decide) dX5_nextName_94 ?_
      refine G_iload_n (pc := 97) rfl dX5_nextName_97 ?_
      refine G_iconst (pc := 98) (v := Int32.ofNat 1) (by decide) dX5_nextName_98 ?_
      refine G_iadd (pc := 99) n_add dX5_nextName_99 ?_
      refine G_istore_n (pc := 100) rfl rfl (by decide) dX5_nextName_100 ?_
      exact tail t' h2
    refine G_callV (pc := 83) (d := d + 4) (mc1 := 0) (ms1 := 0) (mj := mX5_isNamed) (vs := [.int (Int32.ofNat (bgN i)), .int (Int32.ofNat (i - bgN i))]) (S := []) (Q1 := fun r h => ((r = some (.int 1) ∧ eqW B b e (wordsC.getD (wnN i) []) = true) ∨ (r = some (.int 0) ∧ ¬ eqW B b e (wordsC.getD (wnN i) []) = true)) ∧ h = (SH0, RF0, gup H 55 5 t)) (C := RX5) (T := TX5) (N := 15) (ci := 5) (x := 55) dX5_nextName_83 rfl rfl cmn_isNamed wn_link wn_inst wn_sel rfl (by simp) (by simp [gen, Value.category]) (Nat.le_refl _) (Nat.le_refl _) (isNamed_C (B := B) (b := b) (e := e) (by omega) ((gup_ne (Or.inr (by decide))).trans h3) ((gup_ne (Or.inr (by decide))).trans h4) hbe he (fun j hj => by rw [gup_ne (Or.inl (by decide))]; exact hB j hj) (fun hy => ⟨Or.inl ⟨rfl, (eqW_n hi93 h32).mpr hy⟩, rfl⟩) (fun hn => ⟨Or.inr ⟨rfl, fun z => hn ((eqW_n hi93 h32).mp z)⟩, rfl⟩)) ?_
    rintro _ _ ⟨⟨rfl, hy⟩ | ⟨rfl, hn⟩, rfl⟩
    · dsimp only [Option.toList, List.cons_append, List.nil_append]
      refine G_if_eq (pc := 86) (tgt := 94) (by decide) dX5_nextName_86 (fun z => absurd z (by decide)) (fun _ => ?_)
      refine G_aload_n (pc := 89) rfl dX5_nextName_89 ?_
      refine G_iload_n (pc := 90) rfl dX5_nextName_90 ?_
      refine G_putI (pc := 91) (ci := 5) (j := 5) rfl lq_RX5_42 rfl rfl rfl trivial dX5_nextName_91 ?_
      rw [gup_up]
      exact adv _ (by rw [wdQ_s, if_pos hm1, if_pos hy, n_int (by omega)])
    · dsimp only [Option.toList, List.cons_append, List.nil_append]
      refine G_if_eq (pc := 86) (tgt := 94) (by decide) dX5_nextName_86 (fun _ => ?_) (fun z => absurd rfl z)
      exact adv t (by rw [wdQ_s, if_pos hm1, if_neg hn]; exact ht)
set_option maxRecDepth 100000 in
set_option maxHeartbeats 8000000 in
theorem nn_skip {H : gI} {B : Nat → Int} {a0 : Nat} (hT : tpB H B) (kk : gg (d + 5) mX5_nextName 39 [some (.ref 55), none, none, none] [] (gup H 55 3 (Int32.ofNat (sk isLt B a0))) Q) : ∀ (g a : Nat), 200 ≤ a + g → (a : Int) ≤ (H 55 1).toInt → sk isLt B a = sk isLt B a0 → gg (d + 5) mX5_nextName 0 [some (.ref 55), none, none, none] [] (gup H 55 3 (Int32.ofNat (a))) Q := by
  obtain ⟨okI, hB, hE, hz0, hz1, hP⟩ := hT
  have out : ∀ a, isLt (B a) = false → sk isLt B a = sk isLt B a0 → gg (d + 5) mX5_nextName 39 [some (.ref 55), none, none, none] [] (gup H 55 3 (Int32.ofNat (a))) Q := fun a hl hs => by
    rw [sk_stop hl] at hs
    rw [← hs] at kk
    exact kk
  intro g
  induction g with
  | zero =>
    intro a hg ha hs
    refine G_aload_n (pc := 0) rfl dX5_nextName_0 ?_
    refine G_getI (pc := 1) (ci := 5) (j := 3) gup_at rfl lq_RX5_58 rfl rfl dX5_nextName_1 ?_
    refine G_aload_n (pc := 4) rfl dX5_nextName_4 ?_
    refine G_getI (pc := 5) (ci := 5) (j := 1) (gup_ne (Or.inr (by decide))) rfl lq_RX5_32 rfl rfl dX5_nextName_5 ?_
    refine G_icmp_ge (pc := 8) (tgt := 39) (by decide) dX5_nextName_8 (fun c => ?_) (fun c => absurd (by rw [Int32.le_iff_toInt_le, n_int (by omega)]; omega) c)
    exact out a (by rw [hE a (by omega)]; rfl) hs
  | succ g ih =>
    intro a hg ha hs
    refine G_aload_n (pc := 0) rfl dX5_nextName_0 ?_
    refine G_getI (pc := 1) (ci := 5) (j := 3) gup_at rfl lq_RX5_58 rfl rfl dX5_nextName_1 ?_
    refine G_aload_n (pc := 4) rfl dX5_nextName_4 ?_
    refine G_getI (pc := 5) (ci := 5) (j := 1) (gup_ne (Or.inr (by decide))) rfl lq_RX5_32 rfl rfl dX5_nextName_5 ?_
    refine G_icmp_ge (pc := 8) (tgt := 39) (by decide) dX5_nextName_8 (fun c => ?_) (fun c => ?_)
    · rw [Int32.le_iff_toInt_le, n_int (by omega)] at c
      exact out a (by rw [hE a (by omega)]; rfl) hs
    rw [Int32.le_iff_toInt_le, n_int (by omega)] at c
    have hb := hB a (by omega)
    refine G_aload_n (pc := 11) rfl dX5_nextName_11 ?_
    refine G_getR (pc := 12) (ci := 5) (j := 0) rfl lq_RX5_9 rfl rfl rfl dX5_nextName_12 ?_
    refine G_aload_n (pc := 15) rfl dX5_nextName_15 ?_
    refine G_getI (pc := 16) (ci := 5) (j := 3) gup_at rfl lq_RX5_58 rfl rfl dX5_nextName_16 ?_
    refine G_iald (pc := 19) (n_clamp (show a < 1000 by omega)) (gup_ne (Or.inl (by decide))) rfl (n_in (show a < 1000 by omega) (show a < 200 by omega)) dX5_nextName_19 ?_
    refine oX5_nextName_20 (d + 4) _ [.int _] [] (gup H 55 3 (Int32.ofNat (a))) _ _ mX5_isLetter mt_X5_isLetter rfl (lsi ls0) ls0 (by simp) (isLetter_C (fun hl => ?_) (fun hl => ?_)) (fun _ _ h => h)
    · rw [hb] at hl
      dsimp only [Option.toList, List.cons_append, List.nil_append]
      refine G_if_eq (pc := 23) (tgt := 39) (by decide) dX5_nextName_23 (fun z => absurd z (by decide)) (fun _ => ?_)
      refine G_aload_n (pc := 26) rfl dX5_nextName_26 ?_
      refine G_dup (pc := 27) rfl dX5_nextName_27 ?_
      refine G_getI (pc := 28) (ci := 5) (j := 3) gup_at rfl lq_RX5_58 rfl rfl dX5_nextName_28 ?_
      refine G_iconst (pc := 31) (v := 1) (by decide) dX5_nextName_31 ?_
      refine G_iadd (pc := 32) n_add1 dX5_nextName_32 ?_
      refine G_putI (pc := 33) (ci := 5) (j := 3) rfl lq_RX5_58 rfl rfl rfl trivial dX5_nextName_33 ?_
      rw [gup_up]
      refine G_goto (pc := 36) (tgt := 0) (by decide) dX5_nextName_36 ?_
      exact ih (a + 1) (by omega) (by omega) (by rw [← sk_go (okB_lt okI) hl]; exact hs)
    · rw [hb] at hl
      dsimp only [Option.toList, List.cons_append, List.nil_append]
      refine G_if_eq (pc := 23) (tgt := 39) (by decide) dX5_nextName_23 (fun _ => ?_) (fun z => absurd rfl z)
      exact out a hl hs
set_option maxRecDepth 100000 in
set_option maxHeartbeats 8000000 in
theorem nextName_C {H : gI} {B : Nat → Int} {b : Nat} (hT : tpB H B) (h3 : H 55 3 = Int32.ofNat b) (h4 : H 55 4 = Int32.ofNat b) (hb : (b : Int) ≤ (H 55 1).toInt) (kk : ∀ t : Int32, t.toInt = wdC B b (sk isLt B b) → Q none (SH0, RF0, gup (gup H 55 3 (Int32.ofNat (sk isLt B b))) 55 5 t)) : gg (d + 5) mX5_nextName 0 (gent 4 [.ref 55]) [] H Q := by
  have hle := hT.le (P := isLt) rfl hb
  have hge := sk_ge (P := isLt) (B := B) (a := b)
  have hT2 := hT
  obtain ⟨okI, hB, hE, hz0, hz1, hP⟩ := hT2
  have go := nn_skip (d := d) (Q := Q) (a0 := b) hT (by
    refine G_aload_n (pc := 39) rfl dX5_nextName_39 ?_
    refine G_iconst (pc := 40) (v := -1) (by decide) dX5_nextName_40 ?_
    refine G_putI (pc := 41) (ci := 5) (j := 5) rfl lq_RX5_42 rfl rfl rfl trivial dX5_nextName_41 ?_
    refine G_iconst (pc := 44) (v := Int32.ofNat 0) (by decide) dX5_nextName_44 ?_
    refine G_istore_n (pc := 45) rfl rfl (by decide) dX5_nextName_45 ?_
    refine G_iconst (pc := 46) (v := Int32.ofNat 0) (by decide) dX5_nextName_46 ?_
    refine G_istore_n (pc := 47) rfl rfl (by decide) dX5_nextName_47 ?_
    refine G_iconst (pc := 48) (v := Int32.ofNat 0) (by decide) dX5_nextName_48 ?_
    refine G_istore_n (pc := 49) rfl rfl (by decide) dX5_nextName_49 ?_
    exact nn_words (H := (gup H 55 3 (Int32.ofNat (sk isLt B b)))) (B := B) (e := sk isLt B b) (b := b) gup_at ((gup_ne (Or.inr (by decide))).trans h4) hge (by omega) (fun j hj => by rw [gup_ne (Or.inl (by decide))]; exact hB j (by omega)) kk 93 0 (-1) rfl rfl) 200 b (by omega) (by omega) rfl
  rw [gup_id h3] at go
  exact go
set_option maxRecDepth 16384 in
theorem gup_5 {H : gI} {v w x y : Int32} : gup (gup (gup (gup H 55 6 v) 55 3 x) 55 6 w) 55 3 y = gup (gup H 55 6 w) 55 3 y := by
  rw [gup_cm (I := gup H 55 6 v) (j := 3) (k := 6) (by decide), gup_up, gup_up]
set_option maxRecDepth 100000 in
set_option maxHeartbeats 8000000 in
theorem nu_loop {H : gI} {B : Nat → Int} {b : Nat} (hT : tpB H B) (kk : ∀ v : Int32, gg (d + 1) mX5_nextNumber 68 [some (.ref 55)] [] (gup (gup H 55 6 v) 55 3 (Int32.ofNat (sk isDg B b))) Q) : ∀ (g a : Nat) (v : Int32), 200 ≤ a + g → (a : Int) ≤ (H 55 1).toInt → sk isDg B a = sk isDg B b → gg (d + 1) mX5_nextNumber 5 [some (.ref 55)] [] (gup (gup H 55 6 v) 55 3 (Int32.ofNat (a))) Q := by
  obtain ⟨okI, hB, hE, hz0, hz1, hP⟩ := hT
  have out : ∀ a v, isDg (B a) = false → sk isDg B a = sk isDg B b → gg (d + 1) mX5_nextNumber 68 [some (.ref 55)] [] (gup (gup H 55 6 v) 55 3 (Int32.ofNat (a))) Q := fun a v hl hs => by
    rw [sk_stop hl] at hs
    have k := kk v
    rw [← hs] at k
    exact k
  intro g
  induction g with
  | zero =>
    intro a v hg ha hs
    refine G_aload_n (pc := 5) rfl dX5_nextNumber_5 ?_
    refine G_getI (pc := 6) (ci := 5) (j := 3) gup_at rfl lq_RX5_58 rfl rfl dX5_nextNumber_6 ?_
    refine G_aload_n (pc := 9) rfl dX5_nextNumber_9 ?_
    refine G_getI (pc := 10) (ci := 5) (j := 1) ((gup_ne (Or.inr (by decide))).trans (gup_ne (Or.inr (by decide)))) rfl lq_RX5_32 rfl rfl dX5_nextNumber_10 ?_
    refine oX5_nextNumber_13 _ _ _ _ _ _ _ (fun c13 => ?_) (fun c13 => absurd (by show _ ≤ _; rw [n_int (by omega)]; omega) c13)
    have hl : isDg (B a) = false := by rw [hE a (by omega)]; rfl
    exact out a v hl hs
  | succ g ih =>
    intro a v hg ha hs
    refine G_aload_n (pc := 5) rfl dX5_nextNumber_5 ?_
    refine G_getI (pc := 6) (ci := 5) (j := 3) gup_at rfl lq_RX5_58 rfl rfl dX5_nextNumber_6 ?_
    refine G_aload_n (pc := 9) rfl dX5_nextNumber_9 ?_
    refine G_getI (pc := 10) (ci := 5) (j := 1) ((gup_ne (Or.inr (by decide))).trans (gup_ne (Or.inr (by decide)))) rfl lq_RX5_32 rfl rfl dX5_nextNumber_10 ?_
    refine oX5_nextNumber_13 _ _ _ _ _ _ _ (fun c13 => ?_) (fun c13 => ?_)
    · simp only [crel, ne_eq, Classical.not_not] at c13
      rw [n_int (by omega)] at c13
      have hl : isDg (B a) = false := by rw [hE a (by omega)]; rfl
      exact out a v hl hs
    · simp only [crel, ne_eq, Classical.not_not] at c13
      rw [n_int (by omega)] at c13
      have hb := hB a (by omega)
      refine G_aload_n (pc := 16) rfl dX5_nextNumber_16 ?_
      refine G_getR (pc := 17) (ci := 5) (j := 0) rfl lq_RX5_9 rfl rfl rfl dX5_nextNumber_17 ?_
      refine G_aload_n (pc := 20) rfl dX5_nextNumber_20 ?_
      refine G_getI (pc := 21) (ci := 5) (j := 3) gup_at rfl lq_RX5_58 rfl rfl dX5_nextNumber_21 ?_
      refine G_iald (pc := 24) (n_clamp (show a < 1000 by omega)) ((gup_ne (Or.inl (by decide))).trans (gup_ne (Or.inl (by decide)))) rfl (n_in (show a < 1000 by omega) (show a < 200 by omega)) dX5_nextNumber_24 ?_
      refine oX5_nextNumber_25 d _ [.int _] [] (gup (gup H 55 6 v) 55 3 (Int32.ofNat (a))) _ _ mX5_isDigit mt_X5_isDigit rfl (lsi ls0) ls0 (by simp) (isDigit_C (fun hl => ?_) (fun hl => ?_)) (fun _ _ h => h)
      · dsimp only [Option.toList, List.cons_append, List.nil_append]
        rw [hb] at hl
        refine oX5_nextNumber_28 _ _ _ _ _ _ (fun c => absurd c (eqz (by decide))) (fun _ => ?_)
        refine G_aload_n (pc := 31) rfl dX5_nextNumber_31 ?_
        refine G_aload_n (pc := 32) rfl dX5_nextNumber_32 ?_
        refine G_getI (pc := 33) (ci := 5) (j := 6) ((gup_ne (Or.inr (by decide))).trans gup_at) rfl lq_RX5_93 rfl rfl dX5_nextNumber_33 ?_
        refine G_bipush (pc := 36) (v := 10) (by decide) dX5_nextNumber_36 ?_
        refine G_imul (pc := 38) rfl dX5_nextNumber_38 ?_
        refine G_aload_n (pc := 39) rfl dX5_nextNumber_39 ?_
        refine G_getR (pc := 40) (ci := 5) (j := 0) rfl lq_RX5_9 rfl rfl rfl dX5_nextNumber_40 ?_
        refine G_aload_n (pc := 43) rfl dX5_nextNumber_43 ?_
        refine G_getI (pc := 44) (ci := 5) (j := 3) gup_at rfl lq_RX5_58 rfl rfl dX5_nextNumber_44 ?_
        refine G_iald (pc := 47) (n_clamp (show a < 1000 by omega)) ((gup_ne (Or.inl (by decide))).trans (gup_ne (Or.inl (by decide)))) rfl (n_in (show a < 1000 by omega) (show a < 200 by omega)) dX5_nextNumber_47 ?_
        refine G_iadd (pc := 48) rfl dX5_nextNumber_48 ?_
        refine G_bipush (pc := 49) (v := 48) (by decide) dX5_nextNumber_49 ?_
        refine G_isub (pc := 51) rfl dX5_nextNumber_51 ?_
        refine G_putI (pc := 52) (ci := 5) (j := 6) rfl lq_RX5_93 rfl rfl rfl trivial dX5_nextNumber_52 ?_
        refine G_aload_n (pc := 55) rfl dX5_nextNumber_55 ?_
        refine G_dup (pc := 56) rfl dX5_nextNumber_56 ?_
        refine G_getI (pc := 57) (ci := 5) (j := 3) ((gup_ne (Or.inr (by decide))).trans gup_at) rfl lq_RX5_58 rfl rfl dX5_nextNumber_57 ?_
        refine G_iconst (pc := 60) (v := 1) (by decide) dX5_nextNumber_60 ?_
        refine G_iadd (pc := 61) n_add1 dX5_nextNumber_61 ?_
        refine G_putI (pc := 62) (ci := 5) (j := 3) rfl lq_RX5_58 rfl rfl rfl trivial dX5_nextNumber_62 ?_
        rw [gup_5]
        refine G_goto (pc := 65) (tgt := 5) (by decide) dX5_nextNumber_65 ?_
        exact ih (a + 1) _ (by omega) (by omega) (by rw [← sk_go (okB_dg okI) hl]; exact hs)
      · dsimp only [Option.toList, List.cons_append, List.nil_append]
        rw [hb] at hl
        refine oX5_nextNumber_28 _ _ _ _ _ _ (fun _ => ?_) (fun c => absurd rfl c)
        exact out a v hl hs
set_option maxRecDepth 100000 in
set_option maxHeartbeats 8000000 in
theorem nextNumber_C {H : gI} {B : Nat → Int} {b : Nat} (hT : tpB H B) (h3 : H 55 3 = Int32.ofNat b) (h4 : H 55 4 = Int32.ofNat b) (hb : (b : Int) ≤ (H 55 1).toInt) (kk : ∀ v t : Int32, t.toInt = (if b + 4 < sk isDg B b then -1 else 18) → Q none (SH0, RF0, gup (gup (gup H 55 6 v) 55 3 (Int32.ofNat (sk isDg B b))) 55 5 t)) : gg (d + 1) mX5_nextNumber 0 (gent 1 [.ref 55]) [] H Q := by
  have hle := hT.le (P := isDg) rfl hb
  have hge := sk_ge (P := isDg) (B := B) (a := b)
  have hz := hT.2.2.2
  refine G_aload_n (pc := 0) rfl dX5_nextNumber_0 ?_
  refine G_iconst (pc := 1) (v := 0) (by decide) dX5_nextNumber_1 ?_
  refine G_putI (pc := 2) (ci := 5) (j := 6) rfl lq_RX5_93 rfl rfl rfl trivial dX5_nextNumber_2 ?_
  have kk2 : ∀ v : Int32, gg (d + 1) mX5_nextNumber 68 [some (.ref 55)] [] (gup (gup H 55 6 v) 55 3 (Int32.ofNat (sk isDg B b))) Q := fun v => by
    refine G_aload_n (pc := 68) rfl dX5_nextNumber_68 ?_
    refine G_aload_n (pc := 69) rfl dX5_nextNumber_69 ?_
    refine G_getI (pc := 70) (ci := 5) (j := 3) gup_at rfl lq_RX5_58 rfl rfl dX5_nextNumber_70 ?_
    refine G_aload_n (pc := 73) rfl dX5_nextNumber_73 ?_
    refine G_getI (pc := 74) (ci := 5) (j := 4) ((gup_ne (Or.inr (by decide))).trans ((gup_ne (Or.inr (by decide))).trans h4)) rfl lq_RX5_52 rfl rfl dX5_nextNumber_74 ?_
    refine G_isub (pc := 77) (n_sub hge (by omega)) dX5_nextNumber_77 ?_
    refine G_iconst (pc := 78) (v := 4) (by decide) dX5_nextNumber_78 ?_
    refine oX5_nextNumber_79 _ _ _ _ _ _ _ (fun c79 => ?_) (fun c79 => ?_)
    · simp only [crel, ne_eq, Classical.not_not] at c79
      rw [n_int (by omega), show (4 : Int32).toInt = 4 from rfl] at c79
      refine G_bipush (pc := 86) (v := 18) (by decide) dX5_nextNumber_86 ?_
      refine G_putI (pc := 88) (ci := 5) (j := 5) rfl lq_RX5_42 rfl rfl rfl trivial dX5_nextNumber_88 ?_
      exact oX5_nextNumber_91 _ _ _ _ (kk v 18 (by rw [if_neg (by omega)]; rfl))
    · simp only [crel, ne_eq, Classical.not_not] at c79
      rw [n_int (by omega), show (4 : Int32).toInt = 4 from rfl] at c79
      refine G_iconst (pc := 82) (v := (-1)) (by decide) dX5_nextNumber_82 ?_
      refine G_goto (pc := 83) (tgt := 88) (by decide) dX5_nextNumber_83 ?_
      refine G_putI (pc := 88) (ci := 5) (j := 5) rfl lq_RX5_42 rfl rfl rfl trivial dX5_nextNumber_88 ?_
      exact oX5_nextNumber_91 _ _ _ _ (kk v (-1) (by rw [if_pos (by omega)]; rfl))
  have go := nu_loop (d := d) (Q := Q) hT kk2 200 b 0 (by omega) (by omega) rfl
  rw [gup_id ((gup_ne (Or.inr (by decide))).trans h3)] at go
  exact go
set_option maxRecDepth 16384 in
def mdC : aMd := [(55, 3, 6)]
set_option maxRecDepth 16384 in
theorem mdC_at {j : Nat} (h : 3 ≤ j ∧ j ≤ 6) : amodr mdC 55 j j = true := amodr_i (a := 3) (b := 6) List.mem_cons_self h.1 h.2
set_option maxRecDepth 16384 in
theorem cm_m {c : Int} (h0 : 0 ≤ c) (h1 : c ≤ 255) (h : (c = 40 ∨ c = 41 ∨ c = 59 ∨ c = 60 ∨ c = 61 ∨ c = 62)) : cmT (200 + c) = c := by
  rcases h with rfl | rfl | rfl | rfl | rfl | rfl <;> rfl
set_option maxRecDepth 16384 in
theorem cm_n {c : Int} (h0 : 0 ≤ c) (h1 : c ≤ 255) (h : ¬ (c = 40 ∨ c = 41 ∨ c = 59 ∨ c = 60 ∨ c = 61 ∨ c = 62)) : cmT (200 + c) = -1 := by
  unfold cmT
  rw [if_neg (by omega), if_neg (by omega), if_neg (by omega), if_neg (by omega), if_neg (by omega), if_neg (by omega), if_neg (by omega), if_neg (by omega), if_neg (by omega)]
set_option maxRecDepth 16384 in
/-- what next leaves -/
def CN (B : Nat → Int) (I J : gI) : Prop := afr mdC I J ∧ aInv bT J ∧ (J 55 5).toInt = cmT (nxB B (I 55 3).toInt.toNat).1 ∧ J 55 4 = Int32.ofNat (nxB B (I 55 3).toInt.toNat).2.1 ∧ J 55 3 = Int32.ofNat (nxB B (I 55 3).toInt.toNat).2.2 ∧ ((nxB B (I 55 3).toInt.toNat).2.1 : Int) ≤ (I 55 1).toInt ∧ ((nxB B (I 55 3).toInt.toNat).2.2 : Int) ≤ (I 55 1).toInt
set_option maxRecDepth 16384 in
theorem CN_of {B : Nat → Int} {I K : gI} {a b e : Nat} {mt : Int} (hf : afr mdC I K) (hi : aInv bT K) (ha : (I 55 3).toInt.toNat = a) (hx : nxB B a = (mt, b, e)) (h5 : (K 55 5).toInt = cmT mt) (h4 : K 55 4 = Int32.ofNat b) (h3 : K 55 3 = Int32.ofNat e) (hb : (b : Int) ≤ (I 55 1).toInt) (he : (e : Int) ≤ (I 55 1).toInt) : CN B I K := by
  unfold CN
  rw [ha, hx]
  exact ⟨hf, hi, h5, h4, h3, hb, he⟩
set_option maxRecDepth 100000 in
set_option maxHeartbeats 8000000 in
theorem nx_skipC {H : gI} {B : Nat → Int} {a0 : Nat} (hT : tpB H B) (kk : gg (d + 6) mX5_next 38 [some (.ref 55)] [] (gup H 55 3 (Int32.ofNat (sk isSp B a0))) Q) : ∀ (g a : Nat), 200 ≤ a + g → (a : Int) ≤ (H 55 1).toInt → sk isSp B a = sk isSp B a0 → gg (d + 6) mX5_next 0 [some (.ref 55)] [] (gup H 55 3 (Int32.ofNat (a))) Q := by
  have k32 : (32 : Int32).toInt = 32 := rfl
  obtain ⟨okI, hB, hE, hz0, hz1, hP⟩ := hT
  intro g
  induction g with
  | zero =>
    intro a hg ha hs
    refine G_aload_n (pc := 0) rfl dX5_next_0 ?_
    refine G_getI (pc := 1) (ci := 5) (j := 3) gup_at rfl lq_RX5_58 rfl rfl dX5_next_1 ?_
    refine G_aload_n (pc := 4) rfl dX5_next_4 ?_
    refine G_getI (pc := 5) (ci := 5) (j := 1) (gup_ne (Or.inr (by decide))) rfl lq_RX5_32 rfl rfl dX5_next_5 ?_
    refine oX5_next_8 _ _ _ _ _ _ _ (fun c8 => ?_) (fun c8 => absurd (by show _ ≤ _; rw [n_int (by omega)]; omega) c8)
    have hl : isSp (B a) = false := by rw [hE a (by omega)]; rfl
    rw [sk_stop hl] at hs
    rw [← hs] at kk
    exact kk
  | succ g ih =>
    intro a hg ha hs
    refine G_aload_n (pc := 0) rfl dX5_next_0 ?_
    refine G_getI (pc := 1) (ci := 5) (j := 3) gup_at rfl lq_RX5_58 rfl rfl dX5_next_1 ?_
    refine G_aload_n (pc := 4) rfl dX5_next_4 ?_
    refine G_getI (pc := 5) (ci := 5) (j := 1) (gup_ne (Or.inr (by decide))) rfl lq_RX5_32 rfl rfl dX5_next_5 ?_
    refine oX5_next_8 _ _ _ _ _ _ _ (fun c8 => ?_) (fun c8 => ?_)
    · simp only [crel, ne_eq, Classical.not_not] at c8
      rw [n_int (by omega)] at c8
      have hl : isSp (B a) = false := by rw [hE a (by omega)]; rfl
      rw [sk_stop hl] at hs
      rw [← hs] at kk
      exact kk
    · simp only [crel, ne_eq, Classical.not_not] at c8
      rw [n_int (by omega)] at c8
      have hb := hB a (by omega)
      refine G_aload_n (pc := 11) rfl dX5_next_11 ?_
      refine G_getR (pc := 12) (ci := 5) (j := 0) rfl lq_RX5_9 rfl rfl rfl dX5_next_12 ?_
      refine G_aload_n (pc := 15) rfl dX5_next_15 ?_
      refine G_getI (pc := 16) (ci := 5) (j := 3) gup_at rfl lq_RX5_58 rfl rfl dX5_next_16 ?_
      refine G_iald (pc := 19) (n_clamp (show a < 1000 by omega)) (gup_ne (Or.inl (by decide))) rfl (n_in (show a < 1000 by omega) (show a < 200 by omega)) dX5_next_19 ?_
      refine G_bipush (pc := 20) (v := 32) (by decide) dX5_next_20 ?_
      refine oX5_next_22 _ _ _ _ _ _ _ (fun c22 => ?_) (fun c22 => ?_)
      · simp only [crel, ne_eq, Classical.not_not] at c22
        rw [hb, k32] at c22
        have hl : isSp (B a) = false := decide_eq_false c22
        rw [sk_stop hl] at hs
        rw [← hs] at kk
        exact kk
      · simp only [crel, ne_eq, Classical.not_not] at c22
        rw [hb, k32] at c22
        have hl : isSp (B a) = true := decide_eq_true c22
        refine G_aload_n (pc := 25) rfl dX5_next_25 ?_
        refine G_dup (pc := 26) rfl dX5_next_26 ?_
        refine G_getI (pc := 27) (ci := 5) (j := 3) gup_at rfl lq_RX5_58 rfl rfl dX5_next_27 ?_
        refine G_iconst (pc := 30) (v := 1) (by decide) dX5_next_30 ?_
        refine G_iadd (pc := 31) n_add1 dX5_next_31 ?_
        refine G_putI (pc := 32) (ci := 5) (j := 3) rfl lq_RX5_58 rfl rfl rfl trivial dX5_next_32 ?_
        rw [gup_up]
        refine G_goto (pc := 35) (tgt := 0) (by decide) dX5_next_35 ?_
        exact ih (a + 1) (by omega) (by omega) (by rw [← sk_go (okB_sp okI) hl]; exact hs)
set_option maxRecDepth 100000 in
set_option maxHeartbeats 8000000 in
theorem nx_tailC {I H : gI} {B : Nat → Int} {a b : Nat} (hi : aInv bT I) (hT : tpB I B) (hH : H = gup (gup I 55 3 (Int32.ofNat (b))) 55 4 (Int32.ofNat b)) (ha : (I 55 3).toInt.toNat = a) (hbd : b = sk isSp B a) (hb : (b : Int) ≤ (I 55 1).toInt) (hQ : ∀ J, CN B I J → Q none (SH0, RF0, J)) : gg (d + 6) mX5_next 46 [some (.ref 55)] [] H Q := by
  have hT2 := hT
  obtain ⟨okI, hB, hE, hz0, hz1, hP⟩ := hT2
  have h3 : H 55 3 = Int32.ofNat b := by rw [hH, gup_ne (Or.inr (by decide)), gup_at]
  have h4 : H 55 4 = Int32.ofNat b := by rw [hH, gup_at]
  have e1 : H 55 1 = I 55 1 := by rw [hH, gup_ne (Or.inr (by decide)), gup_ne (Or.inr (by decide))]
  have hTH : tpB H B := by rw [hH]; exact (hT.put (by decide)).put (by decide)
  have hfH : afr mdC I H := by rw [hH]; exact (afr.rf.put (mdC_at (by decide))).put (mdC_at (by decide))
  have hiH : aInv bT H := by rw [hH]; exact inv_a5 (Or.inr rfl) (inv_a5 (Or.inl rfl) hi (by rw [n_int (by omega)]; omega) (by rw [n_int (by omega)]; omega)) (by rw [n_int (by omega)]; omega) (by rw [n_int (by omega)]; omega)
  have hBH : ∀ j : Nat, (j : Int) < (I 55 1).toInt → (H 56 j).toInt = B j := fun j hj => by
    rw [hH, gup_ne (Or.inl (by decide)), gup_ne (Or.inl (by decide))]
    exact hB j hj
  have hx : nxB B a = (if B b < 0 then (-1, b, b) else if isLt (B b) = true then (wdR B b (sk isLt B b), b, sk isLt B b) else if isDg (B b) = true then (if b + 4 < sk isDg B b then 101 else 100, b, sk isDg B b) else (200 + B b, b, b + 1)) := by rw [hbd]; rfl
  clear hH
  refine G_aload_n (pc := 46) rfl dX5_next_46 ?_
  refine G_getI (pc := 47) (ci := 5) (j := 3) h3 rfl lq_RX5_58 rfl rfl dX5_next_47 ?_
  refine G_aload_n (pc := 50) rfl dX5_next_50 ?_
  refine G_getI (pc := 51) (ci := 5) (j := 1) e1 rfl lq_RX5_32 rfl rfl dX5_next_51 ?_
  refine oX5_next_54 _ _ _ _ _ _ _ (fun c54 => ?_) (fun c54 => ?_)
  · simp only [crel, ne_eq, Classical.not_not] at c54
    rw [n_int (by omega)] at c54
    have hb := hBH b (by omega)
    have hc0 : 0 ≤ B b ∧ B b ≤ 255 := ⟨hP b (by omega), (okI.2 b).2⟩
    rw [if_neg (by omega)] at hx
    refine G_aload_n (pc := 66) rfl dX5_next_66 ?_
    refine G_getR (pc := 67) (ci := 5) (j := 0) rfl lq_RX5_9 rfl rfl rfl dX5_next_67 ?_
    refine G_aload_n (pc := 70) rfl dX5_next_70 ?_
    refine G_getI (pc := 71) (ci := 5) (j := 3) h3 rfl lq_RX5_58 rfl rfl dX5_next_71 ?_
    refine G_iald (pc := 74) (n_clamp (show b < 1000 by omega)) rfl rfl (n_in (show b < 1000 by omega) (show b < 200 by omega)) dX5_next_74 ?_
    refine oX5_next_75 (d + 5) _ [.int _] [] H _ _ mX5_isLetter mt_X5_isLetter rfl (lsi ls0) ls0 (by simp) (isLetter_C (fun hl => ?_) (fun hl => ?_)) (fun _ _ h => h)
    · dsimp only [Option.toList, List.cons_append, List.nil_append]
      rw [hb] at hl
      rw [if_pos hl] at hx
      refine oX5_next_78 _ _ _ _ _ _ (fun c => absurd c (eqz (by decide))) (fun _ => ?_)
      refine G_aload_n (pc := 81) rfl dX5_next_81 ?_
      refine oX5_next_82 (d + 5) _ [] [] H _ _ 55 5 55 mX5_nextName rfl List.mem_cons_self mt_X5_nextName rfl ls0 ls0 (by simp) (nextName_C (d := d) (b := b) hTH h3 h4 (by rw [e1]; omega) (fun t ht => ?_)) (fun _ _ h => h)
      dsimp only [Option.toList, List.cons_append, List.nil_append]
      have hge := sk_go (okB_lt okI) hl
      have hge2 := sk_ge (P := isLt) (B := B) (a := b + 1)
      have hle := hT.le (P := isLt) rfl (a := b) (by omega)
      rw [wd_cm.1] at ht
      refine G_goto (pc := 85) (tgt := 152) (by decide) dX5_next_85 ?_
      exact oX5_next_152 _ _ _ _ (hQ _ (CN_of ((hfH.put (mdC_at (by decide))).put (mdC_at (by decide))) (inv_put (inv_a5 (Or.inl rfl) hiH (by rw [n_int (by omega)]; omega) (by rw [n_int (by omega)]; omega)) (a_full (by decide +kernel))) ha hx (by rw [gup_at]; exact ht) ((gup_ne (Or.inr (by decide))).trans ((gup_ne (Or.inr (by decide))).trans h4)) ((gup_ne (Or.inr (by decide))).trans gup_at) (by omega) (by omega)))
    · dsimp only [Option.toList, List.cons_append, List.nil_append]
      rw [hb] at hl
      rw [if_neg (by rw [hl]; decide)] at hx
      refine oX5_next_78 _ _ _ _ _ _ (fun _ => ?_) (fun c => absurd rfl c)
      refine G_aload_n (pc := 88) rfl dX5_next_88 ?_
      refine G_getR (pc := 89) (ci := 5) (j := 0) rfl lq_RX5_9 rfl rfl rfl dX5_next_89 ?_
      refine G_aload_n (pc := 92) rfl dX5_next_92 ?_
      refine G_getI (pc := 93) (ci := 5) (j := 3) h3 rfl lq_RX5_58 rfl rfl dX5_next_93 ?_
      refine G_iald (pc := 96) (n_clamp (show b < 1000 by omega)) rfl rfl (n_in (show b < 1000 by omega) (show b < 200 by omega)) dX5_next_96 ?_
      refine oX5_next_97 (d + 5) _ [.int _] [] H _ _ mX5_isDigit mt_X5_isDigit rfl (lsi ls0) ls0 (by simp) (isDigit_C (fun hd => ?_) (fun hd => ?_)) (fun _ _ h => h)
      · dsimp only [Option.toList, List.cons_append, List.nil_append]
        rw [hb] at hd
        rw [if_pos hd] at hx
        refine oX5_next_100 _ _ _ _ _ _ (fun c => absurd c (eqz (by decide))) (fun _ => ?_)
        refine G_aload_n (pc := 103) rfl dX5_next_103 ?_
        refine oX5_next_104 (d + 5) _ [] [] H _ _ 55 5 57 mX5_nextNumber rfl List.mem_cons_self mt_X5_nextNumber rfl ls0 ls0 (by simp) (nextNumber_C (d := d + 4) (b := b) hTH h3 h4 (by rw [e1]; omega) (fun v t ht => ?_)) (fun _ _ h => h)
        dsimp only [Option.toList, List.cons_append, List.nil_append]
        have hge := sk_go (okB_dg okI) hd
        have hge2 := sk_ge (P := isDg) (B := B) (a := b + 1)
        have hle := hT.le (P := isDg) rfl (a := b) (by omega)
        refine G_goto (pc := 107) (tgt := 152) (by decide) dX5_next_107 ?_
        exact oX5_next_152 _ _ _ _ (hQ _ (CN_of (((hfH.put (mdC_at (by decide))).put (mdC_at (by decide))).put (mdC_at (by decide))) (inv_put (inv_a5 (Or.inl rfl) (inv_put hiH (a_full (by decide +kernel))) (by rw [n_int (by omega)]; omega) (by rw [n_int (by omega)]; omega)) (a_full (by decide +kernel))) ha hx (by rw [gup_at, ht]; split <;> rfl) ((gup_ne (Or.inr (by decide))).trans ((gup_ne (Or.inr (by decide))).trans ((gup_ne (Or.inr (by decide))).trans h4))) ((gup_ne (Or.inr (by decide))).trans gup_at) (by omega) (by omega)))
      · dsimp only [Option.toList, List.cons_append, List.nil_append]
        rw [hb] at hd
        rw [if_neg (by rw [hd]; decide)] at hx
        refine oX5_next_100 _ _ _ _ _ _ (fun _ => ?_) (fun c => absurd rfl c)
        refine G_aload_n (pc := 110) rfl dX5_next_110 ?_
        refine G_aload_n (pc := 111) rfl dX5_next_111 ?_
        refine G_getR (pc := 112) (ci := 5) (j := 0) rfl lq_RX5_9 rfl rfl rfl dX5_next_112 ?_
        refine G_aload_n (pc := 115) rfl dX5_next_115 ?_
        refine G_getI (pc := 116) (ci := 5) (j := 3) h3 rfl lq_RX5_58 rfl rfl dX5_next_116 ?_
        refine G_iald (pc := 119) (n_clamp (show b < 1000 by omega)) rfl rfl (n_in (show b < 1000 by omega) (show b < 200 by omega)) dX5_next_119 ?_
        refine oX5_next_120 (d + 5) _ [.int _] [.ref 55] H _ _ mX5_isMark mt_X5_isMark rfl (lsi ls0) (lsr ls0) (by simp) (isMark_C (fun hm => ?_) (fun hm => ?_)) (fun _ _ h => h)
        · dsimp only [Option.toList, List.cons_append, List.nil_append]
          rw [hb] at hm
          refine oX5_next_123 _ _ _ _ _ _ (fun c => absurd c (eqz (by decide))) (fun _ => ?_)
          refine G_aload_n (pc := 126) rfl dX5_next_126 ?_
          refine G_getR (pc := 127) (ci := 5) (j := 0) rfl lq_RX5_9 rfl rfl rfl dX5_next_127 ?_
          refine G_aload_n (pc := 130) rfl dX5_next_130 ?_
          refine G_getI (pc := 131) (ci := 5) (j := 3) h3 rfl lq_RX5_58 rfl rfl dX5_next_131 ?_
          refine G_iald (pc := 134) (n_clamp (show b < 1000 by omega)) rfl rfl (n_in (show b < 1000 by omega) (show b < 200 by omega)) dX5_next_134 ?_
          refine G_goto (pc := 135) (tgt := 139) (by decide) dX5_next_135 ?_
          refine G_putI (pc := 139) (ci := 5) (j := 5) rfl lq_RX5_42 rfl rfl rfl trivial dX5_next_139 ?_
          refine G_aload_n (pc := 142) rfl dX5_next_142 ?_
          refine G_dup (pc := 143) rfl dX5_next_143 ?_
          refine G_getI (pc := 144) (ci := 5) (j := 3) ((gup_ne (Or.inr (by decide))).trans h3) rfl lq_RX5_58 rfl rfl dX5_next_144 ?_
          refine G_iconst (pc := 147) (v := 1) (by decide) dX5_next_147 ?_
          refine G_iadd (pc := 148) n_add1 dX5_next_148 ?_
          refine G_putI (pc := 149) (ci := 5) (j := 3) rfl lq_RX5_58 rfl rfl rfl trivial dX5_next_149 ?_
          exact oX5_next_152 _ _ _ _ (hQ _ (CN_of ((hfH.put (mdC_at (by decide))).put (mdC_at (by decide))) (inv_a5 (Or.inl rfl) (inv_put hiH (a_full (by decide +kernel))) (by rw [n_int (by omega)]; omega) (by rw [n_int (by omega)]; omega)) ha hx (by rw [gup_ne (Or.inr (by decide)), gup_at, hb]; exact (cm_m hc0.1 hc0.2 hm).symm) ((gup_ne (Or.inr (by decide))).trans ((gup_ne (Or.inr (by decide))).trans h4)) gup_at (by omega) (by omega)))
        · dsimp only [Option.toList, List.cons_append, List.nil_append]
          rw [hb] at hm
          refine oX5_next_123 _ _ _ _ _ _ (fun _ => ?_) (fun c => absurd rfl c)
          refine G_iconst (pc := 138) (v := (-1)) (by decide) dX5_next_138 ?_
          refine G_putI (pc := 139) (ci := 5) (j := 5) rfl lq_RX5_42 rfl rfl rfl trivial dX5_next_139 ?_
          refine G_aload_n (pc := 142) rfl dX5_next_142 ?_
          refine G_dup (pc := 143) rfl dX5_next_143 ?_
          refine G_getI (pc := 144) (ci := 5) (j := 3) ((gup_ne (Or.inr (by decide))).trans h3) rfl lq_RX5_58 rfl rfl dX5_next_144 ?_
          refine G_iconst (pc := 147) (v := 1) (by decide) dX5_next_147 ?_
          refine G_iadd (pc := 148) n_add1 dX5_next_148 ?_
          refine G_putI (pc := 149) (ci := 5) (j := 3) rfl lq_RX5_58 rfl rfl rfl trivial dX5_next_149 ?_
          exact oX5_next_152 _ _ _ _ (hQ _ (CN_of ((hfH.put (mdC_at (by decide))).put (mdC_at (by decide))) (inv_a5 (Or.inl rfl) (inv_put hiH (a_full (by decide +kernel))) (by rw [n_int (by omega)]; omega) (by rw [n_int (by omega)]; omega)) ha hx (by rw [gup_ne (Or.inr (by decide)), gup_at, cm_n hc0.1 hc0.2 hm]; rfl) ((gup_ne (Or.inr (by decide))).trans ((gup_ne (Or.inr (by decide))).trans h4)) gup_at (by omega) (by omega)))
  · simp only [crel, ne_eq, Classical.not_not] at c54
    rw [n_int (by omega)] at c54
    rw [if_pos (by rw [hE b (by omega)]; decide)] at hx
    refine G_aload_n (pc := 57) rfl dX5_next_57 ?_
    refine G_bipush (pc := 58) (v := (-2)) (by decide) dX5_next_58 ?_
    refine G_putI (pc := 60) (ci := 5) (j := 5) rfl lq_RX5_42 rfl rfl rfl trivial dX5_next_60 ?_
    refine G_goto (pc := 63) (tgt := 152) (by decide) dX5_next_63 ?_
    exact oX5_next_152 _ _ _ _ (hQ _ (CN_of (hfH.put (mdC_at (by decide))) (inv_put hiH (a_full (by decide +kernel))) ha hx (by rw [gup_at]; rfl) ((gup_ne (Or.inr (by decide))).trans h4) ((gup_ne (Or.inr (by decide))).trans h3) (by omega) (by omega)))
set_option maxRecDepth 100000 in
set_option maxHeartbeats 8000000 in
theorem next_C {I : gI} {B : Nat → Int} (hi : aInv bT I) (hT : tpB I B) (hle : (I 55 3).toInt ≤ (I 55 1).toInt) (hQ : ∀ J, CN B I J → Q none (SH0, RF0, J)) : gg (d + 6) mX5_next 0 (gent 1 [.ref 55]) [] I Q := by
  have ha := ain_of hi (show bnd bT 55 3 = (0, 200) by decide +kernel)
  have hz := hT.2.2.2
  dsimp only at ha
  have e3 : I 55 3 = Int32.ofNat (I 55 3).toInt.toNat := to_nat ha.1 (by omega)
  have hsl := hT.le (P := isSp) rfl (a := (I 55 3).toInt.toNat) (by omega)
  have go := nx_skipC (d := d) (Q := Q) (a0 := (I 55 3).toInt.toNat) hT (by
    refine G_aload_n (pc := 38) rfl dX5_next_38 ?_
    refine G_aload_n (pc := 39) rfl dX5_next_39 ?_
    refine G_getI (pc := 40) (ci := 5) (j := 3) gup_at rfl lq_RX5_58 rfl rfl dX5_next_40 ?_
    refine G_putI (pc := 43) (ci := 5) (j := 4) rfl lq_RX5_52 rfl rfl rfl trivial dX5_next_43 ?_
    exact nx_tailC hi hT rfl rfl rfl hsl hQ) 200 (I 55 3).toInt.toNat (by omega) (by omega) rfl
  rw [gup_id e3] at go
  exact go
end CT
