/-! ===== the heap by bounds: a table tells the bounds of each slot; some slots are known by name ===== -/
abbrev aT : Type := List (List (Nat × Int × Int))
/-- pieces of a row: up to which place, the least, the most -/
def bseg : List (Nat × Int × Int) → Nat → Int × Int
  | [], _ => (aLo, aHi)
  | s :: r, j => if j ≤ s.1 then s.2 else bseg r j
def bnd (bt : aT) (c j : Nat) : Int × Int := bseg (bt.getD c []) j
def bhull : List (Nat × Int × Int) → Nat → Nat → Int × Int
  | [], _, _ => (aLo, aHi)
  | s :: r, p, q => if q ≤ s.1 then s.2 else if p ≤ s.1 then (min s.2.1 (bhull r (s.1 + 1) q).1, max s.2.2 (bhull r (s.1 + 1) q).2) else bhull r p q
def bmeet : List (Nat × Int × Int) → Nat → Nat → Int × Int
  | [], _, _ => (aLo, aHi)
  | s :: r, p, q => if q ≤ s.1 then s.2 else if p ≤ s.1 then (max s.2.1 (bmeet r (s.1 + 1) q).1, min s.2.2 (bmeet r (s.1 + 1) q).2) else bmeet r p q
theorem bhull_ok : ∀ (l : List (Nat × Int × Int)) {p q j : Nat}, p ≤ j → j ≤ q → (bhull l p q).1 ≤ (bseg l j).1 ∧ (bseg l j).2 ≤ (bhull l p q).2
  | [], _, _, _, _, _ => ⟨Int.le_refl _, Int.le_refl _⟩
  | s :: r, p, q, j, h1, h2 => by
    simp only [bhull, bseg]
    by_cases hq : q ≤ s.1
    · rw [if_pos hq, if_pos (by omega)]
      exact ⟨Int.le_refl _, Int.le_refl _⟩
    · rw [if_neg hq]
      by_cases hp : p ≤ s.1
      · rw [if_pos hp]
        by_cases hj : j ≤ s.1
        · rw [if_pos hj]
          exact ⟨by show min _ _ ≤ _; omega, by show _ ≤ max _ _; omega⟩
        · rw [if_neg hj]
          have ih := bhull_ok r (p := s.1 + 1) (q := q) (j := j) (by omega) h2
          exact ⟨by show min _ _ ≤ _; omega, by show _ ≤ max _ _; omega⟩
      · rw [if_neg hp, if_neg (by omega)]
        exact bhull_ok r h1 h2
theorem bmeet_ok : ∀ (l : List (Nat × Int × Int)) {p q j : Nat}, p ≤ j → j ≤ q → (bseg l j).1 ≤ (bmeet l p q).1 ∧ (bmeet l p q).2 ≤ (bseg l j).2
  | [], _, _, _, _, _ => ⟨Int.le_refl _, Int.le_refl _⟩
  | s :: r, p, q, j, h1, h2 => by
    simp only [bmeet, bseg]
    by_cases hq : q ≤ s.1
    · rw [if_pos hq, if_pos (by omega)]
      exact ⟨Int.le_refl _, Int.le_refl _⟩
    · rw [if_neg hq]
      by_cases hp : p ≤ s.1
      · rw [if_pos hp]
        by_cases hj : j ≤ s.1
        · rw [if_pos hj]
          exact ⟨by show _ ≤ max _ _; omega, by show min _ _ ≤ _; omega⟩
        · rw [if_neg hj]
          have ih := bmeet_ok r (p := s.1 + 1) (q := q) (j := j) (by omega) h2
          exact ⟨by show _ ≤ max _ _; omega, by show min _ _ ≤ _; omega⟩
      · rw [if_neg hp, if_neg (by omega)]
        exact bmeet_ok r h1 h2
def ain (p : Int × Int) (x : Int32) : Prop := p.1 ≤ x.toInt ∧ x.toInt ≤ p.2
def aInv (bt : aT) (I : gI) : Prop := ∀ c j, ain (bnd bt c j) (I c j)
def aheap (bt : aT) (K : aK) (ρ : List Int32) (I : gI) : Prop := (∀ q ∈ K, aiv ρ q.2.2 (I q.1 q.2.1)) ∧ ∀ c j, (∀ a, (c, j, a) ∉ K) → ain (bnd bt c j) (I c j)
theorem aheap.mono {bt : aT} {K : aK} {ρ ρ' : List Int32} {I : gI} (h : aheap bt K ρ I) (e : aext ρ ρ') : aheap bt K ρ' I := ⟨fun q hq => (h.1 q hq).mono e, h.2⟩
theorem aheap.nil {bt : aT} {ρ : List Int32} {I : gI} (h : aInv bt I) : aheap bt [] ρ I := ⟨fun q hq => absurd hq List.not_mem_nil, fun c j _ => h c j⟩
def kget : aK → Nat → Nat → Option aV
  | [], _, _ => none
  | q :: r, c, j => if q.1 = c ∧ q.2.1 = j then some q.2.2 else kget r c j
theorem kget_some : ∀ {K : aK} {c j : Nat} {a : aV}, kget K c j = some a → (c, j, a) ∈ K
  | [], _, _, _, h => by cases h
  | q :: r, c, j, a, h => by
    simp only [kget] at h
    split at h
    next e =>
      cases h
      obtain ⟨rfl, rfl⟩ := e
      exact List.mem_cons_self
    next => exact List.mem_cons_of_mem _ (kget_some h)
theorem kget_none : ∀ {K : aK} {c j : Nat}, kget K c j = none → ∀ a, (c, j, a) ∉ K
  | [], _, _, _, _, h => by cases h
  | q :: r, c, j, h, a, hm => by
    simp only [kget] at h
    split at h
    next => cases h
    next e =>
      rcases List.mem_cons.mp hm with rfl | hm
      · exact e ⟨rfl, rfl⟩
      · exact kget_none h a hm
/-- a slot of a known place is read -/
def aldc (bt : aT) (B : aB) (K : aK) (c j : Nat) : aV × aB × aK := match kget K c j with
  | some a => (a, B, K)
  | none => ((amk B (bnd bt c j) none).1, (amk B (bnd bt c j) none).2, (c, j, (amk B (bnd bt c j) none).1) :: K)
theorem aldc_ok {bt : aT} {B : aB} {K : aK} {c j : Nat} {ρ : List Int32} {I : gI} (hB : aok B ρ) (hK : aheap bt K ρ I) :
    ∃ ρ', aext ρ ρ' ∧ aok (aldc bt B K c j).2.1 ρ' ∧ aheap bt (aldc bt B K c j).2.2 ρ' I ∧ aiv ρ' (aldc bt B K c j).1 (I c j) := by
  unfold aldc
  cases hk : kget K c j with
  | some a => exact ⟨ρ, aext.rf, hB, hK, hK.1 _ (kget_some hk)⟩
  | none =>
    have hb := hK.2 c j (kget_none hk)
    obtain ⟨ρ', e1, e2, e3⟩ := amk_ok (ex := none) hB hb.1 hb.2 (fun a b h => by cases h)
    refine ⟨ρ', e1, e2, ⟨fun q hq => ?_, fun c' j' hn => hK.2 c' j' (fun a ha => hn a (List.mem_cons_of_mem _ ha))⟩, e3⟩
    rcases List.mem_cons.mp hq with rfl | hq
    · exact e3
    · exact (hK.1 q hq).mono e1
/-- bounds of a slot whose place is between p and q -/
def khull (B : aB) : aK → Nat → Nat → Nat → Int × Int → Option (Int × Int)
  | [], _, _, _, h => some h
  | k :: r, c, p, q, h => if k.1 = c ∧ p ≤ k.2.1 ∧ k.2.1 ≤ q then (match abd B k.2.2 with
    | some b => khull B r c p q (min h.1 b.1, max h.2 b.2)
    | none => none) else khull B r c p q h
theorem khull_ok {B : aB} {c p q : Nat} : ∀ {K : aK} {h g : Int × Int}, khull B K c p q h = some g → g.1 ≤ h.1 ∧ h.2 ≤ g.2 ∧ ∀ j a, (c, j, a) ∈ K → p ≤ j → j ≤ q → ∃ b, abd B a = some b ∧ g.1 ≤ b.1 ∧ b.2 ≤ g.2
  | [], h, g, e => by
    cases e
    exact ⟨Int.le_refl _, Int.le_refl _, fun j a hm => by cases hm⟩
  | k :: r, h, g, e => by
    simp only [khull] at e
    split at e
    next hc =>
      split at e
      next b hb =>
        obtain ⟨g1, g2, g3⟩ := khull_ok e
        have g1 : g.1 ≤ min h.1 b.1 := g1
        have g2 : max h.2 b.2 ≤ g.2 := g2
        refine ⟨by omega, by omega, fun j a hm h1 h2 => ?_⟩
        rcases List.mem_cons.mp hm with rfl | hm
        · exact ⟨b, hb, by omega, by omega⟩
        · exact g3 j a hm h1 h2
      next => cases e
    next hc =>
      obtain ⟨g1, g2, g3⟩ := khull_ok e
      refine ⟨g1, g2, fun j a hm h1 h2 => ?_⟩
      rcases List.mem_cons.mp hm with rfl | hm
      · exact absurd ⟨rfl, h1, h2⟩ hc
      · exact g3 j a hm h1 h2
theorem khull_in {bt : aT} {B : aB} {K : aK} {c p q j : Nat} {ρ : List Int32} {I : gI} {g : Int × Int} (hB : aok B ρ) (hK : aheap bt K ρ I) (h : khull B K c p q (bhull (bt.getD c []) p q) = some g) (h1 : p ≤ j) (h2 : j ≤ q) : ain g (I c j) := by
  obtain ⟨g1, g2, g3⟩ := khull_ok h
  by_cases hm : ∃ a, (c, j, a) ∈ K
  · obtain ⟨a, ha⟩ := hm
    obtain ⟨b, hb, b1, b2⟩ := g3 j a ha h1 h2
    have := abd_ok hB (hK.1 _ ha) hb
    exact ⟨Int.le_trans b1 this.1, Int.le_trans this.2 b2⟩
  · have hi := hK.2 c j (fun a ha => hm ⟨a, ha⟩)
    have hh := bhull_ok (bt.getD c []) h1 h2
    exact ⟨Int.le_trans g1 (Int.le_trans hh.1 hi.1), Int.le_trans hi.2 (Int.le_trans hh.2 g2)⟩
def asub (p q : Int × Int) : Bool := decide (q.1 ≤ p.1) && decide (p.2 ≤ q.2)
theorem asub_ok {p q : Int × Int} {x : Int32} (h : asub p q = true) (hx : ain p x) : ain q x := by
  simp only [asub, Bool.and_eq_true, decide_eq_true_eq] at h
  exact ⟨Int.le_trans h.1 hx.1, Int.le_trans hx.2 h.2⟩
/-- what is known by name is within the table's bounds -/
def k1 (bt : aT) (B : aB) (q : Nat × Nat × aV) : Bool := match abd B q.2.2 with
  | some b => asub b (bnd bt q.1 q.2.1)
  | none => false
theorem k1_ok {bt : aT} {B : aB} {q : Nat × Nat × aV} {ρ : List Int32} {x : Int32} (hB : aok B ρ) (h : k1 bt B q = true) (hx : aiv ρ q.2.2 x) : ain (bnd bt q.1 q.2.1) x := by
  unfold k1 at h
  split at h
  next b hb => exact asub_ok h (abd_ok hB hx hb)
  next => cases h
theorem kinv_ok {bt : aT} {B : aB} {K : aK} {ρ : List Int32} {I : gI} (hB : aok B ρ) (hK : aheap bt K ρ I) (h : K.all (k1 bt B) = true) : aInv bt I := by
  intro c j
  by_cases hm : ∃ a, (c, j, a) ∈ K
  · obtain ⟨a, ha⟩ := hm
    exact k1_ok (q := (c, j, a)) hB (List.all_eq_true.mp h _ ha) (hK.1 _ ha)
  · exact hK.2 c j (fun a ha => hm ⟨a, ha⟩)
/-- some names are forgotten -/
theorem kfil_ok {bt : aT} {B : aB} {K : aK} {ρ : List Int32} {I : gI} {f : Nat × Nat × aV → Bool} (hB : aok B ρ) (hK : aheap bt K ρ I) (h : K.all (fun q => f q || k1 bt B q) = true) : aheap bt (K.filter f) ρ I := by
  refine ⟨fun q hq => hK.1 q (List.mem_filter.mp hq).1, fun c j hn => ?_⟩
  by_cases hm : ∃ a, (c, j, a) ∈ K
  · obtain ⟨a, ha⟩ := hm
    have hf : f (c, j, a) = false := by
      cases hf : f (c, j, a) with
      | false => rfl
      | true => exact absurd (List.mem_filter.mpr ⟨ha, hf⟩) (hn a)
    have h1 := List.all_eq_true.mp h _ ha
    rw [hf, Bool.false_or] at h1
    exact k1_ok (q := (c, j, a)) hB h1 (hK.1 _ ha)
  · exact hK.2 c j (fun a ha => hm ⟨a, ha⟩)
/-- a slot of a known place is written -/
def astc (K : aK) (c j : Nat) (a : aV) : aK := (c, j, a) :: K.filter (fun q => !(decide (q.1 = c) && decide (q.2.1 = j)))
theorem astc_ok {bt : aT} {K : aK} {c j : Nat} {a : aV} {ρ : List Int32} {I : gI} {v : Int32} (hK : aheap bt K ρ I) (ha : aiv ρ a v) : aheap bt (astc K c j a) ρ (gup I c j v) := by
  refine ⟨fun q hq => ?_, fun c' j' hn => ?_⟩
  · rcases List.mem_cons.mp hq with rfl | hq
    · show aiv ρ a (gup I c j v c j)
      simp only [gup, if_true]
      exact ha
    · obtain ⟨h1, h2⟩ := List.mem_filter.mp hq
      have e : gup I c j v q.1 q.2.1 = I q.1 q.2.1 := by
        simp only [Bool.not_eq_true', Bool.and_eq_false_iff, decide_eq_false_iff_not] at h2
        rcases h2 with h2 | h2 <;> simp [gup, h2]
      rw [e]
      exact hK.1 q h1
  · by_cases e : c' = c ∧ j' = j
    · obtain ⟨rfl, rfl⟩ := e
      exact absurd List.mem_cons_self (hn a)
    · have e1 : gup I c j v c' j' = I c' j' := by
        by_cases ec : c' = c
        · have : j' ≠ j := fun z => e ⟨ec, z⟩
          simp [gup, this]
        · simp [gup, ec]
      rw [e1]
      refine hK.2 c' j' (fun a' ha' => hn a' (List.mem_cons_of_mem _ (List.mem_filter.mpr ⟨ha', ?_⟩)))
      simp only [Bool.not_eq_true', Bool.and_eq_false_iff, decide_eq_false_iff_not]
      by_cases ec : c' = c
      · exact Or.inr (fun z => e ⟨ec, z⟩)
      · exact Or.inl ec
/-- a slot whose place is between p and q is written -/
def aout (c p q : Nat) (k : Nat × Nat × aV) : Bool := !(decide (k.1 = c) && decide (p ≤ k.2.1) && decide (k.2.1 ≤ q))
theorem astr_ok {bt : aT} {B : aB} {K : aK} {c p q j : Nat} {b : Int × Int} {ρ : List Int32} {I : gI} {v : Int32} (hB : aok B ρ) (hK : aheap bt K ρ I) (hv : ain b v) (hs : asub b (bmeet (bt.getD c []) p q) = true) (h : K.all (fun k => aout c p q k || k1 bt B k) = true) (h1 : p ≤ j) (h2 : j ≤ q) : aheap bt (K.filter (aout c p q)) ρ (gup I c j v) := by
  have hF := kfil_ok hB hK h
  refine ⟨fun k hk => ?_, fun c' j' hn => ?_⟩
  · obtain ⟨m1, m2⟩ := List.mem_filter.mp hk
    have e : gup I c j v k.1 k.2.1 = I k.1 k.2.1 := by
      simp only [aout, Bool.not_eq_true', Bool.and_eq_false_iff, decide_eq_false_iff_not] at m2
      by_cases ec : k.1 = c
      · have : k.2.1 ≠ j := fun z => by
          rcases m2 with (m2 | m2) | m2
          · exact m2 ec
          · omega
          · omega
        simp [gup, this]
      · simp [gup, ec]
    rw [e]
    exact hF.1 k hk
  · by_cases e : c' = c ∧ j' = j
    · obtain ⟨rfl, rfl⟩ := e
      have hh := bmeet_ok (bt.getD c' []) h1 h2
      have := asub_ok hs hv
      simp only [gup, if_true]
      exact ⟨Int.le_trans hh.1 this.1, Int.le_trans this.2 hh.2⟩
    · have e1 : gup I c j v c' j' = I c' j' := by
        by_cases ec : c' = c
        · have : j' ≠ j := fun z => e ⟨ec, z⟩
          simp [gup, this]
        · simp [gup, ec]
      rw [e1]
      exact hF.2 c' j' hn
/-! which slots may be written -/
abbrev aMd : Type := List (Nat × Nat × Nat)
def amodr (md : aMd) (c p q : Nat) : Bool := md.any (fun r => decide (r.1 = c) && decide (r.2.1 ≤ p) && decide (q ≤ r.2.2))
theorem amodr_in {md : aMd} {c p q j : Nat} (h : amodr md c p q = true) (h1 : p ≤ j) (h2 : j ≤ q) : amodr md c j j = true := by
  obtain ⟨r, hr, h⟩ := List.any_eq_true.mp h
  simp only [Bool.and_eq_true, decide_eq_true_eq] at h
  refine List.any_eq_true.mpr ⟨r, hr, ?_⟩
  simp only [Bool.and_eq_true, decide_eq_true_eq]
  exact ⟨⟨h.1.1, by omega⟩, by omega⟩
def afr (md : aMd) (I0 I : gI) : Prop := ∀ c j, amodr md c j j = false → I c j = I0 c j
theorem afr.rf {md : aMd} {I : gI} : afr md I I := fun _ _ _ => rfl
theorem afr.put {md : aMd} {I0 I : gI} {c j : Nat} {v : Int32} (h : afr md I0 I) (hm : amodr md c j j = true) : afr md I0 (gup I c j v) := fun c' j' hn => by
  have e1 : gup I c j v c' j' = I c' j' := by
    by_cases e : c' = c ∧ j' = j
    · obtain ⟨rfl, rfl⟩ := e
      rw [hm] at hn
      cases hn
    · by_cases ec : c' = c
      · have : j' ≠ j := fun z => e ⟨ec, z⟩
        simp [gup, this]
      · simp [gup, ec]
  rw [e1]
  exact h c' j' hn
/-- each range of md1 lies in one of md -/
def amdsub (md1 md : aMd) : Bool := md1.all (fun r => amodr md r.1 r.2.1 r.2.2)
theorem amdsub_ok {md1 md : aMd} {c j : Nat} (h : amdsub md1 md = true) (hn : amodr md c j j = false) : amodr md1 c j j = false := by
  cases hm : amodr md1 c j j with
  | false => rfl
  | true =>
    obtain ⟨r, hr, h1⟩ := List.any_eq_true.mp hm
    simp only [Bool.and_eq_true, decide_eq_true_eq] at h1
    have h2 := amodr_in (List.all_eq_true.mp h r hr) h1.1.2 h1.2
    rw [h1.1.1, hn] at h2
    cases h2
theorem afr.tr {md md1 : aMd} {I0 I I1 : gI} (h : afr md I0 I) (h1 : afr md1 I I1) (hs : amdsub md1 md = true) : afr md I0 I1 := fun c j hn => (h1 c j (amdsub_ok hs hn)).trans (h c j hn)
