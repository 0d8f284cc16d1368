/-! ===== a walk through both calls, callees walked in their places ===== -/
/-- what is known of letters: (0, t, a, b, _): the compare t holds of a and b; (1, t, a, b, k): k is t of a and b; (2, t, a, _, k): k is t of a -/
abbrev aF : Type := List (Nat × Nat × aV × aV × aV)
def f1 (ρ : List Int32) (f : Nat × Nat × aV × aV × aV) : Prop := match f.1 with
  | 0 => ∃ x y, aiv ρ f.2.2.1 x ∧ aiv ρ f.2.2.2.1 y ∧ crel f.2.1 x.toInt y.toInt
  | 1 => ∃ x y, aiv ρ f.2.2.1 x ∧ aiv ρ f.2.2.2.1 y ∧ aiv ρ f.2.2.2.2 (bop f.2.1 x y)
  | _ => ∃ x, aiv ρ f.2.2.1 x ∧ aiv ρ f.2.2.2.2 (uop f.2.1 x)
def fok (F : aF) (ρ : List Int32) : Prop := ∀ f ∈ F, f1 ρ f
theorem f1.mono {ρ ρ' : List Int32} {f : Nat × Nat × aV × aV × aV} (e : aext ρ ρ') (h : f1 ρ f) : f1 ρ' f := by
  unfold f1 at *
  split at h
  · obtain ⟨x, y, h1, h2, h3⟩ := h
    exact ⟨x, y, h1.mono e, h2.mono e, h3⟩
  · obtain ⟨x, y, h1, h2, h3⟩ := h
    exact ⟨x, y, h1.mono e, h2.mono e, h3.mono e⟩
  · obtain ⟨x, h1, h3⟩ := h
    exact ⟨x, h1.mono e, h3.mono e⟩
theorem fok.mono {ρ ρ' : List Int32} {F : aF} (e : aext ρ ρ') (h : fok F ρ) : fok F ρ' := fun f hf => (h f hf).mono e
theorem fok.cons {ρ : List Int32} {F : aF} {f : Nat × Nat × aV × aV × aV} (h : fok F ρ) (h1 : f1 ρ f) : fok (f :: F) ρ := fun g hg => by
  rcases List.mem_cons.mp hg with rfl | hg
  · exact h1
  · exact h g hg
/-- a letter that can be one number alone is that number -/
def anm (B : aB) (a : aV) : aV := match abd B a with
  | some p => if p.1 = p.2 then (2, p.1) else a
  | none => a
theorem anm_ok {B : aB} {ρ : List Int32} {a : aV} {x : Int32} (hB : aok B ρ) (h : aiv ρ a x) : aiv ρ (anm B a) x := by
  unfold anm
  split
  next p hp =>
    split
    next e =>
      have h1 := abd_ok hB h hp
      exact Or.inr ⟨rfl, by show x.toInt = p.1; omega⟩
    next => exact h
  next => exact h
def fhas (F : aF) (t : Nat) (a b : aV) : Bool := F.any (fun f => decide (f.1 = 0) && decide (f.2.1 = t) && decide (f.2.2.1 = a) && decide (f.2.2.2.1 = b))
theorem fhas_ok {F : aF} {ρ : List Int32} {t : Nat} {a b : aV} {x y : Int32} (hF : fok F ρ) (h : fhas F t a b = true) (ha : aiv ρ a x) (hb : aiv ρ b y) : crel t x.toInt y.toInt := by
  obtain ⟨f, h1, h2⟩ := List.any_eq_true.mp h
  simp only [Bool.and_eq_true, decide_eq_true_eq] at h2
  obtain ⟨⟨⟨e1, e2⟩, e3⟩, e4⟩ := h2
  have h3 := hF f h1
  unfold f1 at h3
  rw [e1] at h3
  obtain ⟨x', y', g1, g2, g3⟩ := h3
  rw [e3] at g1
  rw [e4] at g2
  rw [e2, g1.fn ha, g2.fn hb] at g3
  exact g3
def fval (F : aF) (k t : Nat) (a b : aV) : Option aV := (F.find? (fun f => decide (f.1 = k) && decide (f.2.1 = t) && decide (f.2.2.1 = a) && decide (f.2.2.2.1 = b))).map (fun f => f.2.2.2.2)
theorem fval1_ok {F : aF} {ρ : List Int32} {t : Nat} {a b k : aV} {x y : Int32} (hF : fok F ρ) (h : fval F 1 t a b = some k) (ha : aiv ρ a x) (hb : aiv ρ b y) : aiv ρ k (bop t x y) := by
  obtain ⟨f, h1, rfl⟩ := Option.map_eq_some_iff.mp h
  have h2 := List.find?_some h1
  simp only [Bool.and_eq_true, decide_eq_true_eq] at h2
  obtain ⟨⟨⟨e1, e2⟩, e3⟩, e4⟩ := h2
  have h3 := hF f (List.mem_of_find?_eq_some h1)
  unfold f1 at h3
  rw [e1] at h3
  obtain ⟨x', y', g1, g2, g3⟩ := h3
  rw [e3] at g1
  rw [e4] at g2
  rw [e2, g1.fn ha, g2.fn hb] at g3
  exact g3
theorem fval2_ok {F : aF} {ρ : List Int32} {t : Nat} {a b k : aV} {x : Int32} (hF : fok F ρ) (h : fval F 2 t a b = some k) (ha : aiv ρ a x) : aiv ρ k (uop t x) := by
  obtain ⟨f, h1, rfl⟩ := Option.map_eq_some_iff.mp h
  have h2 := List.find?_some h1
  simp only [Bool.and_eq_true, decide_eq_true_eq] at h2
  obtain ⟨⟨⟨e1, e2⟩, e3⟩, e4⟩ := h2
  have h3 := hF f (List.mem_of_find?_eq_some h1)
  unfold f1 at h3
  rw [e1] at h3
  obtain ⟨x', g1, g3⟩ := h3
  rw [e3] at g1
  rw [e2, g1.fn ha] at g3
  exact g3
abbrev aP : Type := aS × aF
def aGoF (bt : aT) (md : aMd) (I0 : gI) (M : gM) (Q : Option Value → gH → Prop) (D : Nat) (ρ0 : List Int32) (q : aP) : Prop :=
  ∀ (ρ : List Int32) (Lc : gL) (Sc : List Value) (I : gI), aext ρ0 ρ → aLc ρ q.1.2.1 Lc → aSt ρ q.1.2.2.1 Sc → aok q.1.2.2.2.1 ρ → aheap bt q.1.2.2.2.2 ρ I → fok q.2 ρ → afr md I0 I → gg D M q.1.1 Lc Sc I Q
section PW
variable {bt : aT} {md : aMd} {I0 : gI} {M : gM} {Q : Option Value → gH → Prop} {D d h : Nat} {ρ0 : List Int32} {mt : List gM} {pc n a : Nat} {z : Int} {ps : List (Int × Nat)} {L : aL} {S : List aV} {B : aB} {K : aK} {F : aF} {l : List aP}
/-- what needs no more than the walk by bounds -/
theorem p_of {l : List aS} (hs : (∀ ρ, (∀ σ ∈ l, aGo bt md I0 M Q D ρ σ) → aGo bt md I0 M Q D ρ (pc, L, S, B, K))) (hl : ∀ σ ∈ l, aGoF bt md I0 M Q D ρ0 (σ, F)) : aGoF bt md I0 M Q D ρ0 ((pc, L, S, B, K), F) := by
  intro ρ Lc Sc I hρ hL hS hB hK hf hF
  exact hs ρ (fun σ hσ ρ' Lc' Sc' I' e1 g1 g2 g3 g4 g5 => hl σ hσ ρ' Lc' Sc' I' (hρ.tr e1) g1 g2 g3 g4 (hf.mono e1) g5) ρ Lc Sc I aext.rf hL hS hB hK hF
def p4 (pc n a : Nat) (L : aL) (S : List aV) (B : aB) (K : aK) (F : aF) : Option (List aP) := match S with
  | y :: x :: S' => (match abd B x, abd B y with
    | some p, some q => if a < 9 ∨ 1 ≤ q.1 ∨ q.2 ≤ -1 ∨ fhas F 1 y (2, 0) = true then
        (if p.1 = p.2 ∧ q.1 = q.2 then some [((pc + n, L, (2, (bop a (Int32.ofInt p.1) (Int32.ofInt q.1)).toInt) :: S', B, K), F)]
        else if a = 1 ∧ anm B x = (2, 0) then (match fval F 2 0 (anm B y) (2, 0) with
          | some k => some [((pc + n, L, k :: S', B, K), F)]
          | none => some [((pc + n, L, (amk B (ubd 0 q) none).1 :: S', (amk B (ubd 0 q) none).2, K), (2, 0, anm B y, (2, 0), (amk B (ubd 0 q) none).1) :: F)])
        else (match fval F 1 a (anm B x) (anm B y) with
          | some k => some [((pc + n, L, k :: S', B, K), F)]
          | none => some [((pc + n, L, (abin a B x y p q).1 :: S', (abin a B x y p q).2, K), (1, a, anm B x, anm B y, (abin a B x y p q).1) :: F)]))
        else none
    | _, _ => none)
  | _ => none
theorem p4_ok (ho : opP mt M pc 4 n a z ps) (hs : p4 pc n a L S B K F = some l) (hl : ∀ q ∈ l, aGoF bt md I0 M Q D ρ0 q) : aGoF bt md I0 M Q D ρ0 ((pc, L, S, B, K), F) := by
  intro ρ Lc Sc I hρ hL hS hB hK hf hF
  unfold p4 at hs
  split at hs
  next y x S' =>
    split at hs
    next p q hp hq =>
      split at hs
      next h =>
        obtain ⟨v, Sc1, rfl, h1, h2⟩ := aSt.cons hS
        obtain ⟨w, Sc2, rfl, h3, h4⟩ := aSt.cons h2
        obtain ⟨yy, rfl, hy⟩ := h1.bd hq
        obtain ⟨xx, rfl, hx⟩ := h3.bd hp
        have hq1 := abd_ok hB hy hq
        have hp1 := abd_ok hB hx hp
        have h90 : 9 ≤ a → yy ≠ 0 := fun h9 h0 => by
          have h00 : (0 : Int32).toInt = 0 := rfl
          have hq2 := hq1
          rw [h0] at hq2
          rcases h with h | h | h | h
          · omega
          · omega
          · omega
          · have g : yy.toInt ≠ (0 : Int32).toInt := fhas_ok hf h hy (aiv.of rfl)
            rw [h0] at g
            exact g rfl
        split at hs
        next hc =>
          cases hs
          have ex : Int32.ofInt p.1 = xx := by
            rw [show p.1 = xx.toInt by omega]
            exact Int32.ofInt_toInt xx
          have ey : Int32.ofInt q.1 = yy := by
            rw [show q.1 = yy.toInt by omega]
            exact Int32.ofInt_toInt yy
          rw [ex, ey] at hl
          exact ho D Lc Sc2 I Q xx yy h90 (hl _ List.mem_cons_self ρ Lc _ I hρ hL ⟨aev.ofInt aiv.num, h4⟩ hB hK hf hF)
        next =>
         split at hs
         next h10 =>
          obtain ⟨ha1, hx0⟩ := h10
          subst ha1
          have ex0 : xx.toInt = 0 := by
            have g := anm_ok hB hx
            rw [hx0] at g
            rcases g with ⟨g, -⟩ | ⟨-, g⟩
            · cases g
            · exact g
          have ebo : bop 1 xx yy = uop 0 yy := by
            have e0 : xx = 0 := Int32.toInt_inj.mp ex0
            subst e0
            show (0 : Int32) - yy = -yy
            exact Int32.zero_sub yy
          split at hs
          next k hk =>
            cases hs
            refine ho D Lc Sc2 I Q xx yy h90 ?_
            rw [ebo]
            exact hl _ List.mem_cons_self ρ Lc _ I hρ hL ⟨aev.ofInt (fval2_ok hf hk (anm_ok hB hy)), h4⟩ hB hK hf hF
          next =>
            cases hs
            have hb := ubd_ok (t := 0) hq1.1 hq1.2
            obtain ⟨ρ', e1, e2, e3⟩ := amk_ok (ex := none) hB hb.1 hb.2 (fun a b h => by cases h)
            refine ho D Lc Sc2 I Q xx yy h90 ?_
            rw [ebo]
            exact hl _ List.mem_cons_self ρ' Lc _ I (hρ.tr e1) (hL.mono e1) ⟨aev.ofInt e3, h4.mono e1⟩ e2 (hK.mono e1) ((hf.mono e1).cons ⟨yy, (anm_ok hB hy).mono e1, e3⟩) hF
         next =>
          split at hs
          next k hk =>
            cases hs
            exact ho D Lc Sc2 I Q xx yy h90 (hl _ List.mem_cons_self ρ Lc _ I hρ hL ⟨aev.ofInt (fval1_ok hf hk (anm_ok hB hx) (anm_ok hB hy)), h4⟩ hB hK hf hF)
          next =>
            cases hs
            obtain ⟨ρ', e1, e2, e3⟩ := abin_ok (t := a) hB hx hy hp1 hq1
            exact ho D Lc Sc2 I Q xx yy h90 (hl _ List.mem_cons_self ρ' Lc _ I (hρ.tr e1) (hL.mono e1) ⟨aev.ofInt e3, h4.mono e1⟩ e2 (hK.mono e1) ((hf.mono e1).cons ⟨xx, yy, (anm_ok hB hx).mono e1, (anm_ok hB hy).mono e1, e3⟩) hF)
      next => cases hs
    next => cases hs
  next => cases hs
def p5 (pc n a : Nat) (L : aL) (S : List aV) (B : aB) (K : aK) (F : aF) : Option (List aP) := match S with
  | x :: S' => (match abd B x with
    | some p => (if p.1 = p.2 then some [((pc + n, L, (2, (uop a (Int32.ofInt p.1)).toInt) :: S', B, K), F)]
        else (match fval F 2 a (anm B x) (2, 0) with
          | some k => some [((pc + n, L, k :: S', B, K), F)]
          | none => some [((pc + n, L, (amk B (ubd a p) none).1 :: S', (amk B (ubd a p) none).2, K), (2, a, anm B x, (2, 0), (amk B (ubd a p) none).1) :: F)]))
    | none => none)
  | _ => none
theorem p5_ok (ho : opP mt M pc 5 n a z ps) (hs : p5 pc n a L S B K F = some l) (hl : ∀ q ∈ l, aGoF bt md I0 M Q D ρ0 q) : aGoF bt md I0 M Q D ρ0 ((pc, L, S, B, K), F) := by
  intro ρ Lc Sc I hρ hL hS hB hK hf hF
  unfold p5 at hs
  split at hs
  next x S' =>
    split at hs
    next p hp =>
      obtain ⟨v, Sc1, rfl, h1, h2⟩ := aSt.cons hS
      obtain ⟨xx, rfl, hx⟩ := h1.bd hp
      have hp1 := abd_ok hB hx hp
      split at hs
      next hc =>
        cases hs
        have ex : Int32.ofInt p.1 = xx := by
          rw [show p.1 = xx.toInt by omega]
          exact Int32.ofInt_toInt xx
        rw [ex] at hl
        exact ho D Lc Sc1 I Q xx (hl _ List.mem_cons_self ρ Lc _ I hρ hL ⟨aev.ofInt aiv.num, h2⟩ hB hK hf hF)
      next =>
        split at hs
        next k hk =>
          cases hs
          exact ho D Lc Sc1 I Q xx (hl _ List.mem_cons_self ρ Lc _ I hρ hL ⟨aev.ofInt (fval2_ok hf hk (anm_ok hB hx)), h2⟩ hB hK hf hF)
        next =>
          cases hs
          have hb := ubd_ok (t := a) hp1.1 hp1.2
          obtain ⟨ρ', e1, e2, e3⟩ := amk_ok (ex := none) hB hb.1 hb.2 (fun a b h => by cases h)
          exact ho D Lc Sc1 I Q xx (hl _ List.mem_cons_self ρ' Lc _ I (hρ.tr e1) (hL.mono e1) ⟨aev.ofInt e3, h2.mono e1⟩ e2 (hK.mono e1) ((hf.mono e1).cons ⟨xx, (anm_ok hB hx).mono e1, e3⟩) hF)
    next => cases hs
  next => cases hs
/-- a number with itself -/
def csame (t : Nat) : Bool := decide (t = 0) || decide (t = 3) || decide (5 ≤ t)
theorem csame_ok {t : Nat} {x : Int} (h : csame t = true) : crel t x x := by
  simp only [csame, Bool.or_eq_true, decide_eq_true_eq] at h
  match t, h with
  | 0, _ => exact rfl
  | 3, _ => exact Int.le_refl x
  | t + 5, _ => exact Int.le_refl x
  | 1, h => omega
  | 2, h => omega
  | 4, h => omega
theorem csame_no {t : Nat} {x : Int} (h : csame t = false) : ¬ crel t x x := by
  simp only [csame, Bool.or_eq_false_iff, decide_eq_false_iff_not] at h
  match t, h with
  | 1, _ => exact fun e => e rfl
  | 2, _ => exact Int.lt_irrefl x
  | 4, _ => exact Int.lt_irrefl x
  | 0, h => omega
  | 3, h => omega
  | t + 5, h => omega
theorem cneg_no {t : Nat} {x y : Int} (h : crel (cneg t) x y) : ¬ crel t x y := by
  match t, h with
  | 0, h => exact h
  | 1, h => exact fun e => e h
  | 2, h => exact Int.not_lt.mpr h
  | 3, h => exact Int.not_le.mpr h
  | 4, h => exact Int.not_lt.mpr h
  | _ + 5, h => exact Int.not_le.mpr h
/-- a compare by the bounds of a difference that is known -/
def pdif (B : aB) (F : aF) (t : Nat) (x y : aV) : Option Bool := match fval F 1 1 y x with
  | some l => (match abd B l, abd B x, abd B y with
    | some p, some q, some r => if -1000000000 ≤ q.1 ∧ q.2 ≤ 1000000000 ∧ -1000000000 ≤ r.1 ∧ r.2 ≤ 1000000000 then (if 1 ≤ p.1 then some (decide (t = 1) || decide (t = 2) || decide (5 ≤ t)) else if p.2 ≤ 0 then (if t = 2 then some false else if t = 3 then some true else none) else none) else none
    | _, _, _ => none)
  | none => none
theorem d_sub {x y : Int32} (h : (-1000000000 ≤ x.toInt ∧ x.toInt ≤ 1000000000) ∧ -1000000000 ≤ y.toInt ∧ y.toInt ≤ 1000000000) : (bop 1 y x).toInt = y.toInt - x.toInt := by
  show (y - x).toInt = _
  rw [Int32.toInt_sub]
  exact a_bm (by unfold aLo; omega) (by unfold aHi; omega)
theorem pdif_ok {B : aB} {F : aF} {ρ : List Int32} {t : Nat} {x y : aV} {xx yy : Int32} {b : Bool} (hB : aok B ρ) (hf : fok F ρ) (hx : aiv ρ x xx) (hy : aiv ρ y yy) (h : pdif B F t x y = some b) : (b = true → crel t xx.toInt yy.toInt) ∧ (b = false → ¬ crel t xx.toInt yy.toInt) := by
  unfold pdif at h
  split at h
  next l hl =>
    split at h
    next p q r hp hq hr =>
      split at h
      next hc =>
        have l1 := fval1_ok hf hl hy hx
        have p1 := abd_ok hB l1 hp
        have q1 := abd_ok hB hx hq
        have r1 := abd_ok hB hy hr
        rw [d_sub (by omega)] at p1
        split at h
        next h1 =>
          cases h
          refine ⟨fun e => ?_, fun e => ?_⟩
          · simp only [Bool.or_eq_true, decide_eq_true_eq] at e
            match t, e with
            | 1, _ => exact fun z => by omega
            | 2, _ => show xx.toInt < yy.toInt; omega
            | t + 5, _ => show xx.toInt ≤ yy.toInt; omega
            | 0, e => omega
            | 3, e => omega
            | 4, e => omega
          · simp only [Bool.or_eq_false_iff, decide_eq_false_iff_not] at e
            match t, e with
            | 0, _ => exact fun (z : xx.toInt = yy.toInt) => by omega
            | 3, _ => exact fun (z : yy.toInt ≤ xx.toInt) => by omega
            | 4, _ => exact fun (z : yy.toInt < xx.toInt) => by omega
            | 1, e => omega
            | 2, e => omega
            | t + 5, e => omega
        next =>
          split at h
          next h2 =>
            split at h
            next ht =>
              cases h
              subst ht
              exact ⟨(fun z => by cases z), fun _ (z : xx.toInt < yy.toInt) => by omega⟩
            next =>
              split at h
              next ht =>
                cases h
                subst ht
                exact ⟨fun _ => (by show yy.toInt ≤ xx.toInt; omega), (fun z => by cases z)⟩
              next => cases h
          next => cases h
      next => cases h
    next => cases h
  next => cases h
/-- = and its opposite with sides changed -/
def psym (F : aF) (t : Nat) (x y : aV) : Option Bool := if t ≤ 1 then (if fhas F t y x = true then some true else if fhas F (1 - t) y x = true then some false else none) else none
theorem psym_ok {F : aF} {ρ : List Int32} {t : Nat} {x y : aV} {xx yy : Int32} {b : Bool} (hf : fok F ρ) (hx : aiv ρ x xx) (hy : aiv ρ y yy) (h : psym F t x y = some b) : (b = true → crel t xx.toInt yy.toInt) ∧ (b = false → ¬ crel t xx.toInt yy.toInt) := by
  unfold psym at h
  split at h
  next ht =>
    split at h
    next h1 =>
      cases h
      refine ⟨fun _ => ?_, (fun z => by cases z)⟩
      have g := fhas_ok hf h1 hy hx
      match t, ht, g with
      | 0, _, g => exact Eq.symm g
      | 1, _, g => exact Ne.symm g
    next =>
      split at h
      next h1 =>
        cases h
        refine ⟨(fun z => by cases z), fun _ => ?_⟩
        have g := fhas_ok hf h1 hy hx
        match t, ht, g with
        | 0, _, g => exact fun (z : xx.toInt = yy.toInt) => g z.symm
        | 1, _, g => exact fun (z : xx.toInt ≠ yy.toInt) => z (Eq.symm g)
      next => cases h
  next => cases h
/-- a compare with c - 1 by what is known of c -/
def pone (B : aB) (F : aF) (t : Nat) (x y : aV) : Option Bool := if (t = 4 ∨ t = 5) ∧ y.1 = 0 then (match B[y.2.toNat]? with
  | some e => (match e.2.2 with
    | some (c, w) => if w = (2, -1) then (match abd B c with
      | some q => if aLo < q.1 then (if fhas F 2 x c = true then some (decide (t = 5)) else if fhas F 3 x c = true then some (decide (t = 4)) else none) else none
      | none => none) else none
    | none => none)
  | none => none) else none
theorem pone_ok {B : aB} {F : aF} {ρ : List Int32} {t : Nat} {x y : aV} {xx yy : Int32} {b : Bool} (hB : aok B ρ) (hf : fok F ρ) (hx : aiv ρ x xx) (hy : aiv ρ y yy) (h : pone B F t x y = some b) : (b = true → crel t xx.toInt yy.toInt) ∧ (b = false → ¬ crel t xx.toInt yy.toInt) := by
  unfold pone at h
  split at h
  next ht =>
    split at h
    next e he =>
      split at h
      next c w hcw =>
        split at h
        next hw =>
          split at h
          next q hq =>
            split at h
            next hlo =>
              have hyr : ρ[y.2.toNat]? = some yy := by
                rcases hy with ⟨-, hy⟩ | ⟨hy, -⟩
                · exact hy
                · omega
              obtain ⟨u, v, w1, w2, w3⟩ := (hB.2 _ e yy he hyr).2.2 _ _ hcw
              have cu := abd_ok hB w1 hq
              have ev : v.toInt = -1 := by
                rw [hw] at w2
                rcases w2 with ⟨w2, -⟩ | ⟨-, w2⟩
                · cases w2
                · exact w2
              have ey : yy.toInt = u.toInt - 1 := by
                have hu := a_rng u
                rw [w3, Int32.toInt_add, ev]
                exact a_bm (by omega) (by omega)
              split at h
              next h2 =>
                cases h
                have g : xx.toInt < u.toInt := fhas_ok hf h2 hx w1
                rcases ht.1 with rfl | rfl
                · exact ⟨(fun z => by cases z), fun _ (z : yy.toInt < xx.toInt) => by omega⟩
                · exact ⟨fun _ => (by show xx.toInt ≤ yy.toInt; omega), (fun z => by cases z)⟩
              next =>
                split at h
                next h3 =>
                  cases h
                  have g : u.toInt ≤ xx.toInt := fhas_ok hf h3 hx w1
                  rcases ht.1 with rfl | rfl
                  · exact ⟨fun _ => (by show yy.toInt < xx.toInt; omega), (fun z => by cases z)⟩
                  · exact ⟨(fun z => by cases z), fun _ (z : xx.toInt ≤ yy.toInt) => by omega⟩
                next => cases h
            next => cases h
          next => cases h
        next => cases h
      next => cases h
    next => cases h
  next => cases h
def pmor (B : aB) (F : aF) (t : Nat) (x y : aV) : Option Bool := match psym F t x y with
  | some b => some b
  | none => (match pdif B F t x y with
    | some b => some b
    | none => pone B F t x y)
theorem pmor_ok {B : aB} {F : aF} {ρ : List Int32} {t : Nat} {x y : aV} {xx yy : Int32} {b : Bool} (hB : aok B ρ) (hf : fok F ρ) (hx : aiv ρ x xx) (hy : aiv ρ y yy) (h : pmor B F t x y = some b) : (b = true → crel t xx.toInt yy.toInt) ∧ (b = false → ¬ crel t xx.toInt yy.toInt) := by
  unfold pmor at h
  split at h
  next b' h1 =>
    cases h
    exact psym_ok hf hx hy h1
  next =>
    split at h
    next b' h1 =>
      cases h
      exact pdif_ok hB hf hx hy h1
    next => exact pone_ok hB hf hx hy h
/-- bounds of what was taken away, by those of the difference -/
def fsb (F : aF) (B : aB) (a : aV) : Option aB := match F.find? (fun f => decide (f.1 = 1) && decide (f.2.1 = 1) && decide (f.2.2.2.2 = a)) with
  | some f => (match abd B a, abd B f.2.2.2.1, abd B f.2.2.1 with
    | some p, some q, some r => if -1000000000 ≤ q.1 ∧ q.2 ≤ 1000000000 ∧ -1000000000 ≤ r.1 ∧ r.2 ≤ 1000000000 then aref B f.2.2.2.1 aLo (r.2 - p.1) else some B
    | _, _, _ => some B)
  | none => some B
theorem fsb_ok {F : aF} {B : aB} {ρ : List Int32} {a : aV} {x : Int32} (hB : aok B ρ) (hf : fok F ρ) (ha : aiv ρ a x) : ∃ B', fsb F B a = some B' ∧ aok B' ρ := by
  unfold fsb
  split
  next f hfd =>
    have h2 := List.find?_some hfd
    simp only [Bool.and_eq_true, decide_eq_true_eq] at h2
    obtain ⟨⟨e1, e2⟩, e3⟩ := h2
    have h3 := hf f (List.mem_of_find?_eq_some hfd)
    unfold f1 at h3
    rw [e1] at h3
    obtain ⟨u, v, g1, g2, g3⟩ := h3
    rw [e3, e2] at g3
    split
    next p q r hp hq hr =>
      split
      next hc =>
        have p1 := abd_ok hB g3 hp
        have q1 := abd_ok hB g2 hq
        have r1 := abd_ok hB g1 hr
        rw [d_sub (by omega)] at p1
        exact aref_ok hB g2 (a_rng v).1 (by omega)
      next => exact ⟨B, rfl, hB⟩
    next => exact ⟨B, rfl, hB⟩
  next => exact ⟨B, rfl, hB⟩
def abf (F : aF) (t : Nat) (B : aB) (x y : aV) : Option (Option aB) := match abr t B x y with
  | some o => some (o.bind (fun B1 => (fsb F B1 x).bind (fun B2 => fsb F B2 y)))
  | none => none
theorem abf_ok {F : aF} {t : Nat} {B : aB} {ρ : List Int32} {a b : aV} {x y : Int32} {o : Option aB} (h : aok B ρ) (hf : fok F ρ) (ha : aiv ρ a x) (hb : aiv ρ b y) (hc : crel t x.toInt y.toInt) (ho : abf F t B a b = some o) : ∃ B', o = some B' ∧ aok B' ρ := by
  unfold abf at ho
  split at ho
  next o1 h1 =>
    cases ho
    obtain ⟨B1, rfl, hb1⟩ := abr_ok h ha hb hc h1
    obtain ⟨B2, e2, hb2⟩ := fsb_ok hb1 hf ha
    obtain ⟨B3, e3, hb3⟩ := fsb_ok hb2 hf hb
    exact ⟨B3, by rw [Option.bind_some, e2, Option.bind_some]; exact e3, hb3⟩
  next => cases ho
/-- which way a compare goes, if that is known -/
def pdec (B : aB) (F : aF) (t : Nat) (x y : aV) : Option Bool := if x = y then some (csame t) else if fhas F t x y = true then some true else if fhas F (cneg t) x y = true then some false else pmor B F t x y
theorem pdec_ok {B : aB} {F : aF} {ρ : List Int32} {t : Nat} {x y : aV} {xx yy : Int32} {b : Bool} (hB : aok B ρ) (hf : fok F ρ) (hx : aiv ρ x xx) (hy : aiv ρ y yy) (h : pdec B F t x y = some b) : (b = true → crel t xx.toInt yy.toInt) ∧ (b = false → ¬ crel t xx.toInt yy.toInt) := by
  unfold pdec at h
  split at h
  next e =>
    subst e
    have e2 := hx.fn hy
    subst e2
    cases h
    exact ⟨fun e => csame_ok e, fun e => csame_no e⟩
  next =>
    split at h
    next e =>
      cases h
      exact ⟨fun _ => fhas_ok hf e hx hy, (fun z => by cases z)⟩
    next =>
      split at h
      next e =>
        cases h
        exact ⟨(fun z => by cases z), fun _ => cneg_no (fhas_ok hf e hx hy)⟩
      next => exact pmor_ok hB hf hx hy h
/-- by the letters, as they are or as numbers -/
def pdca (B : aB) (F : aF) (t : Nat) (x y : aV) : Option Bool := match pdec B F t (anm B x) (anm B y) with
  | some b => some b
  | none => pdec B F t x y
theorem pdca_ok {B : aB} {F : aF} {ρ : List Int32} {t : Nat} {x y : aV} {xx yy : Int32} {b : Bool} (hB : aok B ρ) (hf : fok F ρ) (hx : aiv ρ x xx) (hy : aiv ρ y yy) (h : pdca B F t x y = some b) : (b = true → crel t xx.toInt yy.toInt) ∧ (b = false → ¬ crel t xx.toInt yy.toInt) := by
  unfold pdca at h
  split at h
  next b' h1 =>
    cases h
    exact pdec_ok hB hf (anm_ok hB hx) (anm_ok hB hy) h1
  next => exact pdec_ok hB hf hx hy h
def p11 (pc n t tgt : Nat) (L : aL) (x y : aV) (S : List aV) (B : aB) (K : aK) (F : aF) : Option (List aP) := match pdca B F t x y with
  | some true => some [((tgt, L, S, B, K), F)]
  | some false => some [((pc + n, L, S, B, K), F)]
  | none => (match abf F t B x y, abf F (cneg t) B x y with
    | some o1, some o2 => some ((aopt o1 tgt L S K).map (fun σ => (σ, (0, t, anm B x, anm B y, (2, 0)) :: F)) ++ (aopt o2 (pc + n) L S K).map (fun σ => (σ, (0, cneg t, anm B x, anm B y, (2, 0)) :: F)))
    | _, _ => none)
theorem p11_in {t tgt : Nat} {x y : aV} {xx yy : Int32} {ρ : List Int32} (hs : p11 pc n t tgt L x y S B K F = some l) (hB : aok B ρ) (hf : fok F ρ) (hx : aiv ρ x xx) (hy : aiv ρ y yy) :
    (crel t xx.toInt yy.toInt → ∃ B' F', ((tgt, L, S, B', K), F') ∈ l ∧ aok B' ρ ∧ fok F' ρ) ∧ (¬ crel t xx.toInt yy.toInt → ∃ B' F', ((pc + n, L, S, B', K), F') ∈ l ∧ aok B' ρ ∧ fok F' ρ) := by
  have hx1 := anm_ok hB hx
  have hy1 := anm_ok hB hy
  unfold p11 at hs
  split at hs
  next hd =>
    cases hs
    have := (pdca_ok hB hf hx hy hd).1 rfl
    exact ⟨fun _ => ⟨B, F, List.mem_cons_self, hB, hf⟩, fun hn => absurd this hn⟩
  next hd =>
    cases hs
    have := (pdca_ok hB hf hx hy hd).2 rfl
    exact ⟨fun hn => absurd hn this, fun _ => ⟨B, F, List.mem_cons_self, hB, hf⟩⟩
  next =>
    split at hs
    next o1 o2 h1 h2 =>
      cases hs
      refine ⟨fun hc => ?_, fun hc => ?_⟩
      · obtain ⟨B', rfl, hb⟩ := abf_ok hB hf hx hy hc h1
        exact ⟨B', _, List.mem_append_left _ (List.mem_map.mpr ⟨_, List.mem_cons_self, rfl⟩), hb, hf.cons ⟨xx, yy, hx1, hy1, hc⟩⟩
      · obtain ⟨B', rfl, hb⟩ := abf_ok hB hf hx hy (crel_neg hc) h2
        exact ⟨B', _, List.mem_append_right _ (List.mem_map.mpr ⟨_, List.mem_cons_self, rfl⟩), hb, hf.cons ⟨xx, yy, hx1, hy1, crel_neg hc⟩⟩
    next => cases hs
def p10 (t pc n a : Nat) (z : Int) (L : aL) (S : List aV) (B : aB) (K : aK) (F : aF) : Option (List aP) := match t, S with
  | 10, x :: S' => if x.1 ≠ 1 then p11 pc n a z.toNat L x (2, 0) S' B K F else none
  | 11, y :: x :: S' => if x.1 ≠ 1 ∧ y.1 ≠ 1 then p11 pc n a z.toNat L x y S' B K F else none
  | _, _ => none
theorem p10_ok {t : Nat} (ho : opP mt M pc t n a z ps) (hs : p10 t pc n a z L S B K F = some l) (hl : ∀ q ∈ l, aGoF bt md I0 M Q D ρ0 q) : aGoF bt md I0 M Q D ρ0 ((pc, L, S, B, K), F) := by
  intro ρ Lc Sc I hρ hL hS hB hK hf hF
  unfold p10 at hs
  split at hs
  next x S' =>
    split at hs
    next hk =>
      obtain ⟨v, Sc1, rfl, h1, h2⟩ := aSt.cons hS
      obtain ⟨xx, rfl, hx⟩ := h1.int hk
      obtain ⟨g1, g2⟩ := p11_in (yy := 0) hs hB hf hx (aiv.of rfl)
      exact ho D Lc Sc1 I Q xx (fun hc => by
        obtain ⟨B', F', m, hb, hf'⟩ := g1 hc
        exact hl _ m ρ Lc Sc1 I hρ hL h2 hb hK hf' hF) (fun hc => by
        obtain ⟨B', F', m, hb, hf'⟩ := g2 hc
        exact hl _ m ρ Lc Sc1 I hρ hL h2 hb hK hf' hF)
    next => cases hs
  next y x S' =>
    split at hs
    next hk =>
      obtain ⟨v, Sc1, rfl, h1, h2⟩ := aSt.cons hS
      obtain ⟨w, Sc2, rfl, h3, h4⟩ := aSt.cons h2
      obtain ⟨yy, rfl, hy⟩ := h1.int hk.2
      obtain ⟨xx, rfl, hx⟩ := h3.int hk.1
      obtain ⟨g1, g2⟩ := p11_in hs hB hf hx hy
      exact ho D Lc Sc2 I Q xx yy (fun hc => by
        obtain ⟨B', F', m, hb, hf'⟩ := g1 hc
        exact hl _ m ρ Lc Sc2 I hρ hL h4 hb hK hf' hF) (fun hc => by
        obtain ⟨B', F', m, hb, hf'⟩ := g2 hc
        exact hl _ m ρ Lc Sc2 I hρ hL h4 hb hK hf' hF)
    next => cases hs
  next => cases hs
/-- the greater, the less: both ways -/
def p27 (h pc n a : Nat) (L : aL) (S : List aV) (B : aB) (K : aK) (F : aF) : Option (List aP) := match S with
  | y :: x :: S' => if x.1 ≠ 1 ∧ y.1 ≠ 1 ∧ 1 ≤ h ∧ S'.length ≤ 8 then (match pdca B F (if a = 0 then 2 else 4) x y with
    | some true => some [((pc + n, L, y :: S', B, K), F)]
    | some false => some [((pc + n, L, x :: S', B, K), F)]
    | none => (match abf F (if a = 0 then 2 else 4) B x y, abf F (cneg (if a = 0 then 2 else 4)) B x y with
      | some o1, some o2 => some ((aopt o1 (pc + n) L (y :: S') K).map (fun σ => (σ, (0, (if a = 0 then 2 else 4), anm B x, anm B y, (2, 0)) :: F)) ++ (aopt o2 (pc + n) L (x :: S') K).map (fun σ => (σ, (0, cneg (if a = 0 then 2 else 4), anm B x, anm B y, (2, 0)) :: F)))
      | _, _ => none)) else none
  | _ => none
theorem p27_ok (ho : opP mt M pc 27 n a z ps) (hs : p27 h pc n a L S B K F = some l) (hl : ∀ q ∈ l, aGoF bt md I0 M Q (d + h) ρ0 q) : aGoF bt md I0 M Q (d + h) ρ0 ((pc, L, S, B, K), F) := by
  intro ρ Lc Sc I hρ hL hS hB hK hf hF
  unfold p27 at hs
  split at hs
  next y x S' =>
    split at hs
    next hh =>
      obtain ⟨k1, k2, k3, k4⟩ := hh
      obtain ⟨h', rfl⟩ : ∃ h', h = h' + 1 := ⟨h - 1, by omega⟩
      obtain ⟨v, Sc1, rfl, h1, h2⟩ := aSt.cons hS
      obtain ⟨w, Sc2, rfl, h3, h4⟩ := aSt.cons h2
      obtain ⟨yy, rfl, hy⟩ := h1.int k2
      obtain ⟨xx, rfl, hx⟩ := h3.int k1
      have hx1 := anm_ok hB hx
      have hy1 := anm_ok hB hy
      have res1 : crel (if a = 0 then 2 else 4) xx.toInt yy.toInt → (if a = 0 then (if xx < yy then yy else xx) else (if yy < xx then yy else xx)) = yy := fun c => by
        by_cases ha : a = 0
        · rw [if_pos ha] at c
          have c : xx.toInt < yy.toInt := c
          rw [if_pos ha, if_pos (Int32.lt_iff_toInt_lt.mpr c)]
        · rw [if_neg ha] at c
          have c : yy.toInt < xx.toInt := c
          rw [if_neg ha, if_pos (Int32.lt_iff_toInt_lt.mpr c)]
      have res2 : ¬ crel (if a = 0 then 2 else 4) xx.toInt yy.toInt → (if a = 0 then (if xx < yy then yy else xx) else (if yy < xx then yy else xx)) = xx := fun c => by
        by_cases ha : a = 0
        · rw [if_pos ha] at c
          have c : ¬ xx.toInt < yy.toInt := c
          rw [if_pos ha, if_neg (fun q => c (Int32.lt_iff_toInt_lt.mp q))]
        · rw [if_neg ha] at c
          have c : ¬ yy.toInt < xx.toInt := c
          rw [if_neg ha, if_neg (fun q => c (Int32.lt_iff_toInt_lt.mp q))]
      refine ho (d + h') Lc Sc2 I Q xx yy h4.good (by rw [h4.len]; exact k4) ?_
      split at hs
      next hd =>
        cases hs
        rw [res1 ((pdca_ok hB hf hx hy hd).1 rfl)]
        exact hl _ List.mem_cons_self ρ Lc _ I hρ hL ⟨aev.ofInt hy, h4⟩ hB hK hf hF
      next hd =>
        cases hs
        rw [res2 ((pdca_ok hB hf hx hy hd).2 rfl)]
        exact hl _ List.mem_cons_self ρ Lc _ I hρ hL ⟨aev.ofInt hx, h4⟩ hB hK hf hF
      next =>
        split at hs
        next o1 o2 g1 g2 =>
          cases hs
          by_cases hc : crel (if a = 0 then 2 else 4) xx.toInt yy.toInt
          · rw [res1 hc]
            obtain ⟨B', rfl, hb⟩ := abf_ok hB hf hx hy hc g1
            exact hl _ (List.mem_append_left _ (List.mem_map.mpr ⟨_, List.mem_cons_self, rfl⟩)) ρ Lc _ I hρ hL ⟨aev.ofInt hy, h4⟩ hb hK (hf.cons ⟨xx, yy, hx1, hy1, hc⟩) hF
          · rw [res2 hc]
            obtain ⟨B', rfl, hb⟩ := abf_ok hB hf hx hy (crel_neg hc) g2
            exact hl _ (List.mem_append_right _ (List.mem_map.mpr ⟨_, List.mem_cons_self, rfl⟩)) ρ Lc _ I hρ hL ⟨aev.ofInt hx, h4⟩ hb hK (hf.cons ⟨xx, yy, hx1, hy1, crel_neg hc⟩) hF
        next => cases hs
    next => cases hs
  next => cases hs
/-- a static row at a known place -/
def p30 (pc n a : Nat) (ps : List (Int × Nat)) (L : aL) (S : List aV) (B : aB) (K : aK) (F : aF) : Option (List aP) := match L[a]? with
  | some (some v) => (match abd B v with
    | some p => if 0 ≤ p.1 ∧ p.2 < (ps.length : Int) then (if p.1 = p.2 then some [((pc + n, L, (2, (ps.getD p.1.toNat (0, 0)).1) :: S, B, K), F)] else some [((pc + n, L, (amk B (ahl ps) none).1 :: S, (amk B (ahl ps) none).2, K), F)]) else none
    | none => none)
  | _ => none
theorem p30_ok (ho : opP mt M pc 30 n a z ps) (hs : p30 pc n a ps L S B K F = some l) (hl : ∀ q ∈ l, aGoF bt md I0 M Q D ρ0 q) : aGoF bt md I0 M Q D ρ0 ((pc, L, S, B, K), F) := by
  intro ρ Lc Sc I hρ hL hS hB hK hf hF
  unfold p30 at hs
  split at hs
  next v hv =>
    split at hs
    next p hp =>
      split at hs
      next hh =>
        obtain ⟨w, h1, h2⟩ := hL.2.2 a v hv
        obtain ⟨x, rfl, hx⟩ := h2.bd hp
        have hp1 := abd_ok hB hx hp
        split at hs
        next e =>
          cases hs
          refine ho D Lc Sc I Q x h1 (by omega) (by omega) (fun y hy => ?_)
          have ex : p.1.toNat = x.toInt.toNat := by rw [show p.1 = x.toInt by omega]
          rw [ex, hy] at hl
          exact hl _ List.mem_cons_self ρ Lc _ I hρ hL ⟨aev.ofInt aiv.num, hS⟩ hB hK hf hF
        next =>
          cases hs
          refine ho D Lc Sc I Q x h1 (by omega) (by omega) (fun y hy => ?_)
          have hb := ahl_ok (ps := ps) (i := x.toInt.toNat) (by omega)
          rw [hy] at hb
          obtain ⟨ρ', e1, e2, e3⟩ := amk_ok (ex := none) hB hb.1 hb.2 (fun a b h => by cases h)
          exact hl _ List.mem_cons_self ρ' Lc _ I (hρ.tr e1) (hL.mono e1) ⟨aev.ofInt e3, hS.mono e1⟩ e2 (hK.mono e1) (hf.mono e1) hF
      next => cases hs
    next => cases hs
  next => cases hs
/-- names of slots that a copy carries along -/
def kcar (x y sp dp N : Nat) (K : aK) : aK := K.filterMap (fun k => if k.1 = x ∧ sp ≤ k.2.1 ∧ k.2.1 < sp + N then some (y, dp + (k.2.1 - sp), k.2.2) else none)
def p29 (bt : aT) (md : aMd) (h pc n : Nat) (L : aL) (S : List aV) (B : aB) (K : aK) (F : aF) : Option (List aP) := match S with
  | nn :: dp :: (1, y) :: sp :: (1, x) :: S' => (match abd B sp, abd B dp, abd B nn with
    | some p, some q, some r => if 1 ≤ h ∧ S'.length ≤ 8 ∧ x.toNat ≠ y.toNat then (match acpy bt md B K x.toNat y.toNat p q r with
      | some K' => some [((pc + n, L, S', B, (if p.1 = p.2 ∧ q.1 = q.2 ∧ r.1 = r.2 then kcar x.toNat y.toNat p.1.toNat q.1.toNat r.1.toNat K else []) ++ K'), F)]
      | none => none) else none
    | _, _, _ => none)
  | _ => none
theorem p29_ok (ho : opP mt M pc 29 n a z ps) (hs : p29 bt md h pc n L S B K F = some l) (hl : ∀ q ∈ l, aGoF bt md I0 M Q (d + h) ρ0 q) : aGoF bt md I0 M Q (d + h) ρ0 ((pc, L, S, B, K), F) := by
  intro ρ Lc Sc I hρ hL hS hB hK hf hF
  unfold p29 at hs
  split at hs
  next nn dp y sp x S' =>
    split at hs
    next p q r hp hq hr =>
      split at hs
      next hh =>
        split at hs
        next K' hK' =>
          cases hs
          obtain ⟨h', rfl⟩ : ∃ h', h = h' + 1 := ⟨h - 1, by omega⟩
          obtain ⟨v1, Sc1, rfl, g1, hS1⟩ := aSt.cons hS
          obtain ⟨v2, Sc2, rfl, g2, hS2⟩ := aSt.cons hS1
          obtain ⟨v3, Sc3, rfl, g3, hS3⟩ := aSt.cons hS2
          obtain ⟨v4, Sc4, rfl, g4, hS4⟩ := aSt.cons hS3
          obtain ⟨v5, Sc5, rfl, g5, hS5⟩ := aSt.cons hS4
          obtain ⟨n1, rfl, hn⟩ := g1.bd hr
          obtain ⟨d1, rfl, hd⟩ := g2.bd hq
          obtain ⟨ky, rfl, rfl⟩ := g3.cell
          obtain ⟨s1, rfl, hsp⟩ := g4.bd hp
          obtain ⟨kx, rfl, rfl⟩ := g5.cell
          rw [Int.toNat_natCast, Int.toNat_natCast] at hK'
          simp only [Int.toNat_natCast] at hl hh
          have a1 := abd_ok hB hsp hp
          have a2 := abd_ok hB hd hq
          have a3 := abd_ok hB hn hr
          obtain ⟨m0, m1, w1, w2, w3, w4, w5, w6, w7, w8, w9⟩ := acpy_ok hK' hB hK hF a1 a2 a3
          refine ho (d + h') Lc Sc5 I Q kx ky m0 m1 s1 d1 n1 w1 w2 w3 w4 w5 w6 w7 hS5.good (by rw [hS5.len]; exact hh.2.1) (hl _ List.mem_cons_self ρ Lc _ _ hρ hL hS5 hB ?_ hf w9)
          by_cases hc : p.1 = p.2 ∧ q.1 = q.2 ∧ r.1 = r.2
          · rw [if_pos hc]
            have e1 : s1.toInt = p.1 := by omega
            have e2 : d1.toInt = q.1 := by omega
            have e3 : n1.toInt = r.1 := by omega
            refine ⟨fun k hk => ?_, fun c j hn => w8.2 c j (fun a ha => hn a (List.mem_append_right _ ha))⟩
            rcases List.mem_append.mp hk with hk | hk
            · unfold kcar at hk
              obtain ⟨k0, hk0, hk1⟩ := List.mem_filterMap.mp hk
              split at hk1
              next hk2 =>
                cases hk1
                obtain ⟨b1, b2, b3⟩ := hk2
                show aiv ρ k0.2.2 (gcp I kx ky s1.toInt.toNat d1.toInt.toNat n1.toInt.toNat ky (q.1.toNat + (k0.2.1 - p.1.toNat)))
                rw [gcp_at, if_pos ⟨rfl, by rw [e2]; omega, by rw [e2, e3]; omega⟩, e1, e2]
                have e4 : p.1.toNat + (q.1.toNat + (k0.2.1 - p.1.toNat) - q.1.toNat) = k0.2.1 := by omega
                rw [e4, ← b1]
                exact hK.1 k0 hk0
              next => cases hk1
            · exact w8.1 k hk
          · rw [if_neg hc]
            exact w8
        next => cases hs
      next => cases hs
    next => cases hs
  next => cases hs
end PW
