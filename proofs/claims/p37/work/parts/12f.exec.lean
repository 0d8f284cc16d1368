theorem ath_some {l : List (aV × aV)} {t : Nat} {a : aV} (h : ath l t = a) (ha : a.1 ≠ 1) : ((0, (t : Int)), a) ∈ l := by
  unfold ath at h
  cases hf : l.find? (fun q => decide (q.1 = (0, (t : Int)))) with
  | none =>
    rw [hf] at h
    have h : (1, 0) = a := h
    rw [← h] at ha
    exact absurd rfl ha
  | some q =>
    rw [hf] at h
    have h : q.2 = a := h
    have e : q.1 = (0, (t : Int)) := by simpa using List.find?_some hf
    have := List.mem_of_find?_eq_some hf
    rw [← h, ← e]
    exact this
theorem alen_ok {B : aB} {l : List (aV × aV)} : ∀ {r : aB} {t : Nat}, alen B l t r = true → ∀ (i : Nat) (e : aE), r[i]? = some e → ale B l (t + i) e = true
  | [], _, _, i, e, h => by simp at h
  | e0 :: r, t, h, 0, e, hi => by
    simp only [alen, Bool.and_eq_true] at h
    have : e0 = e := by simpa using hi
    subst this
    exact h.1
  | e0 :: r, t, h, i + 1, e, hi => by
    simp only [alen, Bool.and_eq_true] at h
    have := alen_ok h.2 i e (by simpa using hi)
    rw [show t + (i + 1) = t + 1 + i by omega]
    exact this
/-- what is known of each pair: the state's side has a value -/
theorem pr_val {ρ : List Int32} {B : aB} {a : aV} {p : Int × Int} (hB : aok B ρ) (hb : abd B a = some p) (h2 : a.1 = 2 → ∃ x : Int32, x.toInt = a.2) : ∃ x, aiv ρ a x := by
  unfold abd at hb
  split at hb
  next h0 =>
    obtain ⟨e, he, -⟩ := Option.map_eq_some_iff.mp hb
    have hl : a.2.toNat < ρ.length := by
      rw [hB.1]
      exact (List.getElem?_eq_some_iff.mp he).1
    exact ⟨ρ[a.2.toNat], Or.inl ⟨h0, List.getElem?_eq_getElem hl⟩⟩
  next h0 =>
    obtain ⟨x, hx⟩ := h2 h0
    exact ⟨x, Or.inr ⟨h0, hx⟩⟩
  next => cases hb
theorem prL_has {ρ : List Int32} : ∀ {Y X : aL} {l : List (aV × aV)}, prL Y X = some l → (∀ (i : Nat) (a : aV), X[i]? = some (some a) → ∃ v, aev ρ a v) → ∀ q ∈ l, ∃ v, aev ρ q.2 v
  | [], _, _, hl, _, q, hq => by
    simp only [prL, Option.some.injEq] at hl
    subst hl
    exact absurd hq List.not_mem_nil
  | none :: r, x :: s, l, hl, h, q, hq => prL_has (Y := r) (X := s) (by simpa [prL] using hl) (fun i a hi => h (i + 1) a (by simpa using hi)) q hq
  | some y :: r, some x :: s, l, hl, h, q, hq => by
    simp only [prL, Option.map_eq_some_iff] at hl
    obtain ⟨l', hl', rfl⟩ := hl
    rcases List.mem_cons.mp hq with rfl | hq
    · exact h 0 x rfl
    · exact prL_has hl' (fun i a hi => h (i + 1) a (by simpa using hi)) q hq
  | none :: _, [], _, hl, _, _, _ => by simp [prL] at hl
  | some _ :: _, [], _, hl, _, _, _ => by simp [prL] at hl
  | some _ :: _, none :: _, _, hl, _, _, _ => by simp [prL] at hl
theorem prS_has {ρ : List Int32} : ∀ {Y X : List aV} {l : List (aV × aV)} {Sc : List Value}, prS Y X = some l → aSt ρ X Sc → ∀ q ∈ l, ∃ v, aev ρ q.2 v
  | [], [], _, _, hl, _, q, hq => by
    simp only [prS, Option.some.injEq] at hl
    subst hl
    exact absurd hq List.not_mem_nil
  | y :: r, x :: s, l, v :: Sc, hl, hS, q, hq => by
    simp only [prS, Option.map_eq_some_iff] at hl
    obtain ⟨l', hl', rfl⟩ := hl
    rcases List.mem_cons.mp hq with rfl | hq
    · exact ⟨v, hS.1⟩
    · exact prS_has hl' hS.2 q hq
  | _ :: _, _ :: _, _, [], _, hS, _, _ => hS.elim
  | [], _ :: _, _, _, hl, _, _, _ => by simp [prS] at hl
  | _ :: _, [], _, _, hl, _, _, _ => by simp [prS] at hl
theorem prK_has {ρ : List Int32} {K : aK} {I : gI} (hK : ∀ q ∈ K, aiv ρ q.2.2 (I q.1 q.2.1)) : ∀ {Y : aK} {l : List (aV × aV)}, prK Y K = some l → ∀ q ∈ l, ∃ v, aev ρ q.2 v
  | [], _, hl, q, hq => by
    simp only [prK, Option.some.injEq] at hl
    subst hl
    exact absurd hq List.not_mem_nil
  | k0 :: r, l, hl, q, hq => by
    simp only [prK] at hl
    split at hl
    next x hx =>
      simp only [Option.map_eq_some_iff] at hl
      obtain ⟨l', hl', rfl⟩ := hl
      rcases List.mem_cons.mp hq with rfl | hq
      · exact ⟨_, aev.ofInt (hK _ (kget_some hx))⟩
      · exact prK_has hK hl' q hq
    next => cases hl
theorem rmu_map {ρ ρ' : List Int32} {f : Int × aV → Int × aV} : ∀ {r : aR}, (∀ q ∈ r, rc ρ' q = rc ρ (f q)) → rmu ρ' r = rmu ρ (r.map f)
  | [], _ => rfl
  | q :: r, h => by
    have ih := rmu_map (f := f) (r := r) (fun q' hq => h q' (List.mem_cons_of_mem _ hq))
    simp only [rmu, List.map_cons, List.length_map, h q List.mem_cons_self, ih]
theorem alab1_ok {bt : aT} {B : aB} {K : aK} {L : aL} {S : List aV} {rX : aR} {y : aLab} {ρ : List Int32} {Lc : gL} {Sc : List Value} {I : gI} (h : alab1 bt B K L S rX y = true) (hL : aLc ρ L Lc) (hS : aSt ρ S Sc) (hB : aok B ρ) (hK : aheap bt K ρ I) (hX : aRok ρ rX) :
    ∃ ρ', aSat bt ρ' y Lc Sc I ∧ rmu ρ' y.2.2.2.2.2 < rmu ρ rX := by
  unfold alab1 at h
  split at h
  next l1 l2 l3 h1 h2 h3 =>
    simp only [Bool.and_eq_true, decide_eq_true_eq] at h
    obtain ⟨⟨⟨⟨⟨⟨g1, g2⟩, g3⟩, g4⟩, g5⟩, g6⟩, g7⟩ := h
    generalize hl : l1 ++ l2 ++ l3 = l at g2 g3 g7
    have hval : ∀ q ∈ l, ∃ v, aev ρ q.2 v := by
      intro q hq
      rw [← hl] at hq
      rcases List.mem_append.mp hq with hq | hq
      · rcases List.mem_append.mp hq with hq | hq
        · exact prL_has h1 (fun i a hi => by
            obtain ⟨v, -, hv⟩ := hL.2.2 i a hi
            exact ⟨v, hv⟩) q hq
        · exact prS_has h2 hS q hq
      · exact prK_has hK.1 h3 q hq
    have hint : ∀ t a p, ath l t = a → abd B a = some p → ∃ x, aiv ρ a x := by
      intro t a p ht hp
      have ha : a.1 ≠ 1 := fun e => by simp [abd, e] at hp
      obtain ⟨v, hv⟩ := hval _ (ath_some ht ha)
      obtain ⟨x, -, hx⟩ := hv.int ha
      exact ⟨x, hx⟩
    have hle : ∀ t, t < y.2.2.2.1.length → ∃ x e, aiv ρ (ath l t) x ∧ y.2.2.2.1[t]? = some e ∧ ain (e.1, e.2.1) x ∧ e.2.2 = none := by
      intro t ht
      have he : y.2.2.2.1[t]? = some y.2.2.2.1[t] := List.getElem?_eq_getElem ht
      have ha := alen_ok g3 t _ he
      rw [Nat.zero_add] at ha
      simp only [ale, Bool.and_eq_true, decide_eq_true_eq] at ha
      obtain ⟨ha1, ha2⟩ := ha
      split at ha1
      next b hb =>
        obtain ⟨x, hx⟩ := hint t _ b rfl hb
        exact ⟨x, _, hx, he, asub_ok ha1 (abd_ok hB hx hb), ha2⟩
      next => cases ha1
    refine ⟨(List.range y.2.2.2.1.length).map (fun t => avx ρ (ath l t)), ?_, ?_⟩
    · have hget : ∀ t, t < y.2.2.2.1.length → ((List.range y.2.2.2.1.length).map (fun t => avx ρ (ath l t)))[t]? = some (avx ρ (ath l t)) := fun t ht => by
        simp [ht]
      have htr : ∀ q ∈ l, ∀ v, aev ρ q.2 v → aev ((List.range y.2.2.2.1.length).map (fun t => avx ρ (ath l t))) q.1 v := by
        intro q hq v hv
        have ha := List.all_eq_true.mp g2 q hq
        unfold apr at ha
        split at ha
        next e0 =>
          simp only [Bool.and_eq_true, decide_eq_true_eq] at ha
          obtain ⟨⟨a1, a2⟩, a3⟩ := ha
          obtain ⟨x, e, w1, -, -, -⟩ := hle _ a2
          rw [a3] at w1
          have hne : q.2.1 ≠ 1 := by rcases w1 with ⟨w, -⟩ | ⟨w, -⟩ <;> omega
          obtain ⟨x', rfl, hx'⟩ := hv.int hne
          have ex := w1.fn hx'
          subst ex
          refine aev.ofInt (Or.inl ⟨e0, ?_⟩)
          rw [hget _ a2, a3, avx_of w1]
        next e1 =>
          have ha : q.1 = q.2 := by simpa using ha
          rw [ha]
          have : q.2.1 = 1 := by rw [← ha]; exact e1
          rcases hv with ⟨x, -, hx⟩ | hv
          · rcases hx with ⟨hx, -⟩ | ⟨hx, -⟩ <;> omega
          · exact Or.inr hv
        next e2 =>
          have ha : abd B q.2 = some (q.1.2, q.1.2) := by simpa using ha
          obtain ⟨x, rfl, hx⟩ := hv.bd ha
          have := abd_ok hB hx ha
          exact aev.ofInt (Or.inr ⟨e2, by omega⟩)
        next => cases ha
      refine ⟨⟨hL.1, Nat.le_trans g1 hL.2.1, fun i a hi => ?_⟩, prS_ok h2 (fun q hq => htr q (by rw [← hl]; exact List.mem_append_left _ (List.mem_append_right _ hq))) hS, ⟨by simp, fun i e x he hx => ?_⟩, ⟨fun k hk => ?_, fun c j hn => ?_⟩⟩
      · obtain ⟨b, hb, ht⟩ := prL_ok h1 (fun q hq => htr q (by rw [← hl]; exact List.mem_append_left _ (List.mem_append_left _ hq))) i a hi
        obtain ⟨v, hv1, hv2⟩ := hL.2.2 i b hb
        exact ⟨v, hv1, ht v hv2⟩
      · have hil : i < y.2.2.2.1.length := (List.getElem?_eq_some_iff.mp he).1
        rw [hget i hil] at hx
        cases hx
        obtain ⟨x, e', w1, w2, w3, w4⟩ := hle i hil
        rw [he] at w2
        cases w2
        rw [avx_of w1]
        exact ⟨w3.1, w3.2, fun a b hab => by rw [w4] at hab; cases hab⟩
      · obtain ⟨x, hx1, hx2⟩ := prK_ok h3 (fun q hq => htr q (by rw [← hl]; exact List.mem_append_right _ hq)) k hk
        exact (hx2 _ (aev.ofInt (hK.1 _ hx1))).iv
      · by_cases hm : ∃ a, (c, j, a) ∈ K
        · obtain ⟨a, ha⟩ := hm
          have hk := List.all_eq_true.mp g4 _ ha
          simp only [Bool.or_eq_true, List.any_eq_true, Bool.and_eq_true, decide_eq_true_eq] at hk
          rcases hk with ⟨k', hk', e1, e2⟩ | hk
          · exact absurd (show (c, j, k'.2.2) ∈ y.2.2.2.2.1 by rw [← e1, ← e2]; exact hk') (hn _)
          · exact k1_ok (q := (c, j, a)) hB hk (hK.1 _ ha)
        · exact hK.2 c j (fun a ha => hm ⟨a, ha⟩)
    · have hlen : (aths l y.2.2.2.2.2).length = rX.length := by
        unfold aths
        rw [List.length_map]
        exact g5
      have hkey : ∀ q ∈ y.2.2.2.2.2, rc ((List.range y.2.2.2.1.length).map (fun t => avx ρ (ath l t))) q = rc ρ (q.1, match q.2.1 with
          | 0 => ath l q.2.2.toNat
          | _ => q.2) ∧ ∃ x, aiv ρ (match q.2.1 with
          | 0 => ath l q.2.2.toNat
          | _ => q.2) x := by
        intro q hq
        have hg := List.all_eq_true.mp g6 q hq
        simp only [Bool.or_eq_true, Bool.and_eq_true, decide_eq_true_eq] at hg
        rcases hg with ⟨⟨e1, e2⟩, e3⟩ | e
        · obtain ⟨x, e', w1, -, -, -⟩ := hle _ e3
          rw [e1]
          refine ⟨?_, x, w1⟩
          show min _ (q.1 - (avx _ q.2).toInt).toNat = min _ (q.1 - (avx ρ (ath l q.2.2.toNat)).toInt).toNat
          have : avx ((List.range y.2.2.2.1.length).map (fun t => avx ρ (ath l t))) q.2 = avx ρ (ath l q.2.2.toNat) := by
            show (match q.2.1 with
              | 0 => (((List.range y.2.2.2.1.length).map (fun t => avx ρ (ath l t)))[q.2.2.toNat]?).getD 0
              | _ => Int32.ofInt q.2.2) = _
            rw [e1]
            simp [e3]
          rw [this]
        · obtain ⟨c, a⟩ := q
          have e : a = (2, 0) := e
          subst e
          exact ⟨rfl, 0, Or.inr ⟨rfl, rfl⟩⟩
      rw [rmu_map (ρ := ρ) (fun q hq => (hkey q hq).1)]
      refine alex_ok hB hlen (fun q hq => ?_) hX g7
      obtain ⟨q0, hq0, rfl⟩ := List.mem_map.mp hq
      exact (hkey q0 hq0).2
  next => cases h
