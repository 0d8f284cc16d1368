/-! ===== ranks ===== -/
def avx (ρ : List Int32) (a : aV) : Int32 := match a.1 with
  | 0 => (ρ[a.2.toNat]?).getD 0
  | _ => Int32.ofInt a.2
theorem avx_of {ρ : List Int32} {a : aV} {x : Int32} (h : aiv ρ a x) : avx ρ a = x := by
  rcases h with ⟨h1, h2⟩ | ⟨h1, h2⟩
  · simp only [avx, h1, h2]
    rfl
  · simp only [avx, h1]
    rw [← h2, Int32.ofInt_toInt]
/-- a number c less a value -/
abbrev aR : Type := List (Int × aV)
def rW : Nat := 1099511627776
def rc (ρ : List Int32) (q : Int × aV) : Nat := min (rW - 1) (q.1 - (avx ρ q.2).toInt).toNat
def rmu (ρ : List Int32) : aR → Nat
  | [] => 0
  | q :: r => rc ρ q * rW ^ r.length + rmu ρ r
theorem rc_lt (ρ : List Int32) (q : Int × aV) : rc ρ q < rW := by unfold rc rW; omega
theorem rmu_lt (ρ : List Int32) : ∀ l : aR, rmu ρ l < rW ^ l.length
  | [] => by simp [rmu]
  | q :: r => by
    have ih := rmu_lt ρ r
    have h := rc_lt ρ q
    have h2 : (rc ρ q + 1) * rW ^ r.length ≤ rW * rW ^ r.length := Nat.mul_le_mul_right _ h
    rw [Nat.succ_mul] at h2
    show rc ρ q * rW ^ r.length + rmu ρ r < rW ^ (r.length + 1)
    rw [Nat.pow_succ, Nat.mul_comm (rW ^ r.length)]
    omega
/-- all values of a rank are there -/
def aRok (ρ : List Int32) (l : aR) : Prop := ∀ q ∈ l, ∃ x, aiv ρ q.2 x
/-- (c1, a) is less than (c2, b) -/
def altc (B : aB) (c1 : Int) (a : aV) (c2 : Int) (b : aV) : Bool := match abd B a, abd B b with
  | some p, some q => decide (c2 ≤ 1000000) && decide (q.2 < c2) && (decide (c1 - p.1 < c2 - q.2) || (match a.1 with
    | 0 => (match B[a.2.toNat]? with
      | some e => (match e.2.2 with
        | some (b', y) => decide (b' = b) && decide (y.1 = 2) && decide (aLo ≤ q.1 + y.2) && decide (q.2 + y.2 ≤ aHi) && decide (c1 - y.2 < c2)
        | none => false)
      | none => false)
    | _ => false))
  | _, _ => false
theorem altc_ok {B : aB} {ρ : List Int32} {c1 c2 : Int} {a b : aV} {x y : Int32} (hB : aok B ρ) (ha : aiv ρ a x) (hb : aiv ρ b y) (h : altc B c1 a c2 b = true) : c1 - x.toInt < c2 - y.toInt ∧ 0 < c2 - y.toInt ∧ c2 ≤ 1000000 := by
  unfold altc at h
  split at h
  next p q hp hq =>
    have p1 := abd_ok hB ha hp
    have q1 := abd_ok hB hb hq
    simp only [Bool.and_eq_true, Bool.or_eq_true, decide_eq_true_eq] at h
    obtain ⟨⟨h1, h2⟩, h3⟩ := h
    refine ⟨?_, by omega, h1⟩
    rcases h3 with h3 | h3
    · omega
    · split at h3
      next ha0 =>
        split at h3
        next e he =>
          split at h3
          next b' y' hey =>
            simp only [Bool.and_eq_true, decide_eq_true_eq] at h3
            obtain ⟨⟨⟨⟨g1, g2⟩, g3⟩, g4⟩, g5⟩ := h3
            subst g1
            rcases ha with ⟨-, ha⟩ | ⟨ha, -⟩
            · obtain ⟨u, v, w1, w2, w3⟩ := (hB.2 _ e x he ha).2.2 _ _ hey
              have eu : u = y := w1.fn hb
              subst eu
              have ev : v.toInt = y'.2 := by
                rcases w2 with ⟨w2, -⟩ | ⟨-, w2⟩
                · omega
                · exact w2
              have ex : x.toInt = u.toInt + y'.2 := by
                rw [w3, Int32.toInt_add, ev]
                exact a_bm (by omega) (by omega)
              omega
            · omega
          next => cases h3
        next => cases h3
      next => cases h3
  next => cases h
def alex (B : aB) : aR → aR → Bool
  | p :: r, q :: s => altc B p.1 p.2 q.1 q.2 || (decide (p = q) && alex B r s)
  | _, _ => false
theorem alex_ok {B : aB} {ρ : List Int32} (hB : aok B ρ) : ∀ {r s : aR}, r.length = s.length → aRok ρ r → aRok ρ s → alex B r s = true → rmu ρ r < rmu ρ s
  | p :: r, q :: s, hl, hr, hs, h => by
    have hl2 : r.length = s.length := by simpa using hl
    simp only [alex, Bool.or_eq_true, Bool.and_eq_true, decide_eq_true_eq] at h
    simp only [rmu]
    rcases h with h | ⟨rfl, h⟩
    · obtain ⟨x, hx⟩ := hr p List.mem_cons_self
      obtain ⟨y, hy⟩ := hs q List.mem_cons_self
      obtain ⟨g1, g2, g3⟩ := altc_ok hB hx hy h
      have hy1 := a_rng y
      have e : rc ρ p + 1 ≤ rc ρ q := by
        unfold rc
        rw [avx_of hx, avx_of hy]
        unfold rW
        unfold aLo at hy1
        omega
      have h1 := rmu_lt ρ r
      have h2 : (rc ρ p + 1) * rW ^ s.length ≤ rc ρ q * rW ^ s.length := Nat.mul_le_mul_right _ e
      rw [Nat.succ_mul] at h2
      rw [hl2] at h1 ⊢
      omega
    · have ih := alex_ok hB hl2 (fun q' hq => hr q' (List.mem_cons_of_mem _ hq)) (fun q' hq => hs q' (List.mem_cons_of_mem _ hq)) h
      rw [hl2]
      omega
  | [], _, _, _, _, h => by simp [alex] at h
  | _ :: _, [], _, _, _, h => by simp [alex] at h
/-! ===== labels ===== -/
abbrev aLab : Type := Nat × aL × List aV × aB × aK × aR
def prL : aL → aL → Option (List (aV × aV))
  | [], _ => some []
  | none :: r, _ :: s => prL r s
  | some y :: r, some x :: s => (prL r s).map (fun l => (y, x) :: l)
  | _, _ => none
def prS : List aV → List aV → Option (List (aV × aV))
  | [], [] => some []
  | y :: r, x :: s => (prS r s).map (fun l => (y, x) :: l)
  | _, _ => none
def prK : aK → aK → Option (List (aV × aV))
  | [], _ => some []
  | k :: r, K => match kget K k.1 k.2.1 with
    | some x => (prK r K).map (fun l => (k.2.2, x) :: l)
    | none => none
/-- the letter's value at the place where the label has it -/
def ath (l : List (aV × aV)) (t : Nat) : aV := ((l.find? (fun q => decide (q.1 = (0, (t : Int))))).map (fun q => q.2)).getD (1, 0)
def apr (B : aB) (m : Nat) (l : List (aV × aV)) (q : aV × aV) : Bool := match q.1.1 with
  | 0 => decide (0 ≤ q.1.2) && decide (q.1.2.toNat < m) && decide (ath l q.1.2.toNat = q.2)
  | 1 => decide (q.1 = q.2)
  | 2 => decide (abd B q.2 = some (q.1.2, q.1.2))
  | _ => false
def ale (B : aB) (l : List (aV × aV)) (t : Nat) (e : aE) : Bool := (match abd B (ath l t) with
  | some b => asub b (e.1, e.2.1)
  | none => false) && decide (e.2.2 = none)
def alen (B : aB) (l : List (aV × aV)) : Nat → aB → Bool
  | _, [] => true
  | t, e :: r => ale B l t e && alen B l (t + 1) r
/-- slots that a label names are named -/
def aens (bt : aT) : aB → aK → aK → aB × aK
  | B, K, [] => (B, K)
  | B, K, k :: r => aens bt (aldc bt B K k.1 k.2.1).2.1 (aldc bt B K k.1 k.2.1).2.2 r
theorem aens_ok {bt : aT} {I : gI} : ∀ {l : aK} {B : aB} {K : aK} {ρ : List Int32}, aok B ρ → aheap bt K ρ I → ∃ ρ', aext ρ ρ' ∧ aok (aens bt B K l).1 ρ' ∧ aheap bt (aens bt B K l).2 ρ' I
  | [], B, K, ρ, hB, hK => ⟨ρ, aext.rf, hB, hK⟩
  | k :: r, B, K, ρ, hB, hK => by
    obtain ⟨ρ1, e1, e2, e3, -⟩ := aldc_ok (c := k.1) (j := k.2.1) hB hK
    obtain ⟨ρ2, f1, f2, f3⟩ := aens_ok (l := r) e2 e3
    exact ⟨ρ2, e1.tr f1, f2, f3⟩
def aths (l : List (aV × aV)) (r : aR) : aR := r.map (fun q => (q.1, match q.2.1 with
  | 0 => ath l q.2.2.toNat
  | _ => q.2))
def alab1 (bt : aT) (B : aB) (K : aK) (L : aL) (S : List aV) (rX : aR) (y : aLab) : Bool := match prL y.2.1 L, prS y.2.2.1 S, prK y.2.2.2.2.1 K with
  | some l1, some l2, some l3 => decide (y.2.1.length ≤ L.length) && (l1 ++ l2 ++ l3).all (apr B y.2.2.2.1.length (l1 ++ l2 ++ l3)) && alen B (l1 ++ l2 ++ l3) 0 y.2.2.2.1 && K.all (fun k => y.2.2.2.2.1.any (fun k' => decide (k'.1 = k.1) && decide (k'.2.1 = k.2.1)) || k1 bt B k) &&
      decide (y.2.2.2.2.2.length = rX.length) && y.2.2.2.2.2.all (fun q => (decide (q.2.1 = 0) && decide (0 ≤ q.2.2) && decide (q.2.2.toNat < y.2.2.2.1.length)) || decide (q.2 = (2, 0))) && alex B (aths (l1 ++ l2 ++ l3) y.2.2.2.2.2) rX
  | _, _, _ => false
def alab (bt : aT) (pc : Nat) (B : aB) (K : aK) (L : aL) (S : List aV) (rX : aR) (y : aLab) : Bool := decide (y.1 = pc) && alab1 bt (aens bt B K y.2.2.2.2.1).1 (aens bt B K y.2.2.2.2.1).2 L S rX y
/-- what a label asks of a state -/
def aSat (bt : aT) (ρ : List Int32) (y : aLab) (Lc : gL) (Sc : List Value) (I : gI) : Prop := aLc ρ y.2.1 Lc ∧ aSt ρ y.2.2.1 Sc ∧ aok y.2.2.2.1 ρ ∧ aheap bt y.2.2.2.2.1 ρ I
theorem prL_ok {ρ ρ' : List Int32} : ∀ {Y X : aL} {l : List (aV × aV)}, prL Y X = some l → (∀ q ∈ l, ∀ v, aev ρ q.2 v → aev ρ' q.1 v) → ∀ (i : Nat) (a : aV), Y[i]? = some (some a) → ∃ b, X[i]? = some (some b) ∧ ∀ v, aev ρ b v → aev ρ' a v
  | [], _, _, _, _, i, a, h => by simp at h
  | none :: r, x :: s, l, hl, ht, 0, a, h => by simp at h
  | none :: r, x :: s, l, hl, ht, i + 1, a, h => by
    have h : r[i]? = some (some a) := by simpa using h
    obtain ⟨b, h1, h2⟩ := prL_ok (Y := r) (X := s) (by simpa [prL] using hl) ht i a h
    exact ⟨b, by simpa using h1, h2⟩
  | some y :: r, some x :: s, l, hl, ht, i, a, h => by
    simp only [prL, Option.map_eq_some_iff] at hl
    obtain ⟨l', hl', rfl⟩ := hl
    match i, h with
    | 0, h =>
      have e : y = a := by simpa using h
      subst e
      exact ⟨x, rfl, ht _ List.mem_cons_self⟩
    | i + 1, h =>
      have h : r[i]? = some (some a) := by simpa using h
      obtain ⟨b, h1, h2⟩ := prL_ok hl' (fun q hq => ht q (List.mem_cons_of_mem _ hq)) i a h
      exact ⟨b, by simpa using h1, h2⟩
  | none :: _, [], _, hl, _, _, _, _ => by simp [prL] at hl
  | some _ :: _, [], _, hl, _, _, _, _ => by simp [prL] at hl
  | some _ :: _, none :: _, _, hl, _, _, _, _ => by simp [prL] at hl
theorem prS_ok {ρ ρ' : List Int32} : ∀ {Y X : List aV} {l : List (aV × aV)} {Sc : List Value}, prS Y X = some l → (∀ q ∈ l, ∀ v, aev ρ q.2 v → aev ρ' q.1 v) → aSt ρ X Sc → aSt ρ' Y Sc
  | [], [], _, [], _, _, _ => trivial
  | y :: r, x :: s, l, v :: Sc, hl, ht, hS => by
    simp only [prS, Option.map_eq_some_iff] at hl
    obtain ⟨l', hl', rfl⟩ := hl
    exact ⟨ht _ List.mem_cons_self v hS.1, prS_ok hl' (fun q hq => ht q (List.mem_cons_of_mem _ hq)) hS.2⟩
  | [], [], _, _ :: _, _, _, hS => hS.elim
  | _ :: _, _ :: _, _, [], _, _, hS => hS.elim
  | [], _ :: _, _, _, hl, _, _ => by simp [prS] at hl
  | _ :: _, [], _, _, hl, _, _ => by simp [prS] at hl
theorem prK_ok {ρ ρ' : List Int32} {K : aK} : ∀ {Y : aK} {l : List (aV × aV)}, prK Y K = some l → (∀ q ∈ l, ∀ v, aev ρ q.2 v → aev ρ' q.1 v) → ∀ k ∈ Y, ∃ x, (k.1, k.2.1, x) ∈ K ∧ ∀ v, aev ρ x v → aev ρ' k.2.2 v
  | [], _, _, _, k, hk => absurd hk List.not_mem_nil
  | k0 :: r, l, hl, ht, k, hk => by
    simp only [prK] at hl
    split at hl
    next x hx =>
      simp only [Option.map_eq_some_iff] at hl
      obtain ⟨l', hl', rfl⟩ := hl
      rcases List.mem_cons.mp hk with rfl | hk
      · exact ⟨x, kget_some hx, ht _ List.mem_cons_self⟩
      · exact prK_ok hl' (fun q hq => ht q (List.mem_cons_of_mem _ hq)) k hk
    next => cases hl
