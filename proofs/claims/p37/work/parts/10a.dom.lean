/-! ===== a walk by bounds: numbers are letters between bounds, references are known cells ===== -/
/-- (0, i): the letter i; (1, c): the cell c; (2, z): the number z -/
abbrev aV : Type := Nat × Int
/-- of a letter: the least, the most, and two whose sum it is -/
abbrev aE : Type := Int × Int × Option (aV × aV)
abbrev aB : Type := List aE
/-- slots whose number is known by name: cell, place, what it holds -/
abbrev aK : Type := List (Nat × Nat × aV)
abbrev aL : Type := List (Option aV)
def aLo : Int := -2147483648
def aHi : Int := 2147483647
theorem a_rng (x : Int32) : aLo ≤ x.toInt ∧ x.toInt ≤ aHi := by
  have h1 := Int32.le_toInt x
  have h2 := Int32.toInt_lt x
  unfold aLo aHi
  omega
theorem a_bm {z : Int} (h1 : aLo ≤ z) (h2 : z ≤ aHi) : z.bmod (2 ^ 32) = z := by
  unfold aLo aHi at *
  exact Int.bmod_eq_of_le (by omega) (by omega)
def aiv (ρ : List Int32) (a : aV) (x : Int32) : Prop := (a.1 = 0 ∧ ρ[a.2.toNat]? = some x) ∨ (a.1 = 2 ∧ x.toInt = a.2)
def aev (ρ : List Int32) (a : aV) (v : Value) : Prop := (∃ x, v = .int x ∧ aiv ρ a x) ∨ (∃ c : Nat, v = .ref c ∧ a = (1, (c : Int)))
def aext (ρ ρ' : List Int32) : Prop := ∀ (i : Nat) (x : Int32), ρ[i]? = some x → ρ'[i]? = some x
theorem aext.rf {ρ : List Int32} : aext ρ ρ := fun _ _ h => h
theorem aext.tr {ρ ρ' ρ'' : List Int32} (h : aext ρ ρ') (h' : aext ρ' ρ'') : aext ρ ρ'' := fun i x q => h' i x (h i x q)
theorem aext.push {ρ : List Int32} {v : Int32} : aext ρ (ρ ++ [v]) := fun i x h => by
  rw [List.getElem?_append_left (List.getElem?_eq_some_iff.mp h).1]
  exact h
theorem aiv.mono {ρ ρ' : List Int32} {a : aV} {x : Int32} (h : aiv ρ a x) (e : aext ρ ρ') : aiv ρ' a x := h.imp (fun q => ⟨q.1, e _ _ q.2⟩) id
theorem aev.mono {ρ ρ' : List Int32} {a : aV} {v : Value} (h : aev ρ a v) (e : aext ρ ρ') : aev ρ' a v := h.imp (fun ⟨x, q, r⟩ => ⟨x, q, r.mono e⟩) id
theorem aiv.fn {ρ : List Int32} {a : aV} {x y : Int32} (h : aiv ρ a x) (h' : aiv ρ a y) : x = y := by
  rcases h with ⟨h1, h2⟩ | ⟨h1, h2⟩ <;> rcases h' with ⟨g1, g2⟩ | ⟨g1, g2⟩
  · rw [h2] at g2
    exact Option.some.inj g2
  · omega
  · omega
  · exact Int32.toInt_inj.mp (h2.trans g2.symm)
def aok (B : aB) (ρ : List Int32) : Prop := ρ.length = B.length ∧ ∀ (i : Nat) (e : aE) (x : Int32), B[i]? = some e → ρ[i]? = some x → e.1 ≤ x.toInt ∧ x.toInt ≤ e.2.1 ∧ ∀ a b, e.2.2 = some (a, b) → ∃ y z, aiv ρ a y ∧ aiv ρ b z ∧ x = y + z
theorem aok.push {B : aB} {ρ : List Int32} {lo hi : Int} {v : Int32} {ex : Option (aV × aV)} (h : aok B ρ) (h1 : lo ≤ v.toInt) (h2 : v.toInt ≤ hi) (hx : ∀ a b, ex = some (a, b) → ∃ y z, aiv ρ a y ∧ aiv ρ b z ∧ v = y + z) : aok (B ++ [(lo, hi, ex)]) (ρ ++ [v]) := by
  refine ⟨by simp [h.1], fun i e x hi1 hx1 => ?_⟩
  by_cases hl : i < B.length
  · rw [List.getElem?_append_left hl] at hi1
    rw [List.getElem?_append_left (by rw [h.1]; exact hl)] at hx1
    obtain ⟨q1, q2, q3⟩ := h.2 i e x hi1 hx1
    refine ⟨q1, q2, fun a b he => ?_⟩
    obtain ⟨y, z, r1, r2, r3⟩ := q3 a b he
    exact ⟨y, z, r1.mono aext.push, r2.mono aext.push, r3⟩
  · have e1 : i = B.length := by
      have := (List.getElem?_eq_some_iff.mp hi1).1
      simp at this
      omega
    subst e1
    have e2 : (lo, hi, ex) = e := by simpa using hi1
    have e3 : v = x := by
      rw [← h.1] at hx1
      simpa using hx1
    subst e2
    subst e3
    refine ⟨h1, h2, fun a b he => ?_⟩
    obtain ⟨y, z, r1, r2, r3⟩ := hx a b he
    exact ⟨y, z, r1.mono aext.push, r2.mono aext.push, r3⟩
/-- a new number between bounds: a letter of its own, or the number itself -/
def amk (B : aB) (b : Int × Int) (ex : Option (aV × aV)) : aV × aB := if b.1 = b.2 then ((2, b.1), B) else ((0, (B.length : Int)), B ++ [(b.1, b.2, ex)])
theorem amk_ok {B : aB} {ρ : List Int32} {b : Int × Int} {v : Int32} {ex : Option (aV × aV)} (h : aok B ρ) (h1 : b.1 ≤ v.toInt) (h2 : v.toInt ≤ b.2) (hx : ∀ a b, ex = some (a, b) → ∃ y z, aiv ρ a y ∧ aiv ρ b z ∧ v = y + z) :
    ∃ ρ', aext ρ ρ' ∧ aok (amk B b ex).2 ρ' ∧ aiv ρ' (amk B b ex).1 v := by
  unfold amk
  by_cases hb : b.1 = b.2
  · rw [if_pos hb]
    exact ⟨ρ, aext.rf, h, Or.inr ⟨rfl, by show v.toInt = b.1; omega⟩⟩
  · rw [if_neg hb]
    refine ⟨ρ ++ [v], aext.push, h.push h1 h2 hx, Or.inl ⟨rfl, ?_⟩⟩
    show (ρ ++ [v])[((B.length : Nat) : Int).toNat]? = some v
    rw [Int.toNat_natCast, ← h.1]
    simp
def abd (B : aB) (a : aV) : Option (Int × Int) := match a.1 with
  | 0 => (B[a.2.toNat]?).map (fun e => (e.1, e.2.1))
  | 2 => some (a.2, a.2)
  | _ => none
theorem abd_ok {B : aB} {ρ : List Int32} {a : aV} {x : Int32} {p : Int × Int} (h : aok B ρ) (ha : aiv ρ a x) (hb : abd B a = some p) : p.1 ≤ x.toInt ∧ x.toInt ≤ p.2 := by
  rcases ha with ⟨h1, h2⟩ | ⟨h1, h2⟩
  · simp only [abd, h1, Option.map_eq_some_iff] at hb
    obtain ⟨e, he, rfl⟩ := hb
    have q := h.2 _ e x he h2
    exact ⟨q.1, q.2.1⟩
  · simp only [abd, h1, Option.some.injEq] at hb
    subst hb
    exact ⟨by show a.2 ≤ _; omega, by show _ ≤ a.2; omega⟩
/-- bounds narrowed; none: it can't be -/
def aref (B : aB) (a : aV) (lo hi : Int) : Option aB := match a.1 with
  | 0 => match B[a.2.toNat]? with
    | none => some B
    | some e => if max e.1 lo ≤ min e.2.1 hi then some (B.set a.2.toNat (max e.1 lo, min e.2.1 hi, e.2.2)) else none
  | 2 => if lo ≤ a.2 ∧ a.2 ≤ hi then some B else none
  | _ => some B
theorem aref_ok {B : aB} {ρ : List Int32} {a : aV} {x : Int32} {lo hi : Int} (h : aok B ρ) (ha : aiv ρ a x) (h1 : lo ≤ x.toInt) (h2 : x.toInt ≤ hi) : ∃ B', aref B a lo hi = some B' ∧ aok B' ρ := by
  rcases ha with ⟨g1, g2⟩ | ⟨g1, g2⟩
  · unfold aref
    rw [g1]
    show ∃ B', (match B[a.2.toNat]? with
      | none => some B
      | some e => if max e.1 lo ≤ min e.2.1 hi then some (B.set a.2.toNat (max e.1 lo, min e.2.1 hi, e.2.2)) else none) = some B' ∧ aok B' ρ
    cases he : B[a.2.toNat]? with
    | none => exact ⟨B, rfl, h⟩
    | some e =>
      obtain ⟨q1, q2, q3⟩ := h.2 _ e x he g2
      have hle : max e.1 lo ≤ min e.2.1 hi := by omega
      refine ⟨_, if_pos hle, by simpa using h.1, fun i e' y hi1 hy => ?_⟩
      by_cases hia : a.2.toNat = i
      · subst hia
        rw [List.getElem?_set_self (List.getElem?_eq_some_iff.mp he).1] at hi1
        cases hi1
        rw [g2] at hy
        cases hy
        exact ⟨by show max e.1 lo ≤ _; omega, by show _ ≤ min e.2.1 hi; omega, q3⟩
      · rw [List.getElem?_set_ne hia] at hi1
        exact h.2 i e' y hi1 hy
  · unfold aref
    rw [g1]
    exact ⟨B, if_pos ⟨by omega, by omega⟩, h⟩
