/-! ===== arithmetic and compares over bounds ===== -/
def bop (t : Nat) (x y : Int32) : Int32 := match t with
  | 0 => x + y
  | 1 => x - y
  | 2 => x * y
  | 3 => x &&& y
  | 4 => x ||| y
  | 5 => x ^^^ y
  | 6 => x <<< (y &&& 31)
  | 7 => x >>> (y &&& 31)
  | 8 => (x.toUInt32 >>> (y.toUInt32 &&& Int32.toUInt32 31)).toInt32
  | 9 => x / y
  | _ => x - x / y * y
def bbd (t : Nat) (p q : Int × Int) : Int × Int := match t with
  | 0 => if aLo ≤ p.1 + q.1 ∧ p.2 + q.2 ≤ aHi then (p.1 + q.1, p.2 + q.2) else (aLo, aHi)
  | 1 => if aLo ≤ p.1 - q.2 ∧ p.2 - q.1 ≤ aHi then (p.1 - q.2, p.2 - q.1) else (aLo, aHi)
  | 2 => if 0 ≤ p.1 ∧ 0 ≤ q.1 ∧ p.2 * q.2 ≤ aHi then (p.1 * q.1, p.2 * q.2) else (aLo, aHi)
  | 3 => if 0 ≤ q.1 then (0, q.2) else if 0 ≤ p.1 then (0, p.2) else (aLo, aHi)
  | 6 => if p.1 = 1 ∧ p.2 = 1 ∧ 0 ≤ q.1 ∧ q.2 ≤ 8 then (1, ((2 ^ q.2.toNat : Nat) : Int)) else (aLo, aHi)
  | 8 => if q.1 = 16 ∧ q.2 = 16 then (0, 65535) else (aLo, aHi)
  | 9 => if 0 ≤ p.1 ∧ 1 ≤ q.1 ∧ q.1 = q.2 then (p.1 / q.1, p.2 / q.1) else (aLo, aHi)
  | 10 => if 0 ≤ p.1 ∧ 1 ≤ q.1 then (0, q.2 - 1) else (aLo, aHi)
  | _ => (aLo, aHi)
theorem b_nat {x : Int32} (h : 0 ≤ x.toInt) : x.toInt = (x.toBitVec.toNat : Int) := by
  have h1 : x.toInt = x.toBitVec.toInt := rfl
  rw [h1] at h ⊢
  rw [BitVec.toInt_eq_toNat_cond] at h ⊢
  have := x.toBitVec.isLt
  split at h
  · rw [if_pos (by assumption)]
  · omega
theorem b_and {x y : Int32} (h : 0 ≤ y.toInt) : 0 ≤ (x &&& y).toInt ∧ (x &&& y).toInt ≤ y.toInt := by
  have hy := b_nat h
  have e1 : (x &&& y).toInt = (x &&& y).toBitVec.toInt := rfl
  have e2 : (x &&& y).toBitVec.toNat = x.toBitVec.toNat &&& y.toBitVec.toNat := rfl
  have hle : x.toBitVec.toNat &&& y.toBitVec.toNat ≤ y.toBitVec.toNat := Nat.and_le_right
  have hlt := Int32.toInt_lt y
  rw [e1, BitVec.toInt_eq_toNat_cond, e2]
  rw [if_pos (by omega)]
  omega
theorem b_ushr (x : Int32) : 0 ≤ ((x.toUInt32 >>> ((16 : Int32).toUInt32 &&& Int32.toUInt32 31)).toInt32).toInt ∧ ((x.toUInt32 >>> ((16 : Int32).toUInt32 &&& Int32.toUInt32 31)).toInt32).toInt ≤ 65535 := by
  generalize hz : (x.toUInt32 >>> ((16 : Int32).toUInt32 &&& Int32.toUInt32 31)).toInt32 = z
  have e0 : z.toBitVec = x.toBitVec >>> 16 := by
    rw [← hz]
    rfl
  have e2 : z.toBitVec.toNat = x.toBitVec.toNat / 65536 := by
    rw [e0, BitVec.toNat_ushiftRight, Nat.shiftRight_eq_div_pow]
  have hl := x.toBitVec.isLt
  have e1 : z.toInt = z.toBitVec.toInt := rfl
  rw [e1, BitVec.toInt_eq_toNat_cond, e2]
  have : x.toBitVec.toNat / 65536 < 65536 := Nat.div_lt_of_lt_mul (by omega)
  rw [if_pos (by omega)]
  omega
theorem b_shl {y : Int32} (h0 : 0 ≤ y.toInt) (h1 : y.toInt ≤ 8) : ((1 : Int32) <<< (y &&& 31)).toInt = ((2 ^ y.toInt.toNat : Nat) : Int) := by
  have h : y.toInt = 0 ∨ y.toInt = 1 ∨ y.toInt = 2 ∨ y.toInt = 3 ∨ y.toInt = 4 ∨ y.toInt = 5 ∨ y.toInt = 6 ∨ y.toInt = 7 ∨ y.toInt = 8 := by omega
  rcases h with h | h | h | h | h | h | h | h | h
  · rw [show y = 0 from Int32.toInt_inj.mp h]; decide
  · rw [show y = 1 from Int32.toInt_inj.mp h]; decide
  · rw [show y = 2 from Int32.toInt_inj.mp h]; decide
  · rw [show y = 3 from Int32.toInt_inj.mp h]; decide
  · rw [show y = 4 from Int32.toInt_inj.mp h]; decide
  · rw [show y = 5 from Int32.toInt_inj.mp h]; decide
  · rw [show y = 6 from Int32.toInt_inj.mp h]; decide
  · rw [show y = 7 from Int32.toInt_inj.mp h]; decide
  · rw [show y = 8 from Int32.toInt_inj.mp h]; decide
theorem b_div {x y : Int32} (hx : 0 ≤ x.toInt) (hy : 1 ≤ y.toInt) : (x / y).toInt = x.toInt / y.toInt := by
  rw [Int32.toInt_div_of_ne_right x y (fun h => by rw [h] at hy; exact absurd hy (by decide))]
  exact Int.tdiv_eq_ediv_of_nonneg hx
theorem b_mul {x y : Int32} {p q : Int × Int} (h0 : 0 ≤ p.1) (h1 : 0 ≤ q.1) (h2 : p.2 * q.2 ≤ aHi) (a1 : p.1 ≤ x.toInt) (a2 : x.toInt ≤ p.2) (b1 : q.1 ≤ y.toInt) (b2 : y.toInt ≤ q.2) : (x * y).toInt = x.toInt * y.toInt ∧ p.1 * q.1 ≤ x.toInt * y.toInt ∧ x.toInt * y.toInt ≤ p.2 * q.2 := by
  have g1 : p.1 * q.1 ≤ x.toInt * y.toInt := Int.mul_le_mul a1 b1 h1 (by omega)
  have g2 : x.toInt * y.toInt ≤ p.2 * q.2 := Int.mul_le_mul a2 b2 (by omega) (by omega)
  have g3 : 0 ≤ p.1 * q.1 := Int.mul_nonneg h0 h1
  refine ⟨?_, g1, g2⟩
  rw [Int32.toInt_mul]
  exact a_bm (by unfold aLo; omega) (by omega)
theorem b_rem {x y : Int32} (hx : 0 ≤ x.toInt) (hy : 1 ≤ y.toInt) : (x - x / y * y).toInt = x.toInt % y.toInt := by
  have hd := b_div hx hy
  have hm0 : 0 ≤ x.toInt / y.toInt := Int.ediv_nonneg hx (by omega)
  have hme := Int.emod_add_mul_ediv x.toInt y.toInt
  have hm1 := Int.emod_nonneg x.toInt (show y.toInt ≠ 0 by omega)
  have hc : x.toInt / y.toInt * y.toInt = y.toInt * (x.toInt / y.toInt) := Int.mul_comm _ _
  have hr := a_rng x
  have hp : 0 ≤ x.toInt / y.toInt * y.toInt := Int.mul_nonneg hm0 (by omega)
  have e1 : (x / y * y).toInt = x.toInt / y.toInt * y.toInt := by
    rw [Int32.toInt_mul, hd]
    exact a_bm (by unfold aLo; omega) (by omega)
  rw [Int32.toInt_sub, e1, a_bm (by unfold aLo; omega) (by unfold aHi at *; omega)]
  omega
theorem bbd_ok {t : Nat} {x y : Int32} {p q : Int × Int} (a1 : p.1 ≤ x.toInt) (a2 : x.toInt ≤ p.2) (b1 : q.1 ≤ y.toInt) (b2 : y.toInt ≤ q.2) : (bbd t p q).1 ≤ (bop t x y).toInt ∧ (bop t x y).toInt ≤ (bbd t p q).2 := by
  have hf := a_rng (bop t x y)
  unfold bbd
  split
  · split
    next h =>
      have e : (bop 0 x y).toInt = x.toInt + y.toInt := by
        show (x + y).toInt = _
        rw [Int32.toInt_add]
        exact a_bm (by omega) (by omega)
      rw [e]
      exact ⟨by show p.1 + q.1 ≤ _; omega, by show _ ≤ p.2 + q.2; omega⟩
    next => exact hf
  · split
    next h =>
      have e : (bop 1 x y).toInt = x.toInt - y.toInt := by
        show (x - y).toInt = _
        rw [Int32.toInt_sub]
        exact a_bm (by omega) (by omega)
      rw [e]
      exact ⟨by show p.1 - q.2 ≤ _; omega, by show _ ≤ p.2 - q.1; omega⟩
    next => exact hf
  · split
    next h =>
      obtain ⟨g1, g2, g3⟩ := b_mul h.1 h.2.1 h.2.2 a1 a2 b1 b2
      have e : (bop 2 x y).toInt = x.toInt * y.toInt := g1
      rw [e]
      exact ⟨g2, g3⟩
    next => exact hf
  · split
    next h =>
      have g := b_and (x := x) (y := y) (by omega)
      exact ⟨g.1, by show (x &&& y).toInt ≤ q.2; omega⟩
    next =>
      split
      next h =>
        have g := b_and (x := y) (y := x) (by omega)
        have e : x &&& y = y &&& x := Int32.and_comm x y
        refine ⟨?_, ?_⟩
        · show 0 ≤ (x &&& y).toInt
          rw [e]
          exact g.1
        · show (x &&& y).toInt ≤ p.2
          rw [e]
          omega
      next => exact hf
  · split
    next h =>
      have ex : x = 1 := Int32.toInt_inj.mp (by show x.toInt = 1; omega)
      subst ex
      have e := b_shl (y := y) (by omega) (by omega)
      have hp : 2 ^ y.toInt.toNat ≤ 2 ^ q.2.toNat := Nat.pow_le_pow_right (by decide) (by omega)
      have h1 : 1 ≤ 2 ^ y.toInt.toNat := Nat.one_le_two_pow
      refine ⟨?_, ?_⟩
      · show 1 ≤ ((1 : Int32) <<< (y &&& 31)).toInt
        rw [e]
        omega
      · show ((1 : Int32) <<< (y &&& 31)).toInt ≤ ((2 ^ q.2.toNat : Nat) : Int)
        rw [e]
        omega
    next => exact hf
  · split
    next h =>
      have e : y = 16 := Int32.toInt_inj.mp (by show y.toInt = 16; omega)
      subst e
      exact b_ushr x
    next => exact hf
  · split
    next h =>
      have hy : y.toInt = q.1 := by omega
      have e : (bop 9 x y).toInt = x.toInt / q.1 := by
        show (x / y).toInt = _
        rw [b_div (by omega) (by omega), hy]
      rw [e]
      exact ⟨Int.ediv_le_ediv (by omega) a1, Int.ediv_le_ediv (by omega) a2⟩
    next => exact hf
  · split
    next h =>
      have e : (bop 10 x y).toInt = x.toInt % y.toInt := b_rem (by omega) (by omega)
      rw [e]
      have m1 := Int.emod_nonneg x.toInt (show y.toInt ≠ 0 by omega)
      have m2 := Int.emod_lt_of_pos x.toInt (show 0 < y.toInt by omega)
      exact ⟨m1, by show _ ≤ q.2 - 1; omega⟩
    next => exact hf
  · exact hf
def uop (t : Nat) (x : Int32) : Int32 := match t with
  | 0 => -x
  | 1 => x.toInt8.toInt32
  | _ => x.toInt16.toInt32
def ubd (t : Nat) (p : Int × Int) : Int × Int := match t with
  | 0 => if aLo < p.1 then (-p.2, -p.1) else (aLo, aHi)
  | _ => (aLo, aHi)
theorem ubd_ok {t : Nat} {x : Int32} {p : Int × Int} (a1 : p.1 ≤ x.toInt) (a2 : x.toInt ≤ p.2) : (ubd t p).1 ≤ (uop t x).toInt ∧ (uop t x).toInt ≤ (ubd t p).2 := by
  have hf := a_rng (uop t x)
  unfold ubd
  split
  · split
    next h =>
      have hx := a_rng x
      have e : (uop 0 x).toInt = -x.toInt := by
        show (-x).toInt = _
        rw [Int32.toInt_neg]
        exact a_bm (by unfold aLo aHi at *; omega) (by unfold aLo aHi at *; omega)
      rw [e]
      exact ⟨by show -p.2 ≤ _; omega, by show _ ≤ -p.1; omega⟩
    next => exact hf
  · exact hf
/-- 0 =, 1 not =, 2 <, 3 >=, 4 >, 5 <= -/
def crel (t : Nat) (x y : Int) : Prop := match t with
  | 0 => x = y
  | 1 => x ≠ y
  | 2 => x < y
  | 3 => y ≤ x
  | 4 => y < x
  | _ => x ≤ y
def cneg (t : Nat) : Nat := match t with
  | 0 => 1
  | 1 => 0
  | 2 => 3
  | 3 => 2
  | 4 => 5
  | _ => 4
theorem crel_neg {t : Nat} {x y : Int} (h : ¬ crel t x y) : crel (cneg t) x y := by
  match t, h with
  | 0, h => exact h
  | 1, h => exact (Decidable.not_not (p := x = y)).mp h
  | 2, h => exact Int.not_lt.mp h
  | 3, h => exact Int.not_le.mp h
  | 4, h => exact Int.not_lt.mp h
  | _ + 5, h => exact Int.not_le.mp h
/-- what a compare that holds leaves of both sides' bounds -/
def arel (t : Nat) (p q : Int × Int) : (Int × Int) × (Int × Int) := match t with
  | 0 => (q, p)
  | 1 => (if q.1 = q.2 ∧ p.1 = q.1 then (p.1 + 1, aHi) else if q.1 = q.2 ∧ p.2 = q.1 then (aLo, p.2 - 1) else (aLo, aHi), (aLo, aHi))
  | 2 => ((aLo, q.2 - 1), (p.1 + 1, aHi))
  | 3 => ((q.1, aHi), (aLo, p.2))
  | 4 => ((q.1 + 1, aHi), (aLo, p.2 - 1))
  | _ => ((aLo, q.2), (p.1, aHi))
theorem arel_ok {t : Nat} {x y : Int32} {p q : Int × Int} (h : crel t x.toInt y.toInt) (a1 : p.1 ≤ x.toInt) (a2 : x.toInt ≤ p.2) (b1 : q.1 ≤ y.toInt) (b2 : y.toInt ≤ q.2) :
    ((arel t p q).1.1 ≤ x.toInt ∧ x.toInt ≤ (arel t p q).1.2) ∧ ((arel t p q).2.1 ≤ y.toInt ∧ y.toInt ≤ (arel t p q).2.2) := by
  have hx := a_rng x
  have hy := a_rng y
  match t, h with
  | 0, h =>
    have h : x.toInt = y.toInt := h
    exact ⟨⟨by show q.1 ≤ _; omega, by show _ ≤ q.2; omega⟩, ⟨by show p.1 ≤ _; omega, by show _ ≤ p.2; omega⟩⟩
  | 1, h =>
    have h : x.toInt ≠ y.toInt := h
    refine ⟨?_, hy⟩
    show (if q.1 = q.2 ∧ p.1 = q.1 then (p.1 + 1, aHi) else if q.1 = q.2 ∧ p.2 = q.1 then (aLo, p.2 - 1) else (aLo, aHi)).1 ≤ x.toInt ∧ x.toInt ≤ (if q.1 = q.2 ∧ p.1 = q.1 then (p.1 + 1, aHi) else if q.1 = q.2 ∧ p.2 = q.1 then (aLo, p.2 - 1) else (aLo, aHi)).2
    split
    · exact ⟨by show p.1 + 1 ≤ _; omega, hx.2⟩
    · split
      · exact ⟨hx.1, by show _ ≤ p.2 - 1; omega⟩
      · exact hx
  | 2, h =>
    have h : x.toInt < y.toInt := h
    exact ⟨⟨hx.1, by show _ ≤ q.2 - 1; omega⟩, ⟨by show p.1 + 1 ≤ _; omega, hy.2⟩⟩
  | 3, h =>
    have h : y.toInt ≤ x.toInt := h
    exact ⟨⟨by show q.1 ≤ _; omega, hx.2⟩, ⟨hy.1, by show _ ≤ p.2; omega⟩⟩
  | 4, h =>
    have h : y.toInt < x.toInt := h
    exact ⟨⟨by show q.1 + 1 ≤ _; omega, hx.2⟩, ⟨hy.1, by show _ ≤ p.2 - 1; omega⟩⟩
  | _ + 5, h =>
    have h : x.toInt ≤ y.toInt := h
    exact ⟨⟨hx.1, by show _ ≤ q.2; omega⟩, ⟨by show p.1 ≤ _; omega, hy.2⟩⟩
/-- bounds of a sum are bounds of what it was made of -/
def aprop (B : aB) (a : aV) : Option aB := match a.1 with
  | 0 => (match B[a.2.toNat]? with
    | some e => (match e.2.2 with
      | some (b, y) => (match abd B b with
        | some q => if y.1 = 2 ∧ aLo ≤ q.1 + y.2 ∧ q.2 + y.2 ≤ aHi then aref B b (e.1 - y.2) (e.2.1 - y.2) else some B
        | none => some B)
      | none => some B)
    | none => some B)
  | _ => some B
theorem aprop_ok {B : aB} {ρ : List Int32} {a : aV} {x : Int32} (h : aok B ρ) (ha : aiv ρ a x) : ∃ B', aprop B a = some B' ∧ aok B' ρ := by
  unfold aprop
  split
  next h0 =>
    split
    next e he =>
      split
      next b y hby =>
        split
        next q hq =>
          split
          next hh =>
            have hx : ρ[a.2.toNat]? = some x := by
              rcases ha with ⟨-, ha⟩ | ⟨ha, -⟩
              · exact ha
              · omega
            obtain ⟨g1, g2, g3⟩ := h.2 _ e x he hx
            obtain ⟨u, v, w1, w2, w3⟩ := g3 _ _ hby
            have hu := abd_ok h w1 hq
            have ev : v.toInt = y.2 := by
              rcases w2 with ⟨w2, -⟩ | ⟨-, w2⟩
              · omega
              · exact w2
            have ex : x.toInt = u.toInt + y.2 := by
              rw [w3, Int32.toInt_add, ev]
              exact a_bm (by omega) (by omega)
            exact aref_ok h w1 (by omega) (by omega)
          next => exact ⟨B, rfl, h⟩
        next => exact ⟨B, rfl, h⟩
      next => exact ⟨B, rfl, h⟩
    next => exact ⟨B, rfl, h⟩
  next => exact ⟨B, rfl, h⟩
/-- bounds behind a compare that holds: none, something isn't a number; some none: it can't hold -/
def abr (t : Nat) (B : aB) (a b : aV) : Option (Option aB) := match abd B a, abd B b with
  | some p, some q => some ((aref B a (arel t p q).1.1 (arel t p q).1.2).bind (fun B1 => (aref B1 b (arel t p q).2.1 (arel t p q).2.2).bind (fun B2 => (aprop B2 a).bind (fun B3 => aprop B3 b))))
  | _, _ => none
theorem abr_ok {t : Nat} {B : aB} {ρ : List Int32} {a b : aV} {x y : Int32} {o : Option aB} (h : aok B ρ) (ha : aiv ρ a x) (hb : aiv ρ b y) (hc : crel t x.toInt y.toInt) (ho : abr t B a b = some o) : ∃ B', o = some B' ∧ aok B' ρ := by
  unfold abr at ho
  split at ho
  next p q hp hq =>
    cases ho
    have p1 := abd_ok h ha hp
    have q1 := abd_ok h hb hq
    obtain ⟨r1, r2⟩ := arel_ok hc p1.1 p1.2 q1.1 q1.2
    obtain ⟨B1, e1, h1⟩ := aref_ok h ha r1.1 r1.2
    obtain ⟨B2, e2, h2⟩ := aref_ok h1 hb r2.1 r2.2
    obtain ⟨B3, e3, h3⟩ := aprop_ok h2 ha
    obtain ⟨B4, e4, h4⟩ := aprop_ok h3 hb
    exact ⟨B4, by rw [e1, Option.bind_some, e2, Option.bind_some, e3, Option.bind_some]; exact e4, h4⟩
  next => cases ho
