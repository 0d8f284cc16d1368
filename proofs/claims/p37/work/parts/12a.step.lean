/-! ===== one instruction over an abstract state ===== -/
abbrev aS : Type := Nat × aL × List aV × aB × aK
def aSt (ρ : List Int32) : List aV → List Value → Prop
  | [], [] => True
  | a :: r, v :: s => aev ρ a v ∧ aSt ρ r s
  | _, _ => False
theorem aSt.mono {ρ ρ' : List Int32} (e : aext ρ ρ') : ∀ {S : List aV} {Sc : List Value}, aSt ρ S Sc → aSt ρ' S Sc
  | [], [], _ => trivial
  | _ :: _, _ :: _, h => ⟨h.1.mono e, aSt.mono e h.2⟩
  | [], _ :: _, h => h.elim
  | _ :: _, [], h => h.elim
theorem aSt.good {ρ : List Int32} : ∀ {S : List aV} {Sc : List Value}, aSt ρ S Sc → aSG Sc
  | [], [], _, _, h => by cases h
  | _ :: _, v :: _, h, w, hw => by
    rcases List.mem_cons.mp hw with rfl | hw
    · exact h.1.good
    · exact aSt.good h.2 w hw
  | [], _ :: _, h, _, _ => h.elim
  | _ :: _, [], h, _, _ => h.elim
theorem aSt.len {ρ : List Int32} : ∀ {S : List aV} {Sc : List Value}, aSt ρ S Sc → Sc.length = S.length
  | [], [], _ => rfl
  | _ :: _, _ :: _, h => by simp [aSt.len h.2]
  | [], _ :: _, h => h.elim
  | _ :: _, [], h => h.elim
theorem aSt.cons {ρ : List Int32} {a : aV} {S : List aV} {Sc : List Value} (h : aSt ρ (a :: S) Sc) : ∃ v Sc', Sc = v :: Sc' ∧ aev ρ a v ∧ aSt ρ S Sc' := by
  match Sc, h with
  | v :: s, h => exact ⟨v, s, rfl, h.1, h.2⟩
def aLc (ρ : List Int32) (L : aL) (Lc : gL) : Prop := aLG Lc ∧ L.length ≤ Lc.length ∧ ∀ (i : Nat) (a : aV), L[i]? = some (some a) → ∃ v, Lc[i]? = some (some v) ∧ aev ρ a v
theorem aLc.mono {ρ ρ' : List Int32} {L : aL} {Lc : gL} (e : aext ρ ρ') (h : aLc ρ L Lc) : aLc ρ' L Lc := ⟨h.1, h.2.1, fun i a hi => by
  obtain ⟨v, h1, h2⟩ := h.2.2 i a hi
  exact ⟨v, h1, h2.mono e⟩⟩
theorem aLc.set {ρ : List Int32} {L : aL} {Lc : gL} {i : Nat} {a : aV} {v : Value} (h : aLc ρ L Lc) (hi : i < L.length) (hv : aev ρ a v) : aLc ρ (L.set i (some a)) (Lc.set i (some v)) := by
  refine ⟨h.1.set hv.good, by simpa using h.2.1, fun j b hj => ?_⟩
  by_cases e : i = j
  · subst e
    rw [List.getElem?_set_self hi] at hj
    cases hj
    exact ⟨v, List.getElem?_set_self (Nat.lt_of_lt_of_le hi h.2.1), hv⟩
  · rw [List.getElem?_set_ne e] at hj
    rw [List.getElem?_set_ne e]
    exact h.2.2 j b hj
theorem aev.int {ρ : List Int32} {a : aV} {v : Value} (h : aev ρ a v) (ha : a.1 ≠ 1) : ∃ x, v = .int x ∧ aiv ρ a x := by
  rcases h with h | ⟨c, h1, h2⟩
  · exact h
  · rw [h2] at ha
    exact absurd rfl ha
theorem aev.ofInt {ρ : List Int32} {a : aV} {x : Int32} (h : aiv ρ a x) : aev ρ a (.int x) := Or.inl ⟨x, rfl, h⟩
theorem aev.bd {ρ : List Int32} {B : aB} {a : aV} {v : Value} {p : Int × Int} (h : aev ρ a v) (hb : abd B a = some p) : ∃ x, v = .int x ∧ aiv ρ a x := by
  refine h.int (fun e => ?_)
  simp [abd, e] at hb
theorem aev.cell {ρ : List Int32} {c : Int} {v : Value} (h : aev ρ (1, c) v) : ∃ k : Nat, v = .ref k ∧ c = (k : Int) := by
  rcases h with ⟨x, -, h⟩ | ⟨k, h1, h2⟩
  · rcases h with ⟨h, -⟩ | ⟨h, -⟩ <;> exact absurd (show (1 : Nat) = _ from h) (by decide)
  · exact ⟨k, h1, (Prod.mk.inj h2).2⟩
theorem aiv.num {ρ : List Int32} {x : Int32} : aiv ρ (2, x.toInt) x := Or.inr ⟨rfl, rfl⟩
theorem aiv.of {ρ : List Int32} {x : Int32} {z : Int} (h : x.toInt = z) : aiv ρ (2, z) x := Or.inr ⟨rfl, h⟩
theorem a_ofInt {z : Int} (h1 : aLo ≤ z) (h2 : z ≤ aHi) : (Int32.ofInt z).toInt = z := Int32.toInt_ofInt_of_le (by unfold aLo at h1; omega) (by unfold aHi at h2; omega)
def aGo (bt : aT) (md : aMd) (I0 : gI) (M : gM) (Q : Option Value → gH → Prop) (D : Nat) (ρ0 : List Int32) (σ : aS) : Prop :=
  ∀ (ρ : List Int32) (Lc : gL) (Sc : List Value) (I : gI), aext ρ0 ρ → aLc ρ σ.2.1 Lc → aSt ρ σ.2.2.1 Sc → aok σ.2.2.2.1 ρ → aheap bt σ.2.2.2.2 ρ I → afr md I0 I → gg D M σ.1 Lc Sc I Q
/-- a sum that was made before -/
def afind : aB → aV → aV → Nat → Option Nat
  | [], _, _, _ => none
  | e :: r, a, b, i => if e.2.2 = some (a, b) then some i else afind r a b (i + 1)
theorem afind_ok : ∀ {B : aB} {a b : aV} {i k : Nat}, afind B a b i = some k → ∃ j e, k = i + j ∧ B[j]? = some e ∧ e.2.2 = some (a, b)
  | [], _, _, _, _, h => by cases h
  | e :: r, a, b, i, k, h => by
    simp only [afind] at h
    split at h
    next he =>
      cases h
      exact ⟨0, e, rfl, rfl, he⟩
    next =>
      obtain ⟨j, e', h1, h2, h3⟩ := afind_ok h
      exact ⟨j + 1, e', by omega, h2, h3⟩
/-- a sum with a number, of what it was first -/
def anf (B : aB) (x y : aV) : aV × aV := if x.1 = 0 ∧ y.1 = 2 then (match B[x.2.toNat]? with
  | some e => (match e.2.2 with
    | some (b, w) => if w.1 = 2 ∧ aLo ≤ w.2 + y.2 ∧ w.2 + y.2 ≤ aHi then (b, (2, w.2 + y.2)) else (x, y)
    | none => (x, y))
  | none => (x, y)) else (x, y)
theorem anf_ok {B : aB} {ρ : List Int32} {a b : aV} {x y : Int32} (hB : aok B ρ) (ha : aiv ρ a x) (hb : aiv ρ b y) : ∃ x' y', aiv ρ (anf B a b).1 x' ∧ aiv ρ (anf B a b).2 y' ∧ x + y = x' + y' := by
  have gen : ∃ x' y', aiv ρ a x' ∧ aiv ρ b y' ∧ x + y = x' + y' := ⟨x, y, ha, hb, rfl⟩
  unfold anf
  split
  next h =>
    split
    next e he =>
      split
      next c w hcw =>
        split
        next hh =>
          have hx : ρ[a.2.toNat]? = some x := by
            rcases ha with ⟨-, ha⟩ | ⟨ha, -⟩
            · exact ha
            · omega
          obtain ⟨u, v, w1, w2, w3⟩ := (hB.2 _ e x he hx).2.2 _ _ hcw
          have ev : v.toInt = w.2 := by
            rcases w2 with ⟨w2, -⟩ | ⟨-, w2⟩
            · omega
            · exact w2
          have ey : y.toInt = b.2 := by
            rcases hb with ⟨hb, -⟩ | ⟨-, hb⟩
            · omega
            · exact hb
          refine ⟨u, v + y, w1, Or.inr ⟨rfl, ?_⟩, by rw [w3, Int32.add_assoc]⟩
          show (v + y).toInt = w.2 + b.2
          rw [Int32.toInt_add, ev, ey]
          exact a_bm hh.2.1 hh.2.2
        next => exact gen
      next => exact gen
    next => exact gen
  next => exact gen
/-- x + y, as a letter -/
def aadd (B : aB) (x y : aV) (b : Int × Int) : aV × aB := match afind B (anf B x y).1 (anf B x y).2 0 with
  | some k => ((0, (k : Int)), B)
  | none => amk B b (some (anf B x y))
theorem aadd_ok {B : aB} {ρ : List Int32} {a b : aV} {x y : Int32} {p : Int × Int} (hB : aok B ρ) (ha : aiv ρ a x) (hb : aiv ρ b y) (hp : ain p (x + y)) : ∃ ρ', aext ρ ρ' ∧ aok (aadd B a b p).2 ρ' ∧ aiv ρ' (aadd B a b p).1 (x + y) := by
  obtain ⟨x', y', n1, n2, n3⟩ := anf_ok hB ha hb
  unfold aadd
  rw [n3] at hp ⊢
  generalize anf B a b = q at n1 n2
  cases hf : afind B q.1 q.2 0 with
  | none =>
    exact amk_ok hB hp.1 hp.2 (fun a' b' h => by
      cases h
      exact ⟨x', y', n1, n2, rfl⟩)
  | some k =>
    obtain ⟨j, e, h1, h2, h3⟩ := afind_ok hf
    have hj : k = j := by omega
    subst hj
    have hl : k < ρ.length := by
      rw [hB.1]
      exact (List.getElem?_eq_some_iff.mp h2).1
    obtain ⟨y1, z1, q1, q2, q3⟩ := (hB.2 k e ρ[k] h2 (List.getElem?_eq_getElem hl)).2.2 _ _ h3
    refine ⟨ρ, aext.rf, hB, Or.inl ⟨rfl, ?_⟩⟩
    show ρ[((k : Nat) : Int).toNat]? = _
    rw [Int.toNat_natCast, List.getElem?_eq_getElem hl, q3, n1.fn q1, n2.fn q2]
section ST
variable {bt : aT} {md : aMd} {I0 : gI} {M : gM} {Q : Option Value → gH → Prop} {D : Nat} {ρ0 : List Int32} {mt : List gM} {pc n a : Nat} {z : Int} {ps : List (Int × Nat)} {L : aL} {S : List aV} {B : aB} {K : aK} {l : List aS}
def s0 (pc n : Nat) (z : Int) (L : aL) (S : List aV) (B : aB) (K : aK) : Option (List aS) := if aLo ≤ z ∧ z ≤ aHi then some [(pc + n, L, (2, z) :: S, B, K)] else none
theorem s0_ok (ho : opP mt M pc 0 n a z ps) (hs : s0 pc n z L S B K = some l) (hl : ∀ σ ∈ l, aGo bt md I0 M Q D ρ0 σ) : aGo bt md I0 M Q D ρ0 (pc, L, S, B, K) := by
  intro ρ Lc Sc I hρ hL hS hB hK hF
  unfold s0 at hs
  split at hs
  next h =>
    cases hs
    exact ho D Lc Sc I Q (Int32.ofInt z) (a_ofInt h.1 h.2) (hl _ List.mem_cons_self ρ Lc _ I hρ hL ⟨aev.ofInt (aiv.of (a_ofInt h.1 h.2)), hS⟩ hB hK hF)
  next => cases hs
def s1 (pc n a : Nat) (z : Int) (L : aL) (S : List aV) (B : aB) (K : aK) : Option (List aS) := match L[a]? with
  | some (some v) => if (z = 0 ∧ v.1 ≠ 1) ∨ (z ≠ 0 ∧ v.1 = 1) then some [(pc + n, L, v :: S, B, K)] else none
  | _ => none
theorem a_kind {ρ : List Int32} {v : aV} {w : Value} (h : aev ρ v w) (hk : (z = 0 ∧ v.1 ≠ 1) ∨ (z ≠ 0 ∧ v.1 = 1)) : if z = 0 then ∃ x, w = .int x else ∃ c, w = .ref c := by
  rcases hk with ⟨h1, h2⟩ | ⟨h1, h2⟩
  · rw [if_pos h1]
    obtain ⟨x, hx, -⟩ := h.int h2
    exact ⟨x, hx⟩
  · rw [if_neg h1]
    obtain ⟨i, c⟩ := v
    have h2 : i = 1 := h2
    subst h2
    obtain ⟨k, hk, -⟩ := h.cell
    exact ⟨k, hk⟩
theorem s1_ok (ho : opP mt M pc 1 n a z ps) (hs : s1 pc n a z L S B K = some l) (hl : ∀ σ ∈ l, aGo bt md I0 M Q D ρ0 σ) : aGo bt md I0 M Q D ρ0 (pc, L, S, B, K) := by
  intro ρ Lc Sc I hρ hL hS hB hK hF
  unfold s1 at hs
  split at hs
  next v hv =>
    split at hs
    next h =>
      cases hs
      obtain ⟨w, h1, h2⟩ := hL.2.2 a v hv
      exact ho D Lc Sc I Q w h1 (a_kind h2 h) (hl _ List.mem_cons_self ρ Lc _ I hρ hL ⟨h2, hS⟩ hB hK hF)
    next => cases hs
  next => cases hs
def s2 (pc n a : Nat) (z : Int) (L : aL) (S : List aV) (B : aB) (K : aK) : Option (List aS) := match S with
  | v :: S' => if ((z = 0 ∧ v.1 ≠ 1) ∨ (z ≠ 0 ∧ v.1 = 1)) ∧ a < L.length then some [(pc + n, L.set a (some v), S', B, K)] else none
  | _ => none
theorem s2_ok (ho : opP mt M pc 2 n a z ps) (hs : s2 pc n a z L S B K = some l) (hl : ∀ σ ∈ l, aGo bt md I0 M Q D ρ0 σ) : aGo bt md I0 M Q D ρ0 (pc, L, S, B, K) := by
  intro ρ Lc Sc I hρ hL hS hB hK hF
  unfold s2 at hs
  split at hs
  next v S' =>
    split at hs
    next h =>
      cases hs
      obtain ⟨w, Sc', rfl, h1, h2⟩ := aSt.cons hS
      exact ho D Lc Sc' I Q w hL.1 (a_kind h1 h.1) (hl _ List.mem_cons_self ρ _ _ I hρ (hL.set h.2 h1) h2 hB hK hF)
    next => cases hs
  next => cases hs
def s3 (pc n a : Nat) (z : Int) (L : aL) (S : List aV) (B : aB) (K : aK) : Option (List aS) := match L[a]? with
  | some (some v) => (match abd B v with
    | some p => if aLo ≤ z ∧ z ≤ aHi then some [(pc + n, L.set a (some (aadd B v (2, z) (bbd 0 p (z, z))).1), S, (aadd B v (2, z) (bbd 0 p (z, z))).2, K)] else none
    | none => none)
  | _ => none
theorem s3_ok (ho : opP mt M pc 3 n a z ps) (hs : s3 pc n a z L S B K = some l) (hl : ∀ σ ∈ l, aGo bt md I0 M Q D ρ0 σ) : aGo bt md I0 M Q D ρ0 (pc, L, S, B, K) := by
  intro ρ Lc Sc I hρ hL hS hB hK hF
  unfold s3 at hs
  split at hs
  next v hv =>
    split at hs
    next p hp =>
      split at hs
      next h =>
        cases hs
        obtain ⟨w, h1, h2⟩ := hL.2.2 a v hv
        obtain ⟨x, rfl, hx⟩ := h2.bd hp
        have hy := a_ofInt h.1 h.2
        have hp1 := abd_ok hB hx hp
        have hb := bbd_ok (t := 0) (x := x) (y := Int32.ofInt z) (p := p) (q := (z, z)) hp1.1 hp1.2 (by show z ≤ _; omega) (by show _ ≤ z; omega)
        obtain ⟨ρ', e1, e2, e3⟩ := aadd_ok hB hx (aiv.of hy) hb
        have hla : a < L.length := (List.getElem?_eq_some_iff.mp hv).1
        exact ho D Lc Sc I Q x _ hL.1 h1 hy (hl _ List.mem_cons_self ρ' _ _ I (hρ.tr e1) ((hL.mono e1).set hla (aev.ofInt e3)) (hS.mono e1) e2 (hK.mono e1) hF)
      next => cases hs
    next => cases hs
  next => cases hs
/-- the letter of a result: sums are known again -/
def abin (t : Nat) (B : aB) (x y : aV) (p q : Int × Int) : aV × aB := match t with
  | 0 => aadd B x y (bbd 0 p q)
  | 1 => if y.1 = 2 ∧ aLo < y.2 ∧ y.2 ≤ aHi then aadd B x (2, -y.2) (bbd 1 p q) else amk B (bbd 1 p q) none
  | _ => amk B (bbd t p q) none
theorem abin_ok {t : Nat} {ρ : List Int32} {a b : aV} {x y : Int32} {p q : Int × Int} (hB : aok B ρ) (ha : aiv ρ a x) (hb : aiv ρ b y) (hp : ain p x) (hq : ain q y) : ∃ ρ', aext ρ ρ' ∧ aok (abin t B a b p q).2 ρ' ∧ aiv ρ' (abin t B a b p q).1 (bop t x y) := by
  have hbb := bbd_ok (t := t) hp.1 hp.2 hq.1 hq.2
  have gen : ∃ ρ', aext ρ ρ' ∧ aok (amk B (bbd t p q) none).2 ρ' ∧ aiv ρ' (amk B (bbd t p q) none).1 (bop t x y) := amk_ok hB hbb.1 hbb.2 (fun a b h => by cases h)
  unfold abin
  split
  · exact aadd_ok hB ha hb hbb
  · split
    next h =>
      obtain ⟨h1, h2, h3⟩ := h
      have hy : y.toInt = b.2 := by
        rcases hb with ⟨g, -⟩ | ⟨-, g⟩
        · omega
        · exact g
      have hz : (Int32.ofInt (-b.2)).toInt = -b.2 := a_ofInt (by unfold aLo aHi at *; omega) (by unfold aLo aHi at *; omega)
      have e : bop 1 x y = x + Int32.ofInt (-b.2) := by
        apply Int32.toInt_inj.mp
        show (x - y).toInt = _
        rw [Int32.toInt_sub, Int32.toInt_add, hz, hy]
        rfl
      rw [e] at hbb ⊢
      exact aadd_ok hB ha (aiv.of hz) hbb
    next => exact gen
  · exact gen
def s4 (pc n a : Nat) (L : aL) (S : List aV) (B : aB) (K : aK) : Option (List aS) := match S with
  | y :: x :: S' => (match abd B x, abd B y with
    | some p, some q => if a < 9 ∨ 1 ≤ q.1 ∨ q.2 ≤ -1 then some [(pc + n, L, (abin a B x y p q).1 :: S', (abin a B x y p q).2, K)] else none
    | _, _ => none)
  | _ => none
theorem s4_ok (ho : opP mt M pc 4 n a z ps) (hs : s4 pc n a L S B K = some l) (hl : ∀ σ ∈ l, aGo bt md I0 M Q D ρ0 σ) : aGo bt md I0 M Q D ρ0 (pc, L, S, B, K) := by
  intro ρ Lc Sc I hρ hL hS hB hK hF
  unfold s4 at hs
  split at hs
  next y x S' =>
    split at hs
    next p q hp hq =>
      split at hs
      next h =>
        cases hs
        obtain ⟨v, Sc1, rfl, h1, h2⟩ := aSt.cons hS
        obtain ⟨w, Sc2, rfl, h3, h4⟩ := aSt.cons h2
        obtain ⟨yy, rfl, hy⟩ := h1.bd hq
        obtain ⟨xx, rfl, hx⟩ := h3.bd hp
        have hq1 := abd_ok hB hy hq
        obtain ⟨ρ', e1, e2, e3⟩ := abin_ok (t := a) hB hx hy (abd_ok hB hx hp) hq1
        refine ho D Lc Sc2 I Q xx yy (fun h9 h0 => ?_) (hl _ List.mem_cons_self ρ' Lc _ I (hρ.tr e1) (hL.mono e1) ⟨aev.ofInt e3, h4.mono e1⟩ e2 (hK.mono e1) hF)
        rw [h0] at hq1
        have : (0 : Int32).toInt = 0 := rfl
        omega
      next => cases hs
    next => cases hs
  next => cases hs
def s5 (pc n a : Nat) (L : aL) (S : List aV) (B : aB) (K : aK) : Option (List aS) := match S with
  | x :: S' => (match abd B x with
    | some p => some [(pc + n, L, (amk B (ubd a p) none).1 :: S', (amk B (ubd a p) none).2, K)]
    | none => none)
  | _ => none
theorem s5_ok (ho : opP mt M pc 5 n a z ps) (hs : s5 pc n a L S B K = some l) (hl : ∀ σ ∈ l, aGo bt md I0 M Q D ρ0 σ) : aGo bt md I0 M Q D ρ0 (pc, L, S, B, K) := by
  intro ρ Lc Sc I hρ hL hS hB hK hF
  unfold s5 at hs
  split at hs
  next x S' =>
    split at hs
    next p hp =>
      cases hs
      obtain ⟨v, Sc1, rfl, h1, h2⟩ := aSt.cons hS
      obtain ⟨xx, rfl, hx⟩ := h1.bd hp
      have hp1 := abd_ok hB hx hp
      have hb := ubd_ok (t := a) hp1.1 hp1.2
      obtain ⟨ρ', e1, e2, e3⟩ := amk_ok (ex := none) hB hb.1 hb.2 (fun a b h => by cases h)
      exact ho D Lc Sc1 I Q xx (hl _ List.mem_cons_self ρ' Lc _ I (hρ.tr e1) (hL.mono e1) ⟨aev.ofInt e3, h2.mono e1⟩ e2 (hK.mono e1) hF)
    next => cases hs
  next => cases hs
def s6 (pc n t : Nat) (L : aL) (S : List aV) (B : aB) (K : aK) : Option (List aS) := match t, S with
  | 6, v :: S' => some [(pc + n, L, v :: v :: S', B, K)]
  | 7, v :: w :: S' => some [(pc + n, L, v :: w :: v :: w :: S', B, K)]
  | 8, _ :: S' => some [(pc + n, L, S', B, K)]
  | _, _ => none
theorem s6_ok {t : Nat} (ho : opP mt M pc t n a z ps) (hs : s6 pc n t L S B K = some l) (hl : ∀ σ ∈ l, aGo bt md I0 M Q D ρ0 σ) : aGo bt md I0 M Q D ρ0 (pc, L, S, B, K) := by
  intro ρ Lc Sc I hρ hL hS hB hK hF
  unfold s6 at hs
  split at hs
  next v S' =>
    cases hs
    obtain ⟨v, Sc1, rfl, h1, h2⟩ := aSt.cons hS
    exact ho D Lc Sc1 I Q v h1.good (hl _ List.mem_cons_self ρ Lc _ I hρ hL ⟨h1, h1, h2⟩ hB hK hF)
  next v w S' =>
    cases hs
    obtain ⟨v, Sc1, rfl, h1, h2⟩ := aSt.cons hS
    obtain ⟨w, Sc2, rfl, h3, h4⟩ := aSt.cons h2
    exact ho D Lc Sc2 I Q v w h1.good h3.good (hl _ List.mem_cons_self ρ Lc _ I hρ hL ⟨h1, h3, h1, h3, h4⟩ hB hK hF)
  next v S' =>
    cases hs
    obtain ⟨v, Sc1, rfl, h1, h2⟩ := aSt.cons hS
    exact ho D Lc Sc1 I Q v h1.good (hl _ List.mem_cons_self ρ Lc _ I hρ hL h2 hB hK hF)
  next => cases hs
theorem s9_ok (ho : opP mt M pc 9 n a z ps) (hl : aGo bt md I0 M Q D ρ0 (a, L, S, B, K)) : aGo bt md I0 M Q D ρ0 (pc, L, S, B, K) :=
  fun ρ Lc Sc I hρ hL hS hB hK hF => ho D Lc Sc I Q (hl ρ Lc Sc I hρ hL hS hB hK hF)
def aopt (o : Option aB) (pc : Nat) (L : aL) (S : List aV) (K : aK) : List aS := match o with
  | some B => [(pc, L, S, B, K)]
  | none => []
/-- a compare: both ways that can be -/
def s11 (pc n t tgt : Nat) (L : aL) (x y : aV) (S : List aV) (B : aB) (K : aK) : Option (List aS) := match abr t B x y, abr (cneg t) B x y with
  | some o1, some o2 => some (aopt o1 tgt L S K ++ aopt o2 (pc + n) L S K)
  | _, _ => none
theorem s11_in {t tgt : Nat} {x y : aV} {xx yy : Int32} {ρ : List Int32} (hs : s11 pc n t tgt L x y S B K = some l) (hB : aok B ρ) (hx : aiv ρ x xx) (hy : aiv ρ y yy) :
    (crel t xx.toInt yy.toInt → ∃ B', (tgt, L, S, B', K) ∈ l ∧ aok B' ρ) ∧ (¬ crel t xx.toInt yy.toInt → ∃ B', (pc + n, L, S, B', K) ∈ l ∧ aok B' ρ) := by
  unfold s11 at hs
  split at hs
  next o1 o2 h1 h2 =>
    cases hs
    refine ⟨fun hc => ?_, fun hc => ?_⟩
    · obtain ⟨B', rfl, hb⟩ := abr_ok hB hx hy hc h1
      exact ⟨B', List.mem_append_left _ List.mem_cons_self, hb⟩
    · obtain ⟨B', rfl, hb⟩ := abr_ok hB hx hy (crel_neg hc) h2
      exact ⟨B', List.mem_append_right _ List.mem_cons_self, hb⟩
  next => cases hs
def s10 (t pc n a : Nat) (z : Int) (L : aL) (S : List aV) (B : aB) (K : aK) : Option (List aS) := match t, S with
  | 10, x :: S' => if x.1 ≠ 1 then s11 pc n a z.toNat L x (2, 0) S' B K else none
  | 11, y :: x :: S' => if x.1 ≠ 1 ∧ y.1 ≠ 1 then s11 pc n a z.toNat L x y S' B K else none
  | _, _ => none
theorem s10_ok {t : Nat} (ho : opP mt M pc t n a z ps) (hs : s10 t pc n a z L S B K = some l) (hl : ∀ σ ∈ l, aGo bt md I0 M Q D ρ0 σ) : aGo bt md I0 M Q D ρ0 (pc, L, S, B, K) := by
  intro ρ Lc Sc I hρ hL hS hB hK hF
  unfold s10 at hs
  split at hs
  next x S' =>
    split at hs
    next hk =>
      obtain ⟨v, Sc1, rfl, h1, h2⟩ := aSt.cons hS
      obtain ⟨xx, rfl, hx⟩ := h1.int hk
      obtain ⟨g1, g2⟩ := s11_in (yy := 0) hs hB hx (aiv.of rfl)
      exact ho D Lc Sc1 I Q xx (fun hc => by
        obtain ⟨B', m, hb⟩ := g1 hc
        exact hl _ m ρ Lc Sc1 I hρ hL h2 hb hK hF) (fun hc => by
        obtain ⟨B', m, hb⟩ := g2 hc
        exact hl _ m ρ Lc Sc1 I hρ hL h2 hb hK hF)
    next => cases hs
  next y x S' =>
    split at hs
    next hk =>
      obtain ⟨v, Sc1, rfl, h1, h2⟩ := aSt.cons hS
      obtain ⟨w, Sc2, rfl, h3, h4⟩ := aSt.cons h2
      obtain ⟨yy, rfl, hy⟩ := h1.int hk.2
      obtain ⟨xx, rfl, hx⟩ := h3.int hk.1
      obtain ⟨g1, g2⟩ := s11_in hs hB hx hy
      exact ho D Lc Sc2 I Q xx yy (fun hc => by
        obtain ⟨B', m, hb⟩ := g1 hc
        exact hl _ m ρ Lc Sc2 I hρ hL h4 hb hK hF) (fun hc => by
        obtain ⟨B', m, hb⟩ := g2 hc
        exact hl _ m ρ Lc Sc2 I hρ hL h4 hb hK hF)
    next => cases hs
  next => cases hs
end ST
