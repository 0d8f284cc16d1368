/-! ===== what an instruction does, over the numbered cells behind both constructors ===== -/
def gg (d : Nat) (M : gM) (pc : Nat) (L : gL) (S : List Value) (I : gI) (Q : Option Value → gH → Prop) : Prop := G d M 0 0 0 0 pc L S SH0 RF0 I Q
def aG (v : Value) : Prop := (∃ x, v = .int x) ∨ (∃ c, v = .ref c)
theorem aG.cat {v : Value} (h : aG v) : v.category = 1 := by
  rcases h with ⟨x, rfl⟩ | ⟨c, rfl⟩ <;> rfl
theorem aev.good {ρ : List Int32} {a : aV} {v : Value} (h : aev ρ a v) : aG v := h.imp (fun ⟨x, q, _⟩ => ⟨x, q⟩) (fun ⟨c, q, _⟩ => ⟨c, q⟩)
def aLG (L : gL) : Prop := ∀ (i : Nat) (w : Value), L[i]? = some (some w) → aG w
theorem aLG.nl {L : gL} (h : aLG L) : ∀ i, gnl L i = true
  | 0 => rfl
  | i + 1 => by
    unfold gnl
    show (match L[i]? with
      | some (some v) => v.category == 1
      | _ => true) = true
    split
    next v hv => simp [(h i v hv).cat]
    next => rfl
theorem aLG.set {L : gL} {i : Nat} {v : Value} (h : aLG L) (hv : aG v) : aLG (L.set i (some v)) := fun j w hw => by
  by_cases e : i = j
  · subst e
    by_cases hl : i < L.length
    · rw [List.getElem?_set_self hl] at hw
      cases hw
      exact hv
    · rw [List.set_eq_of_length_le (by omega)] at hw
      exact h _ _ hw
  · rw [List.getElem?_set_ne e] at hw
    exact h _ _ hw
def aSG (S : List Value) : Prop := ∀ v ∈ S, aG v
theorem aSG.cats : ∀ {S : List Value}, aSG S → (S.map fun v => v.category).sum = S.length
  | [], _ => rfl
  | v :: S, h => by
    have ih := aSG.cats (S := S) (fun w hw => h w (List.mem_cons_of_mem _ hw))
    have h1 := (h v List.mem_cons_self).cat
    simp only [List.map_cons, List.sum_cons, List.length_cons, ih, h1]
    omega
theorem aSG.gn : ∀ {S : List Value}, aSG S → gen S = S.map some
  | [], _ => rfl
  | v :: S, h => by
    have ih := aSG.gn (S := S) (fun w hw => h w (List.mem_cons_of_mem _ hw))
    have h1 := (h v List.mem_cons_self).cat
    simp [gen, h1, ih]
/-- a tag, a length, a number, an int, pairs -/
abbrev aO : Type := Nat × Nat × Nat × Int × List (Int × Nat)
def opP (mt : List gM) (M : gM) (pc : Nat) (t n a : Nat) (z : Int) (ps : List (Int × Nat)) : Prop := match t with
  | 0 => ∀ (d : Nat) (L : gL) (S : List Value) (I : gI) (Q : Option Value → gH → Prop) (v : Int32), v.toInt = z → gg d M (pc + n) L (.int v :: S) I Q → gg d M pc L S I Q
  | 1 => ∀ (d : Nat) (L : gL) (S : List Value) (I : gI) (Q : Option Value → gH → Prop) (v : Value), L[a]? = some (some v) → (if z = 0 then ∃ x, v = .int x else ∃ c, v = .ref c) → gg d M (pc + n) L (v :: S) I Q → gg d M pc L S I Q
  | 2 => ∀ (d : Nat) (L : gL) (S : List Value) (I : gI) (Q : Option Value → gH → Prop) (v : Value), aLG L → (if z = 0 then ∃ x, v = .int x else ∃ c, v = .ref c) → gg d M (pc + n) (L.set a (some v)) S I Q → gg d M pc L (v :: S) I Q
  | 3 => ∀ (d : Nat) (L : gL) (S : List Value) (I : gI) (Q : Option Value → gH → Prop) (x y : Int32), aLG L → L[a]? = some (some (.int x)) → y.toInt = z → gg d M (pc + n) (L.set a (some (.int (x + y)))) S I Q → gg d M pc L S I Q
  | 4 => ∀ (d : Nat) (L : gL) (S : List Value) (I : gI) (Q : Option Value → gH → Prop) (x y : Int32), (9 ≤ a → y ≠ 0) → gg d M (pc + n) L (.int (bop a x y) :: S) I Q → gg d M pc L (.int y :: .int x :: S) I Q
  | 5 => ∀ (d : Nat) (L : gL) (S : List Value) (I : gI) (Q : Option Value → gH → Prop) (x : Int32), gg d M (pc + n) L (.int (uop a x) :: S) I Q → gg d M pc L (.int x :: S) I Q
  | 6 => ∀ (d : Nat) (L : gL) (S : List Value) (I : gI) (Q : Option Value → gH → Prop) (v : Value), aG v → gg d M (pc + n) L (v :: v :: S) I Q → gg d M pc L (v :: S) I Q
  | 7 => ∀ (d : Nat) (L : gL) (S : List Value) (I : gI) (Q : Option Value → gH → Prop) (v w : Value), aG v → aG w → gg d M (pc + n) L (v :: w :: v :: w :: S) I Q → gg d M pc L (v :: w :: S) I Q
  | 8 => ∀ (d : Nat) (L : gL) (S : List Value) (I : gI) (Q : Option Value → gH → Prop) (v : Value), aG v → gg d M (pc + n) L S I Q → gg d M pc L (v :: S) I Q
  | 9 => ∀ (d : Nat) (L : gL) (S : List Value) (I : gI) (Q : Option Value → gH → Prop), gg d M a L S I Q → gg d M pc L S I Q
  | 10 => ∀ (d : Nat) (L : gL) (S : List Value) (I : gI) (Q : Option Value → gH → Prop) (x : Int32), (crel a x.toInt 0 → gg d M z.toNat L S I Q) → (¬ crel a x.toInt 0 → gg d M (pc + n) L S I Q) → gg d M pc L (.int x :: S) I Q
  | 11 => ∀ (d : Nat) (L : gL) (S : List Value) (I : gI) (Q : Option Value → gH → Prop) (x y : Int32), (crel a x.toInt y.toInt → gg d M z.toNat L S I Q) → (¬ crel a x.toInt y.toInt → gg d M (pc + n) L S I Q) → gg d M pc L (.int y :: .int x :: S) I Q
  | 12 => ∀ (d : Nat) (L : gL) (S : List Value) (I : gI) (Q : Option Value → gH → Prop) (x : Nat), SH0[x]? = some (0, z.toNat) → gg d M (pc + n) L (.int (I x a) :: S) I Q → gg d M pc L (.ref x :: S) I Q
  | 13 => ∀ (d : Nat) (L : gL) (S : List Value) (I : gI) (Q : Option Value → gH → Prop) (x r : Nat), SH0[x]? = some (0, z.toNat) → RF0 x a = some r → gg d M (pc + n) L (.ref r :: S) I Q → gg d M pc L (.ref x :: S) I Q
  | 14 => ∀ (d : Nat) (L : gL) (S : List Value) (I : gI) (Q : Option Value → gH → Prop) (x : Nat) (v : Int32), SH0[x]? = some (0, z.toNat) → gg d M (pc + n) L S (gup I x a v) Q → gg d M pc L (.int v :: .ref x :: S) I Q
  | 15 => ∀ (d : Nat) (L : gL) (S : List Value) (I : gI) (Q : Option Value → gH → Prop) (x : Nat) (v : Int32), SH0[x]? = some (0, z.toNat) → v = 0 ∨ v = 1 → gg d M (pc + n) L S (gup I x a v) Q → gg d M pc L (.int v :: .ref x :: S) I Q
  | 16 => ∀ (d : Nat) (L : gL) (S : List Value) (I : gI) (Q : Option Value → gH → Prop) (x nn : Nat) (y : Int32), SH0[x]? = some (a, nn) → 0 ≤ y.toInt → y.toInt < nn → gg d M (pc + n) L (.int (I x y.toInt.toNat) :: S) I Q → gg d M pc L (.int y :: .ref x :: S) I Q
  | 17 => ∀ (d : Nat) (L : gL) (S : List Value) (I : gI) (Q : Option Value → gH → Prop) (x nn r : Nat) (y : Int32), SH0[x]? = some (4, nn) ∨ SH0[x]? = some (5, nn) → 0 ≤ y.toInt → y.toInt < nn → RF0 x y.toInt.toNat = some r → gg d M (pc + n) L (.ref r :: S) I Q → gg d M pc L (.int y :: .ref x :: S) I Q
  | 18 => ∀ (d : Nat) (L : gL) (S : List Value) (I : gI) (Q : Option Value → gH → Prop) (x nn : Nat) (y v : Int32), SH0[x]? = some (1, nn) → 0 ≤ y.toInt → y.toInt < nn → gg d M (pc + n) L S (gup I x y.toInt.toNat v) Q → gg d M pc L (.int v :: .int y :: .ref x :: S) I Q
  | 19 => ∀ (d : Nat) (L : gL) (S : List Value) (I : gI) (Q : Option Value → gH → Prop) (x nn : Nat) (y v : Int32), SH0[x]? = some (2, nn) → 0 ≤ y.toInt → y.toInt < nn → gg d M (pc + n) L S (gup I x y.toInt.toNat (vp_nar .boolean v)) Q → gg d M pc L (.int v :: .int y :: .ref x :: S) I Q
  | 20 => ∀ (d : Nat) (L : gL) (S : List Value) (I : gI) (Q : Option Value → gH → Prop) (x nn : Nat), SH0[x]? = some (1, nn) → gg d M (pc + n) L (.int (Int32.ofNat nn) :: S) I Q → gg d M pc L (.ref x :: S) I Q
  | 21 => ∀ (d : Nat) (L : gL) (I : gI) (Q : Option Value → gH → Prop) (v : Int32), Q (some (.int v)) (SH0, RF0, I) → gg d M pc L [.int v] I Q
  | 22 => ∀ (d : Nat) (L : gL) (I : gI) (Q : Option Value → gH → Prop) (v : Int32), v = 0 ∨ v = 1 → Q (some (.int v)) (SH0, RF0, I) → gg d M pc L [.int v] I Q
  | 23 => ∀ (d : Nat) (L : gL) (I : gI) (Q : Option Value → gH → Prop), Q none (SH0, RF0, I) → gg d M pc L [] I Q
  | 24 => ∀ (d : Nat) (L : gL) (S : List Value) (I : gI) (Q : Option Value → gH → Prop) (x : Int32), (∀ q ∈ ps, x.toInt = q.1 → gg d M q.2 L S I Q) → ((∀ q ∈ ps, x.toInt ≠ q.1) → gg d M a L S I Q) → gg d M pc L (.int x :: S) I Q
  | 25 => ∀ (d : Nat) (L : gL) (vs S : List Value) (I : gI) (Q Q1 : Option Value → gH → Prop) (mj : gM), mt[a]? = some mj → (vs.length : Int) = z → aSG vs → aSG S → S.length ≤ 8 → gg d mj 0 (gent mj.2.2.1 vs) [] I Q1 → (∀ (r : Option Value) (h' : gH), Q1 r h' → G (d + 1) M 0 0 0 0 (pc + n) L (r.toList ++ S) h'.1 h'.2.1 h'.2.2 Q) → gg (d + 1) M pc L (vs.reverse ++ S) I Q
  | 26 => ∀ (d : Nat) (L : gL) (vs S : List Value) (I : gI) (Q Q1 : Option Value → gH → Prop) (x ci mi : Nat) (mj : gM), SH0[x]? = some (0, ci) → ((ci : Int), mi) ∈ ps → mt[mi]? = some mj → (vs.length : Int) = z → aSG vs → aSG S → S.length ≤ 8 → gg d mj 0 (gent mj.2.2.1 (.ref x :: vs)) [] I Q1 → (∀ (r : Option Value) (h' : gH), Q1 r h' → G (d + 1) M 0 0 0 0 (pc + n) L (r.toList ++ S) h'.1 h'.2.1 h'.2.2 Q) → gg (d + 1) M pc L (vs.reverse ++ .ref x :: S) I Q
  | 27 => ∀ (d : Nat) (L : gL) (S : List Value) (I : gI) (Q : Option Value → gH → Prop) (x y : Int32), aSG S → S.length ≤ 8 → gg (d + 1) M (pc + n) L (.int (if a = 0 then (if x < y then y else x) else (if y < x then y else x)) :: S) I Q → gg (d + 1) M pc L (.int y :: .int x :: S) I Q
  | 28 => ∀ (d : Nat) (L : gL) (S : List Value) (I : gI) (Q : Option Value → gH → Prop) (x : Int32), aSG S → S.length ≤ 8 → gg (d + 1) M (pc + n) L (.int (if 0 ≤ x then x else 0 - x) :: S) I Q → gg (d + 1) M pc L (.int x :: S) I Q
  | 29 => ∀ (d : Nat) (L : gL) (S : List Value) (I : gI) (Q : Option Value → gH → Prop) (x y n0 n1 : Nat) (sp dp nn : Int32), SH0[x]? = some (1, n0) → SH0[y]? = some (1, n1) → 0 ≤ sp.toInt → 0 ≤ dp.toInt → 0 ≤ nn.toInt → sp.toInt + nn.toInt ≤ n0 → dp.toInt + nn.toInt ≤ n1 → aSG S → S.length ≤ 8 → gg (d + 1) M (pc + n) L S (gcp I x y sp.toInt.toNat dp.toInt.toNat nn.toInt.toNat) Q → gg (d + 1) M pc L (.int nn :: .int dp :: .ref y :: .int sp :: .ref x :: S) I Q
  | 30 => ∀ (d : Nat) (L : gL) (S : List Value) (I : gI) (Q : Option Value → gH → Prop) (x : Int32), L[a]? = some (some (.int x)) → 0 ≤ x.toInt → x.toInt < ps.length → (∀ y : Int32, (ps.getD x.toInt.toNat (0, 0)).1 = y.toInt → gg d M (pc + n) L (.int y :: S) I Q) → gg d M pc L S I Q
  | _ => False
def oP (mt : List gM) (M : gM) (pc : Nat) (o : aO) : Prop := opP mt M pc o.1 o.2.1 o.2.2.1 o.2.2.2.1 o.2.2.2.2
def oA (mt : List gM) (M : gM) (l : List (Nat × aO)) : Prop := ∀ q ∈ l, oP mt M q.1 q.2
theorem oA.nil {mt : List gM} {M : gM} : oA mt M [] := fun q h => absurd h List.not_mem_nil
theorem oA.cons {mt : List gM} {M : gM} {q : Nat × aO} {l : List (Nat × aO)} (h : oP mt M q.1 q.2) (hl : oA mt M l) : oA mt M (q :: l) := fun q' hq => by
  rcases List.mem_cons.mp hq with rfl | hq
  · exact h
  · exact hl q' hq
def oget : List (Nat × aO) → Nat → Option aO
  | [], _ => none
  | q :: r, pc => if q.1 = pc then some q.2 else oget r pc
theorem oget_ok {mt : List gM} {M : gM} : ∀ {l : List (Nat × aO)} {pc : Nat} {o : aO}, oA mt M l → oget l pc = some o → oP mt M pc o
  | [], _, _, _, h => by cases h
  | q :: r, pc, o, hA, h => by
    simp only [oget] at h
    split at h
    next e =>
      cases h
      rw [← e]
      exact hA q List.mem_cons_self
    next => exact oget_ok (fun q' hq => hA q' (List.mem_cons_of_mem _ hq)) h
