/-! ===== ends, and the whole walk ===== -/
def bIn (B : aB) (a : aV) (b : Int × Int) : Bool := match abd B a with
  | some p => asub p b
  | none => false
theorem bIn_ok {B : aB} {ρ : List Int32} {a : aV} {b : Int × Int} {v : Value} (hB : aok B ρ) (h : bIn B a b = true) (hv : aev ρ a v) : ∃ x, v = .int x ∧ ain b x := by
  unfold bIn at h
  split at h
  next p hp =>
    obtain ⟨x, rfl, hx⟩ := hv.bd hp
    exact ⟨x, rfl, asub_ok h (abd_ok hB hx hp)⟩
  next => cases h
def aexit1 (bt : aT) (am : List aV) (B : aB) (K : aK) (r : Option aV) (c : aC) : Bool := (match c.1, r with
  | none, none => true
  | some b, some a => bIn B a b
  | _, _ => false) && c.2.1.all (fun q => (match am[q.1]? with
    | some a => bIn B a q.2
    | none => false)) && c.2.2.all (slotIn bt B K)
def aexit (bt : aT) (cs : List aC) (am : List aV) (B : aB) (K : aK) (r : Option aV) : Bool := K.all (k1 bt B) && cs.any (aexit1 bt am B K r)
def aRv (ρ : List Int32) : Option aV → Option Value → Prop
  | none, none => True
  | some a, some v => aev ρ a v
  | _, _ => False
theorem aexit_ok {bt : aT} {cs : List aC} {am : List aV} {B : aB} {K : aK} {r : Option aV} {ρ : List Int32} {I : gI} {vs : List Value} {rv : Option Value} (h : aexit bt cs am B K r = true) (hB : aok B ρ) (hK : aheap bt K ρ I) (ham : ∀ (p : Nat) (a : aV), am[p]? = some a → ∃ v, vs[p]? = some v ∧ aev ρ a v) (hr : aRv ρ r rv) :
    aInv bt I ∧ ∃ c ∈ cs, caseOK c vs rv I := by
  simp only [aexit, Bool.and_eq_true] at h
  refine ⟨kinv_ok hB hK h.1, ?_⟩
  obtain ⟨c, hc, h2⟩ := List.any_eq_true.mp h.2
  simp only [aexit1, Bool.and_eq_true] at h2
  obtain ⟨⟨g1, g2⟩, g3⟩ := h2
  refine ⟨c, hc, ?_, fun q hq => ?_, fun s hs => slotIn_ok hB hK (List.all_eq_true.mp g3 s hs)⟩
  · cases hc1 : c.1 with
    | none =>
      rw [hc1] at g1
      cases r with
      | none =>
        cases rv with
        | none => rfl
        | some v => exact hr.elim
      | some a => cases g1
    | some b =>
      rw [hc1] at g1
      cases r with
      | none => cases g1
      | some a =>
        cases rv with
        | none => exact hr.elim
        | some v =>
          obtain ⟨x, rfl, hx⟩ := bIn_ok hB g1 hr
          exact ⟨x, rfl, hx⟩
  · have h3 := List.all_eq_true.mp g2 q hq
    split at h3
    next a ha =>
      obtain ⟨v, hv1, hv2⟩ := ham _ a ha
      obtain ⟨x, rfl, hx⟩ := bIn_ok hB h3 hv2
      exact ⟨x, hv1, hx⟩
    next => cases h3
/-- one instruction, and on -/
def astp (bt : aT) (md : aMd) (h nm : Nat) (sm : List aM) (cs : List aC) (am : List aV) (go : aS → Bool) (o : aO) (pc : Nat) (L : aL) (S : List aV) (B : aB) (K : aK) : Bool := match o with
  | (21, _, _, _, _) => (match S with
    | [v] => aexit bt cs am B K (some v)
    | _ => false)
  | (22, _, _, _, _) => (match S with
    | [v] => bIn B v (0, 1) && aexit bt cs am B K (some v)
    | _ => false)
  | (23, _, _, _, _) => (match S with
    | [] => aexit bt cs am B K none
    | _ => false)
  | (25, n, a, z, _) => decide (a < nm) && (match s25 bt md sm h pc n a z L S B K with
    | some l => l.all go
    | none => false)
  | (26, n, _, z, ps) => ps.all (fun q => decide (q.2 < nm)) && (match s26 bt md sm h pc n z ps L S B K with
    | some l => l.all go
    | none => false)
  | o => (match ast1 bt md h o pc L S B K with
    | some l => l.all go
    | none => false)
/-- pieces that a letter's values are cut into: value by value, or at the cuts -/
def apcs : Int → List Int → List (Int × Int)
  | lo, [] => [(lo, aHi)]
  | lo, c :: r => (lo, c - 1) :: apcs c r
theorem apcs_ok {x : Int32} : ∀ {l : List Int} {lo : Int}, lo ≤ x.toInt → ∃ p ∈ apcs lo l, p.1 ≤ x.toInt ∧ x.toInt ≤ p.2
  | [], lo, h => ⟨(lo, aHi), List.mem_cons_self, h, (a_rng x).2⟩
  | c :: r, lo, h => by
    by_cases hc : x.toInt ≤ c - 1
    · exact ⟨(lo, c - 1), List.mem_cons_self, h, hc⟩
    · obtain ⟨p, h1, h2⟩ := apcs_ok (x := x) (l := r) (lo := c) (by omega)
      exact ⟨p, List.mem_cons_of_mem _ h1, h2⟩
def aspl (B : aB) (a : aV) (cuts : List Int) : Option (List aB) := match abd B a, cuts with
  | some p, [] => if p.1 < p.2 ∧ p.2 - p.1 < 64 then some ((List.range (p.2 - p.1 + 1).toNat).filterMap (fun i : Nat => aref B a (p.1 + (i : Int)) (p.1 + (i : Int)))) else none
  | some _, c :: r => if 1 < ((apcs aLo (c :: r)).filterMap (fun q => aref B a q.1 q.2)).length then some ((apcs aLo (c :: r)).filterMap (fun q => aref B a q.1 q.2)) else none
  | none, _ => none
theorem aspl_ok {B : aB} {ρ : List Int32} {a : aV} {v : Value} {cuts : List Int} {l : List aB} (hB : aok B ρ) (hv : aev ρ a v) (h : aspl B a cuts = some l) : ∃ B' ∈ l, aok B' ρ := by
  unfold aspl at h
  split at h
  next p hp =>
    obtain ⟨x, -, hx⟩ := hv.bd hp
    have hp1 := abd_ok hB hx hp
    split at h
    next hh =>
      cases h
      obtain ⟨B', eb, hb⟩ := aref_ok (lo := p.1 + ((x.toInt - p.1).toNat : Nat)) (hi := p.1 + ((x.toInt - p.1).toNat : Nat)) hB hx (by omega) (by omega)
      exact ⟨B', List.mem_filterMap.mpr ⟨(x.toInt - p.1).toNat, List.mem_range.mpr (by omega), eb⟩, hb⟩
    next => cases h
  next p c r hp =>
    obtain ⟨x, -, hx⟩ := hv.bd hp
    split at h
    next =>
      cases h
      obtain ⟨q, h1, h2, h3⟩ := apcs_ok (x := x) (l := c :: r) (lo := aLo) (a_rng x).1
      obtain ⟨B', eb, hb⟩ := aref_ok hB hx h2 h3
      exact ⟨B', List.mem_filterMap.mpr ⟨q, h1, eb⟩, hb⟩
    next => cases h
  next => cases h
/-- where the letter stands: (0, i) the local i; (c + 1, j) the slot j of cell c -/
def apos (L : aL) (K : aK) (c i : Nat) : Option aV := match c with
  | 0 => (L[i]?).join
  | c + 1 => kget K c i
def aspt (sp : List (Nat × Nat × Nat × List Int)) (pc : Nat) (L : aL) (S : List aV) (B : aB) (K : aK) : Option (List aS) := sp.findSome? (fun q => if q.1 = pc then (match apos L K q.2.1 q.2.2.1 with
  | some a => (aspl B a q.2.2.2).map (fun l => l.map (fun B' => (pc, L, S, B', K)))
  | none => none) else none)
theorem apos_ok {bt : aT} {ρ : List Int32} {L : aL} {Lc : gL} {K : aK} {I : gI} {c i : Nat} {a : aV} (hL : aLc ρ L Lc) (hK : aheap bt K ρ I) (h : apos L K c i = some a) : ∃ v, aev ρ a v := by
  unfold apos at h
  split at h
  next =>
    have h : L[i]? = some (some a) := by
      cases hl : L[i]? with
      | none =>
        rw [hl] at h
        cases h
      | some o =>
        rw [hl] at h
        have h : o = some a := h
        rw [h]
    obtain ⟨v, -, hv⟩ := hL.2.2 _ a h
    exact ⟨v, hv⟩
  next => exact ⟨_, aev.ofInt (hK.1 _ (kget_some h))⟩
theorem aspt_ok {bt : aT} {md : aMd} {I0 : gI} {M : gM} {Q : Option Value → gH → Prop} {D : Nat} {ρ0 : List Int32} {sp : List (Nat × Nat × Nat × List Int)} {pc : Nat} {L : aL} {S : List aV} {B : aB} {K : aK} {l : List aS} (hs : aspt sp pc L S B K = some l) (hl : ∀ σ ∈ l, aGo bt md I0 M Q D ρ0 σ) : aGo bt md I0 M Q D ρ0 (pc, L, S, B, K) := by
  intro ρ Lc Sc I hρ hL hS hB hK hF
  obtain ⟨q, -, hq⟩ := List.exists_of_findSome?_eq_some hs
  split at hq
  next hpc =>
    split at hq
    next a ha =>
      obtain ⟨lb, hlb, rfl⟩ := Option.map_eq_some_iff.mp hq
      obtain ⟨v, hv⟩ := apos_ok hL hK ha
      obtain ⟨B', hb1, hb2⟩ := aspl_ok hB hv hlb
      exact hl (pc, L, S, B', K) (List.mem_map.mpr ⟨B', hb1, rfl⟩) ρ Lc Sc I hρ hL hS hb2 hK hF
    next => cases hq
  next => cases hq
def aexec (bt : aT) (md : aMd) (h nm : Nat) (sm : List aM) (ops : List (Nat × aO)) (labs : List aLab) (cs : List aC) (sp : List (Nat × Nat × Nat × List Int)) (am : List aV) (rX : aR) : Nat → aS → Bool
  | 0, _ => false
  | f + 1, σ => labs.any (alab bt σ.1 σ.2.2.2.1 σ.2.2.2.2 σ.2.1 σ.2.2.1 rX) || (match aspt sp σ.1 σ.2.1 σ.2.2.1 σ.2.2.2.1 σ.2.2.2.2 with
    | some l => l.all (aexec bt md h nm sm ops labs cs sp am rX f)
    | none => (match oget ops σ.1 with
      | some o => astp bt md h nm sm cs am (aexec bt md h nm sm ops labs cs sp am rX f) o σ.1 σ.2.1 σ.2.2.1 σ.2.2.2.1 σ.2.2.2.2
      | none => false))
theorem rmu_ext {ρ ρ' : List Int32} (e : aext ρ ρ') : ∀ {r : aR}, aRok ρ r → rmu ρ' r = rmu ρ r
  | [], _ => rfl
  | q :: r, h => by
    have ih := rmu_ext e (r := r) (fun q' hq => h q' (List.mem_cons_of_mem _ hq))
    obtain ⟨x, hx⟩ := h q List.mem_cons_self
    simp only [rmu, rc, ih, avx_of hx, avx_of (hx.mono e)]
section EX
variable {bt : aT} {md : aMd} {I0 : gI} {M : gM} {Q : Option Value → gH → Prop} {d h nm : Nat} {mt : List gM} {Ext : gI → Prop} {sm : List aM} {ops : List (Nat × aO)} {labs : List aLab} {cs : List aC} {sp : List (Nat × Nat × Nat × List Int)} {vs : List Value}
theorem aexec_ok (hA : oA mt M ops) (hnm : nm = mt.length) (hsm : ∀ m ∈ sm, MSok bt Ext mt m) (hE : ∀ I', afr md I0 I' → Ext I') (hex : ∀ r I', aInv bt I' → afr md I0 I' → (∃ c ∈ cs, caseOK c vs r I') → Q r (SH0, RF0, I'))
    {am : List aV} {rX : aR} {ρ0 : List Int32} (hX : aRok ρ0 rX) (ham : ∀ (p : Nat) (a : aV), am[p]? = some a → ∃ v, vs[p]? = some v ∧ aev ρ0 a v)
    (hlab : ∀ y ∈ labs, ∀ ρ Lc Sc I, aSat bt ρ y Lc Sc I → afr md I0 I → rmu ρ y.2.2.2.2.2 < rmu ρ0 rX → gg (d + h) M y.1 Lc Sc I Q) :
    ∀ f σ, aexec bt md h nm sm ops labs cs sp am rX f σ = true → aGo bt md I0 M Q (d + h) ρ0 σ
  | 0, _, he => by cases he
  | f + 1, (pc, L, S, B, K), he => by
    have ih := aexec_ok hA hnm hsm hE hex hX ham hlab f
    simp only [aexec, Bool.or_eq_true] at he
    rcases he with he | he
    · intro ρ Lc Sc I hρ hL hS hB hK hF
      obtain ⟨y, hy, he1⟩ := List.any_eq_true.mp he
      simp only [alab, Bool.and_eq_true, decide_eq_true_eq] at he1
      obtain ⟨hpc, he2⟩ := he1
      subst hpc
      obtain ⟨ρ1, e1, e2, e3⟩ := aens_ok (bt := bt) (l := y.2.2.2.2.1) hB hK
      have hX1 : aRok ρ1 rX := fun q hq => by
        obtain ⟨x, hx⟩ := hX q hq
        exact ⟨x, hx.mono (hρ.tr e1)⟩
      obtain ⟨ρ2, g1, g2⟩ := alab1_ok he2 (hL.mono e1) (hS.mono e1) e2 e3 hX1
      rw [rmu_ext (hρ.tr e1) hX] at g2
      exact hlab y hy ρ2 Lc Sc I g1 hF g2
    · split at he
      next l hl => exact aspt_ok hl (fun σ hσ => ih σ (List.all_eq_true.mp he σ hσ))
      next =>
        split at he
        next o ho =>
          have hop := oget_ok hA ho
          have hall : ∀ {l : List aS}, l.all (aexec bt md h nm sm ops labs cs sp am rX f) = true → ∀ σ ∈ l, aGo bt md I0 M Q (d + h) ρ0 σ := fun hl σ hσ => ih σ (List.all_eq_true.mp hl σ hσ)
          have ham' : ∀ {ρ : List Int32}, aext ρ0 ρ → ∀ (p : Nat) (a : aV), am[p]? = some a → ∃ v, vs[p]? = some v ∧ aev ρ a v := fun hρ p a hp => by
            obtain ⟨v, h1, h2⟩ := ham p a hp
            exact ⟨v, h1, h2.mono hρ⟩
          unfold astp at he
          split at he
          · intro ρ Lc Sc I hρ hL hS hB hK hF
            split at he
            next v =>
              obtain ⟨w, Sc1, rfl, h1, h2⟩ := aSt.cons hS
              match Sc1, h2 with
              | [], _ =>
                obtain ⟨g1, c, hc, g2⟩ := aexit_ok (rv := some w) he hB hK (ham' hρ) h1
                have hcw : ∃ x, w = .int x := by
                  obtain ⟨g3, -, -⟩ := g2
                  split at g3
                  next => cases g3
                  next b hb =>
                    obtain ⟨x, hx, -⟩ := g3
                    exact ⟨x, Option.some.inj hx⟩
                obtain ⟨x, rfl⟩ := hcw
                exact hop (d + h) Lc I Q x (hex _ I g1 hF ⟨c, hc, g2⟩)
            next => cases he
          · intro ρ Lc Sc I hρ hL hS hB hK hF
            split at he
            next v =>
              simp only [Bool.and_eq_true] at he
              obtain ⟨w, Sc1, rfl, h1, h2⟩ := aSt.cons hS
              match Sc1, h2 with
              | [], _ =>
                obtain ⟨g1, c, hc, g2⟩ := aexit_ok (rv := some w) he.2 hB hK (ham' hρ) h1
                obtain ⟨x, rfl, hx⟩ := bIn_ok hB he.1 h1
                exact hop (d + h) Lc I Q x (a_01 hx.1 hx.2) (hex _ I g1 hF ⟨c, hc, g2⟩)
            next => cases he
          · intro ρ Lc Sc I hρ hL hS hB hK hF
            split at he
            next =>
              match Sc, hS with
              | [], _ =>
                obtain ⟨g1, g2⟩ := aexit_ok (rv := none) he hB hK (ham' hρ) trivial
                exact hop (d + h) Lc I Q (hex _ I g1 hF g2)
            next => cases he
          · simp only [Bool.and_eq_true, decide_eq_true_eq] at he
            obtain ⟨h0, he⟩ := he
            split at he
            next l hl => exact s25_ok (List.getElem?_eq_getElem (by rw [← hnm]; exact h0)) hop hsm hE hl (hall he)
            next => cases he
          · simp only [Bool.and_eq_true] at he
            obtain ⟨h0, he⟩ := he
            split at he
            next l hl => exact s26_ok (fun q hq => by rw [← hnm]; simpa using List.all_eq_true.mp h0 q hq) hop hsm hE hl (hall he)
            next => cases he
          · split at he
            next l hl => exact ast1_ok hop hl (hall he)
            next => cases he
        next => cases he
end EX
/-- the state at a method's entry -/
def aentA : List (Nat × Int × Int) → aB → List aV × aB
  | [], B => ([], B)
  | q :: r, B => if q.1 = 1 then ((1, q.2.1) :: (aentA r B).1, (aentA r B).2) else ((amk B q.2 none).1 :: (aentA r (amk B q.2 none).2).1, (aentA r (amk B q.2 none).2).2)
theorem aentA_ok : ∀ {l : List (Nat × Int × Int)} {vs : List Value} {B : aB} {ρ : List Int32}, argsOK l vs → aok B ρ → ∃ ρ', aext ρ ρ' ∧ aok (aentA l B).2 ρ' ∧ aSt ρ' (aentA l B).1 vs
  | [], [], B, ρ, _, hB => ⟨ρ, aext.rf, hB, trivial⟩
  | q :: r, v :: s, B, ρ, h, hB => by
    obtain ⟨h1, h2⟩ := h
    simp only [aentA]
    unfold argOK at h1
    by_cases e : q.1 = 1
    · rw [if_pos e] at h1 ⊢
      obtain ⟨c, rfl, hc⟩ := h1
      obtain ⟨ρ', g1, g2, g3⟩ := aentA_ok (l := r) h2 hB
      exact ⟨ρ', g1, g2, Or.inr ⟨c, rfl, by rw [hc]⟩, g3⟩
    · rw [if_neg e] at h1 ⊢
      obtain ⟨x, rfl, hx⟩ := h1
      obtain ⟨ρ1, e1, e2, e3⟩ := amk_ok (b := q.2) (ex := none) hB hx.1 hx.2 (fun a b h => by cases h)
      obtain ⟨ρ', g1, g2, g3⟩ := aentA_ok (l := r) h2 e2
      exact ⟨ρ', e1.tr g1, g2, aev.ofInt (e3.mono g1), g3⟩
  | [], _ :: _, _, _, h, _ => h.elim
  | _ :: _, [], _, _, h, _ => h.elim
theorem aSt.getA {ρ : List Int32} : ∀ {A : List aV} {V : List Value} {i : Nat} {a : aV}, aSt ρ A V → A[i]? = some a → ∃ v, V[i]? = some v ∧ aev ρ a v
  | [], [], _, _, _, h => by simp at h
  | b :: _, w :: _, 0, a, h, hi => by
    have e : b = a := by simpa using hi
    subst e
    exact ⟨w, rfl, h.1⟩
  | _ :: r, _ :: s, i + 1, a, h, hi => by
    have hi : r[i]? = some a := by simpa using hi
    obtain ⟨v, h1, h2⟩ := aSt.getA h.2 hi
    exact ⟨v, by simpa using h1, h2⟩
  | [], _ :: _, _, _, h, _ => h.elim
  | _ :: _, [], _, _, h, _ => h.elim
def rOK (n : Nat) (r : aR) : Bool := r.all (fun q => (decide (q.2.1 = 0) && decide (0 ≤ q.2.2) && decide (q.2.2.toNat < n)) || decide (q.2 = (2, 0)))
theorem rOK_ok {B : aB} {ρ : List Int32} {r : aR} (hB : aok B ρ) (h : rOK B.length r = true) : aRok ρ r := by
  intro q hq
  have hg := List.all_eq_true.mp h q hq
  simp only [Bool.or_eq_true, Bool.and_eq_true, decide_eq_true_eq] at hg
  rcases hg with ⟨⟨e1, e2⟩, e3⟩ | e
  · rw [← hB.1] at e3
    exact ⟨ρ[q.2.2.toNat], Or.inl ⟨e1, List.getElem?_eq_getElem e3⟩⟩
  · rw [e]
    exact ⟨0, Or.inr ⟨rfl, rfl⟩⟩
/-- the check of a method's summary -/
def achk (bt : aT) (nm : Nat) (sm : List aM) (ops : List (Nat × aO)) (labs : List aLab) (sp : List (Nat × Nat × Nat × List Int)) (fuel : Nat) (rE : aR) (maxL : Nat) (m : aM) : Bool := match aposts (aentA m.2.2.1 []).2 [] m.2.2.2.1 with
  | some q => rOK 0 rE && decide ((aentA m.2.2.1 []).1.length ≤ maxL) && aexec bt m.2.2.2.2.1 m.2.1 nm sm ops labs m.2.2.2.2.2 sp (aentA m.2.2.1 []).1 rE fuel (0, (aentA m.2.2.1 []).1.map some ++ List.replicate (maxL - (aentA m.2.2.1 []).1.length) none, [], q.1, q.2) &&
      labs.all (fun y => rOK y.2.2.2.1.length y.2.2.2.2.2 && aexec bt m.2.2.2.2.1 m.2.1 nm sm ops labs m.2.2.2.2.2 sp [] y.2.2.2.2.2 fuel (y.1, y.2.1, y.2.2.1, y.2.2.2.1, y.2.2.2.2.1))
  | none => false
theorem achk_ok {bt : aT} {nm : Nat} {sm : List aM} {ops : List (Nat × aO)} {labs : List aLab} {sp : List (Nat × Nat × Nat × List Int)} {fuel : Nat} {rE : aR} {maxL : Nat} {m : aM} {mt : List gM} {Ext : gI → Prop} {M : gM} (hM : mt[m.1]? = some M) (hmL : M.2.2.1 = maxL) (hA : oA mt M ops) (hnm : nm = mt.length) (hsm : ∀ m ∈ sm, MSok bt Ext mt m)
    (hE : ∀ I I', Ext I → afr m.2.2.2.2.1 I I' → Ext I') (h : achk bt nm sm ops labs sp fuel rE maxL m = true) : MSok bt Ext mt m := by
  intro mj hmj d vs I hargs hinv hext hpre
  rw [hM] at hmj
  cases hmj
  unfold achk at h
  split at h
  next q hq =>
    simp only [Bool.and_eq_true, decide_eq_true_eq] at h
    obtain ⟨⟨⟨h1, h2⟩, h3⟩, h4⟩ := h
    have hex : ∀ r I', aInv bt I' → afr m.2.2.2.2.1 I I' → (∃ c ∈ m.2.2.2.2.2, caseOK c vs r I') → mQ bt m.2.2.2.2.1 m.2.2.2.2.2 vs I r (SH0, RF0, I') := fun r I' g1 g2 g3 => ⟨I', rfl, g1, g2, g3⟩
    have hlabs : ∀ N, ∀ y ∈ labs, ∀ ρ Lc Sc I1, aSat bt ρ y Lc Sc I1 → afr m.2.2.2.2.1 I I1 → rmu ρ y.2.2.2.2.2 < N → gg (d + m.2.1) M y.1 Lc Sc I1 (mQ bt m.2.2.2.2.1 m.2.2.2.2.2 vs I) := by
      intro N
      induction N with
      | zero => exact fun y _ ρ Lc Sc I1 _ _ hN => absurd hN (Nat.not_lt_zero _)
      | succ N ih =>
        intro y hy ρ Lc Sc I1 hsat hf hN
        have hy4 := List.all_eq_true.mp h4 y hy
        simp only [Bool.and_eq_true] at hy4
        obtain ⟨s1, s2, s3, s4⟩ := hsat
        exact aexec_ok hA hnm hsm (fun I' hI' => hE I I' hext hI') hex (rOK_ok s3 hy4.1) (am := []) (fun p a hp => by simp at hp)
          (fun y' hy' ρ' Lc' Sc' I' g1 g2 g3 => ih y' hy' ρ' Lc' Sc' I' g1 g2 (by omega)) fuel _ hy4.2 ρ Lc Sc I1 aext.rf s1 s2 s3 s4 hf
    obtain ⟨ρ1, e1, e2, e3⟩ := aentA_ok (B := []) (ρ := []) hargs ⟨rfl, fun i e x hi => by simp at hi⟩
    obtain ⟨ρ2, q', f1, f2, f3, f4⟩ := aposts_ok (l := m.2.2.2.1) e2 (aheap.nil (bt := bt) hinv) hpre
    rw [hq] at f1
    cases f1
    have hA2 := aSt.mono f2 e3
    have hlen : vs.length = (aentA m.2.2.1 []).1.length := hA2.len
    have hgen : gen vs = vs.map some := aSG.gn hA2.good
    have hX : aRok ρ2 rE := fun q hq => by
      have hg := List.all_eq_true.mp h1 q hq
      simp only [Bool.or_eq_true, Bool.and_eq_true, decide_eq_true_eq] at hg
      rcases hg with ⟨_, e3⟩ | e
      · exact absurd e3 (Nat.not_lt_zero _)
      · rw [e]
        exact ⟨0, Or.inr ⟨rfl, rfl⟩⟩
    refine aexec_ok hA hnm hsm (fun I' hI' => hE I I' hext hI') hex hX (fun p a hp => aSt.getA hA2 hp) (fun y hy ρ Lc Sc I1 g1 g2 g3 => hlabs _ y hy ρ Lc Sc I1 g1 g2 g3) fuel _ h3 ρ2 _ _ I aext.rf ?_ trivial f3 f4 afr.rf
    have hgL : gent M.2.2.1 vs = vs.map some ++ List.replicate (maxL - vs.length) none := by
      unfold gent
      rw [hgen, hmL, List.length_map]
    rw [hgL]
    refine ⟨fun i w hw => ?_, by simp [hlen], fun i a hi => ?_⟩
    · by_cases hi : i < vs.length
      · rw [List.getElem?_append_left (by simpa using hi), List.getElem?_map, Option.map_eq_some_iff] at hw
        obtain ⟨v, hv, e⟩ := hw
        cases e
        exact hA2.good _ (List.mem_of_getElem? hv)
      · rw [List.getElem?_append_right (by simpa using hi), List.getElem?_replicate] at hw
        split at hw <;> simp at hw
    · by_cases hl : i < vs.length
      · rw [List.getElem?_append_left (by simpa [← hlen] using hl), List.getElem?_map, Option.map_eq_some_iff] at hi
        obtain ⟨a', ha', e⟩ := hi
        cases e
        obtain ⟨v, hv, hav⟩ := aSt.getA hA2 ha'
        exact ⟨v, by rw [List.getElem?_append_left (by simpa using hl), List.getElem?_map, hv]; rfl, hav⟩
      · rw [List.getElem?_append_right (by simpa [← hlen] using hl), List.getElem?_replicate] at hi
        split at hi <;> simp at hi
  next => cases h
