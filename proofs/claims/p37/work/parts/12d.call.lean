/-! ===== summaries of methods, and calls by them ===== -/
/-- what comes back, bounds of arguments then, bounds of slots then -/
abbrev aC : Type := Option (Int × Int) × List (Nat × Int × Int) × List (Nat × Nat × Int × Int)
/-- method, frames, arguments ((1, c, _): the cell c; (0, lo, hi): a number), slots at first, slots that may be written, ends -/
abbrev aM : Type := Nat × Nat × List (Nat × Int × Int) × List (Nat × Nat × Int × Int) × aMd × List aC
def argOK (q : Nat × Int × Int) (v : Value) : Prop := if q.1 = 1 then ∃ c : Nat, v = .ref c ∧ q.2.1 = (c : Int) else ∃ x, v = .int x ∧ ain q.2 x
def argsOK : List (Nat × Int × Int) → List Value → Prop
  | [], [] => True
  | q :: r, v :: s => argOK q v ∧ argsOK r s
  | _, _ => False
/-- (c, j, aEQ + c', j'): the slot is equal to the slot j' of cell c' -/
def aEQ : Int := 10000000000
def slotOK (I : gI) (s : Nat × Nat × Int × Int) : Prop := if aEQ ≤ s.2.2.1 then I s.1 s.2.1 = I (s.2.2.1 - aEQ).toNat s.2.2.2.toNat else ain s.2.2 (I s.1 s.2.1)
theorem slotOK_b {I : gI} {s : Nat × Nat × Int × Int} (h : s.2.2.1 < aEQ) (hs : slotOK I s) : ain s.2.2 (I s.1 s.2.1) := by
  unfold slotOK at hs
  rw [if_neg (by omega)] at hs
  exact hs
theorem slotOK_m {I : gI} {s : Nat × Nat × Int × Int} (h : s.2.2.1 < aEQ) (hs : ain s.2.2 (I s.1 s.2.1)) : slotOK I s := by
  unfold slotOK
  rw [if_neg (by omega)]
  exact hs
theorem slotOK_e {I : gI} {c j c' j' : Nat} (h : slotOK I (c, j, aEQ + (c' : Int), (j' : Int))) : I c j = I c' j' := by
  unfold slotOK at h
  rw [if_pos (show aEQ ≤ aEQ + (c' : Int) by omega)] at h
  have h : I c j = I (aEQ + (c' : Int) - aEQ).toNat ((j' : Int)).toNat := h
  rw [show (aEQ + (c' : Int) - aEQ).toNat = c' by omega, Int.toNat_natCast] at h
  exact h
theorem slotOK_q {I : gI} {c j c' j' : Nat} (h : I c j = I c' j') : slotOK I (c, j, aEQ + (c' : Int), (j' : Int)) := by
  unfold slotOK
  rw [if_pos (show aEQ ≤ aEQ + (c' : Int) by omega)]
  show I c j = I (aEQ + (c' : Int) - aEQ).toNat ((j' : Int)).toNat
  rw [show (aEQ + (c' : Int) - aEQ).toNat = c' by omega, Int.toNat_natCast]
  exact h
def caseOK (c : aC) (vs : List Value) (r : Option Value) (I : gI) : Prop := (match c.1 with
  | none => r = none
  | some b => ∃ x, r = some (.int x) ∧ ain b x) ∧ (∀ q ∈ c.2.1, ∃ x, vs[q.1]? = some (.int x) ∧ ain q.2 x) ∧ ∀ s ∈ c.2.2, slotOK I s
def mQ (bt : aT) (md : aMd) (cs : List aC) (vs : List Value) (I : gI) : Option Value → gH → Prop := fun r hh => ∃ I', hh = (SH0, RF0, I') ∧ aInv bt I' ∧ afr md I I' ∧ ∃ c ∈ cs, caseOK c vs r I'
def MSok (bt : aT) (Ext : gI → Prop) (mt : List gM) (m : aM) : Prop :=
  ∀ mj, mt[m.1]? = some mj → ∀ (d : Nat) (vs : List Value) (I : gI), argsOK m.2.2.1 vs → aInv bt I → Ext I → (∀ s ∈ m.2.2.2.1, slotOK I s) → gg (d + m.2.1) mj 0 (gent mj.2.2.1 vs) [] I (mQ bt m.2.2.2.2.1 m.2.2.2.2.2 vs I)
def conf (B : aB) (q : Nat × Int × Int) (a : aV) : Bool := if q.1 = 1 then decide (a = (1, q.2.1)) else (match abd B a with
  | some b => asub b q.2
  | none => false)
def confs (B : aB) : List (Nat × Int × Int) → List aV → Bool
  | [], [] => true
  | q :: r, a :: s => conf B q a && confs B r s
  | _, _ => false
theorem conf_ok {B : aB} {ρ : List Int32} {q : Nat × Int × Int} {a : aV} {v : Value} (hB : aok B ρ) (h : conf B q a = true) (hv : aev ρ a v) : argOK q v := by
  unfold conf at h
  unfold argOK
  by_cases e : q.1 = 1
  · rw [if_pos e] at h ⊢
    have h : a = (1, q.2.1) := by simpa using h
    subst h
    obtain ⟨k, h1, h2⟩ := hv.cell
    exact ⟨k, h1, h2⟩
  · rw [if_neg e] at h ⊢
    split at h
    next b hb =>
      obtain ⟨x, rfl, hx⟩ := hv.bd hb
      exact ⟨x, rfl, asub_ok h (abd_ok hB hx hb)⟩
    next => cases h
theorem confs_ok {B : aB} {ρ : List Int32} (hB : aok B ρ) : ∀ {l : List (Nat × Int × Int)} {A : List aV} {vs : List Value}, confs B l A = true → aSt ρ A vs → argsOK l vs
  | [], [], [], _, _ => trivial
  | q :: r, a :: s, v :: vs, h, hv => by
    simp only [confs, Bool.and_eq_true] at h
    exact ⟨conf_ok hB h.1 hv.1, confs_ok hB h.2 hv.2⟩
  | [], [], _ :: _, _, hv => hv.elim
  | _ :: _, _ :: _, [], _, hv => hv.elim
  | [], _ :: _, _, h, _ => by cases h
  | _ :: _, [], _, h, _ => by cases h
def slotIn0 (bt : aT) (B : aB) (K : aK) (s : Nat × Nat × Int × Int) : Bool := match kget K s.1 s.2.1 with
  | some a => (match abd B a with
    | some b => asub b s.2.2
    | none => false)
  | none => asub (bnd bt s.1 s.2.1) s.2.2
def slotEq (K : aK) (s : Nat × Nat × Int × Int) : Bool := match kget K s.1 s.2.1, kget K (s.2.2.1 - aEQ).toNat s.2.2.2.toNat with
  | some a, some b => decide (a = b)
  | _, _ => false
def slotIn (bt : aT) (B : aB) (K : aK) (s : Nat × Nat × Int × Int) : Bool := if aEQ ≤ s.2.2.1 then slotEq K s else slotIn0 bt B K s
theorem slotIn_ok {bt : aT} {B : aB} {K : aK} {s : Nat × Nat × Int × Int} {ρ : List Int32} {I : gI} (hB : aok B ρ) (hK : aheap bt K ρ I) (h : slotIn bt B K s = true) : slotOK I s := by
  unfold slotIn at h
  by_cases e : aEQ ≤ s.2.2.1
  · rw [if_pos e] at h
    unfold slotOK
    rw [if_pos e]
    unfold slotEq at h
    split at h
    next a b ha hb =>
      have h : a = b := by simpa using h
      subst h
      exact aiv.fn (hK.1 _ (kget_some ha)) (hK.1 _ (kget_some hb))
    next => cases h
  rw [if_neg e] at h
  refine slotOK_m (by omega) ?_
  unfold slotIn0 at h
  split at h
  next a ha =>
    split at h
    next b hb => exact asub_ok h (abd_ok hB (hK.1 _ (kget_some ha)) hb)
    next => cases h
  next ha => exact asub_ok h (hK.2 _ _ (kget_none ha))
theorem aSt.get {ρ : List Int32} : ∀ {A : List aV} {V : List Value} {i : Nat} {v : Value}, aSt ρ A V → V[i]? = some v → ∃ a, A[i]? = some a ∧ aev ρ a v
  | [], [], _, _, _, h => by simp at h
  | a :: _, w :: _, 0, v, h, hi => by
    have e : w = v := by simpa using hi
    subst e
    exact ⟨a, rfl, h.1⟩
  | _ :: r, _ :: s, i + 1, v, h, hi => by
    have hi : s[i]? = some v := by simpa using hi
    obtain ⟨a, h1, h2⟩ := aSt.get h.2 hi
    exact ⟨a, by simpa using h1, h2⟩
  | [], _ :: _, _, _, h, _ => h.elim
  | _ :: _, [], _, _, h, _ => h.elim
theorem aev.iv {ρ : List Int32} {a : aV} {x : Int32} (h : aev ρ a (.int x)) : aiv ρ a x := by
  rcases h with ⟨y, h1, h2⟩ | ⟨c, h1, -⟩
  · cases h1
    exact h2
  · cases h1
/-- arguments' bounds behind a call -/
def aargs (A : List aV) : aB → List (Nat × Int × Int) → Option aB
  | B, [] => some B
  | B, q :: r => (aref B (A.getD q.1 (1, 0)) q.2.1 q.2.2).bind (fun B' => aargs A B' r)
theorem aargs_ok {ρ : List Int32} {A : List aV} {vs : List Value} (hA : aSt ρ A vs) : ∀ {l : List (Nat × Int × Int)} {B : aB}, aok B ρ → (∀ q ∈ l, ∃ x, vs[q.1]? = some (.int x) ∧ ain q.2 x) → ∃ B', aargs A B l = some B' ∧ aok B' ρ
  | [], B, hB, _ => ⟨B, rfl, hB⟩
  | q :: r, B, hB, h => by
    obtain ⟨x, h1, h2⟩ := h q List.mem_cons_self
    obtain ⟨a, ha, hv⟩ := aSt.get hA h1
    have e : A.getD q.1 (1, 0) = a := by rw [List.getD_eq_getElem?_getD, ha]; rfl
    obtain ⟨B1, e1, hB1⟩ := aref_ok hB hv.iv h2.1 h2.2
    obtain ⟨B2, e2, hB2⟩ := aargs_ok hA (l := r) hB1 (fun q' hq => h q' (List.mem_cons_of_mem _ hq))
    exact ⟨B2, by simp only [aargs, e, e1]; exact e2, hB2⟩
/-- slots' bounds behind a call -/
def aposts : aB → aK → List (Nat × Nat × Int × Int) → Option (aB × aK)
  | B, K, [] => some (B, K)
  | B, K, s :: r => if aEQ ≤ s.2.2.1 then (match kget K (s.2.2.1 - aEQ).toNat s.2.2.2.toNat with
      | some a => (match kget K s.1 s.2.1 with
        | some _ => aposts B K r
        | none => aposts B ((s.1, s.2.1, a) :: K) r)
      | none => aposts B K r) else (match kget K s.1 s.2.1 with
      | some a => (aref B a s.2.2.1 s.2.2.2).bind (fun B' => aposts B' K r)
      | none => aposts (amk B s.2.2 none).2 ((s.1, s.2.1, (amk B s.2.2 none).1) :: K) r)
theorem aposts_ok {bt : aT} {I : gI} : ∀ {l : List (Nat × Nat × Int × Int)} {B : aB} {K : aK} {ρ : List Int32}, aok B ρ → aheap bt K ρ I → (∀ s ∈ l, slotOK I s) → ∃ ρ' q, aposts B K l = some q ∧ aext ρ ρ' ∧ aok q.1 ρ' ∧ aheap bt q.2 ρ' I
  | [], B, K, ρ, hB, hK, _ => ⟨ρ, (B, K), rfl, aext.rf, hB, hK⟩
  | s :: r, B, K, ρ, hB, hK, h => by
    have hs := h s List.mem_cons_self
    have hr : ∀ s' ∈ r, slotOK I s' := fun s' hs' => h s' (List.mem_cons_of_mem _ hs')
    simp only [aposts]
    by_cases e : aEQ ≤ s.2.2.1
    · rw [if_pos e]
      have hq := hs
      unfold slotOK at hq
      rw [if_pos e] at hq
      cases h1 : kget K (s.2.2.1 - aEQ).toNat s.2.2.2.toNat with
      | none => exact aposts_ok (l := r) hB hK hr
      | some a =>
        cases h2 : kget K s.1 s.2.1 with
        | some b => exact aposts_ok (l := r) hB hK hr
        | none =>
          have hK1 : aheap bt ((s.1, s.2.1, a) :: K) ρ I := ⟨fun q hq1 => by
            rcases List.mem_cons.mp hq1 with rfl | hq1
            · show aiv ρ a (I s.1 s.2.1)
              rw [hq]
              exact hK.1 _ (kget_some h1)
            · exact hK.1 q hq1, fun c j hn => hK.2 c j (fun a ha => hn a (List.mem_cons_of_mem _ ha))⟩
          exact aposts_ok (l := r) hB hK1 hr
    rw [if_neg e]
    have hs := slotOK_b (by omega) hs
    cases hk : kget K s.1 s.2.1 with
    | some a =>
      obtain ⟨B1, e1, hB1⟩ := aref_ok hB (hK.1 _ (kget_some hk)) hs.1 hs.2
      obtain ⟨ρ', q, g1, g2, g3, g4⟩ := aposts_ok (l := r) hB1 hK hr
      exact ⟨ρ', q, by simp only [e1]; exact g1, g2, g3, g4⟩
    | none =>
      obtain ⟨ρ1, e1, e2, e3⟩ := amk_ok (b := s.2.2) (ex := none) hB hs.1 hs.2 (fun a b h => by cases h)
      have hK1 : aheap bt ((s.1, s.2.1, (amk B s.2.2 none).1) :: K) ρ1 I := ⟨fun q hq => by
        rcases List.mem_cons.mp hq with rfl | hq
        · exact e3
        · exact (hK.1 q hq).mono e1, fun c j hn => hK.2 c j (fun a ha => hn a (List.mem_cons_of_mem _ ha))⟩
      obtain ⟨ρ', q, g1, g2, g3, g4⟩ := aposts_ok (l := r) e2 hK1 hr
      exact ⟨ρ', q, g1, e1.tr g2, g3, g4⟩
def aret (c : Option (Int × Int)) (B : aB) (S : List aV) : List aV × aB := match c with
  | none => (S, B)
  | some b => ((amk B b none).1 :: S, (amk B b none).2)
/-- one end of a call -/
def acase (md1 : aMd) (A : List aV) (pc : Nat) (L : aL) (S : List aV) (B : aB) (K : aK) (c : aC) : List aS := match aargs A B c.2.1 with
  | none => []
  | some B1 => (match aposts B1 (K.filter (fun k => !(amodr md1 k.1 k.2.1 k.2.1))) c.2.2 with
    | none => []
    | some q => [(pc, L, (aret c.1 q.1 S).1, (aret c.1 q.1 S).2, q.2)])
/-- the summary that fits -/
def amfit (bt : aT) (md : aMd) (h mi : Nat) (A : List aV) (B : aB) (K : aK) (m : aM) : Bool := decide (m.1 = mi) && decide (m.2.1 + 1 ≤ h) && confs B m.2.2.1 A && m.2.2.2.1.all (slotIn bt B K) && amdsub m.2.2.2.2.1 md
def acall (bt : aT) (md : aMd) (sm : List aM) (h mi : Nat) (A : List aV) (pc : Nat) (L : aL) (S : List aV) (B : aB) (K : aK) : Option (List aS) :=
  if K.all (k1 bt B) = true ∧ S.length ≤ 8 then (match sm.find? (amfit bt md h mi A B K) with
    | some m => some (m.2.2.2.2.2.flatMap (acase m.2.2.2.2.1 A pc L S B K))
    | none => none) else none
theorem acase_ok {bt : aT} {md1 : aMd} {A : List aV} {pc : Nat} {L : aL} {S : List aV} {B : aB} {K : aK} {c : aC} {ρ : List Int32} {vs Sc : List Value} {I I' : gI} {r : Option Value} (hB : aok B ρ) (hK : aheap bt K ρ I) (hA : aSt ρ A vs) (hS : aSt ρ S Sc) (hI : aInv bt I') (hf : afr md1 I I') (hc : caseOK c vs r I') :
    ∃ ρ' S' B' K', (pc, L, S', B', K') ∈ acase md1 A pc L S B K c ∧ aext ρ ρ' ∧ aSt ρ' S' (r.toList ++ Sc) ∧ aok B' ρ' ∧ aheap bt K' ρ' I' := by
  obtain ⟨h1, h2, h3⟩ := hc
  obtain ⟨B1, e1, hB1⟩ := aargs_ok hA hB h2
  have hK1 : aheap bt (K.filter (fun k => !(amodr md1 k.1 k.2.1 k.2.1))) ρ I' := ⟨fun k hk => by
    obtain ⟨m1, m2⟩ := List.mem_filter.mp hk
    rw [hf k.1 k.2.1 (by simpa using m2)]
    exact hK.1 k m1, fun c j _ => hI c j⟩
  obtain ⟨ρ1, q, g1, g2, g3, g4⟩ := aposts_ok (l := c.2.2) hB1 hK1 h3
  unfold acase
  rw [e1]
  simp only [g1]
  cases hr : c.1 with
  | none =>
    rw [hr] at h1
    have h1 : r = none := h1
    subst h1
    exact ⟨ρ1, S, q.1, q.2, List.mem_cons_self, g2, hS.mono g2, g3, g4⟩
  | some b =>
    rw [hr] at h1
    obtain ⟨x, rfl, hx⟩ := h1
    obtain ⟨ρ2, w1, w2, w3⟩ := amk_ok (b := b) (ex := none) g3 hx.1 hx.2 (fun a b h => by cases h)
    exact ⟨ρ2, _, _, q.2, List.mem_cons_self, g2.tr w1, ⟨aev.ofInt w3, hS.mono (g2.tr w1)⟩, w2, g4.mono w1⟩
section CL
variable {bt : aT} {md : aMd} {I0 : gI} {M : gM} {Q : Option Value → gH → Prop} {d h : Nat} {ρ0 : List Int32} {mt : List gM} {Ext : gI → Prop} {sm : List aM} {pc n mi : Nat} {L : aL} {S A : List aV} {B : aB} {K : aK} {l : List aS} {mj : gM}
/-- what a call by a summary needs, and where it goes on -/
theorem acall_ok (hsm : ∀ m ∈ sm, MSok bt Ext mt m) (hE : ∀ I', afr md I0 I' → Ext I') (hs : acall bt md sm h mi A (pc + n) L S B K = some l) (hl : ∀ σ ∈ l, aGo bt md I0 M Q (d + h) ρ0 σ) (hmj : mt[mi]? = some mj) {ρ : List Int32} {Lc : gL} {vs Sc : List Value} {I : gI} (hρ : aext ρ0 ρ) (hL : aLc ρ L Lc) (hA : aSt ρ A vs) (hS : aSt ρ S Sc) (hB : aok B ρ) (hK : aheap bt K ρ I) (hF : afr md I0 I) :
    ∃ d' Q1, d + h = d' + 1 ∧ S.length ≤ 8 ∧ gg d' mj 0 (gent mj.2.2.1 vs) [] I Q1 ∧ ∀ (r : Option Value) (h' : gH), Q1 r h' → G (d' + 1) M 0 0 0 0 (pc + n) Lc (r.toList ++ Sc) h'.1 h'.2.1 h'.2.2 Q := by
  unfold acall at hs
  split at hs
  next hh =>
    split at hs
    next m hm =>
      cases hs
      have hfit := List.find?_some hm
      have hmem := List.mem_of_find?_eq_some hm
      simp only [amfit, Bool.and_eq_true, decide_eq_true_eq] at hfit
      obtain ⟨⟨⟨⟨f1, f2⟩, f3⟩, f4⟩, f5⟩ := hfit
      have hinv := kinv_ok hB hK hh.1
      have go := hsm m hmem mj (by rw [f1]; exact hmj) (d + (h - 1 - m.2.1)) vs I (confs_ok hB f3 hA) hinv (hE I hF) (fun s hs => slotIn_ok hB hK (List.all_eq_true.mp f4 s hs))
      refine ⟨d + (h - 1 - m.2.1) + m.2.1, _, by omega, hh.2, go, ?_⟩
      rintro r h' ⟨I', rfl, hI', hf', c, hc, hcase⟩
      obtain ⟨ρ', S', B', K', w1, w2, w3, w4, w5⟩ := acase_ok (pc := pc + n) (L := L) hB hK hA hS hI' hf' hcase
      have e : d + (h - 1 - m.2.1) + m.2.1 + 1 = d + h := by omega
      rw [e]
      exact hl _ (List.mem_flatMap.mpr ⟨c, hc, w1⟩) ρ' Lc _ I' (hρ.tr w2) (hL.mono w2) w3 w4 w5 (hF.tr hf' f5)
    next => cases hs
  next => cases hs
theorem aSt.rev {ρ : List Int32} : ∀ {A : List aV} {V : List Value}, aSt ρ A V → ∀ {A' : List aV} {V' : List Value}, aSt ρ A' V' → aSt ρ (A.reverse ++ A') (V.reverse ++ V')
  | [], [], _, _, _, h' => h'
  | a :: r, v :: s, h, A', V', h' => by
    have := aSt.rev h.2 (A' := a :: A') (V' := v :: V') ⟨h.1, h'⟩
    simpa using this
  | [], _ :: _, h, _, _, _ => h.elim
  | _ :: _, [], h, _, _, _ => h.elim
theorem aSt.take {ρ : List Int32} : ∀ (k : Nat) {S : List aV} {Sc : List Value}, aSt ρ S Sc → aSt ρ (S.take k) (Sc.take k) ∧ aSt ρ (S.drop k) (Sc.drop k)
  | 0, _, _, h => ⟨by simp [aSt], by simpa using h⟩
  | _ + 1, [], [], _ => ⟨trivial, trivial⟩
  | k + 1, _ :: _, _ :: _, h => by
    obtain ⟨h1, h2⟩ := aSt.take k h.2
    exact ⟨⟨h.1, h1⟩, h2⟩
  | _ + 1, [], _ :: _, h => h.elim
  | _ + 1, _ :: _, [], h => h.elim
/-- a call of a static method -/
def s25 (bt : aT) (md : aMd) (sm : List aM) (h pc n mi : Nat) (z : Int) (L : aL) (S : List aV) (B : aB) (K : aK) : Option (List aS) :=
  if (z.toNat : Int) = z ∧ z.toNat ≤ S.length then acall bt md sm h mi (S.take z.toNat).reverse (pc + n) L (S.drop z.toNat) B K else none
theorem s25_ok {ps : List (Int × Nat)} {z : Int} (hmj : mt[mi]? = some mj) (ho : opP mt M pc 25 n mi z ps) (hsm : ∀ m ∈ sm, MSok bt Ext mt m) (hE : ∀ I', afr md I0 I' → Ext I') (hs : s25 bt md sm h pc n mi z L S B K = some l) (hl : ∀ σ ∈ l, aGo bt md I0 M Q (d + h) ρ0 σ) : aGo bt md I0 M Q (d + h) ρ0 (pc, L, S, B, K) := by
  intro ρ Lc Sc I hρ hL hS hB hK hF
  unfold s25 at hs
  split at hs
  next hz =>
    obtain ⟨t1, t2⟩ := aSt.take z.toNat hS
    have t3 : aSt ρ (S.take z.toNat).reverse (Sc.take z.toNat).reverse := by
      have := aSt.rev t1 (A' := []) (V' := []) trivial
      simpa using this
    obtain ⟨d', Q1, e1, e2, e3, e4⟩ := acall_ok hsm hE hs hl hmj hρ hL t3 t2 hB hK hF
    have hlen : Sc.length = S.length := hS.len
    have go := ho d' Lc (Sc.take z.toNat).reverse (Sc.drop z.toNat) I Q Q1 mj hmj (by rw [List.length_reverse, List.length_take]; omega) t3.good t2.good (by rw [t2.len]; exact e2) e3 e4
    rw [List.reverse_reverse, List.take_append_drop] at go
    rw [e1]
    exact go
  next => cases hs
/-- a call of an object's method -/
def s26 (bt : aT) (md : aMd) (sm : List aM) (h pc n : Nat) (z : Int) (ps : List (Int × Nat)) (L : aL) (S : List aV) (B : aB) (K : aK) : Option (List aS) :=
  if (z.toNat : Int) = z ∧ z.toNat ≤ S.length then (match S.drop z.toNat with
    | (1, c) :: S' => (match SH0[c.toNat]? with
      | some (0, ci) => (match ps.find? (fun q => decide (q.1 = (ci : Int))) with
        | some q => acall bt md sm h q.2 ((1, c) :: (S.take z.toNat).reverse) (pc + n) L S' B K
        | none => none)
      | _ => none)
    | _ => none) else none
theorem s26_ok {ps : List (Int × Nat)} {z : Int} (hmt : ∀ q ∈ ps, q.2 < mt.length) (ho : opP mt M pc 26 n mi z ps) (hsm : ∀ m ∈ sm, MSok bt Ext mt m) (hE : ∀ I', afr md I0 I' → Ext I') (hs : s26 bt md sm h pc n z ps L S B K = some l) (hl : ∀ σ ∈ l, aGo bt md I0 M Q (d + h) ρ0 σ) : aGo bt md I0 M Q (d + h) ρ0 (pc, L, S, B, K) := by
  intro ρ Lc Sc I hρ hL hS hB hK hF
  unfold s26 at hs
  split at hs
  next hz =>
    split at hs
    next c S' hdrop =>
      split at hs
      next ci hci =>
        split at hs
        next q hq =>
          obtain ⟨t1, t2⟩ := aSt.take z.toNat hS
          rw [hdrop] at t2
          obtain ⟨v, Sc', hSc', hv, t4⟩ := aSt.cons t2
          obtain ⟨x, rfl, rfl⟩ := hv.cell
          rw [Int.toNat_natCast] at hci
          have t3 : aSt ρ (S.take z.toNat).reverse (Sc.take z.toNat).reverse := by
            have := aSt.rev t1 (A' := []) (V' := []) trivial
            simpa using this
          have hmem := List.mem_of_find?_eq_some hq
          have hq1 : q.1 = (ci : Int) := by simpa using List.find?_some hq
          obtain ⟨mj', hmj⟩ : ∃ mj', mt[q.2]? = some mj' := ⟨_, List.getElem?_eq_getElem (hmt q hmem)⟩
          obtain ⟨d', Q1, e1, e2, e3, e4⟩ := acall_ok (A := (1, (x : Int)) :: (S.take z.toNat).reverse) (vs := .ref x :: (Sc.take z.toNat).reverse) hsm hE hs hl hmj hρ hL ⟨hv, t3⟩ t4 hB hK hF
          have hlen : Sc.length = S.length := hS.len
          have go := ho d' Lc (Sc.take z.toNat).reverse Sc' I Q Q1 x ci q.2 _ hci (by rw [← hq1]; exact hmem) hmj (by rw [List.length_reverse, List.length_take]; omega) t3.good t4.good (by rw [t4.len]; exact e2) e3 e4
          rw [List.reverse_reverse, ← hSc', List.take_append_drop] at go
          rw [e1]
          exact go
        next => cases hs
      next => cases hs
    next => cases hs
  next => cases hs
end CL
