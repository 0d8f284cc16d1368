/-! ===== calls walked in their places ===== -/
/-- a caller that waits: its room, its method, where it goes on, its locals, its stack -/
abbrev aFr : Type := Nat × Nat × Nat × aL × List aV
abbrev cFr : Type := Nat × gM × Nat × gL × List Value
def fQ (Qe : Option Value → gH → Prop) : List cFr → Option Value → gH → Prop
  | [] => Qe
  | q :: r => fun rv hh => ∃ I', hh = (SH0, RF0, I') ∧ gg q.1 q.2.1 q.2.2.1 q.2.2.2.1 (rv.toList ++ q.2.2.2.2) I' (fQ Qe r)
def fRel (mt : List gM) (d : Nat) (ρ : List Int32) : List aFr → List cFr → Prop
  | [], [] => True
  | a :: r, q :: s => (q.1 = d + a.1 ∧ mt[a.2.1]? = some q.2.1 ∧ q.2.2.1 = a.2.2.1 ∧ aLc ρ a.2.2.2.1 q.2.2.2.1 ∧ aSt ρ a.2.2.2.2 q.2.2.2.2) ∧ fRel mt d ρ r s
  | _, _ => False
theorem fRel.mono {mt : List gM} {d : Nat} {ρ ρ' : List Int32} (e : aext ρ ρ') : ∀ {fs : List aFr} {cf : List cFr}, fRel mt d ρ fs cf → fRel mt d ρ' fs cf
  | [], [], _ => trivial
  | _ :: _, _ :: _, h => ⟨⟨h.1.1, h.1.2.1, h.1.2.2.1, h.1.2.2.2.1.mono e, h.1.2.2.2.2.mono e⟩, fRel.mono e h.2⟩
  | [], _ :: _, h => h.elim
  | _ :: _, [], h => h.elim
/-- method, locals, where values are cut, instructions -/
abbrev aPm : Type := List (Nat × Nat × List (Nat × Nat × Nat × List Int) × List (Nat × aO))
def pmOK (mt : List gM) (pm : aPm) : Prop := ∀ e ∈ pm, ∃ M, mt[e.1]? = some M ∧ M.2.2.1 = e.2.1 ∧ oA mt M e.2.2.2
theorem pmOK.nil {mt : List gM} : pmOK mt [] := fun e h => absurd h List.not_mem_nil
theorem pmOK.cons {mt : List gM} {pm : aPm} {k nl : Nat} {sp : List (Nat × Nat × Nat × List Int)} {ops : List (Nat × aO)} {M : gM} (h1 : mt[k]? = some M) (h2 : M.2.2.1 = nl) (h3 : oA mt M ops) (h : pmOK mt pm) : pmOK mt ((k, nl, sp, ops) :: pm) := fun e he => by
  rcases List.mem_cons.mp he with rfl | he
  · exact ⟨M, h1, h2, h3⟩
  · exact h e he
def pfd (pm : aPm) (k : Nat) : Option (Nat × Nat × List (Nat × Nat × Nat × List Int) × List (Nat × aO)) := pm.find? (fun e => decide (e.1 = k))
theorem pfd_ok {mt : List gM} {pm : aPm} {k : Nat} {e : Nat × Nat × List (Nat × Nat × Nat × List Int) × List (Nat × aO)} (hp : pmOK mt pm) (h : pfd pm k = some e) : ∃ M, mt[k]? = some M ∧ M.2.2.1 = e.2.1 ∧ oA mt M e.2.2.2 := by
  have h1 := List.find?_some h
  have h1 : e.1 = k := by simpa using h1
  rw [← h1]
  exact hp e (List.mem_of_find?_eq_some h)
def pent (nl : Nat) (A : List aV) : aL := A.map some ++ List.replicate (nl - A.length) none
theorem pent_ok {ρ : List Int32} {A : List aV} {vs : List Value} {nl : Nat} (hA : aSt ρ A vs) (hn : A.length ≤ nl) : aLc ρ (pent nl A) (gent nl vs) := by
  have hlen : vs.length = A.length := hA.len
  have hgL : gent nl vs = vs.map some ++ List.replicate (nl - vs.length) none := by
    unfold gent
    rw [aSG.gn hA.good, List.length_map]
  rw [hgL]
  unfold pent
  refine ⟨fun i w hw => ?_, by simp [hlen], fun i a hi => ?_⟩
  · by_cases hi : i < vs.length
    · rw [List.getElem?_append_left (by simpa using hi), List.getElem?_map, Option.map_eq_some_iff] at hw
      obtain ⟨v, hv, e⟩ := hw
      cases e
      exact hA.good _ (List.mem_of_getElem? hv)
    · rw [List.getElem?_append_right (by simpa using hi), List.getElem?_replicate] at hw
      split at hw <;> simp at hw
  · by_cases hl : i < vs.length
    · rw [List.getElem?_append_left (by simpa [← hlen] using hl), List.getElem?_map, Option.map_eq_some_iff] at hi
      obtain ⟨a', ha', e⟩ := hi
      cases e
      obtain ⟨v, hv, hav⟩ := aSt.getA hA ha'
      exact ⟨v, by rw [List.getElem?_append_left (by simpa using hl), List.getElem?_map, hv]; rfl, hav⟩
    · rw [List.getElem?_append_right (by simpa [← hlen] using hl), List.getElem?_replicate] at hi
      split at hi <;> simp at hi
/-- pairs of slots -/
abbrev aE4 : Type := List (Nat × Nat × Nat × Nat)
def rlB (l : aE4) (I : gI) : Prop := ∀ e ∈ l, I e.1 e.2.1 = I e.2.2.1 e.2.2.2
def pxt (cmp : Bool) (eqs : aE4) (cns : List (Nat × Nat × Int)) (B : aB) (K : aK) (v w : aV) : Bool := (!cmp || decide (anm B v = anm B w)) && eqs.all (fun e => (match kget K e.1 e.2.1, kget K e.2.2.1 e.2.2.2 with
  | some a, some b => decide (anm B a = anm B b)
  | _, _ => false)) && cns.all (fun e => (match kget K e.1 e.2.1 with
  | some a => decide (anm B a = (2, e.2.2))
  | none => false))
/-- the end behind both calls: E says what holds of both answers and the heap -/
def pQ2 (bt : aT) (md : aMd) (I0 : gI) (E : Int32 → Int32 → gI → Prop) (x : Int32) : Option Value → gH → Prop := fun r hh => ∃ y I', r = some (.int y) ∧ hh = (SH0, RF0, I') ∧ aInv bt I' ∧ afr md I0 I' ∧ E x y I'
abbrev aXc : Type := aB → aK → aF → aV → aV → Bool
/-- a check at the end, and what it gives -/
def xcOK (bt : aT) (am : List aV) (vs : List Value) (xc : aXc) (E : Int32 → Int32 → gI → Prop) : Prop := ∀ (B : aB) (K : aK) (F : aF) (v w : aV) (ρ : List Int32) (I : gI) (x y : Int32), xc B K F v w = true → aok B ρ → aheap bt K ρ I → fok F ρ → aSt ρ am vs → aiv ρ v y → aiv ρ w x → E x y I
/-- the end behind the first: the second goes through -/
def pQ1 (M2 : gM) (D2 : Nat) (c2 : Nat) (vs : List Value) (Q2 : Int32 → Option Value → gH → Prop) : Option Value → gH → Prop := fun r hh => ∃ x I', r = some (.int x) ∧ hh = (SH0, RF0, I') ∧ gg D2 M2 0 (gent M2.2.2.1 (.ref c2 :: vs)) [] I' (Q2 x)
def pEx (cmp : Bool) (eqs : aE4) (cns : List (Nat × Nat × Int)) : Int32 → Int32 → gI → Prop := fun x y I => (cmp = true → y = x) ∧ rlB eqs I ∧ ∀ e ∈ cns, (I e.1 e.2.1).toInt = e.2.2
theorem pxt_ok {bt : aT} {cmp : Bool} {eqs : aE4} {cns : List (Nat × Nat × Int)} {am : List aV} {vs : List Value} : xcOK bt am vs (fun B K _ v w => pxt cmp eqs cns B K v w) (pEx cmp eqs cns) := by
  intro B K F v w ρ I x y h hB hK _ _ hv hw
  simp only [pxt, Bool.and_eq_true] at h
  obtain ⟨⟨h2, h3⟩, h5⟩ := h
  refine ⟨fun hc => ?_, fun e he => ?_, fun e he => ?_⟩
  · rw [hc] at h2
    have h2 : anm B v = anm B w := by simpa using h2
    have g1 := anm_ok hB hv
    rw [h2] at g1
    exact g1.fn (anm_ok hB hw)
  · have h4 := List.all_eq_true.mp h3 e he
    split at h4
    next a b ha hb =>
      have h4 : anm B a = anm B b := by simpa using h4
      have g1 := anm_ok hB (hK.1 _ (kget_some ha))
      rw [h4] at g1
      exact g1.fn (anm_ok hB (hK.1 _ (kget_some hb)))
    next => cases h4
  · have h4 := List.all_eq_true.mp h5 e he
    split at h4
    next a ha =>
      have h4 : anm B a = (2, e.2.2) := by simpa using h4
      have g1 := anm_ok hB (hK.1 _ (kget_some ha))
      rw [h4] at g1
      rcases g1 with ⟨g1, -⟩ | ⟨-, g1⟩
      · cases g1
      · exact g1
    next => cases h4
/-- slots that hold an argument -/
def pag (am : List aV) (ags : List (Nat × Nat × Nat)) (B : aB) (K : aK) : Bool := ags.all (fun e => (match kget K e.1 e.2.1, am[e.2.2]? with
  | some a, some b => decide (b.1 ≠ 1) && decide (anm B a = anm B b)
  | _, _ => false))
theorem pag_ok {bt : aT} {am : List aV} {vs : List Value} {ags : List (Nat × Nat × Nat)} {B : aB} {K : aK} {ρ : List Int32} {I : gI} (h : pag am ags B K = true) (hB : aok B ρ) (hK : aheap bt K ρ I) (hA : aSt ρ am vs) : ∀ e ∈ ags, vs[e.2.2]? = some (.int (I e.1 e.2.1)) := fun e he => by
  have h1 := List.all_eq_true.mp h e he
  split at h1
  next a b ha hb =>
    simp only [Bool.and_eq_true, decide_eq_true_eq] at h1
    obtain ⟨v, hv, hbv⟩ := aSt.getA hA hb
    obtain ⟨x, rfl, hx⟩ := hbv.int h1.1
    have g1 := anm_ok hB (hK.1 _ (kget_some ha))
    rw [h1.2] at g1
    rw [hv, g1.fn (anm_ok hB hx)]
  next => cases h1
/-- the answer, and slots that hold arguments -/
def pEa (z : Int) (ags : List (Nat × Nat × Nat)) : List Value → Int32 → Int32 → gI → Prop := fun vs _ y I => y.toInt = z ∧ ∀ e ∈ ags, vs[e.2.2]? = some (.int (I e.1 e.2.1))
theorem pxa_ok {bt : aT} {am : List aV} {z : Int} {ags : List (Nat × Nat × Nat)} (vs : List Value) : xcOK bt am vs (fun B K _ v _ => decide (anm B v = (2, z)) && pag am ags B K) (pEa z ags vs) := by
  intro B K F v w ρ I x y h hB hK _ hA hv _
  simp only [Bool.and_eq_true, decide_eq_true_eq] at h
  refine ⟨?_, pag_ok h.2 hB hK hA⟩
  have g1 := anm_ok hB hv
  rw [h.1] at g1
  rcases g1 with ⟨g1, -⟩ | ⟨-, g1⟩
  · cases g1
  · exact g1
section PX
variable (bt : aT) (md : aMd) (nm : Nat) (sm : List aM) (pm : aPm) (am : List aV) (mi2 h2 nl2 : Nat) (c2 : Nat) (xc : aXc)
/-- a return -/
def pret (go : Option aV → List aFr → Nat → Nat → aP → Bool) (ph : Option aV) (fs : List aFr) (B : aB) (K : aK) (F : aF) (r : Option aV) : Bool := match fs with
  | fr :: fs' => go ph fs' fr.1 fr.2.1 ((fr.2.2.1, fr.2.2.2.1, r.toList ++ fr.2.2.2.2, B, K), F)
  | [] => (match r, ph with
    | some v, none => decide (v.1 ≠ 1) && decide (am.length + 1 ≤ nl2) && go (some v) [] h2 mi2 ((0, pent nl2 ((1, (c2 : Int)) :: am), [], B, K), F)
    | some v, some w => decide (v.1 ≠ 1) && K.all (k1 bt B) && xc B K F v w
    | none, _ => false)
/-- a call: in its place, or by a summary -/
def pinl (go : Option aV → List aFr → Nat → Nat → aP → Bool) (ph : Option aV) (fs : List aFr) (h mi : Nat) (k : Nat) (A : List aV) (pc : Nat) (L : aL) (S : List aV) (B : aB) (K : aK) (F : aF) (sd : Option (List aS)) : Bool := match pfd pm k with
  | some e => decide (A.length ≤ e.2.1) && decide (1 ≤ h) && decide (S.length ≤ 8) && go ph ((h, mi, pc, L, S) :: fs) (h - 1) k ((0, pent e.2.1 A, [], B, K), F)
  | none => (match sd with
    | some l => l.all (fun σ => go ph fs h mi (σ, F))
    | none => false)
def pall (go : aP → Bool) (o : Option (List aP)) : Bool := match o with
  | some l => l.all go
  | none => false
def pst (go : Option aV → List aFr → Nat → Nat → aP → Bool) (ph : Option aV) (fs : List aFr) (h mi : Nat) (o : aO) (pc : Nat) (L : aL) (S : List aV) (B : aB) (K : aK) (F : aF) : Bool := match o with
  | (21, _, _, _, _) => (match S with
    | [v] => decide (v.1 ≠ 1) && pret bt am mi2 h2 nl2 c2 xc go ph fs B K F (some v)
    | _ => false)
  | (22, _, _, _, _) => (match S with
    | [v] => bIn B v (0, 1) && pret bt am mi2 h2 nl2 c2 xc go ph fs B K F (some v)
    | _ => false)
  | (23, _, _, _, _) => (match S with
    | [] => pret bt am mi2 h2 nl2 c2 xc go ph fs B K F none
    | _ => false)
  | (25, n, a, z, _) => decide (a < nm) && decide ((z.toNat : Int) = z) && decide (z.toNat ≤ S.length) && pinl pm go ph fs h mi a (S.take z.toNat).reverse (pc + n) L (S.drop z.toNat) B K F (s25 bt md sm h pc n a z L S B K)
  | (26, n, _, z, ps) => ps.all (fun q => decide (q.2 < nm)) && decide ((z.toNat : Int) = z) && decide (z.toNat ≤ S.length) && (match S.drop z.toNat with
    | (1, c) :: S' => (match SH0[c.toNat]? with
      | some (0, ci) => (match ps.find? (fun q => decide (q.1 = (ci : Int))) with
        | some q => pinl pm go ph fs h mi q.2 ((1, c) :: (S.take z.toNat).reverse) (pc + n) L S' B K F (s26 bt md sm h pc n z ps L S B K)
        | none => false)
      | _ => false)
    | _ => false)
  | (4, n, a, _, _) => pall (go ph fs h mi) (p4 pc n a L S B K F)
  | (5, n, a, _, _) => pall (go ph fs h mi) (p5 pc n a L S B K F)
  | (10, n, a, z, _) => pall (go ph fs h mi) (p10 10 pc n a z L S B K F)
  | (11, n, a, z, _) => pall (go ph fs h mi) (p10 11 pc n a z L S B K F)
  | (27, n, a, _, _) => pall (go ph fs h mi) (p27 h pc n a L S B K F)
  | (29, n, _, _, _) => pall (go ph fs h mi) (p29 bt md h pc n L S B K F)
  | (30, n, a, _, ps) => pall (go ph fs h mi) (p30 pc n a ps L S B K F)
  | o => (match ast1 bt md h o pc L S B K with
    | some l => l.all (fun σ => go ph fs h mi (σ, F))
    | none => false)
def pex : Nat → Option aV → List aFr → Nat → Nat → aP → Bool
  | 0, _, _, _, _, _ => false
  | f + 1, ph, fs, h, mi, q => (match pfd pm mi with
    | some e => (match aspt e.2.2.1 q.1.1 q.1.2.1 q.1.2.2.1 q.1.2.2.2.1 q.1.2.2.2.2 with
      | some l => l.all (fun σ => pex f ph fs h mi (σ, q.2))
      | none => (match oget e.2.2.2 q.1.1 with
        | some o => pst bt md nm sm pm am mi2 h2 nl2 c2 xc (pex f) ph fs h mi o q.1.1 q.1.2.1 q.1.2.2.1 q.1.2.2.2.1 q.1.2.2.2.2 q.2
        | none => false))
    | none => false)
end PX
section PS
variable {bt : aT} {md : aMd} {I0 : gI} {mt : List gM} {Ext : gI → Prop} {nm d : Nat} {sm : List aM} {pm : aPm} {am : List aV} {mi2 h2 nl2 : Nat} {c2 : Nat} {xc : aXc} {E : Int32 → Int32 → gI → Prop} {vs : List Value} {M2 : gM}
def eRel (Q1 : Option Value → gH → Prop) (Q2 : Int32 → Option Value → gH → Prop) (ρ : List Int32) (ph : Option aV) (Qe : Option Value → gH → Prop) : Prop := match ph with
  | none => Qe = Q1
  | some a => ∃ x, aiv ρ a x ∧ Qe = Q2 x
theorem eRel.mono {Q1 : Option Value → gH → Prop} {Q2 : Int32 → Option Value → gH → Prop} {ρ ρ' : List Int32} {ph : Option aV} {Qe : Option Value → gH → Prop} (e : aext ρ ρ') (h : eRel Q1 Q2 ρ ph Qe) : eRel Q1 Q2 ρ' ph Qe := by
  unfold eRel at *
  split at h
  · exact h
  · obtain ⟨x, h1, h2⟩ := h
    exact ⟨x, h1.mono e, h2⟩
def pG (bt : aT) (md : aMd) (I0 : gI) (mt : List gM) (d : Nat) (am : List aV) (vs : List Value) (Q1 : Option Value → gH → Prop) (Q2 : Int32 → Option Value → gH → Prop) (ph : Option aV) (fs : List aFr) (h mi : Nat) (q : aP) : Prop :=
  ∀ (ρ : List Int32) (M : gM) (Lc : gL) (Sc : List Value) (I : gI) (cfs : List cFr) (Qe : Option Value → gH → Prop), mt[mi]? = some M → fRel mt d ρ fs cfs → eRel Q1 Q2 ρ ph Qe → aSt ρ am vs → aLc ρ q.1.2.1 Lc → aSt ρ q.1.2.2.1 Sc → aok q.1.2.2.2.1 ρ → aheap bt q.1.2.2.2.2 ρ I → fok q.2 ρ → afr md I0 I → gg (d + h) M q.1.1 Lc Sc I (fQ Qe cfs)
theorem pret_ok {Q2 : Int32 → Option Value → gH → Prop} (hQ2 : Q2 = pQ2 bt md I0 E) (hxc : xcOK bt am vs xc E) (hM2 : mt[mi2]? = some M2) (hn2 : M2.2.2.1 = nl2) {go : Option aV → List aFr → Nat → Nat → aP → Bool} (hgo : ∀ ph fs h mi q, go ph fs h mi q = true → pG bt md I0 mt d am vs (pQ1 M2 (d + h2) c2 vs Q2) Q2 ph fs h mi q)
    {ph : Option aV} {fs : List aFr} {B : aB} {K : aK} {F : aF} {r : Option aV} {rv : Option Value} {ρ : List Int32} {I : gI} {cfs : List cFr} {Qe : Option Value → gH → Prop} (h : pret bt am mi2 h2 nl2 c2 xc go ph fs B K F r = true) (hR : fRel mt d ρ fs cfs) (hE : eRel (pQ1 M2 (d + h2) c2 vs Q2) Q2 ρ ph Qe) (hA : aSt ρ am vs) (hr : aRv ρ r rv) (hB : aok B ρ) (hK : aheap bt K ρ I) (hf : fok F ρ) (hF : afr md I0 I) : fQ Qe cfs rv (SH0, RF0, I) := by
  unfold pret at h
  match fs, cfs, hR with
  | fr :: fs', q :: cfs', hR =>
    obtain ⟨⟨e1, e2, e3, e4, e5⟩, hR'⟩ := hR
    refine ⟨I, rfl, ?_⟩
    have hS : aSt ρ (r.toList ++ fr.2.2.2.2) (rv.toList ++ q.2.2.2.2) := by
      match r, rv, hr with
      | none, none, _ => exact e5
      | some a, some v, hr => exact ⟨hr, e5⟩
    rw [e1, e3]
    exact hgo _ _ _ _ _ h ρ q.2.1 q.2.2.2.1 _ I cfs' Qe e2 hR' hE hA e4 hS hB hK hf hF
  | [], [], _ =>
    show Qe rv (SH0, RF0, I)
    match r, ph, rv, hr, h, hE with
    | some v, none, some w, hr, h, hE =>
      simp only [Bool.and_eq_true, decide_eq_true_eq] at h
      obtain ⟨⟨h1, h3⟩, h4⟩ := h
      obtain ⟨x, rfl, hx⟩ := aev.int hr h1
      have hE : Qe = pQ1 M2 (d + h2) c2 vs Q2 := hE
      rw [hE]
      refine ⟨x, I, rfl, rfl, ?_⟩
      have hA2 : aSt ρ ((1, (c2 : Int)) :: am) (.ref c2 :: vs) := ⟨Or.inr ⟨c2, rfl, rfl⟩, hA⟩
      have hL := pent_ok (nl := nl2) hA2 (by simpa using h3)
      rw [hn2]
      exact hgo _ _ _ _ _ h4 ρ M2 _ [] I [] (Q2 x) hM2 trivial ⟨x, hx, rfl⟩ hA hL trivial hB hK hf hF
    | some v, some w, some u, hr, h, hE =>
      simp only [Bool.and_eq_true, decide_eq_true_eq] at h
      obtain ⟨y, rfl, hy⟩ := aev.int hr h.1.1
      obtain ⟨x, hx, rfl⟩ := hE
      rw [hQ2]
      exact ⟨y, I, rfl, rfl, kinv_ok hB hK h.1.2, hF, hxc B K F v w ρ I x y h.2 hB hK hf hA hy hx⟩
theorem pinl_ok {M : gM} {ρ : List Int32} {Q1 : Option Value → gH → Prop} {Q2 : Int32 → Option Value → gH → Prop} (hpm : pmOK mt pm) {go : Option aV → List aFr → Nat → Nat → aP → Bool} (hgo : ∀ ph fs h mi q, go ph fs h mi q = true → pG bt md I0 mt d am vs Q1 Q2 ph fs h mi q)
    {ph : Option aV} {fs : List aFr} {h mi k pc : Nat} {A : List aV} {L : aL} {S : List aV} {B : aB} {K : aK} {F : aF} {sd : Option (List aS)} {Lc : gL} {wv Sc : List Value} {I : gI} {cfs : List cFr} {Qe Q : Option Value → gH → Prop} {P : Prop} (hs : pinl pm go ph fs h mi k A pc L S B K F sd = true)
    (hM : mt[mi]? = some M) (hR : fRel mt d ρ fs cfs) (hE : eRel Q1 Q2 ρ ph Qe) (hA : aSt ρ am vs) (hL : aLc ρ L Lc) (hAv : aSt ρ A wv) (hS : aSt ρ S Sc) (hB : aok B ρ) (hK : aheap bt K ρ I) (hf : fok F ρ) (hF : afr md I0 I) (hQ : Q = fQ Qe cfs)
    (h1 : ∀ (d' : Nat) (mj : gM) (Q1' : Option Value → gH → Prop), d + h = d' + 1 → mt[k]? = some mj → S.length ≤ 8 → gg d' mj 0 (gent mj.2.2.1 wv) [] I Q1' → (∀ (r : Option Value) (h' : gH), Q1' r h' → G (d' + 1) M 0 0 0 0 pc Lc (r.toList ++ Sc) h'.1 h'.2.1 h'.2.2 Q) → P) (h2 : ∀ l, sd = some l → (∀ σ ∈ l, aGo bt md I0 M Q (d + h) ρ σ) → P) : P := by
  subst hQ
  unfold pinl at hs
  split at hs
  next e he =>
    simp only [Bool.and_eq_true, decide_eq_true_eq] at hs
    obtain ⟨⟨⟨g1, g2⟩, g3⟩, g4⟩ := hs
    obtain ⟨mj, m1, m2, m3⟩ := pfd_ok hpm he
    have hL2 := pent_ok (nl := e.2.1) hAv g1
    have go1 := hgo _ _ _ _ _ g4 ρ mj _ [] I ((d + h, M, pc, Lc, Sc) :: cfs) Qe m1 ⟨⟨rfl, hM, rfl, hL, hS⟩, hR⟩ hE hA hL2 trivial hB hK hf hF
    refine h1 (d + (h - 1)) mj _ (by omega) m1 g3 (by rw [m2]; exact go1) ?_
    rintro r h' ⟨I', rfl, g⟩
    rw [show d + (h - 1) + 1 = d + h by omega]
    exact g
  next =>
    match sd, hs, h2 with
    | some l, hs, h2 =>
      refine h2 l rfl (fun σ hσ ρ' Lc' Sc' I' e1 g1 g2 g3 g4 g5 => ?_)
      exact hgo _ _ _ _ _ (List.all_eq_true.mp hs σ hσ) ρ' M Lc' Sc' I' cfs Qe hM (hR.mono e1) (hE.mono e1) (hA.mono e1) g1 g2 g3 g4 (hf.mono e1) g5
    | none, hs, _ => cases hs
theorem pex_ok {Q2 : Int32 → Option Value → gH → Prop} (hQ2 : Q2 = pQ2 bt md I0 E) (hxc : xcOK bt am vs xc E) (hM2 : mt[mi2]? = some M2) (hn2 : M2.2.2.1 = nl2) (hpm : pmOK mt pm) (hnm : nm = mt.length) (hsm : ∀ m ∈ sm, MSok bt Ext mt m) (hX : ∀ I', afr md I0 I' → Ext I') :
    ∀ f ph fs h mi q, pex bt md nm sm pm am mi2 h2 nl2 c2 xc f ph fs h mi q = true → pG bt md I0 mt d am vs (pQ1 M2 (d + h2) c2 vs Q2) Q2 ph fs h mi q
  | 0, _, _, _, _, _, he => by cases he
  | f + 1, ph, fs, h, mi, ((pc, L, S, B, K), F), he => by
    have ih := pex_ok hQ2 hxc hM2 hn2 hpm hnm hsm hX f
    intro ρ M Lc Sc I cfs Qe hM hR hE hA hL hS hB hK hf hF
    have hL : aLc ρ L Lc := hL
    have hS : aSt ρ S Sc := hS
    have hB : aok B ρ := hB
    have hK : aheap bt K ρ I := hK
    have hf : fok F ρ := hf
    show gg (d + h) M pc Lc Sc I (fQ Qe cfs)
    have pop : ∀ {q : aP}, pex bt md nm sm pm am mi2 h2 nl2 c2 xc f ph fs h mi q = true → aGoF bt md I0 M (fQ Qe cfs) (d + h) ρ q := fun {q} hq ρ' Lc' Sc' I' e1 g1 g2 g3 g4 g5 g6 => ih _ _ _ _ _ hq ρ' M Lc' Sc' I' cfs Qe hM (hR.mono e1) (hE.mono e1) (hA.mono e1) g1 g2 g3 g4 g5 g6
    have fin : ∀ {q : aP}, q = ((pc, L, S, B, K), F) → aGoF bt md I0 M (fQ Qe cfs) (d + h) ρ q → gg (d + h) M pc Lc Sc I (fQ Qe cfs) := fun {q} e g => by
      subst e
      exact g ρ Lc Sc I aext.rf hL hS hB hK hf hF
    unfold pex at he
    dsimp only at he
    split at he
    next e hpe =>
      obtain ⟨M', m1, m2, m3⟩ := pfd_ok hpm hpe
      rw [hM] at m1
      cases m1
      split at he
      next l hl =>
        exact fin rfl (p_of (fun ρ' g => aspt_ok hl g) (fun σ hσ => pop (List.all_eq_true.mp he σ hσ)))
      next =>
        split at he
        next o ho =>
          have hop := oget_ok m3 ho
          have all : ∀ {o : Option (List aP)}, pall (pex bt md nm sm pm am mi2 h2 nl2 c2 xc f ph fs h mi) o = true → ∃ l, o = some l ∧ ∀ q ∈ l, aGoF bt md I0 M (fQ Qe cfs) (d + h) ρ q := fun {o} g => by
            unfold pall at g
            split at g
            next l => exact ⟨l, rfl, fun q hq => pop (List.all_eq_true.mp g q hq)⟩
            next => cases g
          unfold pst at he
          split at he
          · split at he
            next v =>
              simp only [Bool.and_eq_true, decide_eq_true_eq] at he
              obtain ⟨w, Sc1, rfl, h1, h2⟩ := aSt.cons hS
              obtain ⟨x, rfl, hx⟩ := h1.int he.1
              match Sc1, h2 with
              | [], _ => exact hop (d + h) Lc I _ x (pret_ok hQ2 hxc hM2 hn2 ih he.2 hR hE hA (rv := some (.int x)) (aev.ofInt hx) hB hK hf hF)
            next => cases he
          · split at he
            next v =>
              simp only [Bool.and_eq_true] at he
              obtain ⟨w, Sc1, rfl, h1, h2⟩ := aSt.cons hS
              obtain ⟨x, rfl, hx⟩ := bIn_ok hB he.1 h1
              match Sc1, h2 with
              | [], _ => exact hop (d + h) Lc I _ x (a_01 hx.1 hx.2) (pret_ok hQ2 hxc hM2 hn2 ih he.2 hR hE hA (rv := some (.int x)) h1 hB hK hf hF)
            next => cases he
          · split at he
            next =>
              match Sc, hS with
              | [], _ => exact hop (d + h) Lc I _ (pret_ok hQ2 hxc hM2 hn2 ih he hR hE hA (rv := none) trivial hB hK hf hF)
            next => cases he
          · simp only [Bool.and_eq_true, decide_eq_true_eq] at he
            obtain ⟨⟨⟨h0, hz⟩, hz2⟩, he⟩ := he
            rename_i n a z ps
            obtain ⟨t1, t2⟩ := aSt.take z.toNat hS
            have t3 : aSt ρ (S.take z.toNat).reverse (Sc.take z.toNat).reverse := by
              have := aSt.rev t1 (A' := []) (V' := []) trivial
              simpa using this
            have hlen : Sc.length = S.length := hS.len
            refine pinl_ok hpm ih he hM hR hE hA hL t3 t2 hB hK hf hF rfl (fun d' mj Q1' e1 hmj hS8 g1 g2 => ?_) (fun l hl g => ?_)
            · have go := hop d' Lc (Sc.take z.toNat).reverse (Sc.drop z.toNat) I _ Q1' mj hmj (by rw [List.length_reverse, List.length_take]; show ((min z.toNat Sc.length : Nat) : Int) = z; omega) t3.good t2.good (by rw [t2.len]; exact hS8) g1 g2
              rw [List.reverse_reverse, List.take_append_drop] at go
              rw [e1]
              exact go
            · exact s25_ok (List.getElem?_eq_getElem (by rw [← hnm]; exact h0)) hop hsm hX hl g ρ Lc Sc I aext.rf hL hS hB hK hF
          · simp only [Bool.and_eq_true, decide_eq_true_eq] at he
            obtain ⟨⟨⟨h0, hz⟩, hz2⟩, he⟩ := he
            rename_i n a z ps
            split at he
            next c S' hdrop =>
              split at he
              next ci hci =>
                split at he
                next q hq =>
                  obtain ⟨t1, t2⟩ := aSt.take z.toNat hS
                  rw [hdrop] at t2
                  obtain ⟨v, Sc', hSc', hv, t4⟩ := aSt.cons t2
                  obtain ⟨x, rfl, rfl⟩ := hv.cell
                  rw [Int.toNat_natCast] at hci
                  have t3 : aSt ρ (S.take z.toNat).reverse (Sc.take z.toNat).reverse := by
                    have := aSt.rev t1 (A' := []) (V' := []) trivial
                    simpa using this
                  have hmem := List.mem_of_find?_eq_some hq
                  have hq1 : q.1 = (ci : Int) := by simpa using List.find?_some hq
                  have hlen : Sc.length = S.length := hS.len
                  have hAv : aSt ρ ((1, (x : Int)) :: (S.take z.toNat).reverse) (.ref x :: (Sc.take z.toNat).reverse) := ⟨hv, t3⟩
                  refine pinl_ok hpm ih he hM hR hE hA hL hAv t4 hB hK hf hF rfl (fun d' mj Q1' e1 hmj hS8 g1 g2 => ?_) (fun l hl g => ?_)
                  · have go := hop d' Lc (Sc.take z.toNat).reverse Sc' I _ Q1' x ci q.2 mj hci (by rw [← hq1]; exact hmem) hmj (by rw [List.length_reverse, List.length_take]; show ((min z.toNat Sc.length : Nat) : Int) = z; omega) t3.good t4.good (by rw [t4.len]; exact hS8) g1 g2
                    rw [List.reverse_reverse, ← hSc', List.take_append_drop] at go
                    rw [e1]
                    exact go
                  · exact s26_ok (fun q' hq' => by rw [← hnm]; simpa using List.all_eq_true.mp h0 q' hq') hop hsm hX hl g ρ Lc Sc I aext.rf hL hS hB hK hF
                next => cases he
              next => cases he
            next => cases he
          · obtain ⟨l, hl, g⟩ := all he
            exact fin rfl (p4_ok hop hl g)
          · obtain ⟨l, hl, g⟩ := all he
            exact fin rfl (p5_ok hop hl g)
          · obtain ⟨l, hl, g⟩ := all he
            exact fin rfl (p10_ok hop hl g)
          · obtain ⟨l, hl, g⟩ := all he
            exact fin rfl (p10_ok hop hl g)
          · obtain ⟨l, hl, g⟩ := all he
            exact fin rfl (p27_ok hop hl g)
          · obtain ⟨l, hl, g⟩ := all he
            exact fin rfl (p29_ok hop hl g)
          · obtain ⟨l, hl, g⟩ := all he
            exact fin rfl (p30_ok hop hl g)
          · split at he
            next l hl => exact fin rfl (p_of (fun ρ' g => ast1_ok hop hl g) (fun σ hσ => pop (List.all_eq_true.mp he σ hσ)))
            next => cases he
        next => cases he
    next => cases he
end PS
/-- the check of both calls, and what it gives -/
def pchk (bt : aT) (md : aMd) (nm : Nat) (sm : List aM) (pm : aPm) (ph : Option aV) (mi1 h1 nl1 c1 mi2 h2 nl2 c2 : Nat) (xc : aXc) (fuel : Nat) (args : List (Nat × Int × Int)) (pre : List (Nat × Nat × Int × Int)) : Bool := match aposts (aentA args []).2 [] pre with
  | some q => decide ((aentA args []).1.length + 1 ≤ nl1) && pex bt md nm sm pm (aentA args []).1 mi2 h2 nl2 c2 xc fuel ph [] h1 mi1 ((0, pent nl1 ((1, (c1 : Int)) :: (aentA args []).1), [], q.1, q.2), [])
  | none => false
theorem pchk_ok {bt : aT} {md : aMd} {mt : List gM} {Ext : gI → Prop} {nm : Nat} {sm : List aM} {pm : aPm} {ph : Option aV} {mi1 h1 nl1 c1 mi2 h2 nl2 c2 : Nat} {xc : aXc} {E : List Value → Int32 → Int32 → gI → Prop} {fuel : Nat} {args : List (Nat × Int × Int)} {pre : List (Nat × Nat × Int × Int)} {M1 M2 : gM} (h : pchk bt md nm sm pm ph mi1 h1 nl1 c1 mi2 h2 nl2 c2 xc fuel args pre = true)
    (hM1 : mt[mi1]? = some M1) (hn1 : M1.2.2.1 = nl1) (hM2 : mt[mi2]? = some M2) (hn2 : M2.2.2.1 = nl2) (hpm : pmOK mt pm) (hnm : nm = mt.length) (hsm : ∀ m ∈ sm, MSok bt Ext mt m) (hX : ∀ I I', Ext I → afr md I I' → Ext I') (hxc : ∀ vs, xcOK bt (aentA args []).1 vs xc (E vs)) (d : Nat) (vs : List Value) (I : gI) (ha : argsOK args vs) (hi : aInv bt I) (hE : Ext I) (hp : ∀ s ∈ pre, slotOK I s) :
    ∀ Qe, eRel (pQ1 M2 (d + h2) c2 vs (pQ2 bt md I (E vs))) (pQ2 bt md I (E vs)) [] ph Qe → gg (d + h1) M1 0 (gent M1.2.2.1 (.ref c1 :: vs)) [] I Qe := by
  intro Qe hQe
  unfold pchk at h
  split at h
  next q hq =>
    simp only [Bool.and_eq_true, decide_eq_true_eq] at h
    obtain ⟨ρ1, e1, e2, e3⟩ := aentA_ok (B := []) (ρ := []) ha ⟨rfl, fun i e x hi => by simp at hi⟩
    obtain ⟨ρ2, q', f1, f2, f3, f4⟩ := aposts_ok (l := pre) e2 (aheap.nil (bt := bt) hi) hp
    rw [hq] at f1
    cases f1
    have hA2 := aSt.mono f2 e3
    have hA3 : aSt ρ2 ((1, (c1 : Int)) :: (aentA args []).1) (.ref c1 :: vs) := ⟨Or.inr ⟨c1, rfl, rfl⟩, hA2⟩
    have hL := pent_ok (nl := nl1) hA3 (by simpa using h.1)
    have go := pex_ok (d := d) (I0 := I) (vs := vs) rfl (hxc vs) hM2 hn2 hpm hnm hsm (fun I' hI' => hX I I' hE hI') fuel ph [] h1 mi1 _ h.2 ρ2 M1 _ [] I [] Qe hM1 trivial (hQe.mono (fun i x hx => by simp at hx)) hA2 hL trivial f3 f4 (fun f hf => absurd hf List.not_mem_nil) afr.rf
    rw [hn1]
    exact go
  next => cases h
