set_option maxRecDepth 16384 in
/-! ===== the methods that write what class and reference hold alike, and those that are compared ===== -/
def prE (cmp : Bool) (x : Int32) : Option Value → gH → Prop := pbM (fun y J => (cmp = true → y = x) ∧ aInv bT J ∧ WF J)
set_option maxRecDepth 16384 in
/-- both calls, one behind the other -/
def prOK (M1 M2 : gM) (n : Nat) (cmp : Bool) : Prop := ∀ (d : Nat) (xs : List Int32) (I : gI), xs.length = n → aInv bT I → WF I → gg (d + 40) M1 0 (gent M1.2.2.1 (.ref 0 :: xs.map Value.int)) [] I (pbM (fun x J => gg (d + 40) M2 0 (gent M2.2.2.1 (.ref 67 :: xs.map Value.int)) [] J (prE cmp x)))
set_option maxRecDepth 16384 in
def nr (md : aMd) : Bool := md.all (fun r => (decide (r.1 ≠ 68) && decide (r.1 ≠ 69)) || (decide (r.2.2 < 89) && (decide (r.2.2 < 5) || decide (5 < r.2.1))))
set_option maxRecDepth 16384 in
theorem nr_ok {md : aMd} {c j : Nat} (h : nr md = true) (hc : c = 68 ∨ c = 69) (hj : j = 5 ∨ (89 ≤ j ∧ j ≤ 312)) : amodr md c j j = false := by
  cases hm : amodr md c j j with
  | false => rfl
  | true =>
    obtain ⟨p, h1, h2⟩ := List.any_eq_true.mp hm
    have h3 := List.all_eq_true.mp h p h1
    simp only [Bool.and_eq_true, Bool.or_eq_true, decide_eq_true_eq] at h2 h3
    omega
set_option maxRecDepth 16384 in
theorem wf0_md {I J : gI} {md : aMd} (h : nr md = true) (hf : afr md I J) (hw : WF0 I) : WF0 J := WF0_tr hw (fun c j hc hj => hf c j (nr_ok h hc hj))
set_option maxRecDepth 16384 in
/-- a pair is equal at the end, or neither was written -/
def pOKe (md : aMd) (eqs : aE4) (e : Nat × Nat × Nat × Nat) : Bool := eqs.any (fun q => decide (q = e)) || (!(amodr md e.1 e.2.1 e.2.1) && !(amodr md e.2.2.1 e.2.2.2 e.2.2.2))
set_option maxRecDepth 16384 in
theorem pOKe_ok {md : aMd} {eqs : aE4} {e : Nat × Nat × Nat × Nat} {I J : gI} (h : pOKe md eqs e = true) (hf : afr md I J) (he : rlB eqs J) (hI : I e.1 e.2.1 = I e.2.2.1 e.2.2.2) : J e.1 e.2.1 = J e.2.2.1 e.2.2.2 := by
  simp only [pOKe, Bool.or_eq_true, Bool.and_eq_true, Bool.not_eq_true'] at h
  rcases h with h | ⟨h1, h2⟩
  · obtain ⟨q, h1, h2⟩ := List.any_eq_true.mp h
    have h2 : q = e := of_decide_eq_true h2
    subst h2
    exact he q h1
  · rw [hf _ _ h1, hf _ _ h2]
    exact hI
set_option maxRecDepth 16384 in
def wfchk (md : aMd) (eqs : aE4) : Bool := nr md && rlM.all (fun q => pOKe md eqs (q.1, q.2.1, 68, q.2.2.2.2) && pOKe md eqs (q.2.2.1, q.2.2.2.1, 69, q.2.2.2.2)) && !(amodr md 0 2 2) && !(amodr md 67 3 3) && rlO.all (pOKe md eqs)
set_option maxRecDepth 16384 in
theorem wf_after {md : aMd} {eqs : aE4} {I J : gI} (h : wfchk md eqs = true) (hf : afr md I J) (he : rlB eqs J) (hw : WF I) : WF J := by
  simp only [wfchk, Bool.and_eq_true, Bool.not_eq_true'] at h
  obtain ⟨⟨⟨⟨g1, g2⟩, g3⟩, g4⟩, g5⟩ := h
  obtain ⟨w0, w1, w2, w3, w4⟩ := hw
  have g2 : ∀ q ∈ rlM, pOKe md eqs (q.1, q.2.1, 68, q.2.2.2.2) = true ∧ pOKe md eqs (q.2.2.1, q.2.2.2.1, 69, q.2.2.2.2) = true := fun q hq => by
    have := List.all_eq_true.mp g2 q hq
    simpa only [Bool.and_eq_true] using this
  refine ⟨wf0_md g1 hf w0, fun q hq => pOKe_ok (g2 q hq).1 hf he (w1 q hq), ?_, fun hk q hq => ?_, fun e h => pOKe_ok (List.all_eq_true.mp g5 e h) hf he (w4 e h)⟩
  · rw [hf _ _ g3, hf _ _ g4]
    exact w2
  · rw [hf _ _ g4] at hk
    exact pOKe_ok (g2 q hq).2 hf he (w3 hk q hq)
set_option maxRecDepth 16384 in
def preR (l : List (Nat × Nat × Int × Int)) : Bool := l.all (fun s => (decide (s.2.2.1 < aEQ) && asub (bnd bT s.1 s.2.1) s.2.2) || rlM.any (fun q => decide (s = (q.1, q.2.1, aEQ + ((68 : Nat) : Int), ((q.2.2.2.2 : Nat) : Int)))) || rlO.any (fun e => decide (s = (e.1, e.2.1, aEQ + ((e.2.2.1 : Nat) : Int), ((e.2.2.2 : Nat) : Int)))))
set_option maxRecDepth 16384 in
theorem preR_ok {I : gI} {l : List (Nat × Nat × Int × Int)} (h : preR l = true) (hi : aInv bT I) (hw : WF I) : ∀ s ∈ l, slotOK I s := fun s hs => by
  have h1 := List.all_eq_true.mp h s hs
  simp only [Bool.or_eq_true, Bool.and_eq_true, decide_eq_true_eq] at h1
  rcases h1 with (h1 | h1) | h1
  · exact slotOK_m h1.1 (asub_ok h1.2 (hi s.1 s.2.1))
  · obtain ⟨q, hq, h2⟩ := List.any_eq_true.mp h1
    rw [of_decide_eq_true h2]
    exact slotOK_q (hw.2.1 q hq)
  · obtain ⟨e, he, h2⟩ := List.any_eq_true.mp h1
    rw [of_decide_eq_true h2]
    exact slotOK_q (hw.2.2.2.2 e he)
set_option maxRecDepth 16384 in
theorem pr_of {md : aMd} {pm : aPm} {mi1 nl1 mi2 nl2 n fuel : Nat} {cmp : Bool} {eqs : aE4} {pre : List (Nat × Nat × Int × Int)} {M1 M2 : gM} (h : pchk bT md 297 [] pm none mi1 40 nl1 0 mi2 40 nl2 67 cmp eqs [] fuel (List.replicate n (0, (-2147483648 : Int), 2147483647)) pre = true) (hpm : pmOK MT pm) (hM1 : MT[mi1]? = some M1) (hn1 : M1.2.2.1 = nl1) (hM2 : MT[mi2]? = some M2) (hn2 : M2.2.2.1 = nl2) (hp : preR pre = true) (hc : wfchk md eqs = true) : prOK M1 M2 n cmp := by
  intro d xs I hn hi hw
  subst hn
  have go := pchk_ok (Ext := fun _ => True) h hM1 hn1 hM2 hn2 hpm MT_len.symm.symm (fun m hm => absurd hm List.not_mem_nil) (fun _ _ _ _ => trivial) d (xs.map Value.int) I (args_all xs) hi trivial (preR_ok hp hi hw) _ rfl
  refine G_mono go ?_
  rintro r hh ⟨x, J, e1, e2, g⟩
  refine ⟨x, J, e1, e2, G_mono g ?_⟩
  rintro r2 hh2 ⟨y, J2, e3, e4, i1, i2, i3, i4, -⟩
  exact ⟨y, J2, e3, e4, i3, i1, wf_after hc i2 i4 hw⟩
set_option maxRecDepth 16384 in
/-- one call -/
theorem p1_of {md : aMd} {pm : aPm} {mi1 nl1 fuel : Nat} {eqs : aE4} {cns : List (Nat × Nat × Int)} {pre : List (Nat × Nat × Int × Int)} {M1 : gM} (h : pchk bT md 297 [] pm (some (2, 0)) mi1 40 nl1 0 mi1 40 nl1 0 false eqs cns fuel [] pre = true) (hpm : pmOK MT pm) (hM1 : MT[mi1]? = some M1) (hn1 : M1.2.2.1 = nl1) (d : Nat) (I : gI) (hi : aInv bT I) (hp : ∀ s ∈ pre, slotOK I s) : gg (d + 40) M1 0 (gent M1.2.2.1 [.ref 0]) [] I (pQ2 bT md I false eqs cns 0) :=
  pchk_ok (Ext := fun _ => True) h hM1 hn1 hM1 hn1 hpm MT_len.symm.symm (fun m hm => absurd hm List.not_mem_nil) (fun _ _ _ _ => trivial) d [] I trivial hi trivial hp _ ⟨0, aiv.of rfl, rfl⟩

set_option maxRecDepth 16384 in
def kp_md : aMd := [(0, 2, 2), (35, 1, 4), (35, 8, 9), (35, 16, 16), (36, 0, 15), (37, 0, 5), (38, 0, 5), (39, 0, 5), (40, 0, 5), (41, 0, 5), (42, 0, 5), (43, 0, 1), (44, 0, 7), (45, 0, 7), (46, 0, 7), (47, 0, 199), (48, 0, 23)]
set_option maxRecDepth 16384 in
def kp_pre : List (Nat × Nat × Int × Int) := [(19, 8, 0, 6)]
set_option maxRecDepth 16384 in
def kp_eqs : aE4 := [(35, 8, 19, 8)]
set_option maxRecDepth 16384 in
theorem kp_ok (d : Nat) (I : gI) (hi : aInv bT I) (hp : ∀ s ∈ kp_pre, slotOK I s) : gg (d + 40) mX11_keep 0 (gent mX11_keep.2.2.1 [.ref 0]) [] I (pQ2 bT kp_md I false kp_eqs [(0, 2, 1)] 0) := p1_of (mi1 := 292) (nl1 := 1) (fuel := 153) (pm := [(292, 1, [], ops_X11_keep), (111, 2, [], ops_X1_copyFrom), (0, 2, [], ops_X6_copyFrom)]) (by decide +kernel) (pmOK.cons mt_X11_keep rfl os_X11_keep (pmOK.cons mt_X1_copyFrom rfl os_X1_copyFrom (pmOK.cons mt_X6_copyFrom rfl os_X6_copyFrom (pmOK.nil)))) mt_X11_keep rfl d I hi hp
set_option maxRecDepth 16384 in
def a0_md : aMd := []
set_option maxRecDepth 16384 in
def a0_pre : List (Nat × Nat × Int × Int) := [(0, 2, 0, 0)]
set_option maxRecDepth 16384 in
def a0_eqs : aE4 := []
set_option maxRecDepth 16384 in
theorem a0_ok (d : Nat) (I : gI) (hi : aInv bT I) (hp : ∀ s ∈ a0_pre, slotOK I s) : gg (d + 40) mX11_again 0 (gent mX11_again.2.2.1 [.ref 0]) [] I (pQ2 bT a0_md I false a0_eqs [] 0) := p1_of (mi1 := 294) (nl1 := 1) (fuel := 8) (pm := [(294, 1, [], ops_X11_again)]) (by decide +kernel) (pmOK.cons mt_X11_again rfl os_X11_again (pmOK.nil)) mt_X11_again rfl d I hi hp
set_option maxRecDepth 16384 in
def a1_md : aMd := [(19, 1, 4), (19, 8, 9), (19, 16, 16), (20, 0, 15), (21, 0, 5), (22, 0, 5), (23, 0, 5), (24, 0, 5), (25, 0, 5), (26, 0, 5), (27, 0, 1), (28, 0, 7), (29, 0, 7), (30, 0, 7), (31, 0, 199), (32, 0, 23)]
set_option maxRecDepth 16384 in
def a1_pre : List (Nat × Nat × Int × Int) := [(0, 2, 1, 1), (35, 8, 0, 6)]
set_option maxRecDepth 16384 in
def a1_eqs : aE4 := [(19, 8, 35, 8)]
set_option maxRecDepth 16384 in
theorem a1_ok (d : Nat) (I : gI) (hi : aInv bT I) (hp : ∀ s ∈ a1_pre, slotOK I s) : gg (d + 40) mX11_again 0 (gent mX11_again.2.2.1 [.ref 0]) [] I (pQ2 bT a1_md I false a1_eqs [] 0) := p1_of (mi1 := 294) (nl1 := 1) (fuel := 155) (pm := [(294, 1, [], ops_X11_again), (111, 2, [], ops_X1_copyFrom), (0, 2, [], ops_X6_copyFrom)]) (by decide +kernel) (pmOK.cons mt_X11_again rfl os_X11_again (pmOK.cons mt_X1_copyFrom rfl os_X1_copyFrom (pmOK.cons mt_X6_copyFrom rfl os_X6_copyFrom (pmOK.nil)))) mt_X11_again rfl d I hi hp
set_option maxRecDepth 16384 in
theorem kp_e : kp_eqs = rlM.map (fun q => (q.2.2.1, q.2.2.2.1, q.1, q.2.1)) := by decide +kernel
set_option maxRecDepth 16384 in
theorem a1_e : a1_eqs = rlM.map (fun q => (q.1, q.2.1, q.2.2.1, q.2.2.2.1)) := by decide +kernel
set_option maxRecDepth 16384 in
theorem kp_m : (nr kp_md && rlM.all (fun q => !(amodr kp_md q.1 q.2.1 q.2.1) && !(amodr kp_md 68 q.2.2.2.2 q.2.2.2.2)) && rlO.all (pOKe kp_md [])) = true := by decide +kernel
set_option maxRecDepth 16384 in
theorem a1_m : (nr a1_md && rlM.all (fun q => !(amodr a1_md q.2.2.1 q.2.2.2.1 q.2.2.2.1) && !(amodr a1_md 69 q.2.2.2.2 q.2.2.2.2)) && !(amodr a1_md 0 2 2) && !(amodr a1_md 67 3 3) && rlO.all (pOKe a1_md [])) = true := by decide +kernel
set_option maxRecDepth 16384 in
theorem rlB_nil {I : gI} : rlB [] I := fun e h => absurd h List.not_mem_nil
set_option maxRecDepth 16384 in
theorem pr_keep : prOK mX11_keep mX12_keep 0 false := by
  intro d xs I hn hi hw
  have hn : xs = [] := List.eq_nil_of_length_eq_zero hn
  subst hn
  refine G_mono (kp_ok d I hi (preB_ok (by decide +kernel) hi)) ?_
  rintro r hh ⟨x, J, e1, e2, i1, i2, -, i4, i5⟩
  have hm := kp_m
  simp only [Bool.and_eq_true] at hm
  obtain ⟨⟨m1, m2⟩, m3⟩ := hm
  refine ⟨x, J, e1, e2, G_mono (pb_keepM d J i1 (wf0_md m1 i2 hw.1) (fun q hq => ?_) (fun q hq => ?_) ?_ (fun e he => pOKe_ok (List.all_eq_true.mp m3 e he) i2 rlB_nil (hw.2.2.2.2 e he))) ?_⟩
  · have h := List.all_eq_true.mp m2 q hq
    simp only [Bool.and_eq_true, Bool.not_eq_true'] at h
    rw [i2 _ _ h.1, i2 _ _ h.2]
    exact hw.2.1 q hq
  · rw [kp_e] at i4
    exact i4 _ (List.mem_map.mpr ⟨q, hq, rfl⟩)
  · exact Int32.toInt_inj.mp (i5 (0, 2, 1) List.mem_cons_self)
  · rintro r2 hh2 ⟨y, J2, e3, e4, g1, g2⟩
    exact ⟨y, J2, e3, e4, (fun h => by cases h), g1, g2⟩
set_option maxRecDepth 16384 in
theorem sl0 {I : gI} {c j : Nat} {v : Int} {x : Int32} (h : I c j = x) (hv : v < aEQ) (hx : x.toInt = v) : slotOK I (c, j, v, v) := slotOK_m hv (by
  show ain (v, v) (I c j)
  rw [h]
  exact ⟨Int.le_of_eq hx.symm, Int.le_of_eq hx⟩)
set_option maxRecDepth 16384 in
theorem pr_again : prOK mX11_again mX12_again 0 false := by
  intro d xs I hn hi hw
  have hn : xs = [] := List.eq_nil_of_length_eq_zero hn
  subst hn
  have rk := ain_of hi (show bnd bT 0 2 = (0, 1) by decide +kernel)
  dsimp only at rk
  rcases a_01 rk.1 rk.2 with k0 | k0
  · refine G_mono (a0_ok d I hi (fun s hs => ?_)) ?_
    · rw [List.mem_singleton.mp hs]
      exact sl0 k0 (by decide) rfl
    rintro r hh ⟨x, J, e1, e2, i1, i2, -, i4, i5⟩
    have eJ : J = I := afr_nil i2
    subst eJ
    refine ⟨x, J, e1, e2, G_mono (pb_againM d J i1 hw.1 (Or.inl ⟨by rw [← hw.2.2.1]; exact k0, hw⟩)) ?_⟩
    rintro r2 hh2 ⟨y, J2, e3, e4, g1, g2⟩
    exact ⟨y, J2, e3, e4, (fun h => by cases h), g1, g2⟩
  · refine G_mono (a1_ok d I hi (fun s hs => ?_)) ?_
    · rcases List.mem_cons.mp hs with rfl | hs
      · exact sl0 k0 (by decide) rfl
      · exact preB_ok (l := a1_pre.tail) (by decide +kernel) hi s hs
    rintro r hh ⟨x, J, e1, e2, i1, i2, -, i4, i5⟩
    have hm := a1_m
    simp only [Bool.and_eq_true, Bool.not_eq_true'] at hm
    obtain ⟨⟨⟨⟨m1, m2⟩, m3⟩, m4⟩, m5⟩ := hm
    have hk : ¬ I 67 3 = 0 := by
      rw [← hw.2.2.1, k0]
      decide
    refine ⟨x, J, e1, e2, G_mono (pb_againM d J i1 (wf0_md m1 i2 hw.1) (Or.inr ⟨by rw [i2 _ _ m4]; exact hk, fun q hq => ?_, fun q hq => ?_, by rw [i2 _ _ m3, i2 _ _ m4]; exact hw.2.2.1, fun e he => pOKe_ok (List.all_eq_true.mp m5 e he) i2 rlB_nil (hw.2.2.2.2 e he)⟩)) ?_⟩
    · have h := List.all_eq_true.mp m2 q hq
      simp only [Bool.and_eq_true, Bool.not_eq_true'] at h
      rw [i2 _ _ h.1, i2 _ _ h.2]
      exact hw.2.2.2.1 hk q hq
    · rw [a1_e] at i4
      exact i4 _ (List.mem_map.mpr ⟨q, hq, rfl⟩)
    · rintro r2 hh2 ⟨y, J2, e3, e4, g1, g2⟩
      exact ⟨y, J2, e3, e4, (fun h => by cases h), g1, g2⟩
set_option maxRecDepth 16384 in
theorem pr_key : prOK mX11_key mX12_key 4 true := pr_of (md := [(19, 8, 8), (23, 0, 5), (24, 0, 5), (25, 0, 5), (26, 0, 5), (68, 4, 4), (68, 35, 64)]) (pm := [(185, 1, [], ops_X11_isGate), (37, 3, [], ops_X11_isIn), (184, 1, [], ops_X11_isKeyKind), (183, 6, [(37, 20, 8, [])], ops_X11_key), (127, 3, [], ops_X12_in1), (187, 1, [], ops_X12_isDigit), (188, 1, [], ops_X12_isGate), (186, 6, [], ops_X12_key), (141, 4, [], ops_X12_puts)]) (mi1 := 183) (nl1 := 6) (mi2 := 186) (nl2 := 6) (fuel := 275) (eqs := [(19, 8, 68, 4)]) (pre := [(68, 4, 0, 6), (19, 8, 10000000068, 4)]) (by decide +kernel) (pmOK.cons mt_X11_isGate rfl os_X11_isGate (pmOK.cons mt_X11_isIn rfl os_X11_isIn (pmOK.cons mt_X11_isKeyKind rfl os_X11_isKeyKind (pmOK.cons mt_X11_key rfl os_X11_key (pmOK.cons mt_X12_in1 rfl os_X12_in1 (pmOK.cons mt_X12_isDigit rfl os_X12_isDigit (pmOK.cons mt_X12_isGate rfl os_X12_isGate (pmOK.cons mt_X12_key rfl os_X12_key (pmOK.cons mt_X12_puts rfl os_X12_puts (pmOK.nil)))))))))) mt_X11_key rfl mt_X12_key rfl (by decide +kernel) (by decide +kernel)
set_option maxRecDepth 16384 in
theorem pr_shelf : prOK mX11_shelf mX12_shelf 3 true := pr_of (md := [(9, 0, 3), (10, 0, 3), (11, 0, 3), (85, 0, 3), (86, 0, 3)]) (pm := [(37, 3, [], ops_X11_isIn), (103, 1, [], ops_X11_isPlace), (281, 4, [(0, 0, 2, [0, 1, 2, 3])], ops_X11_shelf), (127, 3, [], ops_X12_in1), (149, 2, [], ops_X12_isKey), (174, 1, [], ops_X12_isSheet), (282, 4, [], ops_X12_shelf), (26, 2, [(0, 20, 8, [])], ops_X1_isKey)]) (mi1 := 281) (nl1 := 4) (mi2 := 282) (nl2 := 4) (fuel := 190) (eqs := []) (pre := [(68, 4, 0, 6), (19, 8, 10000000068, 4)]) (by decide +kernel) (pmOK.cons mt_X11_isIn rfl os_X11_isIn (pmOK.cons mt_X11_isPlace rfl os_X11_isPlace (pmOK.cons mt_X11_shelf rfl os_X11_shelf (pmOK.cons mt_X12_in1 rfl os_X12_in1 (pmOK.cons mt_X12_isKey rfl os_X12_isKey (pmOK.cons mt_X12_isSheet rfl os_X12_isSheet (pmOK.cons mt_X12_shelf rfl os_X12_shelf (pmOK.cons mt_X1_isKey rfl os_X1_isKey (pmOK.nil))))))))) mt_X11_shelf rfl mt_X12_shelf rfl (by decide +kernel) (by decide +kernel)
