/-! ===== the methods that write what class and reference hold alike, and those that are compared ===== -/
def prE (cmp : Bool) (x : Int32) : Option Value → gH → Prop := pbM (fun y J => (cmp = true → y = x) ∧ aInv bT J ∧ WF J)
/-- both calls, one behind the other -/
def prOK (M1 M2 : gM) (n : Nat) (cmp : Bool) : Prop := ∀ (d : Nat) (xs : List Int32) (I : gI), xs.length = n → aInv bT I → WF I → gg (d + 40) M1 0 (gent M1.2.2.1 (.ref 0 :: xs.map Value.int)) [] I (pbM (fun x J => gg (d + 40) M2 0 (gent M2.2.2.1 (.ref 67 :: xs.map Value.int)) [] J (prE cmp x)))
def nr (md : aMd) : Bool := md.all (fun r => (decide (r.1 ≠ 68) && decide (r.1 ≠ 69)) || (decide (r.2.2 < 89) && (decide (r.2.2 < 5) || decide (5 < r.2.1))))
theorem nr_ok {md : aMd} {c j : Nat} (h : nr md = true) (hc : c = 68 ∨ c = 69) (hj : j = 5 ∨ (89 ≤ j ∧ j ≤ 312)) : amodr md c j j = false := by
  cases hm : amodr md c j j with
  | false => rfl
  | true =>
    obtain ⟨p, h1, h2⟩ := List.any_eq_true.mp hm
    have h3 := List.all_eq_true.mp h p h1
    simp only [Bool.and_eq_true, Bool.or_eq_true, decide_eq_true_eq] at h2 h3
    omega
theorem wf0_md {I J : gI} {md : aMd} (h : nr md = true) (hf : afr md I J) (hw : WF0 I) : WF0 J := WF0_tr hw (fun c j hc hj => hf c j (nr_ok h hc hj))
/-- a pair is equal at the end, or neither was written -/
def pOKe (md : aMd) (eqs : aE4) (e : Nat × Nat × Nat × Nat) : Bool := eqs.any (fun q => decide (q = e)) || (!(amodr md e.1 e.2.1 e.2.1) && !(amodr md e.2.2.1 e.2.2.2 e.2.2.2))
theorem pOKe_ok {md : aMd} {eqs : aE4} {e : Nat × Nat × Nat × Nat} {I J : gI} (h : pOKe md eqs e = true) (hf : afr md I J) (he : rlB eqs J) (hI : I e.1 e.2.1 = I e.2.2.1 e.2.2.2) : J e.1 e.2.1 = J e.2.2.1 e.2.2.2 := by
  simp only [pOKe, Bool.or_eq_true, Bool.and_eq_true, Bool.not_eq_true'] at h
  rcases h with h | ⟨h1, h2⟩
  · obtain ⟨q, h1, h2⟩ := List.any_eq_true.mp h
    have h2 : q = e := of_decide_eq_true h2
    subst h2
    exact he q h1
  · rw [hf _ _ h1, hf _ _ h2]
    exact hI
def wfchk (md : aMd) (eqs : aE4) : Bool := nr md && rlM.all (fun q => pOKe md eqs (q.1, q.2.1, 68, q.2.2.2.2) && pOKe md eqs (q.2.2.1, q.2.2.2.1, 69, q.2.2.2.2)) && !(amodr md 0 2 2) && !(amodr md 67 3 3) && rlO.all (pOKe md eqs) && dsj md rxS && hlE.all (pOKe md eqs) && hkE.all (pOKe md eqs)
theorem wf_after {md : aMd} {eqs : aE4} {I J : gI} (h : wfchk md eqs = true) (hf : afr md I J) (he : rlB eqs J) (hw : WF I) : WF J := by
  simp only [wfchk, Bool.and_eq_true, Bool.not_eq_true'] at h
  obtain ⟨⟨⟨⟨⟨⟨⟨g1, g2⟩, g3⟩, g4⟩, g5⟩, g6⟩, g7⟩, g8⟩ := h
  obtain ⟨w0, w1, w2, w3, w4, w5, w6, w7⟩ := hw
  have g2 : ∀ q ∈ rlM, pOKe md eqs (q.1, q.2.1, 68, q.2.2.2.2) = true ∧ pOKe md eqs (q.2.2.1, q.2.2.2.1, 69, q.2.2.2.2) = true := fun q hq => by
    have := List.all_eq_true.mp g2 q hq
    simpa only [Bool.and_eq_true] using this
  refine ⟨wf0_md g1 hf w0, fun q hq => pOKe_ok (g2 q hq).1 hf he (w1 q hq), ?_, fun hk q hq => ?_, fun e h => pOKe_ok (List.all_eq_true.mp g5 e h) hf he (w4 e h), rX_eq w5 (fun c j hx => hf c j (dsj_ok g6 hx)), fun e h => pOKe_ok (List.all_eq_true.mp g7 e h) hf he (w6 e h), fun hk e h => pOKe_ok (List.all_eq_true.mp g8 e h) hf he (w7 (by rw [← hf _ _ g4]; exact hk) e h)⟩
  · rw [hf _ _ g3, hf _ _ g4]
    exact w2
  · rw [hf _ _ g4] at hk
    exact pOKe_ok (g2 q hq).2 hf he (w3 hk q hq)
def preR (l : List (Nat × Nat × Int × Int)) : Bool := l.all (fun s => (decide (s.2.2.1 < aEQ) && asub (bnd bT s.1 s.2.1) s.2.2) || rlM.any (fun q => decide (s = (q.1, q.2.1, aEQ + ((68 : Nat) : Int), ((q.2.2.2.2 : Nat) : Int)))) || rlO.any (fun e => decide (s = (e.1, e.2.1, aEQ + ((e.2.2.1 : Nat) : Int), ((e.2.2.2 : Nat) : Int)))) || hlE.any (fun e => decide (s = (e.1, e.2.1, aEQ + ((e.2.2.1 : Nat) : Int), ((e.2.2.2 : Nat) : Int)))))
theorem preR_ok {I : gI} {l : List (Nat × Nat × Int × Int)} (h : preR l = true) (hi : aInv bT I) (hw : WF I) : ∀ s ∈ l, slotOK I s := fun s hs => by
  have h1 := List.all_eq_true.mp h s hs
  simp only [Bool.or_eq_true, Bool.and_eq_true, decide_eq_true_eq] at h1
  rcases h1 with ((h1 | h1) | h1) | h1
  · exact slotOK_m h1.1 (asub_ok h1.2 (hi s.1 s.2.1))
  · obtain ⟨q, hq, h2⟩ := List.any_eq_true.mp h1
    rw [of_decide_eq_true h2]
    exact slotOK_q (hw.2.1 q hq)
  · obtain ⟨e, he, h2⟩ := List.any_eq_true.mp h1
    rw [of_decide_eq_true h2]
    exact slotOK_q (hw.2.2.2.2.1 e he)
  · obtain ⟨e, he, h2⟩ := List.any_eq_true.mp h1
    rw [of_decide_eq_true h2]
    exact slotOK_q (hw.2.2.2.2.2.2.1 e he)
/-- both calls within bounds of the arguments -/
theorem pr_box {md : aMd} {pm : aPm} {mi1 nl1 mi2 nl2 fuel : Nat} {xc : aXc} {E : List Value → Int32 → Int32 → gI → Prop} {args : List (Nat × Int × Int)} {pre : List (Nat × Nat × Int × Int)} {M1 M2 : gM} (h : pchk bT md 297 [] pm none mi1 40 nl1 0 mi2 40 nl2 67 xc fuel args pre = true) (hxc : ∀ vs, xcOK bT (aentA args []).1 vs xc (E vs)) (hpm : pmOK MT pm) (hM1 : MT[mi1]? = some M1) (hn1 : M1.2.2.1 = nl1) (hM2 : MT[mi2]? = some M2) (hn2 : M2.2.2.1 = nl2) (d : Nat) (xs : List Int32) (I : gI) (ha : argsOK args (xs.map Value.int)) (hi : aInv bT I) (hp : ∀ s ∈ pre, slotOK I s) {cmp : Bool} (hE : ∀ x y J, aInv bT J → afr md I J → E (xs.map Value.int) x y J → (cmp = true → y = x) ∧ WF J) :
    gg (d + 40) M1 0 (gent M1.2.2.1 (.ref 0 :: xs.map Value.int)) [] I (pbM (fun x J => gg (d + 40) M2 0 (gent M2.2.2.1 (.ref 67 :: xs.map Value.int)) [] J (prE cmp x))) := by
  have go := pchk_ok (Ext := fun _ => True) h hM1 hn1 hM2 hn2 hpm MT_len (fun m hm => absurd hm List.not_mem_nil) (fun _ _ _ _ => trivial) hxc d (xs.map Value.int) I ha hi trivial hp _ rfl
  refine G_mono go ?_
  rintro r hh ⟨x, J, e1, e2, g⟩
  refine ⟨x, J, e1, e2, G_mono g ?_⟩
  rintro r2 hh2 ⟨y, J2, e3, e4, i1, i2, i3⟩
  have := hE x y J2 i1 i2 i3
  exact ⟨y, J2, e3, e4, this.1, i1, this.2⟩
theorem pr_of {md : aMd} {pm : aPm} {mi1 nl1 mi2 nl2 n fuel : Nat} {cmp : Bool} {eqs : aE4} {pre : List (Nat × Nat × Int × Int)} {M1 M2 : gM} (h : pchk bT md 297 [] pm none mi1 40 nl1 0 mi2 40 nl2 67 (fun B K _ v w => pxt cmp eqs [] B K v w) fuel (List.replicate n (0, (-2147483648 : Int), 2147483647)) pre = true) (hpm : pmOK MT pm) (hM1 : MT[mi1]? = some M1) (hn1 : M1.2.2.1 = nl1) (hM2 : MT[mi2]? = some M2) (hn2 : M2.2.2.1 = nl2) (hp : preR pre = true) (hc : wfchk md eqs = true) : prOK M1 M2 n cmp := by
  intro d xs I hn hi hw
  subst hn
  exact pr_box (E := fun _ => pEx cmp eqs []) h (fun vs => pxt_ok) hpm hM1 hn1 hM2 hn2 d xs I (args_all xs) hi (preR_ok hp hi hw) (fun x y J i1 i2 i3 => ⟨i3.1, wf_after hc i2 i3.2.1 hw⟩)
/-- one call -/
theorem p1_box {md : aMd} {pm : aPm} {mi1 nl1 c1 fuel : Nat} {xc : aXc} {E : List Value → Int32 → Int32 → gI → Prop} {args : List (Nat × Int × Int)} {pre : List (Nat × Nat × Int × Int)} {M1 : gM} (h : pchk bT md 297 [] pm (some (2, 0)) mi1 40 nl1 c1 mi1 40 nl1 c1 xc fuel args pre = true) (hxc : ∀ vs, xcOK bT (aentA args []).1 vs xc (E vs)) (hpm : pmOK MT pm) (hM1 : MT[mi1]? = some M1) (hn1 : M1.2.2.1 = nl1) (d : Nat) (vs : List Value) (I : gI) (ha : argsOK args vs) (hi : aInv bT I) (hp : ∀ s ∈ pre, slotOK I s) : gg (d + 40) M1 0 (gent M1.2.2.1 (.ref c1 :: vs)) [] I (pQ2 bT md I (E vs) 0) :=
  pchk_ok (Ext := fun _ => True) h hM1 hn1 hM1 hn1 hpm MT_len (fun m hm => absurd hm List.not_mem_nil) (fun _ _ _ _ => trivial) hxc d vs I ha hi trivial hp _ ⟨0, aiv.of rfl, rfl⟩

/-- the restored pairs: the class's slot, its kept slot, the place in the reference's row -/
def rsM : List (Nat × Nat × Nat × Nat × Nat) := [(26, 0, 42, 0, 38), (26, 1, 42, 1, 43), (26, 2, 42, 2, 48), (26, 3, 42, 3, 53), (26, 4, 42, 4, 58), (26, 5, 42, 5, 63)]
theorem rs_l : hlE = rsM.map (fun q => (q.1, q.2.1, 68, q.2.2.2.2)) := by decide +kernel
theorem rs_k : hkE = rsM.map (fun q => (q.2.2.1, q.2.2.2.1, 69, q.2.2.2.2)) := by decide +kernel
theorem rsM_k : rsM.all (fun q => decide (q.1 < 67) && decide (q.2.2.1 < 67) && decide (q.2.2.2.2 < 89)) = true := by decide +kernel
theorem rsM_b {q : Nat × Nat × Nat × Nat × Nat} (hq : q ∈ rsM) : q.1 < 67 ∧ q.2.2.1 < 67 ∧ q.2.2.2.2 < 89 := by
  have h := List.all_eq_true.mp rsM_k q hq
  simp only [Bool.and_eq_true, decide_eq_true_eq] at h
  exact ⟨h.1.1, h.1.2, h.2⟩
def kp_md : aMd := [(0, 2, 2), (35, 1, 4), (35, 8, 9), (35, 16, 16), (36, 0, 15), (37, 0, 5), (38, 0, 5), (39, 0, 5), (40, 0, 5), (41, 0, 5), (42, 0, 5), (43, 0, 1), (44, 0, 7), (45, 0, 7), (46, 0, 7), (47, 0, 199), (48, 0, 23)]
def kp_pre : List (Nat × Nat × Int × Int) := [(19, 8, 0, 6), (23, 0, 0, 5), (23, 1, 0, 5), (23, 2, 0, 5), (23, 3, 0, 5), (23, 4, 0, 5), (23, 5, 0, 5), (26, 0, 0, 5), (26, 1, 0, 5), (26, 2, 0, 5), (26, 3, 0, 5), (26, 4, 0, 5), (26, 5, 0, 5)]
def kp_eqs : aE4 := [(35, 8, 19, 8), (39, 0, 23, 0), (39, 1, 23, 1), (39, 2, 23, 2), (39, 3, 23, 3), (39, 4, 23, 4), (39, 5, 23, 5), (42, 0, 26, 0), (42, 1, 26, 1), (42, 2, 26, 2), (42, 3, 26, 3), (42, 4, 26, 4), (42, 5, 26, 5)]
theorem kp_ok (d : Nat) (I : gI) (hi : aInv bT I) (hp : ∀ s ∈ kp_pre, slotOK I s) : gg (d + 40) mX11_keep 0 (gent mX11_keep.2.2.1 [.ref 0]) [] I (pQ2 bT kp_md I (pEx false kp_eqs [(0, 2, 1)]) 0) := p1_box (xc := fun B K _ v w => pxt false kp_eqs [(0, 2, 1)] B K v w) (E := fun _ => pEx false kp_eqs [(0, 2, 1)]) (args := []) (mi1 := 292) (nl1 := 1) (fuel := 153) (pm := [(292, 1, [], ops_X11_keep), (111, 2, [], ops_X1_copyFrom), (0, 2, [], ops_X6_copyFrom)]) (by decide +kernel) (fun vs => pxt_ok) (pmOK.cons mt_X11_keep rfl os_X11_keep (pmOK.cons mt_X1_copyFrom rfl os_X1_copyFrom (pmOK.cons mt_X6_copyFrom rfl os_X6_copyFrom (pmOK.nil)))) mt_X11_keep rfl d [] I trivial hi hp
def a0_md : aMd := []
def a0_pre : List (Nat × Nat × Int × Int) := [(0, 2, 0, 0)]
def a0_eqs : aE4 := []
theorem a0_ok (d : Nat) (I : gI) (hi : aInv bT I) (hp : ∀ s ∈ a0_pre, slotOK I s) : gg (d + 40) mX11_again 0 (gent mX11_again.2.2.1 [.ref 0]) [] I (pQ2 bT a0_md I (pEx false a0_eqs []) 0) := p1_box (xc := fun B K _ v w => pxt false a0_eqs [] B K v w) (E := fun _ => pEx false a0_eqs []) (args := []) (mi1 := 294) (nl1 := 1) (fuel := 8) (pm := [(294, 1, [], ops_X11_again)]) (by decide +kernel) (fun vs => pxt_ok) (pmOK.cons mt_X11_again rfl os_X11_again (pmOK.nil)) mt_X11_again rfl d [] I trivial hi hp
def a1_md : aMd := [(19, 1, 4), (19, 8, 9), (19, 16, 16), (20, 0, 15), (21, 0, 5), (22, 0, 5), (23, 0, 5), (24, 0, 5), (25, 0, 5), (26, 0, 5), (27, 0, 1), (28, 0, 7), (29, 0, 7), (30, 0, 7), (31, 0, 199), (32, 0, 23)]
def a1_pre : List (Nat × Nat × Int × Int) := [(0, 2, 1, 1), (35, 8, 0, 6), (39, 0, 0, 5), (39, 1, 0, 5), (39, 2, 0, 5), (39, 3, 0, 5), (39, 4, 0, 5), (39, 5, 0, 5), (42, 0, 0, 5), (42, 1, 0, 5), (42, 2, 0, 5), (42, 3, 0, 5), (42, 4, 0, 5), (42, 5, 0, 5)]
def a1_eqs : aE4 := [(19, 8, 35, 8), (23, 0, 39, 0), (23, 1, 39, 1), (23, 2, 39, 2), (23, 3, 39, 3), (23, 4, 39, 4), (23, 5, 39, 5), (26, 0, 42, 0), (26, 1, 42, 1), (26, 2, 42, 2), (26, 3, 42, 3), (26, 4, 42, 4), (26, 5, 42, 5)]
theorem a1_ok (d : Nat) (I : gI) (hi : aInv bT I) (hp : ∀ s ∈ a1_pre, slotOK I s) : gg (d + 40) mX11_again 0 (gent mX11_again.2.2.1 [.ref 0]) [] I (pQ2 bT a1_md I (pEx false a1_eqs []) 0) := p1_box (xc := fun B K _ v w => pxt false a1_eqs [] B K v w) (E := fun _ => pEx false a1_eqs []) (args := []) (mi1 := 294) (nl1 := 1) (fuel := 155) (pm := [(294, 1, [], ops_X11_again), (111, 2, [], ops_X1_copyFrom), (0, 2, [], ops_X6_copyFrom)]) (by decide +kernel) (fun vs => pxt_ok) (pmOK.cons mt_X11_again rfl os_X11_again (pmOK.cons mt_X1_copyFrom rfl os_X1_copyFrom (pmOK.cons mt_X6_copyFrom rfl os_X6_copyFrom (pmOK.nil)))) mt_X11_again rfl d [] I trivial hi hp
theorem kp_e : kp_eqs = (rlM ++ rsM).map (fun q => (q.2.2.1, q.2.2.2.1, q.1, q.2.1)) := by decide +kernel
theorem a1_e : a1_eqs = (rlM ++ rsM).map (fun q => (q.1, q.2.1, q.2.2.1, q.2.2.2.1)) := by decide +kernel
theorem kp_m : (nr kp_md && rlM.all (fun q => !(amodr kp_md q.1 q.2.1 q.2.1) && !(amodr kp_md 68 q.2.2.2.2 q.2.2.2.2)) && rlO.all (pOKe kp_md []) && dsj kp_md rxS && dsj kp_md hlS) = true := by decide +kernel
theorem a1_m : (nr a1_md && rlM.all (fun q => !(amodr a1_md q.2.2.1 q.2.2.2.1 q.2.2.2.1) && !(amodr a1_md 69 q.2.2.2.2 q.2.2.2.2)) && !(amodr a1_md 0 2 2) && !(amodr a1_md 67 3 3) && rlO.all (pOKe a1_md []) && dsj a1_md rxS && dsj a1_md hkS) = true := by decide +kernel
theorem rlB_nil {I : gI} : rlB [] I := fun e h => absurd h List.not_mem_nil
theorem pr_keep : prOK mX11_keep mX12_keep 0 false := by
  intro d xs I hn hi hw
  have hn : xs = [] := List.eq_nil_of_length_eq_zero hn
  subst hn
  refine G_mono (kp_ok d I hi (preB_ok (by decide +kernel) hi)) ?_
  rintro r hh ⟨x, J, e1, e2, i1, i2, -, i4, i5⟩
  have hm := kp_m
  simp only [Bool.and_eq_true] at hm
  obtain ⟨⟨⟨⟨m1, m2⟩, m3⟩, m6⟩, m7⟩ := hm
  rw [kp_e] at i4
  refine ⟨x, J, e1, e2, G_mono (pb_keepM d J i1 (wf0_md m1 i2 hw.1) (fun q hq => ?_) (fun q hq => ?_) ?_ (fun e he => pOKe_ok (List.all_eq_true.mp m3 e he) i2 rlB_nil (hw.2.2.2.2.1 e he)) (rX_eq hw.2.2.2.2.2.1 (fun c j hx => i2 c j (dsj_ok m6 hx)))) ?_⟩
  · have h := List.all_eq_true.mp m2 q hq
    simp only [Bool.and_eq_true, Bool.not_eq_true'] at h
    rw [i2 _ _ h.1, i2 _ _ h.2]
    exact hw.2.1 q hq
  · exact i4 _ (List.mem_map.mpr ⟨q, List.mem_append_left _ hq, rfl⟩)
  · exact Int32.toInt_inj.mp (i5 (0, 2, 1) List.mem_cons_self)
  · rintro r2 hh2 ⟨y, J2, e3, e4, g1, g2, rfl⟩
    have hl : rlB hlE J := hl_tr (WF_h hw) (fun c j hx => i2 c j (dsj_ok m7 hx))
    refine ⟨y, _, e3, e4, (fun h => by cases h), g1, WF_of g2 ⟨fun e he => ?_, fun _ e he => ?_⟩⟩
    · obtain ⟨-, -, b3, b4, b5, b6⟩ := hlS_b he
      rw [gup_ne (Or.inl (by omega)), gup_ne (Or.inl (by omega)), cp_ne (by omega), cp_ne (by omega)]
      exact hl e he
    · rw [rs_k] at he
      obtain ⟨q, hq, rfl⟩ := List.mem_map.mp he
      obtain ⟨b1, b2, b3⟩ := rsM_b hq
      show gup (gcp J 68 69 0 0 313) 67 3 1 q.2.2.1 q.2.2.2.1 = gup (gcp J 68 69 0 0 313) 67 3 1 69 q.2.2.2.2
      rw [gup_ne (Or.inl (by omega)), gup_ne (Or.inl (by decide)), cp_ne (by omega), cp_at (by omega)]
      have h1 : J q.2.2.1 q.2.2.2.1 = J q.1 q.2.1 := i4 _ (List.mem_map.mpr ⟨q, List.mem_append_right _ hq, rfl⟩)
      have h2 : J q.1 q.2.1 = J 68 q.2.2.2.2 := hl (q.1, q.2.1, 68, q.2.2.2.2) (by rw [rs_l]; exact List.mem_map.mpr ⟨q, hq, rfl⟩)
      exact h1.trans h2
theorem sl0 {I : gI} {c j : Nat} {v : Int} {x : Int32} (h : I c j = x) (hv : v < aEQ) (hx : x.toInt = v) : slotOK I (c, j, v, v) := slotOK_m hv (by
  show ain (v, v) (I c j)
  rw [h]
  exact ⟨Int.le_of_eq hx.symm, Int.le_of_eq hx⟩)
theorem pr_again : prOK mX11_again mX12_again 0 false := by
  intro d xs I hn hi hw
  have hn : xs = [] := List.eq_nil_of_length_eq_zero hn
  subst hn
  have rk := ain_of hi (show bnd bT 0 2 = (0, 1) by decide +kernel)
  dsimp only at rk
  rcases a_01 rk.1 rk.2 with k0 | k0
  · refine G_mono (a0_ok d I hi (fun s hs => ?_)) ?_
    · rw [List.mem_singleton.mp hs]
      exact sl0 k0 (by decide) rfl
    rintro r hh ⟨x, J, e1, e2, i1, i2, -, i4, i5⟩
    have eJ : J = I := afr_nil i2
    subst eJ
    refine ⟨x, J, e1, e2, G_mono (pb_againM d J i1 hw.1 (Or.inl ⟨by rw [← hw.2.2.1]; exact k0, WF_P hw⟩)) ?_⟩
    rintro r2 hh2 ⟨y, J2, e3, e4, g1, g2, ⟨q1, -⟩ | ⟨-, rfl⟩⟩
    · exact absurd (by rw [← hw.2.2.1]; exact k0) q1
    · exact ⟨y, _, e3, e4, (fun h => by cases h), g1, hw⟩
  · refine G_mono (a1_ok d I hi (fun s hs => ?_)) ?_
    · rcases List.mem_cons.mp hs with rfl | hs
      · exact sl0 k0 (by decide) rfl
      · exact preB_ok (l := a1_pre.tail) (by decide +kernel) hi s hs
    rintro r hh ⟨x, J, e1, e2, i1, i2, -, i4, i5⟩
    have hm := a1_m
    simp only [Bool.and_eq_true, Bool.not_eq_true'] at hm
    obtain ⟨⟨⟨⟨⟨⟨m1, m2⟩, m3⟩, m4⟩, m5⟩, m6⟩, m8⟩ := hm
    have hk : ¬ I 67 3 = 0 := by
      rw [← hw.2.2.1, k0]
      decide
    rw [a1_e] at i4
    refine ⟨x, J, e1, e2, G_mono (pb_againM d J i1 (wf0_md m1 i2 hw.1) (Or.inr ⟨by rw [i2 _ _ m4]; exact hk, fun q hq => ?_, fun q hq => ?_, by rw [i2 _ _ m3, i2 _ _ m4]; exact hw.2.2.1, fun e he => pOKe_ok (List.all_eq_true.mp m5 e he) i2 rlB_nil (hw.2.2.2.2.1 e he), rX_eq hw.2.2.2.2.2.1 (fun c j hx => i2 c j (dsj_ok m6 hx))⟩)) ?_⟩
    · have h := List.all_eq_true.mp m2 q hq
      simp only [Bool.and_eq_true, Bool.not_eq_true'] at h
      rw [i2 _ _ h.1, i2 _ _ h.2]
      exact hw.2.2.2.1 hk q hq
    · exact i4 _ (List.mem_map.mpr ⟨q, List.mem_append_left _ hq, rfl⟩)
    · rintro r2 hh2 ⟨y, J2, e3, e4, g1, g2, ⟨q1, rfl⟩ | ⟨q1, -⟩⟩
      · have hkJ : rlB hkE J := hk_tr hw.2.2.2.2.2.2.2 (fun c j hx => i2 c j (dsj_ok m8 hx)) q1
        refine ⟨y, _, e3, e4, (fun h => by cases h), g1, WF_of g2 ⟨fun e he => ?_, fun _ e he => ?_⟩⟩
        · rw [rs_l] at he
          obtain ⟨q, hq, rfl⟩ := List.mem_map.mp he
          obtain ⟨b1, b2, b3⟩ := rsM_b hq
          show gcp J 69 68 0 0 313 q.1 q.2.1 = gcp J 69 68 0 0 313 68 q.2.2.2.2
          rw [cp_ne (by omega), cp_at (by omega)]
          have h1 : J q.1 q.2.1 = J q.2.2.1 q.2.2.2.1 := i4 _ (List.mem_map.mpr ⟨q, List.mem_append_right _ hq, rfl⟩)
          have h2 : J q.2.2.1 q.2.2.2.1 = J 69 q.2.2.2.2 := hkJ (q.2.2.1, q.2.2.2.1, 69, q.2.2.2.2) (by rw [rs_k]; exact List.mem_map.mpr ⟨q, hq, rfl⟩)
          exact h1.trans h2
        · obtain ⟨-, -, b3, b4, b5, b6⟩ := hkS_b he
          rw [cp_ne (by omega), cp_ne (by omega)]
          exact hkJ e he
      · exact absurd q1 (by rw [i2 _ _ m4]; exact hk)
theorem pr_key : prOK mX11_key mX12_key 4 true := pr_of (md := [(19, 8, 8), (23, 0, 5), (24, 0, 5), (25, 0, 5), (26, 0, 5), (68, 4, 4), (68, 35, 64)]) (pm := [(185, 1, [], ops_X11_isGate), (37, 3, [], ops_X11_isIn), (184, 1, [], ops_X11_isKeyKind), (183, 6, [(37, 20, 8, [])], ops_X11_key), (127, 3, [], ops_X12_in1), (187, 1, [], ops_X12_isDigit), (188, 1, [], ops_X12_isGate), (186, 6, [], ops_X12_key), (141, 4, [], ops_X12_puts)]) (mi1 := 183) (nl1 := 6) (mi2 := 186) (nl2 := 6) (fuel := 275) (eqs := [(19, 8, 68, 4), (23, 0, 68, 35), (23, 1, 68, 40), (23, 2, 68, 45), (23, 3, 68, 50), (23, 4, 68, 55), (23, 5, 68, 60), (26, 0, 68, 38), (26, 1, 68, 43), (26, 2, 68, 48), (26, 3, 68, 53), (26, 4, 68, 58), (26, 5, 68, 63)]) (pre := [(68, 4, 0, 6), (19, 8, 10000000068, 4), (68, 35, 0, 5), (23, 0, 10000000068, 35), (68, 40, 0, 5), (23, 1, 10000000068, 40), (68, 45, 0, 5), (23, 2, 10000000068, 45), (68, 50, 0, 5), (23, 3, 10000000068, 50), (68, 55, 0, 5), (23, 4, 10000000068, 55), (68, 60, 0, 5), (23, 5, 10000000068, 60), (68, 38, 0, 5), (26, 0, 10000000068, 38), (68, 43, 0, 5), (26, 1, 10000000068, 43), (68, 48, 0, 5), (26, 2, 10000000068, 48), (68, 53, 0, 5), (26, 3, 10000000068, 53), (68, 58, 0, 5), (26, 4, 10000000068, 58), (68, 63, 0, 5), (26, 5, 10000000068, 63)]) (by decide +kernel) (pmOK.cons mt_X11_isGate rfl os_X11_isGate (pmOK.cons mt_X11_isIn rfl os_X11_isIn (pmOK.cons mt_X11_isKeyKind rfl os_X11_isKeyKind (pmOK.cons mt_X11_key rfl os_X11_key (pmOK.cons mt_X12_in1 rfl os_X12_in1 (pmOK.cons mt_X12_isDigit rfl os_X12_isDigit (pmOK.cons mt_X12_isGate rfl os_X12_isGate (pmOK.cons mt_X12_key rfl os_X12_key (pmOK.cons mt_X12_puts rfl os_X12_puts (pmOK.nil)))))))))) mt_X11_key rfl mt_X12_key rfl (by decide +kernel) (by decide +kernel)
theorem pr_remake : prOK mX11_remake mX12_remake 2 true := pr_of (md := [(23, 0, 5), (68, 35, 35), (68, 40, 40), (68, 45, 45), (68, 50, 50), (68, 55, 55), (68, 60, 60)]) (pm := [(37, 3, [], ops_X11_isIn), (184, 1, [], ops_X11_isKeyKind), (194, 4, [(0, 0, 1, [0, 1, 2, 3, 4, 5, 6])], ops_X11_remake), (193, 4, [], ops_X12_becomes), (127, 3, [], ops_X12_in1), (149, 2, [], ops_X12_isKey), (195, 3, [], ops_X12_remake), (26, 2, [], ops_X1_isKey)]) (mi1 := 194) (nl1 := 4) (mi2 := 195) (nl2 := 3) (fuel := 108) (eqs := [(23, 0, 68, 35), (23, 1, 68, 40), (23, 2, 68, 45), (23, 3, 68, 50), (23, 4, 68, 55), (23, 5, 68, 60)]) (pre := [(68, 4, 0, 6), (19, 8, 10000000068, 4), (68, 35, 0, 5), (23, 0, 10000000068, 35), (68, 40, 0, 5), (23, 1, 10000000068, 40), (68, 45, 0, 5), (23, 2, 10000000068, 45), (68, 50, 0, 5), (23, 3, 10000000068, 50), (68, 55, 0, 5), (23, 4, 10000000068, 55), (68, 60, 0, 5), (23, 5, 10000000068, 60)]) (by decide +kernel) (pmOK.cons mt_X11_isIn rfl os_X11_isIn (pmOK.cons mt_X11_isKeyKind rfl os_X11_isKeyKind (pmOK.cons mt_X11_remake rfl os_X11_remake (pmOK.cons mt_X12_becomes rfl os_X12_becomes (pmOK.cons mt_X12_in1 rfl os_X12_in1 (pmOK.cons mt_X12_isKey rfl os_X12_isKey (pmOK.cons mt_X12_remake rfl os_X12_remake (pmOK.cons mt_X1_isKey rfl os_X1_isKey (pmOK.nil))))))))) mt_X11_remake rfl mt_X12_remake rfl (by decide +kernel) (by decide +kernel)
theorem pr_change : prOK mX11_change mX12_change 3 false := pr_of (md := [(19, 9, 9), (24, 0, 5), (25, 0, 5), (26, 0, 5), (68, 36, 39), (68, 41, 44), (68, 46, 49), (68, 51, 54), (68, 56, 59), (68, 61, 64)]) (pm := [(191, 4, [(0, 0, 1, [0, 1, 2, 3, 4, 5, 6]), (0, 0, 2, [1, 2, 3, 4, 5])], ops_X11_change), (79, 4, [], ops_X11_changeTurned), (37, 3, [], ops_X11_isIn), (78, 5, [], ops_X11_put), (193, 4, [], ops_X12_becomes), (192, 5, [], ops_X12_change), (127, 3, [], ops_X12_in1), (149, 2, [], ops_X12_isKey), (26, 2, [], ops_X1_isKey), (11, 2, [], ops_X1_isTurned), (27, 3, [], ops_X1_setTurned)]) (mi1 := 191) (nl1 := 4) (mi2 := 192) (nl2 := 5) (fuel := 169) (eqs := [(26, 0, 68, 38), (26, 1, 68, 43), (26, 2, 68, 48), (26, 3, 68, 53), (26, 4, 68, 58), (26, 5, 68, 63)]) (pre := [(68, 4, 0, 6), (19, 8, 10000000068, 4), (68, 38, 0, 5), (26, 0, 10000000068, 38), (68, 43, 0, 5), (26, 1, 10000000068, 43), (68, 48, 0, 5), (26, 2, 10000000068, 48), (68, 53, 0, 5), (26, 3, 10000000068, 53), (68, 58, 0, 5), (26, 4, 10000000068, 58), (68, 63, 0, 5), (26, 5, 10000000068, 63)]) (by decide +kernel) (pmOK.cons mt_X11_change rfl os_X11_change (pmOK.cons mt_X11_changeTurned rfl os_X11_changeTurned (pmOK.cons mt_X11_isIn rfl os_X11_isIn (pmOK.cons mt_X11_put rfl os_X11_put (pmOK.cons mt_X12_becomes rfl os_X12_becomes (pmOK.cons mt_X12_change rfl os_X12_change (pmOK.cons mt_X12_in1 rfl os_X12_in1 (pmOK.cons mt_X12_isKey rfl os_X12_isKey (pmOK.cons mt_X1_isKey rfl os_X1_isKey (pmOK.cons mt_X1_isTurned rfl os_X1_isTurned (pmOK.cons mt_X1_setTurned rfl os_X1_setTurned (pmOK.nil)))))))))))) mt_X11_change rfl mt_X12_change rfl (by decide +kernel) (by decide +kernel)
/-- an end that says more: answers, pairs, numbers, arguments, slots that aren't 0, traces -/
def ptr (B : aB) (K : aK) : Bool := match kget K 65 3, kget K 67 34 with
  | some a, some b => decide (anm B a = anm B b) && (match abd B a with
    | some p => decide (p.1 = p.2) && (List.range p.1.toNat).all (fun j => match kget K 66 j, kget K 87 j with
      | some x, some y => decide (anm B x = anm B y)
      | _, _ => false)
    | none => false)
  | _, _ => false
def pnz (nz : List (Nat × Nat)) (B : aB) (K : aK) : Bool := nz.all (fun e => match kget K e.1 e.2 with
  | some a => (match abd B a with
    | some p => decide (1 ≤ p.1) || decide (p.2 ≤ -1)
    | none => false)
  | none => false)
def pxv (am : List aV) (cmp : Bool) (eqs : aE4) (cns : List (Nat × Nat × Int)) (ags : List (Nat × Nat × Nat)) (nz : List (Nat × Nat)) (tr : Bool) : aXc := fun B K _ v w => pxt cmp eqs cns B K v w && pag am ags B K && pnz nz B K && (!tr || ptr B K)
def pEv (cmp : Bool) (eqs : aE4) (cns : List (Nat × Nat × Int)) (ags : List (Nat × Nat × Nat)) (nz : List (Nat × Nat)) (tr : Bool) : List Value → Int32 → Int32 → gI → Prop := fun vs x y I => pEx cmp eqs cns x y I ∧ (∀ e ∈ ags, vs[e.2.2]? = some (.int (I e.1 e.2.1))) ∧ (∀ e ∈ nz, I e.1 e.2 ≠ 0) ∧ (tr = true → rT I)
theorem pxv_ok {bt : aT} {am : List aV} {cmp : Bool} {eqs : aE4} {cns : List (Nat × Nat × Int)} {ags : List (Nat × Nat × Nat)} {nz : List (Nat × Nat)} {tr : Bool} (vs : List Value) : xcOK bt am vs (pxv am cmp eqs cns ags nz tr) (pEv cmp eqs cns ags nz tr vs) := by
  intro B K F v w ρ I x y h hB hK hf hA hv hw
  simp only [pxv, Bool.and_eq_true] at h
  obtain ⟨⟨⟨h1, h2⟩, h3⟩, h4⟩ := h
  refine ⟨pxt_ok (am := am) (vs := vs) B K F v w ρ I x y h1 hB hK hf hA hv hw, pag_ok h2 hB hK hA, fun e he => ?_, fun ht => ?_⟩
  · have h5 := List.all_eq_true.mp h3 e he
    split at h5
    next a ha =>
      split at h5
      next p hp =>
        have h6 := abd_ok hB (hK.1 _ (kget_some ha)) hp
        simp only [Bool.or_eq_true, decide_eq_true_eq] at h5
        intro e0
        have e0 : I e.1 e.2 = 0 := e0
        have h6 : p.1 ≤ (I e.1 e.2).toInt ∧ (I e.1 e.2).toInt ≤ p.2 := h6
        rw [e0] at h6
        have : (0 : Int32).toInt = 0 := rfl
        omega
      next => cases h5
    next => cases h5
  · subst ht
    simp only [Bool.not_true, Bool.false_or] at h4
    unfold ptr at h4
    split at h4
    next a b ha hb =>
      simp only [Bool.and_eq_true, decide_eq_true_eq] at h4
      obtain ⟨q1, q2⟩ := h4
      have ga := anm_ok hB (hK.1 _ (kget_some ha))
      have gb := anm_ok hB (hK.1 _ (kget_some hb))
      rw [q1] at ga
      split at q2
      next p hp =>
        simp only [Bool.and_eq_true, decide_eq_true_eq] at q2
        obtain ⟨q3, q4⟩ := q2
        have h6 : p.1 ≤ (I 65 3).toInt ∧ (I 65 3).toInt ≤ p.2 := abd_ok hB (hK.1 _ (kget_some ha)) hp
        refine ⟨ga.fn gb, fun j _ hj => ?_⟩
        have q5 := List.all_eq_true.mp q4 j (List.mem_range.mpr (by omega))
        split at q5
        next x' y' hx' hy' =>
          have q6 : anm B x' = anm B y' := of_decide_eq_true q5
          have g1 := anm_ok hB (hK.1 _ (kget_some hx'))
          rw [q6] at g1
          exact g1.fn (anm_ok hB (hK.1 _ (kget_some hy')))
        next => cases q5
      next => cases q2
    next => cases h4
/-- both calls from any start -/
theorem pr2_box {md : aMd} {pm : aPm} {mi1 nl1 mi2 nl2 fuel : Nat} {xc : aXc} {E : Int32 → Int32 → gI → Prop} {am : List aV} {B : aB} {K : aK} {F : aF} {M1 M2 : gM} (h : pchk2 bT md 297 [] pm none mi1 40 nl1 0 mi2 40 nl2 67 xc fuel am B K F = true) (hpm : pmOK MT pm) (hM1 : MT[mi1]? = some M1) (hn1 : M1.2.2.1 = nl1) (hM2 : MT[mi2]? = some M2) (hn2 : M2.2.2.1 = nl2) (d : Nat) (xs : List Int32) (I : gI) (ρ : List Int32) (hxc : xcOK bT am (xs.map Value.int) xc E) (hA : aSt ρ am (xs.map Value.int)) (hB : aok B ρ) (hK : aheap bT K ρ I) (hf : fok I F ρ) {cmp : Bool} (hE : ∀ x y J, aInv bT J → afr md I J → E x y J → (cmp = true → y = x) ∧ WF J) :
    gg (d + 40) M1 0 (gent M1.2.2.1 (.ref 0 :: xs.map Value.int)) [] I (pbM (fun x J => gg (d + 40) M2 0 (gent M2.2.2.1 (.ref 67 :: xs.map Value.int)) [] J (prE cmp x))) := by
  have go := pchk2_ok (Ext := fun _ => True) h hM1 hn1 hM2 hn2 hpm MT_len (fun m hm => absurd hm List.not_mem_nil) d (xs.map Value.int) I ρ (fun _ _ => trivial) hxc hA hB hK hf _ rfl
  refine G_mono go ?_
  rintro r hh ⟨x, J, e1, e2, g⟩
  refine ⟨x, J, e1, e2, G_mono g ?_⟩
  rintro r2 hh2 ⟨y, J2, e3, e4, i1, i2, i3⟩
  have := hE x y J2 i1 i2 i3
  exact ⟨y, J2, e3, e4, this.1, i1, this.2⟩
theorem ex_wf {I J : gI} {eqs : aE4} {cns : List (Nat × Nat × Int)} {x y : Int32} (hw : WF I) (hf : afr [] I J) (h : pEx true eqs cns x y J) : (true = true → y = x) ∧ WF J := ⟨h.1, by rw [afr_nil hf]; exact hw⟩
theorem ax3 {a b c : Int32} {p1 q1 p2 q2 p3 q3 : Int} (h : (p1 ≤ a.toInt ∧ a.toInt ≤ q1) ∧ (p2 ≤ b.toInt ∧ b.toInt ≤ q2) ∧ (p3 ≤ c.toInt ∧ c.toInt ≤ q3)) : argsOK [(0, p1, q1), (0, p2, q2), (0, p3, q3)] ([a, b, c].map Value.int) := ⟨⟨a, rfl, h.1⟩, ⟨b, rfl, h.2.1⟩, ⟨c, rfl, h.2.2⟩, trivial⟩
theorem no_pre {I : gI} : ∀ s ∈ ([] : List (Nat × Nat × Int × Int)), slotOK I s := fun s hs => absurd hs List.not_mem_nil
theorem i32 {x : Int32} {z : Int32} (h : x.toInt = z.toInt) : x = z := Int32.toInt_inj.mp h
/-- all but what rX says of some slots is as it was -/
def axchk (md : aMd) (sh : aMd) : Bool := nr md && rlM.all (fun q => pOKe md [] (q.1, q.2.1, 68, q.2.2.2.2) && pOKe md [] (q.2.2.1, q.2.2.2.1, 69, q.2.2.2.2)) && !(amodr md 0 2 2) && !(amodr md 67 3 3) && rlO.all (pOKe md []) && dsj md hlS && dsj md hkS && dsj md sh
theorem ax_wf {I J : gI} {md sh : aMd} (hc : axchk md sh = true) (hw : WF I) (hf : afr md I J) (h2 : (∀ c j, amodr sh c j j = true → J c j = I c j) → rX J) : WF J := by
  simp only [axchk, Bool.and_eq_true, Bool.not_eq_true'] at hc
  obtain ⟨⟨⟨⟨⟨⟨⟨g1, g2⟩, g3⟩, g4⟩, g5⟩, g6⟩, g7⟩, g8⟩ := hc
  obtain ⟨w0, w1, w2, w3, w4, w5, w6, w7⟩ := hw
  have g2 : ∀ q ∈ rlM, pOKe md [] (q.1, q.2.1, 68, q.2.2.2.2) = true ∧ pOKe md [] (q.2.2.1, q.2.2.2.1, 69, q.2.2.2.2) = true := fun q hq => by
    have := List.all_eq_true.mp g2 q hq
    simpa only [Bool.and_eq_true] using this
  refine ⟨wf0_md g1 hf w0, fun q hq => pOKe_ok (g2 q hq).1 hf rlB_nil (w1 q hq), ?_, fun hk q hq => ?_, fun e h => pOKe_ok (List.all_eq_true.mp g5 e h) hf rlB_nil (w4 e h), h2 (fun c j hx => hf c j (dsj_ok g8 hx)), hl_tr w6 (fun c j hx => hf c j (dsj_ok g6 hx)), hk_tr w7 (fun c j hx => hf c j (dsj_ok g7 hx))⟩
  · rw [hf _ _ g3, hf _ _ g4]
    exact w2
  · rw [hf _ _ g4] at hk
    exact pOKe_ok (g2 q hq).2 hf rlB_nil (w3 hk q hq)
/-- one shelf alone -/
def shS : Nat → aMd
  | 0 => [(9, 1, 3), (10, 1, 3), (85, 1, 3), (86, 1, 3), (65, 3, 3), (66, 0, 29), (67, 34, 34), (87, 0, 29)]
  | 1 => [(9, 0, 0), (10, 0, 0), (85, 0, 0), (86, 0, 0), (9, 2, 3), (10, 2, 3), (85, 2, 3), (86, 2, 3), (65, 3, 3), (66, 0, 29), (67, 34, 34), (87, 0, 29)]
  | 2 => [(9, 0, 1), (10, 0, 1), (85, 0, 1), (86, 0, 1), (9, 3, 3), (10, 3, 3), (85, 3, 3), (86, 3, 3), (65, 3, 3), (66, 0, 29), (67, 34, 34), (87, 0, 29)]
  | _ => [(9, 0, 2), (10, 0, 2), (85, 0, 2), (86, 0, 2), (65, 3, 3), (66, 0, 29), (67, 34, 34), (87, 0, 29)]
theorem shS_4 {s t : Nat} (hs : s < 4) (ht : t < 4) (hn : t ≠ s) : amodr (shS s) 9 t t = true ∧ amodr (shS s) 10 t t = true ∧ amodr (shS s) 85 t t = true ∧ amodr (shS s) 86 t t = true := by
  have h : (List.range 4).all (fun s => (List.range 4).all (fun t => decide (t = s) || (amodr (shS s) 9 t t && amodr (shS s) 10 t t && amodr (shS s) 85 t t && amodr (shS s) 86 t t))) = true := by decide +kernel
  have h1 := List.all_eq_true.mp (List.all_eq_true.mp h s (List.mem_range.mpr hs)) t (List.mem_range.mpr ht)
  simp only [Bool.or_eq_true, Bool.and_eq_true, decide_eq_true_eq] at h1
  rcases h1 with h1 | ⟨⟨⟨h1, h2⟩, h3⟩, h4⟩
  · exact absurd h1 hn
  · exact ⟨h1, h2, h3, h4⟩
theorem shS_t {s c j : Nat} (hs : s < 4) (h : (c = 65 ∧ j = 3) ∨ (c = 67 ∧ j = 34) ∨ ((c = 66 ∨ c = 87) ∧ j < 30)) : amodr (shS s) c j j = true := by
  rcases (by omega : s = 0 ∨ s = 1 ∨ s = 2 ∨ s = 3) with rfl | rfl | rfl | rfl <;> rcases h with ⟨rfl, rfl⟩ | ⟨rfl, rfl⟩ | ⟨rfl | rfl, hj⟩ <;> first | decide +kernel | exact amodr_i (a := 0) (b := 29) (by decide) (Nat.zero_le _) (by omega)
theorem sh_rX {I J : gI} {s : Nat} (hs : s < 4) (hw : rX I) (hA : rA J s) (hx : ∀ c j, amodr (shS s) c j j = true → J c j = I c j) : rX J := by
  refine ⟨fun t ht => ?_, rT_eq hw.2 (hx _ _ (shS_t hs (by decide))) (hx _ _ (shS_t hs (by decide))) (fun j hj => hx _ _ (shS_t hs (Or.inr (Or.inr ⟨Or.inl rfl, hj⟩)))) (fun j hj => hx _ _ (shS_t hs (Or.inr (Or.inr ⟨Or.inr rfl, hj⟩))))⟩
  by_cases e : t = s
  · rw [e]
    exact hA
  · obtain ⟨q1, q2, q3, q4⟩ := shS_4 hs ht e
    exact rA_eq (hw.1 t ht) (hx _ _ q1) (hx _ _ q2) (hx _ _ q3) (hx _ _ q4)
theorem sh_wf {I J : gI} {md : aMd} {s : Nat} (hs : s < 4) (hc : axchk md (shS s) = true) (hw : WF I) (hf : afr md I J) (hA : rA J s) : WF J := ax_wf hc hw hf (sh_rX hs hw.2.2.2.2.2.1 hA)
/-- the traces alone -/
def trS : aMd := [(9, 0, 3), (10, 0, 3), (85, 0, 3), (86, 0, 3)]
theorem tr_wf {I J : gI} {md : aMd} (hc : axchk md trS = true) (hw : WF I) (hf : afr md I J) (hT : rT J) : WF J := ax_wf hc hw hf (fun hx => ⟨fun s hs => by
  have h : ∀ c, c = 9 ∨ c = 10 ∨ c = 85 ∨ c = 86 → J c s = I c s := fun c hc => hx c s (by
    rcases hc with rfl | rfl | rfl | rfl <;> exact amodr_i (a := 0) (b := 3) (by decide) (Nat.zero_le _) (by omega))
  exact rA_eq (hw.2.2.2.2.2.1.1 s hs) (h 9 (by decide)) (h 10 (by decide)) (h 85 (by decide)) (h 86 (by decide)), hT⟩)
theorem rT_0 {J : gI} (h1 : (J 65 3).toInt = 0) (h2 : (J 67 34).toInt = 0) : rT J := ⟨Int32.toInt_inj.mp (h1.trans h2.symm), fun j _ hj => by omega⟩
theorem aok.nil : aok [] [] := ⟨rfl, fun i e x hi => by simp at hi⟩
theorem ah_pair {I : gI} {ρ : List Int32} {l : Int} {n : Int32} (hi : aInv bT I) (hl : ρ[l.toNat]? = some n) (h1 : I 68 4 = n) (h2 : I 19 8 = n) : aheap bT [(68, 4, (0, l)), (19, 8, (0, l))] ρ I := by
  refine ⟨fun k hk => ?_, fun c j _ => hi c j⟩
  simp only [List.mem_cons, List.not_mem_nil, or_false] at hk
  rcases hk with rfl | rfl
  · exact Or.inl ⟨rfl, by show ρ[l.toNat]? = some (I 68 4); rw [h1]; exact hl⟩
  · exact Or.inl ⟨rfl, by show ρ[l.toNat]? = some (I 19 8); rw [h2]; exact hl⟩
theorem aint {ρ : List Int32} {a : aV} {x : Int32} (h : aiv ρ a x) : aev ρ a (.int x) := Or.inl ⟨x, rfl, h⟩
def se1_md : aMd := []
theorem se1 (d : Nat) (a b c : Int32) (I : gI) (hi : aInv bT I) (ha : argsOK [(0, (-2147483648), (-1)), (0, (-2147483648), 2147483647), (0, (-2147483648), 2147483647)] ([a, b, c].map Value.int)) (hp : ∀ s ∈ ([] : List (Nat × Nat × Int × Int)), slotOK I s) (hE : ∀ x y J, aInv bT J → afr se1_md I J → pEx true [] [] x y J → (true = true → y = x) ∧ WF J) : gg (d + 40) mX11_shelf 0 (gent mX11_shelf.2.2.1 (.ref 0 :: [a, b, c].map Value.int)) [] I (pbM (fun x J => gg (d + 40) mX12_shelf 0 (gent mX12_shelf.2.2.1 (.ref 67 :: [a, b, c].map Value.int)) [] J (prE true x))) := pr_box (xc := fun B K _ v w => pxt true [] [] B K v w) (E := fun _ => pEx true [] []) (pm := [(37, 3, [], ops_X11_isIn), (103, 1, [], ops_X11_isPlace), (281, 4, [], ops_X11_shelf), (127, 3, [], ops_X12_in1), (174, 1, [], ops_X12_isSheet), (282, 4, [], ops_X12_shelf)]) (mi1 := 281) (nl1 := 4) (mi2 := 282) (nl2 := 4) (fuel := 33) (by decide +kernel) (fun vs => pxt_ok) (pmOK.cons mt_X11_isIn rfl os_X11_isIn (pmOK.cons mt_X11_isPlace rfl os_X11_isPlace (pmOK.cons mt_X11_shelf rfl os_X11_shelf (pmOK.cons mt_X12_in1 rfl os_X12_in1 (pmOK.cons mt_X12_isSheet rfl os_X12_isSheet (pmOK.cons mt_X12_shelf rfl os_X12_shelf (pmOK.nil))))))) mt_X11_shelf rfl mt_X12_shelf rfl d [a, b, c] I ha hi hp hE
def se2_md : aMd := []
theorem se2 (d : Nat) (a b c : Int32) (I : gI) (hi : aInv bT I) (ha : argsOK [(0, 4, 2147483647), (0, (-2147483648), 2147483647), (0, (-2147483648), 2147483647)] ([a, b, c].map Value.int)) (hp : ∀ s ∈ ([] : List (Nat × Nat × Int × Int)), slotOK I s) (hE : ∀ x y J, aInv bT J → afr se2_md I J → pEx true [] [] x y J → (true = true → y = x) ∧ WF J) : gg (d + 40) mX11_shelf 0 (gent mX11_shelf.2.2.1 (.ref 0 :: [a, b, c].map Value.int)) [] I (pbM (fun x J => gg (d + 40) mX12_shelf 0 (gent mX12_shelf.2.2.1 (.ref 67 :: [a, b, c].map Value.int)) [] J (prE true x))) := pr_box (xc := fun B K _ v w => pxt true [] [] B K v w) (E := fun _ => pEx true [] []) (pm := [(37, 3, [], ops_X11_isIn), (103, 1, [], ops_X11_isPlace), (281, 4, [], ops_X11_shelf), (127, 3, [], ops_X12_in1), (174, 1, [], ops_X12_isSheet), (282, 4, [], ops_X12_shelf)]) (mi1 := 281) (nl1 := 4) (mi2 := 282) (nl2 := 4) (fuel := 39) (by decide +kernel) (fun vs => pxt_ok) (pmOK.cons mt_X11_isIn rfl os_X11_isIn (pmOK.cons mt_X11_isPlace rfl os_X11_isPlace (pmOK.cons mt_X11_shelf rfl os_X11_shelf (pmOK.cons mt_X12_in1 rfl os_X12_in1 (pmOK.cons mt_X12_isSheet rfl os_X12_isSheet (pmOK.cons mt_X12_shelf rfl os_X12_shelf (pmOK.nil))))))) mt_X11_shelf rfl mt_X12_shelf rfl d [a, b, c] I ha hi hp hE
def se3_md : aMd := []
theorem se3 (d : Nat) (a b c : Int32) (I : gI) (hi : aInv bT I) (ha : argsOK [(0, 0, 3), (0, (-2147483648), (-1)), (0, (-2147483648), 2147483647)] ([a, b, c].map Value.int)) (hp : ∀ s ∈ ([] : List (Nat × Nat × Int × Int)), slotOK I s) (hE : ∀ x y J, aInv bT J → afr se3_md I J → pEx true [] [] x y J → (true = true → y = x) ∧ WF J) : gg (d + 40) mX11_shelf 0 (gent mX11_shelf.2.2.1 (.ref 0 :: [a, b, c].map Value.int)) [] I (pbM (fun x J => gg (d + 40) mX12_shelf 0 (gent mX12_shelf.2.2.1 (.ref 67 :: [a, b, c].map Value.int)) [] J (prE true x))) := pr_box (xc := fun B K _ v w => pxt true [] [] B K v w) (E := fun _ => pEx true [] []) (pm := [(37, 3, [], ops_X11_isIn), (103, 1, [], ops_X11_isPlace), (281, 4, [], ops_X11_shelf), (127, 3, [], ops_X12_in1), (174, 1, [], ops_X12_isSheet), (282, 4, [], ops_X12_shelf)]) (mi1 := 281) (nl1 := 4) (mi2 := 282) (nl2 := 4) (fuel := 61) (by decide +kernel) (fun vs => pxt_ok) (pmOK.cons mt_X11_isIn rfl os_X11_isIn (pmOK.cons mt_X11_isPlace rfl os_X11_isPlace (pmOK.cons mt_X11_shelf rfl os_X11_shelf (pmOK.cons mt_X12_in1 rfl os_X12_in1 (pmOK.cons mt_X12_isSheet rfl os_X12_isSheet (pmOK.cons mt_X12_shelf rfl os_X12_shelf (pmOK.nil))))))) mt_X11_shelf rfl mt_X12_shelf rfl d [a, b, c] I ha hi hp hE
def se4_md : aMd := []
theorem se4 (d : Nat) (a b c : Int32) (I : gI) (hi : aInv bT I) (ha : argsOK [(0, 0, 3), (0, 3, 2147483647), (0, (-2147483648), 2147483647)] ([a, b, c].map Value.int)) (hp : ∀ s ∈ ([] : List (Nat × Nat × Int × Int)), slotOK I s) (hE : ∀ x y J, aInv bT J → afr se4_md I J → pEx true [] [] x y J → (true = true → y = x) ∧ WF J) : gg (d + 40) mX11_shelf 0 (gent mX11_shelf.2.2.1 (.ref 0 :: [a, b, c].map Value.int)) [] I (pbM (fun x J => gg (d + 40) mX12_shelf 0 (gent mX12_shelf.2.2.1 (.ref 67 :: [a, b, c].map Value.int)) [] J (prE true x))) := pr_box (xc := fun B K _ v w => pxt true [] [] B K v w) (E := fun _ => pEx true [] []) (pm := [(37, 3, [], ops_X11_isIn), (103, 1, [], ops_X11_isPlace), (281, 4, [], ops_X11_shelf), (127, 3, [], ops_X12_in1), (174, 1, [], ops_X12_isSheet), (282, 4, [], ops_X12_shelf)]) (mi1 := 281) (nl1 := 4) (mi2 := 282) (nl2 := 4) (fuel := 67) (by decide +kernel) (fun vs => pxt_ok) (pmOK.cons mt_X11_isIn rfl os_X11_isIn (pmOK.cons mt_X11_isPlace rfl os_X11_isPlace (pmOK.cons mt_X11_shelf rfl os_X11_shelf (pmOK.cons mt_X12_in1 rfl os_X12_in1 (pmOK.cons mt_X12_isSheet rfl os_X12_isSheet (pmOK.cons mt_X12_shelf rfl os_X12_shelf (pmOK.nil))))))) mt_X11_shelf rfl mt_X12_shelf rfl d [a, b, c] I ha hi hp hE
def se5_md : aMd := []
theorem se5 (d : Nat) (a b c : Int32) (I : gI) (hi : aInv bT I) (ha : argsOK [(0, 0, 3), (0, 0, 0), (0, (-2147483648), (-1))] ([a, b, c].map Value.int)) (hp : ∀ s ∈ ([] : List (Nat × Nat × Int × Int)), slotOK I s) (hE : ∀ x y J, aInv bT J → afr se5_md I J → pEx true [] [] x y J → (true = true → y = x) ∧ WF J) : gg (d + 40) mX11_shelf 0 (gent mX11_shelf.2.2.1 (.ref 0 :: [a, b, c].map Value.int)) [] I (pbM (fun x J => gg (d + 40) mX12_shelf 0 (gent mX12_shelf.2.2.1 (.ref 67 :: [a, b, c].map Value.int)) [] J (prE true x))) := pr_box (xc := fun B K _ v w => pxt true [] [] B K v w) (E := fun _ => pEx true [] []) (pm := [(37, 3, [], ops_X11_isIn), (103, 1, [], ops_X11_isPlace), (281, 4, [], ops_X11_shelf), (127, 3, [], ops_X12_in1), (149, 2, [], ops_X12_isKey), (174, 1, [], ops_X12_isSheet), (282, 4, [], ops_X12_shelf), (26, 2, [], ops_X1_isKey)]) (mi1 := 281) (nl1 := 4) (mi2 := 282) (nl2 := 4) (fuel := 101) (by decide +kernel) (fun vs => pxt_ok) (pmOK.cons mt_X11_isIn rfl os_X11_isIn (pmOK.cons mt_X11_isPlace rfl os_X11_isPlace (pmOK.cons mt_X11_shelf rfl os_X11_shelf (pmOK.cons mt_X12_in1 rfl os_X12_in1 (pmOK.cons mt_X12_isKey rfl os_X12_isKey (pmOK.cons mt_X12_isSheet rfl os_X12_isSheet (pmOK.cons mt_X12_shelf rfl os_X12_shelf (pmOK.cons mt_X1_isKey rfl os_X1_isKey (pmOK.nil))))))))) mt_X11_shelf rfl mt_X12_shelf rfl d [a, b, c] I ha hi hp hE
def se6_md : aMd := []
theorem se6 (d : Nat) (a b c : Int32) (I : gI) (hi : aInv bT I) (ha : argsOK [(0, 0, 3), (0, 1, 1), (0, (-2147483648), (-1))] ([a, b, c].map Value.int)) (hp : ∀ s ∈ ([] : List (Nat × Nat × Int × Int)), slotOK I s) (hE : ∀ x y J, aInv bT J → afr se6_md I J → pEx true [] [] x y J → (true = true → y = x) ∧ WF J) : gg (d + 40) mX11_shelf 0 (gent mX11_shelf.2.2.1 (.ref 0 :: [a, b, c].map Value.int)) [] I (pbM (fun x J => gg (d + 40) mX12_shelf 0 (gent mX12_shelf.2.2.1 (.ref 67 :: [a, b, c].map Value.int)) [] J (prE true x))) := pr_box (xc := fun B K _ v w => pxt true [] [] B K v w) (E := fun _ => pEx true [] []) (pm := [(37, 3, [], ops_X11_isIn), (103, 1, [], ops_X11_isPlace), (281, 4, [], ops_X11_shelf), (127, 3, [], ops_X12_in1), (174, 1, [], ops_X12_isSheet), (282, 4, [], ops_X12_shelf)]) (mi1 := 281) (nl1 := 4) (mi2 := 282) (nl2 := 4) (fuel := 105) (by decide +kernel) (fun vs => pxt_ok) (pmOK.cons mt_X11_isIn rfl os_X11_isIn (pmOK.cons mt_X11_isPlace rfl os_X11_isPlace (pmOK.cons mt_X11_shelf rfl os_X11_shelf (pmOK.cons mt_X12_in1 rfl os_X12_in1 (pmOK.cons mt_X12_isSheet rfl os_X12_isSheet (pmOK.cons mt_X12_shelf rfl os_X12_shelf (pmOK.nil))))))) mt_X11_shelf rfl mt_X12_shelf rfl d [a, b, c] I ha hi hp hE
def se7_md : aMd := []
theorem se7 (d : Nat) (a b c : Int32) (I : gI) (hi : aInv bT I) (ha : argsOK [(0, 0, 3), (0, 1, 1), (0, 4, 2147483647)] ([a, b, c].map Value.int)) (hp : ∀ s ∈ ([] : List (Nat × Nat × Int × Int)), slotOK I s) (hE : ∀ x y J, aInv bT J → afr se7_md I J → pEx true [] [] x y J → (true = true → y = x) ∧ WF J) : gg (d + 40) mX11_shelf 0 (gent mX11_shelf.2.2.1 (.ref 0 :: [a, b, c].map Value.int)) [] I (pbM (fun x J => gg (d + 40) mX12_shelf 0 (gent mX12_shelf.2.2.1 (.ref 67 :: [a, b, c].map Value.int)) [] J (prE true x))) := pr_box (xc := fun B K _ v w => pxt true [] [] B K v w) (E := fun _ => pEx true [] []) (pm := [(37, 3, [], ops_X11_isIn), (103, 1, [], ops_X11_isPlace), (281, 4, [], ops_X11_shelf), (127, 3, [], ops_X12_in1), (174, 1, [], ops_X12_isSheet), (282, 4, [], ops_X12_shelf)]) (mi1 := 281) (nl1 := 4) (mi2 := 282) (nl2 := 4) (fuel := 111) (by decide +kernel) (fun vs => pxt_ok) (pmOK.cons mt_X11_isIn rfl os_X11_isIn (pmOK.cons mt_X11_isPlace rfl os_X11_isPlace (pmOK.cons mt_X11_shelf rfl os_X11_shelf (pmOK.cons mt_X12_in1 rfl os_X12_in1 (pmOK.cons mt_X12_isSheet rfl os_X12_isSheet (pmOK.cons mt_X12_shelf rfl os_X12_shelf (pmOK.nil))))))) mt_X11_shelf rfl mt_X12_shelf rfl d [a, b, c] I ha hi hp hE
def se8_md : aMd := []
theorem se8 (d : Nat) (xs : List Int32) (I : gI) (ρ : List Int32) (hA : aSt ρ [(0, 2), (2, 0), (0, 0)] (xs.map Value.int)) (hB : aok [(0, 2147483647, none), (0, 6, none), (0, 3, none)] ρ) (hK : aheap bT [(68, 4, (0, 1)), (19, 8, (0, 1))] ρ I) (hf : fok I [(0, 3, (0, 0), (0, 1), (2, 0))] ρ) (hE : ∀ x y J, aInv bT J → afr se8_md I J → pEv true [] [] [] [] false (xs.map Value.int) x y J → (true = true → y = x) ∧ WF J) : gg (d + 40) mX11_shelf 0 (gent mX11_shelf.2.2.1 (.ref 0 :: xs.map Value.int)) [] I (pbM (fun x J => gg (d + 40) mX12_shelf 0 (gent mX12_shelf.2.2.1 (.ref 67 :: xs.map Value.int)) [] J (prE true x))) := pr2_box (xc := pxv [(0, 2), (2, 0), (0, 0)] true [] [] [] [] false) (E := pEv true [] [] [] [] false (xs.map Value.int)) (pm := [(37, 3, [], ops_X11_isIn), (103, 1, [], ops_X11_isPlace), (281, 4, [], ops_X11_shelf), (127, 3, [], ops_X12_in1), (149, 2, [], ops_X12_isKey), (174, 1, [], ops_X12_isSheet), (282, 4, [], ops_X12_shelf), (26, 2, [], ops_X1_isKey)]) (mi1 := 281) (nl1 := 4) (mi2 := 282) (nl2 := 4) (fuel := 108) (by decide +kernel) (pmOK.cons mt_X11_isIn rfl os_X11_isIn (pmOK.cons mt_X11_isPlace rfl os_X11_isPlace (pmOK.cons mt_X11_shelf rfl os_X11_shelf (pmOK.cons mt_X12_in1 rfl os_X12_in1 (pmOK.cons mt_X12_isKey rfl os_X12_isKey (pmOK.cons mt_X12_isSheet rfl os_X12_isSheet (pmOK.cons mt_X12_shelf rfl os_X12_shelf (pmOK.cons mt_X1_isKey rfl os_X1_isKey (pmOK.nil))))))))) mt_X11_shelf rfl mt_X12_shelf rfl d xs I ρ (pxv_ok _) hA hB hK hf hE
def sk_0_md : aMd := [(9, 0, 0), (10, 0, 0), (85, 0, 0), (86, 0, 0)]
theorem sk_0 (d : Nat) (xs : List Int32) (I : gI) (ρ : List Int32) (hA : aSt ρ [(2, 0), (2, 0), (0, 0)] (xs.map Value.int)) (hB : aok [(0, 5, none), (0, 6, none)] ρ) (hK : aheap bT [(68, 4, (0, 1)), (19, 8, (0, 1))] ρ I) (hf : fok I [(0, 2, (0, 0), (0, 1), (2, 0))] ρ) (hE : ∀ x y J, aInv bT J → afr sk_0_md I J → pEv true [(10, 0, 86, 0)] [(9, 0, 0), (85, 0, 0)] [(86, 0, 2)] [] false (xs.map Value.int) x y J → (true = true → y = x) ∧ WF J) : gg (d + 40) mX11_shelf 0 (gent mX11_shelf.2.2.1 (.ref 0 :: xs.map Value.int)) [] I (pbM (fun x J => gg (d + 40) mX12_shelf 0 (gent mX12_shelf.2.2.1 (.ref 67 :: xs.map Value.int)) [] J (prE true x))) := pr2_box (xc := pxv [(2, 0), (2, 0), (0, 0)] true [(10, 0, 86, 0)] [(9, 0, 0), (85, 0, 0)] [(86, 0, 2)] [] false) (E := pEv true [(10, 0, 86, 0)] [(9, 0, 0), (85, 0, 0)] [(86, 0, 2)] [] false (xs.map Value.int)) (pm := [(37, 3, [], ops_X11_isIn), (103, 1, [], ops_X11_isPlace), (281, 4, [], ops_X11_shelf), (127, 3, [], ops_X12_in1), (149, 2, [], ops_X12_isKey), (174, 1, [], ops_X12_isSheet), (282, 4, [], ops_X12_shelf), (26, 2, [], ops_X1_isKey)]) (mi1 := 281) (nl1 := 4) (mi2 := 282) (nl2 := 4) (fuel := 145) (by decide +kernel) (pmOK.cons mt_X11_isIn rfl os_X11_isIn (pmOK.cons mt_X11_isPlace rfl os_X11_isPlace (pmOK.cons mt_X11_shelf rfl os_X11_shelf (pmOK.cons mt_X12_in1 rfl os_X12_in1 (pmOK.cons mt_X12_isKey rfl os_X12_isKey (pmOK.cons mt_X12_isSheet rfl os_X12_isSheet (pmOK.cons mt_X12_shelf rfl os_X12_shelf (pmOK.cons mt_X1_isKey rfl os_X1_isKey (pmOK.nil))))))))) mt_X11_shelf rfl mt_X12_shelf rfl d xs I ρ (pxv_ok _) hA hB hK hf hE
def sn_0_md : aMd := [(9, 0, 0), (10, 0, 0), (11, 0, 0), (85, 0, 0), (86, 0, 0)]
theorem sn_0 (d : Nat) (a b c : Int32) (I : gI) (hi : aInv bT I) (ha : argsOK [(0, 0, 0), (0, 1, 1), (0, 0, 3)] ([a, b, c].map Value.int)) (hp : ∀ s ∈ ([] : List (Nat × Nat × Int × Int)), slotOK I s) (hE : ∀ x y J, aInv bT J → afr sn_0_md I J → pEv true [] [] [] [(9, 0), (85, 0)] false ([a, b, c].map Value.int) x y J → (true = true → y = x) ∧ WF J) : gg (d + 40) mX11_shelf 0 (gent mX11_shelf.2.2.1 (.ref 0 :: [a, b, c].map Value.int)) [] I (pbM (fun x J => gg (d + 40) mX12_shelf 0 (gent mX12_shelf.2.2.1 (.ref 67 :: [a, b, c].map Value.int)) [] J (prE true x))) := pr_box (xc := pxv (aentA [(0, 0, 0), (0, 1, 1), (0, 0, 3)] []).1 true [] [] [] [(9, 0), (85, 0)] false) (E := pEv true [] [] [] [(9, 0), (85, 0)] false) (pm := [(37, 3, [], ops_X11_isIn), (103, 1, [], ops_X11_isPlace), (281, 4, [], ops_X11_shelf), (127, 3, [], ops_X12_in1), (174, 1, [], ops_X12_isSheet), (282, 4, [], ops_X12_shelf)]) (mi1 := 281) (nl1 := 4) (mi2 := 282) (nl2 := 4) (fuel := 189) (by decide +kernel) (fun vs => pxv_ok vs) (pmOK.cons mt_X11_isIn rfl os_X11_isIn (pmOK.cons mt_X11_isPlace rfl os_X11_isPlace (pmOK.cons mt_X11_shelf rfl os_X11_shelf (pmOK.cons mt_X12_in1 rfl os_X12_in1 (pmOK.cons mt_X12_isSheet rfl os_X12_isSheet (pmOK.cons mt_X12_shelf rfl os_X12_shelf (pmOK.nil))))))) mt_X11_shelf rfl mt_X12_shelf rfl d [a, b, c] I ha hi hp hE
def sz_0_md : aMd := [(9, 0, 0), (10, 0, 0), (85, 0, 0), (86, 0, 0)]
theorem sz_0 (d : Nat) (a b c : Int32) (I : gI) (hi : aInv bT I) (ha : argsOK [(0, 0, 0), (0, 2, 2), (0, (-2147483648), 2147483647)] ([a, b, c].map Value.int)) (hp : ∀ s ∈ ([] : List (Nat × Nat × Int × Int)), slotOK I s) (hE : ∀ x y J, aInv bT J → afr sz_0_md I J → pEv true [] [] [] [(9, 0), (85, 0)] false ([a, b, c].map Value.int) x y J → (true = true → y = x) ∧ WF J) : gg (d + 40) mX11_shelf 0 (gent mX11_shelf.2.2.1 (.ref 0 :: [a, b, c].map Value.int)) [] I (pbM (fun x J => gg (d + 40) mX12_shelf 0 (gent mX12_shelf.2.2.1 (.ref 67 :: [a, b, c].map Value.int)) [] J (prE true x))) := pr_box (xc := pxv (aentA [(0, 0, 0), (0, 2, 2), (0, (-2147483648), 2147483647)] []).1 true [] [] [] [(9, 0), (85, 0)] false) (E := pEv true [] [] [] [(9, 0), (85, 0)] false) (pm := [(37, 3, [], ops_X11_isIn), (103, 1, [], ops_X11_isPlace), (281, 4, [], ops_X11_shelf), (127, 3, [], ops_X12_in1), (174, 1, [], ops_X12_isSheet), (282, 4, [], ops_X12_shelf)]) (mi1 := 281) (nl1 := 4) (mi2 := 282) (nl2 := 4) (fuel := 112) (by decide +kernel) (fun vs => pxv_ok vs) (pmOK.cons mt_X11_isIn rfl os_X11_isIn (pmOK.cons mt_X11_isPlace rfl os_X11_isPlace (pmOK.cons mt_X11_shelf rfl os_X11_shelf (pmOK.cons mt_X12_in1 rfl os_X12_in1 (pmOK.cons mt_X12_isSheet rfl os_X12_isSheet (pmOK.cons mt_X12_shelf rfl os_X12_shelf (pmOK.nil))))))) mt_X11_shelf rfl mt_X12_shelf rfl d [a, b, c] I ha hi hp hE
def sk_1_md : aMd := [(9, 1, 1), (10, 1, 1), (85, 1, 1), (86, 1, 1)]
theorem sk_1 (d : Nat) (xs : List Int32) (I : gI) (ρ : List Int32) (hA : aSt ρ [(2, 1), (2, 0), (0, 0)] (xs.map Value.int)) (hB : aok [(0, 5, none), (0, 6, none)] ρ) (hK : aheap bT [(68, 4, (0, 1)), (19, 8, (0, 1))] ρ I) (hf : fok I [(0, 2, (0, 0), (0, 1), (2, 0))] ρ) (hE : ∀ x y J, aInv bT J → afr sk_1_md I J → pEv true [(10, 1, 86, 1)] [(9, 1, 0), (85, 1, 0)] [(86, 1, 2)] [] false (xs.map Value.int) x y J → (true = true → y = x) ∧ WF J) : gg (d + 40) mX11_shelf 0 (gent mX11_shelf.2.2.1 (.ref 0 :: xs.map Value.int)) [] I (pbM (fun x J => gg (d + 40) mX12_shelf 0 (gent mX12_shelf.2.2.1 (.ref 67 :: xs.map Value.int)) [] J (prE true x))) := pr2_box (xc := pxv [(2, 1), (2, 0), (0, 0)] true [(10, 1, 86, 1)] [(9, 1, 0), (85, 1, 0)] [(86, 1, 2)] [] false) (E := pEv true [(10, 1, 86, 1)] [(9, 1, 0), (85, 1, 0)] [(86, 1, 2)] [] false (xs.map Value.int)) (pm := [(37, 3, [], ops_X11_isIn), (103, 1, [], ops_X11_isPlace), (281, 4, [], ops_X11_shelf), (127, 3, [], ops_X12_in1), (149, 2, [], ops_X12_isKey), (174, 1, [], ops_X12_isSheet), (282, 4, [], ops_X12_shelf), (26, 2, [], ops_X1_isKey)]) (mi1 := 281) (nl1 := 4) (mi2 := 282) (nl2 := 4) (fuel := 145) (by decide +kernel) (pmOK.cons mt_X11_isIn rfl os_X11_isIn (pmOK.cons mt_X11_isPlace rfl os_X11_isPlace (pmOK.cons mt_X11_shelf rfl os_X11_shelf (pmOK.cons mt_X12_in1 rfl os_X12_in1 (pmOK.cons mt_X12_isKey rfl os_X12_isKey (pmOK.cons mt_X12_isSheet rfl os_X12_isSheet (pmOK.cons mt_X12_shelf rfl os_X12_shelf (pmOK.cons mt_X1_isKey rfl os_X1_isKey (pmOK.nil))))))))) mt_X11_shelf rfl mt_X12_shelf rfl d xs I ρ (pxv_ok _) hA hB hK hf hE
def sn_1_md : aMd := [(9, 1, 1), (10, 1, 1), (11, 1, 1), (85, 1, 1), (86, 1, 1)]
theorem sn_1 (d : Nat) (a b c : Int32) (I : gI) (hi : aInv bT I) (ha : argsOK [(0, 1, 1), (0, 1, 1), (0, 0, 3)] ([a, b, c].map Value.int)) (hp : ∀ s ∈ ([] : List (Nat × Nat × Int × Int)), slotOK I s) (hE : ∀ x y J, aInv bT J → afr sn_1_md I J → pEv true [] [] [] [(9, 1), (85, 1)] false ([a, b, c].map Value.int) x y J → (true = true → y = x) ∧ WF J) : gg (d + 40) mX11_shelf 0 (gent mX11_shelf.2.2.1 (.ref 0 :: [a, b, c].map Value.int)) [] I (pbM (fun x J => gg (d + 40) mX12_shelf 0 (gent mX12_shelf.2.2.1 (.ref 67 :: [a, b, c].map Value.int)) [] J (prE true x))) := pr_box (xc := pxv (aentA [(0, 1, 1), (0, 1, 1), (0, 0, 3)] []).1 true [] [] [] [(9, 1), (85, 1)] false) (E := pEv true [] [] [] [(9, 1), (85, 1)] false) (pm := [(37, 3, [], ops_X11_isIn), (103, 1, [], ops_X11_isPlace), (281, 4, [], ops_X11_shelf), (127, 3, [], ops_X12_in1), (174, 1, [], ops_X12_isSheet), (282, 4, [], ops_X12_shelf)]) (mi1 := 281) (nl1 := 4) (mi2 := 282) (nl2 := 4) (fuel := 189) (by decide +kernel) (fun vs => pxv_ok vs) (pmOK.cons mt_X11_isIn rfl os_X11_isIn (pmOK.cons mt_X11_isPlace rfl os_X11_isPlace (pmOK.cons mt_X11_shelf rfl os_X11_shelf (pmOK.cons mt_X12_in1 rfl os_X12_in1 (pmOK.cons mt_X12_isSheet rfl os_X12_isSheet (pmOK.cons mt_X12_shelf rfl os_X12_shelf (pmOK.nil))))))) mt_X11_shelf rfl mt_X12_shelf rfl d [a, b, c] I ha hi hp hE
def sz_1_md : aMd := [(9, 1, 1), (10, 1, 1), (85, 1, 1), (86, 1, 1)]
theorem sz_1 (d : Nat) (a b c : Int32) (I : gI) (hi : aInv bT I) (ha : argsOK [(0, 1, 1), (0, 2, 2), (0, (-2147483648), 2147483647)] ([a, b, c].map Value.int)) (hp : ∀ s ∈ ([] : List (Nat × Nat × Int × Int)), slotOK I s) (hE : ∀ x y J, aInv bT J → afr sz_1_md I J → pEv true [] [] [] [(9, 1), (85, 1)] false ([a, b, c].map Value.int) x y J → (true = true → y = x) ∧ WF J) : gg (d + 40) mX11_shelf 0 (gent mX11_shelf.2.2.1 (.ref 0 :: [a, b, c].map Value.int)) [] I (pbM (fun x J => gg (d + 40) mX12_shelf 0 (gent mX12_shelf.2.2.1 (.ref 67 :: [a, b, c].map Value.int)) [] J (prE true x))) := pr_box (xc := pxv (aentA [(0, 1, 1), (0, 2, 2), (0, (-2147483648), 2147483647)] []).1 true [] [] [] [(9, 1), (85, 1)] false) (E := pEv true [] [] [] [(9, 1), (85, 1)] false) (pm := [(37, 3, [], ops_X11_isIn), (103, 1, [], ops_X11_isPlace), (281, 4, [], ops_X11_shelf), (127, 3, [], ops_X12_in1), (174, 1, [], ops_X12_isSheet), (282, 4, [], ops_X12_shelf)]) (mi1 := 281) (nl1 := 4) (mi2 := 282) (nl2 := 4) (fuel := 112) (by decide +kernel) (fun vs => pxv_ok vs) (pmOK.cons mt_X11_isIn rfl os_X11_isIn (pmOK.cons mt_X11_isPlace rfl os_X11_isPlace (pmOK.cons mt_X11_shelf rfl os_X11_shelf (pmOK.cons mt_X12_in1 rfl os_X12_in1 (pmOK.cons mt_X12_isSheet rfl os_X12_isSheet (pmOK.cons mt_X12_shelf rfl os_X12_shelf (pmOK.nil))))))) mt_X11_shelf rfl mt_X12_shelf rfl d [a, b, c] I ha hi hp hE
def sk_2_md : aMd := [(9, 2, 2), (10, 2, 2), (85, 2, 2), (86, 2, 2)]
theorem sk_2 (d : Nat) (xs : List Int32) (I : gI) (ρ : List Int32) (hA : aSt ρ [(2, 2), (2, 0), (0, 0)] (xs.map Value.int)) (hB : aok [(0, 5, none), (0, 6, none)] ρ) (hK : aheap bT [(68, 4, (0, 1)), (19, 8, (0, 1))] ρ I) (hf : fok I [(0, 2, (0, 0), (0, 1), (2, 0))] ρ) (hE : ∀ x y J, aInv bT J → afr sk_2_md I J → pEv true [(10, 2, 86, 2)] [(9, 2, 0), (85, 2, 0)] [(86, 2, 2)] [] false (xs.map Value.int) x y J → (true = true → y = x) ∧ WF J) : gg (d + 40) mX11_shelf 0 (gent mX11_shelf.2.2.1 (.ref 0 :: xs.map Value.int)) [] I (pbM (fun x J => gg (d + 40) mX12_shelf 0 (gent mX12_shelf.2.2.1 (.ref 67 :: xs.map Value.int)) [] J (prE true x))) := pr2_box (xc := pxv [(2, 2), (2, 0), (0, 0)] true [(10, 2, 86, 2)] [(9, 2, 0), (85, 2, 0)] [(86, 2, 2)] [] false) (E := pEv true [(10, 2, 86, 2)] [(9, 2, 0), (85, 2, 0)] [(86, 2, 2)] [] false (xs.map Value.int)) (pm := [(37, 3, [], ops_X11_isIn), (103, 1, [], ops_X11_isPlace), (281, 4, [], ops_X11_shelf), (127, 3, [], ops_X12_in1), (149, 2, [], ops_X12_isKey), (174, 1, [], ops_X12_isSheet), (282, 4, [], ops_X12_shelf), (26, 2, [], ops_X1_isKey)]) (mi1 := 281) (nl1 := 4) (mi2 := 282) (nl2 := 4) (fuel := 145) (by decide +kernel) (pmOK.cons mt_X11_isIn rfl os_X11_isIn (pmOK.cons mt_X11_isPlace rfl os_X11_isPlace (pmOK.cons mt_X11_shelf rfl os_X11_shelf (pmOK.cons mt_X12_in1 rfl os_X12_in1 (pmOK.cons mt_X12_isKey rfl os_X12_isKey (pmOK.cons mt_X12_isSheet rfl os_X12_isSheet (pmOK.cons mt_X12_shelf rfl os_X12_shelf (pmOK.cons mt_X1_isKey rfl os_X1_isKey (pmOK.nil))))))))) mt_X11_shelf rfl mt_X12_shelf rfl d xs I ρ (pxv_ok _) hA hB hK hf hE
def sn_2_md : aMd := [(9, 2, 2), (10, 2, 2), (11, 2, 2), (85, 2, 2), (86, 2, 2)]
theorem sn_2 (d : Nat) (a b c : Int32) (I : gI) (hi : aInv bT I) (ha : argsOK [(0, 2, 2), (0, 1, 1), (0, 0, 3)] ([a, b, c].map Value.int)) (hp : ∀ s ∈ ([] : List (Nat × Nat × Int × Int)), slotOK I s) (hE : ∀ x y J, aInv bT J → afr sn_2_md I J → pEv true [] [] [] [(9, 2), (85, 2)] false ([a, b, c].map Value.int) x y J → (true = true → y = x) ∧ WF J) : gg (d + 40) mX11_shelf 0 (gent mX11_shelf.2.2.1 (.ref 0 :: [a, b, c].map Value.int)) [] I (pbM (fun x J => gg (d + 40) mX12_shelf 0 (gent mX12_shelf.2.2.1 (.ref 67 :: [a, b, c].map Value.int)) [] J (prE true x))) := pr_box (xc := pxv (aentA [(0, 2, 2), (0, 1, 1), (0, 0, 3)] []).1 true [] [] [] [(9, 2), (85, 2)] false) (E := pEv true [] [] [] [(9, 2), (85, 2)] false) (pm := [(37, 3, [], ops_X11_isIn), (103, 1, [], ops_X11_isPlace), (281, 4, [], ops_X11_shelf), (127, 3, [], ops_X12_in1), (174, 1, [], ops_X12_isSheet), (282, 4, [], ops_X12_shelf)]) (mi1 := 281) (nl1 := 4) (mi2 := 282) (nl2 := 4) (fuel := 189) (by decide +kernel) (fun vs => pxv_ok vs) (pmOK.cons mt_X11_isIn rfl os_X11_isIn (pmOK.cons mt_X11_isPlace rfl os_X11_isPlace (pmOK.cons mt_X11_shelf rfl os_X11_shelf (pmOK.cons mt_X12_in1 rfl os_X12_in1 (pmOK.cons mt_X12_isSheet rfl os_X12_isSheet (pmOK.cons mt_X12_shelf rfl os_X12_shelf (pmOK.nil))))))) mt_X11_shelf rfl mt_X12_shelf rfl d [a, b, c] I ha hi hp hE
def sz_2_md : aMd := [(9, 2, 2), (10, 2, 2), (85, 2, 2), (86, 2, 2)]
theorem sz_2 (d : Nat) (a b c : Int32) (I : gI) (hi : aInv bT I) (ha : argsOK [(0, 2, 2), (0, 2, 2), (0, (-2147483648), 2147483647)] ([a, b, c].map Value.int)) (hp : ∀ s ∈ ([] : List (Nat × Nat × Int × Int)), slotOK I s) (hE : ∀ x y J, aInv bT J → afr sz_2_md I J → pEv true [] [] [] [(9, 2), (85, 2)] false ([a, b, c].map Value.int) x y J → (true = true → y = x) ∧ WF J) : gg (d + 40) mX11_shelf 0 (gent mX11_shelf.2.2.1 (.ref 0 :: [a, b, c].map Value.int)) [] I (pbM (fun x J => gg (d + 40) mX12_shelf 0 (gent mX12_shelf.2.2.1 (.ref 67 :: [a, b, c].map Value.int)) [] J (prE true x))) := pr_box (xc := pxv (aentA [(0, 2, 2), (0, 2, 2), (0, (-2147483648), 2147483647)] []).1 true [] [] [] [(9, 2), (85, 2)] false) (E := pEv true [] [] [] [(9, 2), (85, 2)] false) (pm := [(37, 3, [], ops_X11_isIn), (103, 1, [], ops_X11_isPlace), (281, 4, [], ops_X11_shelf), (127, 3, [], ops_X12_in1), (174, 1, [], ops_X12_isSheet), (282, 4, [], ops_X12_shelf)]) (mi1 := 281) (nl1 := 4) (mi2 := 282) (nl2 := 4) (fuel := 112) (by decide +kernel) (fun vs => pxv_ok vs) (pmOK.cons mt_X11_isIn rfl os_X11_isIn (pmOK.cons mt_X11_isPlace rfl os_X11_isPlace (pmOK.cons mt_X11_shelf rfl os_X11_shelf (pmOK.cons mt_X12_in1 rfl os_X12_in1 (pmOK.cons mt_X12_isSheet rfl os_X12_isSheet (pmOK.cons mt_X12_shelf rfl os_X12_shelf (pmOK.nil))))))) mt_X11_shelf rfl mt_X12_shelf rfl d [a, b, c] I ha hi hp hE
def sk_3_md : aMd := [(9, 3, 3), (10, 3, 3), (85, 3, 3), (86, 3, 3)]
theorem sk_3 (d : Nat) (xs : List Int32) (I : gI) (ρ : List Int32) (hA : aSt ρ [(2, 3), (2, 0), (0, 0)] (xs.map Value.int)) (hB : aok [(0, 5, none), (0, 6, none)] ρ) (hK : aheap bT [(68, 4, (0, 1)), (19, 8, (0, 1))] ρ I) (hf : fok I [(0, 2, (0, 0), (0, 1), (2, 0))] ρ) (hE : ∀ x y J, aInv bT J → afr sk_3_md I J → pEv true [(10, 3, 86, 3)] [(9, 3, 0), (85, 3, 0)] [(86, 3, 2)] [] false (xs.map Value.int) x y J → (true = true → y = x) ∧ WF J) : gg (d + 40) mX11_shelf 0 (gent mX11_shelf.2.2.1 (.ref 0 :: xs.map Value.int)) [] I (pbM (fun x J => gg (d + 40) mX12_shelf 0 (gent mX12_shelf.2.2.1 (.ref 67 :: xs.map Value.int)) [] J (prE true x))) := pr2_box (xc := pxv [(2, 3), (2, 0), (0, 0)] true [(10, 3, 86, 3)] [(9, 3, 0), (85, 3, 0)] [(86, 3, 2)] [] false) (E := pEv true [(10, 3, 86, 3)] [(9, 3, 0), (85, 3, 0)] [(86, 3, 2)] [] false (xs.map Value.int)) (pm := [(37, 3, [], ops_X11_isIn), (103, 1, [], ops_X11_isPlace), (281, 4, [], ops_X11_shelf), (127, 3, [], ops_X12_in1), (149, 2, [], ops_X12_isKey), (174, 1, [], ops_X12_isSheet), (282, 4, [], ops_X12_shelf), (26, 2, [], ops_X1_isKey)]) (mi1 := 281) (nl1 := 4) (mi2 := 282) (nl2 := 4) (fuel := 145) (by decide +kernel) (pmOK.cons mt_X11_isIn rfl os_X11_isIn (pmOK.cons mt_X11_isPlace rfl os_X11_isPlace (pmOK.cons mt_X11_shelf rfl os_X11_shelf (pmOK.cons mt_X12_in1 rfl os_X12_in1 (pmOK.cons mt_X12_isKey rfl os_X12_isKey (pmOK.cons mt_X12_isSheet rfl os_X12_isSheet (pmOK.cons mt_X12_shelf rfl os_X12_shelf (pmOK.cons mt_X1_isKey rfl os_X1_isKey (pmOK.nil))))))))) mt_X11_shelf rfl mt_X12_shelf rfl d xs I ρ (pxv_ok _) hA hB hK hf hE
def sn_3_md : aMd := [(9, 3, 3), (10, 3, 3), (11, 3, 3), (85, 3, 3), (86, 3, 3)]
theorem sn_3 (d : Nat) (a b c : Int32) (I : gI) (hi : aInv bT I) (ha : argsOK [(0, 3, 3), (0, 1, 1), (0, 0, 3)] ([a, b, c].map Value.int)) (hp : ∀ s ∈ ([] : List (Nat × Nat × Int × Int)), slotOK I s) (hE : ∀ x y J, aInv bT J → afr sn_3_md I J → pEv true [] [] [] [(9, 3), (85, 3)] false ([a, b, c].map Value.int) x y J → (true = true → y = x) ∧ WF J) : gg (d + 40) mX11_shelf 0 (gent mX11_shelf.2.2.1 (.ref 0 :: [a, b, c].map Value.int)) [] I (pbM (fun x J => gg (d + 40) mX12_shelf 0 (gent mX12_shelf.2.2.1 (.ref 67 :: [a, b, c].map Value.int)) [] J (prE true x))) := pr_box (xc := pxv (aentA [(0, 3, 3), (0, 1, 1), (0, 0, 3)] []).1 true [] [] [] [(9, 3), (85, 3)] false) (E := pEv true [] [] [] [(9, 3), (85, 3)] false) (pm := [(37, 3, [], ops_X11_isIn), (103, 1, [], ops_X11_isPlace), (281, 4, [], ops_X11_shelf), (127, 3, [], ops_X12_in1), (174, 1, [], ops_X12_isSheet), (282, 4, [], ops_X12_shelf)]) (mi1 := 281) (nl1 := 4) (mi2 := 282) (nl2 := 4) (fuel := 189) (by decide +kernel) (fun vs => pxv_ok vs) (pmOK.cons mt_X11_isIn rfl os_X11_isIn (pmOK.cons mt_X11_isPlace rfl os_X11_isPlace (pmOK.cons mt_X11_shelf rfl os_X11_shelf (pmOK.cons mt_X12_in1 rfl os_X12_in1 (pmOK.cons mt_X12_isSheet rfl os_X12_isSheet (pmOK.cons mt_X12_shelf rfl os_X12_shelf (pmOK.nil))))))) mt_X11_shelf rfl mt_X12_shelf rfl d [a, b, c] I ha hi hp hE
def sz_3_md : aMd := [(9, 3, 3), (10, 3, 3), (85, 3, 3), (86, 3, 3)]
theorem sz_3 (d : Nat) (a b c : Int32) (I : gI) (hi : aInv bT I) (ha : argsOK [(0, 3, 3), (0, 2, 2), (0, (-2147483648), 2147483647)] ([a, b, c].map Value.int)) (hp : ∀ s ∈ ([] : List (Nat × Nat × Int × Int)), slotOK I s) (hE : ∀ x y J, aInv bT J → afr sz_3_md I J → pEv true [] [] [] [(9, 3), (85, 3)] false ([a, b, c].map Value.int) x y J → (true = true → y = x) ∧ WF J) : gg (d + 40) mX11_shelf 0 (gent mX11_shelf.2.2.1 (.ref 0 :: [a, b, c].map Value.int)) [] I (pbM (fun x J => gg (d + 40) mX12_shelf 0 (gent mX12_shelf.2.2.1 (.ref 67 :: [a, b, c].map Value.int)) [] J (prE true x))) := pr_box (xc := pxv (aentA [(0, 3, 3), (0, 2, 2), (0, (-2147483648), 2147483647)] []).1 true [] [] [] [(9, 3), (85, 3)] false) (E := pEv true [] [] [] [(9, 3), (85, 3)] false) (pm := [(37, 3, [], ops_X11_isIn), (103, 1, [], ops_X11_isPlace), (281, 4, [], ops_X11_shelf), (127, 3, [], ops_X12_in1), (174, 1, [], ops_X12_isSheet), (282, 4, [], ops_X12_shelf)]) (mi1 := 281) (nl1 := 4) (mi2 := 282) (nl2 := 4) (fuel := 112) (by decide +kernel) (fun vs => pxv_ok vs) (pmOK.cons mt_X11_isIn rfl os_X11_isIn (pmOK.cons mt_X11_isPlace rfl os_X11_isPlace (pmOK.cons mt_X11_shelf rfl os_X11_shelf (pmOK.cons mt_X12_in1 rfl os_X12_in1 (pmOK.cons mt_X12_isSheet rfl os_X12_isSheet (pmOK.cons mt_X12_shelf rfl os_X12_shelf (pmOK.nil))))))) mt_X11_shelf rfl mt_X12_shelf rfl d [a, b, c] I ha hi hp hE
theorem pr_shelf : prOK mX11_shelf mX12_shelf 3 true := by
  intro d xs I hn hi hw
  match xs, hn with
  | [a, b, c], _ =>
    have ra : (-2147483648 : Int) ≤ a.toInt ∧ a.toInt ≤ 2147483647 := a_rng a
    have rb : (-2147483648 : Int) ≤ b.toInt ∧ b.toInt ≤ 2147483647 := a_rng b
    have rc : (-2147483648 : Int) ≤ c.toInt ∧ c.toInt ≤ 2147483647 := a_rng c
    have q4 := ain_of hi (show bnd bT 68 4 = (0, 6) by decide +kernel)
    dsimp only at q4
    have wc : I 19 8 = I 68 4 := hw.2.1 (19, 8, 35, 8, 4) (by decide +kernel)
    by_cases hse1 : a.toInt < 0
    · exact se1 d a b c I hi (ax3 (by omega)) no_pre (fun x y J _ hf h => ex_wf hw hf h)
    by_cases hse2 : 3 < a.toInt
    · exact se2 d a b c I hi (ax3 (by omega)) no_pre (fun x y J _ hf h => ex_wf hw hf h)
    by_cases hse3 : b.toInt < 0
    · exact se3 d a b c I hi (ax3 (by omega)) no_pre (fun x y J _ hf h => ex_wf hw hf h)
    by_cases hse4 : 2 < b.toInt
    · exact se4 d a b c I hi (ax3 (by omega)) no_pre (fun x y J _ hf h => ex_wf hw hf h)
    have hs : a.toInt = 0 ∨ a.toInt = 1 ∨ a.toInt = 2 ∨ a.toInt = 3 := by omega
    by_cases hb0 : b.toInt = 0
    · by_cases h5 : c.toInt < 0
      · exact se5 d a b c I hi (ax3 (by omega)) no_pre (fun x y J _ hf h => ex_wf hw hf h)
      by_cases h8 : (I 68 4).toInt ≤ c.toInt
      · refine se8 d [a, b, c] I ([] ++ [c] ++ [I 68 4] ++ [a]) ⟨aint (Or.inl ⟨rfl, rfl⟩), aint (Or.inr ⟨rfl, hb0⟩), aint (Or.inl ⟨rfl, rfl⟩), trivial⟩ (((aok.nil.push (lo := 0) (hi := 2147483647) (v := c) (ex := none) (by omega) (by omega) (fun _ _ h => by cases h)).push (lo := 0) (hi := 6) (v := I 68 4) (ex := none) (by omega) (by omega) (fun _ _ h => by cases h)).push (lo := 0) (hi := 3) (v := a) (ex := none) (by omega) (by omega) (fun _ _ h => by cases h)) (ah_pair (l := 1) hi rfl rfl wc) (fun f hf => ?_) (fun x y J _ hf h => ex_wf hw hf h.1)
        rw [List.mem_singleton.mp hf]
        exact ⟨c, I 68 4, Or.inl ⟨rfl, rfl⟩, Or.inl ⟨rfl, rfl⟩, h8⟩
      have hA : ∀ (z : Int), a.toInt = z → aSt ([] ++ [c] ++ [I 68 4]) [(2, z), (2, 0), (0, 0)] ([a, b, c].map Value.int) := fun z hz => ⟨aint (Or.inr ⟨rfl, hz⟩), aint (Or.inr ⟨rfl, hb0⟩), aint (Or.inl ⟨rfl, rfl⟩), trivial⟩
      have hB : aok [(0, 5, none), (0, 6, none)] ([] ++ [c] ++ [I 68 4]) := ((aok.nil.push (lo := 0) (hi := 5) (v := c) (ex := none) (by omega) (by omega) (fun _ _ h => by cases h)).push (lo := 0) (hi := 6) (v := I 68 4) (ex := none) (by omega) (by omega) (fun _ _ h => by cases h))
      have hF : fok I [(0, 2, (0, 0), (0, 1), (2, 0))] ([] ++ [c] ++ [I 68 4]) := fun f hf => by
        rw [List.mem_singleton.mp hf]
        exact ⟨c, I 68 4, Or.inl ⟨rfl, rfl⟩, Or.inl ⟨rfl, rfl⟩, (by show c.toInt < (I 68 4).toInt; omega)⟩
      have fin : ∀ (s : Nat) (x y : Int32) (J : gI), pEv true [(10, s, 86, s)] [(9, s, 0), (85, s, 0)] [(86, s, 2)] [] false ([a, b, c].map Value.int) x y J → (true = true → y = x) ∧ rA J s := fun s x y J h => by
        have k : c = J 86 s := by simpa using h.2.1 (86, s, 2) List.mem_cons_self
        refine ⟨h.1.1, Or.inl ⟨i32 (h.1.2.2 (9, s, 0) List.mem_cons_self), i32 (h.1.2.2 (85, s, 0) (by simp)), h.1.2.1 (10, s, 86, s) List.mem_cons_self, ?_, ?_⟩⟩ <;> rw [← k] <;> omega
      rcases hs with hs | hs | hs | hs
      · exact sk_0 d [a, b, c] I _ (hA 0 hs) hB (ah_pair (l := 1) hi rfl rfl wc) hF (fun x y J _ hf h => ⟨(fin 0 x y J h).1, sh_wf (s := 0) (by decide) (by decide +kernel) hw hf (fin 0 x y J h).2⟩)
      · exact sk_1 d [a, b, c] I _ (hA 1 hs) hB (ah_pair (l := 1) hi rfl rfl wc) hF (fun x y J _ hf h => ⟨(fin 1 x y J h).1, sh_wf (s := 1) (by decide) (by decide +kernel) hw hf (fin 1 x y J h).2⟩)
      · exact sk_2 d [a, b, c] I _ (hA 2 hs) hB (ah_pair (l := 1) hi rfl rfl wc) hF (fun x y J _ hf h => ⟨(fin 2 x y J h).1, sh_wf (s := 2) (by decide) (by decide +kernel) hw hf (fin 2 x y J h).2⟩)
      · exact sk_3 d [a, b, c] I _ (hA 3 hs) hB (ah_pair (l := 1) hi rfl rfl wc) hF (fun x y J _ hf h => ⟨(fin 3 x y J h).1, sh_wf (s := 3) (by decide) (by decide +kernel) hw hf (fin 3 x y J h).2⟩)
    by_cases hb1 : b.toInt = 1
    · by_cases h6 : c.toInt < 0
      · exact se6 d a b c I hi (ax3 (by omega)) no_pre (fun x y J _ hf h => ex_wf hw hf h)
      by_cases h7 : 3 < c.toInt
      · exact se7 d a b c I hi (ax3 (by omega)) no_pre (fun x y J _ hf h => ex_wf hw hf h)
      rcases hs with hs | hs | hs | hs
      · exact sn_0 d a b c I hi (ax3 (by omega)) no_pre (fun x y J _ hf h => ⟨h.1.1, sh_wf (s := 0) (by decide) (by decide +kernel) hw hf (Or.inr ⟨h.2.2.1 (9, 0) List.mem_cons_self, h.2.2.1 (85, 0) (by simp)⟩)⟩)
      · exact sn_1 d a b c I hi (ax3 (by omega)) no_pre (fun x y J _ hf h => ⟨h.1.1, sh_wf (s := 1) (by decide) (by decide +kernel) hw hf (Or.inr ⟨h.2.2.1 (9, 1) List.mem_cons_self, h.2.2.1 (85, 1) (by simp)⟩)⟩)
      · exact sn_2 d a b c I hi (ax3 (by omega)) no_pre (fun x y J _ hf h => ⟨h.1.1, sh_wf (s := 2) (by decide) (by decide +kernel) hw hf (Or.inr ⟨h.2.2.1 (9, 2) List.mem_cons_self, h.2.2.1 (85, 2) (by simp)⟩)⟩)
      · exact sn_3 d a b c I hi (ax3 (by omega)) no_pre (fun x y J _ hf h => ⟨h.1.1, sh_wf (s := 3) (by decide) (by decide +kernel) hw hf (Or.inr ⟨h.2.2.1 (9, 3) List.mem_cons_self, h.2.2.1 (85, 3) (by simp)⟩)⟩)
    rcases hs with hs | hs | hs | hs
    · exact sz_0 d a b c I hi (ax3 (by omega)) no_pre (fun x y J _ hf h => ⟨h.1.1, sh_wf (s := 0) (by decide) (by decide +kernel) hw hf (Or.inr ⟨h.2.2.1 (9, 0) List.mem_cons_self, h.2.2.1 (85, 0) (by simp)⟩)⟩)
    · exact sz_1 d a b c I hi (ax3 (by omega)) no_pre (fun x y J _ hf h => ⟨h.1.1, sh_wf (s := 1) (by decide) (by decide +kernel) hw hf (Or.inr ⟨h.2.2.1 (9, 1) List.mem_cons_self, h.2.2.1 (85, 1) (by simp)⟩)⟩)
    · exact sz_2 d a b c I hi (ax3 (by omega)) no_pre (fun x y J _ hf h => ⟨h.1.1, sh_wf (s := 2) (by decide) (by decide +kernel) hw hf (Or.inr ⟨h.2.2.1 (9, 2) List.mem_cons_self, h.2.2.1 (85, 2) (by simp)⟩)⟩)
    · exact sz_3 d a b c I hi (ax3 (by omega)) no_pre (fun x y J _ hf h => ⟨h.1.1, sh_wf (s := 3) (by decide) (by decide +kernel) hw hf (Or.inr ⟨h.2.2.1 (9, 3) List.mem_cons_self, h.2.2.1 (85, 3) (by simp)⟩)⟩)
