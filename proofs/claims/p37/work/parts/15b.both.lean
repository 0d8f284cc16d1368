/-! ===== the methods that write what class and reference hold alike, and those that are compared ===== -/
def prE (cmp : Bool) (x : Int32) : Option Value → gH → Prop := pbM (fun y J => (cmp = true → y = x) ∧ aInv bT J ∧ WF J)
/-- both calls, one behind the other -/
def prOK (M1 M2 : gM) (n : Nat) (cmp : Bool) : Prop := ∀ (d : Nat) (xs : List Int32) (I : gI), xs.length = n → aInv bT I → WF I → gg (d + 40) M1 0 (gent M1.2.2.1 (.ref 0 :: xs.map Value.int)) [] I (pbM (fun x J => gg (d + 40) M2 0 (gent M2.2.2.1 (.ref 67 :: xs.map Value.int)) [] J (prE cmp x)))
def nr (md : aMd) : Bool := md.all (fun r => (decide (r.1 ≠ 68) && decide (r.1 ≠ 69)) || (decide (r.2.2 < 89) && (decide (r.2.2 < 5) || decide (5 < r.2.1))))
theorem nr_ok {md : aMd} {c j : Nat} (h : nr md = true) (hc : c = 68 ∨ c = 69) (hj : j = 5 ∨ (89 ≤ j ∧ j ≤ 312)) : amodr md c j j = false := by
  cases hm : amodr md c j j with
  | false => rfl
  | true =>
    obtain ⟨p, h1, h2⟩ := List.any_eq_true.mp hm
    have h3 := List.all_eq_true.mp h p h1
    simp only [Bool.and_eq_true, Bool.or_eq_true, decide_eq_true_eq] at h2 h3
    omega
theorem wf0_md {I J : gI} {md : aMd} (h : nr md = true) (hf : afr md I J) (hw : WF0 I) : WF0 J := WF0_tr hw (fun c j hc hj => hf c j (nr_ok h hc hj))
/-- a pair is equal at the end, or neither was written -/
def pOKe (md : aMd) (eqs : aE4) (e : Nat × Nat × Nat × Nat) : Bool := eqs.any (fun q => decide (q = e)) || (!(amodr md e.1 e.2.1 e.2.1) && !(amodr md e.2.2.1 e.2.2.2 e.2.2.2))
theorem pOKe_ok {md : aMd} {eqs : aE4} {e : Nat × Nat × Nat × Nat} {I J : gI} (h : pOKe md eqs e = true) (hf : afr md I J) (he : rlB eqs J) (hI : I e.1 e.2.1 = I e.2.2.1 e.2.2.2) : J e.1 e.2.1 = J e.2.2.1 e.2.2.2 := by
  simp only [pOKe, Bool.or_eq_true, Bool.and_eq_true, Bool.not_eq_true'] at h
  rcases h with h | ⟨h1, h2⟩
  · obtain ⟨q, h1, h2⟩ := List.any_eq_true.mp h
    have h2 : q = e := of_decide_eq_true h2
    subst h2
    exact he q h1
  · rw [hf _ _ h1, hf _ _ h2]
    exact hI
def wfchk (md : aMd) (eqs : aE4) : Bool := nr md && rlM.all (fun q => pOKe md eqs (q.1, q.2.1, 68, q.2.2.2.2) && pOKe md eqs (q.2.2.1, q.2.2.2.1, 69, q.2.2.2.2)) && !(amodr md 0 2 2) && !(amodr md 67 3 3) && rlO.all (pOKe md eqs) && dsj md rxS && hlE.all (pOKe md eqs) && hkE.all (pOKe md eqs)
theorem wf_after {md : aMd} {eqs : aE4} {I J : gI} (h : wfchk md eqs = true) (hf : afr md I J) (he : rlB eqs J) (hw : WF I) : WF J := by
  simp only [wfchk, Bool.and_eq_true, Bool.not_eq_true'] at h
  obtain ⟨⟨⟨⟨⟨⟨⟨g1, g2⟩, g3⟩, g4⟩, g5⟩, g6⟩, g7⟩, g8⟩ := h
  obtain ⟨w0, w1, w2, w3, w4, w5, w6, w7⟩ := hw
  have g2 : ∀ q ∈ rlM, pOKe md eqs (q.1, q.2.1, 68, q.2.2.2.2) = true ∧ pOKe md eqs (q.2.2.1, q.2.2.2.1, 69, q.2.2.2.2) = true := fun q hq => by
    have := List.all_eq_true.mp g2 q hq
    simpa only [Bool.and_eq_true] using this
  refine ⟨wf0_md g1 hf w0, fun q hq => pOKe_ok (g2 q hq).1 hf he (w1 q hq), ?_, fun hk q hq => ?_, fun e h => pOKe_ok (List.all_eq_true.mp g5 e h) hf he (w4 e h), rX_eq w5 (fun c j hx => hf c j (dsj_ok g6 hx)), fun e h => pOKe_ok (List.all_eq_true.mp g7 e h) hf he (w6 e h), fun hk e h => pOKe_ok (List.all_eq_true.mp g8 e h) hf he (w7 (by rw [← hf _ _ g4]; exact hk) e h)⟩
  · rw [hf _ _ g3, hf _ _ g4]
    exact w2
  · rw [hf _ _ g4] at hk
    exact pOKe_ok (g2 q hq).2 hf he (w3 hk q hq)
def preR (l : List (Nat × Nat × Int × Int)) : Bool := l.all (fun s => (decide (s.2.2.1 < aEQ) && asub (bnd bT s.1 s.2.1) s.2.2) || rlM.any (fun q => decide (s = (q.1, q.2.1, aEQ + ((68 : Nat) : Int), ((q.2.2.2.2 : Nat) : Int)))) || rlO.any (fun e => decide (s = (e.1, e.2.1, aEQ + ((e.2.2.1 : Nat) : Int), ((e.2.2.2 : Nat) : Int)))) || hlE.any (fun e => decide (s = (e.1, e.2.1, aEQ + ((e.2.2.1 : Nat) : Int), ((e.2.2.2 : Nat) : Int)))))
theorem preR_ok {I : gI} {l : List (Nat × Nat × Int × Int)} (h : preR l = true) (hi : aInv bT I) (hw : WF I) : ∀ s ∈ l, slotOK I s := fun s hs => by
  have h1 := List.all_eq_true.mp h s hs
  simp only [Bool.or_eq_true, Bool.and_eq_true, decide_eq_true_eq] at h1
  rcases h1 with ((h1 | h1) | h1) | h1
  · exact slotOK_m h1.1 (asub_ok h1.2 (hi s.1 s.2.1))
  · obtain ⟨q, hq, h2⟩ := List.any_eq_true.mp h1
    rw [of_decide_eq_true h2]
    exact slotOK_q (hw.2.1 q hq)
  · obtain ⟨e, he, h2⟩ := List.any_eq_true.mp h1
    rw [of_decide_eq_true h2]
    exact slotOK_q (hw.2.2.2.2.1 e he)
  · obtain ⟨e, he, h2⟩ := List.any_eq_true.mp h1
    rw [of_decide_eq_true h2]
    exact slotOK_q (hw.2.2.2.2.2.2.1 e he)
/-- both calls within bounds of the arguments -/
theorem pr_box {md : aMd} {pm : aPm} {mi1 nl1 mi2 nl2 fuel : Nat} {xc : aXc} {E : List Value → Int32 → Int32 → gI → Prop} {args : List (Nat × Int × Int)} {pre : List (Nat × Nat × Int × Int)} {M1 M2 : gM} (h : pchk bT md 297 [] pm none mi1 40 nl1 0 mi2 40 nl2 67 xc fuel args pre = true) (hxc : ∀ vs, xcOK bT (aentA args []).1 vs xc (E vs)) (hpm : pmOK MT pm) (hM1 : MT[mi1]? = some M1) (hn1 : M1.2.2.1 = nl1) (hM2 : MT[mi2]? = some M2) (hn2 : M2.2.2.1 = nl2) (d : Nat) (xs : List Int32) (I : gI) (ha : argsOK args (xs.map Value.int)) (hi : aInv bT I) (hp : ∀ s ∈ pre, slotOK I s) {cmp : Bool} (hE : ∀ x y J, aInv bT J → afr md I J → E (xs.map Value.int) x y J → (cmp = true → y = x) ∧ WF J) :
    gg (d + 40) M1 0 (gent M1.2.2.1 (.ref 0 :: xs.map Value.int)) [] I (pbM (fun x J => gg (d + 40) M2 0 (gent M2.2.2.1 (.ref 67 :: xs.map Value.int)) [] J (prE cmp x))) := by
  have go := pchk_ok (Ext := fun _ => True) h hM1 hn1 hM2 hn2 hpm MT_len (fun m hm => absurd hm List.not_mem_nil) (fun _ _ _ _ => trivial) hxc d (xs.map Value.int) I ha hi trivial hp _ rfl
  refine G_mono go ?_
  rintro r hh ⟨x, J, e1, e2, g⟩
  refine ⟨x, J, e1, e2, G_mono g ?_⟩
  rintro r2 hh2 ⟨y, J2, e3, e4, i1, i2, i3⟩
  have := hE x y J2 i1 i2 i3
  exact ⟨y, J2, e3, e4, this.1, i1, this.2⟩
theorem pr_of {md : aMd} {pm : aPm} {mi1 nl1 mi2 nl2 n fuel : Nat} {cmp : Bool} {eqs : aE4} {pre : List (Nat × Nat × Int × Int)} {M1 M2 : gM} (h : pchk bT md 297 [] pm none mi1 40 nl1 0 mi2 40 nl2 67 (fun B K _ v w => pxt cmp eqs [] B K v w) fuel (List.replicate n (0, (-2147483648 : Int), 2147483647)) pre = true) (hpm : pmOK MT pm) (hM1 : MT[mi1]? = some M1) (hn1 : M1.2.2.1 = nl1) (hM2 : MT[mi2]? = some M2) (hn2 : M2.2.2.1 = nl2) (hp : preR pre = true) (hc : wfchk md eqs = true) : prOK M1 M2 n cmp := by
  intro d xs I hn hi hw
  subst hn
  exact pr_box (E := fun _ => pEx cmp eqs []) h (fun vs => pxt_ok) hpm hM1 hn1 hM2 hn2 d xs I (args_all xs) hi (preR_ok hp hi hw) (fun x y J i1 i2 i3 => ⟨i3.1, wf_after hc i2 i3.2.1 hw⟩)
/-- with summaries of what it calls -/
theorem pr_ofS {md : aMd} {sm : List aM} {pm : aPm} {mi1 nl1 mi2 nl2 n fuel : Nat} {cmp : Bool} {eqs : aE4} {pre : List (Nat × Nat × Int × Int)} {M1 M2 : gM} (h : pchk bT md 297 sm pm none mi1 40 nl1 0 mi2 40 nl2 67 (fun B K _ v w => pxt cmp eqs [] B K v w) fuel (List.replicate n (0, (-2147483648 : Int), 2147483647)) pre = true) (hsm : mA WP sm) (hpm : pmOK MT pm) (hM1 : MT[mi1]? = some M1) (hn1 : M1.2.2.1 = nl1) (hM2 : MT[mi2]? = some M2) (hn2 : M2.2.2.1 = nl2) (hp : preR pre = true) (hc : wfchk md eqs = true) (hmd : pOK md = true) : prOK M1 M2 n cmp := by
  intro d xs I hn hi hw
  subst hn
  have go := pchk_ok (Ext := WP) (E := fun _ => pEx cmp eqs []) h hM1 hn1 hM2 hn2 hpm MT_len hsm (pE WF_st hmd) (fun vs => pxt_ok) d (xs.map Value.int) I (args_all xs) hi (WF_P hw) (preR_ok hp hi hw) _ rfl
  refine G_mono go ?_
  rintro r hh ⟨x, J, e1, e2, g⟩
  refine ⟨x, J, e1, e2, G_mono g ?_⟩
  rintro r2 hh2 ⟨y, J2, e3, e4, i1, i2, i3⟩
  exact ⟨y, J2, e3, e4, i3.1, i1, wf_after hc i2 i3.2.1 hw⟩
/-- one call -/
theorem p1_box {md : aMd} {pm : aPm} {mi1 nl1 c1 fuel : Nat} {xc : aXc} {E : List Value → Int32 → Int32 → gI → Prop} {args : List (Nat × Int × Int)} {pre : List (Nat × Nat × Int × Int)} {M1 : gM} (h : pchk bT md 297 [] pm (some (2, 0)) mi1 40 nl1 c1 mi1 40 nl1 c1 xc fuel args pre = true) (hxc : ∀ vs, xcOK bT (aentA args []).1 vs xc (E vs)) (hpm : pmOK MT pm) (hM1 : MT[mi1]? = some M1) (hn1 : M1.2.2.1 = nl1) (d : Nat) (vs : List Value) (I : gI) (ha : argsOK args vs) (hi : aInv bT I) (hp : ∀ s ∈ pre, slotOK I s) : gg (d + 40) M1 0 (gent M1.2.2.1 (.ref c1 :: vs)) [] I (pQ2 bT md I (E vs) 0) :=
  pchk_ok (Ext := fun _ => True) h hM1 hn1 hM1 hn1 hpm MT_len (fun m hm => absurd hm List.not_mem_nil) (fun _ _ _ _ => trivial) hxc d vs I ha hi trivial hp _ ⟨0, aiv.of rfl, rfl⟩

def kp_md : aMd := [(0, 2, 2), (35, 1, 4), (35, 8, 9), (35, 16, 16), (36, 0, 15), (37, 0, 5), (38, 0, 5), (39, 0, 5), (40, 0, 5), (41, 0, 5), (42, 0, 5), (43, 0, 1), (44, 0, 7), (45, 0, 7), (46, 0, 7), (47, 0, 199), (48, 0, 23)]
def kp_pre : List (Nat × Nat × Int × Int) := [(19, 8, 0, 6), (19, 2, (-2147483648), 2147483647), (19, 1, (-2147483648), 2147483647), (19, 4, (-2147483648), 2147483647)]
def kp_eqs : aE4 := [(35, 8, 19, 8), (35, 2, 19, 2), (35, 1, 19, 1), (35, 4, 19, 4)]
theorem kp_ok (d : Nat) (I : gI) (hi : aInv bT I) (hp : ∀ s ∈ kp_pre, slotOK I s) : gg (d + 40) mX11_keep 0 (gent mX11_keep.2.2.1 [.ref 0]) [] I (pQ2 bT kp_md I (pEx false kp_eqs [(0, 2, 1)]) 0) := p1_box (xc := fun B K _ v w => pxt false kp_eqs [(0, 2, 1)] B K v w) (E := fun _ => pEx false kp_eqs [(0, 2, 1)]) (args := []) (mi1 := 292) (nl1 := 1) (fuel := 153) (pm := [(292, 1, [], ops_X11_keep), (111, 2, [], ops_X1_copyFrom), (0, 2, [], ops_X6_copyFrom)]) (by decide +kernel) (fun vs => pxt_ok) (pmOK.cons mt_X11_keep rfl os_X11_keep (pmOK.cons mt_X1_copyFrom rfl os_X1_copyFrom (pmOK.cons mt_X6_copyFrom rfl os_X6_copyFrom (pmOK.nil)))) mt_X11_keep rfl d [] I trivial hi hp
def a0_md : aMd := []
def a0_pre : List (Nat × Nat × Int × Int) := [(0, 2, 0, 0)]
def a0_eqs : aE4 := []
theorem a0_ok (d : Nat) (I : gI) (hi : aInv bT I) (hp : ∀ s ∈ a0_pre, slotOK I s) : gg (d + 40) mX11_again 0 (gent mX11_again.2.2.1 [.ref 0]) [] I (pQ2 bT a0_md I (pEx false a0_eqs []) 0) := p1_box (xc := fun B K _ v w => pxt false a0_eqs [] B K v w) (E := fun _ => pEx false a0_eqs []) (args := []) (mi1 := 294) (nl1 := 1) (fuel := 8) (pm := [(294, 1, [], ops_X11_again)]) (by decide +kernel) (fun vs => pxt_ok) (pmOK.cons mt_X11_again rfl os_X11_again (pmOK.nil)) mt_X11_again rfl d [] I trivial hi hp
def a1_md : aMd := [(19, 1, 4), (19, 8, 9), (19, 16, 16), (20, 0, 15), (21, 0, 5), (22, 0, 5), (23, 0, 5), (24, 0, 5), (25, 0, 5), (26, 0, 5), (27, 0, 1), (28, 0, 7), (29, 0, 7), (30, 0, 7), (31, 0, 199), (32, 0, 23)]
def a1_pre : List (Nat × Nat × Int × Int) := [(0, 2, 1, 1), (35, 8, 0, 6), (35, 2, (-2147483648), 2147483647), (35, 1, (-2147483648), 2147483647), (35, 4, (-2147483648), 2147483647)]
def a1_eqs : aE4 := [(19, 8, 35, 8), (19, 2, 35, 2), (19, 1, 35, 1), (19, 4, 35, 4)]
theorem a1_ok (d : Nat) (I : gI) (hi : aInv bT I) (hp : ∀ s ∈ a1_pre, slotOK I s) : gg (d + 40) mX11_again 0 (gent mX11_again.2.2.1 [.ref 0]) [] I (pQ2 bT a1_md I (pEx false a1_eqs []) 0) := p1_box (xc := fun B K _ v w => pxt false a1_eqs [] B K v w) (E := fun _ => pEx false a1_eqs []) (args := []) (mi1 := 294) (nl1 := 1) (fuel := 155) (pm := [(294, 1, [], ops_X11_again), (111, 2, [], ops_X1_copyFrom), (0, 2, [], ops_X6_copyFrom)]) (by decide +kernel) (fun vs => pxt_ok) (pmOK.cons mt_X11_again rfl os_X11_again (pmOK.cons mt_X1_copyFrom rfl os_X1_copyFrom (pmOK.cons mt_X6_copyFrom rfl os_X6_copyFrom (pmOK.nil)))) mt_X11_again rfl d [] I trivial hi hp
theorem kp_e : kp_eqs = rlM.map (fun q => (q.2.2.1, q.2.2.2.1, q.1, q.2.1)) ++ [(35, 1, 19, 1), (35, 4, 19, 4)] := by decide +kernel
theorem a1_e : a1_eqs = rlM.map (fun q => (q.1, q.2.1, q.2.2.1, q.2.2.2.1)) ++ [(19, 1, 35, 1), (19, 4, 35, 4)] := by decide +kernel
theorem kp_m : (nr kp_md && rlM.all (fun q => !(amodr kp_md q.1 q.2.1 q.2.1) && !(amodr kp_md 68 q.2.2.2.2 q.2.2.2.2)) && rlO.all (pOKe kp_md []) && dsj kp_md rxS) = true := by decide +kernel
theorem a1_m : (nr a1_md && rlM.all (fun q => !(amodr a1_md q.2.2.1 q.2.2.2.1 q.2.2.2.1) && !(amodr a1_md 69 q.2.2.2.2 q.2.2.2.2)) && !(amodr a1_md 0 2 2) && !(amodr a1_md 67 3 3) && rlO.all (pOKe a1_md []) && dsj a1_md rxS) = true := by decide +kernel
theorem rlB_nil {I : gI} : rlB [] I := fun e h => absurd h List.not_mem_nil
theorem pr_keep : prOK mX11_keep mX12_keep 0 false := by
  intro d xs I hn hi hw
  have hn : xs = [] := List.eq_nil_of_length_eq_zero hn
  subst hn
  refine G_mono (kp_ok d I hi (preB_ok (by decide +kernel) hi)) ?_
  rintro r hh ⟨x, J, e1, e2, i1, i2, -, i4, i5⟩
  have hm := kp_m
  simp only [Bool.and_eq_true] at hm
  obtain ⟨⟨⟨m1, m2⟩, m3⟩, m6⟩ := hm
  refine ⟨x, J, e1, e2, G_mono (pb_keepM d J i1 (wf0_md m1 i2 hw.1) (fun q hq => ?_) (fun q hq => ?_) ?_ (fun e he => pOKe_ok (List.all_eq_true.mp m3 e he) i2 rlB_nil (hw.2.2.2.2.1 e he)) (rX_eq hw.2.2.2.2.2.1 (fun c j hx => i2 c j (dsj_ok m6 hx)))) ?_⟩
  · have h := List.all_eq_true.mp m2 q hq
    simp only [Bool.and_eq_true, Bool.not_eq_true'] at h
    rw [i2 _ _ h.1, i2 _ _ h.2]
    exact hw.2.1 q hq
  · rw [kp_e] at i4
    exact i4 _ (List.mem_append_left _ (List.mem_map.mpr ⟨q, hq, rfl⟩))
  · exact Int32.toInt_inj.mp (i5 (0, 2, 1) List.mem_cons_self)
  · rintro r2 hh2 ⟨y, J2, e3, e4, g1, g2, rfl⟩
    obtain ⟨w1, w2⟩ := WF_h hw
    have z1 : J 19 1 = J 68 0 := by
      rw [i2 19 1 (by decide +kernel), i2 68 0 (by decide +kernel)]
      exact w1
    have z2 : J 19 4 = J 68 3 := by
      rw [i2 19 4 (by decide +kernel), i2 68 3 (by decide +kernel)]
      exact w2
    have z3 : J 35 1 = J 19 1 := i4 (35, 1, 19, 1) (by decide +kernel)
    have z4 : J 35 4 = J 19 4 := i4 (35, 4, 19, 4) (by decide +kernel)
    refine ⟨y, _, e3, e4, (fun h => by cases h), g1, WF_of g2 (hlt_mk ?_ ?_ (fun _ e he => ?_))⟩
    · rw [gup_ne (Or.inl (by decide)), gup_ne (Or.inl (by decide)), cp_ne (by decide), cp_ne (by decide)]
      exact z1
    · rw [gup_ne (Or.inl (by decide)), gup_ne (Or.inl (by decide)), cp_ne (by decide), cp_ne (by decide)]
      exact z2
    · simp only [hkE, List.mem_cons, List.not_mem_nil, or_false] at he
      rcases he with rfl | rfl
      · show gup (gcp J 68 69 0 0 313) 67 3 1 35 1 = gup (gcp J 68 69 0 0 313) 67 3 1 69 0
        rw [gup_ne (Or.inl (by decide)), gup_ne (Or.inl (by decide)), cp_ne (by decide), cp_at (by decide)]
        exact z3.trans z1
      · show gup (gcp J 68 69 0 0 313) 67 3 1 35 4 = gup (gcp J 68 69 0 0 313) 67 3 1 69 3
        rw [gup_ne (Or.inl (by decide)), gup_ne (Or.inl (by decide)), cp_ne (by decide), cp_at (by decide)]
        exact z4.trans z2
theorem sl0 {I : gI} {c j : Nat} {v : Int} {x : Int32} (h : I c j = x) (hv : v < aEQ) (hx : x.toInt = v) : slotOK I (c, j, v, v) := slotOK_m hv (by
  show ain (v, v) (I c j)
  rw [h]
  exact ⟨Int.le_of_eq hx.symm, Int.le_of_eq hx⟩)
theorem pr_again : prOK mX11_again mX12_again 0 false := by
  intro d xs I hn hi hw
  have hn : xs = [] := List.eq_nil_of_length_eq_zero hn
  subst hn
  have rk := ain_of hi (show bnd bT 0 2 = (0, 1) by decide +kernel)
  dsimp only at rk
  rcases a_01 rk.1 rk.2 with k0 | k0
  · refine G_mono (a0_ok d I hi (fun s hs => ?_)) ?_
    · rw [List.mem_singleton.mp hs]
      exact sl0 k0 (by decide) rfl
    rintro r hh ⟨x, J, e1, e2, i1, i2, -, i4, i5⟩
    have eJ : J = I := afr_nil i2
    subst eJ
    refine ⟨x, J, e1, e2, G_mono (pb_againM d J i1 hw.1 (Or.inl ⟨by rw [← hw.2.2.1]; exact k0, WF_P hw⟩)) ?_⟩
    rintro r2 hh2 ⟨y, J2, e3, e4, g1, g2, ⟨q1, -⟩ | ⟨-, rfl⟩⟩
    · exact absurd (by rw [← hw.2.2.1]; exact k0) q1
    · exact ⟨y, _, e3, e4, (fun h => by cases h), g1, hw⟩
  · refine G_mono (a1_ok d I hi (fun s hs => ?_)) ?_
    · rcases List.mem_cons.mp hs with rfl | hs
      · exact sl0 k0 (by decide) rfl
      · exact preB_ok (l := a1_pre.tail) (by decide +kernel) hi s hs
    rintro r hh ⟨x, J, e1, e2, i1, i2, -, i4, i5⟩
    have hm := a1_m
    simp only [Bool.and_eq_true, Bool.not_eq_true'] at hm
    obtain ⟨⟨⟨⟨⟨m1, m2⟩, m3⟩, m4⟩, m5⟩, m6⟩ := hm
    have hk : ¬ I 67 3 = 0 := by
      rw [← hw.2.2.1, k0]
      decide
    refine ⟨x, J, e1, e2, G_mono (pb_againM d J i1 (wf0_md m1 i2 hw.1) (Or.inr ⟨by rw [i2 _ _ m4]; exact hk, fun q hq => ?_, fun q hq => ?_, by rw [i2 _ _ m3, i2 _ _ m4]; exact hw.2.2.1, fun e he => pOKe_ok (List.all_eq_true.mp m5 e he) i2 rlB_nil (hw.2.2.2.2.1 e he), rX_eq hw.2.2.2.2.2.1 (fun c j hx => i2 c j (dsj_ok m6 hx))⟩)) ?_⟩
    · have h := List.all_eq_true.mp m2 q hq
      simp only [Bool.and_eq_true, Bool.not_eq_true'] at h
      rw [i2 _ _ h.1, i2 _ _ h.2]
      exact hw.2.2.2.1 hk q hq
    · rw [a1_e] at i4
      exact i4 _ (List.mem_append_left _ (List.mem_map.mpr ⟨q, hq, rfl⟩))
    · rintro r2 hh2 ⟨y, J2, e3, e4, g1, g2, ⟨-, rfl⟩ | ⟨q1, -⟩⟩
      · have z3 : J 19 1 = J 35 1 := i4 (19, 1, 35, 1) (by decide +kernel)
        have z4 : J 19 4 = J 35 4 := i4 (19, 4, 35, 4) (by decide +kernel)
        have hk2 := hw.2.2.2.2.2.2.2 hk
        have z1 : J 35 1 = J 69 0 := by
          rw [i2 35 1 (by decide +kernel), i2 69 0 (by decide +kernel)]
          exact hk2 (35, 1, 69, 0) (by decide)
        have z2 : J 35 4 = J 69 3 := by
          rw [i2 35 4 (by decide +kernel), i2 69 3 (by decide +kernel)]
          exact hk2 (35, 4, 69, 3) (by decide)
        refine ⟨y, _, e3, e4, (fun h => by cases h), g1, WF_of g2 (hlt_mk ?_ ?_ (fun _ e he => ?_))⟩
        · rw [cp_ne (by decide), cp_at (by decide)]
          exact z3.trans z1
        · rw [cp_ne (by decide), cp_at (by decide)]
          exact z4.trans z2
        · simp only [hkE, List.mem_cons, List.not_mem_nil, or_false] at he
          rcases he with rfl | rfl
          · show gcp J 69 68 0 0 313 35 1 = gcp J 69 68 0 0 313 69 0
            rw [cp_ne (by decide), cp_ne (by decide)]
            exact z1
          · show gcp J 69 68 0 0 313 35 4 = gcp J 69 68 0 0 313 69 3
            rw [cp_ne (by decide), cp_ne (by decide)]
            exact z2
      · exact absurd q1 (by rw [i2 _ _ m4]; exact hk)
/-! sheets -/
def nc (c : Nat) (md : aMd) : Bool := md.all (fun r => decide (r.1 ≠ c))
theorem nc_ok {md : aMd} {c j : Nat} (h : nc c md = true) : amodr md c j j = false := by
  cases hm : amodr md c j j with
  | false => rfl
  | true =>
    obtain ⟨p, h1, h2⟩ := List.any_eq_true.mp hm
    have h3 := of_decide_eq_true (List.all_eq_true.mp h p h1)
    simp only [Bool.and_eq_true, decide_eq_true_eq] at h2
    exact absurd h2.1.1 h3
theorem ex_wf {I J : gI} {eqs : aE4} {cns : List (Nat × Nat × Int)} {x y : Int32} (hw : WF I) (hf : afr [] I J) (h : pEx true eqs cns x y J) : (true = true → y = x) ∧ WF J := ⟨h.1, by rw [afr_nil hf]; exact hw⟩
theorem ax3 {a b c : Int32} {p1 q1 p2 q2 p3 q3 : Int} (h : (p1 ≤ a.toInt ∧ a.toInt ≤ q1) ∧ (p2 ≤ b.toInt ∧ b.toInt ≤ q2) ∧ (p3 ≤ c.toInt ∧ c.toInt ≤ q3)) : argsOK [(0, p1, q1), (0, p2, q2), (0, p3, q3)] ([a, b, c].map Value.int) := ⟨⟨a, rfl, h.1⟩, ⟨b, rfl, h.2.1⟩, ⟨c, rfl, h.2.2⟩, trivial⟩
theorem no_pre {I : gI} : ∀ s ∈ ([] : List (Nat × Nat × Int × Int)), slotOK I s := fun s hs => absurd hs List.not_mem_nil
theorem bn_nil {c j : Nat} (h : bT.getD c [] = []) : bnd bT c j = (-2147483648, 2147483647) := by
  unfold bnd
  rw [h]
  rfl
/-- the answer, slots that hold arguments, slots of a row that are 0 (as many as an argument says), slots that are known -/
def pxz (am : List aV) (z : Int) (ags : List (Nat × Nat × Nat)) (zr : Bool) (zc : Nat × Nat) (cns : List (Nat × Nat × Int)) : aXc := fun B K _ v _ => decide (anm B v = (2, z)) && pag am ags B K && (!zr || (match am[zc.2]? with
  | some b => (match abd B b with
    | some p => decide (b.1 ≠ 1) && decide (p.1 = p.2) && (List.range p.1.toNat).all (fun j => (match kget K zc.1 j with
      | some a => decide (anm B a = (2, 0))
      | none => false))
    | none => false)
  | none => false)) && cns.all (fun e => (match kget K e.1 e.2.1 with
  | some a => decide (anm B a = (2, e.2.2))
  | none => false))
def pEz (z : Int) (ags : List (Nat × Nat × Nat)) (zr : Bool) (zc : Nat × Nat) (cns : List (Nat × Nat × Int)) : List Value → Int32 → Int32 → gI → Prop := fun vs _ y I => y.toInt = z ∧ (∀ e ∈ ags, vs[e.2.2]? = some (.int (I e.1 e.2.1))) ∧ (zr = true → ∃ x, vs[zc.2]? = some (.int x) ∧ ∀ j : Nat, (j : Int) < x.toInt → I zc.1 j = 0) ∧ ∀ e ∈ cns, (I e.1 e.2.1).toInt = e.2.2
theorem k_num {bt : aT} {B : aB} {K : aK} {ρ : List Int32} {I : gI} {c j : Nat} {a : aV} {z : Int} (hB : aok B ρ) (hK : aheap bt K ρ I) (ha : kget K c j = some a) (h : anm B a = (2, z)) : (I c j).toInt = z := by
  have g1 := anm_ok hB (hK.1 _ (kget_some ha))
  rw [h] at g1
  rcases g1 with ⟨g1, -⟩ | ⟨-, g1⟩
  · cases g1
  · exact g1
theorem pxz_ok {bt : aT} {am : List aV} {z : Int} {ags : List (Nat × Nat × Nat)} {zr : Bool} {zc : Nat × Nat} {cns : List (Nat × Nat × Int)} (vs : List Value) : xcOK bt am vs (pxz am z ags zr zc cns) (pEz z ags zr zc cns vs) := by
  intro B K F v w ρ I x y h hB hK _ hA hv _
  simp only [pxz, Bool.and_eq_true, decide_eq_true_eq] at h
  obtain ⟨⟨⟨h1, h2⟩, h3⟩, h4⟩ := h
  refine ⟨?_, pag_ok h2 hB hK hA, fun hz => ?_, fun e he => ?_⟩
  · have g1 := anm_ok hB hv
    rw [h1] at g1
    rcases g1 with ⟨g1, -⟩ | ⟨-, g1⟩
    · cases g1
    · exact g1
  · subst hz
    simp only [Bool.not_true, Bool.false_or] at h3
    split at h3
    next b hb =>
      split at h3
      next p hp =>
        simp only [Bool.and_eq_true, decide_eq_true_eq] at h3
        obtain ⟨⟨q1, q2⟩, q3⟩ := h3
        obtain ⟨u, hu, hbu⟩ := aSt.getA hA hb
        obtain ⟨n, rfl, hn⟩ := hbu.int q1
        have hr := abd_ok hB hn hp
        refine ⟨n, hu, fun j hj => ?_⟩
        have q4 := List.all_eq_true.mp q3 j (List.mem_range.mpr (by omega))
        split at q4
        next a ha => exact Int32.toInt_inj.mp (k_num hB hK ha (of_decide_eq_true q4))
        next => cases q4
      next => cases h3
    next => cases h3
  · have h5 := List.all_eq_true.mp h4 e he
    split at h5
    next a ha => exact k_num hB hK ha (of_decide_eq_true h5)
    next => cases h5
/-- the slots of a sheet -/
def shR (t : Nat) : aMd := [(2, t, t), (3, t, t), (83, t, t), (5 + t, 0, 39), (84, 40 * t, 40 * t + 39)]
def shchk (md : aMd) (s : Nat) : Bool := nr md && rlM.all (fun q => pOKe md [] (q.1, q.2.1, 68, q.2.2.2.2) && pOKe md [] (q.2.2.1, q.2.2.2.1, 69, q.2.2.2.2)) && !(amodr md 0 2 2) && !(amodr md 67 3 3) && rlO.all (pOKe md [(2, s, 82, s)]) && (List.range 4).all (fun t => decide (t = s) || dsj md (shR t)) && hlE.all (pOKe md []) && hkE.all (pOKe md [])
theorem sh_wf {I J : gI} {md : aMd} {s : Nat} (hc : shchk md s = true) (hw : WF I) (hf : afr md I J) (h1 : J 2 s = J 82 s) (h2 : rXs J s) : WF J := by
  simp only [shchk, Bool.and_eq_true, Bool.not_eq_true'] at hc
  obtain ⟨⟨⟨⟨⟨⟨⟨g1, g2⟩, g3⟩, g4⟩, g5⟩, g6⟩, g7⟩, g8⟩ := hc
  obtain ⟨w0, w1, w2, w3, w4, w5, w6, w7⟩ := hw
  have he : rlB [(2, s, 82, s)] J := fun e he => by
    rw [List.mem_singleton.mp he]
    exact h1
  have g2 : ∀ q ∈ rlM, pOKe md [] (q.1, q.2.1, 68, q.2.2.2.2) = true ∧ pOKe md [] (q.2.2.1, q.2.2.2.1, 69, q.2.2.2.2) = true := fun q hq => by
    have := List.all_eq_true.mp g2 q hq
    simpa only [Bool.and_eq_true] using this
  refine ⟨wf0_md g1 hf w0, fun q hq => pOKe_ok (g2 q hq).1 hf rlB_nil (w1 q hq), ?_, fun hk q hq => ?_, fun e h => pOKe_ok (List.all_eq_true.mp g5 e h) hf he (w4 e h), fun t ht => ?_, fun e h => pOKe_ok (List.all_eq_true.mp g7 e h) hf rlB_nil (w6 e h), fun hk e h => pOKe_ok (List.all_eq_true.mp g8 e h) hf rlB_nil (w7 (by rw [← hf _ _ g4]; exact hk) e h)⟩
  · rw [hf _ _ g3, hf _ _ g4]
    exact w2
  · rw [hf _ _ g4] at hk
    exact pOKe_ok (g2 q hq).2 hf rlB_nil (w3 hk q hq)
  · have g := List.all_eq_true.mp g6 t (List.mem_range.mpr ht)
    simp only [Bool.or_eq_true, decide_eq_true_eq] at g
    rcases g with rfl | g
    · exact h2
    · have hh : ∀ c a b j, (c, a, b) ∈ shR t → a ≤ j → j ≤ b → J c j = I c j := fun c a b j hm h1 h2 => hf c j (dsj_ok g (amodr_i hm h1 h2))
      exact rXs_eq (w5 t ht) (hh 2 t t t (by simp [shR]) (Nat.le_refl _) (Nat.le_refl _)) (hh 3 t t t (by simp [shR]) (Nat.le_refl _) (Nat.le_refl _)) (hh 83 t t t (by simp [shR]) (Nat.le_refl _) (Nat.le_refl _)) (fun j hj => hh (5 + t) 0 39 j (by simp [shR]) (Nat.zero_le _) (by omega)) (fun j hj => hh 84 (40 * t) (40 * t + 39) _ (by simp [shR]) (by omega) (by omega))
def sh1_md : aMd := []
theorem sh1 (d : Nat) (a b c : Int32) (I : gI) (hi : aInv bT I) (ha : argsOK [(0, (-2147483648), (-1)), (0, (-2147483648), 2147483647), (0, (-2147483648), 2147483647)] ([a, b, c].map Value.int)) (hp : ∀ s ∈ ([] : List (Nat × Nat × Int × Int)), slotOK I s) (hE : ∀ x y J, aInv bT J → afr sh1_md I J → pEx true [] [] x y J → (true = true → y = x) ∧ WF J) : gg (d + 40) mX11_sheet 0 (gent mX11_sheet.2.2.1 (.ref 0 :: [a, b, c].map Value.int)) [] I (pbM (fun x J => gg (d + 40) mX12_sheet 0 (gent mX12_sheet.2.2.1 (.ref 67 :: [a, b, c].map Value.int)) [] J (prE true x))) := pr_box (xc := fun B K _ v w => pxt true [] [] B K v w) (E := fun _ => pEx true [] []) (pm := [(37, 3, [], ops_X11_isIn), (103, 1, [], ops_X11_isPlace), (269, 5, [], ops_X11_sheet), (127, 3, [], ops_X12_in1), (174, 1, [], ops_X12_isSheet), (270, 5, [], ops_X12_sheet)]) (mi1 := 269) (nl1 := 5) (mi2 := 270) (nl2 := 5) (fuel := 33) (by decide +kernel) (fun vs => pxt_ok) (pmOK.cons mt_X11_isIn rfl os_X11_isIn (pmOK.cons mt_X11_isPlace rfl os_X11_isPlace (pmOK.cons mt_X11_sheet rfl os_X11_sheet (pmOK.cons mt_X12_in1 rfl os_X12_in1 (pmOK.cons mt_X12_isSheet rfl os_X12_isSheet (pmOK.cons mt_X12_sheet rfl os_X12_sheet (pmOK.nil))))))) mt_X11_sheet rfl mt_X12_sheet rfl d [a, b, c] I ha hi hp hE
def sh2_md : aMd := []
theorem sh2 (d : Nat) (a b c : Int32) (I : gI) (hi : aInv bT I) (ha : argsOK [(0, 4, 2147483647), (0, (-2147483648), 2147483647), (0, (-2147483648), 2147483647)] ([a, b, c].map Value.int)) (hp : ∀ s ∈ ([] : List (Nat × Nat × Int × Int)), slotOK I s) (hE : ∀ x y J, aInv bT J → afr sh2_md I J → pEx true [] [] x y J → (true = true → y = x) ∧ WF J) : gg (d + 40) mX11_sheet 0 (gent mX11_sheet.2.2.1 (.ref 0 :: [a, b, c].map Value.int)) [] I (pbM (fun x J => gg (d + 40) mX12_sheet 0 (gent mX12_sheet.2.2.1 (.ref 67 :: [a, b, c].map Value.int)) [] J (prE true x))) := pr_box (xc := fun B K _ v w => pxt true [] [] B K v w) (E := fun _ => pEx true [] []) (pm := [(37, 3, [], ops_X11_isIn), (103, 1, [], ops_X11_isPlace), (269, 5, [], ops_X11_sheet), (127, 3, [], ops_X12_in1), (174, 1, [], ops_X12_isSheet), (270, 5, [], ops_X12_sheet)]) (mi1 := 269) (nl1 := 5) (mi2 := 270) (nl2 := 5) (fuel := 39) (by decide +kernel) (fun vs => pxt_ok) (pmOK.cons mt_X11_isIn rfl os_X11_isIn (pmOK.cons mt_X11_isPlace rfl os_X11_isPlace (pmOK.cons mt_X11_sheet rfl os_X11_sheet (pmOK.cons mt_X12_in1 rfl os_X12_in1 (pmOK.cons mt_X12_isSheet rfl os_X12_isSheet (pmOK.cons mt_X12_sheet rfl os_X12_sheet (pmOK.nil))))))) mt_X11_sheet rfl mt_X12_sheet rfl d [a, b, c] I ha hi hp hE
def sh3_md : aMd := []
theorem sh3 (d : Nat) (a b c : Int32) (I : gI) (hi : aInv bT I) (ha : argsOK [(0, 0, 3), (0, (-2147483648), (-2)), (0, (-2147483648), 2147483647)] ([a, b, c].map Value.int)) (hp : ∀ s ∈ ([] : List (Nat × Nat × Int × Int)), slotOK I s) (hE : ∀ x y J, aInv bT J → afr sh3_md I J → pEx true [] [] x y J → (true = true → y = x) ∧ WF J) : gg (d + 40) mX11_sheet 0 (gent mX11_sheet.2.2.1 (.ref 0 :: [a, b, c].map Value.int)) [] I (pbM (fun x J => gg (d + 40) mX12_sheet 0 (gent mX12_sheet.2.2.1 (.ref 67 :: [a, b, c].map Value.int)) [] J (prE true x))) := pr_box (xc := fun B K _ v w => pxt true [] [] B K v w) (E := fun _ => pEx true [] []) (pm := [(37, 3, [], ops_X11_isIn), (103, 1, [], ops_X11_isPlace), (269, 5, [], ops_X11_sheet), (127, 3, [], ops_X12_in1), (174, 1, [], ops_X12_isSheet), (270, 5, [], ops_X12_sheet)]) (mi1 := 269) (nl1 := 5) (mi2 := 270) (nl2 := 5) (fuel := 61) (by decide +kernel) (fun vs => pxt_ok) (pmOK.cons mt_X11_isIn rfl os_X11_isIn (pmOK.cons mt_X11_isPlace rfl os_X11_isPlace (pmOK.cons mt_X11_sheet rfl os_X11_sheet (pmOK.cons mt_X12_in1 rfl os_X12_in1 (pmOK.cons mt_X12_isSheet rfl os_X12_isSheet (pmOK.cons mt_X12_sheet rfl os_X12_sheet (pmOK.nil))))))) mt_X11_sheet rfl mt_X12_sheet rfl d [a, b, c] I ha hi hp hE
def sh4_md : aMd := []
theorem sh4 (d : Nat) (a b c : Int32) (I : gI) (hi : aInv bT I) (ha : argsOK [(0, 0, 3), (0, 5, 2147483647), (0, (-2147483648), 2147483647)] ([a, b, c].map Value.int)) (hp : ∀ s ∈ ([] : List (Nat × Nat × Int × Int)), slotOK I s) (hE : ∀ x y J, aInv bT J → afr sh4_md I J → pEx true [] [] x y J → (true = true → y = x) ∧ WF J) : gg (d + 40) mX11_sheet 0 (gent mX11_sheet.2.2.1 (.ref 0 :: [a, b, c].map Value.int)) [] I (pbM (fun x J => gg (d + 40) mX12_sheet 0 (gent mX12_sheet.2.2.1 (.ref 67 :: [a, b, c].map Value.int)) [] J (prE true x))) := pr_box (xc := fun B K _ v w => pxt true [] [] B K v w) (E := fun _ => pEx true [] []) (pm := [(37, 3, [], ops_X11_isIn), (103, 1, [], ops_X11_isPlace), (269, 5, [], ops_X11_sheet), (127, 3, [], ops_X12_in1), (174, 1, [], ops_X12_isSheet), (270, 5, [], ops_X12_sheet)]) (mi1 := 269) (nl1 := 5) (mi2 := 270) (nl2 := 5) (fuel := 67) (by decide +kernel) (fun vs => pxt_ok) (pmOK.cons mt_X11_isIn rfl os_X11_isIn (pmOK.cons mt_X11_isPlace rfl os_X11_isPlace (pmOK.cons mt_X11_sheet rfl os_X11_sheet (pmOK.cons mt_X12_in1 rfl os_X12_in1 (pmOK.cons mt_X12_isSheet rfl os_X12_isSheet (pmOK.cons mt_X12_sheet rfl os_X12_sheet (pmOK.nil))))))) mt_X11_sheet rfl mt_X12_sheet rfl d [a, b, c] I ha hi hp hE
def sh5_md : aMd := []
theorem sh5 (d : Nat) (a b c : Int32) (I : gI) (hi : aInv bT I) (ha : argsOK [(0, 0, 3), (0, 0, 4), (0, 41, 2147483647)] ([a, b, c].map Value.int)) (hp : ∀ s ∈ ([] : List (Nat × Nat × Int × Int)), slotOK I s) (hE : ∀ x y J, aInv bT J → afr sh5_md I J → pEx true [] [] x y J → (true = true → y = x) ∧ WF J) : gg (d + 40) mX11_sheet 0 (gent mX11_sheet.2.2.1 (.ref 0 :: [a, b, c].map Value.int)) [] I (pbM (fun x J => gg (d + 40) mX12_sheet 0 (gent mX12_sheet.2.2.1 (.ref 67 :: [a, b, c].map Value.int)) [] J (prE true x))) := pr_box (xc := fun B K _ v w => pxt true [] [] B K v w) (E := fun _ => pEx true [] []) (pm := [(37, 3, [], ops_X11_isIn), (103, 1, [], ops_X11_isPlace), (269, 5, [], ops_X11_sheet), (127, 3, [], ops_X12_in1), (174, 1, [], ops_X12_isSheet), (270, 5, [], ops_X12_sheet)]) (mi1 := 269) (nl1 := 5) (mi2 := 270) (nl2 := 5) (fuel := 80) (by decide +kernel) (fun vs => pxt_ok) (pmOK.cons mt_X11_isIn rfl os_X11_isIn (pmOK.cons mt_X11_isPlace rfl os_X11_isPlace (pmOK.cons mt_X11_sheet rfl os_X11_sheet (pmOK.cons mt_X12_in1 rfl os_X12_in1 (pmOK.cons mt_X12_isSheet rfl os_X12_isSheet (pmOK.cons mt_X12_sheet rfl os_X12_sheet (pmOK.nil))))))) mt_X11_sheet rfl mt_X12_sheet rfl d [a, b, c] I ha hi hp hE
def sh6_md : aMd := []
theorem sh6 (d : Nat) (a b c : Int32) (I : gI) (hi : aInv bT I) (ha : argsOK [(0, 0, 3), (0, 0, 4), (0, (-2147483648), (-1))] ([a, b, c].map Value.int)) (hp : ∀ s ∈ ([] : List (Nat × Nat × Int × Int)), slotOK I s) (hE : ∀ x y J, aInv bT J → afr sh6_md I J → pEx true [] [] x y J → (true = true → y = x) ∧ WF J) : gg (d + 40) mX11_sheet 0 (gent mX11_sheet.2.2.1 (.ref 0 :: [a, b, c].map Value.int)) [] I (pbM (fun x J => gg (d + 40) mX12_sheet 0 (gent mX12_sheet.2.2.1 (.ref 67 :: [a, b, c].map Value.int)) [] J (prE true x))) := pr_box (xc := fun B K _ v w => pxt true [] [] B K v w) (E := fun _ => pEx true [] []) (pm := [(37, 3, [], ops_X11_isIn), (103, 1, [], ops_X11_isPlace), (269, 5, [], ops_X11_sheet), (127, 3, [], ops_X12_in1), (174, 1, [], ops_X12_isSheet), (270, 5, [], ops_X12_sheet)]) (mi1 := 269) (nl1 := 5) (mi2 := 270) (nl2 := 5) (fuel := 86) (by decide +kernel) (fun vs => pxt_ok) (pmOK.cons mt_X11_isIn rfl os_X11_isIn (pmOK.cons mt_X11_isPlace rfl os_X11_isPlace (pmOK.cons mt_X11_sheet rfl os_X11_sheet (pmOK.cons mt_X12_in1 rfl os_X12_in1 (pmOK.cons mt_X12_isSheet rfl os_X12_isSheet (pmOK.cons mt_X12_sheet rfl os_X12_sheet (pmOK.nil))))))) mt_X11_sheet rfl mt_X12_sheet rfl d [a, b, c] I ha hi hp hE
def sh7_0_md : aMd := [(2, 0, 0), (82, 0, 0), (83, 0, 0), (84, 0, 39)]
theorem sh7_0 (d : Nat) (a b c : Int32) (I : gI) (hi : aInv bT I) (ha : argsOK [(0, 0, 0), (0, (-1), (-1)), (0, (-2147483648), 2147483647)] ([a, b, c].map Value.int)) (hp : ∀ s ∈ ([] : List (Nat × Nat × Int × Int)), slotOK I s) (hE : ∀ x y J, aInv bT J → afr sh7_0_md I J → pEx true [(2, 0, 82, 0)] [(2, 0, (-1))] x y J → (true = true → y = x) ∧ WF J) : gg (d + 40) mX11_sheet 0 (gent mX11_sheet.2.2.1 (.ref 0 :: [a, b, c].map Value.int)) [] I (pbM (fun x J => gg (d + 40) mX12_sheet 0 (gent mX12_sheet.2.2.1 (.ref 67 :: [a, b, c].map Value.int)) [] J (prE true x))) := pr_box (xc := fun B K _ v w => pxt true [(2, 0, 82, 0)] [(2, 0, (-1))] B K v w) (E := fun _ => pEx true [(2, 0, 82, 0)] [(2, 0, (-1))]) (pm := [(37, 3, [], ops_X11_isIn), (103, 1, [], ops_X11_isPlace), (269, 5, [], ops_X11_sheet), (127, 3, [], ops_X12_in1), (174, 1, [], ops_X12_isSheet), (270, 5, [], ops_X12_sheet)]) (mi1 := 269) (nl1 := 5) (mi2 := 270) (nl2 := 5) (fuel := 659) (by decide +kernel) (fun vs => pxt_ok) (pmOK.cons mt_X11_isIn rfl os_X11_isIn (pmOK.cons mt_X11_isPlace rfl os_X11_isPlace (pmOK.cons mt_X11_sheet rfl os_X11_sheet (pmOK.cons mt_X12_in1 rfl os_X12_in1 (pmOK.cons mt_X12_isSheet rfl os_X12_isSheet (pmOK.cons mt_X12_sheet rfl os_X12_sheet (pmOK.nil))))))) mt_X11_sheet rfl mt_X12_sheet rfl d [a, b, c] I ha hi hp hE
def shX_0_md : aMd := [(2, 0, 0), (3, 0, 0), (5, 0, 39)]
theorem shX_0 (d : Nat) (vs : List Value) (I : gI) (hi : aInv bT I) (ha : argsOK [(0, 0, 0), (0, 0, 4), (0, 0, 40)] vs) : gg (d + 40) mX11_sheet 0 (gent mX11_sheet.2.2.1 (.ref 0 :: vs)) [] I (pQ2 bT shX_0_md I (pEz 1 [(2, 0, 1), (3, 0, 2)] true (5, 2) [] vs) 0) := p1_box (xc := pxz (aentA [(0, 0, 0), (0, 0, 4), (0, 0, 40)] []).1 1 [(2, 0, 1), (3, 0, 2)] true (5, 2) []) (E := pEz 1 [(2, 0, 1), (3, 0, 2)] true (5, 2) []) (args := [(0, 0, 0), (0, 0, 4), (0, 0, 40)]) (pre := []) (pm := [(37, 3, [], ops_X11_isIn), (103, 1, [], ops_X11_isPlace), (269, 5, [], ops_X11_sheet)]) (mi1 := 269) (nl1 := 5) (fuel := 539) (by decide +kernel) (fun vs => pxz_ok vs) (pmOK.cons mt_X11_isIn rfl os_X11_isIn (pmOK.cons mt_X11_isPlace rfl os_X11_isPlace (pmOK.cons mt_X11_sheet rfl os_X11_sheet (pmOK.nil)))) mt_X11_sheet rfl d vs I ha hi (fun s hs => absurd hs List.not_mem_nil)
def shM_0_md : aMd := [(82, 0, 0), (83, 0, 0), (84, 0, 39)]
theorem shM_0 (d : Nat) (vs : List Value) (I : gI) (hi : aInv bT I) (ha : argsOK [(0, 0, 0), (0, 0, 4), (0, 0, 40)] vs) : gg (d + 40) mX12_sheet 0 (gent mX12_sheet.2.2.1 (.ref 67 :: vs)) [] I (pQ2 bT shM_0_md I (pEz 1 [(82, 0, 1), (83, 0, 2)] false (0, 99) [(84, 0, 0), (84, 1, 0), (84, 2, 0), (84, 3, 0), (84, 4, 0), (84, 5, 0), (84, 6, 0), (84, 7, 0), (84, 8, 0), (84, 9, 0), (84, 10, 0), (84, 11, 0), (84, 12, 0), (84, 13, 0), (84, 14, 0), (84, 15, 0), (84, 16, 0), (84, 17, 0), (84, 18, 0), (84, 19, 0), (84, 20, 0), (84, 21, 0), (84, 22, 0), (84, 23, 0), (84, 24, 0), (84, 25, 0), (84, 26, 0), (84, 27, 0), (84, 28, 0), (84, 29, 0), (84, 30, 0), (84, 31, 0), (84, 32, 0), (84, 33, 0), (84, 34, 0), (84, 35, 0), (84, 36, 0), (84, 37, 0), (84, 38, 0), (84, 39, 0)] vs) 0) := p1_box (xc := pxz (aentA [(0, 0, 0), (0, 0, 4), (0, 0, 40)] []).1 1 [(82, 0, 1), (83, 0, 2)] false (0, 99) [(84, 0, 0), (84, 1, 0), (84, 2, 0), (84, 3, 0), (84, 4, 0), (84, 5, 0), (84, 6, 0), (84, 7, 0), (84, 8, 0), (84, 9, 0), (84, 10, 0), (84, 11, 0), (84, 12, 0), (84, 13, 0), (84, 14, 0), (84, 15, 0), (84, 16, 0), (84, 17, 0), (84, 18, 0), (84, 19, 0), (84, 20, 0), (84, 21, 0), (84, 22, 0), (84, 23, 0), (84, 24, 0), (84, 25, 0), (84, 26, 0), (84, 27, 0), (84, 28, 0), (84, 29, 0), (84, 30, 0), (84, 31, 0), (84, 32, 0), (84, 33, 0), (84, 34, 0), (84, 35, 0), (84, 36, 0), (84, 37, 0), (84, 38, 0), (84, 39, 0)]) (E := pEz 1 [(82, 0, 1), (83, 0, 2)] false (0, 99) [(84, 0, 0), (84, 1, 0), (84, 2, 0), (84, 3, 0), (84, 4, 0), (84, 5, 0), (84, 6, 0), (84, 7, 0), (84, 8, 0), (84, 9, 0), (84, 10, 0), (84, 11, 0), (84, 12, 0), (84, 13, 0), (84, 14, 0), (84, 15, 0), (84, 16, 0), (84, 17, 0), (84, 18, 0), (84, 19, 0), (84, 20, 0), (84, 21, 0), (84, 22, 0), (84, 23, 0), (84, 24, 0), (84, 25, 0), (84, 26, 0), (84, 27, 0), (84, 28, 0), (84, 29, 0), (84, 30, 0), (84, 31, 0), (84, 32, 0), (84, 33, 0), (84, 34, 0), (84, 35, 0), (84, 36, 0), (84, 37, 0), (84, 38, 0), (84, 39, 0)]) (args := [(0, 0, 0), (0, 0, 4), (0, 0, 40)]) (pre := []) (pm := [(127, 3, [], ops_X12_in1), (174, 1, [], ops_X12_isSheet), (270, 5, [], ops_X12_sheet)]) (mi1 := 270) (nl1 := 5) (fuel := 622) (by decide +kernel) (fun vs => pxz_ok vs) (pmOK.cons mt_X12_in1 rfl os_X12_in1 (pmOK.cons mt_X12_isSheet rfl os_X12_isSheet (pmOK.cons mt_X12_sheet rfl os_X12_sheet (pmOK.nil)))) mt_X12_sheet rfl d vs I ha hi (fun s hs => absurd hs List.not_mem_nil)
def sh7_1_md : aMd := [(2, 1, 1), (82, 1, 1), (83, 1, 1), (84, 40, 79)]
theorem sh7_1 (d : Nat) (a b c : Int32) (I : gI) (hi : aInv bT I) (ha : argsOK [(0, 1, 1), (0, (-1), (-1)), (0, (-2147483648), 2147483647)] ([a, b, c].map Value.int)) (hp : ∀ s ∈ ([] : List (Nat × Nat × Int × Int)), slotOK I s) (hE : ∀ x y J, aInv bT J → afr sh7_1_md I J → pEx true [(2, 1, 82, 1)] [(2, 1, (-1))] x y J → (true = true → y = x) ∧ WF J) : gg (d + 40) mX11_sheet 0 (gent mX11_sheet.2.2.1 (.ref 0 :: [a, b, c].map Value.int)) [] I (pbM (fun x J => gg (d + 40) mX12_sheet 0 (gent mX12_sheet.2.2.1 (.ref 67 :: [a, b, c].map Value.int)) [] J (prE true x))) := pr_box (xc := fun B K _ v w => pxt true [(2, 1, 82, 1)] [(2, 1, (-1))] B K v w) (E := fun _ => pEx true [(2, 1, 82, 1)] [(2, 1, (-1))]) (pm := [(37, 3, [], ops_X11_isIn), (103, 1, [], ops_X11_isPlace), (269, 5, [], ops_X11_sheet), (127, 3, [], ops_X12_in1), (174, 1, [], ops_X12_isSheet), (270, 5, [], ops_X12_sheet)]) (mi1 := 269) (nl1 := 5) (mi2 := 270) (nl2 := 5) (fuel := 659) (by decide +kernel) (fun vs => pxt_ok) (pmOK.cons mt_X11_isIn rfl os_X11_isIn (pmOK.cons mt_X11_isPlace rfl os_X11_isPlace (pmOK.cons mt_X11_sheet rfl os_X11_sheet (pmOK.cons mt_X12_in1 rfl os_X12_in1 (pmOK.cons mt_X12_isSheet rfl os_X12_isSheet (pmOK.cons mt_X12_sheet rfl os_X12_sheet (pmOK.nil))))))) mt_X11_sheet rfl mt_X12_sheet rfl d [a, b, c] I ha hi hp hE
def shX_1_md : aMd := [(2, 1, 1), (3, 1, 1), (6, 0, 39)]
theorem shX_1 (d : Nat) (vs : List Value) (I : gI) (hi : aInv bT I) (ha : argsOK [(0, 1, 1), (0, 0, 4), (0, 0, 40)] vs) : gg (d + 40) mX11_sheet 0 (gent mX11_sheet.2.2.1 (.ref 0 :: vs)) [] I (pQ2 bT shX_1_md I (pEz 1 [(2, 1, 1), (3, 1, 2)] true (6, 2) [] vs) 0) := p1_box (xc := pxz (aentA [(0, 1, 1), (0, 0, 4), (0, 0, 40)] []).1 1 [(2, 1, 1), (3, 1, 2)] true (6, 2) []) (E := pEz 1 [(2, 1, 1), (3, 1, 2)] true (6, 2) []) (args := [(0, 1, 1), (0, 0, 4), (0, 0, 40)]) (pre := []) (pm := [(37, 3, [], ops_X11_isIn), (103, 1, [], ops_X11_isPlace), (269, 5, [], ops_X11_sheet)]) (mi1 := 269) (nl1 := 5) (fuel := 539) (by decide +kernel) (fun vs => pxz_ok vs) (pmOK.cons mt_X11_isIn rfl os_X11_isIn (pmOK.cons mt_X11_isPlace rfl os_X11_isPlace (pmOK.cons mt_X11_sheet rfl os_X11_sheet (pmOK.nil)))) mt_X11_sheet rfl d vs I ha hi (fun s hs => absurd hs List.not_mem_nil)
def shM_1_md : aMd := [(82, 1, 1), (83, 1, 1), (84, 40, 79)]
theorem shM_1 (d : Nat) (vs : List Value) (I : gI) (hi : aInv bT I) (ha : argsOK [(0, 1, 1), (0, 0, 4), (0, 0, 40)] vs) : gg (d + 40) mX12_sheet 0 (gent mX12_sheet.2.2.1 (.ref 67 :: vs)) [] I (pQ2 bT shM_1_md I (pEz 1 [(82, 1, 1), (83, 1, 2)] false (0, 99) [(84, 40, 0), (84, 41, 0), (84, 42, 0), (84, 43, 0), (84, 44, 0), (84, 45, 0), (84, 46, 0), (84, 47, 0), (84, 48, 0), (84, 49, 0), (84, 50, 0), (84, 51, 0), (84, 52, 0), (84, 53, 0), (84, 54, 0), (84, 55, 0), (84, 56, 0), (84, 57, 0), (84, 58, 0), (84, 59, 0), (84, 60, 0), (84, 61, 0), (84, 62, 0), (84, 63, 0), (84, 64, 0), (84, 65, 0), (84, 66, 0), (84, 67, 0), (84, 68, 0), (84, 69, 0), (84, 70, 0), (84, 71, 0), (84, 72, 0), (84, 73, 0), (84, 74, 0), (84, 75, 0), (84, 76, 0), (84, 77, 0), (84, 78, 0), (84, 79, 0)] vs) 0) := p1_box (xc := pxz (aentA [(0, 1, 1), (0, 0, 4), (0, 0, 40)] []).1 1 [(82, 1, 1), (83, 1, 2)] false (0, 99) [(84, 40, 0), (84, 41, 0), (84, 42, 0), (84, 43, 0), (84, 44, 0), (84, 45, 0), (84, 46, 0), (84, 47, 0), (84, 48, 0), (84, 49, 0), (84, 50, 0), (84, 51, 0), (84, 52, 0), (84, 53, 0), (84, 54, 0), (84, 55, 0), (84, 56, 0), (84, 57, 0), (84, 58, 0), (84, 59, 0), (84, 60, 0), (84, 61, 0), (84, 62, 0), (84, 63, 0), (84, 64, 0), (84, 65, 0), (84, 66, 0), (84, 67, 0), (84, 68, 0), (84, 69, 0), (84, 70, 0), (84, 71, 0), (84, 72, 0), (84, 73, 0), (84, 74, 0), (84, 75, 0), (84, 76, 0), (84, 77, 0), (84, 78, 0), (84, 79, 0)]) (E := pEz 1 [(82, 1, 1), (83, 1, 2)] false (0, 99) [(84, 40, 0), (84, 41, 0), (84, 42, 0), (84, 43, 0), (84, 44, 0), (84, 45, 0), (84, 46, 0), (84, 47, 0), (84, 48, 0), (84, 49, 0), (84, 50, 0), (84, 51, 0), (84, 52, 0), (84, 53, 0), (84, 54, 0), (84, 55, 0), (84, 56, 0), (84, 57, 0), (84, 58, 0), (84, 59, 0), (84, 60, 0), (84, 61, 0), (84, 62, 0), (84, 63, 0), (84, 64, 0), (84, 65, 0), (84, 66, 0), (84, 67, 0), (84, 68, 0), (84, 69, 0), (84, 70, 0), (84, 71, 0), (84, 72, 0), (84, 73, 0), (84, 74, 0), (84, 75, 0), (84, 76, 0), (84, 77, 0), (84, 78, 0), (84, 79, 0)]) (args := [(0, 1, 1), (0, 0, 4), (0, 0, 40)]) (pre := []) (pm := [(127, 3, [], ops_X12_in1), (174, 1, [], ops_X12_isSheet), (270, 5, [], ops_X12_sheet)]) (mi1 := 270) (nl1 := 5) (fuel := 622) (by decide +kernel) (fun vs => pxz_ok vs) (pmOK.cons mt_X12_in1 rfl os_X12_in1 (pmOK.cons mt_X12_isSheet rfl os_X12_isSheet (pmOK.cons mt_X12_sheet rfl os_X12_sheet (pmOK.nil)))) mt_X12_sheet rfl d vs I ha hi (fun s hs => absurd hs List.not_mem_nil)
def sh7_2_md : aMd := [(2, 2, 2), (82, 2, 2), (83, 2, 2), (84, 80, 119)]
theorem sh7_2 (d : Nat) (a b c : Int32) (I : gI) (hi : aInv bT I) (ha : argsOK [(0, 2, 2), (0, (-1), (-1)), (0, (-2147483648), 2147483647)] ([a, b, c].map Value.int)) (hp : ∀ s ∈ ([] : List (Nat × Nat × Int × Int)), slotOK I s) (hE : ∀ x y J, aInv bT J → afr sh7_2_md I J → pEx true [(2, 2, 82, 2)] [(2, 2, (-1))] x y J → (true = true → y = x) ∧ WF J) : gg (d + 40) mX11_sheet 0 (gent mX11_sheet.2.2.1 (.ref 0 :: [a, b, c].map Value.int)) [] I (pbM (fun x J => gg (d + 40) mX12_sheet 0 (gent mX12_sheet.2.2.1 (.ref 67 :: [a, b, c].map Value.int)) [] J (prE true x))) := pr_box (xc := fun B K _ v w => pxt true [(2, 2, 82, 2)] [(2, 2, (-1))] B K v w) (E := fun _ => pEx true [(2, 2, 82, 2)] [(2, 2, (-1))]) (pm := [(37, 3, [], ops_X11_isIn), (103, 1, [], ops_X11_isPlace), (269, 5, [], ops_X11_sheet), (127, 3, [], ops_X12_in1), (174, 1, [], ops_X12_isSheet), (270, 5, [], ops_X12_sheet)]) (mi1 := 269) (nl1 := 5) (mi2 := 270) (nl2 := 5) (fuel := 659) (by decide +kernel) (fun vs => pxt_ok) (pmOK.cons mt_X11_isIn rfl os_X11_isIn (pmOK.cons mt_X11_isPlace rfl os_X11_isPlace (pmOK.cons mt_X11_sheet rfl os_X11_sheet (pmOK.cons mt_X12_in1 rfl os_X12_in1 (pmOK.cons mt_X12_isSheet rfl os_X12_isSheet (pmOK.cons mt_X12_sheet rfl os_X12_sheet (pmOK.nil))))))) mt_X11_sheet rfl mt_X12_sheet rfl d [a, b, c] I ha hi hp hE
def shX_2_md : aMd := [(2, 2, 2), (3, 2, 2), (7, 0, 39)]
theorem shX_2 (d : Nat) (vs : List Value) (I : gI) (hi : aInv bT I) (ha : argsOK [(0, 2, 2), (0, 0, 4), (0, 0, 40)] vs) : gg (d + 40) mX11_sheet 0 (gent mX11_sheet.2.2.1 (.ref 0 :: vs)) [] I (pQ2 bT shX_2_md I (pEz 1 [(2, 2, 1), (3, 2, 2)] true (7, 2) [] vs) 0) := p1_box (xc := pxz (aentA [(0, 2, 2), (0, 0, 4), (0, 0, 40)] []).1 1 [(2, 2, 1), (3, 2, 2)] true (7, 2) []) (E := pEz 1 [(2, 2, 1), (3, 2, 2)] true (7, 2) []) (args := [(0, 2, 2), (0, 0, 4), (0, 0, 40)]) (pre := []) (pm := [(37, 3, [], ops_X11_isIn), (103, 1, [], ops_X11_isPlace), (269, 5, [], ops_X11_sheet)]) (mi1 := 269) (nl1 := 5) (fuel := 539) (by decide +kernel) (fun vs => pxz_ok vs) (pmOK.cons mt_X11_isIn rfl os_X11_isIn (pmOK.cons mt_X11_isPlace rfl os_X11_isPlace (pmOK.cons mt_X11_sheet rfl os_X11_sheet (pmOK.nil)))) mt_X11_sheet rfl d vs I ha hi (fun s hs => absurd hs List.not_mem_nil)
def shM_2_md : aMd := [(82, 2, 2), (83, 2, 2), (84, 80, 119)]
theorem shM_2 (d : Nat) (vs : List Value) (I : gI) (hi : aInv bT I) (ha : argsOK [(0, 2, 2), (0, 0, 4), (0, 0, 40)] vs) : gg (d + 40) mX12_sheet 0 (gent mX12_sheet.2.2.1 (.ref 67 :: vs)) [] I (pQ2 bT shM_2_md I (pEz 1 [(82, 2, 1), (83, 2, 2)] false (0, 99) [(84, 80, 0), (84, 81, 0), (84, 82, 0), (84, 83, 0), (84, 84, 0), (84, 85, 0), (84, 86, 0), (84, 87, 0), (84, 88, 0), (84, 89, 0), (84, 90, 0), (84, 91, 0), (84, 92, 0), (84, 93, 0), (84, 94, 0), (84, 95, 0), (84, 96, 0), (84, 97, 0), (84, 98, 0), (84, 99, 0), (84, 100, 0), (84, 101, 0), (84, 102, 0), (84, 103, 0), (84, 104, 0), (84, 105, 0), (84, 106, 0), (84, 107, 0), (84, 108, 0), (84, 109, 0), (84, 110, 0), (84, 111, 0), (84, 112, 0), (84, 113, 0), (84, 114, 0), (84, 115, 0), (84, 116, 0), (84, 117, 0), (84, 118, 0), (84, 119, 0)] vs) 0) := p1_box (xc := pxz (aentA [(0, 2, 2), (0, 0, 4), (0, 0, 40)] []).1 1 [(82, 2, 1), (83, 2, 2)] false (0, 99) [(84, 80, 0), (84, 81, 0), (84, 82, 0), (84, 83, 0), (84, 84, 0), (84, 85, 0), (84, 86, 0), (84, 87, 0), (84, 88, 0), (84, 89, 0), (84, 90, 0), (84, 91, 0), (84, 92, 0), (84, 93, 0), (84, 94, 0), (84, 95, 0), (84, 96, 0), (84, 97, 0), (84, 98, 0), (84, 99, 0), (84, 100, 0), (84, 101, 0), (84, 102, 0), (84, 103, 0), (84, 104, 0), (84, 105, 0), (84, 106, 0), (84, 107, 0), (84, 108, 0), (84, 109, 0), (84, 110, 0), (84, 111, 0), (84, 112, 0), (84, 113, 0), (84, 114, 0), (84, 115, 0), (84, 116, 0), (84, 117, 0), (84, 118, 0), (84, 119, 0)]) (E := pEz 1 [(82, 2, 1), (83, 2, 2)] false (0, 99) [(84, 80, 0), (84, 81, 0), (84, 82, 0), (84, 83, 0), (84, 84, 0), (84, 85, 0), (84, 86, 0), (84, 87, 0), (84, 88, 0), (84, 89, 0), (84, 90, 0), (84, 91, 0), (84, 92, 0), (84, 93, 0), (84, 94, 0), (84, 95, 0), (84, 96, 0), (84, 97, 0), (84, 98, 0), (84, 99, 0), (84, 100, 0), (84, 101, 0), (84, 102, 0), (84, 103, 0), (84, 104, 0), (84, 105, 0), (84, 106, 0), (84, 107, 0), (84, 108, 0), (84, 109, 0), (84, 110, 0), (84, 111, 0), (84, 112, 0), (84, 113, 0), (84, 114, 0), (84, 115, 0), (84, 116, 0), (84, 117, 0), (84, 118, 0), (84, 119, 0)]) (args := [(0, 2, 2), (0, 0, 4), (0, 0, 40)]) (pre := []) (pm := [(127, 3, [], ops_X12_in1), (174, 1, [], ops_X12_isSheet), (270, 5, [], ops_X12_sheet)]) (mi1 := 270) (nl1 := 5) (fuel := 622) (by decide +kernel) (fun vs => pxz_ok vs) (pmOK.cons mt_X12_in1 rfl os_X12_in1 (pmOK.cons mt_X12_isSheet rfl os_X12_isSheet (pmOK.cons mt_X12_sheet rfl os_X12_sheet (pmOK.nil)))) mt_X12_sheet rfl d vs I ha hi (fun s hs => absurd hs List.not_mem_nil)
def sh7_3_md : aMd := [(2, 3, 3), (82, 3, 3), (83, 3, 3), (84, 120, 159)]
theorem sh7_3 (d : Nat) (a b c : Int32) (I : gI) (hi : aInv bT I) (ha : argsOK [(0, 3, 3), (0, (-1), (-1)), (0, (-2147483648), 2147483647)] ([a, b, c].map Value.int)) (hp : ∀ s ∈ ([] : List (Nat × Nat × Int × Int)), slotOK I s) (hE : ∀ x y J, aInv bT J → afr sh7_3_md I J → pEx true [(2, 3, 82, 3)] [(2, 3, (-1))] x y J → (true = true → y = x) ∧ WF J) : gg (d + 40) mX11_sheet 0 (gent mX11_sheet.2.2.1 (.ref 0 :: [a, b, c].map Value.int)) [] I (pbM (fun x J => gg (d + 40) mX12_sheet 0 (gent mX12_sheet.2.2.1 (.ref 67 :: [a, b, c].map Value.int)) [] J (prE true x))) := pr_box (xc := fun B K _ v w => pxt true [(2, 3, 82, 3)] [(2, 3, (-1))] B K v w) (E := fun _ => pEx true [(2, 3, 82, 3)] [(2, 3, (-1))]) (pm := [(37, 3, [], ops_X11_isIn), (103, 1, [], ops_X11_isPlace), (269, 5, [], ops_X11_sheet), (127, 3, [], ops_X12_in1), (174, 1, [], ops_X12_isSheet), (270, 5, [], ops_X12_sheet)]) (mi1 := 269) (nl1 := 5) (mi2 := 270) (nl2 := 5) (fuel := 659) (by decide +kernel) (fun vs => pxt_ok) (pmOK.cons mt_X11_isIn rfl os_X11_isIn (pmOK.cons mt_X11_isPlace rfl os_X11_isPlace (pmOK.cons mt_X11_sheet rfl os_X11_sheet (pmOK.cons mt_X12_in1 rfl os_X12_in1 (pmOK.cons mt_X12_isSheet rfl os_X12_isSheet (pmOK.cons mt_X12_sheet rfl os_X12_sheet (pmOK.nil))))))) mt_X11_sheet rfl mt_X12_sheet rfl d [a, b, c] I ha hi hp hE
def shX_3_md : aMd := [(2, 3, 3), (3, 3, 3), (8, 0, 39)]
theorem shX_3 (d : Nat) (vs : List Value) (I : gI) (hi : aInv bT I) (ha : argsOK [(0, 3, 3), (0, 0, 4), (0, 0, 40)] vs) : gg (d + 40) mX11_sheet 0 (gent mX11_sheet.2.2.1 (.ref 0 :: vs)) [] I (pQ2 bT shX_3_md I (pEz 1 [(2, 3, 1), (3, 3, 2)] true (8, 2) [] vs) 0) := p1_box (xc := pxz (aentA [(0, 3, 3), (0, 0, 4), (0, 0, 40)] []).1 1 [(2, 3, 1), (3, 3, 2)] true (8, 2) []) (E := pEz 1 [(2, 3, 1), (3, 3, 2)] true (8, 2) []) (args := [(0, 3, 3), (0, 0, 4), (0, 0, 40)]) (pre := []) (pm := [(37, 3, [], ops_X11_isIn), (103, 1, [], ops_X11_isPlace), (269, 5, [], ops_X11_sheet)]) (mi1 := 269) (nl1 := 5) (fuel := 539) (by decide +kernel) (fun vs => pxz_ok vs) (pmOK.cons mt_X11_isIn rfl os_X11_isIn (pmOK.cons mt_X11_isPlace rfl os_X11_isPlace (pmOK.cons mt_X11_sheet rfl os_X11_sheet (pmOK.nil)))) mt_X11_sheet rfl d vs I ha hi (fun s hs => absurd hs List.not_mem_nil)
def shM_3_md : aMd := [(82, 3, 3), (83, 3, 3), (84, 120, 159)]
theorem shM_3 (d : Nat) (vs : List Value) (I : gI) (hi : aInv bT I) (ha : argsOK [(0, 3, 3), (0, 0, 4), (0, 0, 40)] vs) : gg (d + 40) mX12_sheet 0 (gent mX12_sheet.2.2.1 (.ref 67 :: vs)) [] I (pQ2 bT shM_3_md I (pEz 1 [(82, 3, 1), (83, 3, 2)] false (0, 99) [(84, 120, 0), (84, 121, 0), (84, 122, 0), (84, 123, 0), (84, 124, 0), (84, 125, 0), (84, 126, 0), (84, 127, 0), (84, 128, 0), (84, 129, 0), (84, 130, 0), (84, 131, 0), (84, 132, 0), (84, 133, 0), (84, 134, 0), (84, 135, 0), (84, 136, 0), (84, 137, 0), (84, 138, 0), (84, 139, 0), (84, 140, 0), (84, 141, 0), (84, 142, 0), (84, 143, 0), (84, 144, 0), (84, 145, 0), (84, 146, 0), (84, 147, 0), (84, 148, 0), (84, 149, 0), (84, 150, 0), (84, 151, 0), (84, 152, 0), (84, 153, 0), (84, 154, 0), (84, 155, 0), (84, 156, 0), (84, 157, 0), (84, 158, 0), (84, 159, 0)] vs) 0) := p1_box (xc := pxz (aentA [(0, 3, 3), (0, 0, 4), (0, 0, 40)] []).1 1 [(82, 3, 1), (83, 3, 2)] false (0, 99) [(84, 120, 0), (84, 121, 0), (84, 122, 0), (84, 123, 0), (84, 124, 0), (84, 125, 0), (84, 126, 0), (84, 127, 0), (84, 128, 0), (84, 129, 0), (84, 130, 0), (84, 131, 0), (84, 132, 0), (84, 133, 0), (84, 134, 0), (84, 135, 0), (84, 136, 0), (84, 137, 0), (84, 138, 0), (84, 139, 0), (84, 140, 0), (84, 141, 0), (84, 142, 0), (84, 143, 0), (84, 144, 0), (84, 145, 0), (84, 146, 0), (84, 147, 0), (84, 148, 0), (84, 149, 0), (84, 150, 0), (84, 151, 0), (84, 152, 0), (84, 153, 0), (84, 154, 0), (84, 155, 0), (84, 156, 0), (84, 157, 0), (84, 158, 0), (84, 159, 0)]) (E := pEz 1 [(82, 3, 1), (83, 3, 2)] false (0, 99) [(84, 120, 0), (84, 121, 0), (84, 122, 0), (84, 123, 0), (84, 124, 0), (84, 125, 0), (84, 126, 0), (84, 127, 0), (84, 128, 0), (84, 129, 0), (84, 130, 0), (84, 131, 0), (84, 132, 0), (84, 133, 0), (84, 134, 0), (84, 135, 0), (84, 136, 0), (84, 137, 0), (84, 138, 0), (84, 139, 0), (84, 140, 0), (84, 141, 0), (84, 142, 0), (84, 143, 0), (84, 144, 0), (84, 145, 0), (84, 146, 0), (84, 147, 0), (84, 148, 0), (84, 149, 0), (84, 150, 0), (84, 151, 0), (84, 152, 0), (84, 153, 0), (84, 154, 0), (84, 155, 0), (84, 156, 0), (84, 157, 0), (84, 158, 0), (84, 159, 0)]) (args := [(0, 3, 3), (0, 0, 4), (0, 0, 40)]) (pre := []) (pm := [(127, 3, [], ops_X12_in1), (174, 1, [], ops_X12_isSheet), (270, 5, [], ops_X12_sheet)]) (mi1 := 270) (nl1 := 5) (fuel := 622) (by decide +kernel) (fun vs => pxz_ok vs) (pmOK.cons mt_X12_in1 rfl os_X12_in1 (pmOK.cons mt_X12_isSheet rfl os_X12_isSheet (pmOK.cons mt_X12_sheet rfl os_X12_sheet (pmOK.nil)))) mt_X12_sheet rfl d vs I ha hi (fun s hs => absurd hs List.not_mem_nil)
theorem pr_sheet : prOK mX11_sheet mX12_sheet 3 true := by
  intro d xs I hn hi hw
  match xs, hn with
  | [a, b, c], _ =>
    have ra : (-2147483648 : Int) ≤ a.toInt ∧ a.toInt ≤ 2147483647 := a_rng a
    have rb : (-2147483648 : Int) ≤ b.toInt ∧ b.toInt ≤ 2147483647 := a_rng b
    have rc : (-2147483648 : Int) ≤ c.toInt ∧ c.toInt ≤ 2147483647 := a_rng c
    by_cases hsh1 : a.toInt < 0
    · exact sh1 d a b c I hi (ax3 (by omega)) no_pre (fun x y J _ hf h => ex_wf hw hf h)
    by_cases hsh2 : 3 < a.toInt
    · exact sh2 d a b c I hi (ax3 (by omega)) no_pre (fun x y J _ hf h => ex_wf hw hf h)
    by_cases hsh3 : b.toInt < -1
    · exact sh3 d a b c I hi (ax3 (by omega)) no_pre (fun x y J _ hf h => ex_wf hw hf h)
    by_cases hsh4 : 4 < b.toInt
    · exact sh4 d a b c I hi (ax3 (by omega)) no_pre (fun x y J _ hf h => ex_wf hw hf h)
    have hs : a.toInt = 0 ∨ a.toInt = 1 ∨ a.toInt = 2 ∨ a.toInt = 3 := by omega
    by_cases hb : b.toInt = -1
    · rcases hs with hs | hs | hs | hs
      · refine sh7_0 d a b c I hi (ax3 (by omega)) no_pre (fun x y J _ hf h => ⟨h.1, sh_wf (s := 0) (by decide +kernel) hw hf (h.2.1 _ List.mem_cons_self) (fun hn => absurd ?_ hn)⟩)
        exact Int32.toInt_inj.mp (h.2.2 (2, 0, -1) List.mem_cons_self)
      · refine sh7_1 d a b c I hi (ax3 (by omega)) no_pre (fun x y J _ hf h => ⟨h.1, sh_wf (s := 1) (by decide +kernel) hw hf (h.2.1 _ List.mem_cons_self) (fun hn => absurd ?_ hn)⟩)
        exact Int32.toInt_inj.mp (h.2.2 (2, 1, -1) List.mem_cons_self)
      · refine sh7_2 d a b c I hi (ax3 (by omega)) no_pre (fun x y J _ hf h => ⟨h.1, sh_wf (s := 2) (by decide +kernel) hw hf (h.2.1 _ List.mem_cons_self) (fun hn => absurd ?_ hn)⟩)
        exact Int32.toInt_inj.mp (h.2.2 (2, 2, -1) List.mem_cons_self)
      · refine sh7_3 d a b c I hi (ax3 (by omega)) no_pre (fun x y J _ hf h => ⟨h.1, sh_wf (s := 3) (by decide +kernel) hw hf (h.2.1 _ List.mem_cons_self) (fun hn => absurd ?_ hn)⟩)
        exact Int32.toInt_inj.mp (h.2.2 (2, 3, -1) List.mem_cons_self)
    by_cases hsh5 : 40 < c.toInt
    · exact sh5 d a b c I hi (ax3 (by omega)) no_pre (fun x y J _ hf h => ex_wf hw hf h)
    by_cases hsh6 : c.toInt < 0
    · exact sh6 d a b c I hi (ax3 (by omega)) no_pre (fun x y J _ hf h => ex_wf hw hf h)
    rcases hs with hs | hs | hs | hs
    · refine G_mono (shX_0 d _ I hi (ax3 (by omega))) ?_
      rintro r hh ⟨x, J, e1, e2, i1, i2, i3, i4, i5, -⟩
      refine ⟨x, J, e1, e2, G_mono (shM_0 d _ J i1 (ax3 (by omega))) ?_⟩
      rintro r2 hh2 ⟨y, J2, e3, e4, j1, j2, j3, j4, -, j5⟩
      have f1 : J 2 0 = b := by simpa using (i4 (2, 0, 1) (by decide)).symm
      have f2 : J 3 0 = c := by simpa using (i4 (3, 0, 2) (by decide)).symm
      have f3 : J2 82 0 = b := by simpa using (j4 (82, 0, 1) (by decide)).symm
      have f4 : J2 83 0 = c := by simpa using (j4 (83, 0, 2) (by decide)).symm
      have f5 : J2 2 0 = b := (j2 2 0 (by decide +kernel)).trans f1
      have f6 : J2 3 0 = c := (j2 3 0 (by decide +kernel)).trans f2
      obtain ⟨n, hn, hz⟩ := i5 rfl
      have hn : n = c := by simpa using hn.symm
      subst hn
      have hf : afr (shX_0_md ++ shM_0_md) I J2 := fun c j hm => (j2 c j (amdsub_ok (by decide +kernel) hm)).trans (i2 c j (amdsub_ok (by decide +kernel) hm))
      refine ⟨y, J2, e3, e4, (fun _ => Int32.toInt_inj.mp (j3.trans i3.symm)), j1, sh_wf (s := 0) (by decide +kernel) hw hf (f5.trans f3.symm) (fun _ => ⟨f6.trans f4.symm, fun j hj hc => ?_⟩)⟩
      rw [f6] at hc
      have g1 : J2 5 j = 0 := (j2 5 j (nc_ok (by decide +kernel))).trans (hz j hc)
      have g2 : J2 84 (0 + j) = 0 := Int32.toInt_inj.mp (j5 (84, 0 + j, 0) (List.mem_map.mpr ⟨j, List.mem_range.mpr hj, rfl⟩ : _ ∈ (List.range 40).map (fun j => (84, 0 + j, (0 : Int)))))
      exact g1.trans g2.symm
    · refine G_mono (shX_1 d _ I hi (ax3 (by omega))) ?_
      rintro r hh ⟨x, J, e1, e2, i1, i2, i3, i4, i5, -⟩
      refine ⟨x, J, e1, e2, G_mono (shM_1 d _ J i1 (ax3 (by omega))) ?_⟩
      rintro r2 hh2 ⟨y, J2, e3, e4, j1, j2, j3, j4, -, j5⟩
      have f1 : J 2 1 = b := by simpa using (i4 (2, 1, 1) (by decide)).symm
      have f2 : J 3 1 = c := by simpa using (i4 (3, 1, 2) (by decide)).symm
      have f3 : J2 82 1 = b := by simpa using (j4 (82, 1, 1) (by decide)).symm
      have f4 : J2 83 1 = c := by simpa using (j4 (83, 1, 2) (by decide)).symm
      have f5 : J2 2 1 = b := (j2 2 1 (by decide +kernel)).trans f1
      have f6 : J2 3 1 = c := (j2 3 1 (by decide +kernel)).trans f2
      obtain ⟨n, hn, hz⟩ := i5 rfl
      have hn : n = c := by simpa using hn.symm
      subst hn
      have hf : afr (shX_1_md ++ shM_1_md) I J2 := fun c j hm => (j2 c j (amdsub_ok (by decide +kernel) hm)).trans (i2 c j (amdsub_ok (by decide +kernel) hm))
      refine ⟨y, J2, e3, e4, (fun _ => Int32.toInt_inj.mp (j3.trans i3.symm)), j1, sh_wf (s := 1) (by decide +kernel) hw hf (f5.trans f3.symm) (fun _ => ⟨f6.trans f4.symm, fun j hj hc => ?_⟩)⟩
      rw [f6] at hc
      have g1 : J2 6 j = 0 := (j2 6 j (nc_ok (by decide +kernel))).trans (hz j hc)
      have g2 : J2 84 (40 + j) = 0 := Int32.toInt_inj.mp (j5 (84, 40 + j, 0) (List.mem_map.mpr ⟨j, List.mem_range.mpr hj, rfl⟩ : _ ∈ (List.range 40).map (fun j => (84, 40 + j, (0 : Int)))))
      exact g1.trans g2.symm
    · refine G_mono (shX_2 d _ I hi (ax3 (by omega))) ?_
      rintro r hh ⟨x, J, e1, e2, i1, i2, i3, i4, i5, -⟩
      refine ⟨x, J, e1, e2, G_mono (shM_2 d _ J i1 (ax3 (by omega))) ?_⟩
      rintro r2 hh2 ⟨y, J2, e3, e4, j1, j2, j3, j4, -, j5⟩
      have f1 : J 2 2 = b := by simpa using (i4 (2, 2, 1) (by decide)).symm
      have f2 : J 3 2 = c := by simpa using (i4 (3, 2, 2) (by decide)).symm
      have f3 : J2 82 2 = b := by simpa using (j4 (82, 2, 1) (by decide)).symm
      have f4 : J2 83 2 = c := by simpa using (j4 (83, 2, 2) (by decide)).symm
      have f5 : J2 2 2 = b := (j2 2 2 (by decide +kernel)).trans f1
      have f6 : J2 3 2 = c := (j2 3 2 (by decide +kernel)).trans f2
      obtain ⟨n, hn, hz⟩ := i5 rfl
      have hn : n = c := by simpa using hn.symm
      subst hn
      have hf : afr (shX_2_md ++ shM_2_md) I J2 := fun c j hm => (j2 c j (amdsub_ok (by decide +kernel) hm)).trans (i2 c j (amdsub_ok (by decide +kernel) hm))
      refine ⟨y, J2, e3, e4, (fun _ => Int32.toInt_inj.mp (j3.trans i3.symm)), j1, sh_wf (s := 2) (by decide +kernel) hw hf (f5.trans f3.symm) (fun _ => ⟨f6.trans f4.symm, fun j hj hc => ?_⟩)⟩
      rw [f6] at hc
      have g1 : J2 7 j = 0 := (j2 7 j (nc_ok (by decide +kernel))).trans (hz j hc)
      have g2 : J2 84 (80 + j) = 0 := Int32.toInt_inj.mp (j5 (84, 80 + j, 0) (List.mem_map.mpr ⟨j, List.mem_range.mpr hj, rfl⟩ : _ ∈ (List.range 40).map (fun j => (84, 80 + j, (0 : Int)))))
      exact g1.trans g2.symm
    · refine G_mono (shX_3 d _ I hi (ax3 (by omega))) ?_
      rintro r hh ⟨x, J, e1, e2, i1, i2, i3, i4, i5, -⟩
      refine ⟨x, J, e1, e2, G_mono (shM_3 d _ J i1 (ax3 (by omega))) ?_⟩
      rintro r2 hh2 ⟨y, J2, e3, e4, j1, j2, j3, j4, -, j5⟩
      have f1 : J 2 3 = b := by simpa using (i4 (2, 3, 1) (by decide)).symm
      have f2 : J 3 3 = c := by simpa using (i4 (3, 3, 2) (by decide)).symm
      have f3 : J2 82 3 = b := by simpa using (j4 (82, 3, 1) (by decide)).symm
      have f4 : J2 83 3 = c := by simpa using (j4 (83, 3, 2) (by decide)).symm
      have f5 : J2 2 3 = b := (j2 2 3 (by decide +kernel)).trans f1
      have f6 : J2 3 3 = c := (j2 3 3 (by decide +kernel)).trans f2
      obtain ⟨n, hn, hz⟩ := i5 rfl
      have hn : n = c := by simpa using hn.symm
      subst hn
      have hf : afr (shX_3_md ++ shM_3_md) I J2 := fun c j hm => (j2 c j (amdsub_ok (by decide +kernel) hm)).trans (i2 c j (amdsub_ok (by decide +kernel) hm))
      refine ⟨y, J2, e3, e4, (fun _ => Int32.toInt_inj.mp (j3.trans i3.symm)), j1, sh_wf (s := 3) (by decide +kernel) hw hf (f5.trans f3.symm) (fun _ => ⟨f6.trans f4.symm, fun j hj hc => ?_⟩)⟩
      rw [f6] at hc
      have g1 : J2 8 j = 0 := (j2 8 j (nc_ok (by decide +kernel))).trans (hz j hc)
      have g2 : J2 84 (120 + j) = 0 := Int32.toInt_inj.mp (j5 (84, 120 + j, 0) (List.mem_map.mpr ⟨j, List.mem_range.mpr hj, rfl⟩ : _ ∈ (List.range 40).map (fun j => (84, 120 + j, (0 : Int)))))
      exact g1.trans g2.symm
def wr1_md : aMd := []
theorem wr1 (d : Nat) (a b c : Int32) (I : gI) (hi : aInv bT I) (ha : argsOK [(0, (-2147483648), (-1)), (0, (-2147483648), 2147483647), (0, (-2147483648), 2147483647)] ([a, b, c].map Value.int)) (hp : ∀ s ∈ ([] : List (Nat × Nat × Int × Int)), slotOK I s) (hE : ∀ x y J, aInv bT J → afr wr1_md I J → pEx true [] [] x y J → (true = true → y = x) ∧ WF J) : gg (d + 40) mX11_write 0 (gent mX11_write.2.2.1 (.ref 0 :: [a, b, c].map Value.int)) [] I (pbM (fun x J => gg (d + 40) mX12_write 0 (gent mX12_write.2.2.1 (.ref 67 :: [a, b, c].map Value.int)) [] J (prE true x))) := pr_box (xc := fun B K _ v w => pxt true [] [] B K v w) (E := fun _ => pEx true [] []) (pm := [(37, 3, [], ops_X11_isIn), (103, 1, [], ops_X11_isPlace), (271, 4, [], ops_X11_write), (127, 3, [], ops_X12_in1), (174, 1, [], ops_X12_isSheet), (273, 4, [], ops_X12_write)]) (mi1 := 271) (nl1 := 4) (mi2 := 273) (nl2 := 4) (fuel := 33) (by decide +kernel) (fun vs => pxt_ok) (pmOK.cons mt_X11_isIn rfl os_X11_isIn (pmOK.cons mt_X11_isPlace rfl os_X11_isPlace (pmOK.cons mt_X11_write rfl os_X11_write (pmOK.cons mt_X12_in1 rfl os_X12_in1 (pmOK.cons mt_X12_isSheet rfl os_X12_isSheet (pmOK.cons mt_X12_write rfl os_X12_write (pmOK.nil))))))) mt_X11_write rfl mt_X12_write rfl d [a, b, c] I ha hi hp hE
def wr2_md : aMd := []
theorem wr2 (d : Nat) (a b c : Int32) (I : gI) (hi : aInv bT I) (ha : argsOK [(0, 4, 2147483647), (0, (-2147483648), 2147483647), (0, (-2147483648), 2147483647)] ([a, b, c].map Value.int)) (hp : ∀ s ∈ ([] : List (Nat × Nat × Int × Int)), slotOK I s) (hE : ∀ x y J, aInv bT J → afr wr2_md I J → pEx true [] [] x y J → (true = true → y = x) ∧ WF J) : gg (d + 40) mX11_write 0 (gent mX11_write.2.2.1 (.ref 0 :: [a, b, c].map Value.int)) [] I (pbM (fun x J => gg (d + 40) mX12_write 0 (gent mX12_write.2.2.1 (.ref 67 :: [a, b, c].map Value.int)) [] J (prE true x))) := pr_box (xc := fun B K _ v w => pxt true [] [] B K v w) (E := fun _ => pEx true [] []) (pm := [(37, 3, [], ops_X11_isIn), (103, 1, [], ops_X11_isPlace), (271, 4, [], ops_X11_write), (127, 3, [], ops_X12_in1), (174, 1, [], ops_X12_isSheet), (273, 4, [], ops_X12_write)]) (mi1 := 271) (nl1 := 4) (mi2 := 273) (nl2 := 4) (fuel := 39) (by decide +kernel) (fun vs => pxt_ok) (pmOK.cons mt_X11_isIn rfl os_X11_isIn (pmOK.cons mt_X11_isPlace rfl os_X11_isPlace (pmOK.cons mt_X11_write rfl os_X11_write (pmOK.cons mt_X12_in1 rfl os_X12_in1 (pmOK.cons mt_X12_isSheet rfl os_X12_isSheet (pmOK.cons mt_X12_write rfl os_X12_write (pmOK.nil))))))) mt_X11_write rfl mt_X12_write rfl d [a, b, c] I ha hi hp hE
def wr3_0_md : aMd := []
theorem wr3_0 (d : Nat) (a b c : Int32) (I : gI) (hi : aInv bT I) (ha : argsOK [(0, 0, 0), (0, (-2147483648), 2147483647), (0, (-2147483648), 2147483647)] ([a, b, c].map Value.int)) (hp : ∀ s ∈ ([(82, 0, (-1), (-1)), (2, 0, 10000000082, 0)] : List (Nat × Nat × Int × Int)), slotOK I s) (hE : ∀ x y J, aInv bT J → afr wr3_0_md I J → pEx true [] [] x y J → (true = true → y = x) ∧ WF J) : gg (d + 40) mX11_write 0 (gent mX11_write.2.2.1 (.ref 0 :: [a, b, c].map Value.int)) [] I (pbM (fun x J => gg (d + 40) mX12_write 0 (gent mX12_write.2.2.1 (.ref 67 :: [a, b, c].map Value.int)) [] J (prE true x))) := pr_box (xc := fun B K _ v w => pxt true [] [] B K v w) (E := fun _ => pEx true [] []) (pm := [(37, 3, [], ops_X11_isIn), (103, 1, [], ops_X11_isPlace), (271, 4, [], ops_X11_write), (127, 3, [], ops_X12_in1), (174, 1, [], ops_X12_isSheet), (273, 4, [], ops_X12_write)]) (mi1 := 271) (nl1 := 4) (mi2 := 273) (nl2 := 4) (fuel := 52) (by decide +kernel) (fun vs => pxt_ok) (pmOK.cons mt_X11_isIn rfl os_X11_isIn (pmOK.cons mt_X11_isPlace rfl os_X11_isPlace (pmOK.cons mt_X11_write rfl os_X11_write (pmOK.cons mt_X12_in1 rfl os_X12_in1 (pmOK.cons mt_X12_isSheet rfl os_X12_isSheet (pmOK.cons mt_X12_write rfl os_X12_write (pmOK.nil))))))) mt_X11_write rfl mt_X12_write rfl d [a, b, c] I ha hi hp hE
def wr3_1_md : aMd := []
theorem wr3_1 (d : Nat) (a b c : Int32) (I : gI) (hi : aInv bT I) (ha : argsOK [(0, 1, 1), (0, (-2147483648), 2147483647), (0, (-2147483648), 2147483647)] ([a, b, c].map Value.int)) (hp : ∀ s ∈ ([(82, 1, (-1), (-1)), (2, 1, 10000000082, 1)] : List (Nat × Nat × Int × Int)), slotOK I s) (hE : ∀ x y J, aInv bT J → afr wr3_1_md I J → pEx true [] [] x y J → (true = true → y = x) ∧ WF J) : gg (d + 40) mX11_write 0 (gent mX11_write.2.2.1 (.ref 0 :: [a, b, c].map Value.int)) [] I (pbM (fun x J => gg (d + 40) mX12_write 0 (gent mX12_write.2.2.1 (.ref 67 :: [a, b, c].map Value.int)) [] J (prE true x))) := pr_box (xc := fun B K _ v w => pxt true [] [] B K v w) (E := fun _ => pEx true [] []) (pm := [(37, 3, [], ops_X11_isIn), (103, 1, [], ops_X11_isPlace), (271, 4, [], ops_X11_write), (127, 3, [], ops_X12_in1), (174, 1, [], ops_X12_isSheet), (273, 4, [], ops_X12_write)]) (mi1 := 271) (nl1 := 4) (mi2 := 273) (nl2 := 4) (fuel := 52) (by decide +kernel) (fun vs => pxt_ok) (pmOK.cons mt_X11_isIn rfl os_X11_isIn (pmOK.cons mt_X11_isPlace rfl os_X11_isPlace (pmOK.cons mt_X11_write rfl os_X11_write (pmOK.cons mt_X12_in1 rfl os_X12_in1 (pmOK.cons mt_X12_isSheet rfl os_X12_isSheet (pmOK.cons mt_X12_write rfl os_X12_write (pmOK.nil))))))) mt_X11_write rfl mt_X12_write rfl d [a, b, c] I ha hi hp hE
def wr3_2_md : aMd := []
theorem wr3_2 (d : Nat) (a b c : Int32) (I : gI) (hi : aInv bT I) (ha : argsOK [(0, 2, 2), (0, (-2147483648), 2147483647), (0, (-2147483648), 2147483647)] ([a, b, c].map Value.int)) (hp : ∀ s ∈ ([(82, 2, (-1), (-1)), (2, 2, 10000000082, 2)] : List (Nat × Nat × Int × Int)), slotOK I s) (hE : ∀ x y J, aInv bT J → afr wr3_2_md I J → pEx true [] [] x y J → (true = true → y = x) ∧ WF J) : gg (d + 40) mX11_write 0 (gent mX11_write.2.2.1 (.ref 0 :: [a, b, c].map Value.int)) [] I (pbM (fun x J => gg (d + 40) mX12_write 0 (gent mX12_write.2.2.1 (.ref 67 :: [a, b, c].map Value.int)) [] J (prE true x))) := pr_box (xc := fun B K _ v w => pxt true [] [] B K v w) (E := fun _ => pEx true [] []) (pm := [(37, 3, [], ops_X11_isIn), (103, 1, [], ops_X11_isPlace), (271, 4, [], ops_X11_write), (127, 3, [], ops_X12_in1), (174, 1, [], ops_X12_isSheet), (273, 4, [], ops_X12_write)]) (mi1 := 271) (nl1 := 4) (mi2 := 273) (nl2 := 4) (fuel := 52) (by decide +kernel) (fun vs => pxt_ok) (pmOK.cons mt_X11_isIn rfl os_X11_isIn (pmOK.cons mt_X11_isPlace rfl os_X11_isPlace (pmOK.cons mt_X11_write rfl os_X11_write (pmOK.cons mt_X12_in1 rfl os_X12_in1 (pmOK.cons mt_X12_isSheet rfl os_X12_isSheet (pmOK.cons mt_X12_write rfl os_X12_write (pmOK.nil))))))) mt_X11_write rfl mt_X12_write rfl d [a, b, c] I ha hi hp hE
def wr3_3_md : aMd := []
theorem wr3_3 (d : Nat) (a b c : Int32) (I : gI) (hi : aInv bT I) (ha : argsOK [(0, 3, 3), (0, (-2147483648), 2147483647), (0, (-2147483648), 2147483647)] ([a, b, c].map Value.int)) (hp : ∀ s ∈ ([(82, 3, (-1), (-1)), (2, 3, 10000000082, 3)] : List (Nat × Nat × Int × Int)), slotOK I s) (hE : ∀ x y J, aInv bT J → afr wr3_3_md I J → pEx true [] [] x y J → (true = true → y = x) ∧ WF J) : gg (d + 40) mX11_write 0 (gent mX11_write.2.2.1 (.ref 0 :: [a, b, c].map Value.int)) [] I (pbM (fun x J => gg (d + 40) mX12_write 0 (gent mX12_write.2.2.1 (.ref 67 :: [a, b, c].map Value.int)) [] J (prE true x))) := pr_box (xc := fun B K _ v w => pxt true [] [] B K v w) (E := fun _ => pEx true [] []) (pm := [(37, 3, [], ops_X11_isIn), (103, 1, [], ops_X11_isPlace), (271, 4, [], ops_X11_write), (127, 3, [], ops_X12_in1), (174, 1, [], ops_X12_isSheet), (273, 4, [], ops_X12_write)]) (mi1 := 271) (nl1 := 4) (mi2 := 273) (nl2 := 4) (fuel := 52) (by decide +kernel) (fun vs => pxt_ok) (pmOK.cons mt_X11_isIn rfl os_X11_isIn (pmOK.cons mt_X11_isPlace rfl os_X11_isPlace (pmOK.cons mt_X11_write rfl os_X11_write (pmOK.cons mt_X12_in1 rfl os_X12_in1 (pmOK.cons mt_X12_isSheet rfl os_X12_isSheet (pmOK.cons mt_X12_write rfl os_X12_write (pmOK.nil))))))) mt_X11_write rfl mt_X12_write rfl d [a, b, c] I ha hi hp hE
def it1_md : aMd := []
theorem it1 (d : Nat) (a b c : Int32) (I : gI) (hi : aInv bT I) (ha : argsOK [(0, (-2147483648), (-1)), (0, (-2147483648), 2147483647), (0, (-2147483648), 2147483647)] ([a, b, c].map Value.int)) (hp : ∀ s ∈ ([] : List (Nat × Nat × Int × Int)), slotOK I s) (hE : ∀ x y J, aInv bT J → afr it1_md I J → pEx true [] [] x y J → (true = true → y = x) ∧ WF J) : gg (d + 40) mX11_item 0 (gent mX11_item.2.2.1 (.ref 0 :: [a, b, c].map Value.int)) [] I (pbM (fun x J => gg (d + 40) mX12_item 0 (gent mX12_item.2.2.1 (.ref 67 :: [a, b, c].map Value.int)) [] J (prE true x))) := pr_box (xc := fun B K _ v w => pxt true [] [] B K v w) (E := fun _ => pEx true [] []) (pm := [(37, 3, [], ops_X11_isIn), (103, 1, [], ops_X11_isPlace), (275, 5, [], ops_X11_item), (127, 3, [], ops_X12_in1), (174, 1, [], ops_X12_isSheet), (276, 5, [], ops_X12_item)]) (mi1 := 275) (nl1 := 5) (mi2 := 276) (nl2 := 5) (fuel := 33) (by decide +kernel) (fun vs => pxt_ok) (pmOK.cons mt_X11_isIn rfl os_X11_isIn (pmOK.cons mt_X11_isPlace rfl os_X11_isPlace (pmOK.cons mt_X11_item rfl os_X11_item (pmOK.cons mt_X12_in1 rfl os_X12_in1 (pmOK.cons mt_X12_isSheet rfl os_X12_isSheet (pmOK.cons mt_X12_item rfl os_X12_item (pmOK.nil))))))) mt_X11_item rfl mt_X12_item rfl d [a, b, c] I ha hi hp hE
def it2_md : aMd := []
theorem it2 (d : Nat) (a b c : Int32) (I : gI) (hi : aInv bT I) (ha : argsOK [(0, 4, 2147483647), (0, (-2147483648), 2147483647), (0, (-2147483648), 2147483647)] ([a, b, c].map Value.int)) (hp : ∀ s ∈ ([] : List (Nat × Nat × Int × Int)), slotOK I s) (hE : ∀ x y J, aInv bT J → afr it2_md I J → pEx true [] [] x y J → (true = true → y = x) ∧ WF J) : gg (d + 40) mX11_item 0 (gent mX11_item.2.2.1 (.ref 0 :: [a, b, c].map Value.int)) [] I (pbM (fun x J => gg (d + 40) mX12_item 0 (gent mX12_item.2.2.1 (.ref 67 :: [a, b, c].map Value.int)) [] J (prE true x))) := pr_box (xc := fun B K _ v w => pxt true [] [] B K v w) (E := fun _ => pEx true [] []) (pm := [(37, 3, [], ops_X11_isIn), (103, 1, [], ops_X11_isPlace), (275, 5, [], ops_X11_item), (127, 3, [], ops_X12_in1), (174, 1, [], ops_X12_isSheet), (276, 5, [], ops_X12_item)]) (mi1 := 275) (nl1 := 5) (mi2 := 276) (nl2 := 5) (fuel := 39) (by decide +kernel) (fun vs => pxt_ok) (pmOK.cons mt_X11_isIn rfl os_X11_isIn (pmOK.cons mt_X11_isPlace rfl os_X11_isPlace (pmOK.cons mt_X11_item rfl os_X11_item (pmOK.cons mt_X12_in1 rfl os_X12_in1 (pmOK.cons mt_X12_isSheet rfl os_X12_isSheet (pmOK.cons mt_X12_item rfl os_X12_item (pmOK.nil))))))) mt_X11_item rfl mt_X12_item rfl d [a, b, c] I ha hi hp hE
def it3_md : aMd := []
theorem it3 (d : Nat) (a b c : Int32) (I : gI) (hi : aInv bT I) (ha : argsOK [(0, 0, 3), (0, (-2147483648), (-1)), (0, (-2147483648), 2147483647)] ([a, b, c].map Value.int)) (hp : ∀ s ∈ ([] : List (Nat × Nat × Int × Int)), slotOK I s) (hE : ∀ x y J, aInv bT J → afr it3_md I J → pEx true [] [] x y J → (true = true → y = x) ∧ WF J) : gg (d + 40) mX11_item 0 (gent mX11_item.2.2.1 (.ref 0 :: [a, b, c].map Value.int)) [] I (pbM (fun x J => gg (d + 40) mX12_item 0 (gent mX12_item.2.2.1 (.ref 67 :: [a, b, c].map Value.int)) [] J (prE true x))) := pr_box (xc := fun B K _ v w => pxt true [] [] B K v w) (E := fun _ => pEx true [] []) (pm := [(37, 3, [], ops_X11_isIn), (103, 1, [], ops_X11_isPlace), (275, 5, [], ops_X11_item), (127, 3, [], ops_X12_in1), (174, 1, [], ops_X12_isSheet), (276, 5, [], ops_X12_item)]) (mi1 := 275) (nl1 := 5) (mi2 := 276) (nl2 := 5) (fuel := 61) (by decide +kernel) (fun vs => pxt_ok) (pmOK.cons mt_X11_isIn rfl os_X11_isIn (pmOK.cons mt_X11_isPlace rfl os_X11_isPlace (pmOK.cons mt_X11_item rfl os_X11_item (pmOK.cons mt_X12_in1 rfl os_X12_in1 (pmOK.cons mt_X12_isSheet rfl os_X12_isSheet (pmOK.cons mt_X12_item rfl os_X12_item (pmOK.nil))))))) mt_X11_item rfl mt_X12_item rfl d [a, b, c] I ha hi hp hE
def it4_md : aMd := []
theorem it4 (d : Nat) (a b c : Int32) (I : gI) (hi : aInv bT I) (ha : argsOK [(0, 0, 3), (0, 5, 2147483647), (0, (-2147483648), 2147483647)] ([a, b, c].map Value.int)) (hp : ∀ s ∈ ([] : List (Nat × Nat × Int × Int)), slotOK I s) (hE : ∀ x y J, aInv bT J → afr it4_md I J → pEx true [] [] x y J → (true = true → y = x) ∧ WF J) : gg (d + 40) mX11_item 0 (gent mX11_item.2.2.1 (.ref 0 :: [a, b, c].map Value.int)) [] I (pbM (fun x J => gg (d + 40) mX12_item 0 (gent mX12_item.2.2.1 (.ref 67 :: [a, b, c].map Value.int)) [] J (prE true x))) := pr_box (xc := fun B K _ v w => pxt true [] [] B K v w) (E := fun _ => pEx true [] []) (pm := [(37, 3, [], ops_X11_isIn), (103, 1, [], ops_X11_isPlace), (275, 5, [], ops_X11_item), (127, 3, [], ops_X12_in1), (174, 1, [], ops_X12_isSheet), (276, 5, [], ops_X12_item)]) (mi1 := 275) (nl1 := 5) (mi2 := 276) (nl2 := 5) (fuel := 67) (by decide +kernel) (fun vs => pxt_ok) (pmOK.cons mt_X11_isIn rfl os_X11_isIn (pmOK.cons mt_X11_isPlace rfl os_X11_isPlace (pmOK.cons mt_X11_item rfl os_X11_item (pmOK.cons mt_X12_in1 rfl os_X12_in1 (pmOK.cons mt_X12_isSheet rfl os_X12_isSheet (pmOK.cons mt_X12_item rfl os_X12_item (pmOK.nil))))))) mt_X11_item rfl mt_X12_item rfl d [a, b, c] I ha hi hp hE
theorem pr_write : prOK mX11_write mX12_write 3 true := by
  intro d xs I hn hi hw
  match xs, hn with
  | [a, b, c], _ =>
    have ra : (-2147483648 : Int) ≤ a.toInt ∧ a.toInt ≤ 2147483647 := a_rng a
    have rb : (-2147483648 : Int) ≤ b.toInt ∧ b.toInt ≤ 2147483647 := a_rng b
    have rc : (-2147483648 : Int) ≤ c.toInt ∧ c.toInt ≤ 2147483647 := a_rng c
    by_cases h1 : a.toInt < 0
    · exact wr1 d a b c I hi (ax3 (by omega)) no_pre (fun x y J _ hf h => ex_wf hw hf h)
    by_cases h2 : 3 < a.toInt
    · exact wr2 d a b c I hi (ax3 (by omega)) no_pre (fun x y J _ hf h => ex_wf hw hf h)
    have hs : a.toInt = 0 ∨ a.toInt = 1 ∨ a.toInt = 2 ∨ a.toInt = 3 := by omega
    rcases hs with hs | hs | hs | hs
    · have ea : a = 0 := Int32.toInt_inj.mp hs
      subst ea
      have hq : I 2 0 = I 82 0 := hw.2.2.2.2.1 (2, 0, 82, 0) (by decide +kernel)
      have hr := ain_of hi (show bnd bT 82 0 = (-1, 4) by decide +kernel)
      have hr2 := ain_of hi (show bnd bT 83 0 = (0, 40) by decide +kernel)
      have hr3 := ain_of hi (show bnd bT 3 0 = (0, 40) by decide +kernel)
      dsimp only at hr hr2 hr3
      by_cases hm : I 2 0 = -1
      · refine wr3_0 d 0 b c I hi (ax3 (by omega)) (fun s hs => ?_) (fun x y J _ hf h => ex_wf hw hf h)
        rcases List.mem_cons.mp hs with rfl | hs
        · exact slotOK_m (by decide) (by rw [← hq, hm]; exact ⟨by decide, by decide⟩)
        · rw [List.mem_singleton.mp hs]
          exact slotOK_q (c' := 82) (j' := 0) hq
      · have hz : (I 82 0).toInt ≠ -1 := fun e => hm (Int32.toInt_inj.mp (by rw [hq]; exact e))
        have hx := hw.2.2.2.2.2.1 0 (by decide) hm
        have ht : 0 ≤ (I 2 0).toInt ∧ (I 2 0).toInt ≤ 4 := by rw [hq]; omega
        refine writeX_0 (d := d + 37) ht hr3 (fun u v => ?_) (fun u => ?_)
        · refine ⟨1, _, rfl, rfl, ?_⟩
          have k1 : gup I 5 b.toInt.toNat (nar c (I 2 0)) 82 0 = I 82 0 := gup_ne (Or.inl (by decide))
          have k2 : gup I 5 b.toInt.toNat (nar c (I 2 0)) 83 0 = I 83 0 := gup_ne (Or.inl (by decide))
          refine writeM_0 (d := d + 37) (by rw [k1]; omega) (by rw [k2]; exact hr2) (fun _ _ => ?_) (fun w => ?_)
          · rw [k1]
            refine ⟨1, _, rfl, rfl, (fun _ => rfl), inv_put (inv_put hi (a_full (bn_nil (by decide +kernel)))) (a_full (bn_nil (by decide +kernel))), ?_⟩
            refine sh_wf (s := 0) (md := [(5, 0, 39), (84, 0, 39)]) (by decide +kernel) hw ((afr.rf.put (amodr_i (a := 0) (b := 39) (by decide) (Nat.zero_le _) (by omega))).put (amodr_i (a := 0) (b := 39) (by decide) (by omega) (by omega))) ?_ (fun _ => ⟨?_, fun j hj hc => ?_⟩)
            · rw [gup_ne (Or.inl (by decide)), gup_ne (Or.inl (by decide)), gup_ne (Or.inl (by decide)), gup_ne (Or.inl (by decide))]
              exact hq
            · rw [gup_ne (Or.inl (by decide)), gup_ne (Or.inl (by decide)), gup_ne (Or.inl (by decide)), gup_ne (Or.inl (by decide))]
              exact hx.1
            · rw [gup_ne (Or.inl (by decide)), gup_ne (Or.inl (by decide))] at hc
              rw [gup_ne (c' := 5 + 0) (Or.inl (by decide))]
              by_cases hj2 : j = b.toInt.toNat
              · subst hj2
                rw [show 5 + 0 = 5 from rfl, show 40 * 0 + b.toInt.toNat = 0 + b.toInt.toNat from rfl, gup_at, gup_at, hq]
              · rw [gup_ne (Or.inr hj2), gup_ne (Or.inr (by omega)), gup_ne (Or.inl (by decide))]
                exact hx.2 j hj hc
          · rw [k2, ← hx.1] at w
            omega
        · refine ⟨-12, _, rfl, rfl, ?_⟩
          refine writeM_0 (d := d + 37) (by omega) hr2 (fun v w => ?_) (fun _ => ?_)
          · rw [← hx.1] at w
            omega
          · exact ⟨-12, _, rfl, rfl, (fun _ => rfl), hi, hw⟩
    · have ea : a = 1 := Int32.toInt_inj.mp hs
      subst ea
      have hq : I 2 1 = I 82 1 := hw.2.2.2.2.1 (2, 1, 82, 1) (by decide +kernel)
      have hr := ain_of hi (show bnd bT 82 1 = (-1, 4) by decide +kernel)
      have hr2 := ain_of hi (show bnd bT 83 1 = (0, 40) by decide +kernel)
      have hr3 := ain_of hi (show bnd bT 3 1 = (0, 40) by decide +kernel)
      dsimp only at hr hr2 hr3
      by_cases hm : I 2 1 = -1
      · refine wr3_1 d 1 b c I hi (ax3 (by omega)) (fun s hs => ?_) (fun x y J _ hf h => ex_wf hw hf h)
        rcases List.mem_cons.mp hs with rfl | hs
        · exact slotOK_m (by decide) (by rw [← hq, hm]; exact ⟨by decide, by decide⟩)
        · rw [List.mem_singleton.mp hs]
          exact slotOK_q (c' := 82) (j' := 1) hq
      · have hz : (I 82 1).toInt ≠ -1 := fun e => hm (Int32.toInt_inj.mp (by rw [hq]; exact e))
        have hx := hw.2.2.2.2.2.1 1 (by decide) hm
        have ht : 0 ≤ (I 2 1).toInt ∧ (I 2 1).toInt ≤ 4 := by rw [hq]; omega
        refine writeX_1 (d := d + 37) ht hr3 (fun u v => ?_) (fun u => ?_)
        · refine ⟨1, _, rfl, rfl, ?_⟩
          have k1 : gup I 6 b.toInt.toNat (nar c (I 2 1)) 82 1 = I 82 1 := gup_ne (Or.inl (by decide))
          have k2 : gup I 6 b.toInt.toNat (nar c (I 2 1)) 83 1 = I 83 1 := gup_ne (Or.inl (by decide))
          refine writeM_1 (d := d + 37) (by rw [k1]; omega) (by rw [k2]; exact hr2) (fun _ _ => ?_) (fun w => ?_)
          · rw [k1]
            refine ⟨1, _, rfl, rfl, (fun _ => rfl), inv_put (inv_put hi (a_full (bn_nil (by decide +kernel)))) (a_full (bn_nil (by decide +kernel))), ?_⟩
            refine sh_wf (s := 1) (md := [(6, 0, 39), (84, 40, 79)]) (by decide +kernel) hw ((afr.rf.put (amodr_i (a := 0) (b := 39) (by decide) (Nat.zero_le _) (by omega))).put (amodr_i (a := 40) (b := 79) (by decide) (by omega) (by omega))) ?_ (fun _ => ⟨?_, fun j hj hc => ?_⟩)
            · rw [gup_ne (Or.inl (by decide)), gup_ne (Or.inl (by decide)), gup_ne (Or.inl (by decide)), gup_ne (Or.inl (by decide))]
              exact hq
            · rw [gup_ne (Or.inl (by decide)), gup_ne (Or.inl (by decide)), gup_ne (Or.inl (by decide)), gup_ne (Or.inl (by decide))]
              exact hx.1
            · rw [gup_ne (Or.inl (by decide)), gup_ne (Or.inl (by decide))] at hc
              rw [gup_ne (c' := 5 + 1) (Or.inl (by decide))]
              by_cases hj2 : j = b.toInt.toNat
              · subst hj2
                rw [show 5 + 1 = 6 from rfl, show 40 * 1 + b.toInt.toNat = 40 + b.toInt.toNat from rfl, gup_at, gup_at, hq]
              · rw [gup_ne (Or.inr hj2), gup_ne (Or.inr (by omega)), gup_ne (Or.inl (by decide))]
                exact hx.2 j hj hc
          · rw [k2, ← hx.1] at w
            omega
        · refine ⟨-12, _, rfl, rfl, ?_⟩
          refine writeM_1 (d := d + 37) (by omega) hr2 (fun v w => ?_) (fun _ => ?_)
          · rw [← hx.1] at w
            omega
          · exact ⟨-12, _, rfl, rfl, (fun _ => rfl), hi, hw⟩
    · have ea : a = 2 := Int32.toInt_inj.mp hs
      subst ea
      have hq : I 2 2 = I 82 2 := hw.2.2.2.2.1 (2, 2, 82, 2) (by decide +kernel)
      have hr := ain_of hi (show bnd bT 82 2 = (-1, 4) by decide +kernel)
      have hr2 := ain_of hi (show bnd bT 83 2 = (0, 40) by decide +kernel)
      have hr3 := ain_of hi (show bnd bT 3 2 = (0, 40) by decide +kernel)
      dsimp only at hr hr2 hr3
      by_cases hm : I 2 2 = -1
      · refine wr3_2 d 2 b c I hi (ax3 (by omega)) (fun s hs => ?_) (fun x y J _ hf h => ex_wf hw hf h)
        rcases List.mem_cons.mp hs with rfl | hs
        · exact slotOK_m (by decide) (by rw [← hq, hm]; exact ⟨by decide, by decide⟩)
        · rw [List.mem_singleton.mp hs]
          exact slotOK_q (c' := 82) (j' := 2) hq
      · have hz : (I 82 2).toInt ≠ -1 := fun e => hm (Int32.toInt_inj.mp (by rw [hq]; exact e))
        have hx := hw.2.2.2.2.2.1 2 (by decide) hm
        have ht : 0 ≤ (I 2 2).toInt ∧ (I 2 2).toInt ≤ 4 := by rw [hq]; omega
        refine writeX_2 (d := d + 37) ht hr3 (fun u v => ?_) (fun u => ?_)
        · refine ⟨1, _, rfl, rfl, ?_⟩
          have k1 : gup I 7 b.toInt.toNat (nar c (I 2 2)) 82 2 = I 82 2 := gup_ne (Or.inl (by decide))
          have k2 : gup I 7 b.toInt.toNat (nar c (I 2 2)) 83 2 = I 83 2 := gup_ne (Or.inl (by decide))
          refine writeM_2 (d := d + 37) (by rw [k1]; omega) (by rw [k2]; exact hr2) (fun _ _ => ?_) (fun w => ?_)
          · rw [k1]
            refine ⟨1, _, rfl, rfl, (fun _ => rfl), inv_put (inv_put hi (a_full (bn_nil (by decide +kernel)))) (a_full (bn_nil (by decide +kernel))), ?_⟩
            refine sh_wf (s := 2) (md := [(7, 0, 39), (84, 80, 119)]) (by decide +kernel) hw ((afr.rf.put (amodr_i (a := 0) (b := 39) (by decide) (Nat.zero_le _) (by omega))).put (amodr_i (a := 80) (b := 119) (by decide) (by omega) (by omega))) ?_ (fun _ => ⟨?_, fun j hj hc => ?_⟩)
            · rw [gup_ne (Or.inl (by decide)), gup_ne (Or.inl (by decide)), gup_ne (Or.inl (by decide)), gup_ne (Or.inl (by decide))]
              exact hq
            · rw [gup_ne (Or.inl (by decide)), gup_ne (Or.inl (by decide)), gup_ne (Or.inl (by decide)), gup_ne (Or.inl (by decide))]
              exact hx.1
            · rw [gup_ne (Or.inl (by decide)), gup_ne (Or.inl (by decide))] at hc
              rw [gup_ne (c' := 5 + 2) (Or.inl (by decide))]
              by_cases hj2 : j = b.toInt.toNat
              · subst hj2
                rw [show 5 + 2 = 7 from rfl, show 40 * 2 + b.toInt.toNat = 80 + b.toInt.toNat from rfl, gup_at, gup_at, hq]
              · rw [gup_ne (Or.inr hj2), gup_ne (Or.inr (by omega)), gup_ne (Or.inl (by decide))]
                exact hx.2 j hj hc
          · rw [k2, ← hx.1] at w
            omega
        · refine ⟨-12, _, rfl, rfl, ?_⟩
          refine writeM_2 (d := d + 37) (by omega) hr2 (fun v w => ?_) (fun _ => ?_)
          · rw [← hx.1] at w
            omega
          · exact ⟨-12, _, rfl, rfl, (fun _ => rfl), hi, hw⟩
    · have ea : a = 3 := Int32.toInt_inj.mp hs
      subst ea
      have hq : I 2 3 = I 82 3 := hw.2.2.2.2.1 (2, 3, 82, 3) (by decide +kernel)
      have hr := ain_of hi (show bnd bT 82 3 = (-1, 4) by decide +kernel)
      have hr2 := ain_of hi (show bnd bT 83 3 = (0, 40) by decide +kernel)
      have hr3 := ain_of hi (show bnd bT 3 3 = (0, 40) by decide +kernel)
      dsimp only at hr hr2 hr3
      by_cases hm : I 2 3 = -1
      · refine wr3_3 d 3 b c I hi (ax3 (by omega)) (fun s hs => ?_) (fun x y J _ hf h => ex_wf hw hf h)
        rcases List.mem_cons.mp hs with rfl | hs
        · exact slotOK_m (by decide) (by rw [← hq, hm]; exact ⟨by decide, by decide⟩)
        · rw [List.mem_singleton.mp hs]
          exact slotOK_q (c' := 82) (j' := 3) hq
      · have hz : (I 82 3).toInt ≠ -1 := fun e => hm (Int32.toInt_inj.mp (by rw [hq]; exact e))
        have hx := hw.2.2.2.2.2.1 3 (by decide) hm
        have ht : 0 ≤ (I 2 3).toInt ∧ (I 2 3).toInt ≤ 4 := by rw [hq]; omega
        refine writeX_3 (d := d + 37) ht hr3 (fun u v => ?_) (fun u => ?_)
        · refine ⟨1, _, rfl, rfl, ?_⟩
          have k1 : gup I 8 b.toInt.toNat (nar c (I 2 3)) 82 3 = I 82 3 := gup_ne (Or.inl (by decide))
          have k2 : gup I 8 b.toInt.toNat (nar c (I 2 3)) 83 3 = I 83 3 := gup_ne (Or.inl (by decide))
          refine writeM_3 (d := d + 37) (by rw [k1]; omega) (by rw [k2]; exact hr2) (fun _ _ => ?_) (fun w => ?_)
          · rw [k1]
            refine ⟨1, _, rfl, rfl, (fun _ => rfl), inv_put (inv_put hi (a_full (bn_nil (by decide +kernel)))) (a_full (bn_nil (by decide +kernel))), ?_⟩
            refine sh_wf (s := 3) (md := [(8, 0, 39), (84, 120, 159)]) (by decide +kernel) hw ((afr.rf.put (amodr_i (a := 0) (b := 39) (by decide) (Nat.zero_le _) (by omega))).put (amodr_i (a := 120) (b := 159) (by decide) (by omega) (by omega))) ?_ (fun _ => ⟨?_, fun j hj hc => ?_⟩)
            · rw [gup_ne (Or.inl (by decide)), gup_ne (Or.inl (by decide)), gup_ne (Or.inl (by decide)), gup_ne (Or.inl (by decide))]
              exact hq
            · rw [gup_ne (Or.inl (by decide)), gup_ne (Or.inl (by decide)), gup_ne (Or.inl (by decide)), gup_ne (Or.inl (by decide))]
              exact hx.1
            · rw [gup_ne (Or.inl (by decide)), gup_ne (Or.inl (by decide))] at hc
              rw [gup_ne (c' := 5 + 3) (Or.inl (by decide))]
              by_cases hj2 : j = b.toInt.toNat
              · subst hj2
                rw [show 5 + 3 = 8 from rfl, show 40 * 3 + b.toInt.toNat = 120 + b.toInt.toNat from rfl, gup_at, gup_at, hq]
              · rw [gup_ne (Or.inr hj2), gup_ne (Or.inr (by omega)), gup_ne (Or.inl (by decide))]
                exact hx.2 j hj hc
          · rw [k2, ← hx.1] at w
            omega
        · refine ⟨-12, _, rfl, rfl, ?_⟩
          refine writeM_3 (d := d + 37) (by omega) hr2 (fun v w => ?_) (fun _ => ?_)
          · rw [← hx.1] at w
            omega
          · exact ⟨-12, _, rfl, rfl, (fun _ => rfl), hi, hw⟩
theorem pr_item : prOK mX11_item mX12_item 3 true := by
  intro d xs I hn hi hw
  match xs, hn with
  | [a, b, c], _ =>
    have ra : (-2147483648 : Int) ≤ a.toInt ∧ a.toInt ≤ 2147483647 := a_rng a
    have rb : (-2147483648 : Int) ≤ b.toInt ∧ b.toInt ≤ 2147483647 := a_rng b
    have rc : (-2147483648 : Int) ≤ c.toInt ∧ c.toInt ≤ 2147483647 := a_rng c
    by_cases h1 : a.toInt < 0
    · exact it1 d a b c I hi (ax3 (by omega)) no_pre (fun x y J _ hf h => ex_wf hw hf h)
    by_cases h2 : 3 < a.toInt
    · exact it2 d a b c I hi (ax3 (by omega)) no_pre (fun x y J _ hf h => ex_wf hw hf h)
    by_cases h3 : b.toInt < 0
    · exact it3 d a b c I hi (ax3 (by omega)) no_pre (fun x y J _ hf h => ex_wf hw hf h)
    by_cases h4 : 4 < b.toInt
    · exact it4 d a b c I hi (ax3 (by omega)) no_pre (fun x y J _ hf h => ex_wf hw hf h)
    have hs : a.toInt = 0 ∨ a.toInt = 1 ∨ a.toInt = 2 ∨ a.toInt = 3 := by omega
    rcases hs with hs | hs | hs | hs
    · have ea : a = 0 := Int32.toInt_inj.mp hs
      subst ea
      have hq : I 2 0 = I 82 0 := hw.2.2.2.2.1 (2, 0, 82, 0) (by decide +kernel)
      have hr := ain_of hi (show bnd bT 82 0 = (-1, 4) by decide +kernel)
      have hr2 := ain_of hi (show bnd bT 83 0 = (0, 40) by decide +kernel)
      have hr3 := ain_of hi (show bnd bT 3 0 = (0, 40) by decide +kernel)
      dsimp only at hr hr2 hr3
      have hx : (I 2 0).toInt ≠ -1 → I 3 0 = I 83 0 ∧ ∀ j : Nat, j < 40 → (j : Int) < (I 3 0).toInt → I (5 + 0) j = I 84 (40 * 0 + j) := fun h => hw.2.2.2.2.2.1 0 (by decide) (fun e => h (by rw [e]; decide))
      have hq2 : (I 2 0).toInt = (I 82 0).toInt := by rw [hq]
      have fin : ∀ y : Int32, prE true y (some (.int y)) (SH0, RF0, I) := fun y => ⟨y, I, rfl, rfl, (fun _ => rfl), hi, hw⟩
      refine itemX_0 (d := d + 37) (by omega) hr3 (fun u => ?_) (fun u v => ?_) (fun u v w => ?_) (fun u v w z => ?_)
      · exact ⟨-11, I, rfl, rfl, itemM_0 (d := d + 37) (by omega) hr2 (fun _ => fin _) (fun p _ => by omega) (fun p _ _ => by omega) (fun p _ _ _ => by omega)⟩
      · exact ⟨-13, I, rfl, rfl, itemM_0 (d := d + 37) (by omega) hr2 (fun p => by omega) (fun _ _ => fin _) (fun _ q _ => by omega) (fun _ q _ _ => by omega)⟩
      · have hx := hx u
        rw [hx.1] at w
        exact ⟨-12, I, rfl, rfl, itemM_0 (d := d + 37) (by omega) hr2 (fun p => by omega) (fun _ q => by omega) (fun _ _ _ => fin _) (fun _ _ p q => by omega)⟩
      · have hx := hx u
        have e1 : I 5 c.toInt.toNat = I 84 (0 + c.toInt.toNat) := hx.2 c.toInt.toNat (by omega) (by omega)
        rw [hx.1] at z
        exact ⟨_, I, rfl, rfl, itemM_0 (d := d + 37) (by omega) hr2 (fun p => by omega) (fun _ q => by omega) (fun _ _ p => by omega) (fun _ _ _ _ => by rw [← e1]; exact fin _)⟩
    · have ea : a = 1 := Int32.toInt_inj.mp hs
      subst ea
      have hq : I 2 1 = I 82 1 := hw.2.2.2.2.1 (2, 1, 82, 1) (by decide +kernel)
      have hr := ain_of hi (show bnd bT 82 1 = (-1, 4) by decide +kernel)
      have hr2 := ain_of hi (show bnd bT 83 1 = (0, 40) by decide +kernel)
      have hr3 := ain_of hi (show bnd bT 3 1 = (0, 40) by decide +kernel)
      dsimp only at hr hr2 hr3
      have hx : (I 2 1).toInt ≠ -1 → I 3 1 = I 83 1 ∧ ∀ j : Nat, j < 40 → (j : Int) < (I 3 1).toInt → I (5 + 1) j = I 84 (40 * 1 + j) := fun h => hw.2.2.2.2.2.1 1 (by decide) (fun e => h (by rw [e]; decide))
      have hq2 : (I 2 1).toInt = (I 82 1).toInt := by rw [hq]
      have fin : ∀ y : Int32, prE true y (some (.int y)) (SH0, RF0, I) := fun y => ⟨y, I, rfl, rfl, (fun _ => rfl), hi, hw⟩
      refine itemX_1 (d := d + 37) (by omega) hr3 (fun u => ?_) (fun u v => ?_) (fun u v w => ?_) (fun u v w z => ?_)
      · exact ⟨-11, I, rfl, rfl, itemM_1 (d := d + 37) (by omega) hr2 (fun _ => fin _) (fun p _ => by omega) (fun p _ _ => by omega) (fun p _ _ _ => by omega)⟩
      · exact ⟨-13, I, rfl, rfl, itemM_1 (d := d + 37) (by omega) hr2 (fun p => by omega) (fun _ _ => fin _) (fun _ q _ => by omega) (fun _ q _ _ => by omega)⟩
      · have hx := hx u
        rw [hx.1] at w
        exact ⟨-12, I, rfl, rfl, itemM_1 (d := d + 37) (by omega) hr2 (fun p => by omega) (fun _ q => by omega) (fun _ _ _ => fin _) (fun _ _ p q => by omega)⟩
      · have hx := hx u
        have e1 : I 6 c.toInt.toNat = I 84 (40 + c.toInt.toNat) := hx.2 c.toInt.toNat (by omega) (by omega)
        rw [hx.1] at z
        exact ⟨_, I, rfl, rfl, itemM_1 (d := d + 37) (by omega) hr2 (fun p => by omega) (fun _ q => by omega) (fun _ _ p => by omega) (fun _ _ _ _ => by rw [← e1]; exact fin _)⟩
    · have ea : a = 2 := Int32.toInt_inj.mp hs
      subst ea
      have hq : I 2 2 = I 82 2 := hw.2.2.2.2.1 (2, 2, 82, 2) (by decide +kernel)
      have hr := ain_of hi (show bnd bT 82 2 = (-1, 4) by decide +kernel)
      have hr2 := ain_of hi (show bnd bT 83 2 = (0, 40) by decide +kernel)
      have hr3 := ain_of hi (show bnd bT 3 2 = (0, 40) by decide +kernel)
      dsimp only at hr hr2 hr3
      have hx : (I 2 2).toInt ≠ -1 → I 3 2 = I 83 2 ∧ ∀ j : Nat, j < 40 → (j : Int) < (I 3 2).toInt → I (5 + 2) j = I 84 (40 * 2 + j) := fun h => hw.2.2.2.2.2.1 2 (by decide) (fun e => h (by rw [e]; decide))
      have hq2 : (I 2 2).toInt = (I 82 2).toInt := by rw [hq]
      have fin : ∀ y : Int32, prE true y (some (.int y)) (SH0, RF0, I) := fun y => ⟨y, I, rfl, rfl, (fun _ => rfl), hi, hw⟩
      refine itemX_2 (d := d + 37) (by omega) hr3 (fun u => ?_) (fun u v => ?_) (fun u v w => ?_) (fun u v w z => ?_)
      · exact ⟨-11, I, rfl, rfl, itemM_2 (d := d + 37) (by omega) hr2 (fun _ => fin _) (fun p _ => by omega) (fun p _ _ => by omega) (fun p _ _ _ => by omega)⟩
      · exact ⟨-13, I, rfl, rfl, itemM_2 (d := d + 37) (by omega) hr2 (fun p => by omega) (fun _ _ => fin _) (fun _ q _ => by omega) (fun _ q _ _ => by omega)⟩
      · have hx := hx u
        rw [hx.1] at w
        exact ⟨-12, I, rfl, rfl, itemM_2 (d := d + 37) (by omega) hr2 (fun p => by omega) (fun _ q => by omega) (fun _ _ _ => fin _) (fun _ _ p q => by omega)⟩
      · have hx := hx u
        have e1 : I 7 c.toInt.toNat = I 84 (80 + c.toInt.toNat) := hx.2 c.toInt.toNat (by omega) (by omega)
        rw [hx.1] at z
        exact ⟨_, I, rfl, rfl, itemM_2 (d := d + 37) (by omega) hr2 (fun p => by omega) (fun _ q => by omega) (fun _ _ p => by omega) (fun _ _ _ _ => by rw [← e1]; exact fin _)⟩
    · have ea : a = 3 := Int32.toInt_inj.mp hs
      subst ea
      have hq : I 2 3 = I 82 3 := hw.2.2.2.2.1 (2, 3, 82, 3) (by decide +kernel)
      have hr := ain_of hi (show bnd bT 82 3 = (-1, 4) by decide +kernel)
      have hr2 := ain_of hi (show bnd bT 83 3 = (0, 40) by decide +kernel)
      have hr3 := ain_of hi (show bnd bT 3 3 = (0, 40) by decide +kernel)
      dsimp only at hr hr2 hr3
      have hx : (I 2 3).toInt ≠ -1 → I 3 3 = I 83 3 ∧ ∀ j : Nat, j < 40 → (j : Int) < (I 3 3).toInt → I (5 + 3) j = I 84 (40 * 3 + j) := fun h => hw.2.2.2.2.2.1 3 (by decide) (fun e => h (by rw [e]; decide))
      have hq2 : (I 2 3).toInt = (I 82 3).toInt := by rw [hq]
      have fin : ∀ y : Int32, prE true y (some (.int y)) (SH0, RF0, I) := fun y => ⟨y, I, rfl, rfl, (fun _ => rfl), hi, hw⟩
      refine itemX_3 (d := d + 37) (by omega) hr3 (fun u => ?_) (fun u v => ?_) (fun u v w => ?_) (fun u v w z => ?_)
      · exact ⟨-11, I, rfl, rfl, itemM_3 (d := d + 37) (by omega) hr2 (fun _ => fin _) (fun p _ => by omega) (fun p _ _ => by omega) (fun p _ _ _ => by omega)⟩
      · exact ⟨-13, I, rfl, rfl, itemM_3 (d := d + 37) (by omega) hr2 (fun p => by omega) (fun _ _ => fin _) (fun _ q _ => by omega) (fun _ q _ _ => by omega)⟩
      · have hx := hx u
        rw [hx.1] at w
        exact ⟨-12, I, rfl, rfl, itemM_3 (d := d + 37) (by omega) hr2 (fun p => by omega) (fun _ q => by omega) (fun _ _ _ => fin _) (fun _ _ p q => by omega)⟩
      · have hx := hx u
        have e1 : I 8 c.toInt.toNat = I 84 (120 + c.toInt.toNat) := hx.2 c.toInt.toNat (by omega) (by omega)
        rw [hx.1] at z
        exact ⟨_, I, rfl, rfl, itemM_3 (d := d + 37) (by omega) hr2 (fun p => by omega) (fun _ q => by omega) (fun _ _ p => by omega) (fun _ _ _ _ => by rw [← e1]; exact fin _)⟩
