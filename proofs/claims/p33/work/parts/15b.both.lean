/-! ===== the methods that write what class and reference hold alike, and those that are compared ===== -/
def prE (cmp : Bool) (x : Int32) : Option Value → gH → Prop := pbM (fun y J => (cmp = true → y = x) ∧ aInv bT J ∧ WF J)
/-- both calls, one behind the other -/
def prOK (M1 M2 : gM) (n : Nat) (cmp : Bool) : Prop := ∀ (d : Nat) (xs : List Int32) (I : gI), xs.length = n → aInv bT I → WF I → gg (d + 40) M1 0 (gent M1.2.2.1 (.ref 0 :: xs.map Value.int)) [] I (pbM (fun x J => gg (d + 40) M2 0 (gent M2.2.2.1 (.ref 67 :: xs.map Value.int)) [] J (prE cmp x)))
def nr (md : aMd) : Bool := md.all (fun r => (decide (r.1 ≠ 68) && decide (r.1 ≠ 69)) || (decide (r.2.2 < 89) && (decide (r.2.2 < 5) || decide (5 < r.2.1))))
theorem nr_ok {md : aMd} {c j : Nat} (h : nr md = true) (hc : c = 68 ∨ c = 69) (hj : j = 5 ∨ (89 ≤ j ∧ j ≤ 312)) : amodr md c j j = false := by
  cases hm : amodr md c j j with
  | false => rfl
  | true =>
    obtain ⟨p, h1, h2⟩ := List.any_eq_true.mp hm
    have h3 := List.all_eq_true.mp h p h1
    simp only [Bool.and_eq_true, Bool.or_eq_true, decide_eq_true_eq] at h2 h3
    omega
theorem wf0_md {I J : gI} {md : aMd} (h : nr md = true) (hf : afr md I J) (hw : WF0 I) : WF0 J := WF0_tr hw (fun c j hc hj => hf c j (nr_ok h hc hj))
/-- a pair is equal at the end, or neither was written -/
def pOKe (md : aMd) (eqs : aE4) (e : Nat × Nat × Nat × Nat) : Bool := eqs.any (fun q => decide (q = e)) || (!(amodr md e.1 e.2.1 e.2.1) && !(amodr md e.2.2.1 e.2.2.2 e.2.2.2))
theorem pOKe_ok {md : aMd} {eqs : aE4} {e : Nat × Nat × Nat × Nat} {I J : gI} (h : pOKe md eqs e = true) (hf : afr md I J) (he : rlB eqs J) (hI : I e.1 e.2.1 = I e.2.2.1 e.2.2.2) : J e.1 e.2.1 = J e.2.2.1 e.2.2.2 := by
  simp only [pOKe, Bool.or_eq_true, Bool.and_eq_true, Bool.not_eq_true'] at h
  rcases h with h | ⟨h1, h2⟩
  · obtain ⟨q, h1, h2⟩ := List.any_eq_true.mp h
    have h2 : q = e := of_decide_eq_true h2
    subst h2
    exact he q h1
  · rw [hf _ _ h1, hf _ _ h2]
    exact hI
def wfchk (md : aMd) (eqs : aE4) : Bool := nr md && rlM.all (fun q => pOKe md eqs (q.1, q.2.1, 68, q.2.2.2.2) && pOKe md eqs (q.2.2.1, q.2.2.2.1, 69, q.2.2.2.2)) && !(amodr md 0 2 2) && !(amodr md 67 3 3) && rlO.all (pOKe md eqs) && dsj md rxS && hlE.all (pOKe md eqs) && hkE.all (pOKe md eqs)
theorem wf_after {md : aMd} {eqs : aE4} {I J : gI} (h : wfchk md eqs = true) (hf : afr md I J) (he : rlB eqs J) (hw : WF I) : WF J := by
  simp only [wfchk, Bool.and_eq_true, Bool.not_eq_true'] at h
  obtain ⟨⟨⟨⟨⟨⟨⟨g1, g2⟩, g3⟩, g4⟩, g5⟩, g6⟩, g7⟩, g8⟩ := h
  obtain ⟨w0, w1, w2, w3, w4, w5, w6, w7⟩ := hw
  have g2 : ∀ q ∈ rlM, pOKe md eqs (q.1, q.2.1, 68, q.2.2.2.2) = true ∧ pOKe md eqs (q.2.2.1, q.2.2.2.1, 69, q.2.2.2.2) = true := fun q hq => by
    have := List.all_eq_true.mp g2 q hq
    simpa only [Bool.and_eq_true] using this
  refine ⟨wf0_md g1 hf w0, fun q hq => pOKe_ok (g2 q hq).1 hf he (w1 q hq), ?_, fun hk q hq => ?_, fun e h => pOKe_ok (List.all_eq_true.mp g5 e h) hf he (w4 e h), rX_eq w5 (fun c j hx => hf c j (dsj_ok g6 hx)), fun e h => pOKe_ok (List.all_eq_true.mp g7 e h) hf he (w6 e h), fun hk e h => pOKe_ok (List.all_eq_true.mp g8 e h) hf he (w7 (by rw [← hf _ _ g4]; exact hk) e h)⟩
  · rw [hf _ _ g3, hf _ _ g4]
    exact w2
  · rw [hf _ _ g4] at hk
    exact pOKe_ok (g2 q hq).2 hf he (w3 hk q hq)
def preR (l : List (Nat × Nat × Int × Int)) : Bool := l.all (fun s => (decide (s.2.2.1 < aEQ) && asub (bnd bT s.1 s.2.1) s.2.2) || rlM.any (fun q => decide (s = (q.1, q.2.1, aEQ + ((68 : Nat) : Int), ((q.2.2.2.2 : Nat) : Int)))) || rlO.any (fun e => decide (s = (e.1, e.2.1, aEQ + ((e.2.2.1 : Nat) : Int), ((e.2.2.2 : Nat) : Int)))) || hlE.any (fun e => decide (s = (e.1, e.2.1, aEQ + ((e.2.2.1 : Nat) : Int), ((e.2.2.2 : Nat) : Int)))))
theorem preR_ok {I : gI} {l : List (Nat × Nat × Int × Int)} (h : preR l = true) (hi : aInv bT I) (hw : WF I) : ∀ s ∈ l, slotOK I s := fun s hs => by
  have h1 := List.all_eq_true.mp h s hs
  simp only [Bool.or_eq_true, Bool.and_eq_true, decide_eq_true_eq] at h1
  rcases h1 with ((h1 | h1) | h1) | h1
  · exact slotOK_m h1.1 (asub_ok h1.2 (hi s.1 s.2.1))
  · obtain ⟨q, hq, h2⟩ := List.any_eq_true.mp h1
    rw [of_decide_eq_true h2]
    exact slotOK_q (hw.2.1 q hq)
  · obtain ⟨e, he, h2⟩ := List.any_eq_true.mp h1
    rw [of_decide_eq_true h2]
    exact slotOK_q (hw.2.2.2.2.1 e he)
  · obtain ⟨e, he, h2⟩ := List.any_eq_true.mp h1
    rw [of_decide_eq_true h2]
    exact slotOK_q (hw.2.2.2.2.2.2.1 e he)
/-- both calls within bounds of the arguments -/
theorem pr_box {md : aMd} {pm : aPm} {mi1 nl1 mi2 nl2 fuel : Nat} {xc : aXc} {E : List Value → Int32 → Int32 → gI → Prop} {args : List (Nat × Int × Int)} {pre : List (Nat × Nat × Int × Int)} {M1 M2 : gM} (h : pchk bT md 297 [] pm none mi1 40 nl1 0 mi2 40 nl2 67 xc fuel args pre = true) (hxc : ∀ vs, xcOK bT (aentA args []).1 vs xc (E vs)) (hpm : pmOK MT pm) (hM1 : MT[mi1]? = some M1) (hn1 : M1.2.2.1 = nl1) (hM2 : MT[mi2]? = some M2) (hn2 : M2.2.2.1 = nl2) (d : Nat) (xs : List Int32) (I : gI) (ha : argsOK args (xs.map Value.int)) (hi : aInv bT I) (hp : ∀ s ∈ pre, slotOK I s) {cmp : Bool} (hE : ∀ x y J, aInv bT J → afr md I J → E (xs.map Value.int) x y J → (cmp = true → y = x) ∧ WF J) :
    gg (d + 40) M1 0 (gent M1.2.2.1 (.ref 0 :: xs.map Value.int)) [] I (pbM (fun x J => gg (d + 40) M2 0 (gent M2.2.2.1 (.ref 67 :: xs.map Value.int)) [] J (prE cmp x))) := by
  have go := pchk_ok (Ext := fun _ => True) h hM1 hn1 hM2 hn2 hpm MT_len (fun m hm => absurd hm List.not_mem_nil) (fun _ _ _ _ => trivial) hxc d (xs.map Value.int) I ha hi trivial hp _ rfl
  refine G_mono go ?_
  rintro r hh ⟨x, J, e1, e2, g⟩
  refine ⟨x, J, e1, e2, G_mono g ?_⟩
  rintro r2 hh2 ⟨y, J2, e3, e4, i1, i2, i3⟩
  have := hE x y J2 i1 i2 i3
  exact ⟨y, J2, e3, e4, this.1, i1, this.2⟩
theorem pr_of {md : aMd} {pm : aPm} {mi1 nl1 mi2 nl2 n fuel : Nat} {cmp : Bool} {eqs : aE4} {pre : List (Nat × Nat × Int × Int)} {M1 M2 : gM} (h : pchk bT md 297 [] pm none mi1 40 nl1 0 mi2 40 nl2 67 (fun B K _ v w => pxt cmp eqs [] B K v w) fuel (List.replicate n (0, (-2147483648 : Int), 2147483647)) pre = true) (hpm : pmOK MT pm) (hM1 : MT[mi1]? = some M1) (hn1 : M1.2.2.1 = nl1) (hM2 : MT[mi2]? = some M2) (hn2 : M2.2.2.1 = nl2) (hp : preR pre = true) (hc : wfchk md eqs = true) : prOK M1 M2 n cmp := by
  intro d xs I hn hi hw
  subst hn
  exact pr_box (E := fun _ => pEx cmp eqs []) h (fun vs => pxt_ok) hpm hM1 hn1 hM2 hn2 d xs I (args_all xs) hi (preR_ok hp hi hw) (fun x y J i1 i2 i3 => ⟨i3.1, wf_after hc i2 i3.2.1 hw⟩)
/-- one call -/
theorem p1_box {md : aMd} {pm : aPm} {mi1 nl1 c1 fuel : Nat} {xc : aXc} {E : List Value → Int32 → Int32 → gI → Prop} {args : List (Nat × Int × Int)} {pre : List (Nat × Nat × Int × Int)} {M1 : gM} (h : pchk bT md 297 [] pm (some (2, 0)) mi1 40 nl1 c1 mi1 40 nl1 c1 xc fuel args pre = true) (hxc : ∀ vs, xcOK bT (aentA args []).1 vs xc (E vs)) (hpm : pmOK MT pm) (hM1 : MT[mi1]? = some M1) (hn1 : M1.2.2.1 = nl1) (d : Nat) (vs : List Value) (I : gI) (ha : argsOK args vs) (hi : aInv bT I) (hp : ∀ s ∈ pre, slotOK I s) : gg (d + 40) M1 0 (gent M1.2.2.1 (.ref c1 :: vs)) [] I (pQ2 bT md I (E vs) 0) :=
  pchk_ok (Ext := fun _ => True) h hM1 hn1 hM1 hn1 hpm MT_len (fun m hm => absurd hm List.not_mem_nil) (fun _ _ _ _ => trivial) hxc d vs I ha hi trivial hp _ ⟨0, aiv.of rfl, rfl⟩

/-- the restored pairs: the class's slot, its kept slot, the place in the reference's row -/
def rsM : List (Nat × Nat × Nat × Nat × Nat) := []
theorem rs_l : hlE = rsM.map (fun q => (q.1, q.2.1, 68, q.2.2.2.2)) := by decide +kernel
theorem rs_k : hkE = rsM.map (fun q => (q.2.2.1, q.2.2.2.1, 69, q.2.2.2.2)) := by decide +kernel
theorem rsM_k : rsM.all (fun q => decide (q.1 < 67) && decide (q.2.2.1 < 67) && decide (q.2.2.2.2 < 89)) = true := by decide +kernel
theorem rsM_b {q : Nat × Nat × Nat × Nat × Nat} (hq : q ∈ rsM) : q.1 < 67 ∧ q.2.2.1 < 67 ∧ q.2.2.2.2 < 89 := by
  have h := List.all_eq_true.mp rsM_k q hq
  simp only [Bool.and_eq_true, decide_eq_true_eq] at h
  exact ⟨h.1.1, h.1.2, h.2⟩
def kp_md : aMd := [(0, 2, 2), (35, 1, 4), (35, 8, 9), (35, 16, 16), (36, 0, 15), (37, 0, 5), (38, 0, 5), (39, 0, 5), (40, 0, 5), (41, 0, 5), (42, 0, 5), (43, 0, 1), (44, 0, 7), (45, 0, 7), (46, 0, 7), (47, 0, 199), (48, 0, 23)]
def kp_pre : List (Nat × Nat × Int × Int) := [(20, 0, (-2147483648), 2147483647), (20, 1, (-2147483648), 2147483647), (20, 2, (-2147483648), 2147483647), (20, 3, (-2147483648), 2147483647), (20, 4, (-2147483648), 2147483647), (20, 5, (-2147483648), 2147483647), (20, 6, (-2147483648), 2147483647), (20, 7, (-2147483648), 2147483647), (20, 8, (-2147483648), 2147483647), (20, 9, (-2147483648), 2147483647), (20, 10, (-2147483648), 2147483647), (20, 11, (-2147483648), 2147483647), (20, 12, (-2147483648), 2147483647), (20, 13, (-2147483648), 2147483647), (20, 14, (-2147483648), 2147483647), (20, 15, (-2147483648), 2147483647), (32, 0, (-2147483648), 2147483647), (32, 1, (-2147483648), 2147483647), (32, 2, (-2147483648), 2147483647), (32, 3, (-2147483648), 2147483647), (32, 4, (-2147483648), 2147483647), (32, 5, (-2147483648), 2147483647), (32, 6, (-2147483648), 2147483647), (32, 7, (-2147483648), 2147483647), (32, 8, (-2147483648), 2147483647), (32, 9, (-2147483648), 2147483647), (32, 10, (-2147483648), 2147483647), (32, 11, (-2147483648), 2147483647), (32, 12, (-2147483648), 2147483647), (32, 13, (-2147483648), 2147483647), (32, 14, (-2147483648), 2147483647), (32, 15, (-2147483648), 2147483647), (32, 16, (-2147483648), 2147483647), (32, 17, (-2147483648), 2147483647), (32, 18, (-2147483648), 2147483647), (32, 19, (-2147483648), 2147483647), (32, 20, (-2147483648), 2147483647), (32, 21, (-2147483648), 2147483647), (32, 22, (-2147483648), 2147483647), (32, 23, (-2147483648), 2147483647), (19, 16, 0, 6)]
def kp_eqs : aE4 := [(36, 0, 20, 0), (36, 1, 20, 1), (36, 2, 20, 2), (36, 3, 20, 3), (36, 4, 20, 4), (36, 5, 20, 5), (36, 6, 20, 6), (36, 7, 20, 7), (36, 8, 20, 8), (36, 9, 20, 9), (36, 10, 20, 10), (36, 11, 20, 11), (36, 12, 20, 12), (36, 13, 20, 13), (36, 14, 20, 14), (36, 15, 20, 15), (48, 0, 32, 0), (48, 1, 32, 1), (48, 2, 32, 2), (48, 3, 32, 3), (48, 4, 32, 4), (48, 5, 32, 5), (48, 6, 32, 6), (48, 7, 32, 7), (48, 8, 32, 8), (48, 9, 32, 9), (48, 10, 32, 10), (48, 11, 32, 11), (48, 12, 32, 12), (48, 13, 32, 13), (48, 14, 32, 14), (48, 15, 32, 15), (48, 16, 32, 16), (48, 17, 32, 17), (48, 18, 32, 18), (48, 19, 32, 19), (48, 20, 32, 20), (48, 21, 32, 21), (48, 22, 32, 22), (48, 23, 32, 23), (35, 16, 19, 16)]
theorem kp_ok (d : Nat) (I : gI) (hi : aInv bT I) (hp : ∀ s ∈ kp_pre, slotOK I s) : gg (d + 40) mX11_keep 0 (gent mX11_keep.2.2.1 [.ref 0]) [] I (pQ2 bT kp_md I (pEx false kp_eqs [(0, 2, 1)]) 0) := p1_box (xc := fun B K _ v w => pxt false kp_eqs [(0, 2, 1)] B K v w) (E := fun _ => pEx false kp_eqs [(0, 2, 1)]) (args := []) (mi1 := 292) (nl1 := 1) (fuel := 153) (pm := [(292, 1, [], ops_X11_keep), (111, 2, [], ops_X1_copyFrom), (0, 2, [], ops_X6_copyFrom)]) (by decide +kernel) (fun vs => pxt_ok) (pmOK.cons mt_X11_keep rfl os_X11_keep (pmOK.cons mt_X1_copyFrom rfl os_X1_copyFrom (pmOK.cons mt_X6_copyFrom rfl os_X6_copyFrom (pmOK.nil)))) mt_X11_keep rfl d [] I trivial hi hp
def a0_md : aMd := []
def a0_pre : List (Nat × Nat × Int × Int) := [(0, 2, 0, 0)]
def a0_eqs : aE4 := []
theorem a0_ok (d : Nat) (I : gI) (hi : aInv bT I) (hp : ∀ s ∈ a0_pre, slotOK I s) : gg (d + 40) mX11_again 0 (gent mX11_again.2.2.1 [.ref 0]) [] I (pQ2 bT a0_md I (pEx false a0_eqs []) 0) := p1_box (xc := fun B K _ v w => pxt false a0_eqs [] B K v w) (E := fun _ => pEx false a0_eqs []) (args := []) (mi1 := 294) (nl1 := 1) (fuel := 8) (pm := [(294, 1, [], ops_X11_again)]) (by decide +kernel) (fun vs => pxt_ok) (pmOK.cons mt_X11_again rfl os_X11_again (pmOK.nil)) mt_X11_again rfl d [] I trivial hi hp
def a1_md : aMd := [(19, 1, 4), (19, 8, 9), (19, 16, 16), (20, 0, 15), (21, 0, 5), (22, 0, 5), (23, 0, 5), (24, 0, 5), (25, 0, 5), (26, 0, 5), (27, 0, 1), (28, 0, 7), (29, 0, 7), (30, 0, 7), (31, 0, 199), (32, 0, 23)]
def a1_pre : List (Nat × Nat × Int × Int) := [(0, 2, 1, 1), (36, 0, (-2147483648), 2147483647), (36, 1, (-2147483648), 2147483647), (36, 2, (-2147483648), 2147483647), (36, 3, (-2147483648), 2147483647), (36, 4, (-2147483648), 2147483647), (36, 5, (-2147483648), 2147483647), (36, 6, (-2147483648), 2147483647), (36, 7, (-2147483648), 2147483647), (36, 8, (-2147483648), 2147483647), (36, 9, (-2147483648), 2147483647), (36, 10, (-2147483648), 2147483647), (36, 11, (-2147483648), 2147483647), (36, 12, (-2147483648), 2147483647), (36, 13, (-2147483648), 2147483647), (36, 14, (-2147483648), 2147483647), (36, 15, (-2147483648), 2147483647), (48, 0, (-2147483648), 2147483647), (48, 1, (-2147483648), 2147483647), (48, 2, (-2147483648), 2147483647), (48, 3, (-2147483648), 2147483647), (48, 4, (-2147483648), 2147483647), (48, 5, (-2147483648), 2147483647), (48, 6, (-2147483648), 2147483647), (48, 7, (-2147483648), 2147483647), (48, 8, (-2147483648), 2147483647), (48, 9, (-2147483648), 2147483647), (48, 10, (-2147483648), 2147483647), (48, 11, (-2147483648), 2147483647), (48, 12, (-2147483648), 2147483647), (48, 13, (-2147483648), 2147483647), (48, 14, (-2147483648), 2147483647), (48, 15, (-2147483648), 2147483647), (48, 16, (-2147483648), 2147483647), (48, 17, (-2147483648), 2147483647), (48, 18, (-2147483648), 2147483647), (48, 19, (-2147483648), 2147483647), (48, 20, (-2147483648), 2147483647), (48, 21, (-2147483648), 2147483647), (48, 22, (-2147483648), 2147483647), (48, 23, (-2147483648), 2147483647), (35, 16, 0, 6)]
def a1_eqs : aE4 := [(20, 0, 36, 0), (20, 1, 36, 1), (20, 2, 36, 2), (20, 3, 36, 3), (20, 4, 36, 4), (20, 5, 36, 5), (20, 6, 36, 6), (20, 7, 36, 7), (20, 8, 36, 8), (20, 9, 36, 9), (20, 10, 36, 10), (20, 11, 36, 11), (20, 12, 36, 12), (20, 13, 36, 13), (20, 14, 36, 14), (20, 15, 36, 15), (32, 0, 48, 0), (32, 1, 48, 1), (32, 2, 48, 2), (32, 3, 48, 3), (32, 4, 48, 4), (32, 5, 48, 5), (32, 6, 48, 6), (32, 7, 48, 7), (32, 8, 48, 8), (32, 9, 48, 9), (32, 10, 48, 10), (32, 11, 48, 11), (32, 12, 48, 12), (32, 13, 48, 13), (32, 14, 48, 14), (32, 15, 48, 15), (32, 16, 48, 16), (32, 17, 48, 17), (32, 18, 48, 18), (32, 19, 48, 19), (32, 20, 48, 20), (32, 21, 48, 21), (32, 22, 48, 22), (32, 23, 48, 23), (19, 16, 35, 16)]
theorem a1_ok (d : Nat) (I : gI) (hi : aInv bT I) (hp : ∀ s ∈ a1_pre, slotOK I s) : gg (d + 40) mX11_again 0 (gent mX11_again.2.2.1 [.ref 0]) [] I (pQ2 bT a1_md I (pEx false a1_eqs []) 0) := p1_box (xc := fun B K _ v w => pxt false a1_eqs [] B K v w) (E := fun _ => pEx false a1_eqs []) (args := []) (mi1 := 294) (nl1 := 1) (fuel := 155) (pm := [(294, 1, [], ops_X11_again), (111, 2, [], ops_X1_copyFrom), (0, 2, [], ops_X6_copyFrom)]) (by decide +kernel) (fun vs => pxt_ok) (pmOK.cons mt_X11_again rfl os_X11_again (pmOK.cons mt_X1_copyFrom rfl os_X1_copyFrom (pmOK.cons mt_X6_copyFrom rfl os_X6_copyFrom (pmOK.nil)))) mt_X11_again rfl d [] I trivial hi hp
theorem kp_e : kp_eqs = (rlM ++ rsM).map (fun q => (q.2.2.1, q.2.2.2.1, q.1, q.2.1)) := by decide +kernel
theorem a1_e : a1_eqs = (rlM ++ rsM).map (fun q => (q.1, q.2.1, q.2.2.1, q.2.2.2.1)) := by decide +kernel
theorem kp_m : (nr kp_md && rlM.all (fun q => !(amodr kp_md q.1 q.2.1 q.2.1) && !(amodr kp_md 68 q.2.2.2.2 q.2.2.2.2)) && rlO.all (pOKe kp_md []) && dsj kp_md rxS && dsj kp_md hlS) = true := by decide +kernel
theorem a1_m : (nr a1_md && rlM.all (fun q => !(amodr a1_md q.2.2.1 q.2.2.2.1 q.2.2.2.1) && !(amodr a1_md 69 q.2.2.2.2 q.2.2.2.2)) && !(amodr a1_md 0 2 2) && !(amodr a1_md 67 3 3) && rlO.all (pOKe a1_md []) && dsj a1_md rxS && dsj a1_md hkS) = true := by decide +kernel
theorem rlB_nil {I : gI} : rlB [] I := fun e h => absurd h List.not_mem_nil
theorem pr_keep : prOK mX11_keep mX12_keep 0 false := by
  intro d xs I hn hi hw
  have hn : xs = [] := List.eq_nil_of_length_eq_zero hn
  subst hn
  refine G_mono (kp_ok d I hi (preB_ok (by decide +kernel) hi)) ?_
  rintro r hh ⟨x, J, e1, e2, i1, i2, -, i4, i5⟩
  have hm := kp_m
  simp only [Bool.and_eq_true] at hm
  obtain ⟨⟨⟨⟨m1, m2⟩, m3⟩, m6⟩, m7⟩ := hm
  rw [kp_e] at i4
  refine ⟨x, J, e1, e2, G_mono (pb_keepM d J i1 (wf0_md m1 i2 hw.1) (fun q hq => ?_) (fun q hq => ?_) ?_ (fun e he => pOKe_ok (List.all_eq_true.mp m3 e he) i2 rlB_nil (hw.2.2.2.2.1 e he)) (rX_eq hw.2.2.2.2.2.1 (fun c j hx => i2 c j (dsj_ok m6 hx)))) ?_⟩
  · have h := List.all_eq_true.mp m2 q hq
    simp only [Bool.and_eq_true, Bool.not_eq_true'] at h
    rw [i2 _ _ h.1, i2 _ _ h.2]
    exact hw.2.1 q hq
  · exact i4 _ (List.mem_map.mpr ⟨q, List.mem_append_left _ hq, rfl⟩)
  · exact Int32.toInt_inj.mp (i5 (0, 2, 1) List.mem_cons_self)
  · rintro r2 hh2 ⟨y, J2, e3, e4, g1, g2, rfl⟩
    have hl : rlB hlE J := hl_tr (WF_h hw) (fun c j hx => i2 c j (dsj_ok m7 hx))
    refine ⟨y, _, e3, e4, (fun h => by cases h), g1, WF_of g2 ⟨fun e he => ?_, fun _ e he => ?_⟩⟩
    · obtain ⟨-, -, b3, b4, b5, b6⟩ := hlS_b he
      rw [gup_ne (Or.inl (by omega)), gup_ne (Or.inl (by omega)), cp_ne (by omega), cp_ne (by omega)]
      exact hl e he
    · rw [rs_k] at he
      obtain ⟨q, hq, rfl⟩ := List.mem_map.mp he
      obtain ⟨b1, b2, b3⟩ := rsM_b hq
      show gup (gcp J 68 69 0 0 313) 67 3 1 q.2.2.1 q.2.2.2.1 = gup (gcp J 68 69 0 0 313) 67 3 1 69 q.2.2.2.2
      rw [gup_ne (Or.inl (by omega)), gup_ne (Or.inl (by decide)), cp_ne (by omega), cp_at (by omega)]
      have h1 : J q.2.2.1 q.2.2.2.1 = J q.1 q.2.1 := i4 _ (List.mem_map.mpr ⟨q, List.mem_append_right _ hq, rfl⟩)
      have h2 : J q.1 q.2.1 = J 68 q.2.2.2.2 := hl (q.1, q.2.1, 68, q.2.2.2.2) (by rw [rs_l]; exact List.mem_map.mpr ⟨q, hq, rfl⟩)
      exact h1.trans h2
theorem sl0 {I : gI} {c j : Nat} {v : Int} {x : Int32} (h : I c j = x) (hv : v < aEQ) (hx : x.toInt = v) : slotOK I (c, j, v, v) := slotOK_m hv (by
  show ain (v, v) (I c j)
  rw [h]
  exact ⟨Int.le_of_eq hx.symm, Int.le_of_eq hx⟩)
theorem pr_again : prOK mX11_again mX12_again 0 false := by
  intro d xs I hn hi hw
  have hn : xs = [] := List.eq_nil_of_length_eq_zero hn
  subst hn
  have rk := ain_of hi (show bnd bT 0 2 = (0, 1) by decide +kernel)
  dsimp only at rk
  rcases a_01 rk.1 rk.2 with k0 | k0
  · refine G_mono (a0_ok d I hi (fun s hs => ?_)) ?_
    · rw [List.mem_singleton.mp hs]
      exact sl0 k0 (by decide) rfl
    rintro r hh ⟨x, J, e1, e2, i1, i2, -, i4, i5⟩
    have eJ : J = I := afr_nil i2
    subst eJ
    refine ⟨x, J, e1, e2, G_mono (pb_againM d J i1 hw.1 (Or.inl ⟨by rw [← hw.2.2.1]; exact k0, WF_P hw⟩)) ?_⟩
    rintro r2 hh2 ⟨y, J2, e3, e4, g1, g2, ⟨q1, -⟩ | ⟨-, rfl⟩⟩
    · exact absurd (by rw [← hw.2.2.1]; exact k0) q1
    · exact ⟨y, _, e3, e4, (fun h => by cases h), g1, hw⟩
  · refine G_mono (a1_ok d I hi (fun s hs => ?_)) ?_
    · rcases List.mem_cons.mp hs with rfl | hs
      · exact sl0 k0 (by decide) rfl
      · exact preB_ok (l := a1_pre.tail) (by decide +kernel) hi s hs
    rintro r hh ⟨x, J, e1, e2, i1, i2, -, i4, i5⟩
    have hm := a1_m
    simp only [Bool.and_eq_true, Bool.not_eq_true'] at hm
    obtain ⟨⟨⟨⟨⟨⟨m1, m2⟩, m3⟩, m4⟩, m5⟩, m6⟩, m8⟩ := hm
    have hk : ¬ I 67 3 = 0 := by
      rw [← hw.2.2.1, k0]
      decide
    rw [a1_e] at i4
    refine ⟨x, J, e1, e2, G_mono (pb_againM d J i1 (wf0_md m1 i2 hw.1) (Or.inr ⟨by rw [i2 _ _ m4]; exact hk, fun q hq => ?_, fun q hq => ?_, by rw [i2 _ _ m3, i2 _ _ m4]; exact hw.2.2.1, fun e he => pOKe_ok (List.all_eq_true.mp m5 e he) i2 rlB_nil (hw.2.2.2.2.1 e he), rX_eq hw.2.2.2.2.2.1 (fun c j hx => i2 c j (dsj_ok m6 hx))⟩)) ?_⟩
    · have h := List.all_eq_true.mp m2 q hq
      simp only [Bool.and_eq_true, Bool.not_eq_true'] at h
      rw [i2 _ _ h.1, i2 _ _ h.2]
      exact hw.2.2.2.1 hk q hq
    · exact i4 _ (List.mem_map.mpr ⟨q, List.mem_append_left _ hq, rfl⟩)
    · rintro r2 hh2 ⟨y, J2, e3, e4, g1, g2, ⟨q1, rfl⟩ | ⟨q1, -⟩⟩
      · have hkJ : rlB hkE J := hk_tr hw.2.2.2.2.2.2.2 (fun c j hx => i2 c j (dsj_ok m8 hx)) q1
        refine ⟨y, _, e3, e4, (fun h => by cases h), g1, WF_of g2 ⟨fun e he => ?_, fun _ e he => ?_⟩⟩
        · rw [rs_l] at he
          obtain ⟨q, hq, rfl⟩ := List.mem_map.mp he
          obtain ⟨b1, b2, b3⟩ := rsM_b hq
          show gcp J 69 68 0 0 313 q.1 q.2.1 = gcp J 69 68 0 0 313 68 q.2.2.2.2
          rw [cp_ne (by omega), cp_at (by omega)]
          have h1 : J q.1 q.2.1 = J q.2.2.1 q.2.2.2.1 := i4 _ (List.mem_map.mpr ⟨q, List.mem_append_right _ hq, rfl⟩)
          have h2 : J q.2.2.1 q.2.2.2.1 = J 69 q.2.2.2.2 := hkJ (q.2.2.1, q.2.2.2.1, 69, q.2.2.2.2) (by rw [rs_k]; exact List.mem_map.mpr ⟨q, hq, rfl⟩)
          exact h1.trans h2
        · obtain ⟨-, -, b3, b4, b5, b6⟩ := hkS_b he
          rw [cp_ne (by omega), cp_ne (by omega)]
          exact hkJ e he
      · exact absurd q1 (by rw [i2 _ _ m4]; exact hk)
theorem pr_sun : prOK mX11_sun mX12_sun 2 false := pr_of (md := [(20, 0, 15), (68, 7, 22)]) (pm := [(37, 3, [], ops_X11_isIn), (78, 5, [(23, 0, 1, [])], ops_X11_put), (196, 3, [], ops_X11_sun), (193, 4, [], ops_X12_becomes), (127, 3, [], ops_X12_in1), (197, 3, [], ops_X12_sun)]) (mi1 := 196) (nl1 := 3) (mi2 := 197) (nl2 := 3) (fuel := 101) (eqs := [(20, 0, 68, 7), (20, 1, 68, 8), (20, 2, 68, 9), (20, 3, 68, 10), (20, 4, 68, 11), (20, 5, 68, 12), (20, 6, 68, 13), (20, 7, 68, 14), (20, 8, 68, 15), (20, 9, 68, 16), (20, 10, 68, 17), (20, 11, 68, 18), (20, 12, 68, 19), (20, 13, 68, 20), (20, 14, 68, 21), (20, 15, 68, 22)]) (pre := [(68, 7, 0, 15), (20, 0, 10000000068, 7), (68, 8, 0, 15), (20, 1, 10000000068, 8), (68, 9, 0, 15), (20, 2, 10000000068, 9), (68, 10, 0, 15), (20, 3, 10000000068, 10), (68, 11, 0, 15), (20, 4, 10000000068, 11), (68, 12, 0, 15), (20, 5, 10000000068, 12), (68, 13, 0, 15), (20, 6, 10000000068, 13), (68, 14, 0, 15), (20, 7, 10000000068, 14), (68, 15, 0, 15), (20, 8, 10000000068, 15), (68, 16, 0, 15), (20, 9, 10000000068, 16), (68, 17, 0, 15), (20, 10, 10000000068, 17), (68, 18, 0, 15), (20, 11, 10000000068, 18), (68, 19, 0, 15), (20, 12, 10000000068, 19), (68, 20, 0, 15), (20, 13, 10000000068, 20), (68, 21, 0, 15), (20, 14, 10000000068, 21), (68, 22, 0, 15), (20, 15, 10000000068, 22)]) (by decide +kernel) (pmOK.cons mt_X11_isIn rfl os_X11_isIn (pmOK.cons mt_X11_put rfl os_X11_put (pmOK.cons mt_X11_sun rfl os_X11_sun (pmOK.cons mt_X12_becomes rfl os_X12_becomes (pmOK.cons mt_X12_in1 rfl os_X12_in1 (pmOK.cons mt_X12_sun rfl os_X12_sun (pmOK.nil))))))) mt_X11_sun rfl mt_X12_sun rfl (by decide +kernel) (by decide +kernel)
theorem pr_report : prOK mX11_report mX12_report 4 false := pr_of (md := [(19, 16, 16), (32, 0, 23), (68, 6, 6), (68, 65, 88)]) (pm := [(37, 3, [], ops_X11_isIn), (245, 8, [(0, 0, 2, [0, 1, 2]), (55, 20, 16, [])], ops_X11_report), (127, 3, [], ops_X12_in1), (246, 7, [], ops_X12_report)]) (mi1 := 245) (nl1 := 8) (mi2 := 246) (nl2 := 7) (fuel := 234) (eqs := [(32, 0, 68, 65), (32, 1, 68, 66), (32, 2, 68, 67), (32, 3, 68, 68), (32, 4, 68, 69), (32, 5, 68, 70), (32, 6, 68, 71), (32, 7, 68, 72), (32, 8, 68, 73), (32, 9, 68, 74), (32, 10, 68, 75), (32, 11, 68, 76), (32, 12, 68, 77), (32, 13, 68, 78), (32, 14, 68, 79), (32, 15, 68, 80), (32, 16, 68, 81), (32, 17, 68, 82), (32, 18, 68, 83), (32, 19, 68, 84), (32, 20, 68, 85), (32, 21, 68, 86), (32, 22, 68, 87), (32, 23, 68, 88), (19, 16, 68, 6)]) (pre := [(68, 65, 0, 15), (32, 0, 10000000068, 65), (68, 66, (-2147483648), 2147483647), (32, 1, 10000000068, 66), (68, 67, (-2147483648), 2147483647), (32, 2, 10000000068, 67), (68, 68, (-2147483648), 2147483647), (32, 3, 10000000068, 68), (68, 69, 0, 15), (32, 4, 10000000068, 69), (68, 70, (-2147483648), 2147483647), (32, 5, 10000000068, 70), (68, 71, (-2147483648), 2147483647), (32, 6, 10000000068, 71), (68, 72, (-2147483648), 2147483647), (32, 7, 10000000068, 72), (68, 73, 0, 15), (32, 8, 10000000068, 73), (68, 74, (-2147483648), 2147483647), (32, 9, 10000000068, 74), (68, 75, (-2147483648), 2147483647), (32, 10, 10000000068, 75), (68, 76, (-2147483648), 2147483647), (32, 11, 10000000068, 76), (68, 77, 0, 15), (32, 12, 10000000068, 77), (68, 78, (-2147483648), 2147483647), (32, 13, 10000000068, 78), (68, 79, (-2147483648), 2147483647), (32, 14, 10000000068, 79), (68, 80, (-2147483648), 2147483647), (32, 15, 10000000068, 80), (68, 81, 0, 15), (32, 16, 10000000068, 81), (68, 82, (-2147483648), 2147483647), (32, 17, 10000000068, 82), (68, 83, (-2147483648), 2147483647), (32, 18, 10000000068, 83), (68, 84, (-2147483648), 2147483647), (32, 19, 10000000068, 84), (68, 85, 0, 15), (32, 20, 10000000068, 85), (68, 86, (-2147483648), 2147483647), (32, 21, 10000000068, 86), (68, 87, (-2147483648), 2147483647), (32, 22, 10000000068, 87), (68, 88, (-2147483648), 2147483647), (32, 23, 10000000068, 88), (68, 6, 0, 6), (19, 16, 10000000068, 6)]) (by decide +kernel) (pmOK.cons mt_X11_isIn rfl os_X11_isIn (pmOK.cons mt_X11_report rfl os_X11_report (pmOK.cons mt_X12_in1 rfl os_X12_in1 (pmOK.cons mt_X12_report rfl os_X12_report (pmOK.nil))))) mt_X11_report rfl mt_X12_report rfl (by decide +kernel) (by decide +kernel)
theorem pr_forget : prOK mX11_forget mX12_forget 0 false := pr_of (md := [(19, 16, 16), (68, 6, 6)]) (pm := [(247, 2, [], ops_X11_forget), (193, 4, [], ops_X12_becomes), (248, 1, [], ops_X12_forget)]) (mi1 := 247) (nl1 := 2) (mi2 := 248) (nl2 := 1) (fuel := 30) (eqs := [(19, 16, 68, 6)]) (pre := [(68, 6, 0, 6), (19, 16, 10000000068, 6)]) (by decide +kernel) (pmOK.cons mt_X11_forget rfl os_X11_forget (pmOK.cons mt_X12_becomes rfl os_X12_becomes (pmOK.cons mt_X12_forget rfl os_X12_forget (pmOK.nil)))) mt_X11_forget rfl mt_X12_forget rfl (by decide +kernel) (by decide +kernel)
theorem ln_sun : (List.range 16).all (fun h => decide ((20, h, 36, h, 7 + h) ∈ rlM) && decide (bnd bT 68 (7 + h) = (0, 15))) = true := by decide +kernel
theorem ln_rep : (List.range 24).all (fun j => decide ((32, j, 48, j, 65 + j) ∈ rlM)) = true := by decide +kernel
theorem ln_r0 : (List.range 6).all (fun r => decide (bnd bT 68 (65 + 4 * r) = (0, 15))) = true := by decide +kernel
def lSun (I : gI) (h : Nat) : Nat := (I 20 h).toInt.toNat
def lRp (I : gI) (r k : Nat) : Int := (I 32 (4 * r + k)).toInt
def lnCnt (I : gI) : Nat := (I 19 16).toInt.toNat
theorem ln_s {I : gI} (hi : aInv bT I) (hw : WF I) {h : Nat} (hh : h < 16) : I 20 h = Int32.ofNat (lSun I h) ∧ lSun I h < 16 ∧ I 68 (7 + h) = Int32.ofNat (lSun I h) := by
  have h1 := List.all_eq_true.mp ln_sun h (List.mem_range.mpr hh)
  simp only [Bool.and_eq_true, decide_eq_true_eq] at h1
  have h2 : I 20 h = I 68 (7 + h) := hw.2.1 _ h1.1
  have h3 := ain_of hi h1.2
  dsimp only at h3
  rw [← h2] at h3
  have h4 : I 20 h = Int32.ofNat (lSun I h) := to_nat h3.1 (by omega)
  refine ⟨h4, ?_, by rw [← h2]; exact h4⟩
  show (I 20 h).toInt.toNat < 16
  omega
theorem ln_r {I : gI} (hw : WF I) : ∀ r k, r < 6 → k < 4 → (I 68 (65 + 4 * r + k)).toInt = lRp I r k := fun r k hr hk => by
  have h1 := of_decide_eq_true (List.all_eq_true.mp ln_rep (4 * r + k) (List.mem_range.mpr (by omega)))
  have h2 : I 32 (4 * r + k) = I 68 (65 + (4 * r + k)) := hw.2.1 _ h1
  show _ = (I 32 (4 * r + k)).toInt
  rw [h2, Nat.add_assoc]
theorem ln_n {I : gI} (hi : aInv bT I) (hw : WF I) : lnCnt I ≤ 6 ∧ I 19 16 = Int32.ofNat (lnCnt I) ∧ I 68 6 = Int32.ofNat (lnCnt I) := by
  have h2 : I 19 16 = I 68 6 := hw.2.1 (19, 16, 35, 16, 6) (by decide +kernel)
  have h3 := ain_of hi (show bnd bT 19 16 = (0, 6) by decide +kernel)
  dsimp only at h3
  have h4 : I 19 16 = Int32.ofNat (lnCnt I) := to_nat h3.1 (by omega)
  refine ⟨?_, h4, by rw [← h2]; exact h4⟩
  show (I 19 16).toInt.toNat ≤ 6
  omega
theorem ln_p {I : gI} (hi : aInv bT I) (hw : WF I) : ∀ r, r < lnCnt I → 0 ≤ lRp I r 0 ∧ lRp I r 0 ≤ 15 := fun r hr => by
  have hn := (ln_n hi hw).1
  have h1 := of_decide_eq_true (List.all_eq_true.mp ln_r0 r (List.mem_range.mpr (by omega)))
  have h2 := ain_of hi h1
  dsimp only at h2
  have h3 := ln_r hw r 0 (by omega) (by decide)
  rw [Nat.add_zero] at h3
  rw [h3] at h2
  exact h2
theorem ln_wf {I J : gI} (hf : afr mdF I J) (hw : WF I) : WF J := lw_md (by decide +kernel) (by decide +kernel) (by decide +kernel) hf hw
theorem pr_lone : prOK mX11_lone mX12_lone 1 true := by
  intro d xs I hn hi hw
  match xs, hn with
  | [w], _ =>
    obtain ⟨n1, n2, n3⟩ := ln_n hi hw
    refine loneX_G (d := d + 35) (sun := lSun I) (rp := lRp I) n1 n2 (fun _ _ _ _ => rfl) (fun h hh => (ln_s hi hw hh).1) (fun h hh => (ln_s hi hw hh).2.1) (ln_p hi hw) ⟨_, I, rfl, rfl, ?_⟩
    exact loneM_G (d := d + 37) (sun := lSun I) (rp := lRp I) n1 n3 (ln_r hw) (fun h hh => (ln_s hi hw hh).2.2) (fun h hh => (ln_s hi hw hh).2.1) (ln_p hi hw) hi (fun J hJ hf => ⟨_, J, rfl, rfl, (fun _ => rfl), hJ, ln_wf hf hw⟩)
theorem pr_liar : prOK mX11_liar mX12_liar 0 true := by
  intro d xs I hn hi hw
  have hn : xs = [] := List.eq_nil_of_length_eq_zero hn
  subst hn
  obtain ⟨n1, n2, n3⟩ := ln_n hi hw
  refine liarX_G (d := d + 35) (sun := lSun I) (rp := lRp I) n1 n2 (fun _ _ _ _ => rfl) (fun h hh => (ln_s hi hw hh).1) (fun h hh => (ln_s hi hw hh).2.1) (ln_p hi hw) (fun v hv => ⟨v, I, rfl, rfl, ?_⟩)
  exact liarM_G (d := d + 37) (sun := lSun I) (rp := lRp I) n1 n3 (ln_r hw) (fun h hh => (ln_s hi hw hh).2.2) (fun h hh => (ln_s hi hw hh).2.1) (ln_p hi hw) hi (fun J hJ hf v2 hv2 => ⟨v2, J, rfl, rfl, (fun _ => liR_u hv2 hv), hJ, ln_wf hf hw⟩)
