set_option maxRecDepth 16384 in
/-! ===== the methods that write what class and reference hold alike, and those that are compared ===== -/
def prE (cmp : Bool) (x : Int32) : Option Value → gH → Prop := pbM (fun y J => (cmp = true → y = x) ∧ aInv bT J ∧ WF J)
set_option maxRecDepth 16384 in
/-- both calls, one behind the other -/
def prOK (M1 M2 : gM) (n : Nat) (cmp : Bool) : Prop := ∀ (d : Nat) (xs : List Int32) (I : gI), xs.length = n → aInv bT I → WF I → gg (d + 40) M1 0 (gent M1.2.2.1 (.ref 0 :: xs.map Value.int)) [] I (pbM (fun x J => gg (d + 40) M2 0 (gent M2.2.2.1 (.ref 67 :: xs.map Value.int)) [] J (prE cmp x)))
set_option maxRecDepth 16384 in
def nr (md : aMd) : Bool := md.all (fun r => (decide (r.1 ≠ 68) && decide (r.1 ≠ 69)) || (decide (r.2.2 < 89) && (decide (r.2.2 < 5) || decide (5 < r.2.1))))
set_option maxRecDepth 16384 in
theorem nr_ok {md : aMd} {c j : Nat} (h : nr md = true) (hc : c = 68 ∨ c = 69) (hj : j = 5 ∨ (89 ≤ j ∧ j ≤ 312)) : amodr md c j j = false := by
  cases hm : amodr md c j j with
  | false => rfl
  | true =>
    obtain ⟨p, h1, h2⟩ := List.any_eq_true.mp hm
    have h3 := List.all_eq_true.mp h p h1
    simp only [Bool.and_eq_true, Bool.or_eq_true, decide_eq_true_eq] at h2 h3
    omega
set_option maxRecDepth 16384 in
theorem wf0_md {I J : gI} {md : aMd} (h : nr md = true) (hf : afr md I J) (hw : WF0 I) : WF0 J := WF0_tr hw (fun c j hc hj => hf c j (nr_ok h hc hj))
set_option maxRecDepth 16384 in
/-- a pair is equal at the end, or neither was written -/
def pOKe (md : aMd) (eqs : aE4) (e : Nat × Nat × Nat × Nat) : Bool := eqs.any (fun q => decide (q = e)) || (!(amodr md e.1 e.2.1 e.2.1) && !(amodr md e.2.2.1 e.2.2.2 e.2.2.2))
set_option maxRecDepth 16384 in
theorem pOKe_ok {md : aMd} {eqs : aE4} {e : Nat × Nat × Nat × Nat} {I J : gI} (h : pOKe md eqs e = true) (hf : afr md I J) (he : rlB eqs J) (hI : I e.1 e.2.1 = I e.2.2.1 e.2.2.2) : J e.1 e.2.1 = J e.2.2.1 e.2.2.2 := by
  simp only [pOKe, Bool.or_eq_true, Bool.and_eq_true, Bool.not_eq_true'] at h
  rcases h with h | ⟨h1, h2⟩
  · obtain ⟨q, h1, h2⟩ := List.any_eq_true.mp h
    have h2 : q = e := of_decide_eq_true h2
    subst h2
    exact he q h1
  · rw [hf _ _ h1, hf _ _ h2]
    exact hI
set_option maxRecDepth 16384 in
/-- both calls within bounds of the arguments -/
theorem pr_box {md : aMd} {pm : aPm} {mi1 nl1 mi2 nl2 fuel : Nat} {xc : aXc} {E : List Value → Int32 → Int32 → gI → Prop} {args : List (Nat × Int × Int)} {pre : List (Nat × Nat × Int × Int)} {M1 M2 : gM} (h : pchk bT md 297 [] pm none mi1 40 nl1 0 mi2 40 nl2 67 xc fuel args pre = true) (hxc : ∀ vs, xcOK bT (aentA args []).1 vs xc (E vs)) (hpm : pmOK MT pm) (hM1 : MT[mi1]? = some M1) (hn1 : M1.2.2.1 = nl1) (hM2 : MT[mi2]? = some M2) (hn2 : M2.2.2.1 = nl2) (d : Nat) (xs : List Int32) (I : gI) (ha : argsOK args (xs.map Value.int)) (hi : aInv bT I) (hp : ∀ s ∈ pre, slotOK I s) {cmp : Bool} (hE : ∀ x y J, aInv bT J → afr md I J → E (xs.map Value.int) x y J → (cmp = true → y = x) ∧ WF J) :
    gg (d + 40) M1 0 (gent M1.2.2.1 (.ref 0 :: xs.map Value.int)) [] I (pbM (fun x J => gg (d + 40) M2 0 (gent M2.2.2.1 (.ref 67 :: xs.map Value.int)) [] J (prE cmp x))) := by
  have go := pchk_ok (Ext := fun _ => True) h hM1 hn1 hM2 hn2 hpm MT_len (fun m hm => absurd hm List.not_mem_nil) (fun _ _ _ _ => trivial) hxc d (xs.map Value.int) I ha hi trivial hp _ rfl
  refine G_mono go ?_
  rintro r hh ⟨x, J, e1, e2, g⟩
  refine ⟨x, J, e1, e2, G_mono g ?_⟩
  rintro r2 hh2 ⟨y, J2, e3, e4, i1, i2, i3⟩
  have := hE x y J2 i1 i2 i3
  exact ⟨y, J2, e3, e4, this.1, i1, this.2⟩
set_option maxRecDepth 16384 in
/-- one call -/
theorem p1_box {md : aMd} {pm : aPm} {mi1 nl1 c1 fuel : Nat} {xc : aXc} {E : List Value → Int32 → Int32 → gI → Prop} {args : List (Nat × Int × Int)} {pre : List (Nat × Nat × Int × Int)} {M1 : gM} (h : pchk bT md 297 [] pm (some (2, 0)) mi1 40 nl1 c1 mi1 40 nl1 c1 xc fuel args pre = true) (hxc : ∀ vs, xcOK bT (aentA args []).1 vs xc (E vs)) (hpm : pmOK MT pm) (hM1 : MT[mi1]? = some M1) (hn1 : M1.2.2.1 = nl1) (d : Nat) (vs : List Value) (I : gI) (ha : argsOK args vs) (hi : aInv bT I) (hp : ∀ s ∈ pre, slotOK I s) : gg (d + 40) M1 0 (gent M1.2.2.1 (.ref c1 :: vs)) [] I (pQ2 bT md I (E vs) 0) :=
  pchk_ok (Ext := fun _ => True) h hM1 hn1 hM1 hn1 hpm MT_len (fun m hm => absurd hm List.not_mem_nil) (fun _ _ _ _ => trivial) hxc d vs I ha hi trivial hp _ ⟨0, aiv.of rfl, rfl⟩

set_option maxRecDepth 16384 in
def kp_md : aMd := [(0, 2, 2), (35, 1, 4), (35, 8, 9), (35, 16, 16), (36, 0, 15), (37, 0, 5), (38, 0, 5), (39, 0, 5), (40, 0, 5), (41, 0, 5), (42, 0, 5), (43, 0, 1), (44, 0, 7), (45, 0, 7), (46, 0, 7), (47, 0, 199), (48, 0, 23)]
set_option maxRecDepth 16384 in
def kp_pre : List (Nat × Nat × Int × Int) := []
set_option maxRecDepth 16384 in
def kp_eqs : aE4 := []
set_option maxRecDepth 16384 in
theorem kp_ok (d : Nat) (I : gI) (hi : aInv bT I) (hp : ∀ s ∈ kp_pre, slotOK I s) : gg (d + 40) mX11_keep 0 (gent mX11_keep.2.2.1 [.ref 0]) [] I (pQ2 bT kp_md I (pEx false kp_eqs [(0, 2, 1)]) 0) := p1_box (xc := fun B K _ v w => pxt false kp_eqs [(0, 2, 1)] B K v w) (E := fun _ => pEx false kp_eqs [(0, 2, 1)]) (args := []) (mi1 := 292) (nl1 := 1) (fuel := 153) (pm := [(292, 1, [], ops_X11_keep), (111, 2, [], ops_X1_copyFrom), (0, 2, [], ops_X6_copyFrom)]) (by decide +kernel) (fun vs => pxt_ok) (pmOK.cons mt_X11_keep rfl os_X11_keep (pmOK.cons mt_X1_copyFrom rfl os_X1_copyFrom (pmOK.cons mt_X6_copyFrom rfl os_X6_copyFrom (pmOK.nil)))) mt_X11_keep rfl d [] I trivial hi hp
set_option maxRecDepth 16384 in
def a0_md : aMd := []
set_option maxRecDepth 16384 in
def a0_pre : List (Nat × Nat × Int × Int) := [(0, 2, 0, 0)]
set_option maxRecDepth 16384 in
def a0_eqs : aE4 := []
set_option maxRecDepth 16384 in
theorem a0_ok (d : Nat) (I : gI) (hi : aInv bT I) (hp : ∀ s ∈ a0_pre, slotOK I s) : gg (d + 40) mX11_again 0 (gent mX11_again.2.2.1 [.ref 0]) [] I (pQ2 bT a0_md I (pEx false a0_eqs []) 0) := p1_box (xc := fun B K _ v w => pxt false a0_eqs [] B K v w) (E := fun _ => pEx false a0_eqs []) (args := []) (mi1 := 294) (nl1 := 1) (fuel := 8) (pm := [(294, 1, [], ops_X11_again)]) (by decide +kernel) (fun vs => pxt_ok) (pmOK.cons mt_X11_again rfl os_X11_again (pmOK.nil)) mt_X11_again rfl d [] I trivial hi hp
set_option maxRecDepth 16384 in
def a1_md : aMd := [(19, 1, 4), (19, 8, 9), (19, 16, 16), (20, 0, 15), (21, 0, 5), (22, 0, 5), (23, 0, 5), (24, 0, 5), (25, 0, 5), (26, 0, 5), (27, 0, 1), (28, 0, 7), (29, 0, 7), (30, 0, 7), (31, 0, 199), (32, 0, 23)]
set_option maxRecDepth 16384 in
def a1_pre : List (Nat × Nat × Int × Int) := [(0, 2, 1, 1)]
set_option maxRecDepth 16384 in
def a1_eqs : aE4 := []
set_option maxRecDepth 16384 in
theorem a1_ok (d : Nat) (I : gI) (hi : aInv bT I) (hp : ∀ s ∈ a1_pre, slotOK I s) : gg (d + 40) mX11_again 0 (gent mX11_again.2.2.1 [.ref 0]) [] I (pQ2 bT a1_md I (pEx false a1_eqs []) 0) := p1_box (xc := fun B K _ v w => pxt false a1_eqs [] B K v w) (E := fun _ => pEx false a1_eqs []) (args := []) (mi1 := 294) (nl1 := 1) (fuel := 155) (pm := [(294, 1, [], ops_X11_again), (111, 2, [], ops_X1_copyFrom), (0, 2, [], ops_X6_copyFrom)]) (by decide +kernel) (fun vs => pxt_ok) (pmOK.cons mt_X11_again rfl os_X11_again (pmOK.cons mt_X1_copyFrom rfl os_X1_copyFrom (pmOK.cons mt_X6_copyFrom rfl os_X6_copyFrom (pmOK.nil)))) mt_X11_again rfl d [] I trivial hi hp
set_option maxRecDepth 16384 in
theorem kp_e : kp_eqs = rlM.map (fun q => (q.2.2.1, q.2.2.2.1, q.1, q.2.1)) := by decide +kernel
set_option maxRecDepth 16384 in
theorem a1_e : a1_eqs = rlM.map (fun q => (q.1, q.2.1, q.2.2.1, q.2.2.2.1)) := by decide +kernel
set_option maxRecDepth 16384 in
theorem kp_m : (nr kp_md && rlM.all (fun q => !(amodr kp_md q.1 q.2.1 q.2.1) && !(amodr kp_md 68 q.2.2.2.2 q.2.2.2.2)) && rlO.all (pOKe kp_md []) && dsj kp_md rxS) = true := by decide +kernel
set_option maxRecDepth 16384 in
theorem a1_m : (nr a1_md && rlM.all (fun q => !(amodr a1_md q.2.2.1 q.2.2.2.1 q.2.2.2.1) && !(amodr a1_md 69 q.2.2.2.2 q.2.2.2.2)) && !(amodr a1_md 0 2 2) && !(amodr a1_md 67 3 3) && rlO.all (pOKe a1_md []) && dsj a1_md rxS) = true := by decide +kernel
set_option maxRecDepth 16384 in
theorem rlB_nil {I : gI} : rlB [] I := fun e h => absurd h List.not_mem_nil
set_option maxRecDepth 16384 in
theorem tXs_c {c j : Nat} (h : amodr tXs c j j = true) : c ≠ 68 := fun e => by
  subst e
  rw [am_nc (by decide)] at h
  cases h
set_option maxRecDepth 16384 in
theorem tXs_b {c j : Nat} (h : amodr tXs c j j = true) : (c ≠ 67 ∨ j ≠ 3) ∧ c ≠ 69 := by
  refine ⟨?_, fun e => ?_⟩
  · by_cases e : c = 67
    · subst e
      refine Or.inr (fun e2 => ?_)
      subst e2
      exact absurd h (by decide)
    · exact Or.inl e
  · subst e
    rw [am_nc (by decide)] at h
    cases h
set_option maxRecDepth 16384 in
theorem pr_keep : prOK mX11_keep mX12_keep 0 false := by
  intro d xs I hn hi hw
  have hn : xs = [] := List.eq_nil_of_length_eq_zero hn
  subst hn
  refine G_mono (kp_ok d I hi (preB_ok (by decide +kernel) hi)) ?_
  rintro r hh ⟨x, J, e1, e2, i1, i2, -, i4, i5⟩
  have hm := kp_m
  simp only [Bool.and_eq_true] at hm
  obtain ⟨⟨⟨m1, m2⟩, m3⟩, m6⟩ := hm
  refine ⟨x, J, e1, e2, G_mono (pb_keepM d J i1 (wf0_md m1 i2 hw.1) (fun q hq => ?_) (fun q hq => ?_) ?_ (fun e he => pOKe_ok (List.all_eq_true.mp m3 e he) i2 rlB_nil (hw.2.2.2.2.1 e he)) trivial) ?_⟩
  · have h := List.all_eq_true.mp m2 q hq
    simp only [Bool.and_eq_true, Bool.not_eq_true'] at h
    rw [i2 _ _ h.1, i2 _ _ h.2]
    exact hw.2.1 q hq
  · rw [kp_e] at i4
    exact i4 _ (List.mem_map.mpr ⟨q, hq, rfl⟩)
  · exact Int32.toInt_inj.mp (i5 (0, 2, 1) List.mem_cons_self)
  · rintro r2 hh2 ⟨y, J2, e3, e4, g1, g2, rfl⟩
    refine ⟨y, _, e3, e4, (fun h => by cases h), g1, WF_of g2 (tX_eq (tX_md (WF_t hw) (by decide +kernel) i2) (fun c j hx => ?_))⟩
    obtain ⟨t1, t2⟩ := tXs_b hx
    rw [gup_ne t1, cp_ne t2]
set_option maxRecDepth 16384 in
theorem sl0 {I : gI} {c j : Nat} {v : Int} {x : Int32} (h : I c j = x) (hv : v < aEQ) (hx : x.toInt = v) : slotOK I (c, j, v, v) := slotOK_m hv (by
  show ain (v, v) (I c j)
  rw [h]
  exact ⟨Int.le_of_eq hx.symm, Int.le_of_eq hx⟩)
set_option maxRecDepth 16384 in
theorem pr_again : prOK mX11_again mX12_again 0 false := by
  intro d xs I hn hi hw
  have hn : xs = [] := List.eq_nil_of_length_eq_zero hn
  subst hn
  have rk := ain_of hi (show bnd bT 0 2 = (0, 1) by decide +kernel)
  dsimp only at rk
  rcases a_01 rk.1 rk.2 with k0 | k0
  · refine G_mono (a0_ok d I hi (fun s hs => ?_)) ?_
    · rw [List.mem_singleton.mp hs]
      exact sl0 k0 (by decide) rfl
    rintro r hh ⟨x, J, e1, e2, i1, i2, -, i4, i5⟩
    have eJ : J = I := afr_nil i2
    subst eJ
    refine ⟨x, J, e1, e2, G_mono (pb_againM d J i1 hw.1 (Or.inl ⟨by rw [← hw.2.2.1]; exact k0, WF_P hw⟩)) ?_⟩
    rintro r2 hh2 ⟨y, J2, e3, e4, g1, g2, ⟨q1, -⟩ | ⟨-, rfl⟩⟩
    · exact absurd (by rw [← hw.2.2.1]; exact k0) q1
    · exact ⟨y, _, e3, e4, (fun h => by cases h), g1, hw⟩
  · refine G_mono (a1_ok d I hi (fun s hs => ?_)) ?_
    · rcases List.mem_cons.mp hs with rfl | hs
      · exact sl0 k0 (by decide) rfl
      · exact preB_ok (l := a1_pre.tail) (by decide +kernel) hi s hs
    rintro r hh ⟨x, J, e1, e2, i1, i2, -, i4, i5⟩
    have hm := a1_m
    simp only [Bool.and_eq_true, Bool.not_eq_true'] at hm
    obtain ⟨⟨⟨⟨⟨m1, m2⟩, m3⟩, m4⟩, m5⟩, m6⟩ := hm
    have hk : ¬ I 67 3 = 0 := by
      rw [← hw.2.2.1, k0]
      decide
    refine ⟨x, J, e1, e2, G_mono (pb_againM d J i1 (wf0_md m1 i2 hw.1) (Or.inr ⟨by rw [i2 _ _ m4]; exact hk, fun q hq => ?_, fun q hq => ?_, by rw [i2 _ _ m3, i2 _ _ m4]; exact hw.2.2.1, fun e he => pOKe_ok (List.all_eq_true.mp m5 e he) i2 rlB_nil (hw.2.2.2.2.1 e he), trivial⟩)) ?_⟩
    · have h := List.all_eq_true.mp m2 q hq
      simp only [Bool.and_eq_true, Bool.not_eq_true'] at h
      rw [i2 _ _ h.1, i2 _ _ h.2]
      exact hw.2.2.2.1 hk q hq
    · rw [a1_e] at i4
      exact i4 _ (List.mem_map.mpr ⟨q, hq, rfl⟩)
    · rintro r2 hh2 ⟨y, J2, e3, e4, g1, g2, ⟨-, rfl⟩ | ⟨q1, -⟩⟩
      · refine ⟨y, _, e3, e4, (fun h => by cases h), g1, WF_of g2 (tX_eq (tX_md (WF_t hw) (by decide +kernel) i2) (fun c j hx => ?_))⟩
        obtain ⟨-, t2⟩ := tXs_b hx
        exact cp_ne (tXs_c hx)
      · exact absurd q1 (by rw [i2 _ _ m4]; exact hk)
set_option maxRecDepth 16384 in
theorem fd_tX {I J J2 : gI} {e : Int64} {n : Int32} (h : tX I) (hz : 0 ≤ (I 67 6).toInt) (hn : 1 ≤ n.toInt) (hn8 : n.toInt ≤ 8) (h3 : (J 55 1).toInt = (I 67 6).toInt + n.toInt) (j2 : afr [(55, 1, 1), (56, 0, 199)] I J) (j4 : fdB I J 56 (I 67 6).toInt.toNat e n.toInt.toNat) (k2 : afr [(67, 6, 6), (72, 0, 199)] J J2) (k3 : (J2 67 6).toInt = (I 67 6).toInt + n.toInt) (k4 : fdB J J2 72 (I 67 6).toInt.toNat e n.toInt.toNat) : tX J2 := by
  refine ⟨?_, fun j hj hl => ?_⟩
  · rw [k2 55 1 (by decide)]
    exact Int32.toInt_inj.mp (by omega)
  · rw [k2 56 j (am_nc (by decide)), j4 j, k4 j, j2 72 j (am_nc (by decide))]
    by_cases c : (I 67 6).toInt.toNat ≤ j ∧ j < (I 67 6).toInt.toNat + n.toInt.toNat
    · rw [if_pos c, if_pos c]
    · rw [if_neg c, if_neg c]
      exact h.2 j hj (by omega)
set_option maxRecDepth 16384 in
theorem pr_feed (d : Nat) (e : Int64) (n : Int32) (I : gI) (hi : aInv bT I) (hw : WF I) : gg (d + 40) mX11_feed 0 (gent 5 [.ref 0, .long e, .int n]) [] I (pbM (fun x J => gg (d + 40) mX12_feed 0 (gent 5 [.ref 67, .long e, .int n]) [] J (prE true x))) := by
  have ht := (WF_t hw).1
  have hz := ain_of hi (show bnd bT 67 6 = (0, 200) by decide +kernel)
  dsimp only at hz
  refine feedE_X (d := d) hi (fun a => ?_) (fun a b c => ?_) (fun a b c J j1 j2 j3 j4 => ?_)
  · exact ⟨-1, I, rfl, rfl, feedE_M (d := d) hi (fun _ => ⟨-1, I, rfl, rfl, (fun _ => rfl), hi, hw⟩) (fun p q _ => by exfalso; omega) (fun p q _ J _ _ _ _ => by exfalso; omega)⟩
  · rw [ht] at c
    exact ⟨-2, I, rfl, rfl, feedE_M (d := d) hi (fun p => by exfalso; omega) (fun _ _ _ => ⟨-2, I, rfl, rfl, (fun _ => rfl), hi, hw⟩) (fun p q r J _ _ _ _ => by exfalso; omega)⟩
  · have e6 : J 67 6 = I 67 6 := j2 67 6 (by decide +kernel)
    rw [ht] at c j3 j4
    refine ⟨J 55 1, J, rfl, rfl, feedE_M (d := d) j1 (fun p => by exfalso; omega) (fun p q r => by exfalso; rw [e6] at r; omega) (fun p q r J2 k1 k2 k3 k4 => ?_)⟩
    rw [e6] at k3 k4
    have f1 : J2 55 1 = J 55 1 := k2 55 1 (by decide +kernel)
    have f2 : J2 67 6 = J 55 1 := Int32.toInt_inj.mp (by omega)
    exact ⟨J2 67 6, J2, rfl, rfl, (fun _ => f2), k1, WF_of (pE WF_st (md := [(67, 6, 6), (72, 0, 199)]) (by decide +kernel) J J2 (pE WF_st (md := [(55, 1, 1), (56, 0, 199)]) (by decide +kernel) I J (WF_P hw) j2) k2) (fd_tX (WF_t hw) hz.1 a b j3 j2 j4 k2 k3 k4)⟩
set_option maxRecDepth 16384 in
theorem tp_of {I : gI} (hi : aInv bT I) (h : tX I) : tpB I (bN I) := by
  have hz := ain_of hi (show bnd bT 67 6 = (0, 200) by decide +kernel)
  dsimp only at hz
  have b72 : ∀ j : Nat, j < 200 → (0 : Int) ≤ (I 72 j).toInt := fun j hj => by
    have h1 := hi 72 j
    have e2 : bnd bT 72 j = (0, 255) := by
      show bseg (bT.getD 72 []) _ = _
      rw [show bT.getD 72 [] = [(199, 0, 255)] by decide +kernel]
      show (if _ ≤ 199 then _ else _) = _
      rw [if_pos (by omega)]
    rw [e2] at h1
    exact h1.1
  refine ⟨okB_of hi, fun j hj => ?_, fun j hj => ?_, by rw [h.1]; exact hz.1, by rw [h.1]; exact hz.2, fun j hj => ?_⟩
  · rw [h.1] at hj
    unfold bN
    rw [if_pos hj, h.2 j (by omega) hj]
  · rw [h.1] at hj
    unfold bN
    rw [if_neg (by omega)]
  · rw [h.1] at hj
    unfold bN
    rw [if_pos hj]
    exact b72 j (by omega)
set_option maxRecDepth 16384 in
theorem pr_rules : prOK mX11_rules mX12_rules 0 true := by
  intro d xs I hn hi hw
  have hn : xs = [] := List.eq_nil_of_length_eq_zero hn
  subst hn
  refine rules_X (d := d + 28) hi (tp_of hi (WF_t hw)) (fun v J j1 jf j5 jv => ?_)
  have eB : bN J = bN I := bN_eq jf (by decide) (by decide)
  refine ⟨v, J, rfl, rfl, G_mono (pb_rulesM hNM d [] J rfl j1 (pE WF_st (md := mdRx) (by decide +kernel) I J (WF_P hw) jf)) ?_⟩
  rintro r2 hh2 ⟨y, J2, e5, e6, e7, i1, i2, ⟨i3, -⟩, i8⟩
  rw [eB] at e7
  exact ⟨y, J2, e5, e6, (fun _ => Int32.toInt_inj.mp (by rw [e7, jv])), i1, WF_of i2 ⟨by rw [i3 55 1 (by decide), i8]; exact j5, fun j _ hj => absurd hj (by rw [i8]; show ¬ (j : Int) < 0; omega)⟩⟩
