/-! ===== every public method, from any heap in order ===== -/
theorem args_all : ∀ xs : List Int32, argsOK (List.replicate xs.length (0, (-2147483648 : Int), 2147483647)) (xs.map Value.int)
  | [] => trivial
  | x :: xs => ⟨⟨x, rfl, a_rng x⟩, args_all xs⟩
/-- HALT and z of both are alike, now and kept -/
def hlE : aE4 := [(19, 1, 68, 0), (19, 4, 68, 3)]
def hkE : aE4 := [(35, 1, 69, 0), (35, 4, 69, 3)]
def hlt (I : gI) : Prop := rlB hlE I ∧ (I 67 3 ≠ 0 → rlB hkE I)
def WF (I : gI) : Prop := WF0 I ∧ rM I ∧ I 0 2 = I 67 3 ∧ (I 67 3 ≠ 0 → rK I) ∧ rO I ∧ rX I ∧ hlt I
theorem WF_P {I : gI} (h : WF I) : WP I := ⟨h.1, h.2.1, h.2.2.1, h.2.2.2.1, h.2.2.2.2.1, h.2.2.2.2.2.1⟩
theorem WF_of {I : gI} (h : WP I) (h2 : hlt I) : WF I := ⟨h.1, h.2.1, h.2.2.1, h.2.2.2.1, h.2.2.2.2.1, h.2.2.2.2.2, h2⟩
theorem WF_h {I : gI} (h : WF I) : I 19 1 = I 68 0 ∧ I 19 4 = I 68 3 := ⟨h.2.2.2.2.2.2.1 (19, 1, 68, 0) (by decide), h.2.2.2.2.2.2.1 (19, 4, 68, 3) (by decide)⟩
theorem hlt_mk {I : gI} (h1 : I 19 1 = I 68 0) (h2 : I 19 4 = I 68 3) (h3 : I 67 3 ≠ 0 → rlB hkE I) : hlt I := ⟨fun e he => by
  simp only [hlE, List.mem_cons, List.not_mem_nil, or_false] at he
  rcases he with rfl | rfl
  · exact h1
  · exact h2, h3⟩
def hkS : aMd := [(67, 3, 3), (35, 1, 1), (35, 4, 4), (69, 0, 0), (69, 3, 3)]
theorem hk_tr {I J : gI} (h : I 67 3 ≠ 0 → rlB hkE I) (hs : ∀ c j, amodr hkS c j j = true → J c j = I c j) : J 67 3 ≠ 0 → rlB hkE J := fun hn e he => by
  rw [hs 67 3 (by decide)] at hn
  have h1 := h hn e he
  simp only [hkE, List.mem_cons, List.not_mem_nil, or_false] at he
  rcases he with rfl | rfl
  · show J 35 1 = J 69 0
    rw [hs 35 1 (by decide), hs 69 0 (by decide)]
    exact h1
  · show J 35 4 = J 69 3
    rw [hs 35 4 (by decide), hs 69 3 (by decide)]
    exact h1
def lbQ (P : Int32 → Prop) : Option Value → gH → Prop := fun r h => (∃ x : Int32, r = some (.int x) ∧ P x) ∧ ∃ I', h = (SH0, RF0, I') ∧ aInv bT I' ∧ WF I'
def lbOK (M : gM) (cell n : Nat) : Prop := ∀ (d : Nat) (xs : List Int32) (I : gI), xs.length = n → aInv bT I → WF I → gg (d + 40) M 0 (gent M.2.2.1 (.ref cell :: xs.map Value.int)) [] I (lbQ (fun _ => True))
def preH (l : List (Nat × Nat × Int × Int)) : Bool := l.all (fun s => (decide (s.2.2.1 < aEQ) && asub (bnd bT s.1 s.2.1) s.2.2) || decide (s = (19, 1, 0, 16)) || decide (s = (19, 1, aEQ + 68, 0)) || decide (s = (68, 0, aEQ + 19, 1)) || decide (s = (19, 4, aEQ + 68, 3)) || decide (s = (68, 3, aEQ + 19, 4)))
theorem preH_ok {I : gI} {l : List (Nat × Nat × Int × Int)} (h : preH l = true) (hi : aInv bT I) (hw : WF I) : ∀ s ∈ l, slotOK I s := fun s hs => by
  have h1 := List.all_eq_true.mp h s hs
  obtain ⟨w1, w2⟩ := WF_h hw
  simp only [Bool.or_eq_true, Bool.and_eq_true, decide_eq_true_eq] at h1
  rcases h1 with ((((h1 | h1) | h1) | h1) | h1) | h1
  · exact slotOK_m h1.1 (asub_ok h1.2 (hi s.1 s.2.1))
  · subst h1
    refine slotOK_m (by decide) ?_
    show ain (0, 16) (I 19 1)
    rw [w1]
    exact ain_of hi (show bnd bT 68 0 = (0, 16) by decide +kernel)
  · subst h1
    exact slotOK_q (c' := 68) (j' := 0) w1
  · subst h1
    exact slotOK_q (c' := 19) (j' := 1) w1.symm
  · subst h1
    exact slotOK_q (c' := 68) (j' := 3) w2
  · subst h1
    exact slotOK_q (c' := 19) (j' := 4) w2.symm
/-- a pair is left, or is equal again -/
def hpr (md : aMd) (po : List (Nat × Nat × Int × Int)) (c j c' j' : Nat) : Bool := (!(amodr md c j j) && !(amodr md c' j' j')) || po.any (fun s => decide (s = (c, j, aEQ + (c' : Int), (j' : Int)))) || po.any (fun s => decide (s = (c', j', aEQ + (c : Int), (j : Int))))
theorem hpr_ok {md : aMd} {po : List (Nat × Nat × Int × Int)} {c j c' j' : Nat} {I J : gI} (h : hpr md po c j c' j' = true) (hf : afr md I J) (hp : ∀ s ∈ po, slotOK J s) (hI : I c j = I c' j') : J c j = J c' j' := by
  simp only [hpr, Bool.or_eq_true, Bool.and_eq_true, Bool.not_eq_true'] at h
  rcases h with (h | h) | h
  · rw [hf _ _ h.1, hf _ _ h.2]
    exact hI
  · obtain ⟨s, hs, h2⟩ := List.any_eq_true.mp h
    have h3 := hp s hs
    rw [of_decide_eq_true h2] at h3
    exact slotOK_e h3
  · obtain ⟨s, hs, h2⟩ := List.any_eq_true.mp h
    have h3 := hp s hs
    rw [of_decide_eq_true h2] at h3
    exact (slotOK_e h3).symm
def hchk (md : aMd) (cs : List aC) : Bool := dsj md hkS && cs.all (fun c => c.1.isSome && hpr md c.2.2 19 1 68 0 && hpr md c.2.2 19 4 68 3)
theorem lb_of {m : aM} {M : gM} {cell n : Nat} (hm : MSok bT WP MT m) (hM : MT[m.1]? = some M) (hp : preH m.2.2.2.1 = true) (ha : m.2.2.1 = (1, (cell : Int), 0) :: List.replicate n (0, (-2147483648 : Int), 2147483647)) (hh : m.2.1 ≤ 40) (hmd : pOK m.2.2.2.2.1 = true) (hc : hchk m.2.2.2.2.1 m.2.2.2.2.2 = true) : lbOK M cell n := by
  intro d xs I hn hi hw
  subst hn
  have h := hm M hM (d + (40 - m.2.1)) (.ref cell :: xs.map Value.int) I (by rw [ha]; exact ⟨⟨cell, rfl, rfl⟩, args_all xs⟩) hi (WF_P hw) (preH_ok hp hi hw)
  rw [show d + (40 - m.2.1) + m.2.1 = d + 40 by omega] at h
  refine G_mono h ?_
  rintro r hh ⟨J, e1, e2, e3, c, c1, c2⟩
  simp only [hchk, Bool.and_eq_true] at hc
  have hc2 := List.all_eq_true.mp hc.2 c c1
  simp only [Bool.and_eq_true] at hc2
  obtain ⟨⟨g1, g2⟩, g3⟩ := hc2
  obtain ⟨w1, w2⟩ := WF_h hw
  obtain ⟨b, hb⟩ := Option.isSome_iff_exists.mp g1
  obtain ⟨q1, -, q3⟩ := c2
  rw [hb] at q1
  obtain ⟨x, e, -⟩ := q1
  exact ⟨⟨x, e, trivial⟩, J, e1, e2, WF_of (pE WF_st hmd I J (WF_P hw) e3) (hlt_mk (hpr_ok g2 e3 q3 w1) (hpr_ok g3 e3 q3 w2) (hk_tr hw.2.2.2.2.2.2.2 (fun c j hx => e3 c j (dsj_ok hc.1 hx))))⟩
/-- nothing of it was written -/
theorem lw_md {I J : gI} {md : aMd} (h1 : pOK md = true) (h2 : dsj md hkS = true) (h3 : dsj md [(19, 1, 1), (19, 4, 4), (68, 0, 0), (68, 3, 3)] = true) (hf : afr md I J) (hw : WF I) : WF J := by
  obtain ⟨w1, w2⟩ := WF_h hw
  have g : ∀ c j, amodr [(19, 1, 1), (19, 4, 4), (68, 0, 0), (68, 3, 3)] c j j = true → J c j = I c j := fun c j hx => hf c j (dsj_ok h3 hx)
  refine WF_of (pE WF_st h1 I J (WF_P hw) hf) (hlt_mk ?_ ?_ (hk_tr hw.2.2.2.2.2.2.2 (fun c j hx => hf c j (dsj_ok h2 hx))))
  · rw [g 19 1 (by decide), g 68 0 (by decide)]
    exact w1
  · rw [g 19 4 (by decide), g 68 3 (by decide)]
    exact w2
def preB (l : List (Nat × Nat × Int × Int)) : Bool := l.all (fun s => decide (s.2.2.1 < aEQ) && asub (bnd bT s.1 s.2.1) s.2.2)
theorem preB_ok {I : gI} {l : List (Nat × Nat × Int × Int)} (h : preB l = true) (hi : aInv bT I) : ∀ s ∈ l, slotOK I s := fun s hs => by
  have h1 := List.all_eq_true.mp h s hs
  simp only [Bool.and_eq_true, decide_eq_true_eq] at h1
  exact slotOK_m h1.1 (asub_ok h1.2 (hi s.1 s.2.1))
theorem pb_X11_keyOf : lbOK mX11_keyOf 0 2 := lb_of (cell := 0) (n := 2) (ms_42 WF_st) mt_X11_keyOf (by decide +kernel) rfl (by decide +kernel) (by decide +kernel) (by decide +kernel)
theorem pb_X11_change : lbOK mX11_change 0 3 := lb_of (cell := 0) (n := 3) (ms_50 WF_st) mt_X11_change (by decide +kernel) rfl (by decide +kernel) (by decide +kernel) (by decide +kernel)
theorem pb_X11_remake : lbOK mX11_remake 0 2 := lb_of (cell := 0) (n := 2) (ms_51 WF_st) mt_X11_remake (by decide +kernel) rfl (by decide +kernel) (by decide +kernel) (by decide +kernel)
theorem pb_X11_sun : lbOK mX11_sun 0 2 := lb_of (cell := 0) (n := 2) (ms_54 WF_st) mt_X11_sun (by decide +kernel) rfl (by decide +kernel) (by decide +kernel) (by decide +kernel)
theorem pb_X11_gate : lbOK mX11_gate 0 3 := lb_of (cell := 0) (n := 3) (ms_57 WF_st) mt_X11_gate (by decide +kernel) rfl (by decide +kernel) (by decide +kernel) (by decide +kernel)
theorem pb_X11_gateOf : lbOK mX11_gateOf 0 2 := lb_of (cell := 0) (n := 2) (ms_58 WF_st) mt_X11_gateOf (by decide +kernel) rfl (by decide +kernel) (by decide +kernel) (by decide +kernel)
theorem pb_X11_state : lbOK mX11_state 0 1 := lb_of (cell := 0) (n := 1) (ms_63 WF_st) mt_X11_state (by decide +kernel) rfl (by decide +kernel) (by decide +kernel) (by decide +kernel)
theorem pb_X11_rules : lbOK mX11_rules 0 0 := lb_of (cell := 0) (n := 0) (msn_33 WF_st) mt_X11_rules (by decide +kernel) rfl (by decide +kernel) (by decide +kernel) (by decide +kernel)
theorem pb_X11_on : lbOK mX11_on 0 1 := lb_of (cell := 0) (n := 1) (ms_80 WF_st) mt_X11_on (by decide +kernel) rfl (by decide +kernel) (by decide +kernel) (by decide +kernel)
theorem pb_X11_when : lbOK mX11_when 0 1 := lb_of (cell := 0) (n := 1) (ms_81 WF_st) mt_X11_when (by decide +kernel) rfl (by decide +kernel) (by decide +kernel) (by decide +kernel)
theorem pb_X11_strawFor : lbOK mX11_strawFor 0 1 := lb_of (cell := 0) (n := 1) (ms_83 WF_st) mt_X11_strawFor (by decide +kernel) rfl (by decide +kernel) (by decide +kernel) (by decide +kernel)
theorem pb_X11_gateFor : lbOK mX11_gateFor 0 1 := lb_of (cell := 0) (n := 1) (ms_85 WF_st) mt_X11_gateFor (by decide +kernel) rfl (by decide +kernel) (by decide +kernel) (by decide +kernel)
theorem pb_X11_gone : lbOK mX11_gone 0 1 := lb_of (cell := 0) (n := 1) (ms_86 WF_st) mt_X11_gone (by decide +kernel) rfl (by decide +kernel) (by decide +kernel) (by decide +kernel)
theorem pb_X11_opens : lbOK mX11_opens 0 1 := lb_of (cell := 0) (n := 1) (ms_87 WF_st) mt_X11_opens (by decide +kernel) rfl (by decide +kernel) (by decide +kernel) (by decide +kernel)
theorem pb_X11_left : lbOK mX11_left 0 2 := lb_of (cell := 0) (n := 2) (ms_88 WF_st) mt_X11_left (by decide +kernel) rfl (by decide +kernel) (by decide +kernel) (by decide +kernel)
theorem pb_X11_bunches : lbOK mX11_bunches 0 1 := lb_of (cell := 0) (n := 1) (ms_99 WF_st) mt_X11_bunches (by decide +kernel) rfl (by decide +kernel) (by decide +kernel) (by decide +kernel)
theorem pb_X11_best : lbOK mX11_best 0 1 := lb_of (cell := 0) (n := 1) (ms_118 WF_st) mt_X11_best (by decide +kernel) rfl (by decide +kernel) (by decide +kernel) (by decide +kernel)
theorem pb_X11_ith : lbOK mX11_ith 0 2 := lb_of (cell := 0) (n := 2) (ms_121 WF_st) mt_X11_ith (by decide +kernel) rfl (by decide +kernel) (by decide +kernel) (by decide +kernel)
theorem pb_X11_ways : lbOK mX11_ways 0 1 := lb_of (cell := 0) (n := 1) (ms_122 WF_st) mt_X11_ways (by decide +kernel) rfl (by decide +kernel) (by decide +kernel) (by decide +kernel)
theorem pb_X11_order : lbOK mX11_order 0 2 := lb_of (cell := 0) (n := 2) (ms_130 WF_st) mt_X11_order (by decide +kernel) rfl (by decide +kernel) (by decide +kernel) (by decide +kernel)
theorem pb_X11_bars : lbOK mX11_bars 0 2 := lb_of (cell := 0) (n := 2) (ms_136 WF_st) mt_X11_bars (by decide +kernel) rfl (by decide +kernel) (by decide +kernel) (by decide +kernel)
theorem pb_X11_game : lbOK mX11_game 0 1 := lb_of (cell := 0) (n := 1) (ms_143 WF_st) mt_X11_game (by decide +kernel) rfl (by decide +kernel) (by decide +kernel) (by decide +kernel)
theorem pb_X11_play : lbOK mX11_play 0 1 := lb_of (cell := 0) (n := 1) (ms_144 WF_st) mt_X11_play (by decide +kernel) rfl (by decide +kernel) (by decide +kernel) (by decide +kernel)
theorem pb_X11_report : lbOK mX11_report 0 4 := lb_of (cell := 0) (n := 4) (ms_147 WF_st) mt_X11_report (by decide +kernel) rfl (by decide +kernel) (by decide +kernel) (by decide +kernel)
theorem pb_X11_forget : lbOK mX11_forget 0 0 := lb_of (cell := 0) (n := 0) (ms_148 WF_st) mt_X11_forget (by decide +kernel) rfl (by decide +kernel) (by decide +kernel) (by decide +kernel)
theorem pb_X11_lone : lbOK mX11_lone 0 1 := lb_of (cell := 0) (n := 1) (ms_180 WF_st) mt_X11_lone (by decide +kernel) rfl (by decide +kernel) (by decide +kernel) (by decide +kernel)
theorem pb_X11_liar : lbOK mX11_liar 0 0 := lb_of (cell := 0) (n := 0) (ms_184 WF_st) mt_X11_liar (by decide +kernel) rfl (by decide +kernel) (by decide +kernel) (by decide +kernel)
theorem pb_X11_times : lbOK mX11_times 0 2 := lb_of (cell := 0) (n := 2) (ms_193 WF_st) mt_X11_times (by decide +kernel) rfl (by decide +kernel) (by decide +kernel) (by decide +kernel)
theorem pb_X11_prove : lbOK mX11_prove 0 1 := lb_of (cell := 0) (n := 1) (ms_194 WF_st) mt_X11_prove (by decide +kernel) rfl (by decide +kernel) (by decide +kernel) (by decide +kernel)
theorem pb_X11_row : lbOK mX11_row 0 2 := lb_of (cell := 0) (n := 2) (ms_198 WF_st) mt_X11_row (by decide +kernel) rfl (by decide +kernel) (by decide +kernel) (by decide +kernel)
theorem pb_X11_alterRow : lbOK mX11_alterRow 0 3 := lb_of (cell := 0) (n := 3) (ms_199 WF_st) mt_X11_alterRow (by decide +kernel) rfl (by decide +kernel) (by decide +kernel) (by decide +kernel)
theorem pb_X11_judge : lbOK mX11_judge 0 0 := lb_of (cell := 0) (n := 0) (ms_205 WF_st) mt_X11_judge (by decide +kernel) rfl (by decide +kernel) (by decide +kernel) (by decide +kernel)
theorem pb_X11_item : lbOK mX11_item 0 3 := lb_of (cell := 0) (n := 3) (ms_212 WF_st) mt_X11_item (by decide +kernel) rfl (by decide +kernel) (by decide +kernel) (by decide +kernel)
theorem pb_X11_wouldBe : lbOK mX11_wouldBe 0 3 := lb_of (cell := 0) (n := 3) (ms_216 WF_st) mt_X11_wouldBe (by decide +kernel) rfl (by decide +kernel) (by decide +kernel) (by decide +kernel)
theorem pb_X11_shelf : lbOK mX11_shelf 0 3 := lb_of (cell := 0) (n := 3) (ms_217 WF_st) mt_X11_shelf (by decide +kernel) rfl (by decide +kernel) (by decide +kernel) (by decide +kernel)
theorem pb_X11_taken : lbOK mX11_taken 0 2 := lb_of (cell := 0) (n := 2) (ms_223 WF_st) mt_X11_taken (by decide +kernel) rfl (by decide +kernel) (by decide +kernel) (by decide +kernel)
theorem pb_X11_act : lbOK mX11_act 0 3 := lb_of (cell := 0) (n := 3) (ms_260 WF_st) mt_X11_act (by decide +kernel) rfl (by decide +kernel) (by decide +kernel) (by decide +kernel)
theorem pb_X11_trace : lbOK mX11_trace 0 1 := lb_of (cell := 0) (n := 1) (ms_262 WF_st) mt_X11_trace (by decide +kernel) rfl (by decide +kernel) (by decide +kernel) (by decide +kernel)
theorem pb_X11_many : lbOK mX11_many 0 1 := lb_of (cell := 0) (n := 1) (ms_263 WF_st) mt_X11_many (by decide +kernel) rfl (by decide +kernel) (by decide +kernel) (by decide +kernel)
theorem pb_X12_keyOf : lbOK mX12_keyOf 67 2 := lb_of (cell := 67) (n := 2) (ms_331 pX_wf) mt_X12_keyOf (by decide +kernel) rfl (by decide +kernel) (by decide +kernel) (by decide +kernel)
theorem pb_X12_change : lbOK mX12_change 67 3 := lb_of (cell := 67) (n := 3) (ms_358 WF_st) mt_X12_change (by decide +kernel) rfl (by decide +kernel) (by decide +kernel) (by decide +kernel)
theorem pb_X12_remake : lbOK mX12_remake 67 2 := lb_of (cell := 67) (n := 2) (ms_365 WF_st) mt_X12_remake (by decide +kernel) rfl (by decide +kernel) (by decide +kernel) (by decide +kernel)
theorem pb_X12_sun : lbOK mX12_sun 67 2 := lb_of (cell := 67) (n := 2) (ms_368 WF_st) mt_X12_sun (by decide +kernel) rfl (by decide +kernel) (by decide +kernel) (by decide +kernel)
theorem pb_X12_gate : lbOK mX12_gate 67 3 := lb_of (cell := 67) (n := 3) (ms_371 WF_st) mt_X12_gate (by decide +kernel) rfl (by decide +kernel) (by decide +kernel) (by decide +kernel)
theorem pb_X12_gateOf : lbOK mX12_gateOf 67 2 := lb_of (cell := 67) (n := 2) (ms_372 WF_st) mt_X12_gateOf (by decide +kernel) rfl (by decide +kernel) (by decide +kernel) (by decide +kernel)
theorem pb_X12_state : lbOK mX12_state 67 1 := lb_of (cell := 67) (n := 1) (ms_389 WF_st) mt_X12_state (by decide +kernel) rfl (by decide +kernel) (by decide +kernel) (by decide +kernel)
theorem pb_X12_rules : lbOK mX12_rules 67 0 := by
  intro d xs I hn hi hw
  refine G_mono (pb_rulesM hNM d xs I hn hi (WF_P hw)) ?_
  rintro r hh ⟨x, J, e1, e2, i1, i2, ⟨i3, i4, i5, i6, i7⟩, -⟩
  obtain ⟨w1, w2⟩ := WF_h hw
  refine ⟨⟨x, e1, trivial⟩, J, e2, i1, WF_of i2 (hlt_mk ?_ ?_ (hk_tr hw.2.2.2.2.2.2.2 (fun c j hx => ?_)))⟩
  · rw [i3 19 1 (by decide), i5]
    exact w1
  · rw [i3 19 4 (by decide), i6]
    exact w2
  · simp only [amodr, hkS, List.any_cons, List.any_nil, Bool.or_eq_true, Bool.and_eq_true, decide_eq_true_eq, Bool.or_false] at hx
    rcases hx with hx | hx | hx | hx | hx
    · obtain ⟨⟨rfl, h1⟩, h2⟩ := hx
      rw [show j = 3 by omega]
      exact i7
    · exact i3 c j (by omega)
    · exact i3 c j (by omega)
    · obtain ⟨⟨rfl, h1⟩, h2⟩ := hx
      exact i4 j
    · obtain ⟨⟨rfl, h1⟩, h2⟩ := hx
      exact i4 j
theorem pb_X12_on : lbOK mX12_on 67 1 := lb_of (cell := 67) (n := 1) (ms_409 pX_wf) mt_X12_on (by decide +kernel) rfl (by decide +kernel) (by decide +kernel) (by decide +kernel)
theorem pb_X12_when : lbOK mX12_when 67 1 := lb_of (cell := 67) (n := 1) (ms_443 pX_wf) mt_X12_when (by decide +kernel) rfl (by decide +kernel) (by decide +kernel) (by decide +kernel)
theorem pb_X12_strawFor : lbOK mX12_strawFor 67 1 := lb_of (cell := 67) (n := 1) (ms_451 pX_wf) mt_X12_strawFor (by decide +kernel) rfl (by decide +kernel) (by decide +kernel) (by decide +kernel)
theorem pb_X12_gateFor : lbOK mX12_gateFor 67 1 := lb_of (cell := 67) (n := 1) (ms_458 pX_wf) mt_X12_gateFor (by decide +kernel) rfl (by decide +kernel) (by decide +kernel) (by decide +kernel)
theorem pb_X12_gone : lbOK mX12_gone 67 1 := lb_of (cell := 67) (n := 1) (ms_459 pX_wf) mt_X12_gone (by decide +kernel) rfl (by decide +kernel) (by decide +kernel) (by decide +kernel)
theorem pb_X12_opens : lbOK mX12_opens 67 1 := lb_of (cell := 67) (n := 1) (ms_460 WF_st) mt_X12_opens (by decide +kernel) rfl (by decide +kernel) (by decide +kernel) (by decide +kernel)
theorem pb_X12_left : lbOK mX12_left 67 2 := lb_of (cell := 67) (n := 2) (ms_461 pX_wf) mt_X12_left (by decide +kernel) rfl (by decide +kernel) (by decide +kernel) (by decide +kernel)
theorem pb_X12_bunches : lbOK mX12_bunches 67 1 := lb_of (cell := 67) (n := 1) (ms_472 WF_st) mt_X12_bunches (by decide +kernel) rfl (by decide +kernel) (by decide +kernel) (by decide +kernel)
theorem pb_X12_best : lbOK mX12_best 67 1 := lb_of (cell := 67) (n := 1) (ms_587 pX_wf) mt_X12_best (by decide +kernel) rfl (by decide +kernel) (by decide +kernel) (by decide +kernel)
theorem pb_X12_ith : lbOK mX12_ith 67 2 := lb_of (cell := 67) (n := 2) (ms_589 pX_wf) mt_X12_ith (by decide +kernel) rfl (by decide +kernel) (by decide +kernel) (by decide +kernel)
theorem pb_X12_ways : lbOK mX12_ways 67 1 := lb_of (cell := 67) (n := 1) (ms_590 pX_wf) mt_X12_ways (by decide +kernel) rfl (by decide +kernel) (by decide +kernel) (by decide +kernel)
theorem pb_X12_order : lbOK mX12_order 67 2 := lb_of (cell := 67) (n := 2) (ms_593 pX_wf) mt_X12_order (by decide +kernel) rfl (by decide +kernel) (by decide +kernel) (by decide +kernel)
theorem pb_X12_bars : lbOK mX12_bars 67 2 := lb_of (cell := 67) (n := 2) (ms_594 pX_wf) mt_X12_bars (by decide +kernel) rfl (by decide +kernel) (by decide +kernel) (by decide +kernel)
theorem pb_X12_game : lbOK mX12_game 67 1 := lb_of (cell := 67) (n := 1) (ms_611 pX_wf) mt_X12_game (by decide +kernel) rfl (by decide +kernel) (by decide +kernel) (by decide +kernel)
theorem pb_X12_play : lbOK mX12_play 67 1 := lb_of (cell := 67) (n := 1) (ms_614 pX_wf) mt_X12_play (by decide +kernel) rfl (by decide +kernel) (by decide +kernel) (by decide +kernel)
theorem pb_X12_report : lbOK mX12_report 67 4 := lb_of (cell := 67) (n := 4) (ms_617 WF_st) mt_X12_report (by decide +kernel) rfl (by decide +kernel) (by decide +kernel) (by decide +kernel)
theorem pb_X12_forget : lbOK mX12_forget 67 0 := lb_of (cell := 67) (n := 0) (ms_619 WF_st) mt_X12_forget (by decide +kernel) rfl (by decide +kernel) (by decide +kernel) (by decide +kernel)
theorem pb_X12_lone : lbOK mX12_lone 67 1 := lb_of (cell := 67) (n := 1) (ms_629 WF_st) mt_X12_lone (by decide +kernel) rfl (by decide +kernel) (by decide +kernel) (by decide +kernel)
theorem pb_X12_liar : lbOK mX12_liar 67 0 := lb_of (cell := 67) (n := 0) (ms_630 WF_st) mt_X12_liar (by decide +kernel) rfl (by decide +kernel) (by decide +kernel) (by decide +kernel)
theorem pb_X12_times : lbOK mX12_times 67 2 := lb_of (cell := 67) (n := 2) (ms_685 pX_wf) mt_X12_times (by decide +kernel) rfl (by decide +kernel) (by decide +kernel) (by decide +kernel)
theorem pb_X12_prove : lbOK mX12_prove 67 1 := lb_of (cell := 67) (n := 1) (ms_696 pX_wf) mt_X12_prove (by decide +kernel) rfl (by decide +kernel) (by decide +kernel) (by decide +kernel)
theorem pb_X12_row : lbOK mX12_row 67 2 := lb_of (cell := 67) (n := 2) (ms_700 WF_st) mt_X12_row (by decide +kernel) rfl (by decide +kernel) (by decide +kernel) (by decide +kernel)
theorem pb_X12_alterRow : lbOK mX12_alterRow 67 3 := lb_of (cell := 67) (n := 3) (ms_701 WF_st) mt_X12_alterRow (by decide +kernel) rfl (by decide +kernel) (by decide +kernel) (by decide +kernel)
theorem pb_X12_judge : lbOK mX12_judge 67 0 := lb_of (cell := 67) (n := 0) (ms_704 pX_wf) mt_X12_judge (by decide +kernel) rfl (by decide +kernel) (by decide +kernel) (by decide +kernel)
theorem pb_X12_item : lbOK mX12_item 67 3 := lb_of (cell := 67) (n := 3) (ms_710 WF_st) mt_X12_item (by decide +kernel) rfl (by decide +kernel) (by decide +kernel) (by decide +kernel)
theorem pb_X12_wouldBe : lbOK mX12_wouldBe 67 3 := lb_of (cell := 67) (n := 3) (ms_733 pX_wf) mt_X12_wouldBe (by decide +kernel) rfl (by decide +kernel) (by decide +kernel) (by decide +kernel)
theorem pb_X12_shelf : lbOK mX12_shelf 67 3 := lb_of (cell := 67) (n := 3) (ms_734 WF_st) mt_X12_shelf (by decide +kernel) rfl (by decide +kernel) (by decide +kernel) (by decide +kernel)
theorem pb_X12_taken : lbOK mX12_taken 67 2 := lb_of (cell := 67) (n := 2) (ms_740 WF_st) mt_X12_taken (by decide +kernel) rfl (by decide +kernel) (by decide +kernel) (by decide +kernel)
theorem pb_X12_act : lbOK mX12_act 67 3 := lb_of (cell := 67) (n := 3) (ms_753 WF_st) mt_X12_act (by decide +kernel) rfl (by decide +kernel) (by decide +kernel) (by decide +kernel)
theorem pb_X12_trace : lbOK mX12_trace 67 1 := lb_of (cell := 67) (n := 1) (ms_755 WF_st) mt_X12_trace (by decide +kernel) rfl (by decide +kernel) (by decide +kernel) (by decide +kernel)
theorem pb_X12_many : lbOK mX12_many 67 1 := lb_of (cell := 67) (n := 1) (ms_757 WF_st) mt_X12_many (by decide +kernel) rfl (by decide +kernel) (by decide +kernel) (by decide +kernel)
theorem pb_fX (d : Nat) (e : Int64) (n : Int32) (I : gI) (hi : aInv bT I) (hw : WF I) : gg (d + 40) mX11_feed 0 (gent 5 [.ref 0, .long e, .int n]) [] I (lbQ (fun _ => True)) := by
  refine G_mono (pb_feedX (msn_1 WF_st) (msn_3 WF_st) n hi (WF_P hw)) ?_
  rintro r hh ⟨x, J, e1, e2, i1, i2⟩
  exact ⟨⟨x, e1, trivial⟩, J, e2, i1, lw_md (by decide +kernel) (by decide +kernel) (by decide +kernel) i2 hw⟩
theorem pb_fM (d : Nat) (e : Int64) (n : Int32) (I : gI) (hi : aInv bT I) (hw : WF I) : gg (d + 40) mX12_feed 0 (gent 5 [.ref 67, .long e, .int n]) [] I (lbQ (fun _ => True)) := by
  refine G_mono (pb_feedM (msn_2 WF_st) n hi (WF_P hw)) ?_
  rintro r hh ⟨x, J, e1, e2, i1, i2⟩
  exact ⟨⟨x, e1, trivial⟩, J, e2, i1, lw_md (by decide +kernel) (by decide +kernel) (by decide +kernel) i2 hw⟩
