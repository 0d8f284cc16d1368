/-! ===== every public method, from any heap in order ===== -/
theorem args_all : ∀ xs : List Int32, argsOK (List.replicate xs.length (0, (-2147483648 : Int), 2147483647)) (xs.map Value.int)
  | [] => trivial
  | x :: xs => ⟨⟨x, rfl, a_rng x⟩, args_all xs⟩
/-- pairs that a call may change and must restore: of both alike, now and kept -/
def hlE : aE4 := [(26, 0, 68, 38), (26, 1, 68, 43), (26, 2, 68, 48), (26, 3, 68, 53), (26, 4, 68, 58), (26, 5, 68, 63)]
def hkE : aE4 := [(42, 0, 69, 38), (42, 1, 69, 43), (42, 2, 69, 48), (42, 3, 69, 53), (42, 4, 69, 58), (42, 5, 69, 63)]
def hlt (I : gI) : Prop := rlB hlE I ∧ (I 67 3 ≠ 0 → rlB hkE I)
def WF (I : gI) : Prop := WF0 I ∧ rM I ∧ I 0 2 = I 67 3 ∧ (I 67 3 ≠ 0 → rK I) ∧ rO I ∧ rX I ∧ hlt I
theorem WF_P {I : gI} (h : WF I) : WP I := ⟨h.1, h.2.1, h.2.2.1, h.2.2.2.1, h.2.2.2.2.1, h.2.2.2.2.2.1⟩
theorem WF_of {I : gI} (h : WP I) (h2 : hlt I) : WF I := ⟨h.1, h.2.1, h.2.2.1, h.2.2.2.1, h.2.2.2.2.1, h.2.2.2.2.2, h2⟩
theorem WF_h {I : gI} (h : WF I) : rlB hlE I := h.2.2.2.2.2.2.1
def hkS : aMd := [(42, 0, 5), (67, 3, 3), (69, 38, 38), (69, 43, 43), (69, 48, 48), (69, 53, 53), (69, 58, 58), (69, 63, 63)]
def hlS : aMd := [(26, 0, 5), (68, 38, 38), (68, 43, 43), (68, 48, 48), (68, 53, 53), (68, 58, 58), (68, 63, 63)]
theorem hkS_k : hkE.all (fun e => amodr hkS e.1 e.2.1 e.2.1 && amodr hkS e.2.2.1 e.2.2.2 e.2.2.2 && decide (e.1 < 67) && decide (e.2.2.1 = 69) && decide (e.2.2.2 < 89) && decide (e.2.2.2 ≠ 5)) = true := by decide +kernel
theorem hlS_k : hlE.all (fun e => amodr hlS e.1 e.2.1 e.2.1 && amodr hlS e.2.2.1 e.2.2.2 e.2.2.2 && decide (e.1 < 67) && decide (e.2.2.1 = 68) && decide (e.2.2.2 < 89) && decide (e.2.2.2 ≠ 5)) = true := by decide +kernel
theorem hkS_b {e : Nat × Nat × Nat × Nat} (he : e ∈ hkE) : amodr hkS e.1 e.2.1 e.2.1 = true ∧ amodr hkS e.2.2.1 e.2.2.2 e.2.2.2 = true ∧ e.1 < 67 ∧ e.2.2.1 = 69 ∧ e.2.2.2 < 89 ∧ e.2.2.2 ≠ 5 := by
  have h := List.all_eq_true.mp hkS_k e he
  simp only [Bool.and_eq_true, decide_eq_true_eq] at h
  obtain ⟨⟨⟨⟨⟨h1, h2⟩, h3⟩, h4⟩, h5⟩, h6⟩ := h
  exact ⟨h1, h2, h3, h4, h5, h6⟩
theorem hlS_b {e : Nat × Nat × Nat × Nat} (he : e ∈ hlE) : amodr hlS e.1 e.2.1 e.2.1 = true ∧ amodr hlS e.2.2.1 e.2.2.2 e.2.2.2 = true ∧ e.1 < 67 ∧ e.2.2.1 = 68 ∧ e.2.2.2 < 89 ∧ e.2.2.2 ≠ 5 := by
  have h := List.all_eq_true.mp hlS_k e he
  simp only [Bool.and_eq_true, decide_eq_true_eq] at h
  obtain ⟨⟨⟨⟨⟨h1, h2⟩, h3⟩, h4⟩, h5⟩, h6⟩ := h
  exact ⟨h1, h2, h3, h4, h5, h6⟩
theorem hk_tr {I J : gI} (h : I 67 3 ≠ 0 → rlB hkE I) (hs : ∀ c j, amodr hkS c j j = true → J c j = I c j) : J 67 3 ≠ 0 → rlB hkE J := fun hn e he => by
  rw [hs 67 3 (by decide)] at hn
  have h1 := h hn e he
  obtain ⟨b1, b2, -⟩ := hkS_b he
  rw [hs _ _ b1, hs _ _ b2]
  exact h1
theorem hl_tr {I J : gI} (h : rlB hlE I) (hs : ∀ c j, amodr hlS c j j = true → J c j = I c j) : rlB hlE J := fun e he => by
  obtain ⟨b1, b2, -⟩ := hlS_b he
  rw [hs _ _ b1, hs _ _ b2]
  exact h e he
def lbQ (P : Int32 → Prop) : Option Value → gH → Prop := fun r h => (∃ x : Int32, r = some (.int x) ∧ P x) ∧ ∃ I', h = (SH0, RF0, I') ∧ aInv bT I' ∧ WF I'
def lbOK (M : gM) (cell n : Nat) : Prop := ∀ (d : Nat) (xs : List Int32) (I : gI), xs.length = n → aInv bT I → WF I → gg (d + 40) M 0 (gent M.2.2.1 (.ref cell :: xs.map Value.int)) [] I (lbQ (fun _ => True))
def preH (l : List (Nat × Nat × Int × Int)) : Bool := l.all (fun s => (decide (s.2.2.1 < aEQ) && asub (bnd bT s.1 s.2.1) s.2.2) || hlE.any (fun e => decide (s = (e.1, e.2.1, aEQ + (e.2.2.1 : Int), (e.2.2.2 : Int)))) || hlE.any (fun e => decide (s = (e.2.2.1, e.2.2.2, aEQ + (e.1 : Int), (e.2.1 : Int)))) || hlE.any (fun e => decide (s.1 = e.1) && decide (s.2.1 = e.2.1) && decide (s.2.2.1 < aEQ) && asub (bnd bT e.2.2.1 e.2.2.2) s.2.2))
theorem preH_ok {I : gI} {l : List (Nat × Nat × Int × Int)} (h : preH l = true) (hi : aInv bT I) (hw : WF I) : ∀ s ∈ l, slotOK I s := fun s hs => by
  have h1 := List.all_eq_true.mp h s hs
  have w := WF_h hw
  simp only [Bool.or_eq_true, Bool.and_eq_true, decide_eq_true_eq] at h1
  rcases h1 with ((h1 | h1) | h1) | h1
  · exact slotOK_m h1.1 (asub_ok h1.2 (hi s.1 s.2.1))
  · obtain ⟨e, he, h2⟩ := List.any_eq_true.mp h1
    rw [of_decide_eq_true h2]
    exact slotOK_q (w e he)
  · obtain ⟨e, he, h2⟩ := List.any_eq_true.mp h1
    rw [of_decide_eq_true h2]
    exact slotOK_q (w e he).symm
  · obtain ⟨e, he, h2⟩ := List.any_eq_true.mp h1
    simp only [Bool.and_eq_true, decide_eq_true_eq] at h2
    obtain ⟨⟨⟨g1, g2⟩, g3⟩, g4⟩ := h2
    refine slotOK_m g3 ?_
    rw [g1, g2, w e he]
    exact asub_ok g4 (hi _ _)
/-- a pair is left, or is equal again -/
def hpr (md : aMd) (po : List (Nat × Nat × Int × Int)) (c j c' j' : Nat) : Bool := (!(amodr md c j j) && !(amodr md c' j' j')) || po.any (fun s => decide (s = (c, j, aEQ + (c' : Int), (j' : Int)))) || po.any (fun s => decide (s = (c', j', aEQ + (c : Int), (j : Int))))
theorem hpr_ok {md : aMd} {po : List (Nat × Nat × Int × Int)} {c j c' j' : Nat} {I J : gI} (h : hpr md po c j c' j' = true) (hf : afr md I J) (hp : ∀ s ∈ po, slotOK J s) (hI : I c j = I c' j') : J c j = J c' j' := by
  simp only [hpr, Bool.or_eq_true, Bool.and_eq_true, Bool.not_eq_true'] at h
  rcases h with (h | h) | h
  · rw [hf _ _ h.1, hf _ _ h.2]
    exact hI
  · obtain ⟨s, hs, h2⟩ := List.any_eq_true.mp h
    have h3 := hp s hs
    rw [of_decide_eq_true h2] at h3
    exact slotOK_e h3
  · obtain ⟨s, hs, h2⟩ := List.any_eq_true.mp h
    have h3 := hp s hs
    rw [of_decide_eq_true h2] at h3
    exact (slotOK_e h3).symm
def hchk (md : aMd) (cs : List aC) : Bool := dsj md hkS && cs.all (fun c => c.1.isSome && hlE.all (fun e => hpr md c.2.2 e.1 e.2.1 e.2.2.1 e.2.2.2))
theorem lb_of {m : aM} {M : gM} {cell n : Nat} (hm : MSok bT WP MT m) (hM : MT[m.1]? = some M) (hp : preH m.2.2.2.1 = true) (ha : m.2.2.1 = (1, (cell : Int), 0) :: List.replicate n (0, (-2147483648 : Int), 2147483647)) (hh : m.2.1 ≤ 40) (hmd : pOK m.2.2.2.2.1 = true) (hc : hchk m.2.2.2.2.1 m.2.2.2.2.2 = true) : lbOK M cell n := by
  intro d xs I hn hi hw
  subst hn
  have h := hm M hM (d + (40 - m.2.1)) (.ref cell :: xs.map Value.int) I (by rw [ha]; exact ⟨⟨cell, rfl, rfl⟩, args_all xs⟩) hi (WF_P hw) (preH_ok hp hi hw)
  rw [show d + (40 - m.2.1) + m.2.1 = d + 40 by omega] at h
  refine G_mono h ?_
  rintro r hh ⟨J, e1, e2, e3, c, c1, c2⟩
  simp only [hchk, Bool.and_eq_true] at hc
  have hc2 := List.all_eq_true.mp hc.2 c c1
  simp only [Bool.and_eq_true] at hc2
  obtain ⟨g1, g2⟩ := hc2
  obtain ⟨b, hb⟩ := Option.isSome_iff_exists.mp g1
  obtain ⟨q1, -, q3⟩ := c2
  rw [hb] at q1
  obtain ⟨x, e, -⟩ := q1
  exact ⟨⟨x, e, trivial⟩, J, e1, e2, WF_of (pE WF_st hmd I J (WF_P hw) e3) ⟨fun q hq => hpr_ok (List.all_eq_true.mp g2 q hq) e3 q3 (WF_h hw q hq), hk_tr hw.2.2.2.2.2.2.2 (fun c j hx => e3 c j (dsj_ok hc.1 hx))⟩⟩
/-- nothing of it was written -/
theorem lw_md {I J : gI} {md : aMd} (h1 : pOK md = true) (h2 : dsj md hkS = true) (h3 : dsj md hlS = true) (hf : afr md I J) (hw : WF I) : WF J :=
  WF_of (pE WF_st h1 I J (WF_P hw) hf) ⟨hl_tr (WF_h hw) (fun c j hx => hf c j (dsj_ok h3 hx)), hk_tr hw.2.2.2.2.2.2.2 (fun c j hx => hf c j (dsj_ok h2 hx))⟩
def preB (l : List (Nat × Nat × Int × Int)) : Bool := l.all (fun s => decide (s.2.2.1 < aEQ) && asub (bnd bT s.1 s.2.1) s.2.2)
theorem preB_ok {I : gI} {l : List (Nat × Nat × Int × Int)} (h : preB l = true) (hi : aInv bT I) : ∀ s ∈ l, slotOK I s := fun s hs => by
  have h1 := List.all_eq_true.mp h s hs
  simp only [Bool.and_eq_true, decide_eq_true_eq] at h1
  exact slotOK_m h1.1 (asub_ok h1.2 (hi s.1 s.2.1))
theorem pb_X11_keyOf : lbOK mX11_keyOf 0 2 := lb_of (cell := 0) (n := 2) (ms_42 WF_st) mt_X11_keyOf (by decide +kernel) rfl (by decide +kernel) (by decide +kernel) (by decide +kernel)
theorem pb_X11_sun : lbOK mX11_sun 0 2 := lb_of (cell := 0) (n := 2) (ms_53 WF_st) mt_X11_sun (by decide +kernel) rfl (by decide +kernel) (by decide +kernel) (by decide +kernel)
theorem pb_X11_gate : lbOK mX11_gate 0 3 := lb_of (cell := 0) (n := 3) (ms_56 WF_st) mt_X11_gate (by decide +kernel) rfl (by decide +kernel) (by decide +kernel) (by decide +kernel)
theorem pb_X11_gateOf : lbOK mX11_gateOf 0 2 := lb_of (cell := 0) (n := 2) (ms_57 WF_st) mt_X11_gateOf (by decide +kernel) rfl (by decide +kernel) (by decide +kernel) (by decide +kernel)
theorem pb_X11_ends : lbOK mX11_ends 0 1 := lb_of (cell := 0) (n := 1) (ms_59 WF_st) mt_X11_ends (by decide +kernel) rfl (by decide +kernel) (by decide +kernel) (by decide +kernel)
theorem pb_X11_anew : lbOK mX11_anew 0 0 := lb_of (cell := 0) (n := 0) (ms_60 WF_st) mt_X11_anew (by decide +kernel) rfl (by decide +kernel) (by decide +kernel) (by decide +kernel)
theorem pb_X11_state : lbOK mX11_state 0 1 := lb_of (cell := 0) (n := 1) (ms_63 WF_st) mt_X11_state (by decide +kernel) rfl (by decide +kernel) (by decide +kernel) (by decide +kernel)
theorem pb_X11_rules : lbOK mX11_rules 0 0 := lb_of (cell := 0) (n := 0) (msn_33 WF_st) mt_X11_rules (by decide +kernel) rfl (by decide +kernel) (by decide +kernel) (by decide +kernel)
theorem pb_X11_halt : lbOK mX11_halt 0 0 := lb_of (cell := 0) (n := 0) (ms_75 WF_st) mt_X11_halt (by decide +kernel) rfl (by decide +kernel) (by decide +kernel) (by decide +kernel)
theorem pb_X11_on : lbOK mX11_on 0 1 := lb_of (cell := 0) (n := 1) (ms_80 WF_st) mt_X11_on (by decide +kernel) rfl (by decide +kernel) (by decide +kernel) (by decide +kernel)
theorem pb_X11_when : lbOK mX11_when 0 1 := lb_of (cell := 0) (n := 1) (ms_81 WF_st) mt_X11_when (by decide +kernel) rfl (by decide +kernel) (by decide +kernel) (by decide +kernel)
theorem pb_X11_strawFor : lbOK mX11_strawFor 0 1 := lb_of (cell := 0) (n := 1) (ms_88 WF_st) mt_X11_strawFor (by decide +kernel) rfl (by decide +kernel) (by decide +kernel) (by decide +kernel)
theorem pb_X11_gateFor : lbOK mX11_gateFor 0 1 := lb_of (cell := 0) (n := 1) (ms_101 WF_st) mt_X11_gateFor (by decide +kernel) rfl (by decide +kernel) (by decide +kernel) (by decide +kernel)
theorem pb_X11_gone : lbOK mX11_gone 0 1 := lb_of (cell := 0) (n := 1) (ms_102 WF_st) mt_X11_gone (by decide +kernel) rfl (by decide +kernel) (by decide +kernel) (by decide +kernel)
theorem pb_X11_opens : lbOK mX11_opens 0 1 := lb_of (cell := 0) (n := 1) (ms_103 WF_st) mt_X11_opens (by decide +kernel) rfl (by decide +kernel) (by decide +kernel) (by decide +kernel)
theorem pb_X11_left : lbOK mX11_left 0 2 := lb_of (cell := 0) (n := 2) (ms_104 WF_st) mt_X11_left (by decide +kernel) rfl (by decide +kernel) (by decide +kernel) (by decide +kernel)
theorem pb_X11_bunches : lbOK mX11_bunches 0 1 := lb_of (cell := 0) (n := 1) (ms_115 WF_st) mt_X11_bunches (by decide +kernel) rfl (by decide +kernel) (by decide +kernel) (by decide +kernel)
theorem pb_X11_best : lbOK mX11_best 0 1 := lb_of (cell := 0) (n := 1) (ms_134 WF_st) mt_X11_best (by decide +kernel) rfl (by decide +kernel) (by decide +kernel) (by decide +kernel)
theorem pb_X11_ith : lbOK mX11_ith 0 2 := lb_of (cell := 0) (n := 2) (ms_137 WF_st) mt_X11_ith (by decide +kernel) rfl (by decide +kernel) (by decide +kernel) (by decide +kernel)
theorem pb_X11_ways : lbOK mX11_ways 0 1 := lb_of (cell := 0) (n := 1) (ms_138 WF_st) mt_X11_ways (by decide +kernel) rfl (by decide +kernel) (by decide +kernel) (by decide +kernel)
theorem pb_X11_order : lbOK mX11_order 0 2 := lb_of (cell := 0) (n := 2) (ms_146 WF_st) mt_X11_order (by decide +kernel) rfl (by decide +kernel) (by decide +kernel) (by decide +kernel)
theorem pb_X11_bars : lbOK mX11_bars 0 2 := lb_of (cell := 0) (n := 2) (ms_152 WF_st) mt_X11_bars (by decide +kernel) rfl (by decide +kernel) (by decide +kernel) (by decide +kernel)
theorem pb_X11_game : lbOK mX11_game 0 1 := lb_of (cell := 0) (n := 1) (ms_159 WF_st) mt_X11_game (by decide +kernel) rfl (by decide +kernel) (by decide +kernel) (by decide +kernel)
theorem pb_X11_play : lbOK mX11_play 0 1 := lb_of (cell := 0) (n := 1) (ms_160 WF_st) mt_X11_play (by decide +kernel) rfl (by decide +kernel) (by decide +kernel) (by decide +kernel)
theorem pb_X11_report : lbOK mX11_report 0 4 := lb_of (cell := 0) (n := 4) (ms_163 WF_st) mt_X11_report (by decide +kernel) rfl (by decide +kernel) (by decide +kernel) (by decide +kernel)
theorem pb_X11_forget : lbOK mX11_forget 0 0 := lb_of (cell := 0) (n := 0) (ms_164 WF_st) mt_X11_forget (by decide +kernel) rfl (by decide +kernel) (by decide +kernel) (by decide +kernel)
theorem pb_X11_lone : lbOK mX11_lone 0 1 := lb_of (cell := 0) (n := 1) (ms_196 WF_st) mt_X11_lone (by decide +kernel) rfl (by decide +kernel) (by decide +kernel) (by decide +kernel)
theorem pb_X11_liar : lbOK mX11_liar 0 0 := lb_of (cell := 0) (n := 0) (ms_200 WF_st) mt_X11_liar (by decide +kernel) rfl (by decide +kernel) (by decide +kernel) (by decide +kernel)
theorem pb_X11_seed : lbOK mX11_seed 0 1 := lb_of (cell := 0) (n := 1) (ms_201 WF_st) mt_X11_seed (by decide +kernel) rfl (by decide +kernel) (by decide +kernel) (by decide +kernel)
theorem pb_X11_lot : lbOK mX11_lot 0 0 := lb_of (cell := 0) (n := 0) (ms_203 WF_st) mt_X11_lot (by decide +kernel) rfl (by decide +kernel) (by decide +kernel) (by decide +kernel)
theorem pb_X11_times : lbOK mX11_times 0 2 := lb_of (cell := 0) (n := 2) (ms_207 WF_st) mt_X11_times (by decide +kernel) rfl (by decide +kernel) (by decide +kernel) (by decide +kernel)
theorem pb_X11_prove : lbOK mX11_prove 0 1 := lb_of (cell := 0) (n := 1) (ms_208 WF_st) mt_X11_prove (by decide +kernel) rfl (by decide +kernel) (by decide +kernel) (by decide +kernel)
theorem pb_X11_row : lbOK mX11_row 0 2 := lb_of (cell := 0) (n := 2) (ms_212 WF_st) mt_X11_row (by decide +kernel) rfl (by decide +kernel) (by decide +kernel) (by decide +kernel)
theorem pb_X11_alterRow : lbOK mX11_alterRow 0 3 := lb_of (cell := 0) (n := 3) (ms_213 WF_st) mt_X11_alterRow (by decide +kernel) rfl (by decide +kernel) (by decide +kernel) (by decide +kernel)
theorem pb_X11_judge : lbOK mX11_judge 0 0 := lb_of (cell := 0) (n := 0) (ms_219 WF_st) mt_X11_judge (by decide +kernel) rfl (by decide +kernel) (by decide +kernel) (by decide +kernel)
theorem pb_X11_sheet : lbOK mX11_sheet 0 3 := lb_of (cell := 0) (n := 3) (ms_222 WF_st) mt_X11_sheet (by decide +kernel) rfl (by decide +kernel) (by decide +kernel) (by decide +kernel)
theorem pb_X11_write : lbOK mX11_write 0 3 := lb_of (cell := 0) (n := 3) (ms_226 WF_st) mt_X11_write (by decide +kernel) rfl (by decide +kernel) (by decide +kernel) (by decide +kernel)
theorem pb_X11_item : lbOK mX11_item 0 3 := lb_of (cell := 0) (n := 3) (ms_228 WF_st) mt_X11_item (by decide +kernel) rfl (by decide +kernel) (by decide +kernel) (by decide +kernel)
theorem pb_X11_goAll : lbOK mX11_goAll 0 3 := lb_of (cell := 0) (n := 3) (ms_230 WF_st) mt_X11_goAll (by decide +kernel) rfl (by decide +kernel) (by decide +kernel) (by decide +kernel)
theorem pb_X11_wouldBe : lbOK mX11_wouldBe 0 3 := lb_of (cell := 0) (n := 3) (ms_232 WF_st) mt_X11_wouldBe (by decide +kernel) rfl (by decide +kernel) (by decide +kernel) (by decide +kernel)
theorem pb_X11_taken : lbOK mX11_taken 0 2 := lb_of (cell := 0) (n := 2) (ms_238 WF_st) mt_X11_taken (by decide +kernel) rfl (by decide +kernel) (by decide +kernel) (by decide +kernel)
theorem pb_X11_trace : lbOK mX11_trace 0 1 := lb_of (cell := 0) (n := 1) (ms_240 WF_st) mt_X11_trace (by decide +kernel) rfl (by decide +kernel) (by decide +kernel) (by decide +kernel)
theorem pb_X11_many : lbOK mX11_many 0 1 := lb_of (cell := 0) (n := 1) (ms_241 WF_st) mt_X11_many (by decide +kernel) rfl (by decide +kernel) (by decide +kernel) (by decide +kernel)
theorem pb_X12_keyOf : lbOK mX12_keyOf 67 2 := lb_of (cell := 67) (n := 2) (ms_304 pX_wf) mt_X12_keyOf (by decide +kernel) rfl (by decide +kernel) (by decide +kernel) (by decide +kernel)
theorem pb_X12_sun : lbOK mX12_sun 67 2 := lb_of (cell := 67) (n := 2) (ms_334 WF_st) mt_X12_sun (by decide +kernel) rfl (by decide +kernel) (by decide +kernel) (by decide +kernel)
theorem pb_X12_gate : lbOK mX12_gate 67 3 := lb_of (cell := 67) (n := 3) (ms_337 WF_st) mt_X12_gate (by decide +kernel) rfl (by decide +kernel) (by decide +kernel) (by decide +kernel)
theorem pb_X12_gateOf : lbOK mX12_gateOf 67 2 := lb_of (cell := 67) (n := 2) (ms_338 WF_st) mt_X12_gateOf (by decide +kernel) rfl (by decide +kernel) (by decide +kernel) (by decide +kernel)
theorem pb_X12_ends : lbOK mX12_ends 67 1 := lb_of (cell := 67) (n := 1) (ms_341 WF_st) mt_X12_ends (by decide +kernel) rfl (by decide +kernel) (by decide +kernel) (by decide +kernel)
theorem pb_X12_anew : lbOK mX12_anew 67 0 := lb_of (cell := 67) (n := 0) (ms_349 WF_st) mt_X12_anew (by decide +kernel) rfl (by decide +kernel) (by decide +kernel) (by decide +kernel)
theorem pb_X12_state : lbOK mX12_state 67 1 := lb_of (cell := 67) (n := 1) (ms_358 WF_st) mt_X12_state (by decide +kernel) rfl (by decide +kernel) (by decide +kernel) (by decide +kernel)
theorem pb_X12_rules : lbOK mX12_rules 67 0 := by
  intro d xs I hn hi hw
  refine G_mono (pb_rulesM hNM d xs I hn hi (WF_P hw)) ?_
  rintro r hh ⟨x, J, e1, e2, i1, i2, ⟨i3, i4, i5, i7⟩, -⟩
  have w := WF_h hw
  refine ⟨⟨x, e1, trivial⟩, J, e2, i1, WF_of i2 ⟨fun e he => ?_, fun hn e he => ?_⟩⟩
  · obtain ⟨-, -, b3, b4, b5, b6⟩ := hlS_b he
    rw [i3 _ _ b3, b4, i5 _ b5 b6, ← b4]
    exact w e he
  · obtain ⟨-, -, b3, b4, b5, b6⟩ := hkS_b he
    rw [i7] at hn
    rw [i3 _ _ b3, b4, i4, ← b4]
    exact hw.2.2.2.2.2.2.2 hn e he
theorem pb_X12_halt : lbOK mX12_halt 67 0 := lb_of (cell := 67) (n := 0) (ms_374 pX_wf) mt_X12_halt (by decide +kernel) rfl (by decide +kernel) (by decide +kernel) (by decide +kernel)
theorem pb_X12_on : lbOK mX12_on 67 1 := lb_of (cell := 67) (n := 1) (ms_379 pX_wf) mt_X12_on (by decide +kernel) rfl (by decide +kernel) (by decide +kernel) (by decide +kernel)
theorem pb_X12_when : lbOK mX12_when 67 1 := lb_of (cell := 67) (n := 1) (ms_413 pX_wf) mt_X12_when (by decide +kernel) rfl (by decide +kernel) (by decide +kernel) (by decide +kernel)
theorem pb_X12_strawFor : lbOK mX12_strawFor 67 1 := lb_of (cell := 67) (n := 1) (ms_422 pX_wf) mt_X12_strawFor (by decide +kernel) rfl (by decide +kernel) (by decide +kernel) (by decide +kernel)
theorem pb_X12_gateFor : lbOK mX12_gateFor 67 1 := lb_of (cell := 67) (n := 1) (ms_430 pX_wf) mt_X12_gateFor (by decide +kernel) rfl (by decide +kernel) (by decide +kernel) (by decide +kernel)
theorem pb_X12_gone : lbOK mX12_gone 67 1 := lb_of (cell := 67) (n := 1) (ms_431 pX_wf) mt_X12_gone (by decide +kernel) rfl (by decide +kernel) (by decide +kernel) (by decide +kernel)
theorem pb_X12_opens : lbOK mX12_opens 67 1 := lb_of (cell := 67) (n := 1) (ms_432 WF_st) mt_X12_opens (by decide +kernel) rfl (by decide +kernel) (by decide +kernel) (by decide +kernel)
theorem pb_X12_left : lbOK mX12_left 67 2 := lb_of (cell := 67) (n := 2) (ms_433 pX_wf) mt_X12_left (by decide +kernel) rfl (by decide +kernel) (by decide +kernel) (by decide +kernel)
theorem pb_X12_bunches : lbOK mX12_bunches 67 1 := lb_of (cell := 67) (n := 1) (ms_444 WF_st) mt_X12_bunches (by decide +kernel) rfl (by decide +kernel) (by decide +kernel) (by decide +kernel)
theorem pb_X12_best : lbOK mX12_best 67 1 := lb_of (cell := 67) (n := 1) (ms_559 pX_wf) mt_X12_best (by decide +kernel) rfl (by decide +kernel) (by decide +kernel) (by decide +kernel)
theorem pb_X12_ith : lbOK mX12_ith 67 2 := lb_of (cell := 67) (n := 2) (ms_561 pX_wf) mt_X12_ith (by decide +kernel) rfl (by decide +kernel) (by decide +kernel) (by decide +kernel)
theorem pb_X12_ways : lbOK mX12_ways 67 1 := lb_of (cell := 67) (n := 1) (ms_562 pX_wf) mt_X12_ways (by decide +kernel) rfl (by decide +kernel) (by decide +kernel) (by decide +kernel)
theorem pb_X12_order : lbOK mX12_order 67 2 := lb_of (cell := 67) (n := 2) (ms_565 pX_wf) mt_X12_order (by decide +kernel) rfl (by decide +kernel) (by decide +kernel) (by decide +kernel)
theorem pb_X12_bars : lbOK mX12_bars 67 2 := lb_of (cell := 67) (n := 2) (ms_566 pX_wf) mt_X12_bars (by decide +kernel) rfl (by decide +kernel) (by decide +kernel) (by decide +kernel)
theorem pb_X12_game : lbOK mX12_game 67 1 := lb_of (cell := 67) (n := 1) (ms_583 pX_wf) mt_X12_game (by decide +kernel) rfl (by decide +kernel) (by decide +kernel) (by decide +kernel)
theorem pb_X12_play : lbOK mX12_play 67 1 := lb_of (cell := 67) (n := 1) (ms_586 pX_wf) mt_X12_play (by decide +kernel) rfl (by decide +kernel) (by decide +kernel) (by decide +kernel)
theorem pb_X12_report : lbOK mX12_report 67 4 := lb_of (cell := 67) (n := 4) (ms_589 WF_st) mt_X12_report (by decide +kernel) rfl (by decide +kernel) (by decide +kernel) (by decide +kernel)
theorem pb_X12_forget : lbOK mX12_forget 67 0 := lb_of (cell := 67) (n := 0) (ms_591 WF_st) mt_X12_forget (by decide +kernel) rfl (by decide +kernel) (by decide +kernel) (by decide +kernel)
theorem pb_X12_lone : lbOK mX12_lone 67 1 := lb_of (cell := 67) (n := 1) (ms_601 WF_st) mt_X12_lone (by decide +kernel) rfl (by decide +kernel) (by decide +kernel) (by decide +kernel)
theorem pb_X12_liar : lbOK mX12_liar 67 0 := lb_of (cell := 67) (n := 0) (ms_602 WF_st) mt_X12_liar (by decide +kernel) rfl (by decide +kernel) (by decide +kernel) (by decide +kernel)
theorem pb_X12_seed : lbOK mX12_seed 67 1 := lb_of (cell := 67) (n := 1) (ms_604 WF_st) mt_X12_seed (by decide +kernel) rfl (by decide +kernel) (by decide +kernel) (by decide +kernel)
theorem pb_X12_lot : lbOK mX12_lot 67 0 := lb_of (cell := 67) (n := 0) (ms_606 pX_wf) mt_X12_lot (by decide +kernel) rfl (by decide +kernel) (by decide +kernel) (by decide +kernel)
theorem pb_X12_times : lbOK mX12_times 67 2 := lb_of (cell := 67) (n := 2) (ms_641 pX_wf) mt_X12_times (by decide +kernel) rfl (by decide +kernel) (by decide +kernel) (by decide +kernel)
theorem pb_X12_prove : lbOK mX12_prove 67 1 := lb_of (cell := 67) (n := 1) (ms_652 pX_wf) mt_X12_prove (by decide +kernel) rfl (by decide +kernel) (by decide +kernel) (by decide +kernel)
theorem pb_X12_row : lbOK mX12_row 67 2 := lb_of (cell := 67) (n := 2) (ms_656 WF_st) mt_X12_row (by decide +kernel) rfl (by decide +kernel) (by decide +kernel) (by decide +kernel)
theorem pb_X12_alterRow : lbOK mX12_alterRow 67 3 := lb_of (cell := 67) (n := 3) (ms_657 WF_st) mt_X12_alterRow (by decide +kernel) rfl (by decide +kernel) (by decide +kernel) (by decide +kernel)
theorem pb_X12_judge : lbOK mX12_judge 67 0 := lb_of (cell := 67) (n := 0) (ms_660 pX_wf) mt_X12_judge (by decide +kernel) rfl (by decide +kernel) (by decide +kernel) (by decide +kernel)
theorem pb_X12_sheet : lbOK mX12_sheet 67 3 := lb_of (cell := 67) (n := 3) (ms_663 WF_st) mt_X12_sheet (by decide +kernel) rfl (by decide +kernel) (by decide +kernel) (by decide +kernel)
theorem pb_X12_write : lbOK mX12_write 67 3 := lb_of (cell := 67) (n := 3) (ms_666 WF_st) mt_X12_write (by decide +kernel) rfl (by decide +kernel) (by decide +kernel) (by decide +kernel)
theorem pb_X12_item : lbOK mX12_item 67 3 := lb_of (cell := 67) (n := 3) (ms_668 WF_st) mt_X12_item (by decide +kernel) rfl (by decide +kernel) (by decide +kernel) (by decide +kernel)
theorem pb_X12_goAll : lbOK mX12_goAll 67 3 := lb_of (cell := 67) (n := 3) (ms_690 pX_wf) mt_X12_goAll (by decide +kernel) rfl (by decide +kernel) (by decide +kernel) (by decide +kernel)
theorem pb_X12_wouldBe : lbOK mX12_wouldBe 67 3 := lb_of (cell := 67) (n := 3) (ms_691 pX_wf) mt_X12_wouldBe (by decide +kernel) rfl (by decide +kernel) (by decide +kernel) (by decide +kernel)
theorem pb_X12_taken : lbOK mX12_taken 67 2 := lb_of (cell := 67) (n := 2) (ms_697 WF_st) mt_X12_taken (by decide +kernel) rfl (by decide +kernel) (by decide +kernel) (by decide +kernel)
theorem pb_X12_trace : lbOK mX12_trace 67 1 := lb_of (cell := 67) (n := 1) (ms_699 WF_st) mt_X12_trace (by decide +kernel) rfl (by decide +kernel) (by decide +kernel) (by decide +kernel)
theorem pb_X12_many : lbOK mX12_many 67 1 := lb_of (cell := 67) (n := 1) (ms_701 WF_st) mt_X12_many (by decide +kernel) rfl (by decide +kernel) (by decide +kernel) (by decide +kernel)
theorem pb_fX (d : Nat) (e : Int64) (n : Int32) (I : gI) (hi : aInv bT I) (hw : WF I) : gg (d + 40) mX11_feed 0 (gent 5 [.ref 0, .long e, .int n]) [] I (lbQ (fun _ => True)) := by
  refine G_mono (pb_feedX (msn_1 WF_st) (msn_3 WF_st) n hi (WF_P hw)) ?_
  rintro r hh ⟨x, J, e1, e2, i1, i2⟩
  exact ⟨⟨x, e1, trivial⟩, J, e2, i1, lw_md (by decide +kernel) (by decide +kernel) (by decide +kernel) i2 hw⟩
theorem pb_fM (d : Nat) (e : Int64) (n : Int32) (I : gI) (hi : aInv bT I) (hw : WF I) : gg (d + 40) mX12_feed 0 (gent 5 [.ref 67, .long e, .int n]) [] I (lbQ (fun _ => True)) := by
  refine G_mono (pb_feedM (msn_2 WF_st) n hi (WF_P hw)) ?_
  rintro r hh ⟨x, J, e1, e2, i1, i2⟩
  exact ⟨⟨x, e1, trivial⟩, J, e2, i1, lw_md (by decide +kernel) (by decide +kernel) (by decide +kernel) i2 hw⟩
