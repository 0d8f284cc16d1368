set_option maxRecDepth 16384 in
/-! ===== every public method, from any heap in order ===== -/
theorem args_all : ∀ xs : List Int32, argsOK (List.replicate xs.length (0, (-2147483648 : Int), 2147483647)) (xs.map Value.int)
  | [] => trivial
  | x :: xs => ⟨⟨x, rfl, a_rng x⟩, args_all xs⟩
set_option maxRecDepth 16384 in
/-- both tapes have as many bytes, and the same -/
def tX (I : gI) : Prop := I 55 1 = I 67 6 ∧ ∀ j : Nat, j < 200 → (j : Int) < (I 67 6).toInt → I 56 j = I 72 j
set_option maxRecDepth 16384 in
def tXs : aMd := [(55, 1, 1), (67, 6, 6), (56, 0, 199), (72, 0, 199)]
set_option maxRecDepth 16384 in
theorem tX_eq {I J : gI} (h : tX I) (hs : ∀ c j, amodr tXs c j j = true → J c j = I c j) : tX J := by
  refine ⟨by rw [hs 55 1 (by decide), hs 67 6 (by decide)]; exact h.1, fun j hj hl => ?_⟩
  rw [hs 67 6 (by decide)] at hl
  rw [hs 56 j (amodr_i (a := 0) (b := 199) (by decide) (Nat.zero_le _) (by omega)), hs 72 j (amodr_i (a := 0) (b := 199) (by decide) (Nat.zero_le _) (by omega))]
  exact h.2 j hj hl
set_option maxRecDepth 16384 in
theorem tX_md {I J : gI} {md : aMd} (h : tX I) (hd : dsj md tXs = true) (hf : afr md I J) : tX J := tX_eq h (fun c j hx => hf c j (dsj_ok hd hx))
set_option maxRecDepth 16384 in
def WF (I : gI) : Prop := WF0 I ∧ rM I ∧ I 0 2 = I 67 3 ∧ (I 67 3 ≠ 0 → rK I) ∧ rO I ∧ rX I ∧ tX I
set_option maxRecDepth 16384 in
theorem WF_P {I : gI} (h : WF I) : WP I := ⟨h.1, h.2.1, h.2.2.1, h.2.2.2.1, h.2.2.2.2.1, h.2.2.2.2.2.1⟩
set_option maxRecDepth 16384 in
theorem WF_of {I : gI} (h : WP I) (h2 : tX I) : WF I := ⟨h.1, h.2.1, h.2.2.1, h.2.2.2.1, h.2.2.2.2.1, h.2.2.2.2.2, h2⟩
set_option maxRecDepth 16384 in
theorem WF_t {I : gI} (h : WF I) : tX I := h.2.2.2.2.2.2
set_option maxRecDepth 16384 in
def lbQ (P : Int32 → Prop) : Option Value → gH → Prop := fun r h => (∃ x : Int32, r = some (.int x) ∧ P x) ∧ ∃ I', h = (SH0, RF0, I') ∧ aInv bT I' ∧ WF I'
set_option maxRecDepth 16384 in
def lbOK (M : gM) (cell n : Nat) : Prop := ∀ (d : Nat) (xs : List Int32) (I : gI), xs.length = n → aInv bT I → WF I → gg (d + 40) M 0 (gent M.2.2.1 (.ref cell :: xs.map Value.int)) [] I (lbQ (fun _ => True))
set_option maxRecDepth 16384 in
def preH (l : List (Nat × Nat × Int × Int)) : Bool := l.all (fun s => decide (s.2.2.1 < aEQ) && asub (bnd bT s.1 s.2.1) s.2.2)
set_option maxRecDepth 16384 in
theorem preH_ok {I : gI} {l : List (Nat × Nat × Int × Int)} (h : preH l = true) (hi : aInv bT I) : ∀ s ∈ l, slotOK I s := fun s hs => by
  have h1 := List.all_eq_true.mp h s hs
  simp only [Bool.and_eq_true, decide_eq_true_eq] at h1
  exact slotOK_m h1.1 (asub_ok h1.2 (hi s.1 s.2.1))
set_option maxRecDepth 16384 in
theorem lb_of {m : aM} {M : gM} {cell n : Nat} (hm : MSok bT WP MT m) (hM : MT[m.1]? = some M) (hp : preH m.2.2.2.1 = true) (ha : m.2.2.1 = (1, (cell : Int), 0) :: List.replicate n (0, (-2147483648 : Int), 2147483647)) (hh : m.2.1 ≤ 40) (hmd : pOK m.2.2.2.2.1 = true) (hc : (dsj m.2.2.2.2.1 tXs && m.2.2.2.2.2.all (fun c => c.1.isSome)) = true) : lbOK M cell n := by
  intro d xs I hn hi hw
  subst hn
  have h := hm M hM (d + (40 - m.2.1)) (.ref cell :: xs.map Value.int) I (by rw [ha]; exact ⟨⟨cell, rfl, rfl⟩, args_all xs⟩) hi (WF_P hw) (preH_ok hp hi)
  rw [show d + (40 - m.2.1) + m.2.1 = d + 40 by omega] at h
  refine G_mono h ?_
  rintro r hh ⟨J, e1, e2, e3, c, c1, c2⟩
  simp only [Bool.and_eq_true] at hc
  obtain ⟨b, hb⟩ := Option.isSome_iff_exists.mp (List.all_eq_true.mp hc.2 c c1)
  obtain ⟨q1, -, -⟩ := c2
  rw [hb] at q1
  obtain ⟨x, e, -⟩ := q1
  refine ⟨⟨x, e, trivial⟩, J, e1, e2, WF_of (pE WF_st hmd I J (WF_P hw) e3) (tX_md (WF_t hw) hc.1 e3)⟩
set_option maxRecDepth 16384 in
def preB (l : List (Nat × Nat × Int × Int)) : Bool := l.all (fun s => decide (s.2.2.1 < aEQ) && asub (bnd bT s.1 s.2.1) s.2.2)
set_option maxRecDepth 16384 in
theorem preB_ok {I : gI} {l : List (Nat × Nat × Int × Int)} (h : preB l = true) (hi : aInv bT I) : ∀ s ∈ l, slotOK I s := fun s hs => by
  have h1 := List.all_eq_true.mp h s hs
  simp only [Bool.and_eq_true, decide_eq_true_eq] at h1
  exact slotOK_m h1.1 (asub_ok h1.2 (hi s.1 s.2.1))
set_option maxRecDepth 16384 in
theorem pb_X11_key : lbOK mX11_key 0 4 := lb_of (cell := 0) (n := 4) (ms_6 WF_st) mt_X11_key (by decide +kernel) rfl (by decide +kernel) (by decide +kernel) (by decide +kernel)
set_option maxRecDepth 16384 in
theorem pb_X11_keyOf : lbOK mX11_keyOf 0 2 := lb_of (cell := 0) (n := 2) (ms_43 WF_st) mt_X11_keyOf (by decide +kernel) rfl (by decide +kernel) (by decide +kernel) (by decide +kernel)
set_option maxRecDepth 16384 in
theorem pb_X11_change : lbOK mX11_change 0 3 := lb_of (cell := 0) (n := 3) (ms_51 WF_st) mt_X11_change (by decide +kernel) rfl (by decide +kernel) (by decide +kernel) (by decide +kernel)
set_option maxRecDepth 16384 in
theorem pb_X11_remake : lbOK mX11_remake 0 2 := lb_of (cell := 0) (n := 2) (ms_52 WF_st) mt_X11_remake (by decide +kernel) rfl (by decide +kernel) (by decide +kernel) (by decide +kernel)
set_option maxRecDepth 16384 in
theorem pb_X11_sun : lbOK mX11_sun 0 2 := lb_of (cell := 0) (n := 2) (ms_55 WF_st) mt_X11_sun (by decide +kernel) rfl (by decide +kernel) (by decide +kernel) (by decide +kernel)
set_option maxRecDepth 16384 in
theorem pb_X11_gate : lbOK mX11_gate 0 3 := lb_of (cell := 0) (n := 3) (ms_58 WF_st) mt_X11_gate (by decide +kernel) rfl (by decide +kernel) (by decide +kernel) (by decide +kernel)
set_option maxRecDepth 16384 in
theorem pb_X11_gateOf : lbOK mX11_gateOf 0 2 := lb_of (cell := 0) (n := 2) (ms_59 WF_st) mt_X11_gateOf (by decide +kernel) rfl (by decide +kernel) (by decide +kernel) (by decide +kernel)
set_option maxRecDepth 16384 in
theorem pb_X11_ends : lbOK mX11_ends 0 1 := lb_of (cell := 0) (n := 1) (ms_61 WF_st) mt_X11_ends (by decide +kernel) rfl (by decide +kernel) (by decide +kernel) (by decide +kernel)
set_option maxRecDepth 16384 in
theorem pb_X11_anew : lbOK mX11_anew 0 0 := lb_of (cell := 0) (n := 0) (ms_62 WF_st) mt_X11_anew (by decide +kernel) rfl (by decide +kernel) (by decide +kernel) (by decide +kernel)
set_option maxRecDepth 16384 in
theorem pb_X11_state : lbOK mX11_state 0 1 := lb_of (cell := 0) (n := 1) (ms_65 WF_st) mt_X11_state (by decide +kernel) rfl (by decide +kernel) (by decide +kernel) (by decide +kernel)
set_option maxRecDepth 16384 in
theorem pb_X11_halt : lbOK mX11_halt 0 0 := lb_of (cell := 0) (n := 0) (ms_77 WF_st) mt_X11_halt (by decide +kernel) rfl (by decide +kernel) (by decide +kernel) (by decide +kernel)
set_option maxRecDepth 16384 in
theorem pb_X11_on : lbOK mX11_on 0 1 := lb_of (cell := 0) (n := 1) (ms_82 WF_st) mt_X11_on (by decide +kernel) rfl (by decide +kernel) (by decide +kernel) (by decide +kernel)
set_option maxRecDepth 16384 in
theorem pb_X11_when : lbOK mX11_when 0 1 := lb_of (cell := 0) (n := 1) (ms_83 WF_st) mt_X11_when (by decide +kernel) rfl (by decide +kernel) (by decide +kernel) (by decide +kernel)
set_option maxRecDepth 16384 in
theorem pb_X11_strawFor : lbOK mX11_strawFor 0 1 := lb_of (cell := 0) (n := 1) (ms_85 WF_st) mt_X11_strawFor (by decide +kernel) rfl (by decide +kernel) (by decide +kernel) (by decide +kernel)
set_option maxRecDepth 16384 in
theorem pb_X11_gateFor : lbOK mX11_gateFor 0 1 := lb_of (cell := 0) (n := 1) (ms_87 WF_st) mt_X11_gateFor (by decide +kernel) rfl (by decide +kernel) (by decide +kernel) (by decide +kernel)
set_option maxRecDepth 16384 in
theorem pb_X11_gone : lbOK mX11_gone 0 1 := lb_of (cell := 0) (n := 1) (ms_88 WF_st) mt_X11_gone (by decide +kernel) rfl (by decide +kernel) (by decide +kernel) (by decide +kernel)
set_option maxRecDepth 16384 in
theorem pb_X11_opens : lbOK mX11_opens 0 1 := lb_of (cell := 0) (n := 1) (ms_89 WF_st) mt_X11_opens (by decide +kernel) rfl (by decide +kernel) (by decide +kernel) (by decide +kernel)
set_option maxRecDepth 16384 in
theorem pb_X11_left : lbOK mX11_left 0 2 := lb_of (cell := 0) (n := 2) (ms_90 WF_st) mt_X11_left (by decide +kernel) rfl (by decide +kernel) (by decide +kernel) (by decide +kernel)
set_option maxRecDepth 16384 in
theorem pb_X11_bunches : lbOK mX11_bunches 0 1 := lb_of (cell := 0) (n := 1) (ms_101 WF_st) mt_X11_bunches (by decide +kernel) rfl (by decide +kernel) (by decide +kernel) (by decide +kernel)
set_option maxRecDepth 16384 in
theorem pb_X11_best : lbOK mX11_best 0 1 := lb_of (cell := 0) (n := 1) (ms_120 WF_st) mt_X11_best (by decide +kernel) rfl (by decide +kernel) (by decide +kernel) (by decide +kernel)
set_option maxRecDepth 16384 in
theorem pb_X11_ith : lbOK mX11_ith 0 2 := lb_of (cell := 0) (n := 2) (ms_123 WF_st) mt_X11_ith (by decide +kernel) rfl (by decide +kernel) (by decide +kernel) (by decide +kernel)
set_option maxRecDepth 16384 in
theorem pb_X11_ways : lbOK mX11_ways 0 1 := lb_of (cell := 0) (n := 1) (ms_124 WF_st) mt_X11_ways (by decide +kernel) rfl (by decide +kernel) (by decide +kernel) (by decide +kernel)
set_option maxRecDepth 16384 in
theorem pb_X11_order : lbOK mX11_order 0 2 := lb_of (cell := 0) (n := 2) (ms_132 WF_st) mt_X11_order (by decide +kernel) rfl (by decide +kernel) (by decide +kernel) (by decide +kernel)
set_option maxRecDepth 16384 in
theorem pb_X11_bars : lbOK mX11_bars 0 2 := lb_of (cell := 0) (n := 2) (ms_138 WF_st) mt_X11_bars (by decide +kernel) rfl (by decide +kernel) (by decide +kernel) (by decide +kernel)
set_option maxRecDepth 16384 in
theorem pb_X11_game : lbOK mX11_game 0 1 := lb_of (cell := 0) (n := 1) (ms_145 WF_st) mt_X11_game (by decide +kernel) rfl (by decide +kernel) (by decide +kernel) (by decide +kernel)
set_option maxRecDepth 16384 in
theorem pb_X11_play : lbOK mX11_play 0 1 := lb_of (cell := 0) (n := 1) (ms_146 WF_st) mt_X11_play (by decide +kernel) rfl (by decide +kernel) (by decide +kernel) (by decide +kernel)
set_option maxRecDepth 16384 in
theorem pb_X11_report : lbOK mX11_report 0 4 := lb_of (cell := 0) (n := 4) (ms_149 WF_st) mt_X11_report (by decide +kernel) rfl (by decide +kernel) (by decide +kernel) (by decide +kernel)
set_option maxRecDepth 16384 in
theorem pb_X11_forget : lbOK mX11_forget 0 0 := lb_of (cell := 0) (n := 0) (ms_150 WF_st) mt_X11_forget (by decide +kernel) rfl (by decide +kernel) (by decide +kernel) (by decide +kernel)
set_option maxRecDepth 16384 in
theorem pb_X11_lone : lbOK mX11_lone 0 1 := lb_of (cell := 0) (n := 1) (ms_182 WF_st) mt_X11_lone (by decide +kernel) rfl (by decide +kernel) (by decide +kernel) (by decide +kernel)
set_option maxRecDepth 16384 in
theorem pb_X11_liar : lbOK mX11_liar 0 0 := lb_of (cell := 0) (n := 0) (ms_186 WF_st) mt_X11_liar (by decide +kernel) rfl (by decide +kernel) (by decide +kernel) (by decide +kernel)
set_option maxRecDepth 16384 in
theorem pb_X11_seed : lbOK mX11_seed 0 1 := lb_of (cell := 0) (n := 1) (ms_187 WF_st) mt_X11_seed (by decide +kernel) rfl (by decide +kernel) (by decide +kernel) (by decide +kernel)
set_option maxRecDepth 16384 in
theorem pb_X11_lot : lbOK mX11_lot 0 0 := lb_of (cell := 0) (n := 0) (ms_189 WF_st) mt_X11_lot (by decide +kernel) rfl (by decide +kernel) (by decide +kernel) (by decide +kernel)
set_option maxRecDepth 16384 in
theorem pb_X11_times : lbOK mX11_times 0 2 := lb_of (cell := 0) (n := 2) (ms_193 WF_st) mt_X11_times (by decide +kernel) rfl (by decide +kernel) (by decide +kernel) (by decide +kernel)
set_option maxRecDepth 16384 in
theorem pb_X11_prove : lbOK mX11_prove 0 1 := lb_of (cell := 0) (n := 1) (ms_194 WF_st) mt_X11_prove (by decide +kernel) rfl (by decide +kernel) (by decide +kernel) (by decide +kernel)
set_option maxRecDepth 16384 in
theorem pb_X11_row : lbOK mX11_row 0 2 := lb_of (cell := 0) (n := 2) (ms_198 WF_st) mt_X11_row (by decide +kernel) rfl (by decide +kernel) (by decide +kernel) (by decide +kernel)
set_option maxRecDepth 16384 in
theorem pb_X11_alterRow : lbOK mX11_alterRow 0 3 := lb_of (cell := 0) (n := 3) (ms_199 WF_st) mt_X11_alterRow (by decide +kernel) rfl (by decide +kernel) (by decide +kernel) (by decide +kernel)
set_option maxRecDepth 16384 in
theorem pb_X11_judge : lbOK mX11_judge 0 0 := lb_of (cell := 0) (n := 0) (ms_205 WF_st) mt_X11_judge (by decide +kernel) rfl (by decide +kernel) (by decide +kernel) (by decide +kernel)
set_option maxRecDepth 16384 in
theorem pb_X11_sheet : lbOK mX11_sheet 0 3 := lb_of (cell := 0) (n := 3) (ms_208 WF_st) mt_X11_sheet (by decide +kernel) rfl (by decide +kernel) (by decide +kernel) (by decide +kernel)
set_option maxRecDepth 16384 in
theorem pb_X11_write : lbOK mX11_write 0 3 := lb_of (cell := 0) (n := 3) (ms_212 WF_st) mt_X11_write (by decide +kernel) rfl (by decide +kernel) (by decide +kernel) (by decide +kernel)
set_option maxRecDepth 16384 in
theorem pb_X11_item : lbOK mX11_item 0 3 := lb_of (cell := 0) (n := 3) (ms_214 WF_st) mt_X11_item (by decide +kernel) rfl (by decide +kernel) (by decide +kernel) (by decide +kernel)
set_option maxRecDepth 16384 in
theorem pb_X11_goAll : lbOK mX11_goAll 0 3 := lb_of (cell := 0) (n := 3) (ms_216 WF_st) mt_X11_goAll (by decide +kernel) rfl (by decide +kernel) (by decide +kernel) (by decide +kernel)
set_option maxRecDepth 16384 in
theorem pb_X11_wouldBe : lbOK mX11_wouldBe 0 3 := lb_of (cell := 0) (n := 3) (ms_218 WF_st) mt_X11_wouldBe (by decide +kernel) rfl (by decide +kernel) (by decide +kernel) (by decide +kernel)
set_option maxRecDepth 16384 in
theorem pb_X11_shelf : lbOK mX11_shelf 0 3 := lb_of (cell := 0) (n := 3) (ms_219 WF_st) mt_X11_shelf (by decide +kernel) rfl (by decide +kernel) (by decide +kernel) (by decide +kernel)
set_option maxRecDepth 16384 in
theorem pb_X11_taken : lbOK mX11_taken 0 2 := lb_of (cell := 0) (n := 2) (ms_225 WF_st) mt_X11_taken (by decide +kernel) rfl (by decide +kernel) (by decide +kernel) (by decide +kernel)
set_option maxRecDepth 16384 in
theorem pb_X11_act : lbOK mX11_act 0 3 := lb_of (cell := 0) (n := 3) (ms_262 WF_st) mt_X11_act (by decide +kernel) rfl (by decide +kernel) (by decide +kernel) (by decide +kernel)
set_option maxRecDepth 16384 in
theorem pb_X11_trace : lbOK mX11_trace 0 1 := lb_of (cell := 0) (n := 1) (ms_264 WF_st) mt_X11_trace (by decide +kernel) rfl (by decide +kernel) (by decide +kernel) (by decide +kernel)
set_option maxRecDepth 16384 in
theorem pb_X11_many : lbOK mX11_many 0 1 := lb_of (cell := 0) (n := 1) (ms_265 WF_st) mt_X11_many (by decide +kernel) rfl (by decide +kernel) (by decide +kernel) (by decide +kernel)
set_option maxRecDepth 16384 in
theorem pb_X12_key : lbOK mX12_key 67 4 := lb_of (cell := 67) (n := 4) (ms_282 WF_st) mt_X12_key (by decide +kernel) rfl (by decide +kernel) (by decide +kernel) (by decide +kernel)
set_option maxRecDepth 16384 in
theorem pb_X12_keyOf : lbOK mX12_keyOf 67 2 := lb_of (cell := 67) (n := 2) (ms_339 pX_wf) mt_X12_keyOf (by decide +kernel) rfl (by decide +kernel) (by decide +kernel) (by decide +kernel)
set_option maxRecDepth 16384 in
theorem pb_X12_change : lbOK mX12_change 67 3 := lb_of (cell := 67) (n := 3) (ms_366 WF_st) mt_X12_change (by decide +kernel) rfl (by decide +kernel) (by decide +kernel) (by decide +kernel)
set_option maxRecDepth 16384 in
theorem pb_X12_remake : lbOK mX12_remake 67 2 := lb_of (cell := 67) (n := 2) (ms_373 WF_st) mt_X12_remake (by decide +kernel) rfl (by decide +kernel) (by decide +kernel) (by decide +kernel)
set_option maxRecDepth 16384 in
theorem pb_X12_sun : lbOK mX12_sun 67 2 := lb_of (cell := 67) (n := 2) (ms_376 WF_st) mt_X12_sun (by decide +kernel) rfl (by decide +kernel) (by decide +kernel) (by decide +kernel)
set_option maxRecDepth 16384 in
theorem pb_X12_gate : lbOK mX12_gate 67 3 := lb_of (cell := 67) (n := 3) (ms_379 WF_st) mt_X12_gate (by decide +kernel) rfl (by decide +kernel) (by decide +kernel) (by decide +kernel)
set_option maxRecDepth 16384 in
theorem pb_X12_gateOf : lbOK mX12_gateOf 67 2 := lb_of (cell := 67) (n := 2) (ms_380 WF_st) mt_X12_gateOf (by decide +kernel) rfl (by decide +kernel) (by decide +kernel) (by decide +kernel)
set_option maxRecDepth 16384 in
theorem pb_X12_ends : lbOK mX12_ends 67 1 := lb_of (cell := 67) (n := 1) (ms_383 WF_st) mt_X12_ends (by decide +kernel) rfl (by decide +kernel) (by decide +kernel) (by decide +kernel)
set_option maxRecDepth 16384 in
theorem pb_X12_anew : lbOK mX12_anew 67 0 := lb_of (cell := 67) (n := 0) (ms_390 WF_st) mt_X12_anew (by decide +kernel) rfl (by decide +kernel) (by decide +kernel) (by decide +kernel)
set_option maxRecDepth 16384 in
theorem pb_X12_state : lbOK mX12_state 67 1 := lb_of (cell := 67) (n := 1) (ms_399 WF_st) mt_X12_state (by decide +kernel) rfl (by decide +kernel) (by decide +kernel) (by decide +kernel)
set_option maxRecDepth 16384 in
theorem pb_X12_halt : lbOK mX12_halt 67 0 := lb_of (cell := 67) (n := 0) (ms_414 pX_wf) mt_X12_halt (by decide +kernel) rfl (by decide +kernel) (by decide +kernel) (by decide +kernel)
set_option maxRecDepth 16384 in
theorem pb_X12_on : lbOK mX12_on 67 1 := lb_of (cell := 67) (n := 1) (ms_419 pX_wf) mt_X12_on (by decide +kernel) rfl (by decide +kernel) (by decide +kernel) (by decide +kernel)
set_option maxRecDepth 16384 in
theorem pb_X12_when : lbOK mX12_when 67 1 := lb_of (cell := 67) (n := 1) (ms_453 pX_wf) mt_X12_when (by decide +kernel) rfl (by decide +kernel) (by decide +kernel) (by decide +kernel)
set_option maxRecDepth 16384 in
theorem pb_X12_strawFor : lbOK mX12_strawFor 67 1 := lb_of (cell := 67) (n := 1) (ms_461 pX_wf) mt_X12_strawFor (by decide +kernel) rfl (by decide +kernel) (by decide +kernel) (by decide +kernel)
set_option maxRecDepth 16384 in
theorem pb_X12_gateFor : lbOK mX12_gateFor 67 1 := lb_of (cell := 67) (n := 1) (ms_468 pX_wf) mt_X12_gateFor (by decide +kernel) rfl (by decide +kernel) (by decide +kernel) (by decide +kernel)
set_option maxRecDepth 16384 in
theorem pb_X12_gone : lbOK mX12_gone 67 1 := lb_of (cell := 67) (n := 1) (ms_469 pX_wf) mt_X12_gone (by decide +kernel) rfl (by decide +kernel) (by decide +kernel) (by decide +kernel)
set_option maxRecDepth 16384 in
theorem pb_X12_opens : lbOK mX12_opens 67 1 := lb_of (cell := 67) (n := 1) (ms_470 WF_st) mt_X12_opens (by decide +kernel) rfl (by decide +kernel) (by decide +kernel) (by decide +kernel)
set_option maxRecDepth 16384 in
theorem pb_X12_left : lbOK mX12_left 67 2 := lb_of (cell := 67) (n := 2) (ms_471 pX_wf) mt_X12_left (by decide +kernel) rfl (by decide +kernel) (by decide +kernel) (by decide +kernel)
set_option maxRecDepth 16384 in
theorem pb_X12_bunches : lbOK mX12_bunches 67 1 := lb_of (cell := 67) (n := 1) (ms_482 WF_st) mt_X12_bunches (by decide +kernel) rfl (by decide +kernel) (by decide +kernel) (by decide +kernel)
set_option maxRecDepth 16384 in
theorem pb_X12_best : lbOK mX12_best 67 1 := lb_of (cell := 67) (n := 1) (ms_597 pX_wf) mt_X12_best (by decide +kernel) rfl (by decide +kernel) (by decide +kernel) (by decide +kernel)
set_option maxRecDepth 16384 in
theorem pb_X12_ith : lbOK mX12_ith 67 2 := lb_of (cell := 67) (n := 2) (ms_599 pX_wf) mt_X12_ith (by decide +kernel) rfl (by decide +kernel) (by decide +kernel) (by decide +kernel)
set_option maxRecDepth 16384 in
theorem pb_X12_ways : lbOK mX12_ways 67 1 := lb_of (cell := 67) (n := 1) (ms_600 pX_wf) mt_X12_ways (by decide +kernel) rfl (by decide +kernel) (by decide +kernel) (by decide +kernel)
set_option maxRecDepth 16384 in
theorem pb_X12_order : lbOK mX12_order 67 2 := lb_of (cell := 67) (n := 2) (ms_603 pX_wf) mt_X12_order (by decide +kernel) rfl (by decide +kernel) (by decide +kernel) (by decide +kernel)
set_option maxRecDepth 16384 in
theorem pb_X12_bars : lbOK mX12_bars 67 2 := lb_of (cell := 67) (n := 2) (ms_604 pX_wf) mt_X12_bars (by decide +kernel) rfl (by decide +kernel) (by decide +kernel) (by decide +kernel)
set_option maxRecDepth 16384 in
theorem pb_X12_game : lbOK mX12_game 67 1 := lb_of (cell := 67) (n := 1) (ms_621 pX_wf) mt_X12_game (by decide +kernel) rfl (by decide +kernel) (by decide +kernel) (by decide +kernel)
set_option maxRecDepth 16384 in
theorem pb_X12_play : lbOK mX12_play 67 1 := lb_of (cell := 67) (n := 1) (ms_624 pX_wf) mt_X12_play (by decide +kernel) rfl (by decide +kernel) (by decide +kernel) (by decide +kernel)
set_option maxRecDepth 16384 in
theorem pb_X12_report : lbOK mX12_report 67 4 := lb_of (cell := 67) (n := 4) (ms_627 WF_st) mt_X12_report (by decide +kernel) rfl (by decide +kernel) (by decide +kernel) (by decide +kernel)
set_option maxRecDepth 16384 in
theorem pb_X12_forget : lbOK mX12_forget 67 0 := lb_of (cell := 67) (n := 0) (ms_629 WF_st) mt_X12_forget (by decide +kernel) rfl (by decide +kernel) (by decide +kernel) (by decide +kernel)
set_option maxRecDepth 16384 in
theorem pb_X12_lone : lbOK mX12_lone 67 1 := lb_of (cell := 67) (n := 1) (ms_639 WF_st) mt_X12_lone (by decide +kernel) rfl (by decide +kernel) (by decide +kernel) (by decide +kernel)
set_option maxRecDepth 16384 in
theorem pb_X12_liar : lbOK mX12_liar 67 0 := lb_of (cell := 67) (n := 0) (ms_640 WF_st) mt_X12_liar (by decide +kernel) rfl (by decide +kernel) (by decide +kernel) (by decide +kernel)
set_option maxRecDepth 16384 in
theorem pb_X12_seed : lbOK mX12_seed 67 1 := lb_of (cell := 67) (n := 1) (ms_642 WF_st) mt_X12_seed (by decide +kernel) rfl (by decide +kernel) (by decide +kernel) (by decide +kernel)
set_option maxRecDepth 16384 in
theorem pb_X12_lot : lbOK mX12_lot 67 0 := lb_of (cell := 67) (n := 0) (ms_644 pX_wf) mt_X12_lot (by decide +kernel) rfl (by decide +kernel) (by decide +kernel) (by decide +kernel)
set_option maxRecDepth 16384 in
theorem pb_X12_times : lbOK mX12_times 67 2 := lb_of (cell := 67) (n := 2) (ms_679 pX_wf) mt_X12_times (by decide +kernel) rfl (by decide +kernel) (by decide +kernel) (by decide +kernel)
set_option maxRecDepth 16384 in
theorem pb_X12_prove : lbOK mX12_prove 67 1 := lb_of (cell := 67) (n := 1) (ms_690 pX_wf) mt_X12_prove (by decide +kernel) rfl (by decide +kernel) (by decide +kernel) (by decide +kernel)
set_option maxRecDepth 16384 in
theorem pb_X12_row : lbOK mX12_row 67 2 := lb_of (cell := 67) (n := 2) (ms_694 WF_st) mt_X12_row (by decide +kernel) rfl (by decide +kernel) (by decide +kernel) (by decide +kernel)
set_option maxRecDepth 16384 in
theorem pb_X12_alterRow : lbOK mX12_alterRow 67 3 := lb_of (cell := 67) (n := 3) (ms_695 WF_st) mt_X12_alterRow (by decide +kernel) rfl (by decide +kernel) (by decide +kernel) (by decide +kernel)
set_option maxRecDepth 16384 in
theorem pb_X12_judge : lbOK mX12_judge 67 0 := lb_of (cell := 67) (n := 0) (ms_698 pX_wf) mt_X12_judge (by decide +kernel) rfl (by decide +kernel) (by decide +kernel) (by decide +kernel)
set_option maxRecDepth 16384 in
theorem pb_X12_sheet : lbOK mX12_sheet 67 3 := lb_of (cell := 67) (n := 3) (ms_701 WF_st) mt_X12_sheet (by decide +kernel) rfl (by decide +kernel) (by decide +kernel) (by decide +kernel)
set_option maxRecDepth 16384 in
theorem pb_X12_write : lbOK mX12_write 67 3 := lb_of (cell := 67) (n := 3) (ms_704 WF_st) mt_X12_write (by decide +kernel) rfl (by decide +kernel) (by decide +kernel) (by decide +kernel)
set_option maxRecDepth 16384 in
theorem pb_X12_item : lbOK mX12_item 67 3 := lb_of (cell := 67) (n := 3) (ms_706 WF_st) mt_X12_item (by decide +kernel) rfl (by decide +kernel) (by decide +kernel) (by decide +kernel)
set_option maxRecDepth 16384 in
theorem pb_X12_goAll : lbOK mX12_goAll 67 3 := lb_of (cell := 67) (n := 3) (ms_728 pX_wf) mt_X12_goAll (by decide +kernel) rfl (by decide +kernel) (by decide +kernel) (by decide +kernel)
set_option maxRecDepth 16384 in
theorem pb_X12_wouldBe : lbOK mX12_wouldBe 67 3 := lb_of (cell := 67) (n := 3) (ms_729 pX_wf) mt_X12_wouldBe (by decide +kernel) rfl (by decide +kernel) (by decide +kernel) (by decide +kernel)
set_option maxRecDepth 16384 in
theorem pb_X12_shelf : lbOK mX12_shelf 67 3 := lb_of (cell := 67) (n := 3) (ms_730 WF_st) mt_X12_shelf (by decide +kernel) rfl (by decide +kernel) (by decide +kernel) (by decide +kernel)
set_option maxRecDepth 16384 in
theorem pb_X12_taken : lbOK mX12_taken 67 2 := lb_of (cell := 67) (n := 2) (ms_736 WF_st) mt_X12_taken (by decide +kernel) rfl (by decide +kernel) (by decide +kernel) (by decide +kernel)
set_option maxRecDepth 16384 in
theorem pb_X12_act : lbOK mX12_act 67 3 := lb_of (cell := 67) (n := 3) (ms_749 WF_st) mt_X12_act (by decide +kernel) rfl (by decide +kernel) (by decide +kernel) (by decide +kernel)
set_option maxRecDepth 16384 in
theorem pb_X12_trace : lbOK mX12_trace 67 1 := lb_of (cell := 67) (n := 1) (ms_751 WF_st) mt_X12_trace (by decide +kernel) rfl (by decide +kernel) (by decide +kernel) (by decide +kernel)
set_option maxRecDepth 16384 in
theorem pb_X12_many : lbOK mX12_many 67 1 := lb_of (cell := 67) (n := 1) (ms_753 WF_st) mt_X12_many (by decide +kernel) rfl (by decide +kernel) (by decide +kernel) (by decide +kernel)
