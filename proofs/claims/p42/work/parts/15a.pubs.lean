set_option maxRecDepth 16384 in
/-! ===== every public method, from any heap in order ===== -/
theorem args_all : ∀ xs : List Int32, argsOK (List.replicate xs.length (0, (-2147483648 : Int), 2147483647)) (xs.map Value.int)
  | [] => trivial
  | x :: xs => ⟨⟨x, rfl, a_rng x⟩, args_all xs⟩
set_option maxRecDepth 16384 in
theorem pb_core {m : aM} {M : gM} {cell n d : Nat} {xs : List Int32} {I : gI} {P : Int32 → Prop} (hm : MSok bT WF MT m) (hM : MT[m.1]? = some M) (ha : m.2.2.1 = (1, (cell : Int), 0) :: List.replicate n (0, (-2147483648 : Int), 2147483647)) (hh : m.2.1 ≤ 40) (hmd : pOK m.2.2.2.2.1 = true) (hP : ∀ c ∈ m.2.2.2.2.2, ∀ vs r I, caseOK c vs r I → ∃ x : Int32, r = some (.int x) ∧ P x) (hn : xs.length = n) (hi : aInv bT I) (hw : WF I) (hp : ∀ s ∈ m.2.2.2.1, slotOK I s) : gg (d + 40) M 0 (gent M.2.2.1 (.ref cell :: xs.map Value.int)) [] I (pbQ P) := by
  subst hn
  have h := hm M hM (d + (40 - m.2.1)) (.ref cell :: xs.map Value.int) I (by rw [ha]; exact ⟨⟨cell, rfl, rfl⟩, args_all xs⟩) hi hw hp
  rw [show d + (40 - m.2.1) + m.2.1 = d + 40 by omega] at h
  exact G_mono h (fun r hh ⟨I', e1, e2, e3, c, c1, c2⟩ => ⟨hP c c1 _ r I' c2, I', e1, e2, pE WF_st hmd I I' hw e3⟩)
set_option maxRecDepth 16384 in
theorem case_some {cs : List aC} (h : cs.all (fun c => c.1.isSome) = true) : ∀ c ∈ cs, ∀ vs r I, caseOK c vs r I → ∃ x : Int32, r = some (.int x) ∧ True := fun c hc vs r I ⟨h1, _, _⟩ => by
  have h2 := List.all_eq_true.mp h c hc
  obtain ⟨b, hb⟩ := Option.isSome_iff_exists.mp h2
  rw [hb] at h1
  obtain ⟨x, e, _⟩ := h1
  exact ⟨x, e, trivial⟩
set_option maxRecDepth 16384 in
theorem case_one {cs : List aC} (h : cs.all (fun c => decide (c.1 = some (1, 1))) = true) : ∀ c ∈ cs, ∀ vs r I, caseOK c vs r I → ∃ x : Int32, r = some (.int x) ∧ x = 1 := fun c hc vs r I ⟨h1, _, _⟩ => by
  have h2 := of_decide_eq_true (List.all_eq_true.mp h c hc)
  rw [h2] at h1
  obtain ⟨x, e, g1, g2⟩ := h1
  refine ⟨x, e, Int32.toInt_inj.mp ?_⟩
  have g1 : (1 : Int) ≤ _ := g1
  have g2 : _ ≤ (1 : Int) := g2
  show x.toInt = 1
  omega
set_option maxRecDepth 16384 in
def preB (l : List (Nat × Nat × Int × Int)) : Bool := l.all (fun s => decide (s.2.2.1 < aEQ) && asub (bnd bT s.1 s.2.1) s.2.2)
set_option maxRecDepth 16384 in
theorem preB_ok {I : gI} {l : List (Nat × Nat × Int × Int)} (h : preB l = true) (hi : aInv bT I) : ∀ s ∈ l, slotOK I s := fun s hs => by
  have h1 := List.all_eq_true.mp h s hs
  simp only [Bool.and_eq_true, decide_eq_true_eq] at h1
  exact slotOK_m h1.1 (asub_ok h1.2 (hi s.1 s.2.1))
set_option maxRecDepth 16384 in
theorem pb_of {m : aM} {M : gM} {cell n : Nat} (hm : MSok bT WF MT m) (hM : MT[m.1]? = some M) (hp : preB m.2.2.2.1 = true) (ha : m.2.2.1 = (1, (cell : Int), 0) :: List.replicate n (0, (-2147483648 : Int), 2147483647)) (hh : m.2.1 ≤ 40) (hmd : pOK m.2.2.2.2.1 = true) (hc : m.2.2.2.2.2.all (fun c => c.1.isSome) = true) : pbOK M cell n := fun d xs I hn hi hw => pb_core hm hM ha hh hmd (case_some hc) hn hi hw (preB_ok hp hi)

set_option maxRecDepth 16384 in
theorem pb_X11_key : pbOK mX11_key 0 4 := pb_of (cell := 0) (n := 4) (ms_6 WF_st) mt_X11_key (by decide +kernel) rfl (by decide +kernel) (by decide +kernel) (by decide +kernel)
set_option maxRecDepth 16384 in
theorem pb_X11_keyOf : pbOK mX11_keyOf 0 2 := pb_of (cell := 0) (n := 2) (ms_43 WF_st) mt_X11_keyOf (by decide +kernel) rfl (by decide +kernel) (by decide +kernel) (by decide +kernel)
set_option maxRecDepth 16384 in
theorem pb_X11_change : pbOK mX11_change 0 3 := pb_of (cell := 0) (n := 3) (ms_51 WF_st) mt_X11_change (by decide +kernel) rfl (by decide +kernel) (by decide +kernel) (by decide +kernel)
set_option maxRecDepth 16384 in
theorem pb_X11_remake : pbOK mX11_remake 0 2 := pb_of (cell := 0) (n := 2) (ms_52 WF_st) mt_X11_remake (by decide +kernel) rfl (by decide +kernel) (by decide +kernel) (by decide +kernel)
set_option maxRecDepth 16384 in
theorem pb_X11_sun : pbOK mX11_sun 0 2 := pb_of (cell := 0) (n := 2) (ms_55 WF_st) mt_X11_sun (by decide +kernel) rfl (by decide +kernel) (by decide +kernel) (by decide +kernel)
set_option maxRecDepth 16384 in
theorem pb_X11_gate : pbOK mX11_gate 0 3 := pb_of (cell := 0) (n := 3) (ms_58 WF_st) mt_X11_gate (by decide +kernel) rfl (by decide +kernel) (by decide +kernel) (by decide +kernel)
set_option maxRecDepth 16384 in
theorem pb_X11_gateOf : pbOK mX11_gateOf 0 2 := pb_of (cell := 0) (n := 2) (ms_59 WF_st) mt_X11_gateOf (by decide +kernel) rfl (by decide +kernel) (by decide +kernel) (by decide +kernel)
set_option maxRecDepth 16384 in
theorem pb_X11_ends : pbOK mX11_ends 0 1 := pb_of (cell := 0) (n := 1) (ms_61 WF_st) mt_X11_ends (by decide +kernel) rfl (by decide +kernel) (by decide +kernel) (by decide +kernel)
set_option maxRecDepth 16384 in
theorem pb_X11_anew : pbOK mX11_anew 0 0 := pb_of (cell := 0) (n := 0) (ms_62 WF_st) mt_X11_anew (by decide +kernel) rfl (by decide +kernel) (by decide +kernel) (by decide +kernel)
set_option maxRecDepth 16384 in
theorem pb_X11_state : pbOK mX11_state 0 1 := pb_of (cell := 0) (n := 1) (ms_65 WF_st) mt_X11_state (by decide +kernel) rfl (by decide +kernel) (by decide +kernel) (by decide +kernel)
set_option maxRecDepth 16384 in
theorem pb_X11_rules : pbOK mX11_rules 0 0 := pb_of (cell := 0) (n := 0) (msn_33 WF_st) mt_X11_rules (by decide +kernel) rfl (by decide +kernel) (by decide +kernel) (by decide +kernel)
set_option maxRecDepth 16384 in
theorem pb_X11_halt : pbOK mX11_halt 0 0 := pb_of (cell := 0) (n := 0) (ms_77 WF_st) mt_X11_halt (by decide +kernel) rfl (by decide +kernel) (by decide +kernel) (by decide +kernel)
set_option maxRecDepth 16384 in
theorem pb_X11_on : pbOK mX11_on 0 1 := pb_of (cell := 0) (n := 1) (ms_82 WF_st) mt_X11_on (by decide +kernel) rfl (by decide +kernel) (by decide +kernel) (by decide +kernel)
set_option maxRecDepth 16384 in
theorem pb_X11_when : pbOK mX11_when 0 1 := pb_of (cell := 0) (n := 1) (ms_83 WF_st) mt_X11_when (by decide +kernel) rfl (by decide +kernel) (by decide +kernel) (by decide +kernel)
set_option maxRecDepth 16384 in
theorem pb_X11_strawFor : pbOK mX11_strawFor 0 1 := pb_of (cell := 0) (n := 1) (ms_85 WF_st) mt_X11_strawFor (by decide +kernel) rfl (by decide +kernel) (by decide +kernel) (by decide +kernel)
set_option maxRecDepth 16384 in
theorem pb_X11_gateFor : pbOK mX11_gateFor 0 1 := pb_of (cell := 0) (n := 1) (ms_87 WF_st) mt_X11_gateFor (by decide +kernel) rfl (by decide +kernel) (by decide +kernel) (by decide +kernel)
set_option maxRecDepth 16384 in
theorem pb_X11_gone : pbOK mX11_gone 0 1 := pb_of (cell := 0) (n := 1) (ms_88 WF_st) mt_X11_gone (by decide +kernel) rfl (by decide +kernel) (by decide +kernel) (by decide +kernel)
set_option maxRecDepth 16384 in
theorem pb_X11_opens : pbOK mX11_opens 0 1 := pb_of (cell := 0) (n := 1) (ms_89 WF_st) mt_X11_opens (by decide +kernel) rfl (by decide +kernel) (by decide +kernel) (by decide +kernel)
set_option maxRecDepth 16384 in
theorem pb_X11_left : pbOK mX11_left 0 2 := pb_of (cell := 0) (n := 2) (ms_90 WF_st) mt_X11_left (by decide +kernel) rfl (by decide +kernel) (by decide +kernel) (by decide +kernel)
set_option maxRecDepth 16384 in
theorem pb_X11_bunches : pbOK mX11_bunches 0 1 := pb_of (cell := 0) (n := 1) (ms_101 WF_st) mt_X11_bunches (by decide +kernel) rfl (by decide +kernel) (by decide +kernel) (by decide +kernel)
set_option maxRecDepth 16384 in
theorem pb_X11_best : pbOK mX11_best 0 1 := pb_of (cell := 0) (n := 1) (ms_120 WF_st) mt_X11_best (by decide +kernel) rfl (by decide +kernel) (by decide +kernel) (by decide +kernel)
set_option maxRecDepth 16384 in
theorem pb_X11_ith : pbOK mX11_ith 0 2 := pb_of (cell := 0) (n := 2) (ms_123 WF_st) mt_X11_ith (by decide +kernel) rfl (by decide +kernel) (by decide +kernel) (by decide +kernel)
set_option maxRecDepth 16384 in
theorem pb_X11_ways : pbOK mX11_ways 0 1 := pb_of (cell := 0) (n := 1) (ms_124 WF_st) mt_X11_ways (by decide +kernel) rfl (by decide +kernel) (by decide +kernel) (by decide +kernel)
set_option maxRecDepth 16384 in
theorem pb_X11_order : pbOK mX11_order 0 2 := pb_of (cell := 0) (n := 2) (ms_132 WF_st) mt_X11_order (by decide +kernel) rfl (by decide +kernel) (by decide +kernel) (by decide +kernel)
set_option maxRecDepth 16384 in
theorem pb_X11_bars : pbOK mX11_bars 0 2 := pb_of (cell := 0) (n := 2) (ms_138 WF_st) mt_X11_bars (by decide +kernel) rfl (by decide +kernel) (by decide +kernel) (by decide +kernel)
set_option maxRecDepth 16384 in
theorem pb_X11_game : pbOK mX11_game 0 1 := pb_of (cell := 0) (n := 1) (ms_145 WF_st) mt_X11_game (by decide +kernel) rfl (by decide +kernel) (by decide +kernel) (by decide +kernel)
set_option maxRecDepth 16384 in
theorem pb_X11_play : pbOK mX11_play 0 1 := pb_of (cell := 0) (n := 1) (ms_146 WF_st) mt_X11_play (by decide +kernel) rfl (by decide +kernel) (by decide +kernel) (by decide +kernel)
set_option maxRecDepth 16384 in
theorem pb_X11_report : pbOK mX11_report 0 4 := pb_of (cell := 0) (n := 4) (ms_149 WF_st) mt_X11_report (by decide +kernel) rfl (by decide +kernel) (by decide +kernel) (by decide +kernel)
set_option maxRecDepth 16384 in
theorem pb_X11_forget : pbOK mX11_forget 0 0 := pb_of (cell := 0) (n := 0) (ms_150 WF_st) mt_X11_forget (by decide +kernel) rfl (by decide +kernel) (by decide +kernel) (by decide +kernel)
set_option maxRecDepth 16384 in
theorem pb_X11_lone : pbOK mX11_lone 0 1 := pb_of (cell := 0) (n := 1) (ms_182 WF_st) mt_X11_lone (by decide +kernel) rfl (by decide +kernel) (by decide +kernel) (by decide +kernel)
set_option maxRecDepth 16384 in
theorem pb_X11_liar : pbOK mX11_liar 0 0 := pb_of (cell := 0) (n := 0) (ms_186 WF_st) mt_X11_liar (by decide +kernel) rfl (by decide +kernel) (by decide +kernel) (by decide +kernel)
set_option maxRecDepth 16384 in
theorem pb_X11_seed : pbOK mX11_seed 0 1 := pb_of (cell := 0) (n := 1) (ms_187 WF_st) mt_X11_seed (by decide +kernel) rfl (by decide +kernel) (by decide +kernel) (by decide +kernel)
set_option maxRecDepth 16384 in
theorem pb_X11_lot : pbOK mX11_lot 0 0 := pb_of (cell := 0) (n := 0) (ms_189 WF_st) mt_X11_lot (by decide +kernel) rfl (by decide +kernel) (by decide +kernel) (by decide +kernel)
set_option maxRecDepth 16384 in
theorem pb_X11_times : pbOK mX11_times 0 2 := pb_of (cell := 0) (n := 2) (ms_193 WF_st) mt_X11_times (by decide +kernel) rfl (by decide +kernel) (by decide +kernel) (by decide +kernel)
set_option maxRecDepth 16384 in
theorem pb_X11_prove : pbOK mX11_prove 0 1 := pb_of (cell := 0) (n := 1) (ms_194 WF_st) mt_X11_prove (by decide +kernel) rfl (by decide +kernel) (by decide +kernel) (by decide +kernel)
set_option maxRecDepth 16384 in
theorem pb_X11_row : pbOK mX11_row 0 2 := pb_of (cell := 0) (n := 2) (ms_198 WF_st) mt_X11_row (by decide +kernel) rfl (by decide +kernel) (by decide +kernel) (by decide +kernel)
set_option maxRecDepth 16384 in
theorem pb_X11_alterRow : pbOK mX11_alterRow 0 3 := pb_of (cell := 0) (n := 3) (ms_199 WF_st) mt_X11_alterRow (by decide +kernel) rfl (by decide +kernel) (by decide +kernel) (by decide +kernel)
set_option maxRecDepth 16384 in
theorem pb_X11_judge : pbOK mX11_judge 0 0 := pb_of (cell := 0) (n := 0) (ms_205 WF_st) mt_X11_judge (by decide +kernel) rfl (by decide +kernel) (by decide +kernel) (by decide +kernel)
set_option maxRecDepth 16384 in
theorem pb_X11_item : pbOK mX11_item 0 3 := pb_of (cell := 0) (n := 3) (ms_212 WF_st) mt_X11_item (by decide +kernel) rfl (by decide +kernel) (by decide +kernel) (by decide +kernel)
set_option maxRecDepth 16384 in
theorem pb_X11_goAll : pbOK mX11_goAll 0 3 := pb_of (cell := 0) (n := 3) (ms_214 WF_st) mt_X11_goAll (by decide +kernel) rfl (by decide +kernel) (by decide +kernel) (by decide +kernel)
set_option maxRecDepth 16384 in
theorem pb_X11_wouldBe : pbOK mX11_wouldBe 0 3 := pb_of (cell := 0) (n := 3) (ms_216 WF_st) mt_X11_wouldBe (by decide +kernel) rfl (by decide +kernel) (by decide +kernel) (by decide +kernel)
set_option maxRecDepth 16384 in
theorem pb_X11_shelf : pbOK mX11_shelf 0 3 := pb_of (cell := 0) (n := 3) (ms_217 WF_st) mt_X11_shelf (by decide +kernel) rfl (by decide +kernel) (by decide +kernel) (by decide +kernel)
set_option maxRecDepth 16384 in
theorem pb_X11_taken : pbOK mX11_taken 0 2 := pb_of (cell := 0) (n := 2) (ms_223 WF_st) mt_X11_taken (by decide +kernel) rfl (by decide +kernel) (by decide +kernel) (by decide +kernel)
set_option maxRecDepth 16384 in
theorem pb_X11_act : pbOK mX11_act 0 3 := pb_of (cell := 0) (n := 3) (ms_260 WF_st) mt_X11_act (by decide +kernel) rfl (by decide +kernel) (by decide +kernel) (by decide +kernel)
set_option maxRecDepth 16384 in
theorem pb_X11_trace : pbOK mX11_trace 0 1 := pb_of (cell := 0) (n := 1) (ms_262 WF_st) mt_X11_trace (by decide +kernel) rfl (by decide +kernel) (by decide +kernel) (by decide +kernel)
set_option maxRecDepth 16384 in
theorem pb_X11_many : pbOK mX11_many 0 1 := pb_of (cell := 0) (n := 1) (ms_263 WF_st) mt_X11_many (by decide +kernel) rfl (by decide +kernel) (by decide +kernel) (by decide +kernel)
set_option maxRecDepth 16384 in
theorem pb_X12_key : pbOK mX12_key 67 4 := pb_of (cell := 67) (n := 4) (ms_280 WF_st) mt_X12_key (by decide +kernel) rfl (by decide +kernel) (by decide +kernel) (by decide +kernel)
set_option maxRecDepth 16384 in
theorem pb_X12_keyOf : pbOK mX12_keyOf 67 2 := pb_of (cell := 67) (n := 2) (ms_337 pX_wf) mt_X12_keyOf (by decide +kernel) rfl (by decide +kernel) (by decide +kernel) (by decide +kernel)
set_option maxRecDepth 16384 in
theorem pb_X12_change : pbOK mX12_change 67 3 := pb_of (cell := 67) (n := 3) (ms_364 WF_st) mt_X12_change (by decide +kernel) rfl (by decide +kernel) (by decide +kernel) (by decide +kernel)
set_option maxRecDepth 16384 in
theorem pb_X12_remake : pbOK mX12_remake 67 2 := pb_of (cell := 67) (n := 2) (ms_371 WF_st) mt_X12_remake (by decide +kernel) rfl (by decide +kernel) (by decide +kernel) (by decide +kernel)
set_option maxRecDepth 16384 in
theorem pb_X12_sun : pbOK mX12_sun 67 2 := pb_of (cell := 67) (n := 2) (ms_374 WF_st) mt_X12_sun (by decide +kernel) rfl (by decide +kernel) (by decide +kernel) (by decide +kernel)
set_option maxRecDepth 16384 in
theorem pb_X12_gate : pbOK mX12_gate 67 3 := pb_of (cell := 67) (n := 3) (ms_377 WF_st) mt_X12_gate (by decide +kernel) rfl (by decide +kernel) (by decide +kernel) (by decide +kernel)
set_option maxRecDepth 16384 in
theorem pb_X12_gateOf : pbOK mX12_gateOf 67 2 := pb_of (cell := 67) (n := 2) (ms_378 WF_st) mt_X12_gateOf (by decide +kernel) rfl (by decide +kernel) (by decide +kernel) (by decide +kernel)
set_option maxRecDepth 16384 in
theorem pb_X12_ends : pbOK mX12_ends 67 1 := pb_of (cell := 67) (n := 1) (ms_381 WF_st) mt_X12_ends (by decide +kernel) rfl (by decide +kernel) (by decide +kernel) (by decide +kernel)
set_option maxRecDepth 16384 in
theorem pb_X12_anew : pbOK mX12_anew 67 0 := pb_of (cell := 67) (n := 0) (ms_388 WF_st) mt_X12_anew (by decide +kernel) rfl (by decide +kernel) (by decide +kernel) (by decide +kernel)
set_option maxRecDepth 16384 in
theorem pb_X12_state : pbOK mX12_state 67 1 := pb_of (cell := 67) (n := 1) (ms_397 WF_st) mt_X12_state (by decide +kernel) rfl (by decide +kernel) (by decide +kernel) (by decide +kernel)
set_option maxRecDepth 16384 in
theorem pb_X12_rules : pbOK mX12_rules 67 0 := pb_rulesM hNM
set_option maxRecDepth 16384 in
theorem pb_X12_halt : pbOK mX12_halt 67 0 := pb_of (cell := 67) (n := 0) (ms_412 pX_wf) mt_X12_halt (by decide +kernel) rfl (by decide +kernel) (by decide +kernel) (by decide +kernel)
set_option maxRecDepth 16384 in
theorem pb_X12_on : pbOK mX12_on 67 1 := pb_of (cell := 67) (n := 1) (ms_417 pX_wf) mt_X12_on (by decide +kernel) rfl (by decide +kernel) (by decide +kernel) (by decide +kernel)
set_option maxRecDepth 16384 in
theorem pb_X12_when : pbOK mX12_when 67 1 := pb_of (cell := 67) (n := 1) (ms_451 pX_wf) mt_X12_when (by decide +kernel) rfl (by decide +kernel) (by decide +kernel) (by decide +kernel)
set_option maxRecDepth 16384 in
theorem pb_X12_strawFor : pbOK mX12_strawFor 67 1 := pb_of (cell := 67) (n := 1) (ms_459 pX_wf) mt_X12_strawFor (by decide +kernel) rfl (by decide +kernel) (by decide +kernel) (by decide +kernel)
set_option maxRecDepth 16384 in
theorem pb_X12_gateFor : pbOK mX12_gateFor 67 1 := pb_of (cell := 67) (n := 1) (ms_466 pX_wf) mt_X12_gateFor (by decide +kernel) rfl (by decide +kernel) (by decide +kernel) (by decide +kernel)
set_option maxRecDepth 16384 in
theorem pb_X12_gone : pbOK mX12_gone 67 1 := pb_of (cell := 67) (n := 1) (ms_467 pX_wf) mt_X12_gone (by decide +kernel) rfl (by decide +kernel) (by decide +kernel) (by decide +kernel)
set_option maxRecDepth 16384 in
theorem pb_X12_opens : pbOK mX12_opens 67 1 := pb_of (cell := 67) (n := 1) (ms_468 WF_st) mt_X12_opens (by decide +kernel) rfl (by decide +kernel) (by decide +kernel) (by decide +kernel)
set_option maxRecDepth 16384 in
theorem pb_X12_left : pbOK mX12_left 67 2 := pb_of (cell := 67) (n := 2) (ms_469 pX_wf) mt_X12_left (by decide +kernel) rfl (by decide +kernel) (by decide +kernel) (by decide +kernel)
set_option maxRecDepth 16384 in
theorem pb_X12_bunches : pbOK mX12_bunches 67 1 := pb_of (cell := 67) (n := 1) (ms_480 WF_st) mt_X12_bunches (by decide +kernel) rfl (by decide +kernel) (by decide +kernel) (by decide +kernel)
set_option maxRecDepth 16384 in
theorem pb_X12_best : pbOK mX12_best 67 1 := pb_of (cell := 67) (n := 1) (ms_595 pX_wf) mt_X12_best (by decide +kernel) rfl (by decide +kernel) (by decide +kernel) (by decide +kernel)
set_option maxRecDepth 16384 in
theorem pb_X12_ith : pbOK mX12_ith 67 2 := pb_of (cell := 67) (n := 2) (ms_597 pX_wf) mt_X12_ith (by decide +kernel) rfl (by decide +kernel) (by decide +kernel) (by decide +kernel)
set_option maxRecDepth 16384 in
theorem pb_X12_ways : pbOK mX12_ways 67 1 := pb_of (cell := 67) (n := 1) (ms_598 pX_wf) mt_X12_ways (by decide +kernel) rfl (by decide +kernel) (by decide +kernel) (by decide +kernel)
set_option maxRecDepth 16384 in
theorem pb_X12_order : pbOK mX12_order 67 2 := pb_of (cell := 67) (n := 2) (ms_601 pX_wf) mt_X12_order (by decide +kernel) rfl (by decide +kernel) (by decide +kernel) (by decide +kernel)
set_option maxRecDepth 16384 in
theorem pb_X12_bars : pbOK mX12_bars 67 2 := pb_of (cell := 67) (n := 2) (ms_602 pX_wf) mt_X12_bars (by decide +kernel) rfl (by decide +kernel) (by decide +kernel) (by decide +kernel)
set_option maxRecDepth 16384 in
theorem pb_X12_game : pbOK mX12_game 67 1 := pb_of (cell := 67) (n := 1) (ms_619 pX_wf) mt_X12_game (by decide +kernel) rfl (by decide +kernel) (by decide +kernel) (by decide +kernel)
set_option maxRecDepth 16384 in
theorem pb_X12_play : pbOK mX12_play 67 1 := pb_of (cell := 67) (n := 1) (ms_622 pX_wf) mt_X12_play (by decide +kernel) rfl (by decide +kernel) (by decide +kernel) (by decide +kernel)
set_option maxRecDepth 16384 in
theorem pb_X12_report : pbOK mX12_report 67 4 := pb_of (cell := 67) (n := 4) (ms_625 WF_st) mt_X12_report (by decide +kernel) rfl (by decide +kernel) (by decide +kernel) (by decide +kernel)
set_option maxRecDepth 16384 in
theorem pb_X12_forget : pbOK mX12_forget 67 0 := pb_of (cell := 67) (n := 0) (ms_627 WF_st) mt_X12_forget (by decide +kernel) rfl (by decide +kernel) (by decide +kernel) (by decide +kernel)
set_option maxRecDepth 16384 in
theorem pb_X12_lone : pbOK mX12_lone 67 1 := pb_of (cell := 67) (n := 1) (ms_637 WF_st) mt_X12_lone (by decide +kernel) rfl (by decide +kernel) (by decide +kernel) (by decide +kernel)
set_option maxRecDepth 16384 in
theorem pb_X12_liar : pbOK mX12_liar 67 0 := pb_of (cell := 67) (n := 0) (ms_638 WF_st) mt_X12_liar (by decide +kernel) rfl (by decide +kernel) (by decide +kernel) (by decide +kernel)
set_option maxRecDepth 16384 in
theorem pb_X12_seed : pbOK mX12_seed 67 1 := pb_of (cell := 67) (n := 1) (ms_640 WF_st) mt_X12_seed (by decide +kernel) rfl (by decide +kernel) (by decide +kernel) (by decide +kernel)
set_option maxRecDepth 16384 in
theorem pb_X12_lot : pbOK mX12_lot 67 0 := pb_of (cell := 67) (n := 0) (ms_642 pX_wf) mt_X12_lot (by decide +kernel) rfl (by decide +kernel) (by decide +kernel) (by decide +kernel)
set_option maxRecDepth 16384 in
theorem pb_X12_times : pbOK mX12_times 67 2 := pb_of (cell := 67) (n := 2) (ms_677 pX_wf) mt_X12_times (by decide +kernel) rfl (by decide +kernel) (by decide +kernel) (by decide +kernel)
set_option maxRecDepth 16384 in
theorem pb_X12_prove : pbOK mX12_prove 67 1 := pb_of (cell := 67) (n := 1) (ms_688 pX_wf) mt_X12_prove (by decide +kernel) rfl (by decide +kernel) (by decide +kernel) (by decide +kernel)
set_option maxRecDepth 16384 in
theorem pb_X12_row : pbOK mX12_row 67 2 := pb_of (cell := 67) (n := 2) (ms_692 WF_st) mt_X12_row (by decide +kernel) rfl (by decide +kernel) (by decide +kernel) (by decide +kernel)
set_option maxRecDepth 16384 in
theorem pb_X12_alterRow : pbOK mX12_alterRow 67 3 := pb_of (cell := 67) (n := 3) (ms_693 WF_st) mt_X12_alterRow (by decide +kernel) rfl (by decide +kernel) (by decide +kernel) (by decide +kernel)
set_option maxRecDepth 16384 in
theorem pb_X12_judge : pbOK mX12_judge 67 0 := pb_of (cell := 67) (n := 0) (ms_696 pX_wf) mt_X12_judge (by decide +kernel) rfl (by decide +kernel) (by decide +kernel) (by decide +kernel)
set_option maxRecDepth 16384 in
theorem pb_X12_item : pbOK mX12_item 67 3 := pb_of (cell := 67) (n := 3) (ms_702 WF_st) mt_X12_item (by decide +kernel) rfl (by decide +kernel) (by decide +kernel) (by decide +kernel)
set_option maxRecDepth 16384 in
theorem pb_X12_goAll : pbOK mX12_goAll 67 3 := pb_of (cell := 67) (n := 3) (ms_724 pX_wf) mt_X12_goAll (by decide +kernel) rfl (by decide +kernel) (by decide +kernel) (by decide +kernel)
set_option maxRecDepth 16384 in
theorem pb_X12_wouldBe : pbOK mX12_wouldBe 67 3 := pb_of (cell := 67) (n := 3) (ms_725 pX_wf) mt_X12_wouldBe (by decide +kernel) rfl (by decide +kernel) (by decide +kernel) (by decide +kernel)
set_option maxRecDepth 16384 in
theorem pb_X12_shelf : pbOK mX12_shelf 67 3 := pb_of (cell := 67) (n := 3) (ms_726 WF_st) mt_X12_shelf (by decide +kernel) rfl (by decide +kernel) (by decide +kernel) (by decide +kernel)
set_option maxRecDepth 16384 in
theorem pb_X12_taken : pbOK mX12_taken 67 2 := pb_of (cell := 67) (n := 2) (ms_732 WF_st) mt_X12_taken (by decide +kernel) rfl (by decide +kernel) (by decide +kernel) (by decide +kernel)
set_option maxRecDepth 16384 in
theorem pb_X12_act : pbOK mX12_act 67 3 := pb_of (cell := 67) (n := 3) (ms_745 WF_st) mt_X12_act (by decide +kernel) rfl (by decide +kernel) (by decide +kernel) (by decide +kernel)
set_option maxRecDepth 16384 in
theorem pb_X12_trace : pbOK mX12_trace 67 1 := pb_of (cell := 67) (n := 1) (ms_747 WF_st) mt_X12_trace (by decide +kernel) rfl (by decide +kernel) (by decide +kernel) (by decide +kernel)
set_option maxRecDepth 16384 in
theorem pb_X12_many : pbOK mX12_many 67 1 := pb_of (cell := 67) (n := 1) (ms_749 WF_st) mt_X12_many (by decide +kernel) rfl (by decide +kernel) (by decide +kernel) (by decide +kernel)
set_option maxRecDepth 16384 in
theorem pb_fX (d : Nat) (e : Int64) (n : Int32) (I : gI) (hi : aInv bT I) (hw : WF I) : gg (d + 40) mX11_feed 0 (gent 5 [.ref 0, .long e, .int n]) [] I (pbQ (fun _ => True)) := pb_feedX (msn_1 WF_st) (msn_3 WF_st) n hi hw
set_option maxRecDepth 16384 in
theorem pb_fM (d : Nat) (e : Int64) (n : Int32) (I : gI) (hi : aInv bT I) (hw : WF I) : gg (d + 40) mX12_feed 0 (gent 5 [.ref 67, .long e, .int n]) [] I (pbQ (fun _ => True)) := pb_feedM (msn_2 WF_st) n hi hw
