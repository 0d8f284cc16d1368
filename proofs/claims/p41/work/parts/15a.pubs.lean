/-! ===== every public method, from any heap in order ===== -/
theorem args_all : ∀ xs : List Int32, argsOK (List.replicate xs.length (0, (-2147483648 : Int), 2147483647)) (xs.map Value.int)
  | [] => trivial
  | x :: xs => ⟨⟨x, rfl, a_rng x⟩, args_all xs⟩
theorem pb_core {m : aM} {M : gM} {cell n d : Nat} {xs : List Int32} {I : gI} {P : Int32 → Prop} (hm : MSok bT WF MT m) (hM : MT[m.1]? = some M) (ha : m.2.2.1 = (1, (cell : Int), 0) :: List.replicate n (0, (-2147483648 : Int), 2147483647)) (hh : m.2.1 ≤ 40) (hmd : pOK m.2.2.2.2.1 = true) (hP : ∀ c ∈ m.2.2.2.2.2, ∀ vs r I, caseOK c vs r I → ∃ x : Int32, r = some (.int x) ∧ P x) (hn : xs.length = n) (hi : aInv bT I) (hw : WF I) (hp : ∀ s ∈ m.2.2.2.1, slotOK I s) : gg (d + 40) M 0 (gent M.2.2.1 (.ref cell :: xs.map Value.int)) [] I (pbQ P) := by
  subst hn
  have h := hm M hM (d + (40 - m.2.1)) (.ref cell :: xs.map Value.int) I (by rw [ha]; exact ⟨⟨cell, rfl, rfl⟩, args_all xs⟩) hi hw hp
  rw [show d + (40 - m.2.1) + m.2.1 = d + 40 by omega] at h
  exact G_mono h (fun r hh ⟨I', e1, e2, e3, c, c1, c2⟩ => ⟨hP c c1 _ r I' c2, I', e1, e2, pE WF_st hmd I I' hw e3⟩)
theorem case_some {cs : List aC} (h : cs.all (fun c => c.1.isSome) = true) : ∀ c ∈ cs, ∀ vs r I, caseOK c vs r I → ∃ x : Int32, r = some (.int x) ∧ True := fun c hc vs r I ⟨h1, _, _⟩ => by
  have h2 := List.all_eq_true.mp h c hc
  obtain ⟨b, hb⟩ := Option.isSome_iff_exists.mp h2
  rw [hb] at h1
  obtain ⟨x, e, _⟩ := h1
  exact ⟨x, e, trivial⟩
theorem case_one {cs : List aC} (h : cs.all (fun c => decide (c.1 = some (1, 1))) = true) : ∀ c ∈ cs, ∀ vs r I, caseOK c vs r I → ∃ x : Int32, r = some (.int x) ∧ x = 1 := fun c hc vs r I ⟨h1, _, _⟩ => by
  have h2 := of_decide_eq_true (List.all_eq_true.mp h c hc)
  rw [h2] at h1
  obtain ⟨x, e, g1, g2⟩ := h1
  refine ⟨x, e, Int32.toInt_inj.mp ?_⟩
  have g1 : (1 : Int) ≤ _ := g1
  have g2 : _ ≤ (1 : Int) := g2
  show x.toInt = 1
  omega
theorem pb_of {m : aM} {M : gM} {cell n : Nat} (hm : MSok bT WF MT m) (hM : MT[m.1]? = some M) (hp : m.2.2.2.1 = []) (ha : m.2.2.1 = (1, (cell : Int), 0) :: List.replicate n (0, (-2147483648 : Int), 2147483647)) (hh : m.2.1 ≤ 40) (hmd : pOK m.2.2.2.2.1 = true) (hc : m.2.2.2.2.2.all (fun c => c.1.isSome) = true) : pbOK M cell n := fun d xs I hn hi hw => pb_core hm hM ha hh hmd (case_some hc) hn hi hw (by rw [hp]; exact fun s hs => absurd hs List.not_mem_nil)
/-- one for each number of rules -/
def nine (mi : Nat) (args : List (Nat × Int × Int)) (l : List aM) : Bool := (List.range 9).all (fun v => l.any (fun m => decide (m.1 = mi) && decide (m.2.2.1 = args) && decide (m.2.2.2.1 = [(68, 5, (v : Int), (v : Int))]) && decide (m.2.1 ≤ 40) && pOK m.2.2.2.2.1 && m.2.2.2.2.2.all (fun c => c.1.isSome)))
theorem pb_of9 {l : List aM} {mi : Nat} {M : gM} {cell n : Nat} (hl : mA WF l) (hM : MT[mi]? = some M) (h9 : nine mi ((1, (cell : Int), 0) :: List.replicate n (0, (-2147483648 : Int), 2147483647)) l = true) : pbOK M cell n := fun d xs I hn hi hw => by
  have h5 := ain_of hi (show bnd bT 68 5 = (0, 8) by decide +kernel)
  dsimp only at h5
  obtain ⟨m, hm1, hm2⟩ := List.any_eq_true.mp (List.all_eq_true.mp h9 (I 68 5).toInt.toNat (List.mem_range.mpr (by omega)))
  simp only [Bool.and_eq_true, decide_eq_true_eq] at hm2
  obtain ⟨⟨⟨⟨⟨a1, a2⟩, a3⟩, a4⟩, a5⟩, a6⟩ := hm2
  refine pb_core (hl m hm1) (by rw [a1]; exact hM) a2 a4 a5 (case_some a6) hn hi hw (fun s hs => ?_)
  rw [a3] at hs
  simp only [List.mem_cons, List.not_mem_nil, or_false] at hs
  subst hs
  exact ⟨by show ((I 68 5).toInt.toNat : Int) ≤ (I 68 5).toInt; omega, by show (I 68 5).toInt ≤ ((I 68 5).toInt.toNat : Int); omega⟩

theorem pb_X11_key : pbOK mX11_key 0 4 := pb_of (cell := 0) (n := 4) (ms_6 WF_st) mt_X11_key rfl rfl (by decide +kernel) (by decide +kernel) (by decide +kernel)
theorem pb_X11_keyOf : pbOK mX11_keyOf 0 2 := pb_of (cell := 0) (n := 2) (ms_43 WF_st) mt_X11_keyOf rfl rfl (by decide +kernel) (by decide +kernel) (by decide +kernel)
theorem pb_X11_change : pbOK mX11_change 0 3 := pb_of (cell := 0) (n := 3) (ms_51 WF_st) mt_X11_change rfl rfl (by decide +kernel) (by decide +kernel) (by decide +kernel)
theorem pb_X11_remake : pbOK mX11_remake 0 2 := pb_of (cell := 0) (n := 2) (ms_52 WF_st) mt_X11_remake rfl rfl (by decide +kernel) (by decide +kernel) (by decide +kernel)
theorem pb_X11_sun : pbOK mX11_sun 0 2 := pb_of (cell := 0) (n := 2) (ms_55 WF_st) mt_X11_sun rfl rfl (by decide +kernel) (by decide +kernel) (by decide +kernel)
theorem pb_X11_gate : pbOK mX11_gate 0 3 := pb_of (cell := 0) (n := 3) (ms_58 WF_st) mt_X11_gate rfl rfl (by decide +kernel) (by decide +kernel) (by decide +kernel)
theorem pb_X11_gateOf : pbOK mX11_gateOf 0 2 := pb_of (cell := 0) (n := 2) (ms_59 WF_st) mt_X11_gateOf rfl rfl (by decide +kernel) (by decide +kernel) (by decide +kernel)
theorem pb_X11_ends : pbOK mX11_ends 0 1 := pb_of (cell := 0) (n := 1) (ms_61 WF_st) mt_X11_ends rfl rfl (by decide +kernel) (by decide +kernel) (by decide +kernel)
theorem pb_X11_anew : pbOK mX11_anew 0 0 := pb_of (cell := 0) (n := 0) (ms_62 WF_st) mt_X11_anew rfl rfl (by decide +kernel) (by decide +kernel) (by decide +kernel)
theorem pb_X11_state : pbOK mX11_state 0 1 := pb_of (cell := 0) (n := 1) (ms_65 WF_st) mt_X11_state rfl rfl (by decide +kernel) (by decide +kernel) (by decide +kernel)
theorem pb_X11_rules : pbOK mX11_rules 0 0 := pb_of (cell := 0) (n := 0) (msn_33 WF_st) mt_X11_rules rfl rfl (by decide +kernel) (by decide +kernel) (by decide +kernel)
theorem pb_X11_halt : pbOK mX11_halt 0 0 := pb_of (cell := 0) (n := 0) (ms_77 WF_st) mt_X11_halt rfl rfl (by decide +kernel) (by decide +kernel) (by decide +kernel)
theorem pb_X11_on : pbOK mX11_on 0 1 := pb_of (cell := 0) (n := 1) (ms_82 WF_st) mt_X11_on rfl rfl (by decide +kernel) (by decide +kernel) (by decide +kernel)
theorem pb_X11_when : pbOK mX11_when 0 1 := pb_of (cell := 0) (n := 1) (ms_83 WF_st) mt_X11_when rfl rfl (by decide +kernel) (by decide +kernel) (by decide +kernel)
theorem pb_X11_strawFor : pbOK mX11_strawFor 0 1 := pb_of (cell := 0) (n := 1) (ms_85 WF_st) mt_X11_strawFor rfl rfl (by decide +kernel) (by decide +kernel) (by decide +kernel)
theorem pb_X11_gateFor : pbOK mX11_gateFor 0 1 := pb_of (cell := 0) (n := 1) (ms_87 WF_st) mt_X11_gateFor rfl rfl (by decide +kernel) (by decide +kernel) (by decide +kernel)
theorem pb_X11_gone : pbOK mX11_gone 0 1 := pb_of (cell := 0) (n := 1) (ms_88 WF_st) mt_X11_gone rfl rfl (by decide +kernel) (by decide +kernel) (by decide +kernel)
theorem pb_X11_opens : pbOK mX11_opens 0 1 := pb_of (cell := 0) (n := 1) (ms_89 WF_st) mt_X11_opens rfl rfl (by decide +kernel) (by decide +kernel) (by decide +kernel)
theorem pb_X11_left : pbOK mX11_left 0 2 := pb_of (cell := 0) (n := 2) (ms_90 WF_st) mt_X11_left rfl rfl (by decide +kernel) (by decide +kernel) (by decide +kernel)
theorem pb_X11_bunches : pbOK mX11_bunches 0 1 := pb_of (cell := 0) (n := 1) (ms_101 WF_st) mt_X11_bunches rfl rfl (by decide +kernel) (by decide +kernel) (by decide +kernel)
theorem pb_X11_best : pbOK mX11_best 0 1 := pb_of (cell := 0) (n := 1) (ms_120 WF_st) mt_X11_best rfl rfl (by decide +kernel) (by decide +kernel) (by decide +kernel)
theorem pb_X11_ith : pbOK mX11_ith 0 2 := pb_of (cell := 0) (n := 2) (ms_123 WF_st) mt_X11_ith rfl rfl (by decide +kernel) (by decide +kernel) (by decide +kernel)
theorem pb_X11_ways : pbOK mX11_ways 0 1 := pb_of (cell := 0) (n := 1) (ms_124 WF_st) mt_X11_ways rfl rfl (by decide +kernel) (by decide +kernel) (by decide +kernel)
theorem pb_X11_order : pbOK mX11_order 0 2 := pb_of (cell := 0) (n := 2) (ms_132 WF_st) mt_X11_order rfl rfl (by decide +kernel) (by decide +kernel) (by decide +kernel)
theorem pb_X11_bars : pbOK mX11_bars 0 2 := pb_of (cell := 0) (n := 2) (ms_138 WF_st) mt_X11_bars rfl rfl (by decide +kernel) (by decide +kernel) (by decide +kernel)
theorem pb_X11_game : pbOK mX11_game 0 1 := pb_of (cell := 0) (n := 1) (ms_145 WF_st) mt_X11_game rfl rfl (by decide +kernel) (by decide +kernel) (by decide +kernel)
theorem pb_X11_play : pbOK mX11_play 0 1 := pb_of (cell := 0) (n := 1) (ms_146 WF_st) mt_X11_play rfl rfl (by decide +kernel) (by decide +kernel) (by decide +kernel)
theorem pb_X11_report : pbOK mX11_report 0 4 := pb_of (cell := 0) (n := 4) (ms_149 WF_st) mt_X11_report rfl rfl (by decide +kernel) (by decide +kernel) (by decide +kernel)
theorem pb_X11_forget : pbOK mX11_forget 0 0 := pb_of (cell := 0) (n := 0) (ms_150 WF_st) mt_X11_forget rfl rfl (by decide +kernel) (by decide +kernel) (by decide +kernel)
theorem pb_X11_lone : pbOK mX11_lone 0 1 := pb_of (cell := 0) (n := 1) (ms_182 WF_st) mt_X11_lone rfl rfl (by decide +kernel) (by decide +kernel) (by decide +kernel)
theorem pb_X11_liar : pbOK mX11_liar 0 0 := pb_of (cell := 0) (n := 0) (ms_186 WF_st) mt_X11_liar rfl rfl (by decide +kernel) (by decide +kernel) (by decide +kernel)
theorem pb_X11_seed : pbOK mX11_seed 0 1 := pb_of (cell := 0) (n := 1) (ms_187 WF_st) mt_X11_seed rfl rfl (by decide +kernel) (by decide +kernel) (by decide +kernel)
theorem pb_X11_lot : pbOK mX11_lot 0 0 := pb_of (cell := 0) (n := 0) (ms_189 WF_st) mt_X11_lot rfl rfl (by decide +kernel) (by decide +kernel) (by decide +kernel)
theorem pb_X11_times : pbOK mX11_times 0 2 := pb_of (cell := 0) (n := 2) (ms_193 WF_st) mt_X11_times rfl rfl (by decide +kernel) (by decide +kernel) (by decide +kernel)
theorem pb_X11_prove : pbOK mX11_prove 0 1 := pb_of (cell := 0) (n := 1) (ms_194 WF_st) mt_X11_prove rfl rfl (by decide +kernel) (by decide +kernel) (by decide +kernel)
theorem pb_X11_row : pbOK mX11_row 0 2 := pb_of (cell := 0) (n := 2) (ms_198 WF_st) mt_X11_row rfl rfl (by decide +kernel) (by decide +kernel) (by decide +kernel)
theorem pb_X11_alterRow : pbOK mX11_alterRow 0 3 := pb_of (cell := 0) (n := 3) (ms_199 WF_st) mt_X11_alterRow rfl rfl (by decide +kernel) (by decide +kernel) (by decide +kernel)
theorem pb_X11_judge : pbOK mX11_judge 0 0 := pb_of (cell := 0) (n := 0) (ms_205 WF_st) mt_X11_judge rfl rfl (by decide +kernel) (by decide +kernel) (by decide +kernel)
theorem pb_X11_sheet : pbOK mX11_sheet 0 3 := pb_of (cell := 0) (n := 3) (ms_208 WF_st) mt_X11_sheet rfl rfl (by decide +kernel) (by decide +kernel) (by decide +kernel)
theorem pb_X11_write : pbOK mX11_write 0 3 := pb_of (cell := 0) (n := 3) (ms_212 WF_st) mt_X11_write rfl rfl (by decide +kernel) (by decide +kernel) (by decide +kernel)
theorem pb_X11_item : pbOK mX11_item 0 3 := pb_of (cell := 0) (n := 3) (ms_214 WF_st) mt_X11_item rfl rfl (by decide +kernel) (by decide +kernel) (by decide +kernel)
theorem pb_X11_goAll : pbOK mX11_goAll 0 3 := pb_of (cell := 0) (n := 3) (ms_216 WF_st) mt_X11_goAll rfl rfl (by decide +kernel) (by decide +kernel) (by decide +kernel)
theorem pb_X11_wouldBe : pbOK mX11_wouldBe 0 3 := pb_of (cell := 0) (n := 3) (ms_218 WF_st) mt_X11_wouldBe rfl rfl (by decide +kernel) (by decide +kernel) (by decide +kernel)
theorem pb_X11_shelf : pbOK mX11_shelf 0 3 := pb_of (cell := 0) (n := 3) (ms_219 WF_st) mt_X11_shelf rfl rfl (by decide +kernel) (by decide +kernel) (by decide +kernel)
theorem pb_X11_taken : pbOK mX11_taken 0 2 := pb_of (cell := 0) (n := 2) (ms_225 WF_st) mt_X11_taken rfl rfl (by decide +kernel) (by decide +kernel) (by decide +kernel)
theorem pb_X11_act : pbOK mX11_act 0 3 := pb_of (cell := 0) (n := 3) (ms_262 WF_st) mt_X11_act rfl rfl (by decide +kernel) (by decide +kernel) (by decide +kernel)
theorem pb_X11_trace : pbOK mX11_trace 0 1 := pb_of (cell := 0) (n := 1) (ms_264 WF_st) mt_X11_trace rfl rfl (by decide +kernel) (by decide +kernel) (by decide +kernel)
theorem pb_X11_many : pbOK mX11_many 0 1 := pb_of (cell := 0) (n := 1) (ms_265 WF_st) mt_X11_many rfl rfl (by decide +kernel) (by decide +kernel) (by decide +kernel)
theorem pb_X11_again : pbOK mX11_again 0 0 := pb_of (cell := 0) (n := 0) (ms_271 WF_st) mt_X11_again rfl rfl (by decide +kernel) (by decide +kernel) (by decide +kernel)
theorem pb_X12_key : pbOK mX12_key 67 4 := pb_of (cell := 67) (n := 4) (ms_283 WF_st) mt_X12_key rfl rfl (by decide +kernel) (by decide +kernel) (by decide +kernel)
theorem pb_X12_keyOf : pbOK mX12_keyOf 67 2 := pb_of (cell := 67) (n := 2) (ms_340 pX_wf) mt_X12_keyOf rfl rfl (by decide +kernel) (by decide +kernel) (by decide +kernel)
theorem pb_X12_change : pbOK mX12_change 67 3 := pb_of (cell := 67) (n := 3) (ms_367 WF_st) mt_X12_change rfl rfl (by decide +kernel) (by decide +kernel) (by decide +kernel)
theorem pb_X12_remake : pbOK mX12_remake 67 2 := pb_of (cell := 67) (n := 2) (ms_374 WF_st) mt_X12_remake rfl rfl (by decide +kernel) (by decide +kernel) (by decide +kernel)
theorem pb_X12_sun : pbOK mX12_sun 67 2 := pb_of (cell := 67) (n := 2) (ms_377 WF_st) mt_X12_sun rfl rfl (by decide +kernel) (by decide +kernel) (by decide +kernel)
theorem pb_X12_gate : pbOK mX12_gate 67 3 := pb_of (cell := 67) (n := 3) (ms_380 WF_st) mt_X12_gate rfl rfl (by decide +kernel) (by decide +kernel) (by decide +kernel)
theorem pb_X12_gateOf : pbOK mX12_gateOf 67 2 := pb_of (cell := 67) (n := 2) (ms_381 WF_st) mt_X12_gateOf rfl rfl (by decide +kernel) (by decide +kernel) (by decide +kernel)
theorem pb_X12_ends : pbOK mX12_ends 67 1 := pb_of (cell := 67) (n := 1) (ms_384 WF_st) mt_X12_ends rfl rfl (by decide +kernel) (by decide +kernel) (by decide +kernel)
theorem pb_X12_anew : pbOK mX12_anew 67 0 := pb_of (cell := 67) (n := 0) (ms_391 WF_st) mt_X12_anew rfl rfl (by decide +kernel) (by decide +kernel) (by decide +kernel)
theorem pb_X12_state : pbOK mX12_state 67 1 := pb_of (cell := 67) (n := 1) (ms_400 WF_st) mt_X12_state rfl rfl (by decide +kernel) (by decide +kernel) (by decide +kernel)
theorem pb_X12_rules : pbOK mX12_rules 67 0 := pb_rulesM hNM
theorem pb_X12_halt : pbOK mX12_halt 67 0 := pb_of (cell := 67) (n := 0) (ms_415 pX_wf) mt_X12_halt rfl rfl (by decide +kernel) (by decide +kernel) (by decide +kernel)
theorem pb_X12_on : pbOK mX12_on 67 1 := pb_of9 (l := [sm_420, sm_423, sm_426, sm_429, sm_432, sm_435, sm_438, sm_441, sm_444]) (cell := 67) (n := 1) ((mA.cons (ms_420 pX_wf) (mA.cons (ms_423 pX_wf) (mA.cons (ms_426 pX_wf) (mA.cons (ms_429 pX_wf) (mA.cons (ms_432 pX_wf) (mA.cons (ms_435 pX_wf) (mA.cons (ms_438 pX_wf) (mA.cons (ms_441 pX_wf) (mA.cons (ms_444 pX_wf) mA.nil)))))))))) mt_X12_on (by decide +kernel)
theorem pb_X12_when : pbOK mX12_when 67 1 := pb_of9 (l := [sm_478, sm_479, sm_480, sm_481, sm_482, sm_483, sm_484, sm_485, sm_486]) (cell := 67) (n := 1) ((mA.cons (ms_478 pX_wf) (mA.cons (ms_479 pX_wf) (mA.cons (ms_480 pX_wf) (mA.cons (ms_481 pX_wf) (mA.cons (ms_482 pX_wf) (mA.cons (ms_483 pX_wf) (mA.cons (ms_484 pX_wf) (mA.cons (ms_485 pX_wf) (mA.cons (ms_486 pX_wf) mA.nil)))))))))) mt_X12_when (by decide +kernel)
theorem pb_X12_strawFor : pbOK mX12_strawFor 67 1 := pb_of9 (l := [sm_494, sm_496, sm_498, sm_500, sm_502, sm_504, sm_506, sm_508, sm_510]) (cell := 67) (n := 1) ((mA.cons (ms_494 pX_wf) (mA.cons (ms_496 pX_wf) (mA.cons (ms_498 pX_wf) (mA.cons (ms_500 pX_wf) (mA.cons (ms_502 pX_wf) (mA.cons (ms_504 pX_wf) (mA.cons (ms_506 pX_wf) (mA.cons (ms_508 pX_wf) (mA.cons (ms_510 pX_wf) mA.nil)))))))))) mt_X12_strawFor (by decide +kernel)
theorem pb_X12_gateFor : pbOK mX12_gateFor 67 1 := pb_of9 (l := [sm_517, sm_519, sm_521, sm_523, sm_525, sm_527, sm_529, sm_531, sm_533]) (cell := 67) (n := 1) ((mA.cons (ms_517 pX_wf) (mA.cons (ms_519 pX_wf) (mA.cons (ms_521 pX_wf) (mA.cons (ms_523 pX_wf) (mA.cons (ms_525 pX_wf) (mA.cons (ms_527 pX_wf) (mA.cons (ms_529 pX_wf) (mA.cons (ms_531 pX_wf) (mA.cons (ms_533 pX_wf) mA.nil)))))))))) mt_X12_gateFor (by decide +kernel)
theorem pb_X12_gone : pbOK mX12_gone 67 1 := pb_of9 (l := [sm_534, sm_535, sm_536, sm_537, sm_538, sm_539, sm_540, sm_541, sm_542]) (cell := 67) (n := 1) ((mA.cons (ms_534 pX_wf) (mA.cons (ms_535 pX_wf) (mA.cons (ms_536 pX_wf) (mA.cons (ms_537 pX_wf) (mA.cons (ms_538 pX_wf) (mA.cons (ms_539 pX_wf) (mA.cons (ms_540 pX_wf) (mA.cons (ms_541 pX_wf) (mA.cons (ms_542 pX_wf) mA.nil)))))))))) mt_X12_gone (by decide +kernel)
theorem pb_X12_opens : pbOK mX12_opens 67 1 := pb_of (cell := 67) (n := 1) (ms_543 WF_st) mt_X12_opens rfl rfl (by decide +kernel) (by decide +kernel) (by decide +kernel)
theorem pb_X12_left : pbOK mX12_left 67 2 := pb_of9 (l := [sm_544, sm_545, sm_546, sm_547, sm_548, sm_549, sm_550, sm_551, sm_552]) (cell := 67) (n := 2) ((mA.cons (ms_544 pX_wf) (mA.cons (ms_545 pX_wf) (mA.cons (ms_546 pX_wf) (mA.cons (ms_547 pX_wf) (mA.cons (ms_548 pX_wf) (mA.cons (ms_549 pX_wf) (mA.cons (ms_550 pX_wf) (mA.cons (ms_551 pX_wf) (mA.cons (ms_552 pX_wf) mA.nil)))))))))) mt_X12_left (by decide +kernel)
theorem pb_X12_bunches : pbOK mX12_bunches 67 1 := pb_of (cell := 67) (n := 1) (ms_563 WF_st) mt_X12_bunches rfl rfl (by decide +kernel) (by decide +kernel) (by decide +kernel)
theorem pb_X12_best : pbOK mX12_best 67 1 := pb_of9 (l := [sm_678, sm_715, sm_752, sm_789, sm_826, sm_863, sm_900, sm_937, sm_974]) (cell := 67) (n := 1) ((mA.cons (ms_678 pX_wf) (mA.cons (ms_715 pX_wf) (mA.cons (ms_752 pX_wf) (mA.cons (ms_789 pX_wf) (mA.cons (ms_826 pX_wf) (mA.cons (ms_863 pX_wf) (mA.cons (ms_900 pX_wf) (mA.cons (ms_937 pX_wf) (mA.cons (ms_974 pX_wf) mA.nil)))))))))) mt_X12_best (by decide +kernel)
theorem pb_X12_ith : pbOK mX12_ith 67 2 := pb_of9 (l := [sm_976, sm_977, sm_978, sm_979, sm_980, sm_981, sm_982, sm_983, sm_984]) (cell := 67) (n := 2) ((mA.cons (ms_976 pX_wf) (mA.cons (ms_977 pX_wf) (mA.cons (ms_978 pX_wf) (mA.cons (ms_979 pX_wf) (mA.cons (ms_980 pX_wf) (mA.cons (ms_981 pX_wf) (mA.cons (ms_982 pX_wf) (mA.cons (ms_983 pX_wf) (mA.cons (ms_984 pX_wf) mA.nil)))))))))) mt_X12_ith (by decide +kernel)
theorem pb_X12_ways : pbOK mX12_ways 67 1 := pb_of9 (l := [sm_985, sm_986, sm_987, sm_988, sm_989, sm_990, sm_991, sm_992, sm_993]) (cell := 67) (n := 1) ((mA.cons (ms_985 pX_wf) (mA.cons (ms_986 pX_wf) (mA.cons (ms_987 pX_wf) (mA.cons (ms_988 pX_wf) (mA.cons (ms_989 pX_wf) (mA.cons (ms_990 pX_wf) (mA.cons (ms_991 pX_wf) (mA.cons (ms_992 pX_wf) (mA.cons (ms_993 pX_wf) mA.nil)))))))))) mt_X12_ways (by decide +kernel)
theorem pb_X12_order : pbOK mX12_order 67 2 := pb_of9 (l := [sm_996, sm_997, sm_998, sm_999, sm_1000, sm_1001, sm_1002, sm_1003, sm_1004]) (cell := 67) (n := 2) ((mA.cons (ms_996 pX_wf) (mA.cons (ms_997 pX_wf) (mA.cons (ms_998 pX_wf) (mA.cons (ms_999 pX_wf) (mA.cons (ms_1000 pX_wf) (mA.cons (ms_1001 pX_wf) (mA.cons (ms_1002 pX_wf) (mA.cons (ms_1003 pX_wf) (mA.cons (ms_1004 pX_wf) mA.nil)))))))))) mt_X12_order (by decide +kernel)
theorem pb_X12_bars : pbOK mX12_bars 67 2 := pb_of9 (l := [sm_1005, sm_1006, sm_1007, sm_1008, sm_1009, sm_1010, sm_1011, sm_1012, sm_1013]) (cell := 67) (n := 2) ((mA.cons (ms_1005 pX_wf) (mA.cons (ms_1006 pX_wf) (mA.cons (ms_1007 pX_wf) (mA.cons (ms_1008 pX_wf) (mA.cons (ms_1009 pX_wf) (mA.cons (ms_1010 pX_wf) (mA.cons (ms_1011 pX_wf) (mA.cons (ms_1012 pX_wf) (mA.cons (ms_1013 pX_wf) mA.nil)))))))))) mt_X12_bars (by decide +kernel)
theorem pb_X12_game : pbOK mX12_game 67 1 := pb_of9 (l := [sm_1030, sm_1046, sm_1062, sm_1078, sm_1094, sm_1110, sm_1126, sm_1142, sm_1158]) (cell := 67) (n := 1) ((mA.cons (ms_1030 pX_wf) (mA.cons (ms_1046 pX_wf) (mA.cons (ms_1062 pX_wf) (mA.cons (ms_1078 pX_wf) (mA.cons (ms_1094 pX_wf) (mA.cons (ms_1110 pX_wf) (mA.cons (ms_1126 pX_wf) (mA.cons (ms_1142 pX_wf) (mA.cons (ms_1158 pX_wf) mA.nil)))))))))) mt_X12_game (by decide +kernel)
theorem pb_X12_play : pbOK mX12_play 67 1 := pb_of9 (l := [sm_1161, sm_1163, sm_1165, sm_1167, sm_1169, sm_1171, sm_1173, sm_1175, sm_1177]) (cell := 67) (n := 1) ((mA.cons (ms_1161 pX_wf) (mA.cons (ms_1163 pX_wf) (mA.cons (ms_1165 pX_wf) (mA.cons (ms_1167 pX_wf) (mA.cons (ms_1169 pX_wf) (mA.cons (ms_1171 pX_wf) (mA.cons (ms_1173 pX_wf) (mA.cons (ms_1175 pX_wf) (mA.cons (ms_1177 pX_wf) mA.nil)))))))))) mt_X12_play (by decide +kernel)
theorem pb_X12_report : pbOK mX12_report 67 4 := pb_of (cell := 67) (n := 4) (ms_1180 WF_st) mt_X12_report rfl rfl (by decide +kernel) (by decide +kernel) (by decide +kernel)
theorem pb_X12_forget : pbOK mX12_forget 67 0 := pb_of (cell := 67) (n := 0) (ms_1182 WF_st) mt_X12_forget rfl rfl (by decide +kernel) (by decide +kernel) (by decide +kernel)
theorem pb_X12_lone : pbOK mX12_lone 67 1 := pb_of (cell := 67) (n := 1) (ms_1192 WF_st) mt_X12_lone rfl rfl (by decide +kernel) (by decide +kernel) (by decide +kernel)
theorem pb_X12_liar : pbOK mX12_liar 67 0 := pb_of (cell := 67) (n := 0) (ms_1193 WF_st) mt_X12_liar rfl rfl (by decide +kernel) (by decide +kernel) (by decide +kernel)
theorem pb_X12_seed : pbOK mX12_seed 67 1 := pb_of (cell := 67) (n := 1) (ms_1195 WF_st) mt_X12_seed rfl rfl (by decide +kernel) (by decide +kernel) (by decide +kernel)
theorem pb_X12_lot : pbOK mX12_lot 67 0 := pb_of (cell := 67) (n := 0) (ms_1197 pX_wf) mt_X12_lot rfl rfl (by decide +kernel) (by decide +kernel) (by decide +kernel)
theorem pb_X12_times : pbOK mX12_times 67 2 := pb_of9 (l := [sm_1232, sm_1233, sm_1234, sm_1235, sm_1236, sm_1237, sm_1238, sm_1239, sm_1240]) (cell := 67) (n := 2) ((mA.cons (ms_1232 pX_wf) (mA.cons (ms_1233 pX_wf) (mA.cons (ms_1234 pX_wf) (mA.cons (ms_1235 pX_wf) (mA.cons (ms_1236 pX_wf) (mA.cons (ms_1237 pX_wf) (mA.cons (ms_1238 pX_wf) (mA.cons (ms_1239 pX_wf) (mA.cons (ms_1240 pX_wf) mA.nil)))))))))) mt_X12_times (by decide +kernel)
theorem pb_X12_prove : pbOK mX12_prove 67 1 := pb_of9 (l := [sm_1251, sm_1252, sm_1253, sm_1254, sm_1255, sm_1256, sm_1257, sm_1258, sm_1259]) (cell := 67) (n := 1) ((mA.cons (ms_1251 pX_wf) (mA.cons (ms_1252 pX_wf) (mA.cons (ms_1253 pX_wf) (mA.cons (ms_1254 pX_wf) (mA.cons (ms_1255 pX_wf) (mA.cons (ms_1256 pX_wf) (mA.cons (ms_1257 pX_wf) (mA.cons (ms_1258 pX_wf) (mA.cons (ms_1259 pX_wf) mA.nil)))))))))) mt_X12_prove (by decide +kernel)
theorem pb_X12_row : pbOK mX12_row 67 2 := pb_of (cell := 67) (n := 2) (ms_1263 WF_st) mt_X12_row rfl rfl (by decide +kernel) (by decide +kernel) (by decide +kernel)
theorem pb_X12_alterRow : pbOK mX12_alterRow 67 3 := pb_of (cell := 67) (n := 3) (ms_1264 WF_st) mt_X12_alterRow rfl rfl (by decide +kernel) (by decide +kernel) (by decide +kernel)
theorem pb_X12_judge : pbOK mX12_judge 67 0 := pb_of9 (l := [sm_1267, sm_1268, sm_1269, sm_1270, sm_1271, sm_1272, sm_1273, sm_1274, sm_1275]) (cell := 67) (n := 0) ((mA.cons (ms_1267 pX_wf) (mA.cons (ms_1268 pX_wf) (mA.cons (ms_1269 pX_wf) (mA.cons (ms_1270 pX_wf) (mA.cons (ms_1271 pX_wf) (mA.cons (ms_1272 pX_wf) (mA.cons (ms_1273 pX_wf) (mA.cons (ms_1274 pX_wf) (mA.cons (ms_1275 pX_wf) mA.nil)))))))))) mt_X12_judge (by decide +kernel)
theorem pb_X12_sheet : pbOK mX12_sheet 67 3 := pb_of (cell := 67) (n := 3) (ms_1278 WF_st) mt_X12_sheet rfl rfl (by decide +kernel) (by decide +kernel) (by decide +kernel)
theorem pb_X12_write : pbOK mX12_write 67 3 := pb_of (cell := 67) (n := 3) (ms_1281 WF_st) mt_X12_write rfl rfl (by decide +kernel) (by decide +kernel) (by decide +kernel)
theorem pb_X12_item : pbOK mX12_item 67 3 := pb_of (cell := 67) (n := 3) (ms_1283 WF_st) mt_X12_item rfl rfl (by decide +kernel) (by decide +kernel) (by decide +kernel)
theorem pb_X12_goAll : pbOK mX12_goAll 67 3 := pb_of (cell := 67) (n := 3) (ms_1305 pX_wf) mt_X12_goAll rfl rfl (by decide +kernel) (by decide +kernel) (by decide +kernel)
theorem pb_X12_wouldBe : pbOK mX12_wouldBe 67 3 := pb_of9 (l := [sm_1306, sm_1307, sm_1308, sm_1309, sm_1310, sm_1311, sm_1312, sm_1313, sm_1314]) (cell := 67) (n := 3) ((mA.cons (ms_1306 pX_wf) (mA.cons (ms_1307 pX_wf) (mA.cons (ms_1308 pX_wf) (mA.cons (ms_1309 pX_wf) (mA.cons (ms_1310 pX_wf) (mA.cons (ms_1311 pX_wf) (mA.cons (ms_1312 pX_wf) (mA.cons (ms_1313 pX_wf) (mA.cons (ms_1314 pX_wf) mA.nil)))))))))) mt_X12_wouldBe (by decide +kernel)
theorem pb_X12_shelf : pbOK mX12_shelf 67 3 := pb_of (cell := 67) (n := 3) (ms_1315 WF_st) mt_X12_shelf rfl rfl (by decide +kernel) (by decide +kernel) (by decide +kernel)
theorem pb_X12_taken : pbOK mX12_taken 67 2 := pb_of (cell := 67) (n := 2) (ms_1321 WF_st) mt_X12_taken rfl rfl (by decide +kernel) (by decide +kernel) (by decide +kernel)
theorem pb_X12_act : pbOK mX12_act 67 3 := pb_of (cell := 67) (n := 3) (ms_1334 WF_st) mt_X12_act rfl rfl (by decide +kernel) (by decide +kernel) (by decide +kernel)
theorem pb_X12_trace : pbOK mX12_trace 67 1 := pb_of (cell := 67) (n := 1) (ms_1336 WF_st) mt_X12_trace rfl rfl (by decide +kernel) (by decide +kernel) (by decide +kernel)
theorem pb_X12_many : pbOK mX12_many 67 1 := pb_of (cell := 67) (n := 1) (ms_1338 WF_st) mt_X12_many rfl rfl (by decide +kernel) (by decide +kernel) (by decide +kernel)
theorem pb_X12_again : pbOK mX12_again 67 0 := pb_againM
theorem pb_keepX (d : Nat) (I : gI) (hi : aInv bT I) (hw : WF I) : gg (d + 40) mX11_keep 0 (gent 1 [.ref 0]) [] I (pbQ (fun x => x = 1)) := pb_core (xs := []) (cell := 0) (n := 0) (ms_268 WF_st) mt_X11_keep rfl (by decide +kernel) (by decide +kernel) (case_one (by decide +kernel)) rfl hi hw (fun s hs => absurd hs List.not_mem_nil)
theorem pb_fX (d : Nat) (e : Int64) (n : Int32) (I : gI) (hi : aInv bT I) (hw : WF I) : gg (d + 40) mX11_feed 0 (gent 5 [.ref 0, .long e, .int n]) [] I (pbQ (fun _ => True)) := pb_feedX (msn_1 WF_st) (msn_3 WF_st) n hi hw
theorem pb_fM (d : Nat) (e : Int64) (n : Int32) (I : gI) (hi : aInv bT I) (hw : WF I) : gg (d + 40) mX12_feed 0 (gent 5 [.ref 67, .long e, .int n]) [] I (pbQ (fun _ => True)) := pb_feedM (msn_2 WF_st) n hi hw
