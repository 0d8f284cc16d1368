theorem v16 {x : Int32} (h0 : 0 ≤ x.toInt) (h1 : x.toInt ≤ 15) : x.toInt = 0 ∨ x.toInt = 1 ∨ x.toInt = 2 ∨ x.toInt = 3 ∨ x.toInt = 4 ∨ x.toInt = 5 ∨ x.toInt = 6 ∨ x.toInt = 7 ∨ x.toInt = 8 ∨ x.toInt = 9 ∨ x.toInt = 10 ∨ x.toInt = 11 ∨ x.toInt = 12 ∨ x.toInt = 13 ∨ x.toInt = 14 ∨ x.toInt = 15 := by omega
theorem go1 {mi h : Nat} {args : List (Nat × Int × Int)} {c j : Nat} {v : Int} {md : aMd} {b : Int × Int} {M : gM} {vs : List Value} {J : gI} {d : Nat} {Ext : gI → Prop} {Q : Option Value → gH → Prop} (hm : MSok bT Ext MT (mi, h, args, [(c, j, v, v)], md, [(some b, [], [(c, j, v + 1, v + 1)])])) (hM : MT[mi]? = some M) (hh : h ≤ 30) (hJ : aInv bT J) (hE : Ext J) (ha : argsOK args vs) (hv : (J c j).toInt = v) (hl : v + 1 < aEQ) (k : ∀ (y : Int32) (J' : gI), aInv bT J' → afr md J J' → (J' c j).toInt = (J c j).toInt + 1 → Q (some (.int y)) (SH0, RF0, J')) : gg (d + 30) M 0 (gent M.2.2.1 vs) [] J Q := by
  have go := hm M hM (d + (30 - h)) vs J ha hJ hE (fun s hs => by
    rw [List.mem_singleton.mp hs]
    exact slotOK_m (by show v < aEQ; omega) ⟨Int.le_of_eq hv.symm, Int.le_of_eq hv⟩)
  have go : gg (d + (30 - h) + h) M 0 (gent M.2.2.1 vs) [] J (mQ bT md [(some b, [], [(c, j, v + 1, v + 1)])] vs J) := go
  rw [show d + (30 - h) + h = d + 30 by omega] at go
  refine G_mono go ?_
  rintro r hh' ⟨J', e1, e2, e3, cc, c1, c2⟩
  rw [List.mem_singleton.mp c1] at c2
  obtain ⟨⟨y, rfl, -⟩, -, q⟩ := c2
  subst e1
  have q1 := slotOK_b (s := (c, j, v + 1, v + 1)) hl (q _ List.mem_cons_self)
  have q2 : v + 1 ≤ (J' c j).toInt := q1.1
  have q3 : (J' c j).toInt ≤ v + 1 := q1.2
  exact k y J' e2 e3 (by omega)
theorem hGoX_ok : hGoX 30 := by
  intro d t J Q hJ h0 h15 k
  rcases v16 h0 h15 with e | e | e | e | e | e | e | e | e | e | e | e | e | e | e | e
  · exact go1 (Ext := fun _ => True) (v := 0) (msh_47 tr_st) mt_X1_goBy (by decide) hJ trivial ⟨⟨19, rfl, rfl⟩, ⟨t, rfl, a_rng t⟩, trivial⟩ e (by decide) k
  · exact go1 (Ext := fun _ => True) (v := 1) (msh_49 tr_st) mt_X1_goBy (by decide) hJ trivial ⟨⟨19, rfl, rfl⟩, ⟨t, rfl, a_rng t⟩, trivial⟩ e (by decide) k
  · exact go1 (Ext := fun _ => True) (v := 2) (msh_51 tr_st) mt_X1_goBy (by decide) hJ trivial ⟨⟨19, rfl, rfl⟩, ⟨t, rfl, a_rng t⟩, trivial⟩ e (by decide) k
  · exact go1 (Ext := fun _ => True) (v := 3) (msh_53 tr_st) mt_X1_goBy (by decide) hJ trivial ⟨⟨19, rfl, rfl⟩, ⟨t, rfl, a_rng t⟩, trivial⟩ e (by decide) k
  · exact go1 (Ext := fun _ => True) (v := 4) (msh_55 tr_st) mt_X1_goBy (by decide) hJ trivial ⟨⟨19, rfl, rfl⟩, ⟨t, rfl, a_rng t⟩, trivial⟩ e (by decide) k
  · exact go1 (Ext := fun _ => True) (v := 5) (msh_57 tr_st) mt_X1_goBy (by decide) hJ trivial ⟨⟨19, rfl, rfl⟩, ⟨t, rfl, a_rng t⟩, trivial⟩ e (by decide) k
  · exact go1 (Ext := fun _ => True) (v := 6) (msh_59 tr_st) mt_X1_goBy (by decide) hJ trivial ⟨⟨19, rfl, rfl⟩, ⟨t, rfl, a_rng t⟩, trivial⟩ e (by decide) k
  · exact go1 (Ext := fun _ => True) (v := 7) (msh_61 tr_st) mt_X1_goBy (by decide) hJ trivial ⟨⟨19, rfl, rfl⟩, ⟨t, rfl, a_rng t⟩, trivial⟩ e (by decide) k
  · exact go1 (Ext := fun _ => True) (v := 8) (msh_63 tr_st) mt_X1_goBy (by decide) hJ trivial ⟨⟨19, rfl, rfl⟩, ⟨t, rfl, a_rng t⟩, trivial⟩ e (by decide) k
  · exact go1 (Ext := fun _ => True) (v := 9) (msh_65 tr_st) mt_X1_goBy (by decide) hJ trivial ⟨⟨19, rfl, rfl⟩, ⟨t, rfl, a_rng t⟩, trivial⟩ e (by decide) k
  · exact go1 (Ext := fun _ => True) (v := 10) (msh_67 tr_st) mt_X1_goBy (by decide) hJ trivial ⟨⟨19, rfl, rfl⟩, ⟨t, rfl, a_rng t⟩, trivial⟩ e (by decide) k
  · exact go1 (Ext := fun _ => True) (v := 11) (msh_69 tr_st) mt_X1_goBy (by decide) hJ trivial ⟨⟨19, rfl, rfl⟩, ⟨t, rfl, a_rng t⟩, trivial⟩ e (by decide) k
  · exact go1 (Ext := fun _ => True) (v := 12) (msh_71 tr_st) mt_X1_goBy (by decide) hJ trivial ⟨⟨19, rfl, rfl⟩, ⟨t, rfl, a_rng t⟩, trivial⟩ e (by decide) k
  · exact go1 (Ext := fun _ => True) (v := 13) (msh_73 tr_st) mt_X1_goBy (by decide) hJ trivial ⟨⟨19, rfl, rfl⟩, ⟨t, rfl, a_rng t⟩, trivial⟩ e (by decide) k
  · exact go1 (Ext := fun _ => True) (v := 14) (msh_75 tr_st) mt_X1_goBy (by decide) hJ trivial ⟨⟨19, rfl, rfl⟩, ⟨t, rfl, a_rng t⟩, trivial⟩ e (by decide) k
  · exact go1 (Ext := fun _ => True) (v := 15) (msh_77 tr_st) mt_X1_goBy (by decide) hJ trivial ⟨⟨19, rfl, rfl⟩, ⟨t, rfl, a_rng t⟩, trivial⟩ e (by decide) k
theorem hGoM_ok : hGoM 30 := by
  intro d t J Q hJ hw t0 t6 h0 h15 k
  rcases v16 h0 h15 with e | e | e | e | e | e | e | e | e | e | e | e | e | e | e | e
  · exact go1 (Ext := WP) (v := 0) (ms_667 pX_wf) mt_X12_goesBy (by decide) hJ hw ⟨⟨67, rfl, rfl⟩, ⟨t, rfl, t0, t6⟩, trivial⟩ e (by decide) k
  · exact go1 (Ext := WP) (v := 1) (ms_665 pX_wf) mt_X12_goesBy (by decide) hJ hw ⟨⟨67, rfl, rfl⟩, ⟨t, rfl, t0, t6⟩, trivial⟩ e (by decide) k
  · exact go1 (Ext := WP) (v := 2) (ms_663 pX_wf) mt_X12_goesBy (by decide) hJ hw ⟨⟨67, rfl, rfl⟩, ⟨t, rfl, t0, t6⟩, trivial⟩ e (by decide) k
  · exact go1 (Ext := WP) (v := 3) (ms_661 pX_wf) mt_X12_goesBy (by decide) hJ hw ⟨⟨67, rfl, rfl⟩, ⟨t, rfl, t0, t6⟩, trivial⟩ e (by decide) k
  · exact go1 (Ext := WP) (v := 4) (ms_659 pX_wf) mt_X12_goesBy (by decide) hJ hw ⟨⟨67, rfl, rfl⟩, ⟨t, rfl, t0, t6⟩, trivial⟩ e (by decide) k
  · exact go1 (Ext := WP) (v := 5) (ms_657 pX_wf) mt_X12_goesBy (by decide) hJ hw ⟨⟨67, rfl, rfl⟩, ⟨t, rfl, t0, t6⟩, trivial⟩ e (by decide) k
  · exact go1 (Ext := WP) (v := 6) (ms_655 pX_wf) mt_X12_goesBy (by decide) hJ hw ⟨⟨67, rfl, rfl⟩, ⟨t, rfl, t0, t6⟩, trivial⟩ e (by decide) k
  · exact go1 (Ext := WP) (v := 7) (ms_653 pX_wf) mt_X12_goesBy (by decide) hJ hw ⟨⟨67, rfl, rfl⟩, ⟨t, rfl, t0, t6⟩, trivial⟩ e (by decide) k
  · exact go1 (Ext := WP) (v := 8) (ms_651 pX_wf) mt_X12_goesBy (by decide) hJ hw ⟨⟨67, rfl, rfl⟩, ⟨t, rfl, t0, t6⟩, trivial⟩ e (by decide) k
  · exact go1 (Ext := WP) (v := 9) (ms_649 pX_wf) mt_X12_goesBy (by decide) hJ hw ⟨⟨67, rfl, rfl⟩, ⟨t, rfl, t0, t6⟩, trivial⟩ e (by decide) k
  · exact go1 (Ext := WP) (v := 10) (ms_647 pX_wf) mt_X12_goesBy (by decide) hJ hw ⟨⟨67, rfl, rfl⟩, ⟨t, rfl, t0, t6⟩, trivial⟩ e (by decide) k
  · exact go1 (Ext := WP) (v := 11) (ms_645 pX_wf) mt_X12_goesBy (by decide) hJ hw ⟨⟨67, rfl, rfl⟩, ⟨t, rfl, t0, t6⟩, trivial⟩ e (by decide) k
  · exact go1 (Ext := WP) (v := 12) (ms_643 pX_wf) mt_X12_goesBy (by decide) hJ hw ⟨⟨67, rfl, rfl⟩, ⟨t, rfl, t0, t6⟩, trivial⟩ e (by decide) k
  · exact go1 (Ext := WP) (v := 13) (ms_641 pX_wf) mt_X12_goesBy (by decide) hJ hw ⟨⟨67, rfl, rfl⟩, ⟨t, rfl, t0, t6⟩, trivial⟩ e (by decide) k
  · exact go1 (Ext := WP) (v := 14) (ms_639 pX_wf) mt_X12_goesBy (by decide) hJ hw ⟨⟨67, rfl, rfl⟩, ⟨t, rfl, t0, t6⟩, trivial⟩ e (by decide) k
  · exact go1 (Ext := WP) (v := 15) (ms_637 pX_wf) mt_X12_goesBy (by decide) hJ hw ⟨⟨67, rfl, rfl⟩, ⟨t, rfl, t0, t6⟩, trivial⟩ e (by decide) k
theorem pr_key : prOK mX11_key mX12_key 4 true := pr_of (md := [(19, 8, 8), (23, 0, 5), (24, 0, 5), (25, 0, 5), (26, 0, 5), (68, 4, 4), (68, 35, 64)]) (pm := [(185, 1, [], ops_X11_isGate), (37, 3, [], ops_X11_isIn), (184, 1, [], ops_X11_isKeyKind), (183, 6, [(37, 20, 8, [])], ops_X11_key), (127, 3, [], ops_X12_in1), (187, 1, [], ops_X12_isDigit), (188, 1, [], ops_X12_isGate), (186, 6, [], ops_X12_key), (141, 4, [], ops_X12_puts)]) (mi1 := 183) (nl1 := 6) (mi2 := 186) (nl2 := 6) (fuel := 275) (eqs := [(19, 8, 68, 4)]) (pre := [(68, 4, 0, 6), (19, 8, 10000000068, 4), (68, 1, 0, 16), (19, 2, 10000000068, 1), (68, 0, 0, 16), (19, 1, 10000000068, 0), (68, 3, (-2147483648), 2147483647), (19, 4, 10000000068, 3)]) (by decide +kernel) (pmOK.cons mt_X11_isGate rfl os_X11_isGate (pmOK.cons mt_X11_isIn rfl os_X11_isIn (pmOK.cons mt_X11_isKeyKind rfl os_X11_isKeyKind (pmOK.cons mt_X11_key rfl os_X11_key (pmOK.cons mt_X12_in1 rfl os_X12_in1 (pmOK.cons mt_X12_isDigit rfl os_X12_isDigit (pmOK.cons mt_X12_isGate rfl os_X12_isGate (pmOK.cons mt_X12_key rfl os_X12_key (pmOK.cons mt_X12_puts rfl os_X12_puts (pmOK.nil)))))))))) mt_X11_key rfl mt_X12_key rfl (by decide +kernel) (by decide +kernel)
theorem pr_ends : prOK mX11_ends mX12_ends 1 true := pr_of (md := [(19, 2, 2), (68, 1, 1)]) (pm := [(202, 3, [], ops_X11_ends), (37, 3, [], ops_X11_isIn), (193, 4, [], ops_X12_becomes), (203, 2, [], ops_X12_ends), (127, 3, [], ops_X12_in1)]) (mi1 := 202) (nl1 := 3) (mi2 := 203) (nl2 := 2) (fuel := 69) (eqs := [(19, 2, 68, 1)]) (pre := [(68, 4, 0, 6), (19, 8, 10000000068, 4), (68, 1, 0, 16), (19, 2, 10000000068, 1), (68, 0, 0, 16), (19, 1, 10000000068, 0), (68, 3, (-2147483648), 2147483647), (19, 4, 10000000068, 3)]) (by decide +kernel) (pmOK.cons mt_X11_ends rfl os_X11_ends (pmOK.cons mt_X11_isIn rfl os_X11_isIn (pmOK.cons mt_X12_becomes rfl os_X12_becomes (pmOK.cons mt_X12_ends rfl os_X12_ends (pmOK.cons mt_X12_in1 rfl os_X12_in1 (pmOK.nil)))))) mt_X11_ends rfl mt_X12_ends rfl (by decide +kernel) (by decide +kernel)
theorem pr_anew : prOK mX11_anew mX12_anew 0 true := pr_of (md := [(19, 1, 1), (19, 3, 3), (19, 9, 9), (68, 0, 0), (68, 2, 2), (68, 39, 39), (68, 44, 44), (68, 49, 49), (68, 54, 54), (68, 59, 59), (68, 64, 64)]) (pm := [(204, 2, [], ops_X11_anew), (205, 2, [], ops_X12_anew), (193, 4, [], ops_X12_becomes), (141, 4, [], ops_X12_puts)]) (mi1 := 204) (nl1 := 2) (mi2 := 205) (nl2 := 2) (fuel := 201) (eqs := [(19, 1, 68, 0)]) (pre := [(68, 4, 0, 6), (19, 8, 10000000068, 4), (68, 1, 0, 16), (19, 2, 10000000068, 1), (68, 0, 0, 16), (19, 1, 10000000068, 0), (68, 3, (-2147483648), 2147483647), (19, 4, 10000000068, 3)]) (by decide +kernel) (pmOK.cons mt_X11_anew rfl os_X11_anew (pmOK.cons mt_X12_anew rfl os_X12_anew (pmOK.cons mt_X12_becomes rfl os_X12_becomes (pmOK.cons mt_X12_puts rfl os_X12_puts (pmOK.nil))))) mt_X11_anew rfl mt_X12_anew rfl (by decide +kernel) (by decide +kernel)
theorem pr_seed : prOK mX11_seed mX12_seed 1 true := pr_of (md := [(19, 4, 4), (68, 3, 3)]) (pm := [(253, 3, [], ops_X11_seed), (193, 4, [], ops_X12_becomes), (254, 2, [], ops_X12_seed)]) (mi1 := 253) (nl1 := 3) (mi2 := 254) (nl2 := 2) (fuel := 30) (eqs := [(19, 4, 68, 3)]) (pre := [(68, 4, 0, 6), (19, 8, 10000000068, 4), (68, 1, 0, 16), (19, 2, 10000000068, 1), (68, 0, 0, 16), (19, 1, 10000000068, 0), (68, 3, (-2147483648), 2147483647), (19, 4, 10000000068, 3)]) (by decide +kernel) (pmOK.cons mt_X11_seed rfl os_X11_seed (pmOK.cons mt_X12_becomes rfl os_X12_becomes (pmOK.cons mt_X12_seed rfl os_X12_seed (pmOK.nil)))) mt_X11_seed rfl mt_X12_seed rfl (by decide +kernel) (by decide +kernel)
theorem pr_halt : prOK mX11_halt mX12_halt 0 false := pr_ofS (md := [(19, 1, 1), (19, 3, 3), (19, 9, 9), (24, 0, 5), (33, 0, 4), (68, 0, 0), (68, 2, 2), (68, 36, 36), (68, 39, 39), (68, 41, 41), (68, 44, 44), (68, 46, 46), (68, 49, 49), (68, 51, 51), (68, 54, 54), (68, 56, 56), (68, 59, 59), (68, 61, 61), (68, 64, 64), (71, 0, 199)]) (sm := [sm_70, smh_76, sm_412, smh_74, sm_414, smh_72, sm_416, smh_70, sm_418, smh_68, sm_420, smh_66, sm_422, smh_64, sm_424, smh_62, sm_426, smh_60, sm_428, smh_58, sm_430, smh_56, sm_432, smh_54, sm_434, smh_52, sm_436, smh_50, sm_438, smh_48, sm_440, smh_46, sm_442, sm_71]) (pm := [(213, 1, [(0, 20, 1, [])], ops_X11_halt), (82, 2, [], ops_X11_scored), (214, 1, [], ops_X12_halt), (150, 1, [], ops_X12_isOver), (81, 2, [], ops_X1_goBy), (31, 1, [], ops_X1_isOver)]) (mi1 := 213) (nl1 := 1) (mi2 := 214) (nl2 := 1) (fuel := 58) (eqs := [(19, 1, 68, 0)]) (pre := [(68, 4, 0, 6), (19, 8, 10000000068, 4), (68, 1, 0, 16), (19, 2, 10000000068, 1), (68, 0, 0, 16), (19, 1, 10000000068, 0), (68, 3, (-2147483648), 2147483647), (19, 4, 10000000068, 3)]) (by decide +kernel) ((mA.cons (ms_70 WF_st) (mA.cons (msh_76 WF_st) (mA.cons (ms_412 pX_wf) (mA.cons (msh_74 WF_st) (mA.cons (ms_414 pX_wf) (mA.cons (msh_72 WF_st) (mA.cons (ms_416 pX_wf) (mA.cons (msh_70 WF_st) (mA.cons (ms_418 pX_wf) (mA.cons (msh_68 WF_st) (mA.cons (ms_420 pX_wf) (mA.cons (msh_66 WF_st) (mA.cons (ms_422 pX_wf) (mA.cons (msh_64 WF_st) (mA.cons (ms_424 pX_wf) (mA.cons (msh_62 WF_st) (mA.cons (ms_426 pX_wf) (mA.cons (msh_60 WF_st) (mA.cons (ms_428 pX_wf) (mA.cons (msh_58 WF_st) (mA.cons (ms_430 pX_wf) (mA.cons (msh_56 WF_st) (mA.cons (ms_432 pX_wf) (mA.cons (msh_54 WF_st) (mA.cons (ms_434 pX_wf) (mA.cons (msh_52 WF_st) (mA.cons (ms_436 pX_wf) (mA.cons (msh_50 WF_st) (mA.cons (ms_438 pX_wf) (mA.cons (msh_48 WF_st) (mA.cons (ms_440 pX_wf) (mA.cons (msh_46 WF_st) (mA.cons (ms_442 pX_wf) (mA.cons (ms_71 WF_st) mA.nil))))))))))))))))))))))))))))))))))) (pmOK.cons mt_X11_halt rfl os_X11_halt (pmOK.cons mt_X11_scored rfl os_X11_scored (pmOK.cons mt_X12_halt rfl os_X12_halt (pmOK.cons mt_X12_isOver rfl os_X12_isOver (pmOK.cons mt_X1_goBy rfl os_X1_goBy (pmOK.cons mt_X1_isOver rfl os_X1_isOver (pmOK.nil))))))) mt_X11_halt rfl mt_X12_halt rfl (by decide +kernel) (by decide +kernel) (by decide +kernel)
theorem pr_lot : prOK mX11_lot mX12_lot 0 false := pr_ofS (md := [(19, 1, 1), (19, 3, 4), (19, 9, 9), (24, 0, 5), (33, 0, 4), (68, 0, 0), (68, 2, 3), (68, 36, 36), (68, 39, 39), (68, 41, 41), (68, 44, 44), (68, 46, 46), (68, 49, 49), (68, 51, 51), (68, 54, 54), (68, 56, 56), (68, 59, 59), (68, 61, 61), (68, 64, 64), (71, 0, 199)]) (sm := [smh_76, smh_74, smh_72, smh_70, smh_68, smh_66, smh_64, smh_62, smh_60, smh_58, smh_56, smh_54, smh_52, smh_50, smh_48, smh_46, sm_637, sm_639, sm_641, sm_643, sm_645, sm_647, sm_649, sm_651, sm_653, sm_655, sm_657, sm_659, sm_661, sm_663, sm_665, sm_667, sm_71]) (pm := [(255, 1, [(0, 20, 1, [])], ops_X11_lot), (82, 2, [], ops_X11_scored), (172, 1, [], ops_X12_byLot), (150, 1, [], ops_X12_isOver), (256, 1, [], ops_X12_lot), (33, 1, [], ops_X1_drawAct), (81, 2, [], ops_X1_goBy), (31, 1, [], ops_X1_isOver)]) (mi1 := 255) (nl1 := 1) (mi2 := 256) (nl2 := 1) (fuel := 103) (eqs := [(19, 1, 68, 0), (19, 4, 68, 3)]) (pre := [(68, 4, 0, 6), (19, 8, 10000000068, 4), (68, 1, 0, 16), (19, 2, 10000000068, 1), (68, 0, 0, 16), (19, 1, 10000000068, 0), (68, 3, (-2147483648), 2147483647), (19, 4, 10000000068, 3)]) (by decide +kernel) ((mA.cons (msh_76 WF_st) (mA.cons (msh_74 WF_st) (mA.cons (msh_72 WF_st) (mA.cons (msh_70 WF_st) (mA.cons (msh_68 WF_st) (mA.cons (msh_66 WF_st) (mA.cons (msh_64 WF_st) (mA.cons (msh_62 WF_st) (mA.cons (msh_60 WF_st) (mA.cons (msh_58 WF_st) (mA.cons (msh_56 WF_st) (mA.cons (msh_54 WF_st) (mA.cons (msh_52 WF_st) (mA.cons (msh_50 WF_st) (mA.cons (msh_48 WF_st) (mA.cons (msh_46 WF_st) (mA.cons (ms_637 pX_wf) (mA.cons (ms_639 pX_wf) (mA.cons (ms_641 pX_wf) (mA.cons (ms_643 pX_wf) (mA.cons (ms_645 pX_wf) (mA.cons (ms_647 pX_wf) (mA.cons (ms_649 pX_wf) (mA.cons (ms_651 pX_wf) (mA.cons (ms_653 pX_wf) (mA.cons (ms_655 pX_wf) (mA.cons (ms_657 pX_wf) (mA.cons (ms_659 pX_wf) (mA.cons (ms_661 pX_wf) (mA.cons (ms_663 pX_wf) (mA.cons (ms_665 pX_wf) (mA.cons (ms_667 pX_wf) (mA.cons (ms_71 WF_st) mA.nil)))))))))))))))))))))))))))))))))) (pmOK.cons mt_X11_lot rfl os_X11_lot (pmOK.cons mt_X11_scored rfl os_X11_scored (pmOK.cons mt_X12_byLot rfl os_X12_byLot (pmOK.cons mt_X12_isOver rfl os_X12_isOver (pmOK.cons mt_X12_lot rfl os_X12_lot (pmOK.cons mt_X1_drawAct rfl os_X1_drawAct (pmOK.cons mt_X1_goBy rfl os_X1_goBy (pmOK.cons mt_X1_isOver rfl os_X1_isOver (pmOK.nil))))))))) mt_X11_lot rfl mt_X12_lot rfl (by decide +kernel) (by decide +kernel) (by decide +kernel)
theorem pr_prove : prOK mX11_prove mX12_prove 1 true := pr_ofS (md := [(0, 7, 7), (1, 0, 11), (19, 1, 1), (19, 9, 9), (24, 0, 5), (33, 0, 4), (34, 0, 31), (52, 0, 4), (53, 0, 4), (54, 0, 4), (67, 19, 22), (67, 27, 27), (68, 0, 0), (68, 2, 3), (68, 6, 64), (70, 0, 64), (71, 0, 199), (76, 0, 259), (77, 0, 3), (78, 0, 3), (81, 0, 11)]) (sm := [sm_406, sm_387, sm_408, smg_318, smg_319, smg_320, smg_321, sm_686, sm_687, sm_688, sm_689, sm_690, sm_691, sm_692, sm_693, sm_694, sm_695, sm_73, smg_65, sm_77, sm_79, smg_336, smg_341, smg_345, smg_348, smg_316, smg_338, smg_343, smg_347, smg_350]) (pm := [(37, 3, [], ops_X11_isIn), (89, 1, [], ops_X11_isPlan), (259, 5, [(9, 0, 1, [])], ops_X11_prove), (163, 3, [], ops_X12_daysOf), (127, 3, [], ops_X12_in1), (150, 1, [], ops_X12_isOver), (165, 1, [], ops_X12_isPlan), (260, 3, [], ops_X12_prove), (91, 2, [], ops_X1_haltsOf)]) (mi1 := 259) (nl1 := 5) (mi2 := 260) (nl2 := 3) (fuel := 474) (eqs := [(19, 1, 68, 0), (19, 4, 68, 3)]) (pre := [(68, 4, 0, 6), (19, 8, 10000000068, 4), (68, 1, 0, 16), (19, 2, 10000000068, 1), (68, 0, 0, 16), (19, 1, 10000000068, 0), (68, 3, (-2147483648), 2147483647), (19, 4, 10000000068, 3), (68, 5, 0, 8)]) (by decide +kernel) ((mA.cons (ms_406 WF_st) (mA.cons (ms_387 WF_st) (mA.cons (ms_408 WF_st) (mA.cons (msg_318 pX_wf) (mA.cons (msg_319 pX_wf) (mA.cons (msg_320 pX_wf) (mA.cons (msg_321 pX_wf) (mA.cons (ms_686 pX_wf) (mA.cons (ms_687 pX_wf) (mA.cons (ms_688 pX_wf) (mA.cons (ms_689 pX_wf) (mA.cons (ms_690 pX_wf) (mA.cons (ms_691 pX_wf) (mA.cons (ms_692 pX_wf) (mA.cons (ms_693 pX_wf) (mA.cons (ms_694 pX_wf) (mA.cons (ms_695 pX_wf) (mA.cons (ms_73 WF_st) (mA.cons (msg_65 WF_st) (mA.cons (ms_77 WF_st) (mA.cons (ms_79 WF_st) (mA.cons (msg_336 WF_st) (mA.cons (msg_341 WF_st) (mA.cons (msg_345 WF_st) (mA.cons (msg_348 WF_st) (mA.cons (msg_316 pX_wf) (mA.cons (msg_338 pX_wf) (mA.cons (msg_343 pX_wf) (mA.cons (msg_347 pX_wf) (mA.cons (msg_350 WF_st) mA.nil))))))))))))))))))))))))))))))) (pmOK.cons mt_X11_isIn rfl os_X11_isIn (pmOK.cons mt_X11_isPlan rfl os_X11_isPlan (pmOK.cons mt_X11_prove rfl os_X11_prove (pmOK.cons mt_X12_daysOf rfl os_X12_daysOf (pmOK.cons mt_X12_in1 rfl os_X12_in1 (pmOK.cons mt_X12_isOver rfl os_X12_isOver (pmOK.cons mt_X12_isPlan rfl os_X12_isPlan (pmOK.cons mt_X12_prove rfl os_X12_prove (pmOK.cons mt_X1_haltsOf rfl os_X1_haltsOf (pmOK.nil)))))))))) mt_X11_prove rfl mt_X12_prove rfl (by decide +kernel) (by decide +kernel) (by decide +kernel)
def ga1_md : aMd := []
theorem ga1 (d : Nat) (a b c : Int32) (I : gI) (hi : aInv bT I) (ha : argsOK [(0, (-2147483648), (-1)), (0, (-2147483648), 2147483647), (0, (-2147483648), 2147483647)] ([a, b, c].map Value.int)) (hp : ∀ s ∈ ([] : List (Nat × Nat × Int × Int)), slotOK I s) (hE : ∀ x y J, aInv bT J → afr ga1_md I J → pEx true [] [] x y J → (true = true → y = x) ∧ WF J) : gg (d + 40) mX11_goAll 0 (gent mX11_goAll.2.2.1 (.ref 0 :: [a, b, c].map Value.int)) [] I (pbM (fun x J => gg (d + 40) mX12_goAll 0 (gent mX12_goAll.2.2.1 (.ref 67 :: [a, b, c].map Value.int)) [] J (prE true x))) := pr_box (xc := fun B K _ v w => pxt true [] [] B K v w) (E := fun _ => pEx true [] []) (pm := [(277, 8, [], ops_X11_goAll), (37, 3, [], ops_X11_isIn), (103, 1, [], ops_X11_isPlace), (278, 8, [], ops_X12_goAll), (127, 3, [], ops_X12_in1), (174, 1, [], ops_X12_isSheet)]) (mi1 := 277) (nl1 := 8) (mi2 := 278) (nl2 := 8) (fuel := 33) (by decide +kernel) (fun vs => pxt_ok) (pmOK.cons mt_X11_goAll rfl os_X11_goAll (pmOK.cons mt_X11_isIn rfl os_X11_isIn (pmOK.cons mt_X11_isPlace rfl os_X11_isPlace (pmOK.cons mt_X12_goAll rfl os_X12_goAll (pmOK.cons mt_X12_in1 rfl os_X12_in1 (pmOK.cons mt_X12_isSheet rfl os_X12_isSheet (pmOK.nil))))))) mt_X11_goAll rfl mt_X12_goAll rfl d [a, b, c] I ha hi hp hE
def ga2_md : aMd := []
theorem ga2 (d : Nat) (a b c : Int32) (I : gI) (hi : aInv bT I) (ha : argsOK [(0, 4, 2147483647), (0, (-2147483648), 2147483647), (0, (-2147483648), 2147483647)] ([a, b, c].map Value.int)) (hp : ∀ s ∈ ([] : List (Nat × Nat × Int × Int)), slotOK I s) (hE : ∀ x y J, aInv bT J → afr ga2_md I J → pEx true [] [] x y J → (true = true → y = x) ∧ WF J) : gg (d + 40) mX11_goAll 0 (gent mX11_goAll.2.2.1 (.ref 0 :: [a, b, c].map Value.int)) [] I (pbM (fun x J => gg (d + 40) mX12_goAll 0 (gent mX12_goAll.2.2.1 (.ref 67 :: [a, b, c].map Value.int)) [] J (prE true x))) := pr_box (xc := fun B K _ v w => pxt true [] [] B K v w) (E := fun _ => pEx true [] []) (pm := [(277, 8, [], ops_X11_goAll), (37, 3, [], ops_X11_isIn), (103, 1, [], ops_X11_isPlace), (278, 8, [], ops_X12_goAll), (127, 3, [], ops_X12_in1), (174, 1, [], ops_X12_isSheet)]) (mi1 := 277) (nl1 := 8) (mi2 := 278) (nl2 := 8) (fuel := 39) (by decide +kernel) (fun vs => pxt_ok) (pmOK.cons mt_X11_goAll rfl os_X11_goAll (pmOK.cons mt_X11_isIn rfl os_X11_isIn (pmOK.cons mt_X11_isPlace rfl os_X11_isPlace (pmOK.cons mt_X12_goAll rfl os_X12_goAll (pmOK.cons mt_X12_in1 rfl os_X12_in1 (pmOK.cons mt_X12_isSheet rfl os_X12_isSheet (pmOK.nil))))))) mt_X11_goAll rfl mt_X12_goAll rfl d [a, b, c] I ha hi hp hE
def ga3_md : aMd := []
theorem ga3 (d : Nat) (a b c : Int32) (I : gI) (hi : aInv bT I) (ha : argsOK [(0, 0, 3), (0, (-2147483648), 2147483647), (0, (-2147483648), (-1))] ([a, b, c].map Value.int)) (hp : ∀ s ∈ ([] : List (Nat × Nat × Int × Int)), slotOK I s) (hE : ∀ x y J, aInv bT J → afr ga3_md I J → pEx true [] [] x y J → (true = true → y = x) ∧ WF J) : gg (d + 40) mX11_goAll 0 (gent mX11_goAll.2.2.1 (.ref 0 :: [a, b, c].map Value.int)) [] I (pbM (fun x J => gg (d + 40) mX12_goAll 0 (gent mX12_goAll.2.2.1 (.ref 67 :: [a, b, c].map Value.int)) [] J (prE true x))) := pr_box (xc := fun B K _ v w => pxt true [] [] B K v w) (E := fun _ => pEx true [] []) (pm := [(277, 8, [], ops_X11_goAll), (37, 3, [], ops_X11_isIn), (103, 1, [], ops_X11_isPlace), (278, 8, [], ops_X12_goAll), (127, 3, [], ops_X12_in1), (174, 1, [], ops_X12_isSheet)]) (mi1 := 277) (nl1 := 8) (mi2 := 278) (nl2 := 8) (fuel := 61) (by decide +kernel) (fun vs => pxt_ok) (pmOK.cons mt_X11_goAll rfl os_X11_goAll (pmOK.cons mt_X11_isIn rfl os_X11_isIn (pmOK.cons mt_X11_isPlace rfl os_X11_isPlace (pmOK.cons mt_X12_goAll rfl os_X12_goAll (pmOK.cons mt_X12_in1 rfl os_X12_in1 (pmOK.cons mt_X12_isSheet rfl os_X12_isSheet (pmOK.nil))))))) mt_X11_goAll rfl mt_X12_goAll rfl d [a, b, c] I ha hi hp hE
def ga4_md : aMd := []
theorem ga4 (d : Nat) (a b c : Int32) (I : gI) (hi : aInv bT I) (ha : argsOK [(0, 0, 3), (0, (-2147483648), 2147483647), (0, 21, 2147483647)] ([a, b, c].map Value.int)) (hp : ∀ s ∈ ([] : List (Nat × Nat × Int × Int)), slotOK I s) (hE : ∀ x y J, aInv bT J → afr ga4_md I J → pEx true [] [] x y J → (true = true → y = x) ∧ WF J) : gg (d + 40) mX11_goAll 0 (gent mX11_goAll.2.2.1 (.ref 0 :: [a, b, c].map Value.int)) [] I (pbM (fun x J => gg (d + 40) mX12_goAll 0 (gent mX12_goAll.2.2.1 (.ref 67 :: [a, b, c].map Value.int)) [] J (prE true x))) := pr_box (xc := fun B K _ v w => pxt true [] [] B K v w) (E := fun _ => pEx true [] []) (pm := [(277, 8, [], ops_X11_goAll), (37, 3, [], ops_X11_isIn), (103, 1, [], ops_X11_isPlace), (278, 8, [], ops_X12_goAll), (127, 3, [], ops_X12_in1), (174, 1, [], ops_X12_isSheet)]) (mi1 := 277) (nl1 := 8) (mi2 := 278) (nl2 := 8) (fuel := 67) (by decide +kernel) (fun vs => pxt_ok) (pmOK.cons mt_X11_goAll rfl os_X11_goAll (pmOK.cons mt_X11_isIn rfl os_X11_isIn (pmOK.cons mt_X11_isPlace rfl os_X11_isPlace (pmOK.cons mt_X12_goAll rfl os_X12_goAll (pmOK.cons mt_X12_in1 rfl os_X12_in1 (pmOK.cons mt_X12_isSheet rfl os_X12_isSheet (pmOK.nil))))))) mt_X11_goAll rfl mt_X12_goAll rfl d [a, b, c] I ha hi hp hE
def ga5_0_md : aMd := []
theorem ga5_0 (d : Nat) (a b c : Int32) (I : gI) (hi : aInv bT I) (ha : argsOK [(0, 0, 0), (0, (-2147483648), 2147483647), (0, 0, 20)] ([a, b, c].map Value.int)) (hp : ∀ s ∈ ([(82, 0, (-1), (-1)), (2, 0, 10000000082, 0)] : List (Nat × Nat × Int × Int)), slotOK I s) (hE : ∀ x y J, aInv bT J → afr ga5_0_md I J → pEx true [] [] x y J → (true = true → y = x) ∧ WF J) : gg (d + 40) mX11_goAll 0 (gent mX11_goAll.2.2.1 (.ref 0 :: [a, b, c].map Value.int)) [] I (pbM (fun x J => gg (d + 40) mX12_goAll 0 (gent mX12_goAll.2.2.1 (.ref 67 :: [a, b, c].map Value.int)) [] J (prE true x))) := pr_box (xc := fun B K _ v w => pxt true [] [] B K v w) (E := fun _ => pEx true [] []) (pm := [(277, 8, [], ops_X11_goAll), (37, 3, [], ops_X11_isIn), (103, 1, [], ops_X11_isPlace), (104, 3, [], ops_X11_refusalOf), (278, 8, [], ops_X12_goAll), (127, 3, [], ops_X12_in1), (174, 1, [], ops_X12_isSheet), (175, 3, [], ops_X12_lacks)]) (mi1 := 277) (nl1 := 8) (mi2 := 278) (nl2 := 8) (fuel := 99) (by decide +kernel) (fun vs => pxt_ok) (pmOK.cons mt_X11_goAll rfl os_X11_goAll (pmOK.cons mt_X11_isIn rfl os_X11_isIn (pmOK.cons mt_X11_isPlace rfl os_X11_isPlace (pmOK.cons mt_X11_refusalOf rfl os_X11_refusalOf (pmOK.cons mt_X12_goAll rfl os_X12_goAll (pmOK.cons mt_X12_in1 rfl os_X12_in1 (pmOK.cons mt_X12_isSheet rfl os_X12_isSheet (pmOK.cons mt_X12_lacks rfl os_X12_lacks (pmOK.nil))))))))) mt_X11_goAll rfl mt_X12_goAll rfl d [a, b, c] I ha hi hp hE
def ga6_0_md : aMd := []
theorem ga6_0 (d : Nat) (a b c : Int32) (I : gI) (hi : aInv bT I) (ha : argsOK [(0, 0, 0), (0, (-2147483648), 2147483647), (0, 0, 20)] ([a, b, c].map Value.int)) (hp : ∀ s ∈ ([(82, 0, 1, 4), (2, 0, 10000000082, 0)] : List (Nat × Nat × Int × Int)), slotOK I s) (hE : ∀ x y J, aInv bT J → afr ga6_0_md I J → pEx true [] [] x y J → (true = true → y = x) ∧ WF J) : gg (d + 40) mX11_goAll 0 (gent mX11_goAll.2.2.1 (.ref 0 :: [a, b, c].map Value.int)) [] I (pbM (fun x J => gg (d + 40) mX12_goAll 0 (gent mX12_goAll.2.2.1 (.ref 67 :: [a, b, c].map Value.int)) [] J (prE true x))) := pr_box (xc := fun B K _ v w => pxt true [] [] B K v w) (E := fun _ => pEx true [] []) (pm := [(277, 8, [], ops_X11_goAll), (37, 3, [], ops_X11_isIn), (103, 1, [], ops_X11_isPlace), (104, 3, [], ops_X11_refusalOf), (278, 8, [], ops_X12_goAll), (127, 3, [], ops_X12_in1), (174, 1, [], ops_X12_isSheet), (175, 3, [], ops_X12_lacks)]) (mi1 := 277) (nl1 := 8) (mi2 := 278) (nl2 := 8) (fuel := 111) (by decide +kernel) (fun vs => pxt_ok) (pmOK.cons mt_X11_goAll rfl os_X11_goAll (pmOK.cons mt_X11_isIn rfl os_X11_isIn (pmOK.cons mt_X11_isPlace rfl os_X11_isPlace (pmOK.cons mt_X11_refusalOf rfl os_X11_refusalOf (pmOK.cons mt_X12_goAll rfl os_X12_goAll (pmOK.cons mt_X12_in1 rfl os_X12_in1 (pmOK.cons mt_X12_isSheet rfl os_X12_isSheet (pmOK.cons mt_X12_lacks rfl os_X12_lacks (pmOK.nil))))))))) mt_X11_goAll rfl mt_X12_goAll rfl d [a, b, c] I ha hi hp hE
def ga7_0_md : aMd := []
theorem ga7_0 (d : Nat) (a b c : Int32) (I : gI) (hi : aInv bT I) (ha : argsOK [(0, 0, 0), (0, (-2147483648), (-1)), (0, 0, 20)] ([a, b, c].map Value.int)) (hp : ∀ s ∈ ([(82, 0, 0, 0), (2, 0, 10000000082, 0)] : List (Nat × Nat × Int × Int)), slotOK I s) (hE : ∀ x y J, aInv bT J → afr ga7_0_md I J → pEx true [] [] x y J → (true = true → y = x) ∧ WF J) : gg (d + 40) mX11_goAll 0 (gent mX11_goAll.2.2.1 (.ref 0 :: [a, b, c].map Value.int)) [] I (pbM (fun x J => gg (d + 40) mX12_goAll 0 (gent mX12_goAll.2.2.1 (.ref 67 :: [a, b, c].map Value.int)) [] J (prE true x))) := pr_box (xc := fun B K _ v w => pxt true [] [] B K v w) (E := fun _ => pEx true [] []) (pm := [(277, 8, [], ops_X11_goAll), (37, 3, [], ops_X11_isIn), (105, 3, [], ops_X11_isItem), (103, 1, [], ops_X11_isPlace), (104, 3, [], ops_X11_refusalOf), (278, 8, [], ops_X12_goAll), (127, 3, [], ops_X12_in1), (176, 4, [], ops_X12_isItem), (174, 1, [], ops_X12_isSheet), (175, 3, [], ops_X12_lacks)]) (mi1 := 277) (nl1 := 8) (mi2 := 278) (nl2 := 8) (fuel := 157) (by decide +kernel) (fun vs => pxt_ok) (pmOK.cons mt_X11_goAll rfl os_X11_goAll (pmOK.cons mt_X11_isIn rfl os_X11_isIn (pmOK.cons mt_X11_isItem rfl os_X11_isItem (pmOK.cons mt_X11_isPlace rfl os_X11_isPlace (pmOK.cons mt_X11_refusalOf rfl os_X11_refusalOf (pmOK.cons mt_X12_goAll rfl os_X12_goAll (pmOK.cons mt_X12_in1 rfl os_X12_in1 (pmOK.cons mt_X12_isItem rfl os_X12_isItem (pmOK.cons mt_X12_isSheet rfl os_X12_isSheet (pmOK.cons mt_X12_lacks rfl os_X12_lacks (pmOK.nil))))))))))) mt_X11_goAll rfl mt_X12_goAll rfl d [a, b, c] I ha hi hp hE
def ga5_1_md : aMd := []
theorem ga5_1 (d : Nat) (a b c : Int32) (I : gI) (hi : aInv bT I) (ha : argsOK [(0, 1, 1), (0, (-2147483648), 2147483647), (0, 0, 20)] ([a, b, c].map Value.int)) (hp : ∀ s ∈ ([(82, 1, (-1), (-1)), (2, 1, 10000000082, 1)] : List (Nat × Nat × Int × Int)), slotOK I s) (hE : ∀ x y J, aInv bT J → afr ga5_1_md I J → pEx true [] [] x y J → (true = true → y = x) ∧ WF J) : gg (d + 40) mX11_goAll 0 (gent mX11_goAll.2.2.1 (.ref 0 :: [a, b, c].map Value.int)) [] I (pbM (fun x J => gg (d + 40) mX12_goAll 0 (gent mX12_goAll.2.2.1 (.ref 67 :: [a, b, c].map Value.int)) [] J (prE true x))) := pr_box (xc := fun B K _ v w => pxt true [] [] B K v w) (E := fun _ => pEx true [] []) (pm := [(277, 8, [], ops_X11_goAll), (37, 3, [], ops_X11_isIn), (103, 1, [], ops_X11_isPlace), (104, 3, [], ops_X11_refusalOf), (278, 8, [], ops_X12_goAll), (127, 3, [], ops_X12_in1), (174, 1, [], ops_X12_isSheet), (175, 3, [], ops_X12_lacks)]) (mi1 := 277) (nl1 := 8) (mi2 := 278) (nl2 := 8) (fuel := 99) (by decide +kernel) (fun vs => pxt_ok) (pmOK.cons mt_X11_goAll rfl os_X11_goAll (pmOK.cons mt_X11_isIn rfl os_X11_isIn (pmOK.cons mt_X11_isPlace rfl os_X11_isPlace (pmOK.cons mt_X11_refusalOf rfl os_X11_refusalOf (pmOK.cons mt_X12_goAll rfl os_X12_goAll (pmOK.cons mt_X12_in1 rfl os_X12_in1 (pmOK.cons mt_X12_isSheet rfl os_X12_isSheet (pmOK.cons mt_X12_lacks rfl os_X12_lacks (pmOK.nil))))))))) mt_X11_goAll rfl mt_X12_goAll rfl d [a, b, c] I ha hi hp hE
def ga6_1_md : aMd := []
theorem ga6_1 (d : Nat) (a b c : Int32) (I : gI) (hi : aInv bT I) (ha : argsOK [(0, 1, 1), (0, (-2147483648), 2147483647), (0, 0, 20)] ([a, b, c].map Value.int)) (hp : ∀ s ∈ ([(82, 1, 1, 4), (2, 1, 10000000082, 1)] : List (Nat × Nat × Int × Int)), slotOK I s) (hE : ∀ x y J, aInv bT J → afr ga6_1_md I J → pEx true [] [] x y J → (true = true → y = x) ∧ WF J) : gg (d + 40) mX11_goAll 0 (gent mX11_goAll.2.2.1 (.ref 0 :: [a, b, c].map Value.int)) [] I (pbM (fun x J => gg (d + 40) mX12_goAll 0 (gent mX12_goAll.2.2.1 (.ref 67 :: [a, b, c].map Value.int)) [] J (prE true x))) := pr_box (xc := fun B K _ v w => pxt true [] [] B K v w) (E := fun _ => pEx true [] []) (pm := [(277, 8, [], ops_X11_goAll), (37, 3, [], ops_X11_isIn), (103, 1, [], ops_X11_isPlace), (104, 3, [], ops_X11_refusalOf), (278, 8, [], ops_X12_goAll), (127, 3, [], ops_X12_in1), (174, 1, [], ops_X12_isSheet), (175, 3, [], ops_X12_lacks)]) (mi1 := 277) (nl1 := 8) (mi2 := 278) (nl2 := 8) (fuel := 111) (by decide +kernel) (fun vs => pxt_ok) (pmOK.cons mt_X11_goAll rfl os_X11_goAll (pmOK.cons mt_X11_isIn rfl os_X11_isIn (pmOK.cons mt_X11_isPlace rfl os_X11_isPlace (pmOK.cons mt_X11_refusalOf rfl os_X11_refusalOf (pmOK.cons mt_X12_goAll rfl os_X12_goAll (pmOK.cons mt_X12_in1 rfl os_X12_in1 (pmOK.cons mt_X12_isSheet rfl os_X12_isSheet (pmOK.cons mt_X12_lacks rfl os_X12_lacks (pmOK.nil))))))))) mt_X11_goAll rfl mt_X12_goAll rfl d [a, b, c] I ha hi hp hE
def ga7_1_md : aMd := []
theorem ga7_1 (d : Nat) (a b c : Int32) (I : gI) (hi : aInv bT I) (ha : argsOK [(0, 1, 1), (0, (-2147483648), (-1)), (0, 0, 20)] ([a, b, c].map Value.int)) (hp : ∀ s ∈ ([(82, 1, 0, 0), (2, 1, 10000000082, 1)] : List (Nat × Nat × Int × Int)), slotOK I s) (hE : ∀ x y J, aInv bT J → afr ga7_1_md I J → pEx true [] [] x y J → (true = true → y = x) ∧ WF J) : gg (d + 40) mX11_goAll 0 (gent mX11_goAll.2.2.1 (.ref 0 :: [a, b, c].map Value.int)) [] I (pbM (fun x J => gg (d + 40) mX12_goAll 0 (gent mX12_goAll.2.2.1 (.ref 67 :: [a, b, c].map Value.int)) [] J (prE true x))) := pr_box (xc := fun B K _ v w => pxt true [] [] B K v w) (E := fun _ => pEx true [] []) (pm := [(277, 8, [], ops_X11_goAll), (37, 3, [], ops_X11_isIn), (105, 3, [], ops_X11_isItem), (103, 1, [], ops_X11_isPlace), (104, 3, [], ops_X11_refusalOf), (278, 8, [], ops_X12_goAll), (127, 3, [], ops_X12_in1), (176, 4, [], ops_X12_isItem), (174, 1, [], ops_X12_isSheet), (175, 3, [], ops_X12_lacks)]) (mi1 := 277) (nl1 := 8) (mi2 := 278) (nl2 := 8) (fuel := 157) (by decide +kernel) (fun vs => pxt_ok) (pmOK.cons mt_X11_goAll rfl os_X11_goAll (pmOK.cons mt_X11_isIn rfl os_X11_isIn (pmOK.cons mt_X11_isItem rfl os_X11_isItem (pmOK.cons mt_X11_isPlace rfl os_X11_isPlace (pmOK.cons mt_X11_refusalOf rfl os_X11_refusalOf (pmOK.cons mt_X12_goAll rfl os_X12_goAll (pmOK.cons mt_X12_in1 rfl os_X12_in1 (pmOK.cons mt_X12_isItem rfl os_X12_isItem (pmOK.cons mt_X12_isSheet rfl os_X12_isSheet (pmOK.cons mt_X12_lacks rfl os_X12_lacks (pmOK.nil))))))))))) mt_X11_goAll rfl mt_X12_goAll rfl d [a, b, c] I ha hi hp hE
def ga5_2_md : aMd := []
theorem ga5_2 (d : Nat) (a b c : Int32) (I : gI) (hi : aInv bT I) (ha : argsOK [(0, 2, 2), (0, (-2147483648), 2147483647), (0, 0, 20)] ([a, b, c].map Value.int)) (hp : ∀ s ∈ ([(82, 2, (-1), (-1)), (2, 2, 10000000082, 2)] : List (Nat × Nat × Int × Int)), slotOK I s) (hE : ∀ x y J, aInv bT J → afr ga5_2_md I J → pEx true [] [] x y J → (true = true → y = x) ∧ WF J) : gg (d + 40) mX11_goAll 0 (gent mX11_goAll.2.2.1 (.ref 0 :: [a, b, c].map Value.int)) [] I (pbM (fun x J => gg (d + 40) mX12_goAll 0 (gent mX12_goAll.2.2.1 (.ref 67 :: [a, b, c].map Value.int)) [] J (prE true x))) := pr_box (xc := fun B K _ v w => pxt true [] [] B K v w) (E := fun _ => pEx true [] []) (pm := [(277, 8, [], ops_X11_goAll), (37, 3, [], ops_X11_isIn), (103, 1, [], ops_X11_isPlace), (104, 3, [], ops_X11_refusalOf), (278, 8, [], ops_X12_goAll), (127, 3, [], ops_X12_in1), (174, 1, [], ops_X12_isSheet), (175, 3, [], ops_X12_lacks)]) (mi1 := 277) (nl1 := 8) (mi2 := 278) (nl2 := 8) (fuel := 99) (by decide +kernel) (fun vs => pxt_ok) (pmOK.cons mt_X11_goAll rfl os_X11_goAll (pmOK.cons mt_X11_isIn rfl os_X11_isIn (pmOK.cons mt_X11_isPlace rfl os_X11_isPlace (pmOK.cons mt_X11_refusalOf rfl os_X11_refusalOf (pmOK.cons mt_X12_goAll rfl os_X12_goAll (pmOK.cons mt_X12_in1 rfl os_X12_in1 (pmOK.cons mt_X12_isSheet rfl os_X12_isSheet (pmOK.cons mt_X12_lacks rfl os_X12_lacks (pmOK.nil))))))))) mt_X11_goAll rfl mt_X12_goAll rfl d [a, b, c] I ha hi hp hE
def ga6_2_md : aMd := []
theorem ga6_2 (d : Nat) (a b c : Int32) (I : gI) (hi : aInv bT I) (ha : argsOK [(0, 2, 2), (0, (-2147483648), 2147483647), (0, 0, 20)] ([a, b, c].map Value.int)) (hp : ∀ s ∈ ([(82, 2, 1, 4), (2, 2, 10000000082, 2)] : List (Nat × Nat × Int × Int)), slotOK I s) (hE : ∀ x y J, aInv bT J → afr ga6_2_md I J → pEx true [] [] x y J → (true = true → y = x) ∧ WF J) : gg (d + 40) mX11_goAll 0 (gent mX11_goAll.2.2.1 (.ref 0 :: [a, b, c].map Value.int)) [] I (pbM (fun x J => gg (d + 40) mX12_goAll 0 (gent mX12_goAll.2.2.1 (.ref 67 :: [a, b, c].map Value.int)) [] J (prE true x))) := pr_box (xc := fun B K _ v w => pxt true [] [] B K v w) (E := fun _ => pEx true [] []) (pm := [(277, 8, [], ops_X11_goAll), (37, 3, [], ops_X11_isIn), (103, 1, [], ops_X11_isPlace), (104, 3, [], ops_X11_refusalOf), (278, 8, [], ops_X12_goAll), (127, 3, [], ops_X12_in1), (174, 1, [], ops_X12_isSheet), (175, 3, [], ops_X12_lacks)]) (mi1 := 277) (nl1 := 8) (mi2 := 278) (nl2 := 8) (fuel := 111) (by decide +kernel) (fun vs => pxt_ok) (pmOK.cons mt_X11_goAll rfl os_X11_goAll (pmOK.cons mt_X11_isIn rfl os_X11_isIn (pmOK.cons mt_X11_isPlace rfl os_X11_isPlace (pmOK.cons mt_X11_refusalOf rfl os_X11_refusalOf (pmOK.cons mt_X12_goAll rfl os_X12_goAll (pmOK.cons mt_X12_in1 rfl os_X12_in1 (pmOK.cons mt_X12_isSheet rfl os_X12_isSheet (pmOK.cons mt_X12_lacks rfl os_X12_lacks (pmOK.nil))))))))) mt_X11_goAll rfl mt_X12_goAll rfl d [a, b, c] I ha hi hp hE
def ga7_2_md : aMd := []
theorem ga7_2 (d : Nat) (a b c : Int32) (I : gI) (hi : aInv bT I) (ha : argsOK [(0, 2, 2), (0, (-2147483648), (-1)), (0, 0, 20)] ([a, b, c].map Value.int)) (hp : ∀ s ∈ ([(82, 2, 0, 0), (2, 2, 10000000082, 2)] : List (Nat × Nat × Int × Int)), slotOK I s) (hE : ∀ x y J, aInv bT J → afr ga7_2_md I J → pEx true [] [] x y J → (true = true → y = x) ∧ WF J) : gg (d + 40) mX11_goAll 0 (gent mX11_goAll.2.2.1 (.ref 0 :: [a, b, c].map Value.int)) [] I (pbM (fun x J => gg (d + 40) mX12_goAll 0 (gent mX12_goAll.2.2.1 (.ref 67 :: [a, b, c].map Value.int)) [] J (prE true x))) := pr_box (xc := fun B K _ v w => pxt true [] [] B K v w) (E := fun _ => pEx true [] []) (pm := [(277, 8, [], ops_X11_goAll), (37, 3, [], ops_X11_isIn), (105, 3, [], ops_X11_isItem), (103, 1, [], ops_X11_isPlace), (104, 3, [], ops_X11_refusalOf), (278, 8, [], ops_X12_goAll), (127, 3, [], ops_X12_in1), (176, 4, [], ops_X12_isItem), (174, 1, [], ops_X12_isSheet), (175, 3, [], ops_X12_lacks)]) (mi1 := 277) (nl1 := 8) (mi2 := 278) (nl2 := 8) (fuel := 157) (by decide +kernel) (fun vs => pxt_ok) (pmOK.cons mt_X11_goAll rfl os_X11_goAll (pmOK.cons mt_X11_isIn rfl os_X11_isIn (pmOK.cons mt_X11_isItem rfl os_X11_isItem (pmOK.cons mt_X11_isPlace rfl os_X11_isPlace (pmOK.cons mt_X11_refusalOf rfl os_X11_refusalOf (pmOK.cons mt_X12_goAll rfl os_X12_goAll (pmOK.cons mt_X12_in1 rfl os_X12_in1 (pmOK.cons mt_X12_isItem rfl os_X12_isItem (pmOK.cons mt_X12_isSheet rfl os_X12_isSheet (pmOK.cons mt_X12_lacks rfl os_X12_lacks (pmOK.nil))))))))))) mt_X11_goAll rfl mt_X12_goAll rfl d [a, b, c] I ha hi hp hE
def ga5_3_md : aMd := []
theorem ga5_3 (d : Nat) (a b c : Int32) (I : gI) (hi : aInv bT I) (ha : argsOK [(0, 3, 3), (0, (-2147483648), 2147483647), (0, 0, 20)] ([a, b, c].map Value.int)) (hp : ∀ s ∈ ([(82, 3, (-1), (-1)), (2, 3, 10000000082, 3)] : List (Nat × Nat × Int × Int)), slotOK I s) (hE : ∀ x y J, aInv bT J → afr ga5_3_md I J → pEx true [] [] x y J → (true = true → y = x) ∧ WF J) : gg (d + 40) mX11_goAll 0 (gent mX11_goAll.2.2.1 (.ref 0 :: [a, b, c].map Value.int)) [] I (pbM (fun x J => gg (d + 40) mX12_goAll 0 (gent mX12_goAll.2.2.1 (.ref 67 :: [a, b, c].map Value.int)) [] J (prE true x))) := pr_box (xc := fun B K _ v w => pxt true [] [] B K v w) (E := fun _ => pEx true [] []) (pm := [(277, 8, [], ops_X11_goAll), (37, 3, [], ops_X11_isIn), (103, 1, [], ops_X11_isPlace), (104, 3, [], ops_X11_refusalOf), (278, 8, [], ops_X12_goAll), (127, 3, [], ops_X12_in1), (174, 1, [], ops_X12_isSheet), (175, 3, [], ops_X12_lacks)]) (mi1 := 277) (nl1 := 8) (mi2 := 278) (nl2 := 8) (fuel := 99) (by decide +kernel) (fun vs => pxt_ok) (pmOK.cons mt_X11_goAll rfl os_X11_goAll (pmOK.cons mt_X11_isIn rfl os_X11_isIn (pmOK.cons mt_X11_isPlace rfl os_X11_isPlace (pmOK.cons mt_X11_refusalOf rfl os_X11_refusalOf (pmOK.cons mt_X12_goAll rfl os_X12_goAll (pmOK.cons mt_X12_in1 rfl os_X12_in1 (pmOK.cons mt_X12_isSheet rfl os_X12_isSheet (pmOK.cons mt_X12_lacks rfl os_X12_lacks (pmOK.nil))))))))) mt_X11_goAll rfl mt_X12_goAll rfl d [a, b, c] I ha hi hp hE
def ga6_3_md : aMd := []
theorem ga6_3 (d : Nat) (a b c : Int32) (I : gI) (hi : aInv bT I) (ha : argsOK [(0, 3, 3), (0, (-2147483648), 2147483647), (0, 0, 20)] ([a, b, c].map Value.int)) (hp : ∀ s ∈ ([(82, 3, 1, 4), (2, 3, 10000000082, 3)] : List (Nat × Nat × Int × Int)), slotOK I s) (hE : ∀ x y J, aInv bT J → afr ga6_3_md I J → pEx true [] [] x y J → (true = true → y = x) ∧ WF J) : gg (d + 40) mX11_goAll 0 (gent mX11_goAll.2.2.1 (.ref 0 :: [a, b, c].map Value.int)) [] I (pbM (fun x J => gg (d + 40) mX12_goAll 0 (gent mX12_goAll.2.2.1 (.ref 67 :: [a, b, c].map Value.int)) [] J (prE true x))) := pr_box (xc := fun B K _ v w => pxt true [] [] B K v w) (E := fun _ => pEx true [] []) (pm := [(277, 8, [], ops_X11_goAll), (37, 3, [], ops_X11_isIn), (103, 1, [], ops_X11_isPlace), (104, 3, [], ops_X11_refusalOf), (278, 8, [], ops_X12_goAll), (127, 3, [], ops_X12_in1), (174, 1, [], ops_X12_isSheet), (175, 3, [], ops_X12_lacks)]) (mi1 := 277) (nl1 := 8) (mi2 := 278) (nl2 := 8) (fuel := 111) (by decide +kernel) (fun vs => pxt_ok) (pmOK.cons mt_X11_goAll rfl os_X11_goAll (pmOK.cons mt_X11_isIn rfl os_X11_isIn (pmOK.cons mt_X11_isPlace rfl os_X11_isPlace (pmOK.cons mt_X11_refusalOf rfl os_X11_refusalOf (pmOK.cons mt_X12_goAll rfl os_X12_goAll (pmOK.cons mt_X12_in1 rfl os_X12_in1 (pmOK.cons mt_X12_isSheet rfl os_X12_isSheet (pmOK.cons mt_X12_lacks rfl os_X12_lacks (pmOK.nil))))))))) mt_X11_goAll rfl mt_X12_goAll rfl d [a, b, c] I ha hi hp hE
def ga7_3_md : aMd := []
theorem ga7_3 (d : Nat) (a b c : Int32) (I : gI) (hi : aInv bT I) (ha : argsOK [(0, 3, 3), (0, (-2147483648), (-1)), (0, 0, 20)] ([a, b, c].map Value.int)) (hp : ∀ s ∈ ([(82, 3, 0, 0), (2, 3, 10000000082, 3)] : List (Nat × Nat × Int × Int)), slotOK I s) (hE : ∀ x y J, aInv bT J → afr ga7_3_md I J → pEx true [] [] x y J → (true = true → y = x) ∧ WF J) : gg (d + 40) mX11_goAll 0 (gent mX11_goAll.2.2.1 (.ref 0 :: [a, b, c].map Value.int)) [] I (pbM (fun x J => gg (d + 40) mX12_goAll 0 (gent mX12_goAll.2.2.1 (.ref 67 :: [a, b, c].map Value.int)) [] J (prE true x))) := pr_box (xc := fun B K _ v w => pxt true [] [] B K v w) (E := fun _ => pEx true [] []) (pm := [(277, 8, [], ops_X11_goAll), (37, 3, [], ops_X11_isIn), (105, 3, [], ops_X11_isItem), (103, 1, [], ops_X11_isPlace), (104, 3, [], ops_X11_refusalOf), (278, 8, [], ops_X12_goAll), (127, 3, [], ops_X12_in1), (176, 4, [], ops_X12_isItem), (174, 1, [], ops_X12_isSheet), (175, 3, [], ops_X12_lacks)]) (mi1 := 277) (nl1 := 8) (mi2 := 278) (nl2 := 8) (fuel := 157) (by decide +kernel) (fun vs => pxt_ok) (pmOK.cons mt_X11_goAll rfl os_X11_goAll (pmOK.cons mt_X11_isIn rfl os_X11_isIn (pmOK.cons mt_X11_isItem rfl os_X11_isItem (pmOK.cons mt_X11_isPlace rfl os_X11_isPlace (pmOK.cons mt_X11_refusalOf rfl os_X11_refusalOf (pmOK.cons mt_X12_goAll rfl os_X12_goAll (pmOK.cons mt_X12_in1 rfl os_X12_in1 (pmOK.cons mt_X12_isItem rfl os_X12_isItem (pmOK.cons mt_X12_isSheet rfl os_X12_isSheet (pmOK.cons mt_X12_lacks rfl os_X12_lacks (pmOK.nil))))))))))) mt_X11_goAll rfl mt_X12_goAll rfl d [a, b, c] I ha hi hp hE
theorem mdGX_o {c j : Nat} (hc : c < 19 ∨ 35 ≤ c) : amodr mdGX c j j = false := by
  cases hm : amodr mdGX c j j with
  | false => rfl
  | true =>
    obtain ⟨p, h1, h2⟩ := List.any_eq_true.mp hm
    have h3 : (mdGX.all (fun r => decide (19 ≤ r.1) && decide (r.1 < 35))) = true := by decide +kernel
    have h4 := List.all_eq_true.mp h3 p h1
    simp only [Bool.and_eq_true, decide_eq_true_eq] at h2 h4
    omega
theorem goF_eq {it it' : Nat → Int} {cn en sz i : Int} (h : ∀ k : Nat, i + (k : Int) < sz → it k = it' k) : ∀ (g k : Nat) (x : Int), goF it cn en sz i g k x = goF it' cn en sz i g k x
  | 0, _, _ => rfl
  | g + 1, k, x => by
    simp only [goF]
    by_cases hk : i + (k : Int) < sz
    · rw [if_pos hk, if_pos hk, h k hk]
      exact goF_eq h g (k + 1) _
    · rw [if_neg hk, if_neg hk]
theorem pr_goAll : prOK mX11_goAll mX12_goAll 3 false := by
  intro d xs I hn hi hw
  match xs, hn with
  | [a, b, c], _ =>
    have ra : (-2147483648 : Int) ≤ a.toInt ∧ a.toInt ≤ 2147483647 := a_rng a
    have rb : (-2147483648 : Int) ≤ b.toInt ∧ b.toInt ≤ 2147483647 := a_rng b
    have rc : (-2147483648 : Int) ≤ c.toInt ∧ c.toInt ≤ 2147483647 := a_rng c
    have cv : ∀ {r : Option Value} {hh : gH}, pbM (fun x J => gg (d + 40) mX12_goAll 0 (gent mX12_goAll.2.2.1 (.ref 67 :: [a, b, c].map Value.int)) [] J (prE true x)) r hh → pbM (fun x J => gg (d + 40) mX12_goAll 0 (gent mX12_goAll.2.2.1 (.ref 67 :: [a, b, c].map Value.int)) [] J (prE false x)) r hh := fun {r hh} ⟨x, J, e1, e2, g⟩ => ⟨x, J, e1, e2, G_mono g (fun _ _ ⟨y, J2, e3, e4, _, i1, i2⟩ => ⟨y, J2, e3, e4, (fun z => by cases z), i1, i2⟩)⟩
    have un : ∀ {md : aMd} {x y : Int32} {J : gI}, md = [] → afr md I J → pEx true [] [] x y J → (true = true → y = x) ∧ WF J := fun e hf h => by
      subst e
      exact ex_wf hw hf h
    by_cases hga1 : a.toInt < 0
    · exact G_mono (ga1 d a b c I hi (ax3 (by omega)) no_pre (fun x y J _ hf h => un (by decide) hf h)) (fun _ _ h => cv h)
    by_cases hga2 : 3 < a.toInt
    · exact G_mono (ga2 d a b c I hi (ax3 (by omega)) no_pre (fun x y J _ hf h => un (by decide) hf h)) (fun _ _ h => cv h)
    by_cases hga3 : c.toInt < 0
    · exact G_mono (ga3 d a b c I hi (ax3 (by omega)) no_pre (fun x y J _ hf h => un (by decide) hf h)) (fun _ _ h => cv h)
    by_cases hga4 : 20 < c.toInt
    · exact G_mono (ga4 d a b c I hi (ax3 (by omega)) no_pre (fun x y J _ hf h => un (by decide) hf h)) (fun _ _ h => cv h)
    have hs : a.toInt = 0 ∨ a.toInt = 1 ∨ a.toInt = 2 ∨ a.toInt = 3 := by omega
    obtain ⟨w1, w2⟩ := WF_h hw
    have q0 := ain_of hi (show bnd bT 68 0 = (0, 16) by decide +kernel)
    have q1 := ain_of hi (show bnd bT 68 1 = (0, 16) by decide +kernel)
    have q4 := ain_of hi (show bnd bT 68 4 = (0, 6) by decide +kernel)
    have wc : I 19 8 = I 68 4 := hw.2.1 (19, 8, 35, 8, 4) (by decide +kernel)
    have we : I 19 2 = I 68 1 := hw.2.1 (19, 2, 35, 2, 1) (by decide +kernel)
    dsimp only at q0 q1 q4
    rcases hs with hs | hs | hs | hs
    · have ea : a = 0 := Int32.toInt_inj.mp hs
      subst ea
      have hq : I 2 0 = I 82 0 := hw.2.2.2.2.1 (2, 0, 82, 0) (by decide +kernel)
      have hr := ain_of hi (show bnd bT 82 0 = (-1, 4) by decide +kernel)
      have hr2 := ain_of hi (show bnd bT 83 0 = (0, 40) by decide +kernel)
      have hr3 := ain_of hi (show bnd bT 3 0 = (0, 40) by decide +kernel)
      dsimp only at hr hr2 hr3
      by_cases h5 : (I 82 0).toInt = -1
      · exact G_mono (ga5_0 d 0 b c I hi (ax3 (by omega)) (fun s hs => by
          rcases List.mem_cons.mp hs with rfl | hs
          · exact slotOK_m (by decide) ⟨by show (-1 : Int) ≤ (I 82 0).toInt; omega, by show (I 82 0).toInt ≤ (-1 : Int); omega⟩
          · rw [List.mem_singleton.mp hs]
            exact slotOK_q (c' := 82) (j' := 0) hq) (fun x y J _ hf h => un (by decide) hf h)) (fun _ _ h => cv h)
      by_cases h6 : (I 82 0).toInt ≠ 0
      · exact G_mono (ga6_0 d 0 b c I hi (ax3 (by omega)) (fun s hs => by
          rcases List.mem_cons.mp hs with rfl | hs
          · exact slotOK_m (by decide) ⟨by show (1 : Int) ≤ (I 82 0).toInt; omega, by show (I 82 0).toInt ≤ (4 : Int); omega⟩
          · rw [List.mem_singleton.mp hs]
            exact slotOK_q (c' := 82) (j' := 0) hq) (fun x y J _ hf h => un (by decide) hf h)) (fun _ _ h => cv h)
      by_cases h7 : b.toInt < 0
      · exact G_mono (ga7_0 d 0 b c I hi (ax3 (by omega)) (fun s hs => by
          rcases List.mem_cons.mp hs with rfl | hs
          · exact slotOK_m (by decide) ⟨by show (0 : Int) ≤ (I 82 0).toInt; omega, by show (I 82 0).toInt ≤ (0 : Int); omega⟩
          · rw [List.mem_singleton.mp hs]
            exact slotOK_q (c' := 82) (j' := 0) hq) (fun x y J _ hf h => un (by decide) hf h)) (fun _ _ h => cv h)
      have h82 : (I 82 0).toInt = 0 := by omega
      have hx := hw.2.2.2.2.2.1 0 (by decide) (fun e => by rw [hq] at e; rw [e] at h82; exact absurd h82 (by decide))
      refine goX_0 (d := d) hGoX_ok hi (by omega) (by omega) (by rw [hq]; exact h82) hr3 (by rw [w1]; exact q0.1) (by rw [we]; exact q1.2) (fun y J j1 j2 j3 => ?_)
      refine ⟨y, J, rfl, rfl, ?_⟩
      have p2 : ∀ c j, c < 19 ∨ 35 ≤ c → J c j = I c j := fun c j hc => j2 c j (mdGX_o hc)
      have wJ : WP J := pE WF_st (md := mdGX) (by decide +kernel) I J (WF_P hw) j2
      refine goM_0 (d := d) hGoM_ok j1 wJ (by omega) (by omega) (by rw [p2 82 _ (by decide)]; exact h82) (by rw [p2 83 _ (by decide)]; exact hr2) (by rw [p2 68 _ (by decide)]; exact q0.1) (by rw [p2 68 _ (by decide)]; exact q4.2) (by rw [p2 68 _ (by decide)]; exact q1.2) (fun y2 J2 k1 k2 k3 => ?_)
      refine ⟨y2, J2, rfl, rfl, (fun z => by cases z), k1, WF_of (pE WF_st (md := mdG) (by decide +kernel) J J2 wJ k2) (hlt_mk ?_ ?_ (hk_tr hw.2.2.2.2.2.2.2 (fun c j hx => (k2 c j (dsj_ok (md' := hkS) (by decide +kernel) hx)).trans (j2 c j (dsj_ok (md' := hkS) (by decide +kernel) hx)))))⟩
      · apply Int32.toInt_inj.mp
        rw [k2 19 1 (by decide +kernel), j3, k3, p2 68 4 (by decide), p2 68 1 (by decide), p2 68 0 (by decide), p2 83 0 (by decide), wc, we, w1, hx.1]
        refine goF_eq (fun k hk => ?_) _ _ _
        rw [p2 84 _ (by decide)]
        exact congrArg Int32.toInt (hx.2 (b.toInt.toNat + k) (by omega) (by rw [hx.1]; omega))
      · rw [k2 19 4 (by decide +kernel), k2 68 3 (by decide +kernel), j2 19 4 (by decide +kernel), j2 68 3 (by decide +kernel)]
        exact w2
    · have ea : a = 1 := Int32.toInt_inj.mp hs
      subst ea
      have hq : I 2 1 = I 82 1 := hw.2.2.2.2.1 (2, 1, 82, 1) (by decide +kernel)
      have hr := ain_of hi (show bnd bT 82 1 = (-1, 4) by decide +kernel)
      have hr2 := ain_of hi (show bnd bT 83 1 = (0, 40) by decide +kernel)
      have hr3 := ain_of hi (show bnd bT 3 1 = (0, 40) by decide +kernel)
      dsimp only at hr hr2 hr3
      by_cases h5 : (I 82 1).toInt = -1
      · exact G_mono (ga5_1 d 1 b c I hi (ax3 (by omega)) (fun s hs => by
          rcases List.mem_cons.mp hs with rfl | hs
          · exact slotOK_m (by decide) ⟨by show (-1 : Int) ≤ (I 82 1).toInt; omega, by show (I 82 1).toInt ≤ (-1 : Int); omega⟩
          · rw [List.mem_singleton.mp hs]
            exact slotOK_q (c' := 82) (j' := 1) hq) (fun x y J _ hf h => un (by decide) hf h)) (fun _ _ h => cv h)
      by_cases h6 : (I 82 1).toInt ≠ 0
      · exact G_mono (ga6_1 d 1 b c I hi (ax3 (by omega)) (fun s hs => by
          rcases List.mem_cons.mp hs with rfl | hs
          · exact slotOK_m (by decide) ⟨by show (1 : Int) ≤ (I 82 1).toInt; omega, by show (I 82 1).toInt ≤ (4 : Int); omega⟩
          · rw [List.mem_singleton.mp hs]
            exact slotOK_q (c' := 82) (j' := 1) hq) (fun x y J _ hf h => un (by decide) hf h)) (fun _ _ h => cv h)
      by_cases h7 : b.toInt < 0
      · exact G_mono (ga7_1 d 1 b c I hi (ax3 (by omega)) (fun s hs => by
          rcases List.mem_cons.mp hs with rfl | hs
          · exact slotOK_m (by decide) ⟨by show (0 : Int) ≤ (I 82 1).toInt; omega, by show (I 82 1).toInt ≤ (0 : Int); omega⟩
          · rw [List.mem_singleton.mp hs]
            exact slotOK_q (c' := 82) (j' := 1) hq) (fun x y J _ hf h => un (by decide) hf h)) (fun _ _ h => cv h)
      have h82 : (I 82 1).toInt = 0 := by omega
      have hx := hw.2.2.2.2.2.1 1 (by decide) (fun e => by rw [hq] at e; rw [e] at h82; exact absurd h82 (by decide))
      refine goX_1 (d := d) hGoX_ok hi (by omega) (by omega) (by rw [hq]; exact h82) hr3 (by rw [w1]; exact q0.1) (by rw [we]; exact q1.2) (fun y J j1 j2 j3 => ?_)
      refine ⟨y, J, rfl, rfl, ?_⟩
      have p2 : ∀ c j, c < 19 ∨ 35 ≤ c → J c j = I c j := fun c j hc => j2 c j (mdGX_o hc)
      have wJ : WP J := pE WF_st (md := mdGX) (by decide +kernel) I J (WF_P hw) j2
      refine goM_1 (d := d) hGoM_ok j1 wJ (by omega) (by omega) (by rw [p2 82 _ (by decide)]; exact h82) (by rw [p2 83 _ (by decide)]; exact hr2) (by rw [p2 68 _ (by decide)]; exact q0.1) (by rw [p2 68 _ (by decide)]; exact q4.2) (by rw [p2 68 _ (by decide)]; exact q1.2) (fun y2 J2 k1 k2 k3 => ?_)
      refine ⟨y2, J2, rfl, rfl, (fun z => by cases z), k1, WF_of (pE WF_st (md := mdG) (by decide +kernel) J J2 wJ k2) (hlt_mk ?_ ?_ (hk_tr hw.2.2.2.2.2.2.2 (fun c j hx => (k2 c j (dsj_ok (md' := hkS) (by decide +kernel) hx)).trans (j2 c j (dsj_ok (md' := hkS) (by decide +kernel) hx)))))⟩
      · apply Int32.toInt_inj.mp
        rw [k2 19 1 (by decide +kernel), j3, k3, p2 68 4 (by decide), p2 68 1 (by decide), p2 68 0 (by decide), p2 83 1 (by decide), wc, we, w1, hx.1]
        refine goF_eq (fun k hk => ?_) _ _ _
        rw [p2 84 _ (by decide)]
        exact congrArg Int32.toInt (hx.2 (b.toInt.toNat + k) (by omega) (by rw [hx.1]; omega))
      · rw [k2 19 4 (by decide +kernel), k2 68 3 (by decide +kernel), j2 19 4 (by decide +kernel), j2 68 3 (by decide +kernel)]
        exact w2
    · have ea : a = 2 := Int32.toInt_inj.mp hs
      subst ea
      have hq : I 2 2 = I 82 2 := hw.2.2.2.2.1 (2, 2, 82, 2) (by decide +kernel)
      have hr := ain_of hi (show bnd bT 82 2 = (-1, 4) by decide +kernel)
      have hr2 := ain_of hi (show bnd bT 83 2 = (0, 40) by decide +kernel)
      have hr3 := ain_of hi (show bnd bT 3 2 = (0, 40) by decide +kernel)
      dsimp only at hr hr2 hr3
      by_cases h5 : (I 82 2).toInt = -1
      · exact G_mono (ga5_2 d 2 b c I hi (ax3 (by omega)) (fun s hs => by
          rcases List.mem_cons.mp hs with rfl | hs
          · exact slotOK_m (by decide) ⟨by show (-1 : Int) ≤ (I 82 2).toInt; omega, by show (I 82 2).toInt ≤ (-1 : Int); omega⟩
          · rw [List.mem_singleton.mp hs]
            exact slotOK_q (c' := 82) (j' := 2) hq) (fun x y J _ hf h => un (by decide) hf h)) (fun _ _ h => cv h)
      by_cases h6 : (I 82 2).toInt ≠ 0
      · exact G_mono (ga6_2 d 2 b c I hi (ax3 (by omega)) (fun s hs => by
          rcases List.mem_cons.mp hs with rfl | hs
          · exact slotOK_m (by decide) ⟨by show (1 : Int) ≤ (I 82 2).toInt; omega, by show (I 82 2).toInt ≤ (4 : Int); omega⟩
          · rw [List.mem_singleton.mp hs]
            exact slotOK_q (c' := 82) (j' := 2) hq) (fun x y J _ hf h => un (by decide) hf h)) (fun _ _ h => cv h)
      by_cases h7 : b.toInt < 0
      · exact G_mono (ga7_2 d 2 b c I hi (ax3 (by omega)) (fun s hs => by
          rcases List.mem_cons.mp hs with rfl | hs
          · exact slotOK_m (by decide) ⟨by show (0 : Int) ≤ (I 82 2).toInt; omega, by show (I 82 2).toInt ≤ (0 : Int); omega⟩
          · rw [List.mem_singleton.mp hs]
            exact slotOK_q (c' := 82) (j' := 2) hq) (fun x y J _ hf h => un (by decide) hf h)) (fun _ _ h => cv h)
      have h82 : (I 82 2).toInt = 0 := by omega
      have hx := hw.2.2.2.2.2.1 2 (by decide) (fun e => by rw [hq] at e; rw [e] at h82; exact absurd h82 (by decide))
      refine goX_2 (d := d) hGoX_ok hi (by omega) (by omega) (by rw [hq]; exact h82) hr3 (by rw [w1]; exact q0.1) (by rw [we]; exact q1.2) (fun y J j1 j2 j3 => ?_)
      refine ⟨y, J, rfl, rfl, ?_⟩
      have p2 : ∀ c j, c < 19 ∨ 35 ≤ c → J c j = I c j := fun c j hc => j2 c j (mdGX_o hc)
      have wJ : WP J := pE WF_st (md := mdGX) (by decide +kernel) I J (WF_P hw) j2
      refine goM_2 (d := d) hGoM_ok j1 wJ (by omega) (by omega) (by rw [p2 82 _ (by decide)]; exact h82) (by rw [p2 83 _ (by decide)]; exact hr2) (by rw [p2 68 _ (by decide)]; exact q0.1) (by rw [p2 68 _ (by decide)]; exact q4.2) (by rw [p2 68 _ (by decide)]; exact q1.2) (fun y2 J2 k1 k2 k3 => ?_)
      refine ⟨y2, J2, rfl, rfl, (fun z => by cases z), k1, WF_of (pE WF_st (md := mdG) (by decide +kernel) J J2 wJ k2) (hlt_mk ?_ ?_ (hk_tr hw.2.2.2.2.2.2.2 (fun c j hx => (k2 c j (dsj_ok (md' := hkS) (by decide +kernel) hx)).trans (j2 c j (dsj_ok (md' := hkS) (by decide +kernel) hx)))))⟩
      · apply Int32.toInt_inj.mp
        rw [k2 19 1 (by decide +kernel), j3, k3, p2 68 4 (by decide), p2 68 1 (by decide), p2 68 0 (by decide), p2 83 2 (by decide), wc, we, w1, hx.1]
        refine goF_eq (fun k hk => ?_) _ _ _
        rw [p2 84 _ (by decide)]
        exact congrArg Int32.toInt (hx.2 (b.toInt.toNat + k) (by omega) (by rw [hx.1]; omega))
      · rw [k2 19 4 (by decide +kernel), k2 68 3 (by decide +kernel), j2 19 4 (by decide +kernel), j2 68 3 (by decide +kernel)]
        exact w2
    · have ea : a = 3 := Int32.toInt_inj.mp hs
      subst ea
      have hq : I 2 3 = I 82 3 := hw.2.2.2.2.1 (2, 3, 82, 3) (by decide +kernel)
      have hr := ain_of hi (show bnd bT 82 3 = (-1, 4) by decide +kernel)
      have hr2 := ain_of hi (show bnd bT 83 3 = (0, 40) by decide +kernel)
      have hr3 := ain_of hi (show bnd bT 3 3 = (0, 40) by decide +kernel)
      dsimp only at hr hr2 hr3
      by_cases h5 : (I 82 3).toInt = -1
      · exact G_mono (ga5_3 d 3 b c I hi (ax3 (by omega)) (fun s hs => by
          rcases List.mem_cons.mp hs with rfl | hs
          · exact slotOK_m (by decide) ⟨by show (-1 : Int) ≤ (I 82 3).toInt; omega, by show (I 82 3).toInt ≤ (-1 : Int); omega⟩
          · rw [List.mem_singleton.mp hs]
            exact slotOK_q (c' := 82) (j' := 3) hq) (fun x y J _ hf h => un (by decide) hf h)) (fun _ _ h => cv h)
      by_cases h6 : (I 82 3).toInt ≠ 0
      · exact G_mono (ga6_3 d 3 b c I hi (ax3 (by omega)) (fun s hs => by
          rcases List.mem_cons.mp hs with rfl | hs
          · exact slotOK_m (by decide) ⟨by show (1 : Int) ≤ (I 82 3).toInt; omega, by show (I 82 3).toInt ≤ (4 : Int); omega⟩
          · rw [List.mem_singleton.mp hs]
            exact slotOK_q (c' := 82) (j' := 3) hq) (fun x y J _ hf h => un (by decide) hf h)) (fun _ _ h => cv h)
      by_cases h7 : b.toInt < 0
      · exact G_mono (ga7_3 d 3 b c I hi (ax3 (by omega)) (fun s hs => by
          rcases List.mem_cons.mp hs with rfl | hs
          · exact slotOK_m (by decide) ⟨by show (0 : Int) ≤ (I 82 3).toInt; omega, by show (I 82 3).toInt ≤ (0 : Int); omega⟩
          · rw [List.mem_singleton.mp hs]
            exact slotOK_q (c' := 82) (j' := 3) hq) (fun x y J _ hf h => un (by decide) hf h)) (fun _ _ h => cv h)
      have h82 : (I 82 3).toInt = 0 := by omega
      have hx := hw.2.2.2.2.2.1 3 (by decide) (fun e => by rw [hq] at e; rw [e] at h82; exact absurd h82 (by decide))
      refine goX_3 (d := d) hGoX_ok hi (by omega) (by omega) (by rw [hq]; exact h82) hr3 (by rw [w1]; exact q0.1) (by rw [we]; exact q1.2) (fun y J j1 j2 j3 => ?_)
      refine ⟨y, J, rfl, rfl, ?_⟩
      have p2 : ∀ c j, c < 19 ∨ 35 ≤ c → J c j = I c j := fun c j hc => j2 c j (mdGX_o hc)
      have wJ : WP J := pE WF_st (md := mdGX) (by decide +kernel) I J (WF_P hw) j2
      refine goM_3 (d := d) hGoM_ok j1 wJ (by omega) (by omega) (by rw [p2 82 _ (by decide)]; exact h82) (by rw [p2 83 _ (by decide)]; exact hr2) (by rw [p2 68 _ (by decide)]; exact q0.1) (by rw [p2 68 _ (by decide)]; exact q4.2) (by rw [p2 68 _ (by decide)]; exact q1.2) (fun y2 J2 k1 k2 k3 => ?_)
      refine ⟨y2, J2, rfl, rfl, (fun z => by cases z), k1, WF_of (pE WF_st (md := mdG) (by decide +kernel) J J2 wJ k2) (hlt_mk ?_ ?_ (hk_tr hw.2.2.2.2.2.2.2 (fun c j hx => (k2 c j (dsj_ok (md' := hkS) (by decide +kernel) hx)).trans (j2 c j (dsj_ok (md' := hkS) (by decide +kernel) hx)))))⟩
      · apply Int32.toInt_inj.mp
        rw [k2 19 1 (by decide +kernel), j3, k3, p2 68 4 (by decide), p2 68 1 (by decide), p2 68 0 (by decide), p2 83 3 (by decide), wc, we, w1, hx.1]
        refine goF_eq (fun k hk => ?_) _ _ _
        rw [p2 84 _ (by decide)]
        exact congrArg Int32.toInt (hx.2 (b.toInt.toNat + k) (by omega) (by rw [hx.1]; omega))
      · rw [k2 19 4 (by decide +kernel), k2 68 3 (by decide +kernel), j2 19 4 (by decide +kernel), j2 68 3 (by decide +kernel)]
        exact w2
