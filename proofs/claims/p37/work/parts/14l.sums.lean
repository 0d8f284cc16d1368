/-! ===== ends may be said less sharply ===== -/
theorem G_mono {d : Nat} {M : gM} {mc ms k n pc : Nat} {L : gL} {S : List Value} {sh : List (Nat × Nat)} {R : gR} {I : gI} {Q Q' : Option Value → gH → Prop} (h : G d M mc ms k n pc L S sh R I Q) (hq : ∀ r hh, Q r hh → Q' r hh) : G d M mc ms k n pc L S sh R I Q' := by
  intro p l e s m args below meth c H locs ls b D cy hC hF hS hW hl T hT X
  obtain ⟨t, a, o, b1, b2, ⟨r, hh, c1, c2, c3⟩, b4⟩ := h p l e s m args below meth c H locs ls b D cy hC hF hS hW hl T hT X
  exact ⟨t, a, o, b1, b2, ⟨r, hh, c1, hq _ _ c2, c3⟩, b4⟩
theorem ms_weak {Ext : gI → Prop} {a h : Nat} {args : List (Nat × Int × Int)} {pre : List (Nat × Nat × Int × Int)} {md : aMd} {cs cs' : List aC} (hm : MSok bT Ext MT (a, h, args, pre, md, cs)) (hc : ∀ c ∈ cs, ∃ c' ∈ cs', ∀ vs r I, caseOK c vs r I → caseOK c' vs r I) : MSok bT Ext MT (a, h, args, pre, md, cs') := fun mj hmj d vs I h1 h2 h3 h4 => G_mono (hm mj hmj d vs I h1 h2 h3 h4) (fun r hh ⟨I', e1, e2, e3, c, c1, c2⟩ => by
  obtain ⟨c', d1, d2⟩ := hc c c1
  exact ⟨I', e1, e2, e3, c', d1, d2 vs r I' c2⟩)
theorem case_weak {b b' : Int × Int} {ar : List (Nat × Int × Int)} {po : List (Nat × Nat × Int × Int)} (h1 : b'.1 ≤ b.1) (h2 : b.2 ≤ b'.2) : ∀ vs r I, caseOK (some b, ar, po) vs r I → caseOK (some b', [], []) vs r I := fun vs r I ⟨⟨x, e, g1, g2⟩, _, _⟩ => ⟨⟨x, e, Int.le_trans h1 g1, Int.le_trans g2 h2⟩, fun q hq => absurd hq List.not_mem_nil, fun s hs => absurd hs List.not_mem_nil⟩
theorem weak01 {Ext : gI → Prop} {a h : Nat} {args : List (Nat × Int × Int)} {b1 b2 : Int × Int} {ar1 ar2 : List (Nat × Int × Int)} {po1 po2 : List (Nat × Nat × Int × Int)} (hm : MSok bT Ext MT (a, h, args, [], [], [(some b1, ar1, po1), (some b2, ar2, po2)])) (h1 : 0 ≤ b1.1) (h2 : b1.2 ≤ 1) (h3 : 0 ≤ b2.1) (h4 : b2.2 ≤ 1) : MSok bT Ext MT (a, h, args, [], [], [(some (0, 1), [], [])]) := ms_weak hm (fun c hc => by
  simp only [List.mem_cons, List.not_mem_nil, or_false] at hc
  rcases hc with rfl | rfl
  · exact ⟨_, List.mem_cons_self, case_weak h1 h2⟩
  · exact ⟨_, List.mem_cons_self, case_weak h3 h4⟩)
def smn_0 : aM := (53, 0, [(0, (-2147483648), 2147483647)], [], [], [(some (1, 1), [(0, 97, 122)], []), (some (0, 0), [], [])])
def lbn_0 : List aLab := []
theorem msn_0 {Ext : gI → Prop} (hX : pSt Ext) : MSok bT Ext MT smn_0 := achk_ok (nm := 297) (sm := []) (labs := lbn_0) (sp := []) (fuel := 14) (rE := [(1000000, (2, 0))]) (maxL := 1) (M := mX5_isLetter) mt_X5_isLetter rfl os_X5_isLetter MT_len ( mA.nil) (pE hX (by decide +kernel)) (by decide +kernel)
def smn_1 : aM := (37, 0, [(0, (-2147483648), 2147483647), (0, 1, 1), (0, 8, 8)], [], [], [(some (1, 1), [(0, 1, 8)], []), (some (0, 0), [], [])])
def lbn_1 : List aLab := []
theorem msn_1 {Ext : gI → Prop} (hX : pSt Ext) : MSok bT Ext MT smn_1 := achk_ok (nm := 297) (sm := []) (labs := lbn_1) (sp := []) (fuel := 14) (rE := [(1000000, (2, 0))]) (maxL := 3) (M := mX11_isIn) mt_X11_isIn rfl os_X11_isIn MT_len ( mA.nil) (pE hX (by decide +kernel)) (by decide +kernel)
def smn_2 : aM := (127, 0, [(0, (-2147483648), 2147483647), (0, 1, 1), (0, 8, 8)], [], [], [(some (1, 1), [(0, 1, 8)], []), (some (0, 0), [], [])])
def lbn_2 : List aLab := []
theorem msn_2 {Ext : gI → Prop} (hX : pSt Ext) : MSok bT Ext MT smn_2 := achk_ok (nm := 297) (sm := []) (labs := lbn_2) (sp := []) (fuel := 14) (rE := [(1000000, (2, 0))]) (maxL := 3) (M := mX12_in1) mt_X12_in1 rfl os_X12_in1 MT_len ( mA.nil) (pE hX (by decide +kernel)) (by decide +kernel)
def smn_3 : aM := (209, 0, [(1, 55, 0), (0, (-2147483648), 2147483647)], [], [(55, 1, 1), (56, 0, 199)], [(none, [], [])])
def lbn_3 : List aLab := []
theorem msn_3 {Ext : gI → Prop} (hX : pSt Ext) : MSok bT Ext MT smn_3 := achk_ok (nm := 297) (sm := []) (labs := lbn_3) (sp := []) (fuel := 22) (rE := [(1000000, (2, 0))]) (maxL := 2) (M := mX5_add) mt_X5_add rfl os_X5_add MT_len ( mA.nil) (pE hX (by decide +kernel)) (by decide +kernel)
def smn_4 : aM := (126, 0, [(1, 67, 0), (0, 0, 199)], [], [], [(some ((-1), 255), [], [])])
def lbn_4 : List aLab := []
theorem msn_4 {Ext : gI → Prop} (hX : pSt Ext) : MSok bT Ext MT smn_4 := achk_ok (nm := 297) (sm := []) (labs := lbn_4) (sp := []) (fuel := 15) (rE := [(1000000, (2, 0))]) (maxL := 2) (M := mX12_byteAt) mt_X12_byteAt rfl os_X12_byteAt MT_len ( mA.nil) (pE hX (by decide +kernel)) (by decide +kernel)
def smn_5 : aM := (129, 1, [(1, 67, 0), (0, 0, 17)], [], [], [(some (0, 0), [], []), (some (0, 1), [], [])])
def lbn_5 : List aLab := [(22, [some (1, 67), some (0, 0), some (0, 1), some (0, 2)], [], [(0, 17, none), (0, 1, none), (0, 8, none)], [], [(99978, (2, 0)), (8, (0, 2)), (99978, (2, 0))])]
theorem msn_5 {Ext : gI → Prop} (hX : pSt Ext) : MSok bT Ext MT smn_5 := achk_ok (nm := 297) (sm := [smn_4]) (labs := lbn_5) (sp := []) (fuel := 39) (rE := [(1000000, (2, 0)), (0, (2, 0)), (0, (2, 0))]) (maxL := 4) (M := mX12_isNameOf) mt_X12_isNameOf rfl os_X12_isNameOf MT_len ((mA.cons (msn_4 hX) mA.nil)) (pE hX (by decide +kernel)) (by decide +kernel)
def smn_6 : aM := (74, 0, [(1, 57, 0)], [], [(57, 0, 1)], [(none, [], [])])
def lbn_6 : List aLab := []
theorem msn_6 {Ext : gI → Prop} (hX : pSt Ext) : MSok bT Ext MT smn_6 := achk_ok (nm := 297) (sm := []) (labs := lbn_6) (sp := []) (fuel := 12) (rE := [(1000000, (2, 0))]) (maxL := 1) (M := mX6_clear) mt_X6_clear rfl os_X6_clear MT_len ( mA.nil) (pE hX (by decide +kernel)) (by decide +kernel)
def smn_7 : aM := (73, 1, [(1, 55, 0)], [], [(55, 3, 3), (55, 7, 7), (57, 0, 1), (62, 0, 3), (63, 0, 3), (64, 0, 3)], [(none, [], [])])
def lbn_7 : List aLab := [(19, [some (1, 55), some (0, 0)], [], [(0, 4, none)], [(55, 3, (2, 0)), (55, 7, (2, 0))], [(99981, (2, 0)), (4, (0, 0)), (99981, (2, 0))])]
theorem msn_7 {Ext : gI → Prop} (hX : pSt Ext) : MSok bT Ext MT smn_7 := achk_ok (nm := 297) (sm := [smn_6]) (labs := lbn_7) (sp := []) (fuel := 26) (rE := [(1000000, (2, 0)), (0, (2, 0)), (0, (2, 0))]) (maxL := 2) (M := mX5_begin) mt_X5_begin rfl os_X5_begin MT_len ((mA.cons (msn_6 hX) mA.nil)) (pE hX (by decide +kernel)) (by decide +kernel)
def smn_8 : aM := (56, 0, [(0, (-2147483648), 2147483647)], [], [], [(some (1, 1), [(0, 48, 57)], []), (some (0, 0), [], [])])
def lbn_8 : List aLab := []
theorem msn_8 {Ext : gI → Prop} (hX : pSt Ext) : MSok bT Ext MT smn_8 := achk_ok (nm := 297) (sm := []) (labs := lbn_8) (sp := []) (fuel := 14) (rE := [(1000000, (2, 0))]) (maxL := 1) (M := mX5_isDigit) mt_X5_isDigit rfl os_X5_isDigit MT_len ( mA.nil) (pE hX (by decide +kernel)) (by decide +kernel)
def smn_9 : aM := (58, 0, [(0, (-2147483648), 2147483647)], [], [], [(some (1, 1), [(0, 40, 62)], []), (some (0, 0), [], [])])
def lbn_9 : List aLab := []
theorem msn_9 {Ext : gI → Prop} (hX : pSt Ext) : MSok bT Ext MT smn_9 := achk_ok (nm := 297) (sm := []) (labs := lbn_9) (sp := []) (fuel := 26) (rE := [(1000000, (2, 0))]) (maxL := 1) (M := mX5_isMark) mt_X5_isMark rfl os_X5_isMark MT_len ( mA.nil) (pE hX (by decide +kernel)) (by decide +kernel)
def smn_10 : aM := (57, 1, [(1, 55, 0)], [], [(55, 3, 3), (55, 5, 6)], [(none, [], [])])
def lbn_10 : List aLab := [(5, [some (1, 55)], [], [(0, 200, none)], [(55, 3, (0, 0))], [(99995, (2, 0)), (200, (0, 0)), (99995, (2, 0))])]
theorem msn_10 {Ext : gI → Prop} (hX : pSt Ext) : MSok bT Ext MT smn_10 := achk_ok (nm := 297) (sm := [smn_8]) (labs := lbn_10) (sp := []) (fuel := 39) (rE := [(1000000, (2, 0)), (0, (2, 0)), (0, (2, 0))]) (maxL := 1) (M := mX5_nextNumber) mt_X5_nextNumber rfl os_X5_nextNumber MT_len ((mA.cons (msn_8 hX) mA.nil)) (pE hX (by decide +kernel)) (by decide +kernel)
def smn_11 : aM := (55, 5, [(1, 55, 0)], [], [(55, 3, 3), (55, 5, 5)], [(none, [], [])])
theorem msn_11 {Ext : gI → Prop} (hX : pSt Ext) : MSok bT Ext MT smn_11 := ms_nextName hX (weak01 (msn_0 hX) (by decide) (by decide) (by decide) (by decide))
def smn_12 : aM := (75, 6, [(1, 55, 0)], [], [(55, 3, 6)], [(none, [], [])])
def lbn_12 : List aLab := [(0, [some (1, 55)], [], [(1, 200, none), (1, 200, none)], [(55, 1, (0, 0)), (55, 3, (0, 1))], [(100000, (2, 0)), (200, (0, 1)), (100000, (2, 0))])]
theorem msn_12 {Ext : gI → Prop} (hX : pSt Ext) : MSok bT Ext MT smn_12 := achk_ok (nm := 297) (sm := [smn_10, smn_11, smn_0, smn_8, smn_9]) (labs := lbn_12) (sp := []) (fuel := 62) (rE := [(1000000, (2, 0)), (0, (2, 0)), (0, (2, 0))]) (maxL := 1) (M := mX5_next) mt_X5_next rfl os_X5_next MT_len ((mA.cons (msn_10 hX) (mA.cons (msn_11 hX) (mA.cons (msn_0 hX) (mA.cons (msn_8 hX) (mA.cons (msn_9 hX) mA.nil)))))) (pE hX (by decide +kernel)) (by decide +kernel)
def smn_13 : aM := (72, 0, [(1, 55, 0)], [], [(55, 7, 7)], [(some (0, 0), [], []), (some (1, 1), [], [(55, 5, 59, 59), (55, 7, 0, 0)])])
def lbn_13 : List aLab := []
theorem msn_13 {Ext : gI → Prop} (hX : pSt Ext) : MSok bT Ext MT smn_13 := achk_ok (nm := 297) (sm := []) (labs := lbn_13) (sp := []) (fuel := 14) (rE := [(1000000, (2, 0))]) (maxL := 1) (M := mX5_takesRuleEnd) mt_X5_takesRuleEnd rfl os_X5_takesRuleEnd MT_len ( mA.nil) (pE hX (by decide +kernel)) (by decide +kernel)
def smn_14 : aM := (60, 0, [(1, 57, 0), (0, (-2147483648), 2147483647)], [], [(57, 1, 1), (61, 0, 199)], [(none, [], [])])
def lbn_14 : List aLab := []
theorem msn_14 {Ext : gI → Prop} (hX : pSt Ext) : MSok bT Ext MT smn_14 := achk_ok (nm := 297) (sm := []) (labs := lbn_14) (sp := []) (fuel := 22) (rE := [(1000000, (2, 0))]) (maxL := 2) (M := mX6_addCode) mt_X6_addCode rfl os_X6_addCode MT_len ( mA.nil) (pE hX (by decide +kernel)) (by decide +kernel)
def smn_15 : aM := (59, 1, [(1, 55, 0)], [], [(57, 1, 1), (61, 0, 199), (64, 0, 3)], [(none, [], [])])
def lbn_15 : List aLab := []
theorem msn_15 {Ext : gI → Prop} (hX : pSt Ext) : MSok bT Ext MT smn_15 := achk_ok (nm := 297) (sm := [smn_14]) (labs := lbn_15) (sp := []) (fuel := 22) (rE := [(1000000, (2, 0))]) (maxL := 1) (M := mX5_endCondition) mt_X5_endCondition rfl os_X5_endCondition MT_len ((mA.cons (msn_14 hX) mA.nil)) (pE hX (by decide +kernel)) (by decide +kernel)
def smn_16 : aM := (64, 1, [(1, 55, 0)], [], [(57, 1, 1), (61, 0, 199), (62, 0, 3), (63, 0, 3)], [(none, [], [])])
def lbn_16 : List aLab := []
theorem msn_16 {Ext : gI → Prop} (hX : pSt Ext) : MSok bT Ext MT smn_16 := achk_ok (nm := 297) (sm := [smn_14]) (labs := lbn_16) (sp := []) (fuel := 38) (rE := [(1000000, (2, 0))]) (maxL := 1) (M := mX5_endOne) mt_X5_endOne rfl os_X5_endOne MT_len ((mA.cons (msn_14 hX) mA.nil)) (pE hX (by decide +kernel)) (by decide +kernel)
def smn_17 : aM := (37, 0, [(0, (-2147483648), 2147483647), (0, 6, 6), (0, 8, 8)], [], [], [(some (1, 1), [(0, 6, 8)], []), (some (0, 0), [], [])])
def lbn_17 : List aLab := []
theorem msn_17 {Ext : gI → Prop} (hX : pSt Ext) : MSok bT Ext MT smn_17 := achk_ok (nm := 297) (sm := []) (labs := lbn_17) (sp := []) (fuel := 14) (rE := [(1000000, (2, 0))]) (maxL := 3) (M := mX11_isIn) mt_X11_isIn rfl os_X11_isIn MT_len ( mA.nil) (pE hX (by decide +kernel)) (by decide +kernel)
def smn_18 : aM := (61, 0, [(1, 57, 0), (0, (-2147483648), 2147483647), (0, (-2147483648), 2147483647)], [], [(57, 0, 0), (58, 0, 7), (59, 0, 7), (60, 0, 7)], [(none, [], [])])
def lbn_18 : List aLab := []
theorem msn_18 {Ext : gI → Prop} (hX : pSt Ext) : MSok bT Ext MT smn_18 := achk_ok (nm := 297) (sm := []) (labs := lbn_18) (sp := []) (fuel := 35) (rE := [(1000000, (2, 0))]) (maxL := 3) (M := mX6_addRule) mt_X6_addRule rfl os_X6_addRule MT_len ( mA.nil) (pE hX (by decide +kernel)) (by decide +kernel)
def smn_19 : aM := (65, 2, [(1, 55, 0)], [], [(55, 7, 7), (57, 0, 1), (58, 0, 7), (59, 0, 7), (60, 0, 7), (61, 0, 199), (64, 0, 3)], [(some (0, 0), [], []), (some (1, 1), [], [(55, 5, 6, 8), (55, 7, 6, 6), (55, 11, 0, 0)])])
def lbn_19 : List aLab := []
theorem msn_19 {Ext : gI → Prop} (hX : pSt Ext) : MSok bT Ext MT smn_19 := achk_ok (nm := 297) (sm := [smn_15, smn_17, smn_18]) (labs := lbn_19) (sp := []) (fuel := 30) (rE := [(1000000, (2, 0))]) (maxL := 1) (M := mX5_takesDo) mt_X5_takesDo rfl os_X5_takesDo MT_len ((mA.cons (msn_15 hX) (mA.cons (msn_17 hX) (mA.cons (msn_18 hX) mA.nil)))) (pE hX (by decide +kernel)) (by decide +kernel)
def smn_20 : aM := (71, 3, [(1, 55, 0)], [], [(55, 7, 7), (55, 11, 11), (57, 0, 1), (58, 0, 7), (59, 0, 7), (60, 0, 7), (61, 0, 199), (62, 0, 3), (63, 0, 3), (64, 0, 3)], [(some (1, 1), [], [(55, 5, 6, 41)]), (some (0, 0), [], [])])
def lbn_20 : List aLab := []
theorem msn_20 {Ext : gI → Prop} (hX : pSt Ext) : MSok bT Ext MT smn_20 := achk_ok (nm := 297) (sm := [smn_15, smn_16, smn_19]) (labs := lbn_20) (sp := []) (fuel := 32) (rE := [(1000000, (2, 0))]) (maxL := 1) (M := mX5_takesJoin) mt_X5_takesJoin rfl os_X5_takesJoin MT_len ((mA.cons (msn_15 hX) (mA.cons (msn_16 hX) (mA.cons (msn_19 hX) mA.nil)))) (pE hX (by decide +kernel)) (by decide +kernel)
def smn_21 : aM := (37, 0, [(0, (-2147483648), 2147483647), (0, 9, 9), (0, 13, 13)], [], [], [(some (1, 1), [(0, 9, 13)], []), (some (0, 0), [], [])])
def lbn_21 : List aLab := []
theorem msn_21 {Ext : gI → Prop} (hX : pSt Ext) : MSok bT Ext MT smn_21 := achk_ok (nm := 297) (sm := []) (labs := lbn_21) (sp := []) (fuel := 14) (rE := [(1000000, (2, 0))]) (maxL := 3) (M := mX11_isIn) mt_X11_isIn rfl os_X11_isIn MT_len ( mA.nil) (pE hX (by decide +kernel)) (by decide +kernel)
def smn_22 : aM := (62, 1, [(1, 55, 0)], [], [], [(some (0, 0), [], []), (some (1, 1), [], [(55, 5, 9, 18)])])
def lbn_22 : List aLab := []
theorem msn_22 {Ext : gI → Prop} (hX : pSt Ext) : MSok bT Ext MT smn_22 := achk_ok (nm := 297) (sm := [smn_21]) (labs := lbn_22) (sp := []) (fuel := 18) (rE := [(1000000, (2, 0))]) (maxL := 1) (M := mX5_isValue) mt_X5_isValue rfl os_X5_isValue MT_len ((mA.cons (msn_21 hX) mA.nil)) (pE hX (by decide +kernel)) (by decide +kernel)
def smn_23 : aM := (63, 0, [(1, 55, 0)], [], [], [(some ((-2147483648), 2147483647), [], [])])
def lbn_23 : List aLab := []
theorem msn_23 {Ext : gI → Prop} (hX : pSt Ext) : MSok bT Ext MT smn_23 := achk_ok (nm := 297) (sm := []) (labs := lbn_23) (sp := []) (fuel := 16) (rE := [(1000000, (2, 0))]) (maxL := 1) (M := mX5_value) mt_X5_value rfl os_X5_value MT_len ( mA.nil) (pE hX (by decide +kernel)) (by decide +kernel)
def smn_24 : aM := (70, 2, [(1, 55, 0)], [], [(55, 7, 7), (57, 1, 1), (61, 0, 199), (62, 0, 3), (63, 0, 3)], [(some (1, 1), [], [(55, 5, 9, 18), (55, 7, 5, 5)]), (some (0, 0), [], [])])
def lbn_24 : List aLab := []
theorem msn_24 {Ext : gI → Prop} (hX : pSt Ext) : MSok bT Ext MT smn_24 := achk_ok (nm := 297) (sm := [smn_22, smn_23, smn_16, smn_14]) (labs := lbn_24) (sp := []) (fuel := 30) (rE := [(1000000, (2, 0))]) (maxL := 1) (M := mX5_takesRight) mt_X5_takesRight rfl os_X5_takesRight MT_len ((mA.cons (msn_22 hX) (mA.cons (msn_23 hX) (mA.cons (msn_16 hX) (mA.cons (msn_14 hX) mA.nil))))) (pE hX (by decide +kernel)) (by decide +kernel)
def smn_25 : aM := (69, 0, [(1, 55, 0)], [], [(55, 7, 7), (55, 10, 10)], [(some (0, 0), [], []), (some (1, 1), [], [(55, 5, 60, 62), (55, 7, 4, 4), (55, 10, 60, 62)])])
def lbn_25 : List aLab := []
theorem msn_25 {Ext : gI → Prop} (hX : pSt Ext) : MSok bT Ext MT smn_25 := achk_ok (nm := 297) (sm := []) (labs := lbn_25) (sp := []) (fuel := 26) (rE := [(1000000, (2, 0))]) (maxL := 1) (M := mX5_takesSign) mt_X5_takesSign rfl os_X5_takesSign MT_len ( mA.nil) (pE hX (by decide +kernel)) (by decide +kernel)
def smn_26 : aM := (68, 2, [(1, 55, 0)], [], [(55, 7, 7), (55, 9, 9), (55, 11, 11), (62, 0, 3)], [(some (1, 1), [], [(55, 5, 9, 40)]), (some (0, 0), [], [])])
def lbn_26 : List aLab := []
theorem msn_26 {Ext : gI → Prop} (hX : pSt Ext) : MSok bT Ext MT smn_26 := achk_ok (nm := 297) (sm := [smn_22, smn_23]) (labs := lbn_26) (sp := []) (fuel := 25) (rE := [(1000000, (2, 0))]) (maxL := 1) (M := mX5_takesOne) mt_X5_takesOne rfl os_X5_takesOne MT_len ((mA.cons (msn_22 hX) (mA.cons (msn_23 hX) mA.nil))) (pE hX (by decide +kernel)) (by decide +kernel)
def smn_27 : aM := (67, 0, [(1, 55, 0)], [], [(55, 7, 7)], [(some (0, 0), [], []), (some (1, 1), [], [(55, 5, 14, 14), (55, 7, 2, 2)])])
def lbn_27 : List aLab := []
theorem msn_27 {Ext : gI → Prop} (hX : pSt Ext) : MSok bT Ext MT smn_27 := achk_ok (nm := 297) (sm := []) (labs := lbn_27) (sp := []) (fuel := 14) (rE := [(1000000, (2, 0))]) (maxL := 1) (M := mX5_takesIf) mt_X5_takesIf rfl os_X5_takesIf MT_len ( mA.nil) (pE hX (by decide +kernel)) (by decide +kernel)
def smn_28 : aM := (37, 0, [(0, (-2147483648), 2147483647), (0, 0, 0), (0, 5, 5)], [], [], [(some (1, 1), [(0, 0, 5)], []), (some (0, 0), [], [])])
def lbn_28 : List aLab := []
theorem msn_28 {Ext : gI → Prop} (hX : pSt Ext) : MSok bT Ext MT smn_28 := achk_ok (nm := 297) (sm := []) (labs := lbn_28) (sp := []) (fuel := 14) (rE := [(1000000, (2, 0))]) (maxL := 3) (M := mX11_isIn) mt_X11_isIn rfl os_X11_isIn MT_len ( mA.nil) (pE hX (by decide +kernel)) (by decide +kernel)
def smn_29 : aM := (66, 1, [(1, 55, 0)], [], [(55, 7, 8), (55, 11, 11)], [(some (0, 0), [], []), (some (1, 1), [], [(55, 5, 0, 5), (55, 7, 1, 1), (55, 8, 0, 5), (55, 11, 0, 0), (57, 0, 0, 7)])])
def lbn_29 : List aLab := []
theorem msn_29 {Ext : gI → Prop} (hX : pSt Ext) : MSok bT Ext MT smn_29 := achk_ok (nm := 297) (sm := [smn_28]) (labs := lbn_29) (sp := []) (fuel := 28) (rE := [(1000000, (2, 0))]) (maxL := 1) (M := mX5_takesKind) mt_X5_takesKind rfl os_X5_takesKind MT_len ((mA.cons (msn_28 hX) mA.nil)) (pE hX (by decide +kernel)) (by decide +kernel)
def smn_30 : aM := (76, 4, [(1, 55, 0)], [], [(55, 7, 11), (57, 0, 1), (58, 0, 7), (59, 0, 7), (60, 0, 7), (61, 0, 199), (62, 0, 3), (63, 0, 3), (64, 0, 3)], [(some (1, 1), [], [(55, 5, 0, 62)]), (some (0, 0), [], [])])
def lbn_30 : List aLab := []
theorem msn_30 {Ext : gI → Prop} (hX : pSt Ext) : MSok bT Ext MT smn_30 := achk_ok (nm := 297) (sm := [smn_13, smn_20, smn_24, smn_25, smn_26, smn_27, smn_19, smn_29]) (labs := lbn_30) (sp := []) (fuel := 17) (rE := [(1000000, (2, 0))]) (maxL := 1) (M := mX5_takes) mt_X5_takes rfl os_X5_takes MT_len ((mA.cons (msn_13 hX) (mA.cons (msn_20 hX) (mA.cons (msn_24 hX) (mA.cons (msn_25 hX) (mA.cons (msn_26 hX) (mA.cons (msn_27 hX) (mA.cons (msn_19 hX) (mA.cons (msn_29 hX) mA.nil))))))))) (pE hX (by decide +kernel)) (by decide +kernel)
def smn_31 : aM := (80, 7, [(1, 55, 0)], [], [(55, 1, 1), (55, 3, 11), (57, 0, 1), (58, 0, 7), (59, 0, 7), (60, 0, 7), (61, 0, 199), (62, 0, 3), (63, 0, 3), (64, 0, 3)], [(some ((-1), 200), [], [(55, 1, 0, 0)])])
def lbn_31 : List aLab := [(10, [some (1, 55), some (0, 0), some (0, 1), some (0, 2), none], [], [((-1), 200, none), (0, 1, none), (0, 2147483647, none)], [], [(99990, (2, 0)), (201, (0, 2)), (99990, (2, 0))])]
theorem msn_31 {Ext : gI → Prop} (hX : pSt Ext) : MSok bT Ext MT smn_31 := achk_ok (nm := 297) (sm := [smn_7, smn_12, smn_30]) (labs := lbn_31) (sp := []) (fuel := 40) (rE := [(1000000, (2, 0)), (0, (2, 0)), (0, (2, 0))]) (maxL := 5) (M := mX5_read) mt_X5_read rfl os_X5_read MT_len ((mA.cons (msn_7 hX) (mA.cons (msn_12 hX) (mA.cons (msn_30 hX) mA.nil)))) (pE hX (by decide +kernel)) (by decide +kernel)
def smn_32 : aM := (0, 1, [(1, 27, 0), (1, 57, 0)], [], [(27, 0, 1), (28, 0, 7), (29, 0, 7), (30, 0, 7), (31, 0, 199)], [(none, [], [])])
def lbn_32 : List aLab := []
theorem msn_32 {Ext : gI → Prop} (hX : pSt Ext) : MSok bT Ext MT smn_32 := achk_ok (nm := 297) (sm := []) (labs := lbn_32) (sp := []) (fuel := 47) (rE := [(1000000, (2, 0))]) (maxL := 2) (M := mX6_copyFrom) mt_X6_copyFrom rfl os_X6_copyFrom MT_len ( mA.nil) (pE hX (by decide +kernel)) (by decide +kernel)
def smn_33 : aM := (211, 8, [(1, 0, 0)], [], [(27, 0, 1), (28, 0, 7), (29, 0, 7), (30, 0, 7), (31, 0, 199), (55, 1, 1), (55, 3, 11), (57, 0, 1), (58, 0, 7), (59, 0, 7), (60, 0, 7), (61, 0, 199), (62, 0, 3), (63, 0, 3), (64, 0, 3)], [(some ((-300), 8), [], [(55, 1, 0, 0)])])
def lbn_33 : List aLab := []
theorem msn_33 {Ext : gI → Prop} (hX : pSt Ext) : MSok bT Ext MT smn_33 := achk_ok (nm := 297) (sm := [smn_31, smn_32]) (labs := lbn_33) (sp := []) (fuel := 23) (rE := [(1000000, (2, 0))]) (maxL := 2) (M := mX11_rules) mt_X11_rules rfl os_X11_rules MT_len ((mA.cons (msn_31 hX) (mA.cons (msn_32 hX) mA.nil))) (pE hX (by decide +kernel)) (by decide +kernel)
-- isLetter: smn_0
-- isIn18: smn_1
-- in18: smn_2
-- add: smn_3
-- isNameOf: smn_5
-- rulesX: smn_33
theorem tr_st : pSt (fun _ => True) := fun _ _ _ _ => trivial
theorem hNM : MSok bT (fun _ => True) MT (129, 1, [(1, 67, 0), (0, 0, 17)], [], [], [(some (0, 1), [], [])]) := weak01 (msn_5 tr_st) (by decide) (by decide) (by decide) (by decide)
theorem pX_wf : pX WP := ⟨WF_st, mA.cons (hf_ms (ms_758 WF_st) (ms_759 WF_st) 8 7 (by decide) (by decide)) (mA.cons (hf_ms (ms_758 WF_st) (ms_759 WF_st) 7 6 (by decide) (by decide)) (mA.cons (hf_ms (ms_758 WF_st) (ms_759 WF_st) 6 5 (by decide) (by decide)) (mA.cons (hf_ms (ms_758 WF_st) (ms_759 WF_st) 5 4 (by decide) (by decide)) (mA.cons (hf_ms (ms_758 WF_st) (ms_759 WF_st) 4 3 (by decide) (by decide)) (mA.cons (hf_ms (ms_758 WF_st) (ms_759 WF_st) 3 2 (by decide) (by decide)) (mA.cons (hf_ms (ms_758 WF_st) (ms_759 WF_st) 2 1 (by decide) (by decide)) (mA.cons (hf_ms (ms_758 WF_st) (ms_759 WF_st) 1 0 (by decide) (by decide)) (mA.nil))))))))⟩
