/-! ===== the answers of sheet, box by box ===== -/
theorem case_v {cs : List aC} {v : Int32} (h : cs.all (fun c => decide (c.1 = some (v.toInt, v.toInt))) = true) : ∀ c ∈ cs, ∀ vs r I, caseOK c vs r I → ∃ x : Int32, r = some (.int x) ∧ x = v := fun c hc vs r I ⟨h1, _, _⟩ => by
  have h2 := of_decide_eq_true (List.all_eq_true.mp h c hc)
  rw [h2] at h1
  obtain ⟨x, e, g1, g2⟩ := h1
  refine ⟨x, e, Int32.toInt_inj.mp ?_⟩
  have g1 : v.toInt ≤ x.toInt := g1
  have g2 : x.toInt ≤ v.toInt := g2
  omega
theorem pb_box {m : aM} {M : gM} {cell d : Nat} {xs : List Int32} {I : gI} {v : Int32} (hm : MSok bT WF MT m) (hM : MT[m.1]? = some M) (hp : m.2.2.2.1 = []) (hh : m.2.1 ≤ 40) (hmd : pOK m.2.2.2.2.1 = true) (hc : m.2.2.2.2.2.all (fun c => decide (c.1 = some (v.toInt, v.toInt))) = true) (hi : aInv bT I) (hw : WF I) (ha : argsOK m.2.2.1 (.ref cell :: xs.map Value.int)) : gg (d + 40) M 0 (gent M.2.2.1 (.ref cell :: xs.map Value.int)) [] I (pbQ (fun x => x = v)) := by
  have h := hm M hM (d + (40 - m.2.1)) (.ref cell :: xs.map Value.int) I ha hi hw (by rw [hp]; exact fun s hs => absurd hs List.not_mem_nil)
  rw [show d + (40 - m.2.1) + m.2.1 = d + 40 by omega] at h
  exact G_mono h (fun r hh ⟨I', e1, e2, e3, c, c1, c2⟩ => ⟨case_v hc c c1 _ r I' c2, I', e1, e2, pE WF_st hmd I I' hw e3⟩)
def fSheet (a b c : Int32) : Int32 := if a.toInt < 0 then -1 else if 3 < a.toInt then -1 else if b.toInt < -1 then -1 else if 4 < b.toInt then -1 else if b.toInt < 0 then 1 else if 40 < c.toInt then -1 else if c.toInt < 0 then -14 else 1
theorem bx3 {cell : Nat} {a b c : Int32} {p1 q1 p2 q2 p3 q3 : Int} (h : (p1 ≤ a.toInt ∧ a.toInt ≤ q1) ∧ (p2 ≤ b.toInt ∧ b.toInt ≤ q2) ∧ (p3 ≤ c.toInt ∧ c.toInt ≤ q3)) : argsOK [(1, (cell : Int), 0), (0, p1, q1), (0, p2, q2), (0, p3, q3)] (.ref cell :: [a, b, c].map Value.int) := ⟨⟨cell, rfl, rfl⟩, ⟨a, rfl, h.1⟩, ⟨b, rfl, h.2.1⟩, ⟨c, rfl, h.2.2⟩, trivial⟩
def smb_0 : aM := (37, 0, [(0, (-2147483648), (-1)), (0, 0, 0), (0, 3, 3)], [], [], [(some (0, 0), [], [])])
def lbb_0 : List aLab := []
theorem msb_0 {Ext : gI → Prop} (hX : pSt Ext) : MSok bT Ext MT smb_0 := achk_ok (nm := 297) (sm := []) (labs := lbb_0) (sp := []) (fuel := 10) (rE := [(1000000, (2, 0))]) (maxL := 3) (M := mX11_isIn) mt_X11_isIn rfl os_X11_isIn MT_len ( mA.nil) (pE hX (by decide +kernel)) (by decide +kernel)
def smb_1 : aM := (103, 1, [(0, (-2147483648), (-1))], [], [], [(some (0, 0), [], [])])
def lbb_1 : List aLab := []
theorem msb_1 {Ext : gI → Prop} (hX : pSt Ext) : MSok bT Ext MT smb_1 := achk_ok (nm := 297) (sm := [smb_0]) (labs := lbb_1) (sp := []) (fuel := 10) (rE := [(1000000, (2, 0))]) (maxL := 1) (M := mX11_isPlace) mt_X11_isPlace rfl os_X11_isPlace MT_len ((mA.cons (msb_0 hX) mA.nil)) (pE hX (by decide +kernel)) (by decide +kernel)
def smb_2 : aM := (269, 2, [(1, 0, 0), (0, (-2147483648), (-1)), (0, (-2147483648), 2147483647), (0, (-2147483648), 2147483647)], [], [], [(some ((-1), (-1)), [], [])])
def lbb_2 : List aLab := []
theorem msb_2 {Ext : gI → Prop} (hX : pSt Ext) : MSok bT Ext MT smb_2 := achk_ok (nm := 297) (sm := [smb_1]) (labs := lbb_2) (sp := []) (fuel := 10) (rE := [(1000000, (2, 0))]) (maxL := 5) (M := mX11_sheet) mt_X11_sheet rfl os_X11_sheet MT_len ((mA.cons (msb_1 hX) mA.nil)) (pE hX (by decide +kernel)) (by decide +kernel)
def smb_3 : aM := (37, 0, [(0, 4, 2147483647), (0, 0, 0), (0, 3, 3)], [], [], [(some (0, 0), [], [])])
def lbb_3 : List aLab := []
theorem msb_3 {Ext : gI → Prop} (hX : pSt Ext) : MSok bT Ext MT smb_3 := achk_ok (nm := 297) (sm := []) (labs := lbb_3) (sp := []) (fuel := 13) (rE := [(1000000, (2, 0))]) (maxL := 3) (M := mX11_isIn) mt_X11_isIn rfl os_X11_isIn MT_len ( mA.nil) (pE hX (by decide +kernel)) (by decide +kernel)
def smb_4 : aM := (103, 1, [(0, 4, 2147483647)], [], [], [(some (0, 0), [], [])])
def lbb_4 : List aLab := []
theorem msb_4 {Ext : gI → Prop} (hX : pSt Ext) : MSok bT Ext MT smb_4 := achk_ok (nm := 297) (sm := [smb_3]) (labs := lbb_4) (sp := []) (fuel := 10) (rE := [(1000000, (2, 0))]) (maxL := 1) (M := mX11_isPlace) mt_X11_isPlace rfl os_X11_isPlace MT_len ((mA.cons (msb_3 hX) mA.nil)) (pE hX (by decide +kernel)) (by decide +kernel)
def smb_5 : aM := (269, 2, [(1, 0, 0), (0, 4, 2147483647), (0, (-2147483648), 2147483647), (0, (-2147483648), 2147483647)], [], [], [(some ((-1), (-1)), [], [])])
def lbb_5 : List aLab := []
theorem msb_5 {Ext : gI → Prop} (hX : pSt Ext) : MSok bT Ext MT smb_5 := achk_ok (nm := 297) (sm := [smb_4]) (labs := lbb_5) (sp := []) (fuel := 10) (rE := [(1000000, (2, 0))]) (maxL := 5) (M := mX11_sheet) mt_X11_sheet rfl os_X11_sheet MT_len ((mA.cons (msb_4 hX) mA.nil)) (pE hX (by decide +kernel)) (by decide +kernel)
def smb_6 : aM := (37, 0, [(0, 0, 3), (0, 0, 0), (0, 3, 3)], [], [], [(some (1, 1), [], [])])
def lbb_6 : List aLab := []
theorem msb_6 {Ext : gI → Prop} (hX : pSt Ext) : MSok bT Ext MT smb_6 := achk_ok (nm := 297) (sm := []) (labs := lbb_6) (sp := []) (fuel := 14) (rE := [(1000000, (2, 0))]) (maxL := 3) (M := mX11_isIn) mt_X11_isIn rfl os_X11_isIn MT_len ( mA.nil) (pE hX (by decide +kernel)) (by decide +kernel)
def smb_7 : aM := (103, 1, [(0, 0, 3)], [], [], [(some (1, 1), [], [])])
def lbb_7 : List aLab := []
theorem msb_7 {Ext : gI → Prop} (hX : pSt Ext) : MSok bT Ext MT smb_7 := achk_ok (nm := 297) (sm := [smb_6]) (labs := lbb_7) (sp := []) (fuel := 10) (rE := [(1000000, (2, 0))]) (maxL := 1) (M := mX11_isPlace) mt_X11_isPlace rfl os_X11_isPlace MT_len ((mA.cons (msb_6 hX) mA.nil)) (pE hX (by decide +kernel)) (by decide +kernel)
def smb_8 : aM := (37, 0, [(0, (-2147483648), (-2)), (0, (-1), (-1)), (0, 4, 4)], [], [], [(some (0, 0), [], [])])
def lbb_8 : List aLab := []
theorem msb_8 {Ext : gI → Prop} (hX : pSt Ext) : MSok bT Ext MT smb_8 := achk_ok (nm := 297) (sm := []) (labs := lbb_8) (sp := []) (fuel := 10) (rE := [(1000000, (2, 0))]) (maxL := 3) (M := mX11_isIn) mt_X11_isIn rfl os_X11_isIn MT_len ( mA.nil) (pE hX (by decide +kernel)) (by decide +kernel)
def smb_9 : aM := (269, 2, [(1, 0, 0), (0, 0, 3), (0, (-2147483648), (-2)), (0, (-2147483648), 2147483647)], [], [], [(some ((-1), (-1)), [], [])])
def lbb_9 : List aLab := []
theorem msb_9 {Ext : gI → Prop} (hX : pSt Ext) : MSok bT Ext MT smb_9 := achk_ok (nm := 297) (sm := [smb_7, smb_8]) (labs := lbb_9) (sp := []) (fuel := 15) (rE := [(1000000, (2, 0))]) (maxL := 5) (M := mX11_sheet) mt_X11_sheet rfl os_X11_sheet MT_len ((mA.cons (msb_7 hX) (mA.cons (msb_8 hX) mA.nil))) (pE hX (by decide +kernel)) (by decide +kernel)
def smb_10 : aM := (37, 0, [(0, 5, 2147483647), (0, (-1), (-1)), (0, 4, 4)], [], [], [(some (0, 0), [], [])])
def lbb_10 : List aLab := []
theorem msb_10 {Ext : gI → Prop} (hX : pSt Ext) : MSok bT Ext MT smb_10 := achk_ok (nm := 297) (sm := []) (labs := lbb_10) (sp := []) (fuel := 13) (rE := [(1000000, (2, 0))]) (maxL := 3) (M := mX11_isIn) mt_X11_isIn rfl os_X11_isIn MT_len ( mA.nil) (pE hX (by decide +kernel)) (by decide +kernel)
def smb_11 : aM := (269, 2, [(1, 0, 0), (0, 0, 3), (0, 5, 2147483647), (0, (-2147483648), 2147483647)], [], [], [(some ((-1), (-1)), [], [])])
def lbb_11 : List aLab := []
theorem msb_11 {Ext : gI → Prop} (hX : pSt Ext) : MSok bT Ext MT smb_11 := achk_ok (nm := 297) (sm := [smb_7, smb_10]) (labs := lbb_11) (sp := []) (fuel := 15) (rE := [(1000000, (2, 0))]) (maxL := 5) (M := mX11_sheet) mt_X11_sheet rfl os_X11_sheet MT_len ((mA.cons (msb_7 hX) (mA.cons (msb_10 hX) mA.nil))) (pE hX (by decide +kernel)) (by decide +kernel)
def smb_12 : aM := (37, 0, [(0, (-1), (-1)), (0, (-1), (-1)), (0, 4, 4)], [], [], [(some (1, 1), [], [])])
def lbb_12 : List aLab := []
theorem msb_12 {Ext : gI → Prop} (hX : pSt Ext) : MSok bT Ext MT smb_12 := achk_ok (nm := 297) (sm := []) (labs := lbb_12) (sp := []) (fuel := 14) (rE := [(1000000, (2, 0))]) (maxL := 3) (M := mX11_isIn) mt_X11_isIn rfl os_X11_isIn MT_len ( mA.nil) (pE hX (by decide +kernel)) (by decide +kernel)
def smb_13 : aM := (269, 2, [(1, 0, 0), (0, 0, 3), (0, (-1), (-1)), (0, (-2147483648), 2147483647)], [], [(2, 0, 3)], [(some (1, 1), [], [])])
def lbb_13 : List aLab := []
theorem msb_13 {Ext : gI → Prop} (hX : pSt Ext) : MSok bT Ext MT smb_13 := achk_ok (nm := 297) (sm := [smb_12, smb_7]) (labs := lbb_13) (sp := []) (fuel := 23) (rE := [(1000000, (2, 0))]) (maxL := 5) (M := mX11_sheet) mt_X11_sheet rfl os_X11_sheet MT_len ((mA.cons (msb_12 hX) (mA.cons (msb_7 hX) mA.nil))) (pE hX (by decide +kernel)) (by decide +kernel)
def smb_14 : aM := (37, 0, [(0, 0, 4), (0, (-1), (-1)), (0, 4, 4)], [], [], [(some (1, 1), [], [])])
def lbb_14 : List aLab := []
theorem msb_14 {Ext : gI → Prop} (hX : pSt Ext) : MSok bT Ext MT smb_14 := achk_ok (nm := 297) (sm := []) (labs := lbb_14) (sp := []) (fuel := 14) (rE := [(1000000, (2, 0))]) (maxL := 3) (M := mX11_isIn) mt_X11_isIn rfl os_X11_isIn MT_len ( mA.nil) (pE hX (by decide +kernel)) (by decide +kernel)
def smb_15 : aM := (269, 2, [(1, 0, 0), (0, 0, 3), (0, 0, 4), (0, 41, 2147483647)], [], [], [(some ((-1), (-1)), [], [])])
def lbb_15 : List aLab := []
theorem msb_15 {Ext : gI → Prop} (hX : pSt Ext) : MSok bT Ext MT smb_15 := achk_ok (nm := 297) (sm := [smb_7, smb_14]) (labs := lbb_15) (sp := []) (fuel := 21) (rE := [(1000000, (2, 0))]) (maxL := 5) (M := mX11_sheet) mt_X11_sheet rfl os_X11_sheet MT_len ((mA.cons (msb_7 hX) (mA.cons (msb_14 hX) mA.nil))) (pE hX (by decide +kernel)) (by decide +kernel)
def smb_16 : aM := (269, 2, [(1, 0, 0), (0, 0, 3), (0, 0, 4), (0, (-2147483648), (-1))], [], [], [(some ((-14), (-14)), [], [])])
def lbb_16 : List aLab := []
theorem msb_16 {Ext : gI → Prop} (hX : pSt Ext) : MSok bT Ext MT smb_16 := achk_ok (nm := 297) (sm := [smb_7, smb_14]) (labs := lbb_16) (sp := []) (fuel := 23) (rE := [(1000000, (2, 0))]) (maxL := 5) (M := mX11_sheet) mt_X11_sheet rfl os_X11_sheet MT_len ((mA.cons (msb_7 hX) (mA.cons (msb_14 hX) mA.nil))) (pE hX (by decide +kernel)) (by decide +kernel)
def smb_17 : aM := (269, 2, [(1, 0, 0), (0, 0, 3), (0, 0, 4), (0, 0, 40)], [], [(2, 0, 3), (3, 0, 3), (5, 0, 39), (6, 0, 39), (7, 0, 39), (8, 0, 39)], [(some (1, 1), [], [])])
def lbb_17 : List aLab := [(48, [some (1, 0), some (0, 0), some (0, 1), some (0, 2), some (0, 3)], [], [(0, 3, none), (0, 4, none), (0, 40, none), (0, 40, none)], [], [(99952, (2, 0)), (40, (0, 3)), (99952, (2, 0))])]
theorem msb_17 {Ext : gI → Prop} (hX : pSt Ext) : MSok bT Ext MT smb_17 := achk_ok (nm := 297) (sm := [smb_7, smb_14]) (labs := lbb_17) (sp := []) (fuel := 29) (rE := [(1000000, (2, 0)), (0, (2, 0)), (0, (2, 0))]) (maxL := 5) (M := mX11_sheet) mt_X11_sheet rfl os_X11_sheet MT_len ((mA.cons (msb_7 hX) (mA.cons (msb_14 hX) mA.nil))) (pE hX (by decide +kernel)) (by decide +kernel)
def smb_18 : aM := (127, 0, [(0, (-2147483648), (-1)), (0, 0, 0), (0, 3, 3)], [], [], [(some (0, 0), [], [])])
def lbb_18 : List aLab := []
theorem msb_18 {Ext : gI → Prop} (hX : pSt Ext) : MSok bT Ext MT smb_18 := achk_ok (nm := 297) (sm := []) (labs := lbb_18) (sp := []) (fuel := 10) (rE := [(1000000, (2, 0))]) (maxL := 3) (M := mX12_in1) mt_X12_in1 rfl os_X12_in1 MT_len ( mA.nil) (pE hX (by decide +kernel)) (by decide +kernel)
def smb_19 : aM := (174, 1, [(0, (-2147483648), (-1))], [], [], [(some (0, 0), [], [])])
def lbb_19 : List aLab := []
theorem msb_19 {Ext : gI → Prop} (hX : pSt Ext) : MSok bT Ext MT smb_19 := achk_ok (nm := 297) (sm := [smb_18]) (labs := lbb_19) (sp := []) (fuel := 10) (rE := [(1000000, (2, 0))]) (maxL := 1) (M := mX12_isSheet) mt_X12_isSheet rfl os_X12_isSheet MT_len ((mA.cons (msb_18 hX) mA.nil)) (pE hX (by decide +kernel)) (by decide +kernel)
def smb_20 : aM := (270, 2, [(1, 67, 0), (0, (-2147483648), (-1)), (0, (-2147483648), 2147483647), (0, (-2147483648), 2147483647)], [], [], [(some ((-1), (-1)), [], [])])
def lbb_20 : List aLab := []
theorem msb_20 {Ext : gI → Prop} (hX : pSt Ext) : MSok bT Ext MT smb_20 := achk_ok (nm := 297) (sm := [smb_19]) (labs := lbb_20) (sp := []) (fuel := 10) (rE := [(1000000, (2, 0))]) (maxL := 5) (M := mX12_sheet) mt_X12_sheet rfl os_X12_sheet MT_len ((mA.cons (msb_19 hX) mA.nil)) (pE hX (by decide +kernel)) (by decide +kernel)
def smb_21 : aM := (127, 0, [(0, 4, 2147483647), (0, 0, 0), (0, 3, 3)], [], [], [(some (0, 0), [], [])])
def lbb_21 : List aLab := []
theorem msb_21 {Ext : gI → Prop} (hX : pSt Ext) : MSok bT Ext MT smb_21 := achk_ok (nm := 297) (sm := []) (labs := lbb_21) (sp := []) (fuel := 13) (rE := [(1000000, (2, 0))]) (maxL := 3) (M := mX12_in1) mt_X12_in1 rfl os_X12_in1 MT_len ( mA.nil) (pE hX (by decide +kernel)) (by decide +kernel)
def smb_22 : aM := (174, 1, [(0, 4, 2147483647)], [], [], [(some (0, 0), [], [])])
def lbb_22 : List aLab := []
theorem msb_22 {Ext : gI → Prop} (hX : pSt Ext) : MSok bT Ext MT smb_22 := achk_ok (nm := 297) (sm := [smb_21]) (labs := lbb_22) (sp := []) (fuel := 10) (rE := [(1000000, (2, 0))]) (maxL := 1) (M := mX12_isSheet) mt_X12_isSheet rfl os_X12_isSheet MT_len ((mA.cons (msb_21 hX) mA.nil)) (pE hX (by decide +kernel)) (by decide +kernel)
def smb_23 : aM := (270, 2, [(1, 67, 0), (0, 4, 2147483647), (0, (-2147483648), 2147483647), (0, (-2147483648), 2147483647)], [], [], [(some ((-1), (-1)), [], [])])
def lbb_23 : List aLab := []
theorem msb_23 {Ext : gI → Prop} (hX : pSt Ext) : MSok bT Ext MT smb_23 := achk_ok (nm := 297) (sm := [smb_22]) (labs := lbb_23) (sp := []) (fuel := 10) (rE := [(1000000, (2, 0))]) (maxL := 5) (M := mX12_sheet) mt_X12_sheet rfl os_X12_sheet MT_len ((mA.cons (msb_22 hX) mA.nil)) (pE hX (by decide +kernel)) (by decide +kernel)
def smb_24 : aM := (127, 0, [(0, 0, 3), (0, 0, 0), (0, 3, 3)], [], [], [(some (1, 1), [], [])])
def lbb_24 : List aLab := []
theorem msb_24 {Ext : gI → Prop} (hX : pSt Ext) : MSok bT Ext MT smb_24 := achk_ok (nm := 297) (sm := []) (labs := lbb_24) (sp := []) (fuel := 14) (rE := [(1000000, (2, 0))]) (maxL := 3) (M := mX12_in1) mt_X12_in1 rfl os_X12_in1 MT_len ( mA.nil) (pE hX (by decide +kernel)) (by decide +kernel)
def smb_25 : aM := (174, 1, [(0, 0, 3)], [], [], [(some (1, 1), [], [])])
def lbb_25 : List aLab := []
theorem msb_25 {Ext : gI → Prop} (hX : pSt Ext) : MSok bT Ext MT smb_25 := achk_ok (nm := 297) (sm := [smb_24]) (labs := lbb_25) (sp := []) (fuel := 10) (rE := [(1000000, (2, 0))]) (maxL := 1) (M := mX12_isSheet) mt_X12_isSheet rfl os_X12_isSheet MT_len ((mA.cons (msb_24 hX) mA.nil)) (pE hX (by decide +kernel)) (by decide +kernel)
def smb_26 : aM := (127, 0, [(0, (-2147483648), (-2)), (0, (-1), (-1)), (0, 4, 4)], [], [], [(some (0, 0), [], [])])
def lbb_26 : List aLab := []
theorem msb_26 {Ext : gI → Prop} (hX : pSt Ext) : MSok bT Ext MT smb_26 := achk_ok (nm := 297) (sm := []) (labs := lbb_26) (sp := []) (fuel := 10) (rE := [(1000000, (2, 0))]) (maxL := 3) (M := mX12_in1) mt_X12_in1 rfl os_X12_in1 MT_len ( mA.nil) (pE hX (by decide +kernel)) (by decide +kernel)
def smb_27 : aM := (270, 2, [(1, 67, 0), (0, 0, 3), (0, (-2147483648), (-2)), (0, (-2147483648), 2147483647)], [], [], [(some ((-1), (-1)), [], [])])
def lbb_27 : List aLab := []
theorem msb_27 {Ext : gI → Prop} (hX : pSt Ext) : MSok bT Ext MT smb_27 := achk_ok (nm := 297) (sm := [smb_25, smb_26]) (labs := lbb_27) (sp := []) (fuel := 15) (rE := [(1000000, (2, 0))]) (maxL := 5) (M := mX12_sheet) mt_X12_sheet rfl os_X12_sheet MT_len ((mA.cons (msb_25 hX) (mA.cons (msb_26 hX) mA.nil))) (pE hX (by decide +kernel)) (by decide +kernel)
def smb_28 : aM := (127, 0, [(0, 5, 2147483647), (0, (-1), (-1)), (0, 4, 4)], [], [], [(some (0, 0), [], [])])
def lbb_28 : List aLab := []
theorem msb_28 {Ext : gI → Prop} (hX : pSt Ext) : MSok bT Ext MT smb_28 := achk_ok (nm := 297) (sm := []) (labs := lbb_28) (sp := []) (fuel := 13) (rE := [(1000000, (2, 0))]) (maxL := 3) (M := mX12_in1) mt_X12_in1 rfl os_X12_in1 MT_len ( mA.nil) (pE hX (by decide +kernel)) (by decide +kernel)
def smb_29 : aM := (270, 2, [(1, 67, 0), (0, 0, 3), (0, 5, 2147483647), (0, (-2147483648), 2147483647)], [], [], [(some ((-1), (-1)), [], [])])
def lbb_29 : List aLab := []
theorem msb_29 {Ext : gI → Prop} (hX : pSt Ext) : MSok bT Ext MT smb_29 := achk_ok (nm := 297) (sm := [smb_25, smb_28]) (labs := lbb_29) (sp := []) (fuel := 15) (rE := [(1000000, (2, 0))]) (maxL := 5) (M := mX12_sheet) mt_X12_sheet rfl os_X12_sheet MT_len ((mA.cons (msb_25 hX) (mA.cons (msb_28 hX) mA.nil))) (pE hX (by decide +kernel)) (by decide +kernel)
def smb_30 : aM := (127, 0, [(0, (-1), (-1)), (0, (-1), (-1)), (0, 4, 4)], [], [], [(some (1, 1), [], [])])
def lbb_30 : List aLab := []
theorem msb_30 {Ext : gI → Prop} (hX : pSt Ext) : MSok bT Ext MT smb_30 := achk_ok (nm := 297) (sm := []) (labs := lbb_30) (sp := []) (fuel := 14) (rE := [(1000000, (2, 0))]) (maxL := 3) (M := mX12_in1) mt_X12_in1 rfl os_X12_in1 MT_len ( mA.nil) (pE hX (by decide +kernel)) (by decide +kernel)
def smb_31 : aM := (270, 2, [(1, 67, 0), (0, 0, 3), (0, (-1), (-1)), (0, (-2147483648), 2147483647)], [], [(82, 0, 3), (83, 0, 3), (84, 0, 159)], [(some (1, 1), [], [])])
def lbb_31 : List aLab := [(64, [some (1, 67), some (0, 0), some (2, (-1)), some (0, 1), some (0, 2)], [], [(0, 3, none), ((-2147483648), 2147483647, none), (0, 40, none)], [], [(99936, (2, 0)), (40, (0, 2)), (99936, (2, 0))])]
theorem msb_31 {Ext : gI → Prop} (hX : pSt Ext) : MSok bT Ext MT smb_31 := achk_ok (nm := 297) (sm := [smb_30, smb_25]) (labs := lbb_31) (sp := []) (fuel := 33) (rE := [(1000000, (2, 0)), (0, (2, 0)), (0, (2, 0))]) (maxL := 5) (M := mX12_sheet) mt_X12_sheet rfl os_X12_sheet MT_len ((mA.cons (msb_30 hX) (mA.cons (msb_25 hX) mA.nil))) (pE hX (by decide +kernel)) (by decide +kernel)
def smb_32 : aM := (127, 0, [(0, 0, 4), (0, (-1), (-1)), (0, 4, 4)], [], [], [(some (1, 1), [], [])])
def lbb_32 : List aLab := []
theorem msb_32 {Ext : gI → Prop} (hX : pSt Ext) : MSok bT Ext MT smb_32 := achk_ok (nm := 297) (sm := []) (labs := lbb_32) (sp := []) (fuel := 14) (rE := [(1000000, (2, 0))]) (maxL := 3) (M := mX12_in1) mt_X12_in1 rfl os_X12_in1 MT_len ( mA.nil) (pE hX (by decide +kernel)) (by decide +kernel)
def smb_33 : aM := (270, 2, [(1, 67, 0), (0, 0, 3), (0, 0, 4), (0, 41, 2147483647)], [], [], [(some ((-1), (-1)), [], [])])
def lbb_33 : List aLab := []
theorem msb_33 {Ext : gI → Prop} (hX : pSt Ext) : MSok bT Ext MT smb_33 := achk_ok (nm := 297) (sm := [smb_25, smb_32]) (labs := lbb_33) (sp := []) (fuel := 20) (rE := [(1000000, (2, 0))]) (maxL := 5) (M := mX12_sheet) mt_X12_sheet rfl os_X12_sheet MT_len ((mA.cons (msb_25 hX) (mA.cons (msb_32 hX) mA.nil))) (pE hX (by decide +kernel)) (by decide +kernel)
def smb_34 : aM := (270, 2, [(1, 67, 0), (0, 0, 3), (0, 0, 4), (0, (-2147483648), (-1))], [], [], [(some ((-14), (-14)), [], [])])
def lbb_34 : List aLab := []
theorem msb_34 {Ext : gI → Prop} (hX : pSt Ext) : MSok bT Ext MT smb_34 := achk_ok (nm := 297) (sm := [smb_25, smb_32]) (labs := lbb_34) (sp := []) (fuel := 24) (rE := [(1000000, (2, 0))]) (maxL := 5) (M := mX12_sheet) mt_X12_sheet rfl os_X12_sheet MT_len ((mA.cons (msb_25 hX) (mA.cons (msb_32 hX) mA.nil))) (pE hX (by decide +kernel)) (by decide +kernel)
def smb_35 : aM := (270, 2, [(1, 67, 0), (0, 0, 3), (0, 0, 4), (0, 0, 40)], [], [(82, 0, 3), (83, 0, 3), (84, 0, 159)], [(some (1, 1), [], [])])
def lbb_35 : List aLab := [(64, [some (1, 67), some (0, 0), some (0, 1), some (0, 2), some (0, 3)], [], [(0, 3, none), (0, 4, none), (0, 40, none), (0, 40, none)], [], [(99936, (2, 0)), (40, (0, 3)), (99936, (2, 0))])]
theorem msb_35 {Ext : gI → Prop} (hX : pSt Ext) : MSok bT Ext MT smb_35 := achk_ok (nm := 297) (sm := [smb_25, smb_32]) (labs := lbb_35) (sp := []) (fuel := 37) (rE := [(1000000, (2, 0)), (0, (2, 0)), (0, (2, 0))]) (maxL := 5) (M := mX12_sheet) mt_X12_sheet rfl os_X12_sheet MT_len ((mA.cons (msb_25 hX) (mA.cons (msb_32 hX) mA.nil))) (pE hX (by decide +kernel)) (by decide +kernel)
theorem pb_sheetX (d : Nat) (a b c : Int32) (I : gI) (hi : aInv bT I) (hw : WF I) : gg (d + 40) mX11_sheet 0 (gent mX11_sheet.2.2.1 (.ref 0 :: [a, b, c].map Value.int)) [] I (pbQ (fun x => x = fSheet a b c)) := by
  have ra : (-2147483648 : Int) ≤ a.toInt ∧ a.toInt ≤ 2147483647 := a_rng a
  have rb : (-2147483648 : Int) ≤ b.toInt ∧ b.toInt ≤ 2147483647 := a_rng b
  have rc : (-2147483648 : Int) ≤ c.toInt ∧ c.toInt ≤ 2147483647 := a_rng c
  unfold fSheet
  split
  · exact pb_box (cell := 0) (xs := [a, b, c]) (msb_2 WF_st) mt_X11_sheet rfl (by decide +kernel) (by decide +kernel) (by decide +kernel) hi hw (bx3 (cell := 0) (by omega))
  split
  · exact pb_box (cell := 0) (xs := [a, b, c]) (msb_5 WF_st) mt_X11_sheet rfl (by decide +kernel) (by decide +kernel) (by decide +kernel) hi hw (bx3 (cell := 0) (by omega))
  split
  · exact pb_box (cell := 0) (xs := [a, b, c]) (msb_9 WF_st) mt_X11_sheet rfl (by decide +kernel) (by decide +kernel) (by decide +kernel) hi hw (bx3 (cell := 0) (by omega))
  split
  · exact pb_box (cell := 0) (xs := [a, b, c]) (msb_11 WF_st) mt_X11_sheet rfl (by decide +kernel) (by decide +kernel) (by decide +kernel) hi hw (bx3 (cell := 0) (by omega))
  split
  · exact pb_box (cell := 0) (xs := [a, b, c]) (msb_13 WF_st) mt_X11_sheet rfl (by decide +kernel) (by decide +kernel) (by decide +kernel) hi hw (bx3 (cell := 0) (by omega))
  split
  · exact pb_box (cell := 0) (xs := [a, b, c]) (msb_15 WF_st) mt_X11_sheet rfl (by decide +kernel) (by decide +kernel) (by decide +kernel) hi hw (bx3 (cell := 0) (by omega))
  split
  · exact pb_box (cell := 0) (xs := [a, b, c]) (msb_16 WF_st) mt_X11_sheet rfl (by decide +kernel) (by decide +kernel) (by decide +kernel) hi hw (bx3 (cell := 0) (by omega))
  exact pb_box (cell := 0) (xs := [a, b, c]) (msb_17 WF_st) mt_X11_sheet rfl (by decide +kernel) (by decide +kernel) (by decide +kernel) hi hw (bx3 (cell := 0) (by omega))
theorem pb_sheetM (d : Nat) (a b c : Int32) (I : gI) (hi : aInv bT I) (hw : WF I) : gg (d + 40) mX12_sheet 0 (gent mX12_sheet.2.2.1 (.ref 67 :: [a, b, c].map Value.int)) [] I (pbQ (fun x => x = fSheet a b c)) := by
  have ra : (-2147483648 : Int) ≤ a.toInt ∧ a.toInt ≤ 2147483647 := a_rng a
  have rb : (-2147483648 : Int) ≤ b.toInt ∧ b.toInt ≤ 2147483647 := a_rng b
  have rc : (-2147483648 : Int) ≤ c.toInt ∧ c.toInt ≤ 2147483647 := a_rng c
  unfold fSheet
  split
  · exact pb_box (cell := 67) (xs := [a, b, c]) (msb_20 WF_st) mt_X12_sheet rfl (by decide +kernel) (by decide +kernel) (by decide +kernel) hi hw (bx3 (cell := 67) (by omega))
  split
  · exact pb_box (cell := 67) (xs := [a, b, c]) (msb_23 WF_st) mt_X12_sheet rfl (by decide +kernel) (by decide +kernel) (by decide +kernel) hi hw (bx3 (cell := 67) (by omega))
  split
  · exact pb_box (cell := 67) (xs := [a, b, c]) (msb_27 WF_st) mt_X12_sheet rfl (by decide +kernel) (by decide +kernel) (by decide +kernel) hi hw (bx3 (cell := 67) (by omega))
  split
  · exact pb_box (cell := 67) (xs := [a, b, c]) (msb_29 WF_st) mt_X12_sheet rfl (by decide +kernel) (by decide +kernel) (by decide +kernel) hi hw (bx3 (cell := 67) (by omega))
  split
  · exact pb_box (cell := 67) (xs := [a, b, c]) (msb_31 WF_st) mt_X12_sheet rfl (by decide +kernel) (by decide +kernel) (by decide +kernel) hi hw (bx3 (cell := 67) (by omega))
  split
  · exact pb_box (cell := 67) (xs := [a, b, c]) (msb_33 WF_st) mt_X12_sheet rfl (by decide +kernel) (by decide +kernel) (by decide +kernel) hi hw (bx3 (cell := 67) (by omega))
  split
  · exact pb_box (cell := 67) (xs := [a, b, c]) (msb_34 WF_st) mt_X12_sheet rfl (by decide +kernel) (by decide +kernel) (by decide +kernel) hi hw (bx3 (cell := 67) (by omega))
  exact pb_box (cell := 67) (xs := [a, b, c]) (msb_35 WF_st) mt_X12_sheet rfl (by decide +kernel) (by decide +kernel) (by decide +kernel) hi hw (bx3 (cell := 67) (by omega))
theorem pb_keepX1 (d : Nat) (I : gI) (hi : aInv bT I) (hw : WF I) : gg (d + 40) mX11_keep 0 (gent 1 [.ref 0]) [] I (pbQ (fun _ => True)) := G_mono (pb_keepX d I hi hw) (fun _ _ ⟨⟨x, e, _⟩, h⟩ => ⟨⟨x, e, trivial⟩, h⟩)
theorem pb_keepM1 (d : Nat) (I : gI) (hi : aInv bT I) (hw : WF I) : gg (d + 40) mX12_keep 0 (gent 2 [.ref 67]) [] I (pbQ (fun _ => True)) := G_mono (pb_keepM d I hi hw) (fun _ _ ⟨⟨x, e, _⟩, h⟩ => ⟨⟨x, e, trivial⟩, h⟩)
