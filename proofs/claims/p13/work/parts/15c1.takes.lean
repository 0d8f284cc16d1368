set_option maxRecDepth 16384 in
/-! ===== what takes a token, by boxes ===== -/
def smk_0 : aM := (37, 0, [(0, 0, 0), (0, 0, 0), (0, 5, 5)], [], [], [(some (1, 1), [], [])])
set_option maxRecDepth 16384 in
def lbk_0 : List aLab := []
set_option maxRecDepth 16384 in
theorem msk_0 {Ext : gI → Prop} (hX : pSt Ext) : MSok bT Ext MT smk_0 := achk_ok (nm := 297) (sm := []) (labs := lbk_0) (sp := []) (fuel := 14) (rE := [(1000000, (2, 0))]) (maxL := 3) (M := mX11_isIn) mt_X11_isIn rfl os_X11_isIn MT_len ( mA.nil) (pE hX (by decide +kernel)) (by decide +kernel)
set_option maxRecDepth 16384 in
def smk_1 : aM := (66, 1, [(1, 55, 0)], [(55, 5, 0, 0), (55, 7, 0, 0), (55, 11, 0, 3), (57, 0, 0, 7)], [(55, 7, 8), (55, 11, 11)], [(some (1, 1), [], [(55, 5, 0, 0), (55, 7, 1, 1), (55, 8, 0, 0), (55, 11, 0, 0), (57, 0, 0, 7)])])
set_option maxRecDepth 16384 in
def lbk_1 : List aLab := []
set_option maxRecDepth 16384 in
theorem msk_1 {Ext : gI → Prop} (hX : pSt Ext) : MSok bT Ext MT smk_1 := achk_ok (nm := 297) (sm := [smk_0]) (labs := lbk_1) (sp := []) (fuel := 28) (rE := [(1000000, (2, 0))]) (maxL := 1) (M := mX5_takesKind) mt_X5_takesKind rfl os_X5_takesKind MT_len ((mA.cons (msk_0 hX) mA.nil)) (pE hX (by decide +kernel)) (by decide +kernel)
set_option maxRecDepth 16384 in
def smk_2 : aM := (76, 2, [(1, 55, 0)], [(55, 5, 0, 0), (55, 7, 0, 0), (55, 11, 0, 3), (57, 0, 0, 7)], [(55, 7, 8), (55, 11, 11)], [(some (1, 1), [], [(55, 5, 0, 0), (55, 7, 1, 1), (55, 8, 0, 0), (55, 11, 0, 0), (57, 0, 0, 7)])])
set_option maxRecDepth 16384 in
def lbk_2 : List aLab := []
set_option maxRecDepth 16384 in
theorem msk_2 {Ext : gI → Prop} (hX : pSt Ext) : MSok bT Ext MT smk_2 := achk_ok (nm := 297) (sm := [smk_1]) (labs := lbk_2) (sp := []) (fuel := 11) (rE := [(1000000, (2, 0))]) (maxL := 1) (M := mX5_takes) mt_X5_takes rfl os_X5_takes MT_len ((mA.cons (msk_1 hX) mA.nil)) (pE hX (by decide +kernel)) (by decide +kernel)
set_option maxRecDepth 16384 in
def smk_3 : aM := (37, 0, [(0, 1, 1), (0, 0, 0), (0, 5, 5)], [], [], [(some (1, 1), [], [])])
set_option maxRecDepth 16384 in
def lbk_3 : List aLab := []
set_option maxRecDepth 16384 in
theorem msk_3 {Ext : gI → Prop} (hX : pSt Ext) : MSok bT Ext MT smk_3 := achk_ok (nm := 297) (sm := []) (labs := lbk_3) (sp := []) (fuel := 14) (rE := [(1000000, (2, 0))]) (maxL := 3) (M := mX11_isIn) mt_X11_isIn rfl os_X11_isIn MT_len ( mA.nil) (pE hX (by decide +kernel)) (by decide +kernel)
set_option maxRecDepth 16384 in
def smk_4 : aM := (66, 1, [(1, 55, 0)], [(55, 5, 1, 1), (55, 7, 0, 0), (55, 11, 0, 3), (57, 0, 0, 7)], [(55, 7, 8), (55, 11, 11)], [(some (1, 1), [], [(55, 5, 1, 1), (55, 7, 1, 1), (55, 8, 1, 1), (55, 11, 0, 0), (57, 0, 0, 7)])])
set_option maxRecDepth 16384 in
def lbk_4 : List aLab := []
set_option maxRecDepth 16384 in
theorem msk_4 {Ext : gI → Prop} (hX : pSt Ext) : MSok bT Ext MT smk_4 := achk_ok (nm := 297) (sm := [smk_3]) (labs := lbk_4) (sp := []) (fuel := 28) (rE := [(1000000, (2, 0))]) (maxL := 1) (M := mX5_takesKind) mt_X5_takesKind rfl os_X5_takesKind MT_len ((mA.cons (msk_3 hX) mA.nil)) (pE hX (by decide +kernel)) (by decide +kernel)
set_option maxRecDepth 16384 in
def smk_5 : aM := (76, 2, [(1, 55, 0)], [(55, 5, 1, 1), (55, 7, 0, 0), (55, 11, 0, 3), (57, 0, 0, 7)], [(55, 7, 8), (55, 11, 11)], [(some (1, 1), [], [(55, 5, 1, 1), (55, 7, 1, 1), (55, 8, 1, 1), (55, 11, 0, 0), (57, 0, 0, 7)])])
set_option maxRecDepth 16384 in
def lbk_5 : List aLab := []
set_option maxRecDepth 16384 in
theorem msk_5 {Ext : gI → Prop} (hX : pSt Ext) : MSok bT Ext MT smk_5 := achk_ok (nm := 297) (sm := [smk_4]) (labs := lbk_5) (sp := []) (fuel := 11) (rE := [(1000000, (2, 0))]) (maxL := 1) (M := mX5_takes) mt_X5_takes rfl os_X5_takes MT_len ((mA.cons (msk_4 hX) mA.nil)) (pE hX (by decide +kernel)) (by decide +kernel)
set_option maxRecDepth 16384 in
def smk_6 : aM := (37, 0, [(0, 2, 2), (0, 0, 0), (0, 5, 5)], [], [], [(some (1, 1), [], [])])
set_option maxRecDepth 16384 in
def lbk_6 : List aLab := []
set_option maxRecDepth 16384 in
theorem msk_6 {Ext : gI → Prop} (hX : pSt Ext) : MSok bT Ext MT smk_6 := achk_ok (nm := 297) (sm := []) (labs := lbk_6) (sp := []) (fuel := 14) (rE := [(1000000, (2, 0))]) (maxL := 3) (M := mX11_isIn) mt_X11_isIn rfl os_X11_isIn MT_len ( mA.nil) (pE hX (by decide +kernel)) (by decide +kernel)
set_option maxRecDepth 16384 in
def smk_7 : aM := (66, 1, [(1, 55, 0)], [(55, 5, 2, 2), (55, 7, 0, 0), (55, 11, 0, 3), (57, 0, 0, 7)], [(55, 7, 8), (55, 11, 11)], [(some (1, 1), [], [(55, 5, 2, 2), (55, 7, 1, 1), (55, 8, 2, 2), (55, 11, 0, 0), (57, 0, 0, 7)])])
set_option maxRecDepth 16384 in
def lbk_7 : List aLab := []
set_option maxRecDepth 16384 in
theorem msk_7 {Ext : gI → Prop} (hX : pSt Ext) : MSok bT Ext MT smk_7 := achk_ok (nm := 297) (sm := [smk_6]) (labs := lbk_7) (sp := []) (fuel := 28) (rE := [(1000000, (2, 0))]) (maxL := 1) (M := mX5_takesKind) mt_X5_takesKind rfl os_X5_takesKind MT_len ((mA.cons (msk_6 hX) mA.nil)) (pE hX (by decide +kernel)) (by decide +kernel)
set_option maxRecDepth 16384 in
def smk_8 : aM := (76, 2, [(1, 55, 0)], [(55, 5, 2, 2), (55, 7, 0, 0), (55, 11, 0, 3), (57, 0, 0, 7)], [(55, 7, 8), (55, 11, 11)], [(some (1, 1), [], [(55, 5, 2, 2), (55, 7, 1, 1), (55, 8, 2, 2), (55, 11, 0, 0), (57, 0, 0, 7)])])
set_option maxRecDepth 16384 in
def lbk_8 : List aLab := []
set_option maxRecDepth 16384 in
theorem msk_8 {Ext : gI → Prop} (hX : pSt Ext) : MSok bT Ext MT smk_8 := achk_ok (nm := 297) (sm := [smk_7]) (labs := lbk_8) (sp := []) (fuel := 11) (rE := [(1000000, (2, 0))]) (maxL := 1) (M := mX5_takes) mt_X5_takes rfl os_X5_takes MT_len ((mA.cons (msk_7 hX) mA.nil)) (pE hX (by decide +kernel)) (by decide +kernel)
set_option maxRecDepth 16384 in
def smk_9 : aM := (37, 0, [(0, 3, 3), (0, 0, 0), (0, 5, 5)], [], [], [(some (1, 1), [], [])])
set_option maxRecDepth 16384 in
def lbk_9 : List aLab := []
set_option maxRecDepth 16384 in
theorem msk_9 {Ext : gI → Prop} (hX : pSt Ext) : MSok bT Ext MT smk_9 := achk_ok (nm := 297) (sm := []) (labs := lbk_9) (sp := []) (fuel := 14) (rE := [(1000000, (2, 0))]) (maxL := 3) (M := mX11_isIn) mt_X11_isIn rfl os_X11_isIn MT_len ( mA.nil) (pE hX (by decide +kernel)) (by decide +kernel)
set_option maxRecDepth 16384 in
def smk_10 : aM := (66, 1, [(1, 55, 0)], [(55, 5, 3, 3), (55, 7, 0, 0), (55, 11, 0, 3), (57, 0, 0, 7)], [(55, 7, 8), (55, 11, 11)], [(some (1, 1), [], [(55, 5, 3, 3), (55, 7, 1, 1), (55, 8, 3, 3), (55, 11, 0, 0), (57, 0, 0, 7)])])
set_option maxRecDepth 16384 in
def lbk_10 : List aLab := []
set_option maxRecDepth 16384 in
theorem msk_10 {Ext : gI → Prop} (hX : pSt Ext) : MSok bT Ext MT smk_10 := achk_ok (nm := 297) (sm := [smk_9]) (labs := lbk_10) (sp := []) (fuel := 28) (rE := [(1000000, (2, 0))]) (maxL := 1) (M := mX5_takesKind) mt_X5_takesKind rfl os_X5_takesKind MT_len ((mA.cons (msk_9 hX) mA.nil)) (pE hX (by decide +kernel)) (by decide +kernel)
set_option maxRecDepth 16384 in
def smk_11 : aM := (76, 2, [(1, 55, 0)], [(55, 5, 3, 3), (55, 7, 0, 0), (55, 11, 0, 3), (57, 0, 0, 7)], [(55, 7, 8), (55, 11, 11)], [(some (1, 1), [], [(55, 5, 3, 3), (55, 7, 1, 1), (55, 8, 3, 3), (55, 11, 0, 0), (57, 0, 0, 7)])])
set_option maxRecDepth 16384 in
def lbk_11 : List aLab := []
set_option maxRecDepth 16384 in
theorem msk_11 {Ext : gI → Prop} (hX : pSt Ext) : MSok bT Ext MT smk_11 := achk_ok (nm := 297) (sm := [smk_10]) (labs := lbk_11) (sp := []) (fuel := 11) (rE := [(1000000, (2, 0))]) (maxL := 1) (M := mX5_takes) mt_X5_takes rfl os_X5_takes MT_len ((mA.cons (msk_10 hX) mA.nil)) (pE hX (by decide +kernel)) (by decide +kernel)
set_option maxRecDepth 16384 in
def smk_12 : aM := (37, 0, [(0, 4, 4), (0, 0, 0), (0, 5, 5)], [], [], [(some (1, 1), [], [])])
set_option maxRecDepth 16384 in
def lbk_12 : List aLab := []
set_option maxRecDepth 16384 in
theorem msk_12 {Ext : gI → Prop} (hX : pSt Ext) : MSok bT Ext MT smk_12 := achk_ok (nm := 297) (sm := []) (labs := lbk_12) (sp := []) (fuel := 14) (rE := [(1000000, (2, 0))]) (maxL := 3) (M := mX11_isIn) mt_X11_isIn rfl os_X11_isIn MT_len ( mA.nil) (pE hX (by decide +kernel)) (by decide +kernel)
set_option maxRecDepth 16384 in
def smk_13 : aM := (66, 1, [(1, 55, 0)], [(55, 5, 4, 4), (55, 7, 0, 0), (55, 11, 0, 3), (57, 0, 0, 7)], [(55, 7, 8), (55, 11, 11)], [(some (1, 1), [], [(55, 5, 4, 4), (55, 7, 1, 1), (55, 8, 4, 4), (55, 11, 0, 0), (57, 0, 0, 7)])])
set_option maxRecDepth 16384 in
def lbk_13 : List aLab := []
set_option maxRecDepth 16384 in
theorem msk_13 {Ext : gI → Prop} (hX : pSt Ext) : MSok bT Ext MT smk_13 := achk_ok (nm := 297) (sm := [smk_12]) (labs := lbk_13) (sp := []) (fuel := 28) (rE := [(1000000, (2, 0))]) (maxL := 1) (M := mX5_takesKind) mt_X5_takesKind rfl os_X5_takesKind MT_len ((mA.cons (msk_12 hX) mA.nil)) (pE hX (by decide +kernel)) (by decide +kernel)
set_option maxRecDepth 16384 in
def smk_14 : aM := (76, 2, [(1, 55, 0)], [(55, 5, 4, 4), (55, 7, 0, 0), (55, 11, 0, 3), (57, 0, 0, 7)], [(55, 7, 8), (55, 11, 11)], [(some (1, 1), [], [(55, 5, 4, 4), (55, 7, 1, 1), (55, 8, 4, 4), (55, 11, 0, 0), (57, 0, 0, 7)])])
set_option maxRecDepth 16384 in
def lbk_14 : List aLab := []
set_option maxRecDepth 16384 in
theorem msk_14 {Ext : gI → Prop} (hX : pSt Ext) : MSok bT Ext MT smk_14 := achk_ok (nm := 297) (sm := [smk_13]) (labs := lbk_14) (sp := []) (fuel := 11) (rE := [(1000000, (2, 0))]) (maxL := 1) (M := mX5_takes) mt_X5_takes rfl os_X5_takes MT_len ((mA.cons (msk_13 hX) mA.nil)) (pE hX (by decide +kernel)) (by decide +kernel)
set_option maxRecDepth 16384 in
def smk_15 : aM := (37, 0, [(0, 5, 5), (0, 0, 0), (0, 5, 5)], [], [], [(some (1, 1), [], [])])
set_option maxRecDepth 16384 in
def lbk_15 : List aLab := []
set_option maxRecDepth 16384 in
theorem msk_15 {Ext : gI → Prop} (hX : pSt Ext) : MSok bT Ext MT smk_15 := achk_ok (nm := 297) (sm := []) (labs := lbk_15) (sp := []) (fuel := 14) (rE := [(1000000, (2, 0))]) (maxL := 3) (M := mX11_isIn) mt_X11_isIn rfl os_X11_isIn MT_len ( mA.nil) (pE hX (by decide +kernel)) (by decide +kernel)
set_option maxRecDepth 16384 in
def smk_16 : aM := (66, 1, [(1, 55, 0)], [(55, 5, 5, 5), (55, 7, 0, 0), (55, 11, 0, 3), (57, 0, 0, 7)], [(55, 7, 8), (55, 11, 11)], [(some (1, 1), [], [(55, 5, 5, 5), (55, 7, 1, 1), (55, 8, 5, 5), (55, 11, 0, 0), (57, 0, 0, 7)])])
set_option maxRecDepth 16384 in
def lbk_16 : List aLab := []
set_option maxRecDepth 16384 in
theorem msk_16 {Ext : gI → Prop} (hX : pSt Ext) : MSok bT Ext MT smk_16 := achk_ok (nm := 297) (sm := [smk_15]) (labs := lbk_16) (sp := []) (fuel := 28) (rE := [(1000000, (2, 0))]) (maxL := 1) (M := mX5_takesKind) mt_X5_takesKind rfl os_X5_takesKind MT_len ((mA.cons (msk_15 hX) mA.nil)) (pE hX (by decide +kernel)) (by decide +kernel)
set_option maxRecDepth 16384 in
def smk_17 : aM := (76, 2, [(1, 55, 0)], [(55, 5, 5, 5), (55, 7, 0, 0), (55, 11, 0, 3), (57, 0, 0, 7)], [(55, 7, 8), (55, 11, 11)], [(some (1, 1), [], [(55, 5, 5, 5), (55, 7, 1, 1), (55, 8, 5, 5), (55, 11, 0, 0), (57, 0, 0, 7)])])
set_option maxRecDepth 16384 in
def lbk_17 : List aLab := []
set_option maxRecDepth 16384 in
theorem msk_17 {Ext : gI → Prop} (hX : pSt Ext) : MSok bT Ext MT smk_17 := achk_ok (nm := 297) (sm := [smk_16]) (labs := lbk_17) (sp := []) (fuel := 11) (rE := [(1000000, (2, 0))]) (maxL := 1) (M := mX5_takes) mt_X5_takes rfl os_X5_takes MT_len ((mA.cons (msk_16 hX) mA.nil)) (pE hX (by decide +kernel)) (by decide +kernel)
set_option maxRecDepth 16384 in
def smk_18 : aM := (37, 0, [(0, (-1), (-1)), (0, 0, 0), (0, 5, 5)], [], [], [(some (0, 0), [], [])])
set_option maxRecDepth 16384 in
def lbk_18 : List aLab := []
set_option maxRecDepth 16384 in
theorem msk_18 {Ext : gI → Prop} (hX : pSt Ext) : MSok bT Ext MT smk_18 := achk_ok (nm := 297) (sm := []) (labs := lbk_18) (sp := []) (fuel := 10) (rE := [(1000000, (2, 0))]) (maxL := 3) (M := mX11_isIn) mt_X11_isIn rfl os_X11_isIn MT_len ( mA.nil) (pE hX (by decide +kernel)) (by decide +kernel)
set_option maxRecDepth 16384 in
def smk_19 : aM := (66, 1, [(1, 55, 0)], [(55, 5, (-1), (-1)), (55, 7, 0, 0), (55, 11, 0, 3), (57, 0, 0, 8)], [], [(some (0, 0), [], [(55, 5, (-1), (-1)), (55, 7, 0, 0)])])
set_option maxRecDepth 16384 in
def lbk_19 : List aLab := []
set_option maxRecDepth 16384 in
theorem msk_19 {Ext : gI → Prop} (hX : pSt Ext) : MSok bT Ext MT smk_19 := achk_ok (nm := 297) (sm := [smk_18]) (labs := lbk_19) (sp := []) (fuel := 18) (rE := [(1000000, (2, 0))]) (maxL := 1) (M := mX5_takesKind) mt_X5_takesKind rfl os_X5_takesKind MT_len ((mA.cons (msk_18 hX) mA.nil)) (pE hX (by decide +kernel)) (by decide +kernel)
set_option maxRecDepth 16384 in
def smk_20 : aM := (76, 2, [(1, 55, 0)], [(55, 5, (-1), (-1)), (55, 7, 0, 0), (55, 11, 0, 3), (57, 0, 0, 8)], [], [(some (0, 0), [], [(55, 5, (-1), (-1)), (55, 7, 0, 0)])])
set_option maxRecDepth 16384 in
def lbk_20 : List aLab := []
set_option maxRecDepth 16384 in
theorem msk_20 {Ext : gI → Prop} (hX : pSt Ext) : MSok bT Ext MT smk_20 := achk_ok (nm := 297) (sm := [smk_19]) (labs := lbk_20) (sp := []) (fuel := 11) (rE := [(1000000, (2, 0))]) (maxL := 1) (M := mX5_takes) mt_X5_takes rfl os_X5_takes MT_len ((mA.cons (msk_19 hX) mA.nil)) (pE hX (by decide +kernel)) (by decide +kernel)
set_option maxRecDepth 16384 in
def smk_21 : aM := (37, 0, [(0, 6, 62), (0, 0, 0), (0, 5, 5)], [], [], [(some (0, 0), [], [])])
set_option maxRecDepth 16384 in
def lbk_21 : List aLab := []
set_option maxRecDepth 16384 in
theorem msk_21 {Ext : gI → Prop} (hX : pSt Ext) : MSok bT Ext MT smk_21 := achk_ok (nm := 297) (sm := []) (labs := lbk_21) (sp := []) (fuel := 13) (rE := [(1000000, (2, 0))]) (maxL := 3) (M := mX11_isIn) mt_X11_isIn rfl os_X11_isIn MT_len ( mA.nil) (pE hX (by decide +kernel)) (by decide +kernel)
set_option maxRecDepth 16384 in
def smk_22 : aM := (66, 1, [(1, 55, 0)], [(55, 5, 6, 62), (55, 7, 0, 0), (55, 11, 0, 3), (57, 0, 0, 8)], [], [(some (0, 0), [], [(55, 5, 6, 62), (55, 7, 0, 0)])])
set_option maxRecDepth 16384 in
def lbk_22 : List aLab := []
set_option maxRecDepth 16384 in
theorem msk_22 {Ext : gI → Prop} (hX : pSt Ext) : MSok bT Ext MT smk_22 := achk_ok (nm := 297) (sm := [smk_21]) (labs := lbk_22) (sp := []) (fuel := 18) (rE := [(1000000, (2, 0))]) (maxL := 1) (M := mX5_takesKind) mt_X5_takesKind rfl os_X5_takesKind MT_len ((mA.cons (msk_21 hX) mA.nil)) (pE hX (by decide +kernel)) (by decide +kernel)
set_option maxRecDepth 16384 in
def smk_23 : aM := (76, 2, [(1, 55, 0)], [(55, 5, 6, 62), (55, 7, 0, 0), (55, 11, 0, 3), (57, 0, 0, 8)], [], [(some (0, 0), [], [(55, 5, 6, 62), (55, 7, 0, 0)])])
set_option maxRecDepth 16384 in
def lbk_23 : List aLab := []
set_option maxRecDepth 16384 in
theorem msk_23 {Ext : gI → Prop} (hX : pSt Ext) : MSok bT Ext MT smk_23 := achk_ok (nm := 297) (sm := [smk_22]) (labs := lbk_23) (sp := []) (fuel := 11) (rE := [(1000000, (2, 0))]) (maxL := 1) (M := mX5_takes) mt_X5_takes rfl os_X5_takes MT_len ((mA.cons (msk_22 hX) mA.nil)) (pE hX (by decide +kernel)) (by decide +kernel)
set_option maxRecDepth 16384 in
def smk_24 : aM := (66, 0, [(1, 55, 0)], [(55, 5, 0, 5), (55, 7, 0, 0), (55, 11, 0, 3), (57, 0, 8, 8)], [], [(some (0, 0), [], [(55, 5, 0, 5), (55, 7, 0, 0), (57, 0, 8, 8)])])
set_option maxRecDepth 16384 in
def lbk_24 : List aLab := []
set_option maxRecDepth 16384 in
theorem msk_24 {Ext : gI → Prop} (hX : pSt Ext) : MSok bT Ext MT smk_24 := achk_ok (nm := 297) (sm := []) (labs := lbk_24) (sp := []) (fuel := 12) (rE := [(1000000, (2, 0))]) (maxL := 1) (M := mX5_takesKind) mt_X5_takesKind rfl os_X5_takesKind MT_len ( mA.nil) (pE hX (by decide +kernel)) (by decide +kernel)
set_option maxRecDepth 16384 in
def smk_25 : aM := (76, 1, [(1, 55, 0)], [(55, 5, 0, 5), (55, 7, 0, 0), (55, 11, 0, 3), (57, 0, 8, 8)], [], [(some (0, 0), [], [(55, 5, 0, 5), (55, 7, 0, 0), (57, 0, 8, 8)])])
set_option maxRecDepth 16384 in
def lbk_25 : List aLab := []
set_option maxRecDepth 16384 in
theorem msk_25 {Ext : gI → Prop} (hX : pSt Ext) : MSok bT Ext MT smk_25 := achk_ok (nm := 297) (sm := [smk_24]) (labs := lbk_25) (sp := []) (fuel := 11) (rE := [(1000000, (2, 0))]) (maxL := 1) (M := mX5_takes) mt_X5_takes rfl os_X5_takes MT_len ((mA.cons (msk_24 hX) mA.nil)) (pE hX (by decide +kernel)) (by decide +kernel)
set_option maxRecDepth 16384 in
def smk_26 : aM := (67, 0, [(1, 55, 0)], [(55, 5, 14, 14), (55, 7, 1, 1), (55, 11, 0, 3), (57, 0, 0, 8)], [(55, 7, 7)], [(some (1, 1), [], [(55, 5, 14, 14), (55, 7, 2, 2)])])
set_option maxRecDepth 16384 in
def lbk_26 : List aLab := []
set_option maxRecDepth 16384 in
theorem msk_26 {Ext : gI → Prop} (hX : pSt Ext) : MSok bT Ext MT smk_26 := achk_ok (nm := 297) (sm := []) (labs := lbk_26) (sp := []) (fuel := 14) (rE := [(1000000, (2, 0))]) (maxL := 1) (M := mX5_takesIf) mt_X5_takesIf rfl os_X5_takesIf MT_len ( mA.nil) (pE hX (by decide +kernel)) (by decide +kernel)
set_option maxRecDepth 16384 in
def smk_27 : aM := (76, 1, [(1, 55, 0)], [(55, 5, 14, 14), (55, 7, 1, 1), (55, 11, 0, 3), (57, 0, 0, 8)], [(55, 7, 7)], [(some (1, 1), [], [(55, 5, 14, 14), (55, 7, 2, 2)])])
set_option maxRecDepth 16384 in
def lbk_27 : List aLab := []
set_option maxRecDepth 16384 in
theorem msk_27 {Ext : gI → Prop} (hX : pSt Ext) : MSok bT Ext MT smk_27 := achk_ok (nm := 297) (sm := [smk_26]) (labs := lbk_27) (sp := []) (fuel := 14) (rE := [(1000000, (2, 0))]) (maxL := 1) (M := mX5_takes) mt_X5_takes rfl os_X5_takes MT_len ((mA.cons (msk_26 hX) mA.nil)) (pE hX (by decide +kernel)) (by decide +kernel)
set_option maxRecDepth 16384 in
def smk_28 : aM := (67, 0, [(1, 55, 0)], [(55, 5, 6, 6), (55, 7, 1, 1), (55, 11, 0, 0), (57, 0, 0, 0)], [], [(some (0, 0), [], [(55, 5, 6, 6), (55, 7, 1, 1), (55, 11, 0, 0), (57, 0, 0, 0)])])
set_option maxRecDepth 16384 in
def lbk_28 : List aLab := []
set_option maxRecDepth 16384 in
theorem msk_28 {Ext : gI → Prop} (hX : pSt Ext) : MSok bT Ext MT smk_28 := achk_ok (nm := 297) (sm := []) (labs := lbk_28) (sp := []) (fuel := 11) (rE := [(1000000, (2, 0))]) (maxL := 1) (M := mX5_takesIf) mt_X5_takesIf rfl os_X5_takesIf MT_len ( mA.nil) (pE hX (by decide +kernel)) (by decide +kernel)
set_option maxRecDepth 16384 in
def smk_29 : aM := (37, 0, [(0, 6, 6), (0, 6, 6), (0, 8, 8)], [], [], [(some (1, 1), [], [])])
set_option maxRecDepth 16384 in
def lbk_29 : List aLab := []
set_option maxRecDepth 16384 in
theorem msk_29 {Ext : gI → Prop} (hX : pSt Ext) : MSok bT Ext MT smk_29 := achk_ok (nm := 297) (sm := []) (labs := lbk_29) (sp := []) (fuel := 14) (rE := [(1000000, (2, 0))]) (maxL := 3) (M := mX11_isIn) mt_X11_isIn rfl os_X11_isIn MT_len ( mA.nil) (pE hX (by decide +kernel)) (by decide +kernel)
set_option maxRecDepth 16384 in
def smk_30 : aM := (60, 0, [(1, 57, 0), (0, (-2147483648), 2147483647)], [], [(57, 1, 1), (61, 0, 199)], [(none, [], [])])
set_option maxRecDepth 16384 in
def lbk_30 : List aLab := []
set_option maxRecDepth 16384 in
theorem msk_30 {Ext : gI → Prop} (hX : pSt Ext) : MSok bT Ext MT smk_30 := achk_ok (nm := 297) (sm := []) (labs := lbk_30) (sp := []) (fuel := 22) (rE := [(1000000, (2, 0))]) (maxL := 2) (M := mX6_addCode) mt_X6_addCode rfl os_X6_addCode MT_len ( mA.nil) (pE hX (by decide +kernel)) (by decide +kernel)
set_option maxRecDepth 16384 in
def smk_31 : aM := (59, 1, [(1, 55, 0)], [(55, 5, 6, 6), (55, 7, 1, 1), (55, 11, 0, 0), (57, 0, 0, 0)], [(57, 1, 1), (61, 0, 199), (64, 0, 0)], [(none, [], [(55, 5, 6, 6), (55, 7, 1, 1), (55, 11, 0, 0), (57, 0, 0, 0)])])
set_option maxRecDepth 16384 in
def lbk_31 : List aLab := []
set_option maxRecDepth 16384 in
theorem msk_31 {Ext : gI → Prop} (hX : pSt Ext) : MSok bT Ext MT smk_31 := achk_ok (nm := 297) (sm := [smk_30]) (labs := lbk_31) (sp := []) (fuel := 22) (rE := [(1000000, (2, 0))]) (maxL := 1) (M := mX5_endCondition) mt_X5_endCondition rfl os_X5_endCondition MT_len ((mA.cons (msk_30 hX) mA.nil)) (pE hX (by decide +kernel)) (by decide +kernel)
set_option maxRecDepth 16384 in
def smk_32 : aM := (61, 0, [(1, 57, 0), (0, (-2147483648), 2147483647), (0, (-2147483648), 2147483647)], [(57, 0, 0, 0)], [(57, 0, 0), (58, 0, 0), (59, 0, 0), (60, 0, 0)], [(none, [], [(57, 0, 1, 1)])])
set_option maxRecDepth 16384 in
def lbk_32 : List aLab := []
set_option maxRecDepth 16384 in
theorem msk_32 {Ext : gI → Prop} (hX : pSt Ext) : MSok bT Ext MT smk_32 := achk_ok (nm := 297) (sm := []) (labs := lbk_32) (sp := []) (fuel := 35) (rE := [(1000000, (2, 0))]) (maxL := 3) (M := mX6_addRule) mt_X6_addRule rfl os_X6_addRule MT_len ( mA.nil) (pE hX (by decide +kernel)) (by decide +kernel)
set_option maxRecDepth 16384 in
def smk_33 : aM := (65, 2, [(1, 55, 0)], [(55, 5, 6, 6), (55, 7, 1, 1), (55, 11, 0, 0), (57, 0, 0, 0)], [(55, 7, 7), (57, 0, 1), (58, 0, 0), (59, 0, 0), (60, 0, 0), (61, 0, 199), (64, 0, 0)], [(some (1, 1), [], [(55, 5, 6, 6), (55, 7, 6, 6), (55, 11, 0, 0), (57, 0, 1, 1)])])
set_option maxRecDepth 16384 in
def lbk_33 : List aLab := []
set_option maxRecDepth 16384 in
theorem msk_33 {Ext : gI → Prop} (hX : pSt Ext) : MSok bT Ext MT smk_33 := achk_ok (nm := 297) (sm := [smk_29, smk_31, smk_32]) (labs := lbk_33) (sp := []) (fuel := 30) (rE := [(1000000, (2, 0))]) (maxL := 1) (M := mX5_takesDo) mt_X5_takesDo rfl os_X5_takesDo MT_len ((mA.cons (msk_29 hX) (mA.cons (msk_31 hX) (mA.cons (msk_32 hX) mA.nil)))) (pE hX (by decide +kernel)) (by decide +kernel)
set_option maxRecDepth 16384 in
def smk_34 : aM := (76, 3, [(1, 55, 0)], [(55, 5, 6, 6), (55, 7, 1, 1), (55, 11, 0, 0), (57, 0, 0, 0)], [(55, 7, 7), (57, 0, 1), (58, 0, 0), (59, 0, 0), (60, 0, 0), (61, 0, 199), (64, 0, 0)], [(some (1, 1), [], [(55, 5, 6, 6), (55, 7, 6, 6), (55, 11, 0, 0), (57, 0, 1, 1)])])
set_option maxRecDepth 16384 in
def lbk_34 : List aLab := []
set_option maxRecDepth 16384 in
theorem msk_34 {Ext : gI → Prop} (hX : pSt Ext) : MSok bT Ext MT smk_34 := achk_ok (nm := 297) (sm := [smk_28, smk_33]) (labs := lbk_34) (sp := []) (fuel := 17) (rE := [(1000000, (2, 0))]) (maxL := 1) (M := mX5_takes) mt_X5_takes rfl os_X5_takes MT_len ((mA.cons (msk_28 hX) (mA.cons (msk_33 hX) mA.nil))) (pE hX (by decide +kernel)) (by decide +kernel)
set_option maxRecDepth 16384 in
def smk_35 : aM := (67, 0, [(1, 55, 0)], [(55, 5, 6, 6), (55, 7, 1, 1), (55, 11, 0, 0), (57, 0, 1, 1)], [], [(some (0, 0), [], [(55, 5, 6, 6), (55, 7, 1, 1), (55, 11, 0, 0), (57, 0, 1, 1)])])
set_option maxRecDepth 16384 in
def lbk_35 : List aLab := []
set_option maxRecDepth 16384 in
theorem msk_35 {Ext : gI → Prop} (hX : pSt Ext) : MSok bT Ext MT smk_35 := achk_ok (nm := 297) (sm := []) (labs := lbk_35) (sp := []) (fuel := 11) (rE := [(1000000, (2, 0))]) (maxL := 1) (M := mX5_takesIf) mt_X5_takesIf rfl os_X5_takesIf MT_len ( mA.nil) (pE hX (by decide +kernel)) (by decide +kernel)
set_option maxRecDepth 16384 in
def smk_36 : aM := (59, 1, [(1, 55, 0)], [(55, 5, 6, 6), (55, 7, 1, 1), (55, 11, 0, 0), (57, 0, 1, 1)], [(57, 1, 1), (61, 0, 199), (64, 0, 0)], [(none, [], [(55, 5, 6, 6), (55, 7, 1, 1), (55, 11, 0, 0), (57, 0, 1, 1)])])
set_option maxRecDepth 16384 in
def lbk_36 : List aLab := []
set_option maxRecDepth 16384 in
theorem msk_36 {Ext : gI → Prop} (hX : pSt Ext) : MSok bT Ext MT smk_36 := achk_ok (nm := 297) (sm := [smk_30]) (labs := lbk_36) (sp := []) (fuel := 22) (rE := [(1000000, (2, 0))]) (maxL := 1) (M := mX5_endCondition) mt_X5_endCondition rfl os_X5_endCondition MT_len ((mA.cons (msk_30 hX) mA.nil)) (pE hX (by decide +kernel)) (by decide +kernel)
set_option maxRecDepth 16384 in
def smk_37 : aM := (61, 0, [(1, 57, 0), (0, (-2147483648), 2147483647), (0, (-2147483648), 2147483647)], [(57, 0, 1, 1)], [(57, 0, 0), (58, 1, 1), (59, 1, 1), (60, 1, 1)], [(none, [], [(57, 0, 2, 2)])])
set_option maxRecDepth 16384 in
def lbk_37 : List aLab := []
set_option maxRecDepth 16384 in
theorem msk_37 {Ext : gI → Prop} (hX : pSt Ext) : MSok bT Ext MT smk_37 := achk_ok (nm := 297) (sm := []) (labs := lbk_37) (sp := []) (fuel := 35) (rE := [(1000000, (2, 0))]) (maxL := 3) (M := mX6_addRule) mt_X6_addRule rfl os_X6_addRule MT_len ( mA.nil) (pE hX (by decide +kernel)) (by decide +kernel)
set_option maxRecDepth 16384 in
def smk_38 : aM := (65, 2, [(1, 55, 0)], [(55, 5, 6, 6), (55, 7, 1, 1), (55, 11, 0, 0), (57, 0, 1, 1)], [(55, 7, 7), (57, 0, 1), (58, 1, 1), (59, 1, 1), (60, 1, 1), (61, 0, 199), (64, 0, 0)], [(some (1, 1), [], [(55, 5, 6, 6), (55, 7, 6, 6), (55, 11, 0, 0), (57, 0, 2, 2)])])
set_option maxRecDepth 16384 in
def lbk_38 : List aLab := []
set_option maxRecDepth 16384 in
theorem msk_38 {Ext : gI → Prop} (hX : pSt Ext) : MSok bT Ext MT smk_38 := achk_ok (nm := 297) (sm := [smk_29, smk_36, smk_37]) (labs := lbk_38) (sp := []) (fuel := 30) (rE := [(1000000, (2, 0))]) (maxL := 1) (M := mX5_takesDo) mt_X5_takesDo rfl os_X5_takesDo MT_len ((mA.cons (msk_29 hX) (mA.cons (msk_36 hX) (mA.cons (msk_37 hX) mA.nil)))) (pE hX (by decide +kernel)) (by decide +kernel)
set_option maxRecDepth 16384 in
def smk_39 : aM := (76, 3, [(1, 55, 0)], [(55, 5, 6, 6), (55, 7, 1, 1), (55, 11, 0, 0), (57, 0, 1, 1)], [(55, 7, 7), (57, 0, 1), (58, 1, 1), (59, 1, 1), (60, 1, 1), (61, 0, 199), (64, 0, 0)], [(some (1, 1), [], [(55, 5, 6, 6), (55, 7, 6, 6), (55, 11, 0, 0), (57, 0, 2, 2)])])
set_option maxRecDepth 16384 in
def lbk_39 : List aLab := []
set_option maxRecDepth 16384 in
theorem msk_39 {Ext : gI → Prop} (hX : pSt Ext) : MSok bT Ext MT smk_39 := achk_ok (nm := 297) (sm := [smk_35, smk_38]) (labs := lbk_39) (sp := []) (fuel := 17) (rE := [(1000000, (2, 0))]) (maxL := 1) (M := mX5_takes) mt_X5_takes rfl os_X5_takes MT_len ((mA.cons (msk_35 hX) (mA.cons (msk_38 hX) mA.nil))) (pE hX (by decide +kernel)) (by decide +kernel)
set_option maxRecDepth 16384 in
def smk_40 : aM := (67, 0, [(1, 55, 0)], [(55, 5, 6, 6), (55, 7, 1, 1), (55, 11, 0, 0), (57, 0, 2, 2)], [], [(some (0, 0), [], [(55, 5, 6, 6), (55, 7, 1, 1), (55, 11, 0, 0), (57, 0, 2, 2)])])
set_option maxRecDepth 16384 in
def lbk_40 : List aLab := []
set_option maxRecDepth 16384 in
theorem msk_40 {Ext : gI → Prop} (hX : pSt Ext) : MSok bT Ext MT smk_40 := achk_ok (nm := 297) (sm := []) (labs := lbk_40) (sp := []) (fuel := 11) (rE := [(1000000, (2, 0))]) (maxL := 1) (M := mX5_takesIf) mt_X5_takesIf rfl os_X5_takesIf MT_len ( mA.nil) (pE hX (by decide +kernel)) (by decide +kernel)
set_option maxRecDepth 16384 in
def smk_41 : aM := (59, 1, [(1, 55, 0)], [(55, 5, 6, 6), (55, 7, 1, 1), (55, 11, 0, 0), (57, 0, 2, 2)], [(57, 1, 1), (61, 0, 199), (64, 0, 0)], [(none, [], [(55, 5, 6, 6), (55, 7, 1, 1), (55, 11, 0, 0), (57, 0, 2, 2)])])
set_option maxRecDepth 16384 in
def lbk_41 : List aLab := []
set_option maxRecDepth 16384 in
theorem msk_41 {Ext : gI → Prop} (hX : pSt Ext) : MSok bT Ext MT smk_41 := achk_ok (nm := 297) (sm := [smk_30]) (labs := lbk_41) (sp := []) (fuel := 22) (rE := [(1000000, (2, 0))]) (maxL := 1) (M := mX5_endCondition) mt_X5_endCondition rfl os_X5_endCondition MT_len ((mA.cons (msk_30 hX) mA.nil)) (pE hX (by decide +kernel)) (by decide +kernel)
set_option maxRecDepth 16384 in
def smk_42 : aM := (61, 0, [(1, 57, 0), (0, (-2147483648), 2147483647), (0, (-2147483648), 2147483647)], [(57, 0, 2, 2)], [(57, 0, 0), (58, 2, 2), (59, 2, 2), (60, 2, 2)], [(none, [], [(57, 0, 3, 3)])])
set_option maxRecDepth 16384 in
def lbk_42 : List aLab := []
set_option maxRecDepth 16384 in
theorem msk_42 {Ext : gI → Prop} (hX : pSt Ext) : MSok bT Ext MT smk_42 := achk_ok (nm := 297) (sm := []) (labs := lbk_42) (sp := []) (fuel := 35) (rE := [(1000000, (2, 0))]) (maxL := 3) (M := mX6_addRule) mt_X6_addRule rfl os_X6_addRule MT_len ( mA.nil) (pE hX (by decide +kernel)) (by decide +kernel)
set_option maxRecDepth 16384 in
def smk_43 : aM := (65, 2, [(1, 55, 0)], [(55, 5, 6, 6), (55, 7, 1, 1), (55, 11, 0, 0), (57, 0, 2, 2)], [(55, 7, 7), (57, 0, 1), (58, 2, 2), (59, 2, 2), (60, 2, 2), (61, 0, 199), (64, 0, 0)], [(some (1, 1), [], [(55, 5, 6, 6), (55, 7, 6, 6), (55, 11, 0, 0), (57, 0, 3, 3)])])
set_option maxRecDepth 16384 in
def lbk_43 : List aLab := []
set_option maxRecDepth 16384 in
theorem msk_43 {Ext : gI → Prop} (hX : pSt Ext) : MSok bT Ext MT smk_43 := achk_ok (nm := 297) (sm := [smk_29, smk_41, smk_42]) (labs := lbk_43) (sp := []) (fuel := 30) (rE := [(1000000, (2, 0))]) (maxL := 1) (M := mX5_takesDo) mt_X5_takesDo rfl os_X5_takesDo MT_len ((mA.cons (msk_29 hX) (mA.cons (msk_41 hX) (mA.cons (msk_42 hX) mA.nil)))) (pE hX (by decide +kernel)) (by decide +kernel)
set_option maxRecDepth 16384 in
def smk_44 : aM := (76, 3, [(1, 55, 0)], [(55, 5, 6, 6), (55, 7, 1, 1), (55, 11, 0, 0), (57, 0, 2, 2)], [(55, 7, 7), (57, 0, 1), (58, 2, 2), (59, 2, 2), (60, 2, 2), (61, 0, 199), (64, 0, 0)], [(some (1, 1), [], [(55, 5, 6, 6), (55, 7, 6, 6), (55, 11, 0, 0), (57, 0, 3, 3)])])
set_option maxRecDepth 16384 in
def lbk_44 : List aLab := []
set_option maxRecDepth 16384 in
theorem msk_44 {Ext : gI → Prop} (hX : pSt Ext) : MSok bT Ext MT smk_44 := achk_ok (nm := 297) (sm := [smk_40, smk_43]) (labs := lbk_44) (sp := []) (fuel := 17) (rE := [(1000000, (2, 0))]) (maxL := 1) (M := mX5_takes) mt_X5_takes rfl os_X5_takes MT_len ((mA.cons (msk_40 hX) (mA.cons (msk_43 hX) mA.nil))) (pE hX (by decide +kernel)) (by decide +kernel)
set_option maxRecDepth 16384 in
def smk_45 : aM := (67, 0, [(1, 55, 0)], [(55, 5, 6, 6), (55, 7, 1, 1), (55, 11, 0, 0), (57, 0, 3, 3)], [], [(some (0, 0), [], [(55, 5, 6, 6), (55, 7, 1, 1), (55, 11, 0, 0), (57, 0, 3, 3)])])
set_option maxRecDepth 16384 in
def lbk_45 : List aLab := []
set_option maxRecDepth 16384 in
theorem msk_45 {Ext : gI → Prop} (hX : pSt Ext) : MSok bT Ext MT smk_45 := achk_ok (nm := 297) (sm := []) (labs := lbk_45) (sp := []) (fuel := 11) (rE := [(1000000, (2, 0))]) (maxL := 1) (M := mX5_takesIf) mt_X5_takesIf rfl os_X5_takesIf MT_len ( mA.nil) (pE hX (by decide +kernel)) (by decide +kernel)
set_option maxRecDepth 16384 in
def smk_46 : aM := (59, 1, [(1, 55, 0)], [(55, 5, 6, 6), (55, 7, 1, 1), (55, 11, 0, 0), (57, 0, 3, 3)], [(57, 1, 1), (61, 0, 199), (64, 0, 0)], [(none, [], [(55, 5, 6, 6), (55, 7, 1, 1), (55, 11, 0, 0), (57, 0, 3, 3)])])
set_option maxRecDepth 16384 in
def lbk_46 : List aLab := []
set_option maxRecDepth 16384 in
theorem msk_46 {Ext : gI → Prop} (hX : pSt Ext) : MSok bT Ext MT smk_46 := achk_ok (nm := 297) (sm := [smk_30]) (labs := lbk_46) (sp := []) (fuel := 22) (rE := [(1000000, (2, 0))]) (maxL := 1) (M := mX5_endCondition) mt_X5_endCondition rfl os_X5_endCondition MT_len ((mA.cons (msk_30 hX) mA.nil)) (pE hX (by decide +kernel)) (by decide +kernel)
set_option maxRecDepth 16384 in
def smk_47 : aM := (61, 0, [(1, 57, 0), (0, (-2147483648), 2147483647), (0, (-2147483648), 2147483647)], [(57, 0, 3, 3)], [(57, 0, 0), (58, 3, 3), (59, 3, 3), (60, 3, 3)], [(none, [], [(57, 0, 4, 4)])])
set_option maxRecDepth 16384 in
def lbk_47 : List aLab := []
set_option maxRecDepth 16384 in
theorem msk_47 {Ext : gI → Prop} (hX : pSt Ext) : MSok bT Ext MT smk_47 := achk_ok (nm := 297) (sm := []) (labs := lbk_47) (sp := []) (fuel := 35) (rE := [(1000000, (2, 0))]) (maxL := 3) (M := mX6_addRule) mt_X6_addRule rfl os_X6_addRule MT_len ( mA.nil) (pE hX (by decide +kernel)) (by decide +kernel)
set_option maxRecDepth 16384 in
def smk_48 : aM := (65, 2, [(1, 55, 0)], [(55, 5, 6, 6), (55, 7, 1, 1), (55, 11, 0, 0), (57, 0, 3, 3)], [(55, 7, 7), (57, 0, 1), (58, 3, 3), (59, 3, 3), (60, 3, 3), (61, 0, 199), (64, 0, 0)], [(some (1, 1), [], [(55, 5, 6, 6), (55, 7, 6, 6), (55, 11, 0, 0), (57, 0, 4, 4)])])
set_option maxRecDepth 16384 in
def lbk_48 : List aLab := []
set_option maxRecDepth 16384 in
theorem msk_48 {Ext : gI → Prop} (hX : pSt Ext) : MSok bT Ext MT smk_48 := achk_ok (nm := 297) (sm := [smk_29, smk_46, smk_47]) (labs := lbk_48) (sp := []) (fuel := 30) (rE := [(1000000, (2, 0))]) (maxL := 1) (M := mX5_takesDo) mt_X5_takesDo rfl os_X5_takesDo MT_len ((mA.cons (msk_29 hX) (mA.cons (msk_46 hX) (mA.cons (msk_47 hX) mA.nil)))) (pE hX (by decide +kernel)) (by decide +kernel)
set_option maxRecDepth 16384 in
def smk_49 : aM := (76, 3, [(1, 55, 0)], [(55, 5, 6, 6), (55, 7, 1, 1), (55, 11, 0, 0), (57, 0, 3, 3)], [(55, 7, 7), (57, 0, 1), (58, 3, 3), (59, 3, 3), (60, 3, 3), (61, 0, 199), (64, 0, 0)], [(some (1, 1), [], [(55, 5, 6, 6), (55, 7, 6, 6), (55, 11, 0, 0), (57, 0, 4, 4)])])
set_option maxRecDepth 16384 in
def lbk_49 : List aLab := []
set_option maxRecDepth 16384 in
theorem msk_49 {Ext : gI → Prop} (hX : pSt Ext) : MSok bT Ext MT smk_49 := achk_ok (nm := 297) (sm := [smk_45, smk_48]) (labs := lbk_49) (sp := []) (fuel := 17) (rE := [(1000000, (2, 0))]) (maxL := 1) (M := mX5_takes) mt_X5_takes rfl os_X5_takes MT_len ((mA.cons (msk_45 hX) (mA.cons (msk_48 hX) mA.nil))) (pE hX (by decide +kernel)) (by decide +kernel)
set_option maxRecDepth 16384 in
def smk_50 : aM := (67, 0, [(1, 55, 0)], [(55, 5, 6, 6), (55, 7, 1, 1), (55, 11, 0, 0), (57, 0, 4, 4)], [], [(some (0, 0), [], [(55, 5, 6, 6), (55, 7, 1, 1), (55, 11, 0, 0), (57, 0, 4, 4)])])
set_option maxRecDepth 16384 in
def lbk_50 : List aLab := []
set_option maxRecDepth 16384 in
theorem msk_50 {Ext : gI → Prop} (hX : pSt Ext) : MSok bT Ext MT smk_50 := achk_ok (nm := 297) (sm := []) (labs := lbk_50) (sp := []) (fuel := 11) (rE := [(1000000, (2, 0))]) (maxL := 1) (M := mX5_takesIf) mt_X5_takesIf rfl os_X5_takesIf MT_len ( mA.nil) (pE hX (by decide +kernel)) (by decide +kernel)
set_option maxRecDepth 16384 in
def smk_51 : aM := (59, 1, [(1, 55, 0)], [(55, 5, 6, 6), (55, 7, 1, 1), (55, 11, 0, 0), (57, 0, 4, 4)], [(57, 1, 1), (61, 0, 199), (64, 0, 0)], [(none, [], [(55, 5, 6, 6), (55, 7, 1, 1), (55, 11, 0, 0), (57, 0, 4, 4)])])
set_option maxRecDepth 16384 in
def lbk_51 : List aLab := []
set_option maxRecDepth 16384 in
theorem msk_51 {Ext : gI → Prop} (hX : pSt Ext) : MSok bT Ext MT smk_51 := achk_ok (nm := 297) (sm := [smk_30]) (labs := lbk_51) (sp := []) (fuel := 22) (rE := [(1000000, (2, 0))]) (maxL := 1) (M := mX5_endCondition) mt_X5_endCondition rfl os_X5_endCondition MT_len ((mA.cons (msk_30 hX) mA.nil)) (pE hX (by decide +kernel)) (by decide +kernel)
set_option maxRecDepth 16384 in
def smk_52 : aM := (61, 0, [(1, 57, 0), (0, (-2147483648), 2147483647), (0, (-2147483648), 2147483647)], [(57, 0, 4, 4)], [(57, 0, 0), (58, 4, 4), (59, 4, 4), (60, 4, 4)], [(none, [], [(57, 0, 5, 5)])])
set_option maxRecDepth 16384 in
def lbk_52 : List aLab := []
set_option maxRecDepth 16384 in
theorem msk_52 {Ext : gI → Prop} (hX : pSt Ext) : MSok bT Ext MT smk_52 := achk_ok (nm := 297) (sm := []) (labs := lbk_52) (sp := []) (fuel := 35) (rE := [(1000000, (2, 0))]) (maxL := 3) (M := mX6_addRule) mt_X6_addRule rfl os_X6_addRule MT_len ( mA.nil) (pE hX (by decide +kernel)) (by decide +kernel)
set_option maxRecDepth 16384 in
def smk_53 : aM := (65, 2, [(1, 55, 0)], [(55, 5, 6, 6), (55, 7, 1, 1), (55, 11, 0, 0), (57, 0, 4, 4)], [(55, 7, 7), (57, 0, 1), (58, 4, 4), (59, 4, 4), (60, 4, 4), (61, 0, 199), (64, 0, 0)], [(some (1, 1), [], [(55, 5, 6, 6), (55, 7, 6, 6), (55, 11, 0, 0), (57, 0, 5, 5)])])
set_option maxRecDepth 16384 in
def lbk_53 : List aLab := []
set_option maxRecDepth 16384 in
theorem msk_53 {Ext : gI → Prop} (hX : pSt Ext) : MSok bT Ext MT smk_53 := achk_ok (nm := 297) (sm := [smk_29, smk_51, smk_52]) (labs := lbk_53) (sp := []) (fuel := 30) (rE := [(1000000, (2, 0))]) (maxL := 1) (M := mX5_takesDo) mt_X5_takesDo rfl os_X5_takesDo MT_len ((mA.cons (msk_29 hX) (mA.cons (msk_51 hX) (mA.cons (msk_52 hX) mA.nil)))) (pE hX (by decide +kernel)) (by decide +kernel)
set_option maxRecDepth 16384 in
def smk_54 : aM := (76, 3, [(1, 55, 0)], [(55, 5, 6, 6), (55, 7, 1, 1), (55, 11, 0, 0), (57, 0, 4, 4)], [(55, 7, 7), (57, 0, 1), (58, 4, 4), (59, 4, 4), (60, 4, 4), (61, 0, 199), (64, 0, 0)], [(some (1, 1), [], [(55, 5, 6, 6), (55, 7, 6, 6), (55, 11, 0, 0), (57, 0, 5, 5)])])
set_option maxRecDepth 16384 in
def lbk_54 : List aLab := []
set_option maxRecDepth 16384 in
theorem msk_54 {Ext : gI → Prop} (hX : pSt Ext) : MSok bT Ext MT smk_54 := achk_ok (nm := 297) (sm := [smk_50, smk_53]) (labs := lbk_54) (sp := []) (fuel := 17) (rE := [(1000000, (2, 0))]) (maxL := 1) (M := mX5_takes) mt_X5_takes rfl os_X5_takes MT_len ((mA.cons (msk_50 hX) (mA.cons (msk_53 hX) mA.nil))) (pE hX (by decide +kernel)) (by decide +kernel)
set_option maxRecDepth 16384 in
def smk_55 : aM := (67, 0, [(1, 55, 0)], [(55, 5, 6, 6), (55, 7, 1, 1), (55, 11, 0, 0), (57, 0, 5, 5)], [], [(some (0, 0), [], [(55, 5, 6, 6), (55, 7, 1, 1), (55, 11, 0, 0), (57, 0, 5, 5)])])
set_option maxRecDepth 16384 in
def lbk_55 : List aLab := []
set_option maxRecDepth 16384 in
theorem msk_55 {Ext : gI → Prop} (hX : pSt Ext) : MSok bT Ext MT smk_55 := achk_ok (nm := 297) (sm := []) (labs := lbk_55) (sp := []) (fuel := 11) (rE := [(1000000, (2, 0))]) (maxL := 1) (M := mX5_takesIf) mt_X5_takesIf rfl os_X5_takesIf MT_len ( mA.nil) (pE hX (by decide +kernel)) (by decide +kernel)
set_option maxRecDepth 16384 in
def smk_56 : aM := (59, 1, [(1, 55, 0)], [(55, 5, 6, 6), (55, 7, 1, 1), (55, 11, 0, 0), (57, 0, 5, 5)], [(57, 1, 1), (61, 0, 199), (64, 0, 0)], [(none, [], [(55, 5, 6, 6), (55, 7, 1, 1), (55, 11, 0, 0), (57, 0, 5, 5)])])
set_option maxRecDepth 16384 in
def lbk_56 : List aLab := []
set_option maxRecDepth 16384 in
theorem msk_56 {Ext : gI → Prop} (hX : pSt Ext) : MSok bT Ext MT smk_56 := achk_ok (nm := 297) (sm := [smk_30]) (labs := lbk_56) (sp := []) (fuel := 22) (rE := [(1000000, (2, 0))]) (maxL := 1) (M := mX5_endCondition) mt_X5_endCondition rfl os_X5_endCondition MT_len ((mA.cons (msk_30 hX) mA.nil)) (pE hX (by decide +kernel)) (by decide +kernel)
set_option maxRecDepth 16384 in
def smk_57 : aM := (61, 0, [(1, 57, 0), (0, (-2147483648), 2147483647), (0, (-2147483648), 2147483647)], [(57, 0, 5, 5)], [(57, 0, 0), (58, 5, 5), (59, 5, 5), (60, 5, 5)], [(none, [], [(57, 0, 6, 6)])])
set_option maxRecDepth 16384 in
def lbk_57 : List aLab := []
set_option maxRecDepth 16384 in
theorem msk_57 {Ext : gI → Prop} (hX : pSt Ext) : MSok bT Ext MT smk_57 := achk_ok (nm := 297) (sm := []) (labs := lbk_57) (sp := []) (fuel := 35) (rE := [(1000000, (2, 0))]) (maxL := 3) (M := mX6_addRule) mt_X6_addRule rfl os_X6_addRule MT_len ( mA.nil) (pE hX (by decide +kernel)) (by decide +kernel)
set_option maxRecDepth 16384 in
def smk_58 : aM := (65, 2, [(1, 55, 0)], [(55, 5, 6, 6), (55, 7, 1, 1), (55, 11, 0, 0), (57, 0, 5, 5)], [(55, 7, 7), (57, 0, 1), (58, 5, 5), (59, 5, 5), (60, 5, 5), (61, 0, 199), (64, 0, 0)], [(some (1, 1), [], [(55, 5, 6, 6), (55, 7, 6, 6), (55, 11, 0, 0), (57, 0, 6, 6)])])
set_option maxRecDepth 16384 in
def lbk_58 : List aLab := []
set_option maxRecDepth 16384 in
theorem msk_58 {Ext : gI → Prop} (hX : pSt Ext) : MSok bT Ext MT smk_58 := achk_ok (nm := 297) (sm := [smk_29, smk_56, smk_57]) (labs := lbk_58) (sp := []) (fuel := 30) (rE := [(1000000, (2, 0))]) (maxL := 1) (M := mX5_takesDo) mt_X5_takesDo rfl os_X5_takesDo MT_len ((mA.cons (msk_29 hX) (mA.cons (msk_56 hX) (mA.cons (msk_57 hX) mA.nil)))) (pE hX (by decide +kernel)) (by decide +kernel)
set_option maxRecDepth 16384 in
def smk_59 : aM := (76, 3, [(1, 55, 0)], [(55, 5, 6, 6), (55, 7, 1, 1), (55, 11, 0, 0), (57, 0, 5, 5)], [(55, 7, 7), (57, 0, 1), (58, 5, 5), (59, 5, 5), (60, 5, 5), (61, 0, 199), (64, 0, 0)], [(some (1, 1), [], [(55, 5, 6, 6), (55, 7, 6, 6), (55, 11, 0, 0), (57, 0, 6, 6)])])
set_option maxRecDepth 16384 in
def lbk_59 : List aLab := []
set_option maxRecDepth 16384 in
theorem msk_59 {Ext : gI → Prop} (hX : pSt Ext) : MSok bT Ext MT smk_59 := achk_ok (nm := 297) (sm := [smk_55, smk_58]) (labs := lbk_59) (sp := []) (fuel := 17) (rE := [(1000000, (2, 0))]) (maxL := 1) (M := mX5_takes) mt_X5_takes rfl os_X5_takes MT_len ((mA.cons (msk_55 hX) (mA.cons (msk_58 hX) mA.nil))) (pE hX (by decide +kernel)) (by decide +kernel)
set_option maxRecDepth 16384 in
def smk_60 : aM := (67, 0, [(1, 55, 0)], [(55, 5, 6, 6), (55, 7, 1, 1), (55, 11, 0, 0), (57, 0, 6, 6)], [], [(some (0, 0), [], [(55, 5, 6, 6), (55, 7, 1, 1), (55, 11, 0, 0), (57, 0, 6, 6)])])
set_option maxRecDepth 16384 in
def lbk_60 : List aLab := []
set_option maxRecDepth 16384 in
theorem msk_60 {Ext : gI → Prop} (hX : pSt Ext) : MSok bT Ext MT smk_60 := achk_ok (nm := 297) (sm := []) (labs := lbk_60) (sp := []) (fuel := 11) (rE := [(1000000, (2, 0))]) (maxL := 1) (M := mX5_takesIf) mt_X5_takesIf rfl os_X5_takesIf MT_len ( mA.nil) (pE hX (by decide +kernel)) (by decide +kernel)
set_option maxRecDepth 16384 in
def smk_61 : aM := (59, 1, [(1, 55, 0)], [(55, 5, 6, 6), (55, 7, 1, 1), (55, 11, 0, 0), (57, 0, 6, 6)], [(57, 1, 1), (61, 0, 199), (64, 0, 0)], [(none, [], [(55, 5, 6, 6), (55, 7, 1, 1), (55, 11, 0, 0), (57, 0, 6, 6)])])
set_option maxRecDepth 16384 in
def lbk_61 : List aLab := []
set_option maxRecDepth 16384 in
theorem msk_61 {Ext : gI → Prop} (hX : pSt Ext) : MSok bT Ext MT smk_61 := achk_ok (nm := 297) (sm := [smk_30]) (labs := lbk_61) (sp := []) (fuel := 22) (rE := [(1000000, (2, 0))]) (maxL := 1) (M := mX5_endCondition) mt_X5_endCondition rfl os_X5_endCondition MT_len ((mA.cons (msk_30 hX) mA.nil)) (pE hX (by decide +kernel)) (by decide +kernel)
set_option maxRecDepth 16384 in
def smk_62 : aM := (61, 0, [(1, 57, 0), (0, (-2147483648), 2147483647), (0, (-2147483648), 2147483647)], [(57, 0, 6, 6)], [(57, 0, 0), (58, 6, 6), (59, 6, 6), (60, 6, 6)], [(none, [], [(57, 0, 7, 7)])])
set_option maxRecDepth 16384 in
def lbk_62 : List aLab := []
set_option maxRecDepth 16384 in
theorem msk_62 {Ext : gI → Prop} (hX : pSt Ext) : MSok bT Ext MT smk_62 := achk_ok (nm := 297) (sm := []) (labs := lbk_62) (sp := []) (fuel := 35) (rE := [(1000000, (2, 0))]) (maxL := 3) (M := mX6_addRule) mt_X6_addRule rfl os_X6_addRule MT_len ( mA.nil) (pE hX (by decide +kernel)) (by decide +kernel)
set_option maxRecDepth 16384 in
def smk_63 : aM := (65, 2, [(1, 55, 0)], [(55, 5, 6, 6), (55, 7, 1, 1), (55, 11, 0, 0), (57, 0, 6, 6)], [(55, 7, 7), (57, 0, 1), (58, 6, 6), (59, 6, 6), (60, 6, 6), (61, 0, 199), (64, 0, 0)], [(some (1, 1), [], [(55, 5, 6, 6), (55, 7, 6, 6), (55, 11, 0, 0), (57, 0, 7, 7)])])
set_option maxRecDepth 16384 in
def lbk_63 : List aLab := []
set_option maxRecDepth 16384 in
theorem msk_63 {Ext : gI → Prop} (hX : pSt Ext) : MSok bT Ext MT smk_63 := achk_ok (nm := 297) (sm := [smk_29, smk_61, smk_62]) (labs := lbk_63) (sp := []) (fuel := 30) (rE := [(1000000, (2, 0))]) (maxL := 1) (M := mX5_takesDo) mt_X5_takesDo rfl os_X5_takesDo MT_len ((mA.cons (msk_29 hX) (mA.cons (msk_61 hX) (mA.cons (msk_62 hX) mA.nil)))) (pE hX (by decide +kernel)) (by decide +kernel)
set_option maxRecDepth 16384 in
def smk_64 : aM := (76, 3, [(1, 55, 0)], [(55, 5, 6, 6), (55, 7, 1, 1), (55, 11, 0, 0), (57, 0, 6, 6)], [(55, 7, 7), (57, 0, 1), (58, 6, 6), (59, 6, 6), (60, 6, 6), (61, 0, 199), (64, 0, 0)], [(some (1, 1), [], [(55, 5, 6, 6), (55, 7, 6, 6), (55, 11, 0, 0), (57, 0, 7, 7)])])
set_option maxRecDepth 16384 in
def lbk_64 : List aLab := []
set_option maxRecDepth 16384 in
theorem msk_64 {Ext : gI → Prop} (hX : pSt Ext) : MSok bT Ext MT smk_64 := achk_ok (nm := 297) (sm := [smk_60, smk_63]) (labs := lbk_64) (sp := []) (fuel := 17) (rE := [(1000000, (2, 0))]) (maxL := 1) (M := mX5_takes) mt_X5_takes rfl os_X5_takes MT_len ((mA.cons (msk_60 hX) (mA.cons (msk_63 hX) mA.nil))) (pE hX (by decide +kernel)) (by decide +kernel)
set_option maxRecDepth 16384 in
def smk_65 : aM := (67, 0, [(1, 55, 0)], [(55, 5, 6, 6), (55, 7, 1, 1), (55, 11, 0, 0), (57, 0, 7, 7)], [], [(some (0, 0), [], [(55, 5, 6, 6), (55, 7, 1, 1), (55, 11, 0, 0), (57, 0, 7, 7)])])
set_option maxRecDepth 16384 in
def lbk_65 : List aLab := []
set_option maxRecDepth 16384 in
theorem msk_65 {Ext : gI → Prop} (hX : pSt Ext) : MSok bT Ext MT smk_65 := achk_ok (nm := 297) (sm := []) (labs := lbk_65) (sp := []) (fuel := 11) (rE := [(1000000, (2, 0))]) (maxL := 1) (M := mX5_takesIf) mt_X5_takesIf rfl os_X5_takesIf MT_len ( mA.nil) (pE hX (by decide +kernel)) (by decide +kernel)
set_option maxRecDepth 16384 in
def smk_66 : aM := (59, 1, [(1, 55, 0)], [(55, 5, 6, 6), (55, 7, 1, 1), (55, 11, 0, 0), (57, 0, 7, 7)], [(57, 1, 1), (61, 0, 199), (64, 0, 0)], [(none, [], [(55, 5, 6, 6), (55, 7, 1, 1), (55, 11, 0, 0), (57, 0, 7, 7)])])
set_option maxRecDepth 16384 in
def lbk_66 : List aLab := []
set_option maxRecDepth 16384 in
theorem msk_66 {Ext : gI → Prop} (hX : pSt Ext) : MSok bT Ext MT smk_66 := achk_ok (nm := 297) (sm := [smk_30]) (labs := lbk_66) (sp := []) (fuel := 22) (rE := [(1000000, (2, 0))]) (maxL := 1) (M := mX5_endCondition) mt_X5_endCondition rfl os_X5_endCondition MT_len ((mA.cons (msk_30 hX) mA.nil)) (pE hX (by decide +kernel)) (by decide +kernel)
set_option maxRecDepth 16384 in
def smk_67 : aM := (61, 0, [(1, 57, 0), (0, (-2147483648), 2147483647), (0, (-2147483648), 2147483647)], [(57, 0, 7, 7)], [(57, 0, 0), (58, 7, 7), (59, 7, 7), (60, 7, 7)], [(none, [], [(57, 0, 8, 8)])])
set_option maxRecDepth 16384 in
def lbk_67 : List aLab := []
set_option maxRecDepth 16384 in
theorem msk_67 {Ext : gI → Prop} (hX : pSt Ext) : MSok bT Ext MT smk_67 := achk_ok (nm := 297) (sm := []) (labs := lbk_67) (sp := []) (fuel := 35) (rE := [(1000000, (2, 0))]) (maxL := 3) (M := mX6_addRule) mt_X6_addRule rfl os_X6_addRule MT_len ( mA.nil) (pE hX (by decide +kernel)) (by decide +kernel)
set_option maxRecDepth 16384 in
def smk_68 : aM := (65, 2, [(1, 55, 0)], [(55, 5, 6, 6), (55, 7, 1, 1), (55, 11, 0, 0), (57, 0, 7, 7)], [(55, 7, 7), (57, 0, 1), (58, 7, 7), (59, 7, 7), (60, 7, 7), (61, 0, 199), (64, 0, 0)], [(some (1, 1), [], [(55, 5, 6, 6), (55, 7, 6, 6), (55, 11, 0, 0), (57, 0, 8, 8)])])
set_option maxRecDepth 16384 in
def lbk_68 : List aLab := []
set_option maxRecDepth 16384 in
theorem msk_68 {Ext : gI → Prop} (hX : pSt Ext) : MSok bT Ext MT smk_68 := achk_ok (nm := 297) (sm := [smk_29, smk_66, smk_67]) (labs := lbk_68) (sp := []) (fuel := 30) (rE := [(1000000, (2, 0))]) (maxL := 1) (M := mX5_takesDo) mt_X5_takesDo rfl os_X5_takesDo MT_len ((mA.cons (msk_29 hX) (mA.cons (msk_66 hX) (mA.cons (msk_67 hX) mA.nil)))) (pE hX (by decide +kernel)) (by decide +kernel)
set_option maxRecDepth 16384 in
def smk_69 : aM := (76, 3, [(1, 55, 0)], [(55, 5, 6, 6), (55, 7, 1, 1), (55, 11, 0, 0), (57, 0, 7, 7)], [(55, 7, 7), (57, 0, 1), (58, 7, 7), (59, 7, 7), (60, 7, 7), (61, 0, 199), (64, 0, 0)], [(some (1, 1), [], [(55, 5, 6, 6), (55, 7, 6, 6), (55, 11, 0, 0), (57, 0, 8, 8)])])
set_option maxRecDepth 16384 in
def lbk_69 : List aLab := []
set_option maxRecDepth 16384 in
theorem msk_69 {Ext : gI → Prop} (hX : pSt Ext) : MSok bT Ext MT smk_69 := achk_ok (nm := 297) (sm := [smk_65, smk_68]) (labs := lbk_69) (sp := []) (fuel := 17) (rE := [(1000000, (2, 0))]) (maxL := 1) (M := mX5_takes) mt_X5_takes rfl os_X5_takes MT_len ((mA.cons (msk_65 hX) (mA.cons (msk_68 hX) mA.nil))) (pE hX (by decide +kernel)) (by decide +kernel)
set_option maxRecDepth 16384 in
def smk_70 : aM := (67, 0, [(1, 55, 0)], [(55, 5, 7, 7), (55, 7, 1, 1), (55, 11, 0, 0), (57, 0, 0, 0)], [], [(some (0, 0), [], [(55, 5, 7, 7), (55, 7, 1, 1), (55, 11, 0, 0), (57, 0, 0, 0)])])
set_option maxRecDepth 16384 in
def lbk_70 : List aLab := []
set_option maxRecDepth 16384 in
theorem msk_70 {Ext : gI → Prop} (hX : pSt Ext) : MSok bT Ext MT smk_70 := achk_ok (nm := 297) (sm := []) (labs := lbk_70) (sp := []) (fuel := 11) (rE := [(1000000, (2, 0))]) (maxL := 1) (M := mX5_takesIf) mt_X5_takesIf rfl os_X5_takesIf MT_len ( mA.nil) (pE hX (by decide +kernel)) (by decide +kernel)
set_option maxRecDepth 16384 in
def smk_71 : aM := (37, 0, [(0, 7, 7), (0, 6, 6), (0, 8, 8)], [], [], [(some (1, 1), [], [])])
set_option maxRecDepth 16384 in
def lbk_71 : List aLab := []
set_option maxRecDepth 16384 in
theorem msk_71 {Ext : gI → Prop} (hX : pSt Ext) : MSok bT Ext MT smk_71 := achk_ok (nm := 297) (sm := []) (labs := lbk_71) (sp := []) (fuel := 14) (rE := [(1000000, (2, 0))]) (maxL := 3) (M := mX11_isIn) mt_X11_isIn rfl os_X11_isIn MT_len ( mA.nil) (pE hX (by decide +kernel)) (by decide +kernel)
set_option maxRecDepth 16384 in
def smk_72 : aM := (59, 1, [(1, 55, 0)], [(55, 5, 7, 7), (55, 7, 1, 1), (55, 11, 0, 0), (57, 0, 0, 0)], [(57, 1, 1), (61, 0, 199), (64, 0, 0)], [(none, [], [(55, 5, 7, 7), (55, 7, 1, 1), (55, 11, 0, 0), (57, 0, 0, 0)])])
set_option maxRecDepth 16384 in
def lbk_72 : List aLab := []
set_option maxRecDepth 16384 in
theorem msk_72 {Ext : gI → Prop} (hX : pSt Ext) : MSok bT Ext MT smk_72 := achk_ok (nm := 297) (sm := [smk_30]) (labs := lbk_72) (sp := []) (fuel := 22) (rE := [(1000000, (2, 0))]) (maxL := 1) (M := mX5_endCondition) mt_X5_endCondition rfl os_X5_endCondition MT_len ((mA.cons (msk_30 hX) mA.nil)) (pE hX (by decide +kernel)) (by decide +kernel)
set_option maxRecDepth 16384 in
def smk_73 : aM := (65, 2, [(1, 55, 0)], [(55, 5, 7, 7), (55, 7, 1, 1), (55, 11, 0, 0), (57, 0, 0, 0)], [(55, 7, 7), (57, 0, 1), (58, 0, 0), (59, 0, 0), (60, 0, 0), (61, 0, 199), (64, 0, 0)], [(some (1, 1), [], [(55, 5, 7, 7), (55, 7, 6, 6), (55, 11, 0, 0), (57, 0, 1, 1)])])
set_option maxRecDepth 16384 in
def lbk_73 : List aLab := []
set_option maxRecDepth 16384 in
theorem msk_73 {Ext : gI → Prop} (hX : pSt Ext) : MSok bT Ext MT smk_73 := achk_ok (nm := 297) (sm := [smk_71, smk_72, smk_32]) (labs := lbk_73) (sp := []) (fuel := 30) (rE := [(1000000, (2, 0))]) (maxL := 1) (M := mX5_takesDo) mt_X5_takesDo rfl os_X5_takesDo MT_len ((mA.cons (msk_71 hX) (mA.cons (msk_72 hX) (mA.cons (msk_32 hX) mA.nil)))) (pE hX (by decide +kernel)) (by decide +kernel)
set_option maxRecDepth 16384 in
def smk_74 : aM := (76, 3, [(1, 55, 0)], [(55, 5, 7, 7), (55, 7, 1, 1), (55, 11, 0, 0), (57, 0, 0, 0)], [(55, 7, 7), (57, 0, 1), (58, 0, 0), (59, 0, 0), (60, 0, 0), (61, 0, 199), (64, 0, 0)], [(some (1, 1), [], [(55, 5, 7, 7), (55, 7, 6, 6), (55, 11, 0, 0), (57, 0, 1, 1)])])
set_option maxRecDepth 16384 in
def lbk_74 : List aLab := []
set_option maxRecDepth 16384 in
theorem msk_74 {Ext : gI → Prop} (hX : pSt Ext) : MSok bT Ext MT smk_74 := achk_ok (nm := 297) (sm := [smk_70, smk_73]) (labs := lbk_74) (sp := []) (fuel := 17) (rE := [(1000000, (2, 0))]) (maxL := 1) (M := mX5_takes) mt_X5_takes rfl os_X5_takes MT_len ((mA.cons (msk_70 hX) (mA.cons (msk_73 hX) mA.nil))) (pE hX (by decide +kernel)) (by decide +kernel)
set_option maxRecDepth 16384 in
def smk_75 : aM := (67, 0, [(1, 55, 0)], [(55, 5, 7, 7), (55, 7, 1, 1), (55, 11, 0, 0), (57, 0, 1, 1)], [], [(some (0, 0), [], [(55, 5, 7, 7), (55, 7, 1, 1), (55, 11, 0, 0), (57, 0, 1, 1)])])
set_option maxRecDepth 16384 in
def lbk_75 : List aLab := []
set_option maxRecDepth 16384 in
theorem msk_75 {Ext : gI → Prop} (hX : pSt Ext) : MSok bT Ext MT smk_75 := achk_ok (nm := 297) (sm := []) (labs := lbk_75) (sp := []) (fuel := 11) (rE := [(1000000, (2, 0))]) (maxL := 1) (M := mX5_takesIf) mt_X5_takesIf rfl os_X5_takesIf MT_len ( mA.nil) (pE hX (by decide +kernel)) (by decide +kernel)
set_option maxRecDepth 16384 in
def smk_76 : aM := (59, 1, [(1, 55, 0)], [(55, 5, 7, 7), (55, 7, 1, 1), (55, 11, 0, 0), (57, 0, 1, 1)], [(57, 1, 1), (61, 0, 199), (64, 0, 0)], [(none, [], [(55, 5, 7, 7), (55, 7, 1, 1), (55, 11, 0, 0), (57, 0, 1, 1)])])
set_option maxRecDepth 16384 in
def lbk_76 : List aLab := []
set_option maxRecDepth 16384 in
theorem msk_76 {Ext : gI → Prop} (hX : pSt Ext) : MSok bT Ext MT smk_76 := achk_ok (nm := 297) (sm := [smk_30]) (labs := lbk_76) (sp := []) (fuel := 22) (rE := [(1000000, (2, 0))]) (maxL := 1) (M := mX5_endCondition) mt_X5_endCondition rfl os_X5_endCondition MT_len ((mA.cons (msk_30 hX) mA.nil)) (pE hX (by decide +kernel)) (by decide +kernel)
set_option maxRecDepth 16384 in
def smk_77 : aM := (65, 2, [(1, 55, 0)], [(55, 5, 7, 7), (55, 7, 1, 1), (55, 11, 0, 0), (57, 0, 1, 1)], [(55, 7, 7), (57, 0, 1), (58, 1, 1), (59, 1, 1), (60, 1, 1), (61, 0, 199), (64, 0, 0)], [(some (1, 1), [], [(55, 5, 7, 7), (55, 7, 6, 6), (55, 11, 0, 0), (57, 0, 2, 2)])])
set_option maxRecDepth 16384 in
def lbk_77 : List aLab := []
set_option maxRecDepth 16384 in
theorem msk_77 {Ext : gI → Prop} (hX : pSt Ext) : MSok bT Ext MT smk_77 := achk_ok (nm := 297) (sm := [smk_71, smk_76, smk_37]) (labs := lbk_77) (sp := []) (fuel := 30) (rE := [(1000000, (2, 0))]) (maxL := 1) (M := mX5_takesDo) mt_X5_takesDo rfl os_X5_takesDo MT_len ((mA.cons (msk_71 hX) (mA.cons (msk_76 hX) (mA.cons (msk_37 hX) mA.nil)))) (pE hX (by decide +kernel)) (by decide +kernel)
set_option maxRecDepth 16384 in
def smk_78 : aM := (76, 3, [(1, 55, 0)], [(55, 5, 7, 7), (55, 7, 1, 1), (55, 11, 0, 0), (57, 0, 1, 1)], [(55, 7, 7), (57, 0, 1), (58, 1, 1), (59, 1, 1), (60, 1, 1), (61, 0, 199), (64, 0, 0)], [(some (1, 1), [], [(55, 5, 7, 7), (55, 7, 6, 6), (55, 11, 0, 0), (57, 0, 2, 2)])])
set_option maxRecDepth 16384 in
def lbk_78 : List aLab := []
set_option maxRecDepth 16384 in
theorem msk_78 {Ext : gI → Prop} (hX : pSt Ext) : MSok bT Ext MT smk_78 := achk_ok (nm := 297) (sm := [smk_75, smk_77]) (labs := lbk_78) (sp := []) (fuel := 17) (rE := [(1000000, (2, 0))]) (maxL := 1) (M := mX5_takes) mt_X5_takes rfl os_X5_takes MT_len ((mA.cons (msk_75 hX) (mA.cons (msk_77 hX) mA.nil))) (pE hX (by decide +kernel)) (by decide +kernel)
set_option maxRecDepth 16384 in
def smk_79 : aM := (67, 0, [(1, 55, 0)], [(55, 5, 7, 7), (55, 7, 1, 1), (55, 11, 0, 0), (57, 0, 2, 2)], [], [(some (0, 0), [], [(55, 5, 7, 7), (55, 7, 1, 1), (55, 11, 0, 0), (57, 0, 2, 2)])])
set_option maxRecDepth 16384 in
def lbk_79 : List aLab := []
set_option maxRecDepth 16384 in
theorem msk_79 {Ext : gI → Prop} (hX : pSt Ext) : MSok bT Ext MT smk_79 := achk_ok (nm := 297) (sm := []) (labs := lbk_79) (sp := []) (fuel := 11) (rE := [(1000000, (2, 0))]) (maxL := 1) (M := mX5_takesIf) mt_X5_takesIf rfl os_X5_takesIf MT_len ( mA.nil) (pE hX (by decide +kernel)) (by decide +kernel)
set_option maxRecDepth 16384 in
def smk_80 : aM := (59, 1, [(1, 55, 0)], [(55, 5, 7, 7), (55, 7, 1, 1), (55, 11, 0, 0), (57, 0, 2, 2)], [(57, 1, 1), (61, 0, 199), (64, 0, 0)], [(none, [], [(55, 5, 7, 7), (55, 7, 1, 1), (55, 11, 0, 0), (57, 0, 2, 2)])])
set_option maxRecDepth 16384 in
def lbk_80 : List aLab := []
set_option maxRecDepth 16384 in
theorem msk_80 {Ext : gI → Prop} (hX : pSt Ext) : MSok bT Ext MT smk_80 := achk_ok (nm := 297) (sm := [smk_30]) (labs := lbk_80) (sp := []) (fuel := 22) (rE := [(1000000, (2, 0))]) (maxL := 1) (M := mX5_endCondition) mt_X5_endCondition rfl os_X5_endCondition MT_len ((mA.cons (msk_30 hX) mA.nil)) (pE hX (by decide +kernel)) (by decide +kernel)
set_option maxRecDepth 16384 in
def smk_81 : aM := (65, 2, [(1, 55, 0)], [(55, 5, 7, 7), (55, 7, 1, 1), (55, 11, 0, 0), (57, 0, 2, 2)], [(55, 7, 7), (57, 0, 1), (58, 2, 2), (59, 2, 2), (60, 2, 2), (61, 0, 199), (64, 0, 0)], [(some (1, 1), [], [(55, 5, 7, 7), (55, 7, 6, 6), (55, 11, 0, 0), (57, 0, 3, 3)])])
set_option maxRecDepth 16384 in
def lbk_81 : List aLab := []
set_option maxRecDepth 16384 in
theorem msk_81 {Ext : gI → Prop} (hX : pSt Ext) : MSok bT Ext MT smk_81 := achk_ok (nm := 297) (sm := [smk_71, smk_80, smk_42]) (labs := lbk_81) (sp := []) (fuel := 30) (rE := [(1000000, (2, 0))]) (maxL := 1) (M := mX5_takesDo) mt_X5_takesDo rfl os_X5_takesDo MT_len ((mA.cons (msk_71 hX) (mA.cons (msk_80 hX) (mA.cons (msk_42 hX) mA.nil)))) (pE hX (by decide +kernel)) (by decide +kernel)
set_option maxRecDepth 16384 in
def smk_82 : aM := (76, 3, [(1, 55, 0)], [(55, 5, 7, 7), (55, 7, 1, 1), (55, 11, 0, 0), (57, 0, 2, 2)], [(55, 7, 7), (57, 0, 1), (58, 2, 2), (59, 2, 2), (60, 2, 2), (61, 0, 199), (64, 0, 0)], [(some (1, 1), [], [(55, 5, 7, 7), (55, 7, 6, 6), (55, 11, 0, 0), (57, 0, 3, 3)])])
set_option maxRecDepth 16384 in
def lbk_82 : List aLab := []
set_option maxRecDepth 16384 in
theorem msk_82 {Ext : gI → Prop} (hX : pSt Ext) : MSok bT Ext MT smk_82 := achk_ok (nm := 297) (sm := [smk_79, smk_81]) (labs := lbk_82) (sp := []) (fuel := 17) (rE := [(1000000, (2, 0))]) (maxL := 1) (M := mX5_takes) mt_X5_takes rfl os_X5_takes MT_len ((mA.cons (msk_79 hX) (mA.cons (msk_81 hX) mA.nil))) (pE hX (by decide +kernel)) (by decide +kernel)
set_option maxRecDepth 16384 in
def smk_83 : aM := (67, 0, [(1, 55, 0)], [(55, 5, 7, 7), (55, 7, 1, 1), (55, 11, 0, 0), (57, 0, 3, 3)], [], [(some (0, 0), [], [(55, 5, 7, 7), (55, 7, 1, 1), (55, 11, 0, 0), (57, 0, 3, 3)])])
set_option maxRecDepth 16384 in
def lbk_83 : List aLab := []
set_option maxRecDepth 16384 in
theorem msk_83 {Ext : gI → Prop} (hX : pSt Ext) : MSok bT Ext MT smk_83 := achk_ok (nm := 297) (sm := []) (labs := lbk_83) (sp := []) (fuel := 11) (rE := [(1000000, (2, 0))]) (maxL := 1) (M := mX5_takesIf) mt_X5_takesIf rfl os_X5_takesIf MT_len ( mA.nil) (pE hX (by decide +kernel)) (by decide +kernel)
set_option maxRecDepth 16384 in
def smk_84 : aM := (59, 1, [(1, 55, 0)], [(55, 5, 7, 7), (55, 7, 1, 1), (55, 11, 0, 0), (57, 0, 3, 3)], [(57, 1, 1), (61, 0, 199), (64, 0, 0)], [(none, [], [(55, 5, 7, 7), (55, 7, 1, 1), (55, 11, 0, 0), (57, 0, 3, 3)])])
set_option maxRecDepth 16384 in
def lbk_84 : List aLab := []
set_option maxRecDepth 16384 in
theorem msk_84 {Ext : gI → Prop} (hX : pSt Ext) : MSok bT Ext MT smk_84 := achk_ok (nm := 297) (sm := [smk_30]) (labs := lbk_84) (sp := []) (fuel := 22) (rE := [(1000000, (2, 0))]) (maxL := 1) (M := mX5_endCondition) mt_X5_endCondition rfl os_X5_endCondition MT_len ((mA.cons (msk_30 hX) mA.nil)) (pE hX (by decide +kernel)) (by decide +kernel)
set_option maxRecDepth 16384 in
def smk_85 : aM := (65, 2, [(1, 55, 0)], [(55, 5, 7, 7), (55, 7, 1, 1), (55, 11, 0, 0), (57, 0, 3, 3)], [(55, 7, 7), (57, 0, 1), (58, 3, 3), (59, 3, 3), (60, 3, 3), (61, 0, 199), (64, 0, 0)], [(some (1, 1), [], [(55, 5, 7, 7), (55, 7, 6, 6), (55, 11, 0, 0), (57, 0, 4, 4)])])
set_option maxRecDepth 16384 in
def lbk_85 : List aLab := []
set_option maxRecDepth 16384 in
theorem msk_85 {Ext : gI → Prop} (hX : pSt Ext) : MSok bT Ext MT smk_85 := achk_ok (nm := 297) (sm := [smk_71, smk_84, smk_47]) (labs := lbk_85) (sp := []) (fuel := 30) (rE := [(1000000, (2, 0))]) (maxL := 1) (M := mX5_takesDo) mt_X5_takesDo rfl os_X5_takesDo MT_len ((mA.cons (msk_71 hX) (mA.cons (msk_84 hX) (mA.cons (msk_47 hX) mA.nil)))) (pE hX (by decide +kernel)) (by decide +kernel)
set_option maxRecDepth 16384 in
def smk_86 : aM := (76, 3, [(1, 55, 0)], [(55, 5, 7, 7), (55, 7, 1, 1), (55, 11, 0, 0), (57, 0, 3, 3)], [(55, 7, 7), (57, 0, 1), (58, 3, 3), (59, 3, 3), (60, 3, 3), (61, 0, 199), (64, 0, 0)], [(some (1, 1), [], [(55, 5, 7, 7), (55, 7, 6, 6), (55, 11, 0, 0), (57, 0, 4, 4)])])
set_option maxRecDepth 16384 in
def lbk_86 : List aLab := []
set_option maxRecDepth 16384 in
theorem msk_86 {Ext : gI → Prop} (hX : pSt Ext) : MSok bT Ext MT smk_86 := achk_ok (nm := 297) (sm := [smk_83, smk_85]) (labs := lbk_86) (sp := []) (fuel := 17) (rE := [(1000000, (2, 0))]) (maxL := 1) (M := mX5_takes) mt_X5_takes rfl os_X5_takes MT_len ((mA.cons (msk_83 hX) (mA.cons (msk_85 hX) mA.nil))) (pE hX (by decide +kernel)) (by decide +kernel)
set_option maxRecDepth 16384 in
def smk_87 : aM := (67, 0, [(1, 55, 0)], [(55, 5, 7, 7), (55, 7, 1, 1), (55, 11, 0, 0), (57, 0, 4, 4)], [], [(some (0, 0), [], [(55, 5, 7, 7), (55, 7, 1, 1), (55, 11, 0, 0), (57, 0, 4, 4)])])
set_option maxRecDepth 16384 in
def lbk_87 : List aLab := []
set_option maxRecDepth 16384 in
theorem msk_87 {Ext : gI → Prop} (hX : pSt Ext) : MSok bT Ext MT smk_87 := achk_ok (nm := 297) (sm := []) (labs := lbk_87) (sp := []) (fuel := 11) (rE := [(1000000, (2, 0))]) (maxL := 1) (M := mX5_takesIf) mt_X5_takesIf rfl os_X5_takesIf MT_len ( mA.nil) (pE hX (by decide +kernel)) (by decide +kernel)
set_option maxRecDepth 16384 in
def smk_88 : aM := (59, 1, [(1, 55, 0)], [(55, 5, 7, 7), (55, 7, 1, 1), (55, 11, 0, 0), (57, 0, 4, 4)], [(57, 1, 1), (61, 0, 199), (64, 0, 0)], [(none, [], [(55, 5, 7, 7), (55, 7, 1, 1), (55, 11, 0, 0), (57, 0, 4, 4)])])
set_option maxRecDepth 16384 in
def lbk_88 : List aLab := []
set_option maxRecDepth 16384 in
theorem msk_88 {Ext : gI → Prop} (hX : pSt Ext) : MSok bT Ext MT smk_88 := achk_ok (nm := 297) (sm := [smk_30]) (labs := lbk_88) (sp := []) (fuel := 22) (rE := [(1000000, (2, 0))]) (maxL := 1) (M := mX5_endCondition) mt_X5_endCondition rfl os_X5_endCondition MT_len ((mA.cons (msk_30 hX) mA.nil)) (pE hX (by decide +kernel)) (by decide +kernel)
set_option maxRecDepth 16384 in
def smk_89 : aM := (65, 2, [(1, 55, 0)], [(55, 5, 7, 7), (55, 7, 1, 1), (55, 11, 0, 0), (57, 0, 4, 4)], [(55, 7, 7), (57, 0, 1), (58, 4, 4), (59, 4, 4), (60, 4, 4), (61, 0, 199), (64, 0, 0)], [(some (1, 1), [], [(55, 5, 7, 7), (55, 7, 6, 6), (55, 11, 0, 0), (57, 0, 5, 5)])])
set_option maxRecDepth 16384 in
def lbk_89 : List aLab := []
set_option maxRecDepth 16384 in
theorem msk_89 {Ext : gI → Prop} (hX : pSt Ext) : MSok bT Ext MT smk_89 := achk_ok (nm := 297) (sm := [smk_71, smk_88, smk_52]) (labs := lbk_89) (sp := []) (fuel := 30) (rE := [(1000000, (2, 0))]) (maxL := 1) (M := mX5_takesDo) mt_X5_takesDo rfl os_X5_takesDo MT_len ((mA.cons (msk_71 hX) (mA.cons (msk_88 hX) (mA.cons (msk_52 hX) mA.nil)))) (pE hX (by decide +kernel)) (by decide +kernel)
set_option maxRecDepth 16384 in
def smk_90 : aM := (76, 3, [(1, 55, 0)], [(55, 5, 7, 7), (55, 7, 1, 1), (55, 11, 0, 0), (57, 0, 4, 4)], [(55, 7, 7), (57, 0, 1), (58, 4, 4), (59, 4, 4), (60, 4, 4), (61, 0, 199), (64, 0, 0)], [(some (1, 1), [], [(55, 5, 7, 7), (55, 7, 6, 6), (55, 11, 0, 0), (57, 0, 5, 5)])])
set_option maxRecDepth 16384 in
def lbk_90 : List aLab := []
set_option maxRecDepth 16384 in
theorem msk_90 {Ext : gI → Prop} (hX : pSt Ext) : MSok bT Ext MT smk_90 := achk_ok (nm := 297) (sm := [smk_87, smk_89]) (labs := lbk_90) (sp := []) (fuel := 17) (rE := [(1000000, (2, 0))]) (maxL := 1) (M := mX5_takes) mt_X5_takes rfl os_X5_takes MT_len ((mA.cons (msk_87 hX) (mA.cons (msk_89 hX) mA.nil))) (pE hX (by decide +kernel)) (by decide +kernel)
set_option maxRecDepth 16384 in
def smk_91 : aM := (67, 0, [(1, 55, 0)], [(55, 5, 7, 7), (55, 7, 1, 1), (55, 11, 0, 0), (57, 0, 5, 5)], [], [(some (0, 0), [], [(55, 5, 7, 7), (55, 7, 1, 1), (55, 11, 0, 0), (57, 0, 5, 5)])])
set_option maxRecDepth 16384 in
def lbk_91 : List aLab := []
set_option maxRecDepth 16384 in
theorem msk_91 {Ext : gI → Prop} (hX : pSt Ext) : MSok bT Ext MT smk_91 := achk_ok (nm := 297) (sm := []) (labs := lbk_91) (sp := []) (fuel := 11) (rE := [(1000000, (2, 0))]) (maxL := 1) (M := mX5_takesIf) mt_X5_takesIf rfl os_X5_takesIf MT_len ( mA.nil) (pE hX (by decide +kernel)) (by decide +kernel)
set_option maxRecDepth 16384 in
def smk_92 : aM := (59, 1, [(1, 55, 0)], [(55, 5, 7, 7), (55, 7, 1, 1), (55, 11, 0, 0), (57, 0, 5, 5)], [(57, 1, 1), (61, 0, 199), (64, 0, 0)], [(none, [], [(55, 5, 7, 7), (55, 7, 1, 1), (55, 11, 0, 0), (57, 0, 5, 5)])])
set_option maxRecDepth 16384 in
def lbk_92 : List aLab := []
set_option maxRecDepth 16384 in
theorem msk_92 {Ext : gI → Prop} (hX : pSt Ext) : MSok bT Ext MT smk_92 := achk_ok (nm := 297) (sm := [smk_30]) (labs := lbk_92) (sp := []) (fuel := 22) (rE := [(1000000, (2, 0))]) (maxL := 1) (M := mX5_endCondition) mt_X5_endCondition rfl os_X5_endCondition MT_len ((mA.cons (msk_30 hX) mA.nil)) (pE hX (by decide +kernel)) (by decide +kernel)
set_option maxRecDepth 16384 in
def smk_93 : aM := (65, 2, [(1, 55, 0)], [(55, 5, 7, 7), (55, 7, 1, 1), (55, 11, 0, 0), (57, 0, 5, 5)], [(55, 7, 7), (57, 0, 1), (58, 5, 5), (59, 5, 5), (60, 5, 5), (61, 0, 199), (64, 0, 0)], [(some (1, 1), [], [(55, 5, 7, 7), (55, 7, 6, 6), (55, 11, 0, 0), (57, 0, 6, 6)])])
set_option maxRecDepth 16384 in
def lbk_93 : List aLab := []
set_option maxRecDepth 16384 in
theorem msk_93 {Ext : gI → Prop} (hX : pSt Ext) : MSok bT Ext MT smk_93 := achk_ok (nm := 297) (sm := [smk_71, smk_92, smk_57]) (labs := lbk_93) (sp := []) (fuel := 30) (rE := [(1000000, (2, 0))]) (maxL := 1) (M := mX5_takesDo) mt_X5_takesDo rfl os_X5_takesDo MT_len ((mA.cons (msk_71 hX) (mA.cons (msk_92 hX) (mA.cons (msk_57 hX) mA.nil)))) (pE hX (by decide +kernel)) (by decide +kernel)
set_option maxRecDepth 16384 in
def smk_94 : aM := (76, 3, [(1, 55, 0)], [(55, 5, 7, 7), (55, 7, 1, 1), (55, 11, 0, 0), (57, 0, 5, 5)], [(55, 7, 7), (57, 0, 1), (58, 5, 5), (59, 5, 5), (60, 5, 5), (61, 0, 199), (64, 0, 0)], [(some (1, 1), [], [(55, 5, 7, 7), (55, 7, 6, 6), (55, 11, 0, 0), (57, 0, 6, 6)])])
set_option maxRecDepth 16384 in
def lbk_94 : List aLab := []
set_option maxRecDepth 16384 in
theorem msk_94 {Ext : gI → Prop} (hX : pSt Ext) : MSok bT Ext MT smk_94 := achk_ok (nm := 297) (sm := [smk_91, smk_93]) (labs := lbk_94) (sp := []) (fuel := 17) (rE := [(1000000, (2, 0))]) (maxL := 1) (M := mX5_takes) mt_X5_takes rfl os_X5_takes MT_len ((mA.cons (msk_91 hX) (mA.cons (msk_93 hX) mA.nil))) (pE hX (by decide +kernel)) (by decide +kernel)
set_option maxRecDepth 16384 in
def smk_95 : aM := (67, 0, [(1, 55, 0)], [(55, 5, 7, 7), (55, 7, 1, 1), (55, 11, 0, 0), (57, 0, 6, 6)], [], [(some (0, 0), [], [(55, 5, 7, 7), (55, 7, 1, 1), (55, 11, 0, 0), (57, 0, 6, 6)])])
set_option maxRecDepth 16384 in
def lbk_95 : List aLab := []
set_option maxRecDepth 16384 in
theorem msk_95 {Ext : gI → Prop} (hX : pSt Ext) : MSok bT Ext MT smk_95 := achk_ok (nm := 297) (sm := []) (labs := lbk_95) (sp := []) (fuel := 11) (rE := [(1000000, (2, 0))]) (maxL := 1) (M := mX5_takesIf) mt_X5_takesIf rfl os_X5_takesIf MT_len ( mA.nil) (pE hX (by decide +kernel)) (by decide +kernel)
set_option maxRecDepth 16384 in
def smk_96 : aM := (59, 1, [(1, 55, 0)], [(55, 5, 7, 7), (55, 7, 1, 1), (55, 11, 0, 0), (57, 0, 6, 6)], [(57, 1, 1), (61, 0, 199), (64, 0, 0)], [(none, [], [(55, 5, 7, 7), (55, 7, 1, 1), (55, 11, 0, 0), (57, 0, 6, 6)])])
set_option maxRecDepth 16384 in
def lbk_96 : List aLab := []
set_option maxRecDepth 16384 in
theorem msk_96 {Ext : gI → Prop} (hX : pSt Ext) : MSok bT Ext MT smk_96 := achk_ok (nm := 297) (sm := [smk_30]) (labs := lbk_96) (sp := []) (fuel := 22) (rE := [(1000000, (2, 0))]) (maxL := 1) (M := mX5_endCondition) mt_X5_endCondition rfl os_X5_endCondition MT_len ((mA.cons (msk_30 hX) mA.nil)) (pE hX (by decide +kernel)) (by decide +kernel)
set_option maxRecDepth 16384 in
def smk_97 : aM := (65, 2, [(1, 55, 0)], [(55, 5, 7, 7), (55, 7, 1, 1), (55, 11, 0, 0), (57, 0, 6, 6)], [(55, 7, 7), (57, 0, 1), (58, 6, 6), (59, 6, 6), (60, 6, 6), (61, 0, 199), (64, 0, 0)], [(some (1, 1), [], [(55, 5, 7, 7), (55, 7, 6, 6), (55, 11, 0, 0), (57, 0, 7, 7)])])
set_option maxRecDepth 16384 in
def lbk_97 : List aLab := []
set_option maxRecDepth 16384 in
theorem msk_97 {Ext : gI → Prop} (hX : pSt Ext) : MSok bT Ext MT smk_97 := achk_ok (nm := 297) (sm := [smk_71, smk_96, smk_62]) (labs := lbk_97) (sp := []) (fuel := 30) (rE := [(1000000, (2, 0))]) (maxL := 1) (M := mX5_takesDo) mt_X5_takesDo rfl os_X5_takesDo MT_len ((mA.cons (msk_71 hX) (mA.cons (msk_96 hX) (mA.cons (msk_62 hX) mA.nil)))) (pE hX (by decide +kernel)) (by decide +kernel)
set_option maxRecDepth 16384 in
def smk_98 : aM := (76, 3, [(1, 55, 0)], [(55, 5, 7, 7), (55, 7, 1, 1), (55, 11, 0, 0), (57, 0, 6, 6)], [(55, 7, 7), (57, 0, 1), (58, 6, 6), (59, 6, 6), (60, 6, 6), (61, 0, 199), (64, 0, 0)], [(some (1, 1), [], [(55, 5, 7, 7), (55, 7, 6, 6), (55, 11, 0, 0), (57, 0, 7, 7)])])
set_option maxRecDepth 16384 in
def lbk_98 : List aLab := []
set_option maxRecDepth 16384 in
theorem msk_98 {Ext : gI → Prop} (hX : pSt Ext) : MSok bT Ext MT smk_98 := achk_ok (nm := 297) (sm := [smk_95, smk_97]) (labs := lbk_98) (sp := []) (fuel := 17) (rE := [(1000000, (2, 0))]) (maxL := 1) (M := mX5_takes) mt_X5_takes rfl os_X5_takes MT_len ((mA.cons (msk_95 hX) (mA.cons (msk_97 hX) mA.nil))) (pE hX (by decide +kernel)) (by decide +kernel)
set_option maxRecDepth 16384 in
def smk_99 : aM := (67, 0, [(1, 55, 0)], [(55, 5, 7, 7), (55, 7, 1, 1), (55, 11, 0, 0), (57, 0, 7, 7)], [], [(some (0, 0), [], [(55, 5, 7, 7), (55, 7, 1, 1), (55, 11, 0, 0), (57, 0, 7, 7)])])
set_option maxRecDepth 16384 in
def lbk_99 : List aLab := []
set_option maxRecDepth 16384 in
theorem msk_99 {Ext : gI → Prop} (hX : pSt Ext) : MSok bT Ext MT smk_99 := achk_ok (nm := 297) (sm := []) (labs := lbk_99) (sp := []) (fuel := 11) (rE := [(1000000, (2, 0))]) (maxL := 1) (M := mX5_takesIf) mt_X5_takesIf rfl os_X5_takesIf MT_len ( mA.nil) (pE hX (by decide +kernel)) (by decide +kernel)
set_option maxRecDepth 16384 in
def smk_100 : aM := (59, 1, [(1, 55, 0)], [(55, 5, 7, 7), (55, 7, 1, 1), (55, 11, 0, 0), (57, 0, 7, 7)], [(57, 1, 1), (61, 0, 199), (64, 0, 0)], [(none, [], [(55, 5, 7, 7), (55, 7, 1, 1), (55, 11, 0, 0), (57, 0, 7, 7)])])
set_option maxRecDepth 16384 in
def lbk_100 : List aLab := []
set_option maxRecDepth 16384 in
theorem msk_100 {Ext : gI → Prop} (hX : pSt Ext) : MSok bT Ext MT smk_100 := achk_ok (nm := 297) (sm := [smk_30]) (labs := lbk_100) (sp := []) (fuel := 22) (rE := [(1000000, (2, 0))]) (maxL := 1) (M := mX5_endCondition) mt_X5_endCondition rfl os_X5_endCondition MT_len ((mA.cons (msk_30 hX) mA.nil)) (pE hX (by decide +kernel)) (by decide +kernel)
set_option maxRecDepth 16384 in
def smk_101 : aM := (65, 2, [(1, 55, 0)], [(55, 5, 7, 7), (55, 7, 1, 1), (55, 11, 0, 0), (57, 0, 7, 7)], [(55, 7, 7), (57, 0, 1), (58, 7, 7), (59, 7, 7), (60, 7, 7), (61, 0, 199), (64, 0, 0)], [(some (1, 1), [], [(55, 5, 7, 7), (55, 7, 6, 6), (55, 11, 0, 0), (57, 0, 8, 8)])])
set_option maxRecDepth 16384 in
def lbk_101 : List aLab := []
set_option maxRecDepth 16384 in
theorem msk_101 {Ext : gI → Prop} (hX : pSt Ext) : MSok bT Ext MT smk_101 := achk_ok (nm := 297) (sm := [smk_71, smk_100, smk_67]) (labs := lbk_101) (sp := []) (fuel := 30) (rE := [(1000000, (2, 0))]) (maxL := 1) (M := mX5_takesDo) mt_X5_takesDo rfl os_X5_takesDo MT_len ((mA.cons (msk_71 hX) (mA.cons (msk_100 hX) (mA.cons (msk_67 hX) mA.nil)))) (pE hX (by decide +kernel)) (by decide +kernel)
set_option maxRecDepth 16384 in
def smk_102 : aM := (76, 3, [(1, 55, 0)], [(55, 5, 7, 7), (55, 7, 1, 1), (55, 11, 0, 0), (57, 0, 7, 7)], [(55, 7, 7), (57, 0, 1), (58, 7, 7), (59, 7, 7), (60, 7, 7), (61, 0, 199), (64, 0, 0)], [(some (1, 1), [], [(55, 5, 7, 7), (55, 7, 6, 6), (55, 11, 0, 0), (57, 0, 8, 8)])])
set_option maxRecDepth 16384 in
def lbk_102 : List aLab := []
set_option maxRecDepth 16384 in
theorem msk_102 {Ext : gI → Prop} (hX : pSt Ext) : MSok bT Ext MT smk_102 := achk_ok (nm := 297) (sm := [smk_99, smk_101]) (labs := lbk_102) (sp := []) (fuel := 17) (rE := [(1000000, (2, 0))]) (maxL := 1) (M := mX5_takes) mt_X5_takes rfl os_X5_takes MT_len ((mA.cons (msk_99 hX) (mA.cons (msk_101 hX) mA.nil))) (pE hX (by decide +kernel)) (by decide +kernel)
set_option maxRecDepth 16384 in
def smk_103 : aM := (67, 0, [(1, 55, 0)], [(55, 5, 8, 8), (55, 7, 1, 1), (55, 11, 0, 0), (57, 0, 0, 0)], [], [(some (0, 0), [], [(55, 5, 8, 8), (55, 7, 1, 1), (55, 11, 0, 0), (57, 0, 0, 0)])])
set_option maxRecDepth 16384 in
def lbk_103 : List aLab := []
set_option maxRecDepth 16384 in
theorem msk_103 {Ext : gI → Prop} (hX : pSt Ext) : MSok bT Ext MT smk_103 := achk_ok (nm := 297) (sm := []) (labs := lbk_103) (sp := []) (fuel := 11) (rE := [(1000000, (2, 0))]) (maxL := 1) (M := mX5_takesIf) mt_X5_takesIf rfl os_X5_takesIf MT_len ( mA.nil) (pE hX (by decide +kernel)) (by decide +kernel)
set_option maxRecDepth 16384 in
def smk_104 : aM := (37, 0, [(0, 8, 8), (0, 6, 6), (0, 8, 8)], [], [], [(some (1, 1), [], [])])
set_option maxRecDepth 16384 in
def lbk_104 : List aLab := []
set_option maxRecDepth 16384 in
theorem msk_104 {Ext : gI → Prop} (hX : pSt Ext) : MSok bT Ext MT smk_104 := achk_ok (nm := 297) (sm := []) (labs := lbk_104) (sp := []) (fuel := 14) (rE := [(1000000, (2, 0))]) (maxL := 3) (M := mX11_isIn) mt_X11_isIn rfl os_X11_isIn MT_len ( mA.nil) (pE hX (by decide +kernel)) (by decide +kernel)
set_option maxRecDepth 16384 in
def smk_105 : aM := (59, 1, [(1, 55, 0)], [(55, 5, 8, 8), (55, 7, 1, 1), (55, 11, 0, 0), (57, 0, 0, 0)], [(57, 1, 1), (61, 0, 199), (64, 0, 0)], [(none, [], [(55, 5, 8, 8), (55, 7, 1, 1), (55, 11, 0, 0), (57, 0, 0, 0)])])
set_option maxRecDepth 16384 in
def lbk_105 : List aLab := []
set_option maxRecDepth 16384 in
theorem msk_105 {Ext : gI → Prop} (hX : pSt Ext) : MSok bT Ext MT smk_105 := achk_ok (nm := 297) (sm := [smk_30]) (labs := lbk_105) (sp := []) (fuel := 22) (rE := [(1000000, (2, 0))]) (maxL := 1) (M := mX5_endCondition) mt_X5_endCondition rfl os_X5_endCondition MT_len ((mA.cons (msk_30 hX) mA.nil)) (pE hX (by decide +kernel)) (by decide +kernel)
set_option maxRecDepth 16384 in
def smk_106 : aM := (65, 2, [(1, 55, 0)], [(55, 5, 8, 8), (55, 7, 1, 1), (55, 11, 0, 0), (57, 0, 0, 0)], [(55, 7, 7), (57, 0, 1), (58, 0, 0), (59, 0, 0), (60, 0, 0), (61, 0, 199), (64, 0, 0)], [(some (1, 1), [], [(55, 5, 8, 8), (55, 7, 6, 6), (55, 11, 0, 0), (57, 0, 1, 1)])])
set_option maxRecDepth 16384 in
def lbk_106 : List aLab := []
set_option maxRecDepth 16384 in
theorem msk_106 {Ext : gI → Prop} (hX : pSt Ext) : MSok bT Ext MT smk_106 := achk_ok (nm := 297) (sm := [smk_104, smk_105, smk_32]) (labs := lbk_106) (sp := []) (fuel := 30) (rE := [(1000000, (2, 0))]) (maxL := 1) (M := mX5_takesDo) mt_X5_takesDo rfl os_X5_takesDo MT_len ((mA.cons (msk_104 hX) (mA.cons (msk_105 hX) (mA.cons (msk_32 hX) mA.nil)))) (pE hX (by decide +kernel)) (by decide +kernel)
set_option maxRecDepth 16384 in
def smk_107 : aM := (76, 3, [(1, 55, 0)], [(55, 5, 8, 8), (55, 7, 1, 1), (55, 11, 0, 0), (57, 0, 0, 0)], [(55, 7, 7), (57, 0, 1), (58, 0, 0), (59, 0, 0), (60, 0, 0), (61, 0, 199), (64, 0, 0)], [(some (1, 1), [], [(55, 5, 8, 8), (55, 7, 6, 6), (55, 11, 0, 0), (57, 0, 1, 1)])])
set_option maxRecDepth 16384 in
def lbk_107 : List aLab := []
set_option maxRecDepth 16384 in
theorem msk_107 {Ext : gI → Prop} (hX : pSt Ext) : MSok bT Ext MT smk_107 := achk_ok (nm := 297) (sm := [smk_103, smk_106]) (labs := lbk_107) (sp := []) (fuel := 17) (rE := [(1000000, (2, 0))]) (maxL := 1) (M := mX5_takes) mt_X5_takes rfl os_X5_takes MT_len ((mA.cons (msk_103 hX) (mA.cons (msk_106 hX) mA.nil))) (pE hX (by decide +kernel)) (by decide +kernel)
set_option maxRecDepth 16384 in
def smk_108 : aM := (67, 0, [(1, 55, 0)], [(55, 5, 8, 8), (55, 7, 1, 1), (55, 11, 0, 0), (57, 0, 1, 1)], [], [(some (0, 0), [], [(55, 5, 8, 8), (55, 7, 1, 1), (55, 11, 0, 0), (57, 0, 1, 1)])])
set_option maxRecDepth 16384 in
def lbk_108 : List aLab := []
set_option maxRecDepth 16384 in
theorem msk_108 {Ext : gI → Prop} (hX : pSt Ext) : MSok bT Ext MT smk_108 := achk_ok (nm := 297) (sm := []) (labs := lbk_108) (sp := []) (fuel := 11) (rE := [(1000000, (2, 0))]) (maxL := 1) (M := mX5_takesIf) mt_X5_takesIf rfl os_X5_takesIf MT_len ( mA.nil) (pE hX (by decide +kernel)) (by decide +kernel)
set_option maxRecDepth 16384 in
def smk_109 : aM := (59, 1, [(1, 55, 0)], [(55, 5, 8, 8), (55, 7, 1, 1), (55, 11, 0, 0), (57, 0, 1, 1)], [(57, 1, 1), (61, 0, 199), (64, 0, 0)], [(none, [], [(55, 5, 8, 8), (55, 7, 1, 1), (55, 11, 0, 0), (57, 0, 1, 1)])])
set_option maxRecDepth 16384 in
def lbk_109 : List aLab := []
set_option maxRecDepth 16384 in
theorem msk_109 {Ext : gI → Prop} (hX : pSt Ext) : MSok bT Ext MT smk_109 := achk_ok (nm := 297) (sm := [smk_30]) (labs := lbk_109) (sp := []) (fuel := 22) (rE := [(1000000, (2, 0))]) (maxL := 1) (M := mX5_endCondition) mt_X5_endCondition rfl os_X5_endCondition MT_len ((mA.cons (msk_30 hX) mA.nil)) (pE hX (by decide +kernel)) (by decide +kernel)
set_option maxRecDepth 16384 in
def smk_110 : aM := (65, 2, [(1, 55, 0)], [(55, 5, 8, 8), (55, 7, 1, 1), (55, 11, 0, 0), (57, 0, 1, 1)], [(55, 7, 7), (57, 0, 1), (58, 1, 1), (59, 1, 1), (60, 1, 1), (61, 0, 199), (64, 0, 0)], [(some (1, 1), [], [(55, 5, 8, 8), (55, 7, 6, 6), (55, 11, 0, 0), (57, 0, 2, 2)])])
set_option maxRecDepth 16384 in
def lbk_110 : List aLab := []
set_option maxRecDepth 16384 in
theorem msk_110 {Ext : gI → Prop} (hX : pSt Ext) : MSok bT Ext MT smk_110 := achk_ok (nm := 297) (sm := [smk_104, smk_109, smk_37]) (labs := lbk_110) (sp := []) (fuel := 30) (rE := [(1000000, (2, 0))]) (maxL := 1) (M := mX5_takesDo) mt_X5_takesDo rfl os_X5_takesDo MT_len ((mA.cons (msk_104 hX) (mA.cons (msk_109 hX) (mA.cons (msk_37 hX) mA.nil)))) (pE hX (by decide +kernel)) (by decide +kernel)
set_option maxRecDepth 16384 in
def smk_111 : aM := (76, 3, [(1, 55, 0)], [(55, 5, 8, 8), (55, 7, 1, 1), (55, 11, 0, 0), (57, 0, 1, 1)], [(55, 7, 7), (57, 0, 1), (58, 1, 1), (59, 1, 1), (60, 1, 1), (61, 0, 199), (64, 0, 0)], [(some (1, 1), [], [(55, 5, 8, 8), (55, 7, 6, 6), (55, 11, 0, 0), (57, 0, 2, 2)])])
set_option maxRecDepth 16384 in
def lbk_111 : List aLab := []
set_option maxRecDepth 16384 in
theorem msk_111 {Ext : gI → Prop} (hX : pSt Ext) : MSok bT Ext MT smk_111 := achk_ok (nm := 297) (sm := [smk_108, smk_110]) (labs := lbk_111) (sp := []) (fuel := 17) (rE := [(1000000, (2, 0))]) (maxL := 1) (M := mX5_takes) mt_X5_takes rfl os_X5_takes MT_len ((mA.cons (msk_108 hX) (mA.cons (msk_110 hX) mA.nil))) (pE hX (by decide +kernel)) (by decide +kernel)
set_option maxRecDepth 16384 in
def smk_112 : aM := (67, 0, [(1, 55, 0)], [(55, 5, 8, 8), (55, 7, 1, 1), (55, 11, 0, 0), (57, 0, 2, 2)], [], [(some (0, 0), [], [(55, 5, 8, 8), (55, 7, 1, 1), (55, 11, 0, 0), (57, 0, 2, 2)])])
set_option maxRecDepth 16384 in
def lbk_112 : List aLab := []
set_option maxRecDepth 16384 in
theorem msk_112 {Ext : gI → Prop} (hX : pSt Ext) : MSok bT Ext MT smk_112 := achk_ok (nm := 297) (sm := []) (labs := lbk_112) (sp := []) (fuel := 11) (rE := [(1000000, (2, 0))]) (maxL := 1) (M := mX5_takesIf) mt_X5_takesIf rfl os_X5_takesIf MT_len ( mA.nil) (pE hX (by decide +kernel)) (by decide +kernel)
set_option maxRecDepth 16384 in
def smk_113 : aM := (59, 1, [(1, 55, 0)], [(55, 5, 8, 8), (55, 7, 1, 1), (55, 11, 0, 0), (57, 0, 2, 2)], [(57, 1, 1), (61, 0, 199), (64, 0, 0)], [(none, [], [(55, 5, 8, 8), (55, 7, 1, 1), (55, 11, 0, 0), (57, 0, 2, 2)])])
set_option maxRecDepth 16384 in
def lbk_113 : List aLab := []
set_option maxRecDepth 16384 in
theorem msk_113 {Ext : gI → Prop} (hX : pSt Ext) : MSok bT Ext MT smk_113 := achk_ok (nm := 297) (sm := [smk_30]) (labs := lbk_113) (sp := []) (fuel := 22) (rE := [(1000000, (2, 0))]) (maxL := 1) (M := mX5_endCondition) mt_X5_endCondition rfl os_X5_endCondition MT_len ((mA.cons (msk_30 hX) mA.nil)) (pE hX (by decide +kernel)) (by decide +kernel)
set_option maxRecDepth 16384 in
def smk_114 : aM := (65, 2, [(1, 55, 0)], [(55, 5, 8, 8), (55, 7, 1, 1), (55, 11, 0, 0), (57, 0, 2, 2)], [(55, 7, 7), (57, 0, 1), (58, 2, 2), (59, 2, 2), (60, 2, 2), (61, 0, 199), (64, 0, 0)], [(some (1, 1), [], [(55, 5, 8, 8), (55, 7, 6, 6), (55, 11, 0, 0), (57, 0, 3, 3)])])
set_option maxRecDepth 16384 in
def lbk_114 : List aLab := []
set_option maxRecDepth 16384 in
theorem msk_114 {Ext : gI → Prop} (hX : pSt Ext) : MSok bT Ext MT smk_114 := achk_ok (nm := 297) (sm := [smk_104, smk_113, smk_42]) (labs := lbk_114) (sp := []) (fuel := 30) (rE := [(1000000, (2, 0))]) (maxL := 1) (M := mX5_takesDo) mt_X5_takesDo rfl os_X5_takesDo MT_len ((mA.cons (msk_104 hX) (mA.cons (msk_113 hX) (mA.cons (msk_42 hX) mA.nil)))) (pE hX (by decide +kernel)) (by decide +kernel)
set_option maxRecDepth 16384 in
def smk_115 : aM := (76, 3, [(1, 55, 0)], [(55, 5, 8, 8), (55, 7, 1, 1), (55, 11, 0, 0), (57, 0, 2, 2)], [(55, 7, 7), (57, 0, 1), (58, 2, 2), (59, 2, 2), (60, 2, 2), (61, 0, 199), (64, 0, 0)], [(some (1, 1), [], [(55, 5, 8, 8), (55, 7, 6, 6), (55, 11, 0, 0), (57, 0, 3, 3)])])
set_option maxRecDepth 16384 in
def lbk_115 : List aLab := []
set_option maxRecDepth 16384 in
theorem msk_115 {Ext : gI → Prop} (hX : pSt Ext) : MSok bT Ext MT smk_115 := achk_ok (nm := 297) (sm := [smk_112, smk_114]) (labs := lbk_115) (sp := []) (fuel := 17) (rE := [(1000000, (2, 0))]) (maxL := 1) (M := mX5_takes) mt_X5_takes rfl os_X5_takes MT_len ((mA.cons (msk_112 hX) (mA.cons (msk_114 hX) mA.nil))) (pE hX (by decide +kernel)) (by decide +kernel)
set_option maxRecDepth 16384 in
def smk_116 : aM := (67, 0, [(1, 55, 0)], [(55, 5, 8, 8), (55, 7, 1, 1), (55, 11, 0, 0), (57, 0, 3, 3)], [], [(some (0, 0), [], [(55, 5, 8, 8), (55, 7, 1, 1), (55, 11, 0, 0), (57, 0, 3, 3)])])
set_option maxRecDepth 16384 in
def lbk_116 : List aLab := []
set_option maxRecDepth 16384 in
theorem msk_116 {Ext : gI → Prop} (hX : pSt Ext) : MSok bT Ext MT smk_116 := achk_ok (nm := 297) (sm := []) (labs := lbk_116) (sp := []) (fuel := 11) (rE := [(1000000, (2, 0))]) (maxL := 1) (M := mX5_takesIf) mt_X5_takesIf rfl os_X5_takesIf MT_len ( mA.nil) (pE hX (by decide +kernel)) (by decide +kernel)
set_option maxRecDepth 16384 in
def smk_117 : aM := (59, 1, [(1, 55, 0)], [(55, 5, 8, 8), (55, 7, 1, 1), (55, 11, 0, 0), (57, 0, 3, 3)], [(57, 1, 1), (61, 0, 199), (64, 0, 0)], [(none, [], [(55, 5, 8, 8), (55, 7, 1, 1), (55, 11, 0, 0), (57, 0, 3, 3)])])
set_option maxRecDepth 16384 in
def lbk_117 : List aLab := []
set_option maxRecDepth 16384 in
theorem msk_117 {Ext : gI → Prop} (hX : pSt Ext) : MSok bT Ext MT smk_117 := achk_ok (nm := 297) (sm := [smk_30]) (labs := lbk_117) (sp := []) (fuel := 22) (rE := [(1000000, (2, 0))]) (maxL := 1) (M := mX5_endCondition) mt_X5_endCondition rfl os_X5_endCondition MT_len ((mA.cons (msk_30 hX) mA.nil)) (pE hX (by decide +kernel)) (by decide +kernel)
set_option maxRecDepth 16384 in
def smk_118 : aM := (65, 2, [(1, 55, 0)], [(55, 5, 8, 8), (55, 7, 1, 1), (55, 11, 0, 0), (57, 0, 3, 3)], [(55, 7, 7), (57, 0, 1), (58, 3, 3), (59, 3, 3), (60, 3, 3), (61, 0, 199), (64, 0, 0)], [(some (1, 1), [], [(55, 5, 8, 8), (55, 7, 6, 6), (55, 11, 0, 0), (57, 0, 4, 4)])])
set_option maxRecDepth 16384 in
def lbk_118 : List aLab := []
set_option maxRecDepth 16384 in
theorem msk_118 {Ext : gI → Prop} (hX : pSt Ext) : MSok bT Ext MT smk_118 := achk_ok (nm := 297) (sm := [smk_104, smk_117, smk_47]) (labs := lbk_118) (sp := []) (fuel := 30) (rE := [(1000000, (2, 0))]) (maxL := 1) (M := mX5_takesDo) mt_X5_takesDo rfl os_X5_takesDo MT_len ((mA.cons (msk_104 hX) (mA.cons (msk_117 hX) (mA.cons (msk_47 hX) mA.nil)))) (pE hX (by decide +kernel)) (by decide +kernel)
set_option maxRecDepth 16384 in
def smk_119 : aM := (76, 3, [(1, 55, 0)], [(55, 5, 8, 8), (55, 7, 1, 1), (55, 11, 0, 0), (57, 0, 3, 3)], [(55, 7, 7), (57, 0, 1), (58, 3, 3), (59, 3, 3), (60, 3, 3), (61, 0, 199), (64, 0, 0)], [(some (1, 1), [], [(55, 5, 8, 8), (55, 7, 6, 6), (55, 11, 0, 0), (57, 0, 4, 4)])])
set_option maxRecDepth 16384 in
def lbk_119 : List aLab := []
set_option maxRecDepth 16384 in
theorem msk_119 {Ext : gI → Prop} (hX : pSt Ext) : MSok bT Ext MT smk_119 := achk_ok (nm := 297) (sm := [smk_116, smk_118]) (labs := lbk_119) (sp := []) (fuel := 17) (rE := [(1000000, (2, 0))]) (maxL := 1) (M := mX5_takes) mt_X5_takes rfl os_X5_takes MT_len ((mA.cons (msk_116 hX) (mA.cons (msk_118 hX) mA.nil))) (pE hX (by decide +kernel)) (by decide +kernel)
set_option maxRecDepth 16384 in
def smk_120 : aM := (67, 0, [(1, 55, 0)], [(55, 5, 8, 8), (55, 7, 1, 1), (55, 11, 0, 0), (57, 0, 4, 4)], [], [(some (0, 0), [], [(55, 5, 8, 8), (55, 7, 1, 1), (55, 11, 0, 0), (57, 0, 4, 4)])])
set_option maxRecDepth 16384 in
def lbk_120 : List aLab := []
set_option maxRecDepth 16384 in
theorem msk_120 {Ext : gI → Prop} (hX : pSt Ext) : MSok bT Ext MT smk_120 := achk_ok (nm := 297) (sm := []) (labs := lbk_120) (sp := []) (fuel := 11) (rE := [(1000000, (2, 0))]) (maxL := 1) (M := mX5_takesIf) mt_X5_takesIf rfl os_X5_takesIf MT_len ( mA.nil) (pE hX (by decide +kernel)) (by decide +kernel)
set_option maxRecDepth 16384 in
def smk_121 : aM := (59, 1, [(1, 55, 0)], [(55, 5, 8, 8), (55, 7, 1, 1), (55, 11, 0, 0), (57, 0, 4, 4)], [(57, 1, 1), (61, 0, 199), (64, 0, 0)], [(none, [], [(55, 5, 8, 8), (55, 7, 1, 1), (55, 11, 0, 0), (57, 0, 4, 4)])])
set_option maxRecDepth 16384 in
def lbk_121 : List aLab := []
set_option maxRecDepth 16384 in
theorem msk_121 {Ext : gI → Prop} (hX : pSt Ext) : MSok bT Ext MT smk_121 := achk_ok (nm := 297) (sm := [smk_30]) (labs := lbk_121) (sp := []) (fuel := 22) (rE := [(1000000, (2, 0))]) (maxL := 1) (M := mX5_endCondition) mt_X5_endCondition rfl os_X5_endCondition MT_len ((mA.cons (msk_30 hX) mA.nil)) (pE hX (by decide +kernel)) (by decide +kernel)
set_option maxRecDepth 16384 in
def smk_122 : aM := (65, 2, [(1, 55, 0)], [(55, 5, 8, 8), (55, 7, 1, 1), (55, 11, 0, 0), (57, 0, 4, 4)], [(55, 7, 7), (57, 0, 1), (58, 4, 4), (59, 4, 4), (60, 4, 4), (61, 0, 199), (64, 0, 0)], [(some (1, 1), [], [(55, 5, 8, 8), (55, 7, 6, 6), (55, 11, 0, 0), (57, 0, 5, 5)])])
set_option maxRecDepth 16384 in
def lbk_122 : List aLab := []
set_option maxRecDepth 16384 in
theorem msk_122 {Ext : gI → Prop} (hX : pSt Ext) : MSok bT Ext MT smk_122 := achk_ok (nm := 297) (sm := [smk_104, smk_121, smk_52]) (labs := lbk_122) (sp := []) (fuel := 30) (rE := [(1000000, (2, 0))]) (maxL := 1) (M := mX5_takesDo) mt_X5_takesDo rfl os_X5_takesDo MT_len ((mA.cons (msk_104 hX) (mA.cons (msk_121 hX) (mA.cons (msk_52 hX) mA.nil)))) (pE hX (by decide +kernel)) (by decide +kernel)
set_option maxRecDepth 16384 in
def smk_123 : aM := (76, 3, [(1, 55, 0)], [(55, 5, 8, 8), (55, 7, 1, 1), (55, 11, 0, 0), (57, 0, 4, 4)], [(55, 7, 7), (57, 0, 1), (58, 4, 4), (59, 4, 4), (60, 4, 4), (61, 0, 199), (64, 0, 0)], [(some (1, 1), [], [(55, 5, 8, 8), (55, 7, 6, 6), (55, 11, 0, 0), (57, 0, 5, 5)])])
set_option maxRecDepth 16384 in
def lbk_123 : List aLab := []
set_option maxRecDepth 16384 in
theorem msk_123 {Ext : gI → Prop} (hX : pSt Ext) : MSok bT Ext MT smk_123 := achk_ok (nm := 297) (sm := [smk_120, smk_122]) (labs := lbk_123) (sp := []) (fuel := 17) (rE := [(1000000, (2, 0))]) (maxL := 1) (M := mX5_takes) mt_X5_takes rfl os_X5_takes MT_len ((mA.cons (msk_120 hX) (mA.cons (msk_122 hX) mA.nil))) (pE hX (by decide +kernel)) (by decide +kernel)
set_option maxRecDepth 16384 in
def smk_124 : aM := (67, 0, [(1, 55, 0)], [(55, 5, 8, 8), (55, 7, 1, 1), (55, 11, 0, 0), (57, 0, 5, 5)], [], [(some (0, 0), [], [(55, 5, 8, 8), (55, 7, 1, 1), (55, 11, 0, 0), (57, 0, 5, 5)])])
set_option maxRecDepth 16384 in
def lbk_124 : List aLab := []
set_option maxRecDepth 16384 in
theorem msk_124 {Ext : gI → Prop} (hX : pSt Ext) : MSok bT Ext MT smk_124 := achk_ok (nm := 297) (sm := []) (labs := lbk_124) (sp := []) (fuel := 11) (rE := [(1000000, (2, 0))]) (maxL := 1) (M := mX5_takesIf) mt_X5_takesIf rfl os_X5_takesIf MT_len ( mA.nil) (pE hX (by decide +kernel)) (by decide +kernel)
set_option maxRecDepth 16384 in
def smk_125 : aM := (59, 1, [(1, 55, 0)], [(55, 5, 8, 8), (55, 7, 1, 1), (55, 11, 0, 0), (57, 0, 5, 5)], [(57, 1, 1), (61, 0, 199), (64, 0, 0)], [(none, [], [(55, 5, 8, 8), (55, 7, 1, 1), (55, 11, 0, 0), (57, 0, 5, 5)])])
set_option maxRecDepth 16384 in
def lbk_125 : List aLab := []
set_option maxRecDepth 16384 in
theorem msk_125 {Ext : gI → Prop} (hX : pSt Ext) : MSok bT Ext MT smk_125 := achk_ok (nm := 297) (sm := [smk_30]) (labs := lbk_125) (sp := []) (fuel := 22) (rE := [(1000000, (2, 0))]) (maxL := 1) (M := mX5_endCondition) mt_X5_endCondition rfl os_X5_endCondition MT_len ((mA.cons (msk_30 hX) mA.nil)) (pE hX (by decide +kernel)) (by decide +kernel)
set_option maxRecDepth 16384 in
def smk_126 : aM := (65, 2, [(1, 55, 0)], [(55, 5, 8, 8), (55, 7, 1, 1), (55, 11, 0, 0), (57, 0, 5, 5)], [(55, 7, 7), (57, 0, 1), (58, 5, 5), (59, 5, 5), (60, 5, 5), (61, 0, 199), (64, 0, 0)], [(some (1, 1), [], [(55, 5, 8, 8), (55, 7, 6, 6), (55, 11, 0, 0), (57, 0, 6, 6)])])
set_option maxRecDepth 16384 in
def lbk_126 : List aLab := []
set_option maxRecDepth 16384 in
theorem msk_126 {Ext : gI → Prop} (hX : pSt Ext) : MSok bT Ext MT smk_126 := achk_ok (nm := 297) (sm := [smk_104, smk_125, smk_57]) (labs := lbk_126) (sp := []) (fuel := 30) (rE := [(1000000, (2, 0))]) (maxL := 1) (M := mX5_takesDo) mt_X5_takesDo rfl os_X5_takesDo MT_len ((mA.cons (msk_104 hX) (mA.cons (msk_125 hX) (mA.cons (msk_57 hX) mA.nil)))) (pE hX (by decide +kernel)) (by decide +kernel)
set_option maxRecDepth 16384 in
def smk_127 : aM := (76, 3, [(1, 55, 0)], [(55, 5, 8, 8), (55, 7, 1, 1), (55, 11, 0, 0), (57, 0, 5, 5)], [(55, 7, 7), (57, 0, 1), (58, 5, 5), (59, 5, 5), (60, 5, 5), (61, 0, 199), (64, 0, 0)], [(some (1, 1), [], [(55, 5, 8, 8), (55, 7, 6, 6), (55, 11, 0, 0), (57, 0, 6, 6)])])
set_option maxRecDepth 16384 in
def lbk_127 : List aLab := []
set_option maxRecDepth 16384 in
theorem msk_127 {Ext : gI → Prop} (hX : pSt Ext) : MSok bT Ext MT smk_127 := achk_ok (nm := 297) (sm := [smk_124, smk_126]) (labs := lbk_127) (sp := []) (fuel := 17) (rE := [(1000000, (2, 0))]) (maxL := 1) (M := mX5_takes) mt_X5_takes rfl os_X5_takes MT_len ((mA.cons (msk_124 hX) (mA.cons (msk_126 hX) mA.nil))) (pE hX (by decide +kernel)) (by decide +kernel)
set_option maxRecDepth 16384 in
def smk_128 : aM := (67, 0, [(1, 55, 0)], [(55, 5, 8, 8), (55, 7, 1, 1), (55, 11, 0, 0), (57, 0, 6, 6)], [], [(some (0, 0), [], [(55, 5, 8, 8), (55, 7, 1, 1), (55, 11, 0, 0), (57, 0, 6, 6)])])
set_option maxRecDepth 16384 in
def lbk_128 : List aLab := []
set_option maxRecDepth 16384 in
theorem msk_128 {Ext : gI → Prop} (hX : pSt Ext) : MSok bT Ext MT smk_128 := achk_ok (nm := 297) (sm := []) (labs := lbk_128) (sp := []) (fuel := 11) (rE := [(1000000, (2, 0))]) (maxL := 1) (M := mX5_takesIf) mt_X5_takesIf rfl os_X5_takesIf MT_len ( mA.nil) (pE hX (by decide +kernel)) (by decide +kernel)
set_option maxRecDepth 16384 in
def smk_129 : aM := (59, 1, [(1, 55, 0)], [(55, 5, 8, 8), (55, 7, 1, 1), (55, 11, 0, 0), (57, 0, 6, 6)], [(57, 1, 1), (61, 0, 199), (64, 0, 0)], [(none, [], [(55, 5, 8, 8), (55, 7, 1, 1), (55, 11, 0, 0), (57, 0, 6, 6)])])
set_option maxRecDepth 16384 in
def lbk_129 : List aLab := []
set_option maxRecDepth 16384 in
theorem msk_129 {Ext : gI → Prop} (hX : pSt Ext) : MSok bT Ext MT smk_129 := achk_ok (nm := 297) (sm := [smk_30]) (labs := lbk_129) (sp := []) (fuel := 22) (rE := [(1000000, (2, 0))]) (maxL := 1) (M := mX5_endCondition) mt_X5_endCondition rfl os_X5_endCondition MT_len ((mA.cons (msk_30 hX) mA.nil)) (pE hX (by decide +kernel)) (by decide +kernel)
set_option maxRecDepth 16384 in
def smk_130 : aM := (65, 2, [(1, 55, 0)], [(55, 5, 8, 8), (55, 7, 1, 1), (55, 11, 0, 0), (57, 0, 6, 6)], [(55, 7, 7), (57, 0, 1), (58, 6, 6), (59, 6, 6), (60, 6, 6), (61, 0, 199), (64, 0, 0)], [(some (1, 1), [], [(55, 5, 8, 8), (55, 7, 6, 6), (55, 11, 0, 0), (57, 0, 7, 7)])])
set_option maxRecDepth 16384 in
def lbk_130 : List aLab := []
set_option maxRecDepth 16384 in
theorem msk_130 {Ext : gI → Prop} (hX : pSt Ext) : MSok bT Ext MT smk_130 := achk_ok (nm := 297) (sm := [smk_104, smk_129, smk_62]) (labs := lbk_130) (sp := []) (fuel := 30) (rE := [(1000000, (2, 0))]) (maxL := 1) (M := mX5_takesDo) mt_X5_takesDo rfl os_X5_takesDo MT_len ((mA.cons (msk_104 hX) (mA.cons (msk_129 hX) (mA.cons (msk_62 hX) mA.nil)))) (pE hX (by decide +kernel)) (by decide +kernel)
set_option maxRecDepth 16384 in
def smk_131 : aM := (76, 3, [(1, 55, 0)], [(55, 5, 8, 8), (55, 7, 1, 1), (55, 11, 0, 0), (57, 0, 6, 6)], [(55, 7, 7), (57, 0, 1), (58, 6, 6), (59, 6, 6), (60, 6, 6), (61, 0, 199), (64, 0, 0)], [(some (1, 1), [], [(55, 5, 8, 8), (55, 7, 6, 6), (55, 11, 0, 0), (57, 0, 7, 7)])])
set_option maxRecDepth 16384 in
def lbk_131 : List aLab := []
set_option maxRecDepth 16384 in
theorem msk_131 {Ext : gI → Prop} (hX : pSt Ext) : MSok bT Ext MT smk_131 := achk_ok (nm := 297) (sm := [smk_128, smk_130]) (labs := lbk_131) (sp := []) (fuel := 17) (rE := [(1000000, (2, 0))]) (maxL := 1) (M := mX5_takes) mt_X5_takes rfl os_X5_takes MT_len ((mA.cons (msk_128 hX) (mA.cons (msk_130 hX) mA.nil))) (pE hX (by decide +kernel)) (by decide +kernel)
set_option maxRecDepth 16384 in
def smk_132 : aM := (67, 0, [(1, 55, 0)], [(55, 5, 8, 8), (55, 7, 1, 1), (55, 11, 0, 0), (57, 0, 7, 7)], [], [(some (0, 0), [], [(55, 5, 8, 8), (55, 7, 1, 1), (55, 11, 0, 0), (57, 0, 7, 7)])])
set_option maxRecDepth 16384 in
def lbk_132 : List aLab := []
set_option maxRecDepth 16384 in
theorem msk_132 {Ext : gI → Prop} (hX : pSt Ext) : MSok bT Ext MT smk_132 := achk_ok (nm := 297) (sm := []) (labs := lbk_132) (sp := []) (fuel := 11) (rE := [(1000000, (2, 0))]) (maxL := 1) (M := mX5_takesIf) mt_X5_takesIf rfl os_X5_takesIf MT_len ( mA.nil) (pE hX (by decide +kernel)) (by decide +kernel)
set_option maxRecDepth 16384 in
def smk_133 : aM := (59, 1, [(1, 55, 0)], [(55, 5, 8, 8), (55, 7, 1, 1), (55, 11, 0, 0), (57, 0, 7, 7)], [(57, 1, 1), (61, 0, 199), (64, 0, 0)], [(none, [], [(55, 5, 8, 8), (55, 7, 1, 1), (55, 11, 0, 0), (57, 0, 7, 7)])])
set_option maxRecDepth 16384 in
def lbk_133 : List aLab := []
set_option maxRecDepth 16384 in
theorem msk_133 {Ext : gI → Prop} (hX : pSt Ext) : MSok bT Ext MT smk_133 := achk_ok (nm := 297) (sm := [smk_30]) (labs := lbk_133) (sp := []) (fuel := 22) (rE := [(1000000, (2, 0))]) (maxL := 1) (M := mX5_endCondition) mt_X5_endCondition rfl os_X5_endCondition MT_len ((mA.cons (msk_30 hX) mA.nil)) (pE hX (by decide +kernel)) (by decide +kernel)
set_option maxRecDepth 16384 in
def smk_134 : aM := (65, 2, [(1, 55, 0)], [(55, 5, 8, 8), (55, 7, 1, 1), (55, 11, 0, 0), (57, 0, 7, 7)], [(55, 7, 7), (57, 0, 1), (58, 7, 7), (59, 7, 7), (60, 7, 7), (61, 0, 199), (64, 0, 0)], [(some (1, 1), [], [(55, 5, 8, 8), (55, 7, 6, 6), (55, 11, 0, 0), (57, 0, 8, 8)])])
set_option maxRecDepth 16384 in
def lbk_134 : List aLab := []
set_option maxRecDepth 16384 in
theorem msk_134 {Ext : gI → Prop} (hX : pSt Ext) : MSok bT Ext MT smk_134 := achk_ok (nm := 297) (sm := [smk_104, smk_133, smk_67]) (labs := lbk_134) (sp := []) (fuel := 30) (rE := [(1000000, (2, 0))]) (maxL := 1) (M := mX5_takesDo) mt_X5_takesDo rfl os_X5_takesDo MT_len ((mA.cons (msk_104 hX) (mA.cons (msk_133 hX) (mA.cons (msk_67 hX) mA.nil)))) (pE hX (by decide +kernel)) (by decide +kernel)
set_option maxRecDepth 16384 in
def smk_135 : aM := (76, 3, [(1, 55, 0)], [(55, 5, 8, 8), (55, 7, 1, 1), (55, 11, 0, 0), (57, 0, 7, 7)], [(55, 7, 7), (57, 0, 1), (58, 7, 7), (59, 7, 7), (60, 7, 7), (61, 0, 199), (64, 0, 0)], [(some (1, 1), [], [(55, 5, 8, 8), (55, 7, 6, 6), (55, 11, 0, 0), (57, 0, 8, 8)])])
set_option maxRecDepth 16384 in
def lbk_135 : List aLab := []
set_option maxRecDepth 16384 in
theorem msk_135 {Ext : gI → Prop} (hX : pSt Ext) : MSok bT Ext MT smk_135 := achk_ok (nm := 297) (sm := [smk_132, smk_134]) (labs := lbk_135) (sp := []) (fuel := 17) (rE := [(1000000, (2, 0))]) (maxL := 1) (M := mX5_takes) mt_X5_takes rfl os_X5_takes MT_len ((mA.cons (msk_132 hX) (mA.cons (msk_134 hX) mA.nil))) (pE hX (by decide +kernel)) (by decide +kernel)
set_option maxRecDepth 16384 in
def smk_136 : aM := (67, 0, [(1, 55, 0)], [(55, 5, 6, 8), (55, 7, 1, 1), (55, 11, 1, 3), (57, 0, 0, 8)], [], [(some (0, 0), [], [(55, 5, 6, 8), (55, 7, 1, 1), (55, 11, 1, 3)])])
set_option maxRecDepth 16384 in
def lbk_136 : List aLab := []
set_option maxRecDepth 16384 in
theorem msk_136 {Ext : gI → Prop} (hX : pSt Ext) : MSok bT Ext MT smk_136 := achk_ok (nm := 297) (sm := []) (labs := lbk_136) (sp := []) (fuel := 11) (rE := [(1000000, (2, 0))]) (maxL := 1) (M := mX5_takesIf) mt_X5_takesIf rfl os_X5_takesIf MT_len ( mA.nil) (pE hX (by decide +kernel)) (by decide +kernel)
set_option maxRecDepth 16384 in
def smk_137 : aM := (65, 0, [(1, 55, 0)], [(55, 5, 6, 8), (55, 7, 1, 1), (55, 11, 1, 3), (57, 0, 0, 8)], [], [(some (0, 0), [], [(55, 5, 6, 8), (55, 7, 1, 1), (55, 11, 1, 3)])])
set_option maxRecDepth 16384 in
def lbk_137 : List aLab := []
set_option maxRecDepth 16384 in
theorem msk_137 {Ext : gI → Prop} (hX : pSt Ext) : MSok bT Ext MT smk_137 := achk_ok (nm := 297) (sm := []) (labs := lbk_137) (sp := []) (fuel := 10) (rE := [(1000000, (2, 0))]) (maxL := 1) (M := mX5_takesDo) mt_X5_takesDo rfl os_X5_takesDo MT_len ( mA.nil) (pE hX (by decide +kernel)) (by decide +kernel)
set_option maxRecDepth 16384 in
def smk_138 : aM := (76, 1, [(1, 55, 0)], [(55, 5, 6, 8), (55, 7, 1, 1), (55, 11, 1, 3), (57, 0, 0, 8)], [], [(some (0, 0), [], [(55, 5, 6, 8), (55, 7, 1, 1), (55, 11, 1, 3)])])
set_option maxRecDepth 16384 in
def lbk_138 : List aLab := []
set_option maxRecDepth 16384 in
theorem msk_138 {Ext : gI → Prop} (hX : pSt Ext) : MSok bT Ext MT smk_138 := achk_ok (nm := 297) (sm := [smk_136, smk_137]) (labs := lbk_138) (sp := []) (fuel := 16) (rE := [(1000000, (2, 0))]) (maxL := 1) (M := mX5_takes) mt_X5_takes rfl os_X5_takes MT_len ((mA.cons (msk_136 hX) (mA.cons (msk_137 hX) mA.nil))) (pE hX (by decide +kernel)) (by decide +kernel)
set_option maxRecDepth 16384 in
def smk_139 : aM := (67, 0, [(1, 55, 0)], [(55, 5, (-1), 5), (55, 7, 1, 1), (55, 11, 0, 3), (57, 0, 0, 8)], [], [(some (0, 0), [], [(55, 5, (-1), 5), (55, 7, 1, 1)])])
set_option maxRecDepth 16384 in
def lbk_139 : List aLab := []
set_option maxRecDepth 16384 in
theorem msk_139 {Ext : gI → Prop} (hX : pSt Ext) : MSok bT Ext MT smk_139 := achk_ok (nm := 297) (sm := []) (labs := lbk_139) (sp := []) (fuel := 11) (rE := [(1000000, (2, 0))]) (maxL := 1) (M := mX5_takesIf) mt_X5_takesIf rfl os_X5_takesIf MT_len ( mA.nil) (pE hX (by decide +kernel)) (by decide +kernel)
set_option maxRecDepth 16384 in
def smk_140 : aM := (37, 0, [(0, (-1), 5), (0, 6, 6), (0, 8, 8)], [], [], [(some (0, 0), [], [])])
set_option maxRecDepth 16384 in
def lbk_140 : List aLab := []
set_option maxRecDepth 16384 in
theorem msk_140 {Ext : gI → Prop} (hX : pSt Ext) : MSok bT Ext MT smk_140 := achk_ok (nm := 297) (sm := []) (labs := lbk_140) (sp := []) (fuel := 10) (rE := [(1000000, (2, 0))]) (maxL := 3) (M := mX11_isIn) mt_X11_isIn rfl os_X11_isIn MT_len ( mA.nil) (pE hX (by decide +kernel)) (by decide +kernel)
set_option maxRecDepth 16384 in
def smk_141 : aM := (65, 1, [(1, 55, 0)], [(55, 5, (-1), 5), (55, 7, 1, 1), (55, 11, 0, 3), (57, 0, 0, 8)], [], [(some (0, 0), [], [(55, 5, (-1), 5), (55, 7, 1, 1)])])
set_option maxRecDepth 16384 in
def lbk_141 : List aLab := []
set_option maxRecDepth 16384 in
theorem msk_141 {Ext : gI → Prop} (hX : pSt Ext) : MSok bT Ext MT smk_141 := achk_ok (nm := 297) (sm := [smk_140]) (labs := lbk_141) (sp := []) (fuel := 16) (rE := [(1000000, (2, 0))]) (maxL := 1) (M := mX5_takesDo) mt_X5_takesDo rfl os_X5_takesDo MT_len ((mA.cons (msk_140 hX) mA.nil)) (pE hX (by decide +kernel)) (by decide +kernel)
set_option maxRecDepth 16384 in
def smk_142 : aM := (76, 2, [(1, 55, 0)], [(55, 5, (-1), 5), (55, 7, 1, 1), (55, 11, 0, 3), (57, 0, 0, 8)], [], [(some (0, 0), [], [(55, 5, (-1), 5), (55, 7, 1, 1)])])
set_option maxRecDepth 16384 in
def lbk_142 : List aLab := []
set_option maxRecDepth 16384 in
theorem msk_142 {Ext : gI → Prop} (hX : pSt Ext) : MSok bT Ext MT smk_142 := achk_ok (nm := 297) (sm := [smk_139, smk_141]) (labs := lbk_142) (sp := []) (fuel := 16) (rE := [(1000000, (2, 0))]) (maxL := 1) (M := mX5_takes) mt_X5_takes rfl os_X5_takes MT_len ((mA.cons (msk_139 hX) (mA.cons (msk_141 hX) mA.nil))) (pE hX (by decide +kernel)) (by decide +kernel)
set_option maxRecDepth 16384 in
def smk_143 : aM := (67, 0, [(1, 55, 0)], [(55, 5, 9, 13), (55, 7, 1, 1), (55, 11, 0, 3), (57, 0, 0, 8)], [], [(some (0, 0), [], [(55, 5, 9, 13), (55, 7, 1, 1)])])
set_option maxRecDepth 16384 in
def lbk_143 : List aLab := []
set_option maxRecDepth 16384 in
theorem msk_143 {Ext : gI → Prop} (hX : pSt Ext) : MSok bT Ext MT smk_143 := achk_ok (nm := 297) (sm := []) (labs := lbk_143) (sp := []) (fuel := 11) (rE := [(1000000, (2, 0))]) (maxL := 1) (M := mX5_takesIf) mt_X5_takesIf rfl os_X5_takesIf MT_len ( mA.nil) (pE hX (by decide +kernel)) (by decide +kernel)
set_option maxRecDepth 16384 in
def smk_144 : aM := (37, 0, [(0, 9, 13), (0, 6, 6), (0, 8, 8)], [], [], [(some (0, 0), [], [])])
set_option maxRecDepth 16384 in
def lbk_144 : List aLab := []
set_option maxRecDepth 16384 in
theorem msk_144 {Ext : gI → Prop} (hX : pSt Ext) : MSok bT Ext MT smk_144 := achk_ok (nm := 297) (sm := []) (labs := lbk_144) (sp := []) (fuel := 13) (rE := [(1000000, (2, 0))]) (maxL := 3) (M := mX11_isIn) mt_X11_isIn rfl os_X11_isIn MT_len ( mA.nil) (pE hX (by decide +kernel)) (by decide +kernel)
set_option maxRecDepth 16384 in
def smk_145 : aM := (65, 1, [(1, 55, 0)], [(55, 5, 9, 13), (55, 7, 1, 1), (55, 11, 0, 3), (57, 0, 0, 8)], [], [(some (0, 0), [], [(55, 5, 9, 13), (55, 7, 1, 1)])])
set_option maxRecDepth 16384 in
def lbk_145 : List aLab := []
set_option maxRecDepth 16384 in
theorem msk_145 {Ext : gI → Prop} (hX : pSt Ext) : MSok bT Ext MT smk_145 := achk_ok (nm := 297) (sm := [smk_144]) (labs := lbk_145) (sp := []) (fuel := 16) (rE := [(1000000, (2, 0))]) (maxL := 1) (M := mX5_takesDo) mt_X5_takesDo rfl os_X5_takesDo MT_len ((mA.cons (msk_144 hX) mA.nil)) (pE hX (by decide +kernel)) (by decide +kernel)
set_option maxRecDepth 16384 in
def smk_146 : aM := (76, 2, [(1, 55, 0)], [(55, 5, 9, 13), (55, 7, 1, 1), (55, 11, 0, 3), (57, 0, 0, 8)], [], [(some (0, 0), [], [(55, 5, 9, 13), (55, 7, 1, 1)])])
set_option maxRecDepth 16384 in
def lbk_146 : List aLab := []
set_option maxRecDepth 16384 in
theorem msk_146 {Ext : gI → Prop} (hX : pSt Ext) : MSok bT Ext MT smk_146 := achk_ok (nm := 297) (sm := [smk_143, smk_145]) (labs := lbk_146) (sp := []) (fuel := 16) (rE := [(1000000, (2, 0))]) (maxL := 1) (M := mX5_takes) mt_X5_takes rfl os_X5_takes MT_len ((mA.cons (msk_143 hX) (mA.cons (msk_145 hX) mA.nil))) (pE hX (by decide +kernel)) (by decide +kernel)
set_option maxRecDepth 16384 in
def smk_147 : aM := (67, 0, [(1, 55, 0)], [(55, 5, 15, 62), (55, 7, 1, 1), (55, 11, 0, 3), (57, 0, 0, 8)], [], [(some (0, 0), [], [(55, 5, 15, 62), (55, 7, 1, 1)])])
set_option maxRecDepth 16384 in
def lbk_147 : List aLab := []
set_option maxRecDepth 16384 in
theorem msk_147 {Ext : gI → Prop} (hX : pSt Ext) : MSok bT Ext MT smk_147 := achk_ok (nm := 297) (sm := []) (labs := lbk_147) (sp := []) (fuel := 11) (rE := [(1000000, (2, 0))]) (maxL := 1) (M := mX5_takesIf) mt_X5_takesIf rfl os_X5_takesIf MT_len ( mA.nil) (pE hX (by decide +kernel)) (by decide +kernel)
set_option maxRecDepth 16384 in
def smk_148 : aM := (37, 0, [(0, 15, 62), (0, 6, 6), (0, 8, 8)], [], [], [(some (0, 0), [], [])])
set_option maxRecDepth 16384 in
def lbk_148 : List aLab := []
set_option maxRecDepth 16384 in
theorem msk_148 {Ext : gI → Prop} (hX : pSt Ext) : MSok bT Ext MT smk_148 := achk_ok (nm := 297) (sm := []) (labs := lbk_148) (sp := []) (fuel := 13) (rE := [(1000000, (2, 0))]) (maxL := 3) (M := mX11_isIn) mt_X11_isIn rfl os_X11_isIn MT_len ( mA.nil) (pE hX (by decide +kernel)) (by decide +kernel)
set_option maxRecDepth 16384 in
def smk_149 : aM := (65, 1, [(1, 55, 0)], [(55, 5, 15, 62), (55, 7, 1, 1), (55, 11, 0, 3), (57, 0, 0, 8)], [], [(some (0, 0), [], [(55, 5, 15, 62), (55, 7, 1, 1)])])
set_option maxRecDepth 16384 in
def lbk_149 : List aLab := []
set_option maxRecDepth 16384 in
theorem msk_149 {Ext : gI → Prop} (hX : pSt Ext) : MSok bT Ext MT smk_149 := achk_ok (nm := 297) (sm := [smk_148]) (labs := lbk_149) (sp := []) (fuel := 16) (rE := [(1000000, (2, 0))]) (maxL := 1) (M := mX5_takesDo) mt_X5_takesDo rfl os_X5_takesDo MT_len ((mA.cons (msk_148 hX) mA.nil)) (pE hX (by decide +kernel)) (by decide +kernel)
set_option maxRecDepth 16384 in
def smk_150 : aM := (76, 2, [(1, 55, 0)], [(55, 5, 15, 62), (55, 7, 1, 1), (55, 11, 0, 3), (57, 0, 0, 8)], [], [(some (0, 0), [], [(55, 5, 15, 62), (55, 7, 1, 1)])])
set_option maxRecDepth 16384 in
def lbk_150 : List aLab := []
set_option maxRecDepth 16384 in
theorem msk_150 {Ext : gI → Prop} (hX : pSt Ext) : MSok bT Ext MT smk_150 := achk_ok (nm := 297) (sm := [smk_147, smk_149]) (labs := lbk_150) (sp := []) (fuel := 16) (rE := [(1000000, (2, 0))]) (maxL := 1) (M := mX5_takes) mt_X5_takes rfl os_X5_takes MT_len ((mA.cons (msk_147 hX) (mA.cons (msk_149 hX) mA.nil))) (pE hX (by decide +kernel)) (by decide +kernel)
set_option maxRecDepth 16384 in
def smk_151 : aM := (68, 0, [(1, 55, 0)], [(55, 5, 17, 17), (55, 7, 2, 2), (55, 11, 0, 3), (57, 0, 0, 8)], [(62, 0, 3)], [(some (1, 1), [], [(55, 5, 17, 17), (55, 7, 2, 2)])])
set_option maxRecDepth 16384 in
def lbk_151 : List aLab := []
set_option maxRecDepth 16384 in
theorem msk_151 {Ext : gI → Prop} (hX : pSt Ext) : MSok bT Ext MT smk_151 := achk_ok (nm := 297) (sm := []) (labs := lbk_151) (sp := []) (fuel := 24) (rE := [(1000000, (2, 0))]) (maxL := 1) (M := mX5_takesOne) mt_X5_takesOne rfl os_X5_takesOne MT_len ( mA.nil) (pE hX (by decide +kernel)) (by decide +kernel)
set_option maxRecDepth 16384 in
def smk_152 : aM := (76, 1, [(1, 55, 0)], [(55, 5, 17, 17), (55, 7, 2, 2), (55, 11, 0, 3), (57, 0, 0, 8)], [(62, 0, 3)], [(some (1, 1), [], [(55, 5, 17, 17), (55, 7, 2, 2)])])
set_option maxRecDepth 16384 in
def lbk_152 : List aLab := []
set_option maxRecDepth 16384 in
theorem msk_152 {Ext : gI → Prop} (hX : pSt Ext) : MSok bT Ext MT smk_152 := achk_ok (nm := 297) (sm := [smk_151]) (labs := lbk_152) (sp := []) (fuel := 11) (rE := [(1000000, (2, 0))]) (maxL := 1) (M := mX5_takes) mt_X5_takes rfl os_X5_takes MT_len ((mA.cons (msk_151 hX) mA.nil)) (pE hX (by decide +kernel)) (by decide +kernel)
set_option maxRecDepth 16384 in
def smk_153 : aM := (68, 0, [(1, 55, 0)], [(55, 5, 40, 40), (55, 7, 2, 2), (55, 11, 0, 0), (57, 0, 0, 8)], [(55, 11, 11)], [(some (1, 1), [], [(55, 5, 40, 40), (55, 7, 2, 2), (55, 11, 1, 1)])])
set_option maxRecDepth 16384 in
def lbk_153 : List aLab := []
set_option maxRecDepth 16384 in
theorem msk_153 {Ext : gI → Prop} (hX : pSt Ext) : MSok bT Ext MT smk_153 := achk_ok (nm := 297) (sm := []) (labs := lbk_153) (sp := []) (fuel := 25) (rE := [(1000000, (2, 0))]) (maxL := 1) (M := mX5_takesOne) mt_X5_takesOne rfl os_X5_takesOne MT_len ( mA.nil) (pE hX (by decide +kernel)) (by decide +kernel)
set_option maxRecDepth 16384 in
def smk_154 : aM := (76, 1, [(1, 55, 0)], [(55, 5, 40, 40), (55, 7, 2, 2), (55, 11, 0, 0), (57, 0, 0, 8)], [(55, 11, 11)], [(some (1, 1), [], [(55, 5, 40, 40), (55, 7, 2, 2), (55, 11, 1, 1)])])
set_option maxRecDepth 16384 in
def lbk_154 : List aLab := []
set_option maxRecDepth 16384 in
theorem msk_154 {Ext : gI → Prop} (hX : pSt Ext) : MSok bT Ext MT smk_154 := achk_ok (nm := 297) (sm := [smk_153]) (labs := lbk_154) (sp := []) (fuel := 11) (rE := [(1000000, (2, 0))]) (maxL := 1) (M := mX5_takes) mt_X5_takes rfl os_X5_takes MT_len ((mA.cons (msk_153 hX) mA.nil)) (pE hX (by decide +kernel)) (by decide +kernel)
set_option maxRecDepth 16384 in
def smk_155 : aM := (68, 0, [(1, 55, 0)], [(55, 5, 40, 40), (55, 7, 2, 2), (55, 11, 1, 1), (57, 0, 0, 8)], [(55, 11, 11)], [(some (1, 1), [], [(55, 5, 40, 40), (55, 7, 2, 2), (55, 11, 2, 2)])])
set_option maxRecDepth 16384 in
def lbk_155 : List aLab := []
set_option maxRecDepth 16384 in
theorem msk_155 {Ext : gI → Prop} (hX : pSt Ext) : MSok bT Ext MT smk_155 := achk_ok (nm := 297) (sm := []) (labs := lbk_155) (sp := []) (fuel := 25) (rE := [(1000000, (2, 0))]) (maxL := 1) (M := mX5_takesOne) mt_X5_takesOne rfl os_X5_takesOne MT_len ( mA.nil) (pE hX (by decide +kernel)) (by decide +kernel)
set_option maxRecDepth 16384 in
def smk_156 : aM := (76, 1, [(1, 55, 0)], [(55, 5, 40, 40), (55, 7, 2, 2), (55, 11, 1, 1), (57, 0, 0, 8)], [(55, 11, 11)], [(some (1, 1), [], [(55, 5, 40, 40), (55, 7, 2, 2), (55, 11, 2, 2)])])
set_option maxRecDepth 16384 in
def lbk_156 : List aLab := []
set_option maxRecDepth 16384 in
theorem msk_156 {Ext : gI → Prop} (hX : pSt Ext) : MSok bT Ext MT smk_156 := achk_ok (nm := 297) (sm := [smk_155]) (labs := lbk_156) (sp := []) (fuel := 11) (rE := [(1000000, (2, 0))]) (maxL := 1) (M := mX5_takes) mt_X5_takes rfl os_X5_takes MT_len ((mA.cons (msk_155 hX) mA.nil)) (pE hX (by decide +kernel)) (by decide +kernel)
set_option maxRecDepth 16384 in
def smk_157 : aM := (68, 0, [(1, 55, 0)], [(55, 5, 40, 40), (55, 7, 2, 2), (55, 11, 2, 2), (57, 0, 0, 8)], [(55, 11, 11)], [(some (1, 1), [], [(55, 5, 40, 40), (55, 7, 2, 2), (55, 11, 3, 3)])])
set_option maxRecDepth 16384 in
def lbk_157 : List aLab := []
set_option maxRecDepth 16384 in
theorem msk_157 {Ext : gI → Prop} (hX : pSt Ext) : MSok bT Ext MT smk_157 := achk_ok (nm := 297) (sm := []) (labs := lbk_157) (sp := []) (fuel := 25) (rE := [(1000000, (2, 0))]) (maxL := 1) (M := mX5_takesOne) mt_X5_takesOne rfl os_X5_takesOne MT_len ( mA.nil) (pE hX (by decide +kernel)) (by decide +kernel)
set_option maxRecDepth 16384 in
def smk_158 : aM := (76, 1, [(1, 55, 0)], [(55, 5, 40, 40), (55, 7, 2, 2), (55, 11, 2, 2), (57, 0, 0, 8)], [(55, 11, 11)], [(some (1, 1), [], [(55, 5, 40, 40), (55, 7, 2, 2), (55, 11, 3, 3)])])
set_option maxRecDepth 16384 in
def lbk_158 : List aLab := []
set_option maxRecDepth 16384 in
theorem msk_158 {Ext : gI → Prop} (hX : pSt Ext) : MSok bT Ext MT smk_158 := achk_ok (nm := 297) (sm := [smk_157]) (labs := lbk_158) (sp := []) (fuel := 11) (rE := [(1000000, (2, 0))]) (maxL := 1) (M := mX5_takes) mt_X5_takes rfl os_X5_takes MT_len ((mA.cons (msk_157 hX) mA.nil)) (pE hX (by decide +kernel)) (by decide +kernel)
set_option maxRecDepth 16384 in
def smk_159 : aM := (37, 0, [(0, 40, 40), (0, 9, 9), (0, 13, 13)], [], [], [(some (0, 0), [], [])])
set_option maxRecDepth 16384 in
def lbk_159 : List aLab := []
set_option maxRecDepth 16384 in
theorem msk_159 {Ext : gI → Prop} (hX : pSt Ext) : MSok bT Ext MT smk_159 := achk_ok (nm := 297) (sm := []) (labs := lbk_159) (sp := []) (fuel := 13) (rE := [(1000000, (2, 0))]) (maxL := 3) (M := mX11_isIn) mt_X11_isIn rfl os_X11_isIn MT_len ( mA.nil) (pE hX (by decide +kernel)) (by decide +kernel)
set_option maxRecDepth 16384 in
def smk_160 : aM := (62, 1, [(1, 55, 0)], [(55, 5, 40, 40), (55, 7, 2, 2), (55, 11, 3, 3), (57, 0, 0, 8)], [], [(some (0, 0), [], [(55, 5, 40, 40), (55, 7, 2, 2), (55, 11, 3, 3)])])
set_option maxRecDepth 16384 in
def lbk_160 : List aLab := []
set_option maxRecDepth 16384 in
theorem msk_160 {Ext : gI → Prop} (hX : pSt Ext) : MSok bT Ext MT smk_160 := achk_ok (nm := 297) (sm := [smk_159]) (labs := lbk_160) (sp := []) (fuel := 17) (rE := [(1000000, (2, 0))]) (maxL := 1) (M := mX5_isValue) mt_X5_isValue rfl os_X5_isValue MT_len ((mA.cons (msk_159 hX) mA.nil)) (pE hX (by decide +kernel)) (by decide +kernel)
set_option maxRecDepth 16384 in
def smk_161 : aM := (68, 2, [(1, 55, 0)], [(55, 5, 40, 40), (55, 7, 2, 2), (55, 11, 3, 3), (57, 0, 0, 8)], [], [(some (0, 0), [], [(55, 5, 40, 40), (55, 7, 2, 2), (55, 11, 3, 3)])])
set_option maxRecDepth 16384 in
def lbk_161 : List aLab := []
set_option maxRecDepth 16384 in
theorem msk_161 {Ext : gI → Prop} (hX : pSt Ext) : MSok bT Ext MT smk_161 := achk_ok (nm := 297) (sm := [smk_160]) (labs := lbk_161) (sp := []) (fuel := 22) (rE := [(1000000, (2, 0))]) (maxL := 1) (M := mX5_takesOne) mt_X5_takesOne rfl os_X5_takesOne MT_len ((mA.cons (msk_160 hX) mA.nil)) (pE hX (by decide +kernel)) (by decide +kernel)
set_option maxRecDepth 16384 in
def smk_162 : aM := (76, 3, [(1, 55, 0)], [(55, 5, 40, 40), (55, 7, 2, 2), (55, 11, 3, 3), (57, 0, 0, 8)], [], [(some (0, 0), [], [(55, 5, 40, 40), (55, 7, 2, 2), (55, 11, 3, 3)])])
set_option maxRecDepth 16384 in
def lbk_162 : List aLab := []
set_option maxRecDepth 16384 in
theorem msk_162 {Ext : gI → Prop} (hX : pSt Ext) : MSok bT Ext MT smk_162 := achk_ok (nm := 297) (sm := [smk_161]) (labs := lbk_162) (sp := []) (fuel := 11) (rE := [(1000000, (2, 0))]) (maxL := 1) (M := mX5_takes) mt_X5_takes rfl os_X5_takes MT_len ((mA.cons (msk_161 hX) mA.nil)) (pE hX (by decide +kernel)) (by decide +kernel)
set_option maxRecDepth 16384 in
def smk_163 : aM := (37, 0, [(0, 9, 9), (0, 9, 9), (0, 13, 13)], [], [], [(some (1, 1), [], [])])
set_option maxRecDepth 16384 in
def lbk_163 : List aLab := []
set_option maxRecDepth 16384 in
theorem msk_163 {Ext : gI → Prop} (hX : pSt Ext) : MSok bT Ext MT smk_163 := achk_ok (nm := 297) (sm := []) (labs := lbk_163) (sp := []) (fuel := 14) (rE := [(1000000, (2, 0))]) (maxL := 3) (M := mX11_isIn) mt_X11_isIn rfl os_X11_isIn MT_len ( mA.nil) (pE hX (by decide +kernel)) (by decide +kernel)
set_option maxRecDepth 16384 in
def smk_164 : aM := (62, 1, [(1, 55, 0)], [(55, 5, 9, 9), (55, 7, 2, 2), (55, 11, 0, 3), (57, 0, 0, 8)], [], [(some (1, 1), [], [(55, 5, 9, 9), (55, 7, 2, 2)])])
set_option maxRecDepth 16384 in
def lbk_164 : List aLab := []
set_option maxRecDepth 16384 in
theorem msk_164 {Ext : gI → Prop} (hX : pSt Ext) : MSok bT Ext MT smk_164 := achk_ok (nm := 297) (sm := [smk_163]) (labs := lbk_164) (sp := []) (fuel := 18) (rE := [(1000000, (2, 0))]) (maxL := 1) (M := mX5_isValue) mt_X5_isValue rfl os_X5_isValue MT_len ((mA.cons (msk_163 hX) mA.nil)) (pE hX (by decide +kernel)) (by decide +kernel)
set_option maxRecDepth 16384 in
def smk_165 : aM := (63, 0, [(1, 55, 0)], [(55, 5, 9, 9), (55, 7, 2, 2), (55, 11, 0, 3), (57, 0, 0, 8)], [], [(some (10000, 10000), [], [(55, 5, 9, 9), (55, 7, 2, 2)])])
set_option maxRecDepth 16384 in
def lbk_165 : List aLab := []
set_option maxRecDepth 16384 in
theorem msk_165 {Ext : gI → Prop} (hX : pSt Ext) : MSok bT Ext MT smk_165 := achk_ok (nm := 297) (sm := []) (labs := lbk_165) (sp := []) (fuel := 16) (rE := [(1000000, (2, 0))]) (maxL := 1) (M := mX5_value) mt_X5_value rfl os_X5_value MT_len ( mA.nil) (pE hX (by decide +kernel)) (by decide +kernel)
set_option maxRecDepth 16384 in
def smk_166 : aM := (68, 2, [(1, 55, 0)], [(55, 5, 9, 9), (55, 7, 2, 2), (55, 11, 0, 3), (57, 0, 0, 8)], [(55, 7, 7), (55, 9, 9)], [(some (1, 1), [], [(55, 5, 9, 9), (55, 7, 3, 3), (55, 9, 10000, 10000)])])
set_option maxRecDepth 16384 in
def lbk_166 : List aLab := []
set_option maxRecDepth 16384 in
theorem msk_166 {Ext : gI → Prop} (hX : pSt Ext) : MSok bT Ext MT smk_166 := achk_ok (nm := 297) (sm := [smk_164, smk_165]) (labs := lbk_166) (sp := []) (fuel := 25) (rE := [(1000000, (2, 0))]) (maxL := 1) (M := mX5_takesOne) mt_X5_takesOne rfl os_X5_takesOne MT_len ((mA.cons (msk_164 hX) (mA.cons (msk_165 hX) mA.nil))) (pE hX (by decide +kernel)) (by decide +kernel)
set_option maxRecDepth 16384 in
def smk_167 : aM := (76, 3, [(1, 55, 0)], [(55, 5, 9, 9), (55, 7, 2, 2), (55, 11, 0, 3), (57, 0, 0, 8)], [(55, 7, 7), (55, 9, 9)], [(some (1, 1), [], [(55, 5, 9, 9), (55, 7, 3, 3), (55, 9, 10000, 10000)])])
set_option maxRecDepth 16384 in
def lbk_167 : List aLab := []
set_option maxRecDepth 16384 in
theorem msk_167 {Ext : gI → Prop} (hX : pSt Ext) : MSok bT Ext MT smk_167 := achk_ok (nm := 297) (sm := [smk_166]) (labs := lbk_167) (sp := []) (fuel := 11) (rE := [(1000000, (2, 0))]) (maxL := 1) (M := mX5_takes) mt_X5_takes rfl os_X5_takes MT_len ((mA.cons (msk_166 hX) mA.nil)) (pE hX (by decide +kernel)) (by decide +kernel)
set_option maxRecDepth 16384 in
def smk_168 : aM := (37, 0, [(0, 10, 10), (0, 9, 9), (0, 13, 13)], [], [], [(some (1, 1), [], [])])
set_option maxRecDepth 16384 in
def lbk_168 : List aLab := []
set_option maxRecDepth 16384 in
theorem msk_168 {Ext : gI → Prop} (hX : pSt Ext) : MSok bT Ext MT smk_168 := achk_ok (nm := 297) (sm := []) (labs := lbk_168) (sp := []) (fuel := 14) (rE := [(1000000, (2, 0))]) (maxL := 3) (M := mX11_isIn) mt_X11_isIn rfl os_X11_isIn MT_len ( mA.nil) (pE hX (by decide +kernel)) (by decide +kernel)
set_option maxRecDepth 16384 in
def smk_169 : aM := (62, 1, [(1, 55, 0)], [(55, 5, 10, 10), (55, 7, 2, 2), (55, 11, 0, 3), (57, 0, 0, 8)], [], [(some (1, 1), [], [(55, 5, 10, 10), (55, 7, 2, 2)])])
set_option maxRecDepth 16384 in
def lbk_169 : List aLab := []
set_option maxRecDepth 16384 in
theorem msk_169 {Ext : gI → Prop} (hX : pSt Ext) : MSok bT Ext MT smk_169 := achk_ok (nm := 297) (sm := [smk_168]) (labs := lbk_169) (sp := []) (fuel := 18) (rE := [(1000000, (2, 0))]) (maxL := 1) (M := mX5_isValue) mt_X5_isValue rfl os_X5_isValue MT_len ((mA.cons (msk_168 hX) mA.nil)) (pE hX (by decide +kernel)) (by decide +kernel)
set_option maxRecDepth 16384 in
def smk_170 : aM := (63, 0, [(1, 55, 0)], [(55, 5, 10, 10), (55, 7, 2, 2), (55, 11, 0, 3), (57, 0, 0, 8)], [], [(some (10001, 10001), [], [(55, 5, 10, 10), (55, 7, 2, 2)])])
set_option maxRecDepth 16384 in
def lbk_170 : List aLab := []
set_option maxRecDepth 16384 in
theorem msk_170 {Ext : gI → Prop} (hX : pSt Ext) : MSok bT Ext MT smk_170 := achk_ok (nm := 297) (sm := []) (labs := lbk_170) (sp := []) (fuel := 16) (rE := [(1000000, (2, 0))]) (maxL := 1) (M := mX5_value) mt_X5_value rfl os_X5_value MT_len ( mA.nil) (pE hX (by decide +kernel)) (by decide +kernel)
set_option maxRecDepth 16384 in
def smk_171 : aM := (68, 2, [(1, 55, 0)], [(55, 5, 10, 10), (55, 7, 2, 2), (55, 11, 0, 3), (57, 0, 0, 8)], [(55, 7, 7), (55, 9, 9)], [(some (1, 1), [], [(55, 5, 10, 10), (55, 7, 3, 3), (55, 9, 10001, 10001)])])
set_option maxRecDepth 16384 in
def lbk_171 : List aLab := []
set_option maxRecDepth 16384 in
theorem msk_171 {Ext : gI → Prop} (hX : pSt Ext) : MSok bT Ext MT smk_171 := achk_ok (nm := 297) (sm := [smk_169, smk_170]) (labs := lbk_171) (sp := []) (fuel := 25) (rE := [(1000000, (2, 0))]) (maxL := 1) (M := mX5_takesOne) mt_X5_takesOne rfl os_X5_takesOne MT_len ((mA.cons (msk_169 hX) (mA.cons (msk_170 hX) mA.nil))) (pE hX (by decide +kernel)) (by decide +kernel)
set_option maxRecDepth 16384 in
def smk_172 : aM := (76, 3, [(1, 55, 0)], [(55, 5, 10, 10), (55, 7, 2, 2), (55, 11, 0, 3), (57, 0, 0, 8)], [(55, 7, 7), (55, 9, 9)], [(some (1, 1), [], [(55, 5, 10, 10), (55, 7, 3, 3), (55, 9, 10001, 10001)])])
set_option maxRecDepth 16384 in
def lbk_172 : List aLab := []
set_option maxRecDepth 16384 in
theorem msk_172 {Ext : gI → Prop} (hX : pSt Ext) : MSok bT Ext MT smk_172 := achk_ok (nm := 297) (sm := [smk_171]) (labs := lbk_172) (sp := []) (fuel := 11) (rE := [(1000000, (2, 0))]) (maxL := 1) (M := mX5_takes) mt_X5_takes rfl os_X5_takes MT_len ((mA.cons (msk_171 hX) mA.nil)) (pE hX (by decide +kernel)) (by decide +kernel)
set_option maxRecDepth 16384 in
def smk_173 : aM := (37, 0, [(0, 11, 11), (0, 9, 9), (0, 13, 13)], [], [], [(some (1, 1), [], [])])
set_option maxRecDepth 16384 in
def lbk_173 : List aLab := []
set_option maxRecDepth 16384 in
theorem msk_173 {Ext : gI → Prop} (hX : pSt Ext) : MSok bT Ext MT smk_173 := achk_ok (nm := 297) (sm := []) (labs := lbk_173) (sp := []) (fuel := 14) (rE := [(1000000, (2, 0))]) (maxL := 3) (M := mX11_isIn) mt_X11_isIn rfl os_X11_isIn MT_len ( mA.nil) (pE hX (by decide +kernel)) (by decide +kernel)
set_option maxRecDepth 16384 in
def smk_174 : aM := (62, 1, [(1, 55, 0)], [(55, 5, 11, 11), (55, 7, 2, 2), (55, 11, 0, 3), (57, 0, 0, 8)], [], [(some (1, 1), [], [(55, 5, 11, 11), (55, 7, 2, 2)])])
set_option maxRecDepth 16384 in
def lbk_174 : List aLab := []
set_option maxRecDepth 16384 in
theorem msk_174 {Ext : gI → Prop} (hX : pSt Ext) : MSok bT Ext MT smk_174 := achk_ok (nm := 297) (sm := [smk_173]) (labs := lbk_174) (sp := []) (fuel := 18) (rE := [(1000000, (2, 0))]) (maxL := 1) (M := mX5_isValue) mt_X5_isValue rfl os_X5_isValue MT_len ((mA.cons (msk_173 hX) mA.nil)) (pE hX (by decide +kernel)) (by decide +kernel)
set_option maxRecDepth 16384 in
def smk_175 : aM := (63, 0, [(1, 55, 0)], [(55, 5, 11, 11), (55, 7, 2, 2), (55, 11, 0, 3), (57, 0, 0, 8)], [], [(some (10002, 10002), [], [(55, 5, 11, 11), (55, 7, 2, 2)])])
set_option maxRecDepth 16384 in
def lbk_175 : List aLab := []
set_option maxRecDepth 16384 in
theorem msk_175 {Ext : gI → Prop} (hX : pSt Ext) : MSok bT Ext MT smk_175 := achk_ok (nm := 297) (sm := []) (labs := lbk_175) (sp := []) (fuel := 16) (rE := [(1000000, (2, 0))]) (maxL := 1) (M := mX5_value) mt_X5_value rfl os_X5_value MT_len ( mA.nil) (pE hX (by decide +kernel)) (by decide +kernel)
set_option maxRecDepth 16384 in
def smk_176 : aM := (68, 2, [(1, 55, 0)], [(55, 5, 11, 11), (55, 7, 2, 2), (55, 11, 0, 3), (57, 0, 0, 8)], [(55, 7, 7), (55, 9, 9)], [(some (1, 1), [], [(55, 5, 11, 11), (55, 7, 3, 3), (55, 9, 10002, 10002)])])
set_option maxRecDepth 16384 in
def lbk_176 : List aLab := []
set_option maxRecDepth 16384 in
theorem msk_176 {Ext : gI → Prop} (hX : pSt Ext) : MSok bT Ext MT smk_176 := achk_ok (nm := 297) (sm := [smk_174, smk_175]) (labs := lbk_176) (sp := []) (fuel := 25) (rE := [(1000000, (2, 0))]) (maxL := 1) (M := mX5_takesOne) mt_X5_takesOne rfl os_X5_takesOne MT_len ((mA.cons (msk_174 hX) (mA.cons (msk_175 hX) mA.nil))) (pE hX (by decide +kernel)) (by decide +kernel)
set_option maxRecDepth 16384 in
def smk_177 : aM := (76, 3, [(1, 55, 0)], [(55, 5, 11, 11), (55, 7, 2, 2), (55, 11, 0, 3), (57, 0, 0, 8)], [(55, 7, 7), (55, 9, 9)], [(some (1, 1), [], [(55, 5, 11, 11), (55, 7, 3, 3), (55, 9, 10002, 10002)])])
set_option maxRecDepth 16384 in
def lbk_177 : List aLab := []
set_option maxRecDepth 16384 in
theorem msk_177 {Ext : gI → Prop} (hX : pSt Ext) : MSok bT Ext MT smk_177 := achk_ok (nm := 297) (sm := [smk_176]) (labs := lbk_177) (sp := []) (fuel := 11) (rE := [(1000000, (2, 0))]) (maxL := 1) (M := mX5_takes) mt_X5_takes rfl os_X5_takes MT_len ((mA.cons (msk_176 hX) mA.nil)) (pE hX (by decide +kernel)) (by decide +kernel)
set_option maxRecDepth 16384 in
def smk_178 : aM := (37, 0, [(0, 12, 12), (0, 9, 9), (0, 13, 13)], [], [], [(some (1, 1), [], [])])
set_option maxRecDepth 16384 in
def lbk_178 : List aLab := []
set_option maxRecDepth 16384 in
theorem msk_178 {Ext : gI → Prop} (hX : pSt Ext) : MSok bT Ext MT smk_178 := achk_ok (nm := 297) (sm := []) (labs := lbk_178) (sp := []) (fuel := 14) (rE := [(1000000, (2, 0))]) (maxL := 3) (M := mX11_isIn) mt_X11_isIn rfl os_X11_isIn MT_len ( mA.nil) (pE hX (by decide +kernel)) (by decide +kernel)
set_option maxRecDepth 16384 in
def smk_179 : aM := (62, 1, [(1, 55, 0)], [(55, 5, 12, 12), (55, 7, 2, 2), (55, 11, 0, 3), (57, 0, 0, 8)], [], [(some (1, 1), [], [(55, 5, 12, 12), (55, 7, 2, 2)])])
set_option maxRecDepth 16384 in
def lbk_179 : List aLab := []
set_option maxRecDepth 16384 in
theorem msk_179 {Ext : gI → Prop} (hX : pSt Ext) : MSok bT Ext MT smk_179 := achk_ok (nm := 297) (sm := [smk_178]) (labs := lbk_179) (sp := []) (fuel := 18) (rE := [(1000000, (2, 0))]) (maxL := 1) (M := mX5_isValue) mt_X5_isValue rfl os_X5_isValue MT_len ((mA.cons (msk_178 hX) mA.nil)) (pE hX (by decide +kernel)) (by decide +kernel)
set_option maxRecDepth 16384 in
def smk_180 : aM := (63, 0, [(1, 55, 0)], [(55, 5, 12, 12), (55, 7, 2, 2), (55, 11, 0, 3), (57, 0, 0, 8)], [], [(some (10003, 10003), [], [(55, 5, 12, 12), (55, 7, 2, 2)])])
set_option maxRecDepth 16384 in
def lbk_180 : List aLab := []
set_option maxRecDepth 16384 in
theorem msk_180 {Ext : gI → Prop} (hX : pSt Ext) : MSok bT Ext MT smk_180 := achk_ok (nm := 297) (sm := []) (labs := lbk_180) (sp := []) (fuel := 16) (rE := [(1000000, (2, 0))]) (maxL := 1) (M := mX5_value) mt_X5_value rfl os_X5_value MT_len ( mA.nil) (pE hX (by decide +kernel)) (by decide +kernel)
set_option maxRecDepth 16384 in
def smk_181 : aM := (68, 2, [(1, 55, 0)], [(55, 5, 12, 12), (55, 7, 2, 2), (55, 11, 0, 3), (57, 0, 0, 8)], [(55, 7, 7), (55, 9, 9)], [(some (1, 1), [], [(55, 5, 12, 12), (55, 7, 3, 3), (55, 9, 10003, 10003)])])
set_option maxRecDepth 16384 in
def lbk_181 : List aLab := []
set_option maxRecDepth 16384 in
theorem msk_181 {Ext : gI → Prop} (hX : pSt Ext) : MSok bT Ext MT smk_181 := achk_ok (nm := 297) (sm := [smk_179, smk_180]) (labs := lbk_181) (sp := []) (fuel := 25) (rE := [(1000000, (2, 0))]) (maxL := 1) (M := mX5_takesOne) mt_X5_takesOne rfl os_X5_takesOne MT_len ((mA.cons (msk_179 hX) (mA.cons (msk_180 hX) mA.nil))) (pE hX (by decide +kernel)) (by decide +kernel)
set_option maxRecDepth 16384 in
def smk_182 : aM := (76, 3, [(1, 55, 0)], [(55, 5, 12, 12), (55, 7, 2, 2), (55, 11, 0, 3), (57, 0, 0, 8)], [(55, 7, 7), (55, 9, 9)], [(some (1, 1), [], [(55, 5, 12, 12), (55, 7, 3, 3), (55, 9, 10003, 10003)])])
set_option maxRecDepth 16384 in
def lbk_182 : List aLab := []
set_option maxRecDepth 16384 in
theorem msk_182 {Ext : gI → Prop} (hX : pSt Ext) : MSok bT Ext MT smk_182 := achk_ok (nm := 297) (sm := [smk_181]) (labs := lbk_182) (sp := []) (fuel := 11) (rE := [(1000000, (2, 0))]) (maxL := 1) (M := mX5_takes) mt_X5_takes rfl os_X5_takes MT_len ((mA.cons (msk_181 hX) mA.nil)) (pE hX (by decide +kernel)) (by decide +kernel)
set_option maxRecDepth 16384 in
def smk_183 : aM := (37, 0, [(0, 13, 13), (0, 9, 9), (0, 13, 13)], [], [], [(some (1, 1), [], [])])
set_option maxRecDepth 16384 in
def lbk_183 : List aLab := []
set_option maxRecDepth 16384 in
theorem msk_183 {Ext : gI → Prop} (hX : pSt Ext) : MSok bT Ext MT smk_183 := achk_ok (nm := 297) (sm := []) (labs := lbk_183) (sp := []) (fuel := 14) (rE := [(1000000, (2, 0))]) (maxL := 3) (M := mX11_isIn) mt_X11_isIn rfl os_X11_isIn MT_len ( mA.nil) (pE hX (by decide +kernel)) (by decide +kernel)
set_option maxRecDepth 16384 in
def smk_184 : aM := (62, 1, [(1, 55, 0)], [(55, 5, 13, 13), (55, 7, 2, 2), (55, 11, 0, 3), (57, 0, 0, 8)], [], [(some (1, 1), [], [(55, 5, 13, 13), (55, 7, 2, 2)])])
set_option maxRecDepth 16384 in
def lbk_184 : List aLab := []
set_option maxRecDepth 16384 in
theorem msk_184 {Ext : gI → Prop} (hX : pSt Ext) : MSok bT Ext MT smk_184 := achk_ok (nm := 297) (sm := [smk_183]) (labs := lbk_184) (sp := []) (fuel := 18) (rE := [(1000000, (2, 0))]) (maxL := 1) (M := mX5_isValue) mt_X5_isValue rfl os_X5_isValue MT_len ((mA.cons (msk_183 hX) mA.nil)) (pE hX (by decide +kernel)) (by decide +kernel)
set_option maxRecDepth 16384 in
def smk_185 : aM := (63, 0, [(1, 55, 0)], [(55, 5, 13, 13), (55, 7, 2, 2), (55, 11, 0, 3), (57, 0, 0, 8)], [], [(some (10004, 10004), [], [(55, 5, 13, 13), (55, 7, 2, 2)])])
set_option maxRecDepth 16384 in
def lbk_185 : List aLab := []
set_option maxRecDepth 16384 in
theorem msk_185 {Ext : gI → Prop} (hX : pSt Ext) : MSok bT Ext MT smk_185 := achk_ok (nm := 297) (sm := []) (labs := lbk_185) (sp := []) (fuel := 16) (rE := [(1000000, (2, 0))]) (maxL := 1) (M := mX5_value) mt_X5_value rfl os_X5_value MT_len ( mA.nil) (pE hX (by decide +kernel)) (by decide +kernel)
set_option maxRecDepth 16384 in
def smk_186 : aM := (68, 2, [(1, 55, 0)], [(55, 5, 13, 13), (55, 7, 2, 2), (55, 11, 0, 3), (57, 0, 0, 8)], [(55, 7, 7), (55, 9, 9)], [(some (1, 1), [], [(55, 5, 13, 13), (55, 7, 3, 3), (55, 9, 10004, 10004)])])
set_option maxRecDepth 16384 in
def lbk_186 : List aLab := []
set_option maxRecDepth 16384 in
theorem msk_186 {Ext : gI → Prop} (hX : pSt Ext) : MSok bT Ext MT smk_186 := achk_ok (nm := 297) (sm := [smk_184, smk_185]) (labs := lbk_186) (sp := []) (fuel := 25) (rE := [(1000000, (2, 0))]) (maxL := 1) (M := mX5_takesOne) mt_X5_takesOne rfl os_X5_takesOne MT_len ((mA.cons (msk_184 hX) (mA.cons (msk_185 hX) mA.nil))) (pE hX (by decide +kernel)) (by decide +kernel)
set_option maxRecDepth 16384 in
def smk_187 : aM := (76, 3, [(1, 55, 0)], [(55, 5, 13, 13), (55, 7, 2, 2), (55, 11, 0, 3), (57, 0, 0, 8)], [(55, 7, 7), (55, 9, 9)], [(some (1, 1), [], [(55, 5, 13, 13), (55, 7, 3, 3), (55, 9, 10004, 10004)])])
set_option maxRecDepth 16384 in
def lbk_187 : List aLab := []
set_option maxRecDepth 16384 in
theorem msk_187 {Ext : gI → Prop} (hX : pSt Ext) : MSok bT Ext MT smk_187 := achk_ok (nm := 297) (sm := [smk_186]) (labs := lbk_187) (sp := []) (fuel := 11) (rE := [(1000000, (2, 0))]) (maxL := 1) (M := mX5_takes) mt_X5_takes rfl os_X5_takes MT_len ((mA.cons (msk_186 hX) mA.nil)) (pE hX (by decide +kernel)) (by decide +kernel)
set_option maxRecDepth 16384 in
def smk_188 : aM := (62, 0, [(1, 55, 0)], [(55, 5, 18, 18), (55, 7, 2, 2), (55, 11, 0, 3), (57, 0, 0, 8)], [], [(some (1, 1), [], [(55, 5, 18, 18), (55, 7, 2, 2)])])
set_option maxRecDepth 16384 in
def lbk_188 : List aLab := []
set_option maxRecDepth 16384 in
theorem msk_188 {Ext : gI → Prop} (hX : pSt Ext) : MSok bT Ext MT smk_188 := achk_ok (nm := 297) (sm := []) (labs := lbk_188) (sp := []) (fuel := 12) (rE := [(1000000, (2, 0))]) (maxL := 1) (M := mX5_isValue) mt_X5_isValue rfl os_X5_isValue MT_len ( mA.nil) (pE hX (by decide +kernel)) (by decide +kernel)
set_option maxRecDepth 16384 in
def smk_189 : aM := (63, 0, [(1, 55, 0)], [(55, 5, 18, 18), (55, 7, 2, 2), (55, 11, 0, 3), (57, 0, 0, 8)], [], [(some ((-2147483648), 2147483647), [], [(55, 5, 18, 18), (55, 7, 2, 2)])])
set_option maxRecDepth 16384 in
def lbk_189 : List aLab := []
set_option maxRecDepth 16384 in
theorem msk_189 {Ext : gI → Prop} (hX : pSt Ext) : MSok bT Ext MT smk_189 := achk_ok (nm := 297) (sm := []) (labs := lbk_189) (sp := []) (fuel := 13) (rE := [(1000000, (2, 0))]) (maxL := 1) (M := mX5_value) mt_X5_value rfl os_X5_value MT_len ( mA.nil) (pE hX (by decide +kernel)) (by decide +kernel)
set_option maxRecDepth 16384 in
def smk_190 : aM := (68, 1, [(1, 55, 0)], [(55, 5, 18, 18), (55, 7, 2, 2), (55, 11, 0, 3), (57, 0, 0, 8)], [(55, 7, 7), (55, 9, 9)], [(some (1, 1), [], [(55, 5, 18, 18), (55, 7, 3, 3)])])
set_option maxRecDepth 16384 in
def lbk_190 : List aLab := []
set_option maxRecDepth 16384 in
theorem msk_190 {Ext : gI → Prop} (hX : pSt Ext) : MSok bT Ext MT smk_190 := achk_ok (nm := 297) (sm := [smk_188, smk_189]) (labs := lbk_190) (sp := []) (fuel := 25) (rE := [(1000000, (2, 0))]) (maxL := 1) (M := mX5_takesOne) mt_X5_takesOne rfl os_X5_takesOne MT_len ((mA.cons (msk_188 hX) (mA.cons (msk_189 hX) mA.nil))) (pE hX (by decide +kernel)) (by decide +kernel)
set_option maxRecDepth 16384 in
def smk_191 : aM := (76, 2, [(1, 55, 0)], [(55, 5, 18, 18), (55, 7, 2, 2), (55, 11, 0, 3), (57, 0, 0, 8)], [(55, 7, 7), (55, 9, 9)], [(some (1, 1), [], [(55, 5, 18, 18), (55, 7, 3, 3)])])
set_option maxRecDepth 16384 in
def lbk_191 : List aLab := []
set_option maxRecDepth 16384 in
theorem msk_191 {Ext : gI → Prop} (hX : pSt Ext) : MSok bT Ext MT smk_191 := achk_ok (nm := 297) (sm := [smk_190]) (labs := lbk_191) (sp := []) (fuel := 11) (rE := [(1000000, (2, 0))]) (maxL := 1) (M := mX5_takes) mt_X5_takes rfl os_X5_takes MT_len ((mA.cons (msk_190 hX) mA.nil)) (pE hX (by decide +kernel)) (by decide +kernel)
set_option maxRecDepth 16384 in
def smk_192 : aM := (37, 0, [(0, (-1), 8), (0, 9, 9), (0, 13, 13)], [], [], [(some (0, 0), [], [])])
set_option maxRecDepth 16384 in
def lbk_192 : List aLab := []
set_option maxRecDepth 16384 in
theorem msk_192 {Ext : gI → Prop} (hX : pSt Ext) : MSok bT Ext MT smk_192 := achk_ok (nm := 297) (sm := []) (labs := lbk_192) (sp := []) (fuel := 10) (rE := [(1000000, (2, 0))]) (maxL := 3) (M := mX11_isIn) mt_X11_isIn rfl os_X11_isIn MT_len ( mA.nil) (pE hX (by decide +kernel)) (by decide +kernel)
set_option maxRecDepth 16384 in
def smk_193 : aM := (62, 1, [(1, 55, 0)], [(55, 5, (-1), 8), (55, 7, 2, 2), (55, 11, 0, 3), (57, 0, 0, 8)], [], [(some (0, 0), [], [(55, 5, (-1), 8), (55, 7, 2, 2)])])
set_option maxRecDepth 16384 in
def lbk_193 : List aLab := []
set_option maxRecDepth 16384 in
theorem msk_193 {Ext : gI → Prop} (hX : pSt Ext) : MSok bT Ext MT smk_193 := achk_ok (nm := 297) (sm := [smk_192]) (labs := lbk_193) (sp := []) (fuel := 17) (rE := [(1000000, (2, 0))]) (maxL := 1) (M := mX5_isValue) mt_X5_isValue rfl os_X5_isValue MT_len ((mA.cons (msk_192 hX) mA.nil)) (pE hX (by decide +kernel)) (by decide +kernel)
set_option maxRecDepth 16384 in
def smk_194 : aM := (68, 2, [(1, 55, 0)], [(55, 5, (-1), 8), (55, 7, 2, 2), (55, 11, 0, 3), (57, 0, 0, 8)], [], [(some (0, 0), [], [(55, 5, (-1), 8), (55, 7, 2, 2)])])
set_option maxRecDepth 16384 in
def lbk_194 : List aLab := []
set_option maxRecDepth 16384 in
theorem msk_194 {Ext : gI → Prop} (hX : pSt Ext) : MSok bT Ext MT smk_194 := achk_ok (nm := 297) (sm := [smk_193]) (labs := lbk_194) (sp := []) (fuel := 18) (rE := [(1000000, (2, 0))]) (maxL := 1) (M := mX5_takesOne) mt_X5_takesOne rfl os_X5_takesOne MT_len ((mA.cons (msk_193 hX) mA.nil)) (pE hX (by decide +kernel)) (by decide +kernel)
set_option maxRecDepth 16384 in
def smk_195 : aM := (76, 3, [(1, 55, 0)], [(55, 5, (-1), 8), (55, 7, 2, 2), (55, 11, 0, 3), (57, 0, 0, 8)], [], [(some (0, 0), [], [(55, 5, (-1), 8), (55, 7, 2, 2)])])
set_option maxRecDepth 16384 in
def lbk_195 : List aLab := []
set_option maxRecDepth 16384 in
theorem msk_195 {Ext : gI → Prop} (hX : pSt Ext) : MSok bT Ext MT smk_195 := achk_ok (nm := 297) (sm := [smk_194]) (labs := lbk_195) (sp := []) (fuel := 11) (rE := [(1000000, (2, 0))]) (maxL := 1) (M := mX5_takes) mt_X5_takes rfl os_X5_takes MT_len ((mA.cons (msk_194 hX) mA.nil)) (pE hX (by decide +kernel)) (by decide +kernel)
set_option maxRecDepth 16384 in
def smk_196 : aM := (37, 0, [(0, 14, 16), (0, 9, 9), (0, 13, 13)], [], [], [(some (0, 0), [], [])])
set_option maxRecDepth 16384 in
def lbk_196 : List aLab := []
set_option maxRecDepth 16384 in
theorem msk_196 {Ext : gI → Prop} (hX : pSt Ext) : MSok bT Ext MT smk_196 := achk_ok (nm := 297) (sm := []) (labs := lbk_196) (sp := []) (fuel := 13) (rE := [(1000000, (2, 0))]) (maxL := 3) (M := mX11_isIn) mt_X11_isIn rfl os_X11_isIn MT_len ( mA.nil) (pE hX (by decide +kernel)) (by decide +kernel)
set_option maxRecDepth 16384 in
def smk_197 : aM := (62, 1, [(1, 55, 0)], [(55, 5, 14, 16), (55, 7, 2, 2), (55, 11, 0, 3), (57, 0, 0, 8)], [], [(some (0, 0), [], [(55, 5, 14, 16), (55, 7, 2, 2)])])
set_option maxRecDepth 16384 in
def lbk_197 : List aLab := []
set_option maxRecDepth 16384 in
theorem msk_197 {Ext : gI → Prop} (hX : pSt Ext) : MSok bT Ext MT smk_197 := achk_ok (nm := 297) (sm := [smk_196]) (labs := lbk_197) (sp := []) (fuel := 17) (rE := [(1000000, (2, 0))]) (maxL := 1) (M := mX5_isValue) mt_X5_isValue rfl os_X5_isValue MT_len ((mA.cons (msk_196 hX) mA.nil)) (pE hX (by decide +kernel)) (by decide +kernel)
set_option maxRecDepth 16384 in
def smk_198 : aM := (68, 2, [(1, 55, 0)], [(55, 5, 14, 16), (55, 7, 2, 2), (55, 11, 0, 3), (57, 0, 0, 8)], [], [(some (0, 0), [], [(55, 5, 14, 16), (55, 7, 2, 2)])])
set_option maxRecDepth 16384 in
def lbk_198 : List aLab := []
set_option maxRecDepth 16384 in
theorem msk_198 {Ext : gI → Prop} (hX : pSt Ext) : MSok bT Ext MT smk_198 := achk_ok (nm := 297) (sm := [smk_197]) (labs := lbk_198) (sp := []) (fuel := 18) (rE := [(1000000, (2, 0))]) (maxL := 1) (M := mX5_takesOne) mt_X5_takesOne rfl os_X5_takesOne MT_len ((mA.cons (msk_197 hX) mA.nil)) (pE hX (by decide +kernel)) (by decide +kernel)
set_option maxRecDepth 16384 in
def smk_199 : aM := (76, 3, [(1, 55, 0)], [(55, 5, 14, 16), (55, 7, 2, 2), (55, 11, 0, 3), (57, 0, 0, 8)], [], [(some (0, 0), [], [(55, 5, 14, 16), (55, 7, 2, 2)])])
set_option maxRecDepth 16384 in
def lbk_199 : List aLab := []
set_option maxRecDepth 16384 in
theorem msk_199 {Ext : gI → Prop} (hX : pSt Ext) : MSok bT Ext MT smk_199 := achk_ok (nm := 297) (sm := [smk_198]) (labs := lbk_199) (sp := []) (fuel := 11) (rE := [(1000000, (2, 0))]) (maxL := 1) (M := mX5_takes) mt_X5_takes rfl os_X5_takes MT_len ((mA.cons (msk_198 hX) mA.nil)) (pE hX (by decide +kernel)) (by decide +kernel)
set_option maxRecDepth 16384 in
def smk_200 : aM := (37, 0, [(0, 41, 62), (0, 9, 9), (0, 13, 13)], [], [], [(some (0, 0), [], [])])
set_option maxRecDepth 16384 in
def lbk_200 : List aLab := []
set_option maxRecDepth 16384 in
theorem msk_200 {Ext : gI → Prop} (hX : pSt Ext) : MSok bT Ext MT smk_200 := achk_ok (nm := 297) (sm := []) (labs := lbk_200) (sp := []) (fuel := 13) (rE := [(1000000, (2, 0))]) (maxL := 3) (M := mX11_isIn) mt_X11_isIn rfl os_X11_isIn MT_len ( mA.nil) (pE hX (by decide +kernel)) (by decide +kernel)
set_option maxRecDepth 16384 in
def smk_201 : aM := (62, 1, [(1, 55, 0)], [(55, 5, 41, 62), (55, 7, 2, 2), (55, 11, 0, 3), (57, 0, 0, 8)], [], [(some (0, 0), [], [(55, 5, 41, 62), (55, 7, 2, 2)])])
set_option maxRecDepth 16384 in
def lbk_201 : List aLab := []
set_option maxRecDepth 16384 in
theorem msk_201 {Ext : gI → Prop} (hX : pSt Ext) : MSok bT Ext MT smk_201 := achk_ok (nm := 297) (sm := [smk_200]) (labs := lbk_201) (sp := []) (fuel := 17) (rE := [(1000000, (2, 0))]) (maxL := 1) (M := mX5_isValue) mt_X5_isValue rfl os_X5_isValue MT_len ((mA.cons (msk_200 hX) mA.nil)) (pE hX (by decide +kernel)) (by decide +kernel)
set_option maxRecDepth 16384 in
def smk_202 : aM := (68, 2, [(1, 55, 0)], [(55, 5, 41, 62), (55, 7, 2, 2), (55, 11, 0, 3), (57, 0, 0, 8)], [], [(some (0, 0), [], [(55, 5, 41, 62), (55, 7, 2, 2)])])
set_option maxRecDepth 16384 in
def lbk_202 : List aLab := []
set_option maxRecDepth 16384 in
theorem msk_202 {Ext : gI → Prop} (hX : pSt Ext) : MSok bT Ext MT smk_202 := achk_ok (nm := 297) (sm := [smk_201]) (labs := lbk_202) (sp := []) (fuel := 18) (rE := [(1000000, (2, 0))]) (maxL := 1) (M := mX5_takesOne) mt_X5_takesOne rfl os_X5_takesOne MT_len ((mA.cons (msk_201 hX) mA.nil)) (pE hX (by decide +kernel)) (by decide +kernel)
set_option maxRecDepth 16384 in
def smk_203 : aM := (76, 3, [(1, 55, 0)], [(55, 5, 41, 62), (55, 7, 2, 2), (55, 11, 0, 3), (57, 0, 0, 8)], [], [(some (0, 0), [], [(55, 5, 41, 62), (55, 7, 2, 2)])])
set_option maxRecDepth 16384 in
def lbk_203 : List aLab := []
set_option maxRecDepth 16384 in
theorem msk_203 {Ext : gI → Prop} (hX : pSt Ext) : MSok bT Ext MT smk_203 := achk_ok (nm := 297) (sm := [smk_202]) (labs := lbk_203) (sp := []) (fuel := 11) (rE := [(1000000, (2, 0))]) (maxL := 1) (M := mX5_takes) mt_X5_takes rfl os_X5_takes MT_len ((mA.cons (msk_202 hX) mA.nil)) (pE hX (by decide +kernel)) (by decide +kernel)
set_option maxRecDepth 16384 in
def smk_204 : aM := (69, 0, [(1, 55, 0)], [(55, 5, 60, 62), (55, 7, 3, 3), (55, 11, 0, 3), (57, 0, 0, 8)], [(55, 7, 7), (55, 10, 10)], [(some (1, 1), [], [(55, 5, 60, 62), (55, 7, 4, 4), (55, 10, 60, 62)])])
set_option maxRecDepth 16384 in
def lbk_204 : List aLab := []
set_option maxRecDepth 16384 in
theorem msk_204 {Ext : gI → Prop} (hX : pSt Ext) : MSok bT Ext MT smk_204 := achk_ok (nm := 297) (sm := []) (labs := lbk_204) (sp := []) (fuel := 26) (rE := [(1000000, (2, 0))]) (maxL := 1) (M := mX5_takesSign) mt_X5_takesSign rfl os_X5_takesSign MT_len ( mA.nil) (pE hX (by decide +kernel)) (by decide +kernel)
set_option maxRecDepth 16384 in
def smk_205 : aM := (76, 1, [(1, 55, 0)], [(55, 5, 60, 62), (55, 7, 3, 3), (55, 11, 0, 3), (57, 0, 0, 8)], [(55, 7, 7), (55, 10, 10)], [(some (1, 1), [], [(55, 5, 60, 62), (55, 7, 4, 4), (55, 10, 60, 62)])])
set_option maxRecDepth 16384 in
def lbk_205 : List aLab := []
set_option maxRecDepth 16384 in
theorem msk_205 {Ext : gI → Prop} (hX : pSt Ext) : MSok bT Ext MT smk_205 := achk_ok (nm := 297) (sm := [smk_204]) (labs := lbk_205) (sp := []) (fuel := 11) (rE := [(1000000, (2, 0))]) (maxL := 1) (M := mX5_takes) mt_X5_takes rfl os_X5_takes MT_len ((mA.cons (msk_204 hX) mA.nil)) (pE hX (by decide +kernel)) (by decide +kernel)
set_option maxRecDepth 16384 in
def smk_206 : aM := (69, 0, [(1, 55, 0)], [(55, 5, (-1), 59), (55, 7, 3, 3), (55, 11, 0, 3), (57, 0, 0, 8)], [], [(some (0, 0), [], [(55, 5, (-1), 59), (55, 7, 3, 3)])])
set_option maxRecDepth 16384 in
def lbk_206 : List aLab := []
set_option maxRecDepth 16384 in
theorem msk_206 {Ext : gI → Prop} (hX : pSt Ext) : MSok bT Ext MT smk_206 := achk_ok (nm := 297) (sm := []) (labs := lbk_206) (sp := []) (fuel := 19) (rE := [(1000000, (2, 0))]) (maxL := 1) (M := mX5_takesSign) mt_X5_takesSign rfl os_X5_takesSign MT_len ( mA.nil) (pE hX (by decide +kernel)) (by decide +kernel)
set_option maxRecDepth 16384 in
def smk_207 : aM := (76, 1, [(1, 55, 0)], [(55, 5, (-1), 59), (55, 7, 3, 3), (55, 11, 0, 3), (57, 0, 0, 8)], [], [(some (0, 0), [], [(55, 5, (-1), 59), (55, 7, 3, 3)])])
set_option maxRecDepth 16384 in
def lbk_207 : List aLab := []
set_option maxRecDepth 16384 in
theorem msk_207 {Ext : gI → Prop} (hX : pSt Ext) : MSok bT Ext MT smk_207 := achk_ok (nm := 297) (sm := [smk_206]) (labs := lbk_207) (sp := []) (fuel := 11) (rE := [(1000000, (2, 0))]) (maxL := 1) (M := mX5_takes) mt_X5_takes rfl os_X5_takes MT_len ((mA.cons (msk_206 hX) mA.nil)) (pE hX (by decide +kernel)) (by decide +kernel)
set_option maxRecDepth 16384 in
def smk_208 : aM := (62, 1, [(1, 55, 0)], [(55, 5, 9, 9), (55, 7, 4, 4), (55, 11, 0, 3), (57, 0, 0, 8)], [], [(some (1, 1), [], [(55, 5, 9, 9), (55, 7, 4, 4)])])
set_option maxRecDepth 16384 in
def lbk_208 : List aLab := []
set_option maxRecDepth 16384 in
theorem msk_208 {Ext : gI → Prop} (hX : pSt Ext) : MSok bT Ext MT smk_208 := achk_ok (nm := 297) (sm := [smk_163]) (labs := lbk_208) (sp := []) (fuel := 18) (rE := [(1000000, (2, 0))]) (maxL := 1) (M := mX5_isValue) mt_X5_isValue rfl os_X5_isValue MT_len ((mA.cons (msk_163 hX) mA.nil)) (pE hX (by decide +kernel)) (by decide +kernel)
set_option maxRecDepth 16384 in
def smk_209 : aM := (63, 0, [(1, 55, 0)], [(55, 5, 9, 9), (55, 7, 4, 4), (55, 11, 0, 3), (57, 0, 0, 8)], [], [(some (10000, 10000), [], [(55, 5, 9, 9), (55, 7, 4, 4)])])
set_option maxRecDepth 16384 in
def lbk_209 : List aLab := []
set_option maxRecDepth 16384 in
theorem msk_209 {Ext : gI → Prop} (hX : pSt Ext) : MSok bT Ext MT smk_209 := achk_ok (nm := 297) (sm := []) (labs := lbk_209) (sp := []) (fuel := 16) (rE := [(1000000, (2, 0))]) (maxL := 1) (M := mX5_value) mt_X5_value rfl os_X5_value MT_len ( mA.nil) (pE hX (by decide +kernel)) (by decide +kernel)
set_option maxRecDepth 16384 in
def smk_210 : aM := (64, 1, [(1, 55, 0)], [(55, 5, 9, 9), (55, 7, 4, 4), (55, 11, 0, 3), (57, 0, 0, 8)], [(57, 1, 1), (61, 0, 199), (62, 0, 3), (63, 0, 3)], [(none, [], [(55, 5, 9, 9), (55, 7, 4, 4)])])
set_option maxRecDepth 16384 in
def lbk_210 : List aLab := []
set_option maxRecDepth 16384 in
theorem msk_210 {Ext : gI → Prop} (hX : pSt Ext) : MSok bT Ext MT smk_210 := achk_ok (nm := 297) (sm := [smk_30]) (labs := lbk_210) (sp := []) (fuel := 38) (rE := [(1000000, (2, 0))]) (maxL := 1) (M := mX5_endOne) mt_X5_endOne rfl os_X5_endOne MT_len ((mA.cons (msk_30 hX) mA.nil)) (pE hX (by decide +kernel)) (by decide +kernel)
set_option maxRecDepth 16384 in
def smk_211 : aM := (70, 2, [(1, 55, 0)], [(55, 5, 9, 9), (55, 7, 4, 4), (55, 11, 0, 3), (57, 0, 0, 8)], [(55, 7, 7), (57, 1, 1), (61, 0, 199), (62, 0, 3), (63, 0, 3)], [(some (1, 1), [], [(55, 5, 9, 9), (55, 7, 5, 5)])])
set_option maxRecDepth 16384 in
def lbk_211 : List aLab := []
set_option maxRecDepth 16384 in
theorem msk_211 {Ext : gI → Prop} (hX : pSt Ext) : MSok bT Ext MT smk_211 := achk_ok (nm := 297) (sm := [smk_208, smk_209, smk_210, smk_30]) (labs := lbk_211) (sp := []) (fuel := 30) (rE := [(1000000, (2, 0))]) (maxL := 1) (M := mX5_takesRight) mt_X5_takesRight rfl os_X5_takesRight MT_len ((mA.cons (msk_208 hX) (mA.cons (msk_209 hX) (mA.cons (msk_210 hX) (mA.cons (msk_30 hX) mA.nil))))) (pE hX (by decide +kernel)) (by decide +kernel)
set_option maxRecDepth 16384 in
def smk_212 : aM := (76, 3, [(1, 55, 0)], [(55, 5, 9, 9), (55, 7, 4, 4), (55, 11, 0, 3), (57, 0, 0, 8)], [(55, 7, 7), (57, 1, 1), (61, 0, 199), (62, 0, 3), (63, 0, 3)], [(some (1, 1), [], [(55, 5, 9, 9), (55, 7, 5, 5)])])
set_option maxRecDepth 16384 in
def lbk_212 : List aLab := []
set_option maxRecDepth 16384 in
theorem msk_212 {Ext : gI → Prop} (hX : pSt Ext) : MSok bT Ext MT smk_212 := achk_ok (nm := 297) (sm := [smk_211]) (labs := lbk_212) (sp := []) (fuel := 11) (rE := [(1000000, (2, 0))]) (maxL := 1) (M := mX5_takes) mt_X5_takes rfl os_X5_takes MT_len ((mA.cons (msk_211 hX) mA.nil)) (pE hX (by decide +kernel)) (by decide +kernel)
set_option maxRecDepth 16384 in
def smk_213 : aM := (62, 1, [(1, 55, 0)], [(55, 5, 10, 10), (55, 7, 4, 4), (55, 11, 0, 3), (57, 0, 0, 8)], [], [(some (1, 1), [], [(55, 5, 10, 10), (55, 7, 4, 4)])])
set_option maxRecDepth 16384 in
def lbk_213 : List aLab := []
set_option maxRecDepth 16384 in
theorem msk_213 {Ext : gI → Prop} (hX : pSt Ext) : MSok bT Ext MT smk_213 := achk_ok (nm := 297) (sm := [smk_168]) (labs := lbk_213) (sp := []) (fuel := 18) (rE := [(1000000, (2, 0))]) (maxL := 1) (M := mX5_isValue) mt_X5_isValue rfl os_X5_isValue MT_len ((mA.cons (msk_168 hX) mA.nil)) (pE hX (by decide +kernel)) (by decide +kernel)
set_option maxRecDepth 16384 in
def smk_214 : aM := (63, 0, [(1, 55, 0)], [(55, 5, 10, 10), (55, 7, 4, 4), (55, 11, 0, 3), (57, 0, 0, 8)], [], [(some (10001, 10001), [], [(55, 5, 10, 10), (55, 7, 4, 4)])])
set_option maxRecDepth 16384 in
def lbk_214 : List aLab := []
set_option maxRecDepth 16384 in
theorem msk_214 {Ext : gI → Prop} (hX : pSt Ext) : MSok bT Ext MT smk_214 := achk_ok (nm := 297) (sm := []) (labs := lbk_214) (sp := []) (fuel := 16) (rE := [(1000000, (2, 0))]) (maxL := 1) (M := mX5_value) mt_X5_value rfl os_X5_value MT_len ( mA.nil) (pE hX (by decide +kernel)) (by decide +kernel)
set_option maxRecDepth 16384 in
def smk_215 : aM := (64, 1, [(1, 55, 0)], [(55, 5, 10, 10), (55, 7, 4, 4), (55, 11, 0, 3), (57, 0, 0, 8)], [(57, 1, 1), (61, 0, 199), (62, 0, 3), (63, 0, 3)], [(none, [], [(55, 5, 10, 10), (55, 7, 4, 4)])])
set_option maxRecDepth 16384 in
def lbk_215 : List aLab := []
set_option maxRecDepth 16384 in
theorem msk_215 {Ext : gI → Prop} (hX : pSt Ext) : MSok bT Ext MT smk_215 := achk_ok (nm := 297) (sm := [smk_30]) (labs := lbk_215) (sp := []) (fuel := 38) (rE := [(1000000, (2, 0))]) (maxL := 1) (M := mX5_endOne) mt_X5_endOne rfl os_X5_endOne MT_len ((mA.cons (msk_30 hX) mA.nil)) (pE hX (by decide +kernel)) (by decide +kernel)
set_option maxRecDepth 16384 in
def smk_216 : aM := (70, 2, [(1, 55, 0)], [(55, 5, 10, 10), (55, 7, 4, 4), (55, 11, 0, 3), (57, 0, 0, 8)], [(55, 7, 7), (57, 1, 1), (61, 0, 199), (62, 0, 3), (63, 0, 3)], [(some (1, 1), [], [(55, 5, 10, 10), (55, 7, 5, 5)])])
set_option maxRecDepth 16384 in
def lbk_216 : List aLab := []
set_option maxRecDepth 16384 in
theorem msk_216 {Ext : gI → Prop} (hX : pSt Ext) : MSok bT Ext MT smk_216 := achk_ok (nm := 297) (sm := [smk_213, smk_214, smk_215, smk_30]) (labs := lbk_216) (sp := []) (fuel := 30) (rE := [(1000000, (2, 0))]) (maxL := 1) (M := mX5_takesRight) mt_X5_takesRight rfl os_X5_takesRight MT_len ((mA.cons (msk_213 hX) (mA.cons (msk_214 hX) (mA.cons (msk_215 hX) (mA.cons (msk_30 hX) mA.nil))))) (pE hX (by decide +kernel)) (by decide +kernel)
set_option maxRecDepth 16384 in
def smk_217 : aM := (76, 3, [(1, 55, 0)], [(55, 5, 10, 10), (55, 7, 4, 4), (55, 11, 0, 3), (57, 0, 0, 8)], [(55, 7, 7), (57, 1, 1), (61, 0, 199), (62, 0, 3), (63, 0, 3)], [(some (1, 1), [], [(55, 5, 10, 10), (55, 7, 5, 5)])])
set_option maxRecDepth 16384 in
def lbk_217 : List aLab := []
set_option maxRecDepth 16384 in
theorem msk_217 {Ext : gI → Prop} (hX : pSt Ext) : MSok bT Ext MT smk_217 := achk_ok (nm := 297) (sm := [smk_216]) (labs := lbk_217) (sp := []) (fuel := 11) (rE := [(1000000, (2, 0))]) (maxL := 1) (M := mX5_takes) mt_X5_takes rfl os_X5_takes MT_len ((mA.cons (msk_216 hX) mA.nil)) (pE hX (by decide +kernel)) (by decide +kernel)
set_option maxRecDepth 16384 in
def smk_218 : aM := (62, 1, [(1, 55, 0)], [(55, 5, 11, 11), (55, 7, 4, 4), (55, 11, 0, 3), (57, 0, 0, 8)], [], [(some (1, 1), [], [(55, 5, 11, 11), (55, 7, 4, 4)])])
set_option maxRecDepth 16384 in
def lbk_218 : List aLab := []
set_option maxRecDepth 16384 in
theorem msk_218 {Ext : gI → Prop} (hX : pSt Ext) : MSok bT Ext MT smk_218 := achk_ok (nm := 297) (sm := [smk_173]) (labs := lbk_218) (sp := []) (fuel := 18) (rE := [(1000000, (2, 0))]) (maxL := 1) (M := mX5_isValue) mt_X5_isValue rfl os_X5_isValue MT_len ((mA.cons (msk_173 hX) mA.nil)) (pE hX (by decide +kernel)) (by decide +kernel)
set_option maxRecDepth 16384 in
def smk_219 : aM := (63, 0, [(1, 55, 0)], [(55, 5, 11, 11), (55, 7, 4, 4), (55, 11, 0, 3), (57, 0, 0, 8)], [], [(some (10002, 10002), [], [(55, 5, 11, 11), (55, 7, 4, 4)])])
set_option maxRecDepth 16384 in
def lbk_219 : List aLab := []
set_option maxRecDepth 16384 in
theorem msk_219 {Ext : gI → Prop} (hX : pSt Ext) : MSok bT Ext MT smk_219 := achk_ok (nm := 297) (sm := []) (labs := lbk_219) (sp := []) (fuel := 16) (rE := [(1000000, (2, 0))]) (maxL := 1) (M := mX5_value) mt_X5_value rfl os_X5_value MT_len ( mA.nil) (pE hX (by decide +kernel)) (by decide +kernel)
set_option maxRecDepth 16384 in
def smk_220 : aM := (64, 1, [(1, 55, 0)], [(55, 5, 11, 11), (55, 7, 4, 4), (55, 11, 0, 3), (57, 0, 0, 8)], [(57, 1, 1), (61, 0, 199), (62, 0, 3), (63, 0, 3)], [(none, [], [(55, 5, 11, 11), (55, 7, 4, 4)])])
set_option maxRecDepth 16384 in
def lbk_220 : List aLab := []
set_option maxRecDepth 16384 in
theorem msk_220 {Ext : gI → Prop} (hX : pSt Ext) : MSok bT Ext MT smk_220 := achk_ok (nm := 297) (sm := [smk_30]) (labs := lbk_220) (sp := []) (fuel := 38) (rE := [(1000000, (2, 0))]) (maxL := 1) (M := mX5_endOne) mt_X5_endOne rfl os_X5_endOne MT_len ((mA.cons (msk_30 hX) mA.nil)) (pE hX (by decide +kernel)) (by decide +kernel)
set_option maxRecDepth 16384 in
def smk_221 : aM := (70, 2, [(1, 55, 0)], [(55, 5, 11, 11), (55, 7, 4, 4), (55, 11, 0, 3), (57, 0, 0, 8)], [(55, 7, 7), (57, 1, 1), (61, 0, 199), (62, 0, 3), (63, 0, 3)], [(some (1, 1), [], [(55, 5, 11, 11), (55, 7, 5, 5)])])
set_option maxRecDepth 16384 in
def lbk_221 : List aLab := []
set_option maxRecDepth 16384 in
theorem msk_221 {Ext : gI → Prop} (hX : pSt Ext) : MSok bT Ext MT smk_221 := achk_ok (nm := 297) (sm := [smk_218, smk_219, smk_220, smk_30]) (labs := lbk_221) (sp := []) (fuel := 30) (rE := [(1000000, (2, 0))]) (maxL := 1) (M := mX5_takesRight) mt_X5_takesRight rfl os_X5_takesRight MT_len ((mA.cons (msk_218 hX) (mA.cons (msk_219 hX) (mA.cons (msk_220 hX) (mA.cons (msk_30 hX) mA.nil))))) (pE hX (by decide +kernel)) (by decide +kernel)
set_option maxRecDepth 16384 in
def smk_222 : aM := (76, 3, [(1, 55, 0)], [(55, 5, 11, 11), (55, 7, 4, 4), (55, 11, 0, 3), (57, 0, 0, 8)], [(55, 7, 7), (57, 1, 1), (61, 0, 199), (62, 0, 3), (63, 0, 3)], [(some (1, 1), [], [(55, 5, 11, 11), (55, 7, 5, 5)])])
set_option maxRecDepth 16384 in
def lbk_222 : List aLab := []
set_option maxRecDepth 16384 in
theorem msk_222 {Ext : gI → Prop} (hX : pSt Ext) : MSok bT Ext MT smk_222 := achk_ok (nm := 297) (sm := [smk_221]) (labs := lbk_222) (sp := []) (fuel := 11) (rE := [(1000000, (2, 0))]) (maxL := 1) (M := mX5_takes) mt_X5_takes rfl os_X5_takes MT_len ((mA.cons (msk_221 hX) mA.nil)) (pE hX (by decide +kernel)) (by decide +kernel)
set_option maxRecDepth 16384 in
def smk_223 : aM := (62, 1, [(1, 55, 0)], [(55, 5, 12, 12), (55, 7, 4, 4), (55, 11, 0, 3), (57, 0, 0, 8)], [], [(some (1, 1), [], [(55, 5, 12, 12), (55, 7, 4, 4)])])
set_option maxRecDepth 16384 in
def lbk_223 : List aLab := []
set_option maxRecDepth 16384 in
theorem msk_223 {Ext : gI → Prop} (hX : pSt Ext) : MSok bT Ext MT smk_223 := achk_ok (nm := 297) (sm := [smk_178]) (labs := lbk_223) (sp := []) (fuel := 18) (rE := [(1000000, (2, 0))]) (maxL := 1) (M := mX5_isValue) mt_X5_isValue rfl os_X5_isValue MT_len ((mA.cons (msk_178 hX) mA.nil)) (pE hX (by decide +kernel)) (by decide +kernel)
set_option maxRecDepth 16384 in
def smk_224 : aM := (63, 0, [(1, 55, 0)], [(55, 5, 12, 12), (55, 7, 4, 4), (55, 11, 0, 3), (57, 0, 0, 8)], [], [(some (10003, 10003), [], [(55, 5, 12, 12), (55, 7, 4, 4)])])
set_option maxRecDepth 16384 in
def lbk_224 : List aLab := []
set_option maxRecDepth 16384 in
theorem msk_224 {Ext : gI → Prop} (hX : pSt Ext) : MSok bT Ext MT smk_224 := achk_ok (nm := 297) (sm := []) (labs := lbk_224) (sp := []) (fuel := 16) (rE := [(1000000, (2, 0))]) (maxL := 1) (M := mX5_value) mt_X5_value rfl os_X5_value MT_len ( mA.nil) (pE hX (by decide +kernel)) (by decide +kernel)
set_option maxRecDepth 16384 in
def smk_225 : aM := (64, 1, [(1, 55, 0)], [(55, 5, 12, 12), (55, 7, 4, 4), (55, 11, 0, 3), (57, 0, 0, 8)], [(57, 1, 1), (61, 0, 199), (62, 0, 3), (63, 0, 3)], [(none, [], [(55, 5, 12, 12), (55, 7, 4, 4)])])
set_option maxRecDepth 16384 in
def lbk_225 : List aLab := []
set_option maxRecDepth 16384 in
theorem msk_225 {Ext : gI → Prop} (hX : pSt Ext) : MSok bT Ext MT smk_225 := achk_ok (nm := 297) (sm := [smk_30]) (labs := lbk_225) (sp := []) (fuel := 38) (rE := [(1000000, (2, 0))]) (maxL := 1) (M := mX5_endOne) mt_X5_endOne rfl os_X5_endOne MT_len ((mA.cons (msk_30 hX) mA.nil)) (pE hX (by decide +kernel)) (by decide +kernel)
set_option maxRecDepth 16384 in
def smk_226 : aM := (70, 2, [(1, 55, 0)], [(55, 5, 12, 12), (55, 7, 4, 4), (55, 11, 0, 3), (57, 0, 0, 8)], [(55, 7, 7), (57, 1, 1), (61, 0, 199), (62, 0, 3), (63, 0, 3)], [(some (1, 1), [], [(55, 5, 12, 12), (55, 7, 5, 5)])])
set_option maxRecDepth 16384 in
def lbk_226 : List aLab := []
set_option maxRecDepth 16384 in
theorem msk_226 {Ext : gI → Prop} (hX : pSt Ext) : MSok bT Ext MT smk_226 := achk_ok (nm := 297) (sm := [smk_223, smk_224, smk_225, smk_30]) (labs := lbk_226) (sp := []) (fuel := 30) (rE := [(1000000, (2, 0))]) (maxL := 1) (M := mX5_takesRight) mt_X5_takesRight rfl os_X5_takesRight MT_len ((mA.cons (msk_223 hX) (mA.cons (msk_224 hX) (mA.cons (msk_225 hX) (mA.cons (msk_30 hX) mA.nil))))) (pE hX (by decide +kernel)) (by decide +kernel)
set_option maxRecDepth 16384 in
def smk_227 : aM := (76, 3, [(1, 55, 0)], [(55, 5, 12, 12), (55, 7, 4, 4), (55, 11, 0, 3), (57, 0, 0, 8)], [(55, 7, 7), (57, 1, 1), (61, 0, 199), (62, 0, 3), (63, 0, 3)], [(some (1, 1), [], [(55, 5, 12, 12), (55, 7, 5, 5)])])
set_option maxRecDepth 16384 in
def lbk_227 : List aLab := []
set_option maxRecDepth 16384 in
theorem msk_227 {Ext : gI → Prop} (hX : pSt Ext) : MSok bT Ext MT smk_227 := achk_ok (nm := 297) (sm := [smk_226]) (labs := lbk_227) (sp := []) (fuel := 11) (rE := [(1000000, (2, 0))]) (maxL := 1) (M := mX5_takes) mt_X5_takes rfl os_X5_takes MT_len ((mA.cons (msk_226 hX) mA.nil)) (pE hX (by decide +kernel)) (by decide +kernel)
set_option maxRecDepth 16384 in
def smk_228 : aM := (62, 1, [(1, 55, 0)], [(55, 5, 13, 13), (55, 7, 4, 4), (55, 11, 0, 3), (57, 0, 0, 8)], [], [(some (1, 1), [], [(55, 5, 13, 13), (55, 7, 4, 4)])])
set_option maxRecDepth 16384 in
def lbk_228 : List aLab := []
set_option maxRecDepth 16384 in
theorem msk_228 {Ext : gI → Prop} (hX : pSt Ext) : MSok bT Ext MT smk_228 := achk_ok (nm := 297) (sm := [smk_183]) (labs := lbk_228) (sp := []) (fuel := 18) (rE := [(1000000, (2, 0))]) (maxL := 1) (M := mX5_isValue) mt_X5_isValue rfl os_X5_isValue MT_len ((mA.cons (msk_183 hX) mA.nil)) (pE hX (by decide +kernel)) (by decide +kernel)
set_option maxRecDepth 16384 in
def smk_229 : aM := (63, 0, [(1, 55, 0)], [(55, 5, 13, 13), (55, 7, 4, 4), (55, 11, 0, 3), (57, 0, 0, 8)], [], [(some (10004, 10004), [], [(55, 5, 13, 13), (55, 7, 4, 4)])])
set_option maxRecDepth 16384 in
def lbk_229 : List aLab := []
set_option maxRecDepth 16384 in
theorem msk_229 {Ext : gI → Prop} (hX : pSt Ext) : MSok bT Ext MT smk_229 := achk_ok (nm := 297) (sm := []) (labs := lbk_229) (sp := []) (fuel := 16) (rE := [(1000000, (2, 0))]) (maxL := 1) (M := mX5_value) mt_X5_value rfl os_X5_value MT_len ( mA.nil) (pE hX (by decide +kernel)) (by decide +kernel)
set_option maxRecDepth 16384 in
def smk_230 : aM := (64, 1, [(1, 55, 0)], [(55, 5, 13, 13), (55, 7, 4, 4), (55, 11, 0, 3), (57, 0, 0, 8)], [(57, 1, 1), (61, 0, 199), (62, 0, 3), (63, 0, 3)], [(none, [], [(55, 5, 13, 13), (55, 7, 4, 4)])])
set_option maxRecDepth 16384 in
def lbk_230 : List aLab := []
set_option maxRecDepth 16384 in
theorem msk_230 {Ext : gI → Prop} (hX : pSt Ext) : MSok bT Ext MT smk_230 := achk_ok (nm := 297) (sm := [smk_30]) (labs := lbk_230) (sp := []) (fuel := 38) (rE := [(1000000, (2, 0))]) (maxL := 1) (M := mX5_endOne) mt_X5_endOne rfl os_X5_endOne MT_len ((mA.cons (msk_30 hX) mA.nil)) (pE hX (by decide +kernel)) (by decide +kernel)
set_option maxRecDepth 16384 in
def smk_231 : aM := (70, 2, [(1, 55, 0)], [(55, 5, 13, 13), (55, 7, 4, 4), (55, 11, 0, 3), (57, 0, 0, 8)], [(55, 7, 7), (57, 1, 1), (61, 0, 199), (62, 0, 3), (63, 0, 3)], [(some (1, 1), [], [(55, 5, 13, 13), (55, 7, 5, 5)])])
set_option maxRecDepth 16384 in
def lbk_231 : List aLab := []
set_option maxRecDepth 16384 in
theorem msk_231 {Ext : gI → Prop} (hX : pSt Ext) : MSok bT Ext MT smk_231 := achk_ok (nm := 297) (sm := [smk_228, smk_229, smk_230, smk_30]) (labs := lbk_231) (sp := []) (fuel := 30) (rE := [(1000000, (2, 0))]) (maxL := 1) (M := mX5_takesRight) mt_X5_takesRight rfl os_X5_takesRight MT_len ((mA.cons (msk_228 hX) (mA.cons (msk_229 hX) (mA.cons (msk_230 hX) (mA.cons (msk_30 hX) mA.nil))))) (pE hX (by decide +kernel)) (by decide +kernel)
set_option maxRecDepth 16384 in
def smk_232 : aM := (76, 3, [(1, 55, 0)], [(55, 5, 13, 13), (55, 7, 4, 4), (55, 11, 0, 3), (57, 0, 0, 8)], [(55, 7, 7), (57, 1, 1), (61, 0, 199), (62, 0, 3), (63, 0, 3)], [(some (1, 1), [], [(55, 5, 13, 13), (55, 7, 5, 5)])])
set_option maxRecDepth 16384 in
def lbk_232 : List aLab := []
set_option maxRecDepth 16384 in
theorem msk_232 {Ext : gI → Prop} (hX : pSt Ext) : MSok bT Ext MT smk_232 := achk_ok (nm := 297) (sm := [smk_231]) (labs := lbk_232) (sp := []) (fuel := 11) (rE := [(1000000, (2, 0))]) (maxL := 1) (M := mX5_takes) mt_X5_takes rfl os_X5_takes MT_len ((mA.cons (msk_231 hX) mA.nil)) (pE hX (by decide +kernel)) (by decide +kernel)
set_option maxRecDepth 16384 in
def smk_233 : aM := (62, 0, [(1, 55, 0)], [(55, 5, 18, 18), (55, 7, 4, 4), (55, 11, 0, 3), (57, 0, 0, 8)], [], [(some (1, 1), [], [(55, 5, 18, 18), (55, 7, 4, 4)])])
set_option maxRecDepth 16384 in
def lbk_233 : List aLab := []
set_option maxRecDepth 16384 in
theorem msk_233 {Ext : gI → Prop} (hX : pSt Ext) : MSok bT Ext MT smk_233 := achk_ok (nm := 297) (sm := []) (labs := lbk_233) (sp := []) (fuel := 12) (rE := [(1000000, (2, 0))]) (maxL := 1) (M := mX5_isValue) mt_X5_isValue rfl os_X5_isValue MT_len ( mA.nil) (pE hX (by decide +kernel)) (by decide +kernel)
set_option maxRecDepth 16384 in
def smk_234 : aM := (63, 0, [(1, 55, 0)], [(55, 5, 18, 18), (55, 7, 4, 4), (55, 11, 0, 3), (57, 0, 0, 8)], [], [(some ((-2147483648), 2147483647), [], [(55, 5, 18, 18), (55, 7, 4, 4)])])
set_option maxRecDepth 16384 in
def lbk_234 : List aLab := []
set_option maxRecDepth 16384 in
theorem msk_234 {Ext : gI → Prop} (hX : pSt Ext) : MSok bT Ext MT smk_234 := achk_ok (nm := 297) (sm := []) (labs := lbk_234) (sp := []) (fuel := 13) (rE := [(1000000, (2, 0))]) (maxL := 1) (M := mX5_value) mt_X5_value rfl os_X5_value MT_len ( mA.nil) (pE hX (by decide +kernel)) (by decide +kernel)
set_option maxRecDepth 16384 in
def smk_235 : aM := (64, 1, [(1, 55, 0)], [(55, 5, 18, 18), (55, 7, 4, 4), (55, 11, 0, 3), (57, 0, 0, 8)], [(57, 1, 1), (61, 0, 199), (62, 0, 3), (63, 0, 3)], [(none, [], [(55, 5, 18, 18), (55, 7, 4, 4)])])
set_option maxRecDepth 16384 in
def lbk_235 : List aLab := []
set_option maxRecDepth 16384 in
theorem msk_235 {Ext : gI → Prop} (hX : pSt Ext) : MSok bT Ext MT smk_235 := achk_ok (nm := 297) (sm := [smk_30]) (labs := lbk_235) (sp := []) (fuel := 38) (rE := [(1000000, (2, 0))]) (maxL := 1) (M := mX5_endOne) mt_X5_endOne rfl os_X5_endOne MT_len ((mA.cons (msk_30 hX) mA.nil)) (pE hX (by decide +kernel)) (by decide +kernel)
set_option maxRecDepth 16384 in
def smk_236 : aM := (70, 2, [(1, 55, 0)], [(55, 5, 18, 18), (55, 7, 4, 4), (55, 11, 0, 3), (57, 0, 0, 8)], [(55, 7, 7), (57, 1, 1), (61, 0, 199), (62, 0, 3), (63, 0, 3)], [(some (1, 1), [], [(55, 5, 18, 18), (55, 7, 5, 5)])])
set_option maxRecDepth 16384 in
def lbk_236 : List aLab := []
set_option maxRecDepth 16384 in
theorem msk_236 {Ext : gI → Prop} (hX : pSt Ext) : MSok bT Ext MT smk_236 := achk_ok (nm := 297) (sm := [smk_233, smk_234, smk_235, smk_30]) (labs := lbk_236) (sp := []) (fuel := 30) (rE := [(1000000, (2, 0))]) (maxL := 1) (M := mX5_takesRight) mt_X5_takesRight rfl os_X5_takesRight MT_len ((mA.cons (msk_233 hX) (mA.cons (msk_234 hX) (mA.cons (msk_235 hX) (mA.cons (msk_30 hX) mA.nil))))) (pE hX (by decide +kernel)) (by decide +kernel)
set_option maxRecDepth 16384 in
def smk_237 : aM := (76, 3, [(1, 55, 0)], [(55, 5, 18, 18), (55, 7, 4, 4), (55, 11, 0, 3), (57, 0, 0, 8)], [(55, 7, 7), (57, 1, 1), (61, 0, 199), (62, 0, 3), (63, 0, 3)], [(some (1, 1), [], [(55, 5, 18, 18), (55, 7, 5, 5)])])
set_option maxRecDepth 16384 in
def lbk_237 : List aLab := []
set_option maxRecDepth 16384 in
theorem msk_237 {Ext : gI → Prop} (hX : pSt Ext) : MSok bT Ext MT smk_237 := achk_ok (nm := 297) (sm := [smk_236]) (labs := lbk_237) (sp := []) (fuel := 11) (rE := [(1000000, (2, 0))]) (maxL := 1) (M := mX5_takes) mt_X5_takes rfl os_X5_takes MT_len ((mA.cons (msk_236 hX) mA.nil)) (pE hX (by decide +kernel)) (by decide +kernel)
set_option maxRecDepth 16384 in
def smk_238 : aM := (62, 1, [(1, 55, 0)], [(55, 5, (-1), 8), (55, 7, 4, 4), (55, 11, 0, 3), (57, 0, 0, 8)], [], [(some (0, 0), [], [(55, 5, (-1), 8), (55, 7, 4, 4)])])
set_option maxRecDepth 16384 in
def lbk_238 : List aLab := []
set_option maxRecDepth 16384 in
theorem msk_238 {Ext : gI → Prop} (hX : pSt Ext) : MSok bT Ext MT smk_238 := achk_ok (nm := 297) (sm := [smk_192]) (labs := lbk_238) (sp := []) (fuel := 17) (rE := [(1000000, (2, 0))]) (maxL := 1) (M := mX5_isValue) mt_X5_isValue rfl os_X5_isValue MT_len ((mA.cons (msk_192 hX) mA.nil)) (pE hX (by decide +kernel)) (by decide +kernel)
set_option maxRecDepth 16384 in
def smk_239 : aM := (70, 2, [(1, 55, 0)], [(55, 5, (-1), 8), (55, 7, 4, 4), (55, 11, 0, 3), (57, 0, 0, 8)], [], [(some (0, 0), [], [(55, 5, (-1), 8), (55, 7, 4, 4)])])
set_option maxRecDepth 16384 in
def lbk_239 : List aLab := []
set_option maxRecDepth 16384 in
theorem msk_239 {Ext : gI → Prop} (hX : pSt Ext) : MSok bT Ext MT smk_239 := achk_ok (nm := 297) (sm := [smk_238]) (labs := lbk_239) (sp := []) (fuel := 10) (rE := [(1000000, (2, 0))]) (maxL := 1) (M := mX5_takesRight) mt_X5_takesRight rfl os_X5_takesRight MT_len ((mA.cons (msk_238 hX) mA.nil)) (pE hX (by decide +kernel)) (by decide +kernel)
set_option maxRecDepth 16384 in
def smk_240 : aM := (76, 3, [(1, 55, 0)], [(55, 5, (-1), 8), (55, 7, 4, 4), (55, 11, 0, 3), (57, 0, 0, 8)], [], [(some (0, 0), [], [(55, 5, (-1), 8), (55, 7, 4, 4)])])
set_option maxRecDepth 16384 in
def lbk_240 : List aLab := []
set_option maxRecDepth 16384 in
theorem msk_240 {Ext : gI → Prop} (hX : pSt Ext) : MSok bT Ext MT smk_240 := achk_ok (nm := 297) (sm := [smk_239]) (labs := lbk_240) (sp := []) (fuel := 11) (rE := [(1000000, (2, 0))]) (maxL := 1) (M := mX5_takes) mt_X5_takes rfl os_X5_takes MT_len ((mA.cons (msk_239 hX) mA.nil)) (pE hX (by decide +kernel)) (by decide +kernel)
set_option maxRecDepth 16384 in
def smk_241 : aM := (37, 0, [(0, 14, 17), (0, 9, 9), (0, 13, 13)], [], [], [(some (0, 0), [], [])])
set_option maxRecDepth 16384 in
def lbk_241 : List aLab := []
set_option maxRecDepth 16384 in
theorem msk_241 {Ext : gI → Prop} (hX : pSt Ext) : MSok bT Ext MT smk_241 := achk_ok (nm := 297) (sm := []) (labs := lbk_241) (sp := []) (fuel := 13) (rE := [(1000000, (2, 0))]) (maxL := 3) (M := mX11_isIn) mt_X11_isIn rfl os_X11_isIn MT_len ( mA.nil) (pE hX (by decide +kernel)) (by decide +kernel)
set_option maxRecDepth 16384 in
def smk_242 : aM := (62, 1, [(1, 55, 0)], [(55, 5, 14, 17), (55, 7, 4, 4), (55, 11, 0, 3), (57, 0, 0, 8)], [], [(some (0, 0), [], [(55, 5, 14, 17), (55, 7, 4, 4)])])
set_option maxRecDepth 16384 in
def lbk_242 : List aLab := []
set_option maxRecDepth 16384 in
theorem msk_242 {Ext : gI → Prop} (hX : pSt Ext) : MSok bT Ext MT smk_242 := achk_ok (nm := 297) (sm := [smk_241]) (labs := lbk_242) (sp := []) (fuel := 17) (rE := [(1000000, (2, 0))]) (maxL := 1) (M := mX5_isValue) mt_X5_isValue rfl os_X5_isValue MT_len ((mA.cons (msk_241 hX) mA.nil)) (pE hX (by decide +kernel)) (by decide +kernel)
set_option maxRecDepth 16384 in
def smk_243 : aM := (70, 2, [(1, 55, 0)], [(55, 5, 14, 17), (55, 7, 4, 4), (55, 11, 0, 3), (57, 0, 0, 8)], [], [(some (0, 0), [], [(55, 5, 14, 17), (55, 7, 4, 4)])])
set_option maxRecDepth 16384 in
def lbk_243 : List aLab := []
set_option maxRecDepth 16384 in
theorem msk_243 {Ext : gI → Prop} (hX : pSt Ext) : MSok bT Ext MT smk_243 := achk_ok (nm := 297) (sm := [smk_242]) (labs := lbk_243) (sp := []) (fuel := 10) (rE := [(1000000, (2, 0))]) (maxL := 1) (M := mX5_takesRight) mt_X5_takesRight rfl os_X5_takesRight MT_len ((mA.cons (msk_242 hX) mA.nil)) (pE hX (by decide +kernel)) (by decide +kernel)
set_option maxRecDepth 16384 in
def smk_244 : aM := (76, 3, [(1, 55, 0)], [(55, 5, 14, 17), (55, 7, 4, 4), (55, 11, 0, 3), (57, 0, 0, 8)], [], [(some (0, 0), [], [(55, 5, 14, 17), (55, 7, 4, 4)])])
set_option maxRecDepth 16384 in
def lbk_244 : List aLab := []
set_option maxRecDepth 16384 in
theorem msk_244 {Ext : gI → Prop} (hX : pSt Ext) : MSok bT Ext MT smk_244 := achk_ok (nm := 297) (sm := [smk_243]) (labs := lbk_244) (sp := []) (fuel := 11) (rE := [(1000000, (2, 0))]) (maxL := 1) (M := mX5_takes) mt_X5_takes rfl os_X5_takes MT_len ((mA.cons (msk_243 hX) mA.nil)) (pE hX (by decide +kernel)) (by decide +kernel)
set_option maxRecDepth 16384 in
def smk_245 : aM := (37, 0, [(0, 19, 62), (0, 9, 9), (0, 13, 13)], [], [], [(some (0, 0), [], [])])
set_option maxRecDepth 16384 in
def lbk_245 : List aLab := []
set_option maxRecDepth 16384 in
theorem msk_245 {Ext : gI → Prop} (hX : pSt Ext) : MSok bT Ext MT smk_245 := achk_ok (nm := 297) (sm := []) (labs := lbk_245) (sp := []) (fuel := 13) (rE := [(1000000, (2, 0))]) (maxL := 3) (M := mX11_isIn) mt_X11_isIn rfl os_X11_isIn MT_len ( mA.nil) (pE hX (by decide +kernel)) (by decide +kernel)
set_option maxRecDepth 16384 in
def smk_246 : aM := (62, 1, [(1, 55, 0)], [(55, 5, 19, 62), (55, 7, 4, 4), (55, 11, 0, 3), (57, 0, 0, 8)], [], [(some (0, 0), [], [(55, 5, 19, 62), (55, 7, 4, 4)])])
set_option maxRecDepth 16384 in
def lbk_246 : List aLab := []
set_option maxRecDepth 16384 in
theorem msk_246 {Ext : gI → Prop} (hX : pSt Ext) : MSok bT Ext MT smk_246 := achk_ok (nm := 297) (sm := [smk_245]) (labs := lbk_246) (sp := []) (fuel := 17) (rE := [(1000000, (2, 0))]) (maxL := 1) (M := mX5_isValue) mt_X5_isValue rfl os_X5_isValue MT_len ((mA.cons (msk_245 hX) mA.nil)) (pE hX (by decide +kernel)) (by decide +kernel)
set_option maxRecDepth 16384 in
def smk_247 : aM := (70, 2, [(1, 55, 0)], [(55, 5, 19, 62), (55, 7, 4, 4), (55, 11, 0, 3), (57, 0, 0, 8)], [], [(some (0, 0), [], [(55, 5, 19, 62), (55, 7, 4, 4)])])
set_option maxRecDepth 16384 in
def lbk_247 : List aLab := []
set_option maxRecDepth 16384 in
theorem msk_247 {Ext : gI → Prop} (hX : pSt Ext) : MSok bT Ext MT smk_247 := achk_ok (nm := 297) (sm := [smk_246]) (labs := lbk_247) (sp := []) (fuel := 10) (rE := [(1000000, (2, 0))]) (maxL := 1) (M := mX5_takesRight) mt_X5_takesRight rfl os_X5_takesRight MT_len ((mA.cons (msk_246 hX) mA.nil)) (pE hX (by decide +kernel)) (by decide +kernel)
set_option maxRecDepth 16384 in
def smk_248 : aM := (76, 3, [(1, 55, 0)], [(55, 5, 19, 62), (55, 7, 4, 4), (55, 11, 0, 3), (57, 0, 0, 8)], [], [(some (0, 0), [], [(55, 5, 19, 62), (55, 7, 4, 4)])])
set_option maxRecDepth 16384 in
def lbk_248 : List aLab := []
set_option maxRecDepth 16384 in
theorem msk_248 {Ext : gI → Prop} (hX : pSt Ext) : MSok bT Ext MT smk_248 := achk_ok (nm := 297) (sm := [smk_247]) (labs := lbk_248) (sp := []) (fuel := 11) (rE := [(1000000, (2, 0))]) (maxL := 1) (M := mX5_takes) mt_X5_takes rfl os_X5_takes MT_len ((mA.cons (msk_247 hX) mA.nil)) (pE hX (by decide +kernel)) (by decide +kernel)
set_option maxRecDepth 16384 in
def smk_249 : aM := (71, 0, [(1, 55, 0)], [(55, 5, 15, 15), (55, 7, 5, 5), (55, 11, 0, 3), (57, 0, 0, 8)], [(55, 7, 7), (63, 0, 3)], [(some (1, 1), [], [(55, 5, 15, 15), (55, 7, 2, 2)])])
set_option maxRecDepth 16384 in
def lbk_249 : List aLab := []
set_option maxRecDepth 16384 in
theorem msk_249 {Ext : gI → Prop} (hX : pSt Ext) : MSok bT Ext MT smk_249 := achk_ok (nm := 297) (sm := []) (labs := lbk_249) (sp := []) (fuel := 20) (rE := [(1000000, (2, 0))]) (maxL := 1) (M := mX5_takesJoin) mt_X5_takesJoin rfl os_X5_takesJoin MT_len ( mA.nil) (pE hX (by decide +kernel)) (by decide +kernel)
set_option maxRecDepth 16384 in
def smk_250 : aM := (76, 1, [(1, 55, 0)], [(55, 5, 15, 15), (55, 7, 5, 5), (55, 11, 0, 3), (57, 0, 0, 8)], [(55, 7, 7), (63, 0, 3)], [(some (1, 1), [], [(55, 5, 15, 15), (55, 7, 2, 2)])])
set_option maxRecDepth 16384 in
def lbk_250 : List aLab := []
set_option maxRecDepth 16384 in
theorem msk_250 {Ext : gI → Prop} (hX : pSt Ext) : MSok bT Ext MT smk_250 := achk_ok (nm := 297) (sm := [smk_249]) (labs := lbk_250) (sp := []) (fuel := 11) (rE := [(1000000, (2, 0))]) (maxL := 1) (M := mX5_takes) mt_X5_takes rfl os_X5_takes MT_len ((mA.cons (msk_249 hX) mA.nil)) (pE hX (by decide +kernel)) (by decide +kernel)
set_option maxRecDepth 16384 in
def smk_251 : aM := (59, 1, [(1, 55, 0)], [(55, 5, 16, 16), (55, 7, 5, 5), (55, 11, 0, 3), (57, 0, 0, 8)], [(57, 1, 1), (61, 0, 199), (64, 0, 3)], [(none, [], [(55, 5, 16, 16), (55, 7, 5, 5)])])
set_option maxRecDepth 16384 in
def lbk_251 : List aLab := []
set_option maxRecDepth 16384 in
theorem msk_251 {Ext : gI → Prop} (hX : pSt Ext) : MSok bT Ext MT smk_251 := achk_ok (nm := 297) (sm := [smk_30]) (labs := lbk_251) (sp := []) (fuel := 22) (rE := [(1000000, (2, 0))]) (maxL := 1) (M := mX5_endCondition) mt_X5_endCondition rfl os_X5_endCondition MT_len ((mA.cons (msk_30 hX) mA.nil)) (pE hX (by decide +kernel)) (by decide +kernel)
set_option maxRecDepth 16384 in
def smk_252 : aM := (71, 2, [(1, 55, 0)], [(55, 5, 16, 16), (55, 7, 5, 5), (55, 11, 0, 3), (57, 0, 0, 8)], [(55, 7, 7), (57, 1, 1), (61, 0, 199), (64, 0, 3)], [(some (1, 1), [], [(55, 5, 16, 16), (55, 7, 2, 2)])])
set_option maxRecDepth 16384 in
def lbk_252 : List aLab := []
set_option maxRecDepth 16384 in
theorem msk_252 {Ext : gI → Prop} (hX : pSt Ext) : MSok bT Ext MT smk_252 := achk_ok (nm := 297) (sm := [smk_251]) (labs := lbk_252) (sp := []) (fuel := 26) (rE := [(1000000, (2, 0))]) (maxL := 1) (M := mX5_takesJoin) mt_X5_takesJoin rfl os_X5_takesJoin MT_len ((mA.cons (msk_251 hX) mA.nil)) (pE hX (by decide +kernel)) (by decide +kernel)
set_option maxRecDepth 16384 in
def smk_253 : aM := (76, 3, [(1, 55, 0)], [(55, 5, 16, 16), (55, 7, 5, 5), (55, 11, 0, 3), (57, 0, 0, 8)], [(55, 7, 7), (57, 1, 1), (61, 0, 199), (64, 0, 3)], [(some (1, 1), [], [(55, 5, 16, 16), (55, 7, 2, 2)])])
set_option maxRecDepth 16384 in
def lbk_253 : List aLab := []
set_option maxRecDepth 16384 in
theorem msk_253 {Ext : gI → Prop} (hX : pSt Ext) : MSok bT Ext MT smk_253 := achk_ok (nm := 297) (sm := [smk_252]) (labs := lbk_253) (sp := []) (fuel := 11) (rE := [(1000000, (2, 0))]) (maxL := 1) (M := mX5_takes) mt_X5_takes rfl os_X5_takes MT_len ((mA.cons (msk_252 hX) mA.nil)) (pE hX (by decide +kernel)) (by decide +kernel)
set_option maxRecDepth 16384 in
def smk_254 : aM := (59, 1, [(1, 55, 0)], [(55, 5, 41, 41), (55, 7, 5, 5), (55, 11, 1, 1), (57, 0, 0, 8)], [(57, 1, 1), (61, 0, 199), (64, 1, 1)], [(none, [], [(55, 5, 41, 41), (55, 7, 5, 5), (55, 11, 1, 1)])])
set_option maxRecDepth 16384 in
def lbk_254 : List aLab := []
set_option maxRecDepth 16384 in
theorem msk_254 {Ext : gI → Prop} (hX : pSt Ext) : MSok bT Ext MT smk_254 := achk_ok (nm := 297) (sm := [smk_30]) (labs := lbk_254) (sp := []) (fuel := 22) (rE := [(1000000, (2, 0))]) (maxL := 1) (M := mX5_endCondition) mt_X5_endCondition rfl os_X5_endCondition MT_len ((mA.cons (msk_30 hX) mA.nil)) (pE hX (by decide +kernel)) (by decide +kernel)
set_option maxRecDepth 16384 in
def smk_255 : aM := (64, 1, [(1, 55, 0)], [(55, 5, 41, 41), (55, 7, 5, 5), (55, 11, 0, 0), (57, 0, 0, 8)], [(57, 1, 1), (61, 0, 199), (62, 0, 0), (63, 0, 0)], [(none, [], [(55, 5, 41, 41), (55, 7, 5, 5), (55, 11, 0, 0)])])
set_option maxRecDepth 16384 in
def lbk_255 : List aLab := []
set_option maxRecDepth 16384 in
theorem msk_255 {Ext : gI → Prop} (hX : pSt Ext) : MSok bT Ext MT smk_255 := achk_ok (nm := 297) (sm := [smk_30]) (labs := lbk_255) (sp := []) (fuel := 38) (rE := [(1000000, (2, 0))]) (maxL := 1) (M := mX5_endOne) mt_X5_endOne rfl os_X5_endOne MT_len ((mA.cons (msk_30 hX) mA.nil)) (pE hX (by decide +kernel)) (by decide +kernel)
set_option maxRecDepth 16384 in
def smk_256 : aM := (71, 2, [(1, 55, 0)], [(55, 5, 41, 41), (55, 7, 5, 5), (55, 11, 1, 1), (57, 0, 0, 8)], [(55, 11, 11), (57, 1, 1), (61, 0, 199), (62, 0, 0), (63, 0, 0), (64, 1, 1)], [(some (1, 1), [], [(55, 5, 41, 41), (55, 7, 5, 5), (55, 11, 0, 0)])])
set_option maxRecDepth 16384 in
def lbk_256 : List aLab := []
set_option maxRecDepth 16384 in
theorem msk_256 {Ext : gI → Prop} (hX : pSt Ext) : MSok bT Ext MT smk_256 := achk_ok (nm := 297) (sm := [smk_254, smk_255]) (labs := lbk_256) (sp := []) (fuel := 32) (rE := [(1000000, (2, 0))]) (maxL := 1) (M := mX5_takesJoin) mt_X5_takesJoin rfl os_X5_takesJoin MT_len ((mA.cons (msk_254 hX) (mA.cons (msk_255 hX) mA.nil))) (pE hX (by decide +kernel)) (by decide +kernel)
set_option maxRecDepth 16384 in
def smk_257 : aM := (76, 3, [(1, 55, 0)], [(55, 5, 41, 41), (55, 7, 5, 5), (55, 11, 1, 1), (57, 0, 0, 8)], [(55, 11, 11), (57, 1, 1), (61, 0, 199), (62, 0, 0), (63, 0, 0), (64, 1, 1)], [(some (1, 1), [], [(55, 5, 41, 41), (55, 7, 5, 5), (55, 11, 0, 0)])])
set_option maxRecDepth 16384 in
def lbk_257 : List aLab := []
set_option maxRecDepth 16384 in
theorem msk_257 {Ext : gI → Prop} (hX : pSt Ext) : MSok bT Ext MT smk_257 := achk_ok (nm := 297) (sm := [smk_256]) (labs := lbk_257) (sp := []) (fuel := 11) (rE := [(1000000, (2, 0))]) (maxL := 1) (M := mX5_takes) mt_X5_takes rfl os_X5_takes MT_len ((mA.cons (msk_256 hX) mA.nil)) (pE hX (by decide +kernel)) (by decide +kernel)
set_option maxRecDepth 16384 in
def smk_258 : aM := (59, 1, [(1, 55, 0)], [(55, 5, 41, 41), (55, 7, 5, 5), (55, 11, 2, 2), (57, 0, 0, 8)], [(57, 1, 1), (61, 0, 199), (64, 2, 2)], [(none, [], [(55, 5, 41, 41), (55, 7, 5, 5), (55, 11, 2, 2)])])
set_option maxRecDepth 16384 in
def lbk_258 : List aLab := []
set_option maxRecDepth 16384 in
theorem msk_258 {Ext : gI → Prop} (hX : pSt Ext) : MSok bT Ext MT smk_258 := achk_ok (nm := 297) (sm := [smk_30]) (labs := lbk_258) (sp := []) (fuel := 22) (rE := [(1000000, (2, 0))]) (maxL := 1) (M := mX5_endCondition) mt_X5_endCondition rfl os_X5_endCondition MT_len ((mA.cons (msk_30 hX) mA.nil)) (pE hX (by decide +kernel)) (by decide +kernel)
set_option maxRecDepth 16384 in
def smk_259 : aM := (64, 1, [(1, 55, 0)], [(55, 5, 41, 41), (55, 7, 5, 5), (55, 11, 1, 1), (57, 0, 0, 8)], [(57, 1, 1), (61, 0, 199), (62, 1, 1), (63, 1, 1)], [(none, [], [(55, 5, 41, 41), (55, 7, 5, 5), (55, 11, 1, 1)])])
set_option maxRecDepth 16384 in
def lbk_259 : List aLab := []
set_option maxRecDepth 16384 in
theorem msk_259 {Ext : gI → Prop} (hX : pSt Ext) : MSok bT Ext MT smk_259 := achk_ok (nm := 297) (sm := [smk_30]) (labs := lbk_259) (sp := []) (fuel := 38) (rE := [(1000000, (2, 0))]) (maxL := 1) (M := mX5_endOne) mt_X5_endOne rfl os_X5_endOne MT_len ((mA.cons (msk_30 hX) mA.nil)) (pE hX (by decide +kernel)) (by decide +kernel)
set_option maxRecDepth 16384 in
def smk_260 : aM := (71, 2, [(1, 55, 0)], [(55, 5, 41, 41), (55, 7, 5, 5), (55, 11, 2, 2), (57, 0, 0, 8)], [(55, 11, 11), (57, 1, 1), (61, 0, 199), (62, 1, 1), (63, 1, 1), (64, 2, 2)], [(some (1, 1), [], [(55, 5, 41, 41), (55, 7, 5, 5), (55, 11, 1, 1)])])
set_option maxRecDepth 16384 in
def lbk_260 : List aLab := []
set_option maxRecDepth 16384 in
theorem msk_260 {Ext : gI → Prop} (hX : pSt Ext) : MSok bT Ext MT smk_260 := achk_ok (nm := 297) (sm := [smk_258, smk_259]) (labs := lbk_260) (sp := []) (fuel := 32) (rE := [(1000000, (2, 0))]) (maxL := 1) (M := mX5_takesJoin) mt_X5_takesJoin rfl os_X5_takesJoin MT_len ((mA.cons (msk_258 hX) (mA.cons (msk_259 hX) mA.nil))) (pE hX (by decide +kernel)) (by decide +kernel)
set_option maxRecDepth 16384 in
def smk_261 : aM := (76, 3, [(1, 55, 0)], [(55, 5, 41, 41), (55, 7, 5, 5), (55, 11, 2, 2), (57, 0, 0, 8)], [(55, 11, 11), (57, 1, 1), (61, 0, 199), (62, 1, 1), (63, 1, 1), (64, 2, 2)], [(some (1, 1), [], [(55, 5, 41, 41), (55, 7, 5, 5), (55, 11, 1, 1)])])
set_option maxRecDepth 16384 in
def lbk_261 : List aLab := []
set_option maxRecDepth 16384 in
theorem msk_261 {Ext : gI → Prop} (hX : pSt Ext) : MSok bT Ext MT smk_261 := achk_ok (nm := 297) (sm := [smk_260]) (labs := lbk_261) (sp := []) (fuel := 11) (rE := [(1000000, (2, 0))]) (maxL := 1) (M := mX5_takes) mt_X5_takes rfl os_X5_takes MT_len ((mA.cons (msk_260 hX) mA.nil)) (pE hX (by decide +kernel)) (by decide +kernel)
set_option maxRecDepth 16384 in
def smk_262 : aM := (59, 1, [(1, 55, 0)], [(55, 5, 41, 41), (55, 7, 5, 5), (55, 11, 3, 3), (57, 0, 0, 8)], [(57, 1, 1), (61, 0, 199), (64, 3, 3)], [(none, [], [(55, 5, 41, 41), (55, 7, 5, 5), (55, 11, 3, 3)])])
set_option maxRecDepth 16384 in
def lbk_262 : List aLab := []
set_option maxRecDepth 16384 in
theorem msk_262 {Ext : gI → Prop} (hX : pSt Ext) : MSok bT Ext MT smk_262 := achk_ok (nm := 297) (sm := [smk_30]) (labs := lbk_262) (sp := []) (fuel := 22) (rE := [(1000000, (2, 0))]) (maxL := 1) (M := mX5_endCondition) mt_X5_endCondition rfl os_X5_endCondition MT_len ((mA.cons (msk_30 hX) mA.nil)) (pE hX (by decide +kernel)) (by decide +kernel)
set_option maxRecDepth 16384 in
def smk_263 : aM := (64, 1, [(1, 55, 0)], [(55, 5, 41, 41), (55, 7, 5, 5), (55, 11, 2, 2), (57, 0, 0, 8)], [(57, 1, 1), (61, 0, 199), (62, 2, 2), (63, 2, 2)], [(none, [], [(55, 5, 41, 41), (55, 7, 5, 5), (55, 11, 2, 2)])])
set_option maxRecDepth 16384 in
def lbk_263 : List aLab := []
set_option maxRecDepth 16384 in
theorem msk_263 {Ext : gI → Prop} (hX : pSt Ext) : MSok bT Ext MT smk_263 := achk_ok (nm := 297) (sm := [smk_30]) (labs := lbk_263) (sp := []) (fuel := 38) (rE := [(1000000, (2, 0))]) (maxL := 1) (M := mX5_endOne) mt_X5_endOne rfl os_X5_endOne MT_len ((mA.cons (msk_30 hX) mA.nil)) (pE hX (by decide +kernel)) (by decide +kernel)
set_option maxRecDepth 16384 in
def smk_264 : aM := (71, 2, [(1, 55, 0)], [(55, 5, 41, 41), (55, 7, 5, 5), (55, 11, 3, 3), (57, 0, 0, 8)], [(55, 11, 11), (57, 1, 1), (61, 0, 199), (62, 2, 2), (63, 2, 2), (64, 3, 3)], [(some (1, 1), [], [(55, 5, 41, 41), (55, 7, 5, 5), (55, 11, 2, 2)])])
set_option maxRecDepth 16384 in
def lbk_264 : List aLab := []
set_option maxRecDepth 16384 in
theorem msk_264 {Ext : gI → Prop} (hX : pSt Ext) : MSok bT Ext MT smk_264 := achk_ok (nm := 297) (sm := [smk_262, smk_263]) (labs := lbk_264) (sp := []) (fuel := 32) (rE := [(1000000, (2, 0))]) (maxL := 1) (M := mX5_takesJoin) mt_X5_takesJoin rfl os_X5_takesJoin MT_len ((mA.cons (msk_262 hX) (mA.cons (msk_263 hX) mA.nil))) (pE hX (by decide +kernel)) (by decide +kernel)
set_option maxRecDepth 16384 in
def smk_265 : aM := (76, 3, [(1, 55, 0)], [(55, 5, 41, 41), (55, 7, 5, 5), (55, 11, 3, 3), (57, 0, 0, 8)], [(55, 11, 11), (57, 1, 1), (61, 0, 199), (62, 2, 2), (63, 2, 2), (64, 3, 3)], [(some (1, 1), [], [(55, 5, 41, 41), (55, 7, 5, 5), (55, 11, 2, 2)])])
set_option maxRecDepth 16384 in
def lbk_265 : List aLab := []
set_option maxRecDepth 16384 in
theorem msk_265 {Ext : gI → Prop} (hX : pSt Ext) : MSok bT Ext MT smk_265 := achk_ok (nm := 297) (sm := [smk_264]) (labs := lbk_265) (sp := []) (fuel := 11) (rE := [(1000000, (2, 0))]) (maxL := 1) (M := mX5_takes) mt_X5_takes rfl os_X5_takes MT_len ((mA.cons (msk_264 hX) mA.nil)) (pE hX (by decide +kernel)) (by decide +kernel)
set_option maxRecDepth 16384 in
def smk_266 : aM := (37, 0, [(0, 41, 41), (0, 6, 6), (0, 8, 8)], [], [], [(some (0, 0), [], [])])
set_option maxRecDepth 16384 in
def lbk_266 : List aLab := []
set_option maxRecDepth 16384 in
theorem msk_266 {Ext : gI → Prop} (hX : pSt Ext) : MSok bT Ext MT smk_266 := achk_ok (nm := 297) (sm := []) (labs := lbk_266) (sp := []) (fuel := 13) (rE := [(1000000, (2, 0))]) (maxL := 3) (M := mX11_isIn) mt_X11_isIn rfl os_X11_isIn MT_len ( mA.nil) (pE hX (by decide +kernel)) (by decide +kernel)
set_option maxRecDepth 16384 in
def smk_267 : aM := (65, 1, [(1, 55, 0)], [(55, 5, 41, 41), (55, 7, 5, 5), (55, 11, 0, 0), (57, 0, 0, 8)], [], [(some (0, 0), [], [(55, 5, 41, 41), (55, 7, 5, 5), (55, 11, 0, 0)])])
set_option maxRecDepth 16384 in
def lbk_267 : List aLab := []
set_option maxRecDepth 16384 in
theorem msk_267 {Ext : gI → Prop} (hX : pSt Ext) : MSok bT Ext MT smk_267 := achk_ok (nm := 297) (sm := [smk_266]) (labs := lbk_267) (sp := []) (fuel := 16) (rE := [(1000000, (2, 0))]) (maxL := 1) (M := mX5_takesDo) mt_X5_takesDo rfl os_X5_takesDo MT_len ((mA.cons (msk_266 hX) mA.nil)) (pE hX (by decide +kernel)) (by decide +kernel)
set_option maxRecDepth 16384 in
def smk_268 : aM := (71, 2, [(1, 55, 0)], [(55, 5, 41, 41), (55, 7, 5, 5), (55, 11, 0, 0), (57, 0, 0, 8)], [], [(some (0, 0), [], [(55, 5, 41, 41), (55, 7, 5, 5), (55, 11, 0, 0)])])
set_option maxRecDepth 16384 in
def lbk_268 : List aLab := []
set_option maxRecDepth 16384 in
theorem msk_268 {Ext : gI → Prop} (hX : pSt Ext) : MSok bT Ext MT smk_268 := achk_ok (nm := 297) (sm := [smk_267]) (labs := lbk_268) (sp := []) (fuel := 23) (rE := [(1000000, (2, 0))]) (maxL := 1) (M := mX5_takesJoin) mt_X5_takesJoin rfl os_X5_takesJoin MT_len ((mA.cons (msk_267 hX) mA.nil)) (pE hX (by decide +kernel)) (by decide +kernel)
set_option maxRecDepth 16384 in
def smk_269 : aM := (76, 3, [(1, 55, 0)], [(55, 5, 41, 41), (55, 7, 5, 5), (55, 11, 0, 0), (57, 0, 0, 8)], [], [(some (0, 0), [], [(55, 5, 41, 41), (55, 7, 5, 5), (55, 11, 0, 0)])])
set_option maxRecDepth 16384 in
def lbk_269 : List aLab := []
set_option maxRecDepth 16384 in
theorem msk_269 {Ext : gI → Prop} (hX : pSt Ext) : MSok bT Ext MT smk_269 := achk_ok (nm := 297) (sm := [smk_268]) (labs := lbk_269) (sp := []) (fuel := 11) (rE := [(1000000, (2, 0))]) (maxL := 1) (M := mX5_takes) mt_X5_takes rfl os_X5_takes MT_len ((mA.cons (msk_268 hX) mA.nil)) (pE hX (by decide +kernel)) (by decide +kernel)
set_option maxRecDepth 16384 in
def smk_270 : aM := (59, 1, [(1, 55, 0)], [(55, 5, 6, 6), (55, 7, 5, 5), (55, 11, 0, 0), (57, 0, 0, 0)], [(57, 1, 1), (61, 0, 199), (64, 0, 0)], [(none, [], [(55, 5, 6, 6), (55, 7, 5, 5), (55, 11, 0, 0), (57, 0, 0, 0)])])
set_option maxRecDepth 16384 in
def lbk_270 : List aLab := []
set_option maxRecDepth 16384 in
theorem msk_270 {Ext : gI → Prop} (hX : pSt Ext) : MSok bT Ext MT smk_270 := achk_ok (nm := 297) (sm := [smk_30]) (labs := lbk_270) (sp := []) (fuel := 22) (rE := [(1000000, (2, 0))]) (maxL := 1) (M := mX5_endCondition) mt_X5_endCondition rfl os_X5_endCondition MT_len ((mA.cons (msk_30 hX) mA.nil)) (pE hX (by decide +kernel)) (by decide +kernel)
set_option maxRecDepth 16384 in
def smk_271 : aM := (65, 2, [(1, 55, 0)], [(55, 5, 6, 6), (55, 7, 5, 5), (55, 11, 0, 0), (57, 0, 0, 0)], [(55, 7, 7), (57, 0, 1), (58, 0, 0), (59, 0, 0), (60, 0, 0), (61, 0, 199), (64, 0, 0)], [(some (1, 1), [], [(55, 5, 6, 6), (55, 7, 6, 6), (55, 11, 0, 0), (57, 0, 1, 1)])])
set_option maxRecDepth 16384 in
def lbk_271 : List aLab := []
set_option maxRecDepth 16384 in
theorem msk_271 {Ext : gI → Prop} (hX : pSt Ext) : MSok bT Ext MT smk_271 := achk_ok (nm := 297) (sm := [smk_29, smk_270, smk_32]) (labs := lbk_271) (sp := []) (fuel := 30) (rE := [(1000000, (2, 0))]) (maxL := 1) (M := mX5_takesDo) mt_X5_takesDo rfl os_X5_takesDo MT_len ((mA.cons (msk_29 hX) (mA.cons (msk_270 hX) (mA.cons (msk_32 hX) mA.nil)))) (pE hX (by decide +kernel)) (by decide +kernel)
set_option maxRecDepth 16384 in
def smk_272 : aM := (71, 3, [(1, 55, 0)], [(55, 5, 6, 6), (55, 7, 5, 5), (55, 11, 0, 0), (57, 0, 0, 0)], [(55, 7, 7), (57, 0, 1), (58, 0, 0), (59, 0, 0), (60, 0, 0), (61, 0, 199), (64, 0, 0)], [(some (1, 1), [], [(55, 5, 6, 6), (55, 7, 6, 6), (55, 11, 0, 0), (57, 0, 1, 1)])])
set_option maxRecDepth 16384 in
def lbk_272 : List aLab := []
set_option maxRecDepth 16384 in
theorem msk_272 {Ext : gI → Prop} (hX : pSt Ext) : MSok bT Ext MT smk_272 := achk_ok (nm := 297) (sm := [smk_271]) (labs := lbk_272) (sp := []) (fuel := 20) (rE := [(1000000, (2, 0))]) (maxL := 1) (M := mX5_takesJoin) mt_X5_takesJoin rfl os_X5_takesJoin MT_len ((mA.cons (msk_271 hX) mA.nil)) (pE hX (by decide +kernel)) (by decide +kernel)
set_option maxRecDepth 16384 in
def smk_273 : aM := (76, 4, [(1, 55, 0)], [(55, 5, 6, 6), (55, 7, 5, 5), (55, 11, 0, 0), (57, 0, 0, 0)], [(55, 7, 7), (57, 0, 1), (58, 0, 0), (59, 0, 0), (60, 0, 0), (61, 0, 199), (64, 0, 0)], [(some (1, 1), [], [(55, 5, 6, 6), (55, 7, 6, 6), (55, 11, 0, 0), (57, 0, 1, 1)])])
set_option maxRecDepth 16384 in
def lbk_273 : List aLab := []
set_option maxRecDepth 16384 in
theorem msk_273 {Ext : gI → Prop} (hX : pSt Ext) : MSok bT Ext MT smk_273 := achk_ok (nm := 297) (sm := [smk_272]) (labs := lbk_273) (sp := []) (fuel := 11) (rE := [(1000000, (2, 0))]) (maxL := 1) (M := mX5_takes) mt_X5_takes rfl os_X5_takes MT_len ((mA.cons (msk_272 hX) mA.nil)) (pE hX (by decide +kernel)) (by decide +kernel)
set_option maxRecDepth 16384 in
def smk_274 : aM := (59, 1, [(1, 55, 0)], [(55, 5, 6, 6), (55, 7, 5, 5), (55, 11, 0, 0), (57, 0, 1, 1)], [(57, 1, 1), (61, 0, 199), (64, 0, 0)], [(none, [], [(55, 5, 6, 6), (55, 7, 5, 5), (55, 11, 0, 0), (57, 0, 1, 1)])])
set_option maxRecDepth 16384 in
def lbk_274 : List aLab := []
set_option maxRecDepth 16384 in
theorem msk_274 {Ext : gI → Prop} (hX : pSt Ext) : MSok bT Ext MT smk_274 := achk_ok (nm := 297) (sm := [smk_30]) (labs := lbk_274) (sp := []) (fuel := 22) (rE := [(1000000, (2, 0))]) (maxL := 1) (M := mX5_endCondition) mt_X5_endCondition rfl os_X5_endCondition MT_len ((mA.cons (msk_30 hX) mA.nil)) (pE hX (by decide +kernel)) (by decide +kernel)
set_option maxRecDepth 16384 in
def smk_275 : aM := (65, 2, [(1, 55, 0)], [(55, 5, 6, 6), (55, 7, 5, 5), (55, 11, 0, 0), (57, 0, 1, 1)], [(55, 7, 7), (57, 0, 1), (58, 1, 1), (59, 1, 1), (60, 1, 1), (61, 0, 199), (64, 0, 0)], [(some (1, 1), [], [(55, 5, 6, 6), (55, 7, 6, 6), (55, 11, 0, 0), (57, 0, 2, 2)])])
set_option maxRecDepth 16384 in
def lbk_275 : List aLab := []
set_option maxRecDepth 16384 in
theorem msk_275 {Ext : gI → Prop} (hX : pSt Ext) : MSok bT Ext MT smk_275 := achk_ok (nm := 297) (sm := [smk_29, smk_274, smk_37]) (labs := lbk_275) (sp := []) (fuel := 30) (rE := [(1000000, (2, 0))]) (maxL := 1) (M := mX5_takesDo) mt_X5_takesDo rfl os_X5_takesDo MT_len ((mA.cons (msk_29 hX) (mA.cons (msk_274 hX) (mA.cons (msk_37 hX) mA.nil)))) (pE hX (by decide +kernel)) (by decide +kernel)
set_option maxRecDepth 16384 in
def smk_276 : aM := (71, 3, [(1, 55, 0)], [(55, 5, 6, 6), (55, 7, 5, 5), (55, 11, 0, 0), (57, 0, 1, 1)], [(55, 7, 7), (57, 0, 1), (58, 1, 1), (59, 1, 1), (60, 1, 1), (61, 0, 199), (64, 0, 0)], [(some (1, 1), [], [(55, 5, 6, 6), (55, 7, 6, 6), (55, 11, 0, 0), (57, 0, 2, 2)])])
set_option maxRecDepth 16384 in
def lbk_276 : List aLab := []
set_option maxRecDepth 16384 in
theorem msk_276 {Ext : gI → Prop} (hX : pSt Ext) : MSok bT Ext MT smk_276 := achk_ok (nm := 297) (sm := [smk_275]) (labs := lbk_276) (sp := []) (fuel := 20) (rE := [(1000000, (2, 0))]) (maxL := 1) (M := mX5_takesJoin) mt_X5_takesJoin rfl os_X5_takesJoin MT_len ((mA.cons (msk_275 hX) mA.nil)) (pE hX (by decide +kernel)) (by decide +kernel)
set_option maxRecDepth 16384 in
def smk_277 : aM := (76, 4, [(1, 55, 0)], [(55, 5, 6, 6), (55, 7, 5, 5), (55, 11, 0, 0), (57, 0, 1, 1)], [(55, 7, 7), (57, 0, 1), (58, 1, 1), (59, 1, 1), (60, 1, 1), (61, 0, 199), (64, 0, 0)], [(some (1, 1), [], [(55, 5, 6, 6), (55, 7, 6, 6), (55, 11, 0, 0), (57, 0, 2, 2)])])
set_option maxRecDepth 16384 in
def lbk_277 : List aLab := []
set_option maxRecDepth 16384 in
theorem msk_277 {Ext : gI → Prop} (hX : pSt Ext) : MSok bT Ext MT smk_277 := achk_ok (nm := 297) (sm := [smk_276]) (labs := lbk_277) (sp := []) (fuel := 11) (rE := [(1000000, (2, 0))]) (maxL := 1) (M := mX5_takes) mt_X5_takes rfl os_X5_takes MT_len ((mA.cons (msk_276 hX) mA.nil)) (pE hX (by decide +kernel)) (by decide +kernel)
set_option maxRecDepth 16384 in
def smk_278 : aM := (59, 1, [(1, 55, 0)], [(55, 5, 6, 6), (55, 7, 5, 5), (55, 11, 0, 0), (57, 0, 2, 2)], [(57, 1, 1), (61, 0, 199), (64, 0, 0)], [(none, [], [(55, 5, 6, 6), (55, 7, 5, 5), (55, 11, 0, 0), (57, 0, 2, 2)])])
set_option maxRecDepth 16384 in
def lbk_278 : List aLab := []
set_option maxRecDepth 16384 in
theorem msk_278 {Ext : gI → Prop} (hX : pSt Ext) : MSok bT Ext MT smk_278 := achk_ok (nm := 297) (sm := [smk_30]) (labs := lbk_278) (sp := []) (fuel := 22) (rE := [(1000000, (2, 0))]) (maxL := 1) (M := mX5_endCondition) mt_X5_endCondition rfl os_X5_endCondition MT_len ((mA.cons (msk_30 hX) mA.nil)) (pE hX (by decide +kernel)) (by decide +kernel)
set_option maxRecDepth 16384 in
def smk_279 : aM := (65, 2, [(1, 55, 0)], [(55, 5, 6, 6), (55, 7, 5, 5), (55, 11, 0, 0), (57, 0, 2, 2)], [(55, 7, 7), (57, 0, 1), (58, 2, 2), (59, 2, 2), (60, 2, 2), (61, 0, 199), (64, 0, 0)], [(some (1, 1), [], [(55, 5, 6, 6), (55, 7, 6, 6), (55, 11, 0, 0), (57, 0, 3, 3)])])
set_option maxRecDepth 16384 in
def lbk_279 : List aLab := []
set_option maxRecDepth 16384 in
theorem msk_279 {Ext : gI → Prop} (hX : pSt Ext) : MSok bT Ext MT smk_279 := achk_ok (nm := 297) (sm := [smk_29, smk_278, smk_42]) (labs := lbk_279) (sp := []) (fuel := 30) (rE := [(1000000, (2, 0))]) (maxL := 1) (M := mX5_takesDo) mt_X5_takesDo rfl os_X5_takesDo MT_len ((mA.cons (msk_29 hX) (mA.cons (msk_278 hX) (mA.cons (msk_42 hX) mA.nil)))) (pE hX (by decide +kernel)) (by decide +kernel)
set_option maxRecDepth 16384 in
def smk_280 : aM := (71, 3, [(1, 55, 0)], [(55, 5, 6, 6), (55, 7, 5, 5), (55, 11, 0, 0), (57, 0, 2, 2)], [(55, 7, 7), (57, 0, 1), (58, 2, 2), (59, 2, 2), (60, 2, 2), (61, 0, 199), (64, 0, 0)], [(some (1, 1), [], [(55, 5, 6, 6), (55, 7, 6, 6), (55, 11, 0, 0), (57, 0, 3, 3)])])
set_option maxRecDepth 16384 in
def lbk_280 : List aLab := []
set_option maxRecDepth 16384 in
theorem msk_280 {Ext : gI → Prop} (hX : pSt Ext) : MSok bT Ext MT smk_280 := achk_ok (nm := 297) (sm := [smk_279]) (labs := lbk_280) (sp := []) (fuel := 20) (rE := [(1000000, (2, 0))]) (maxL := 1) (M := mX5_takesJoin) mt_X5_takesJoin rfl os_X5_takesJoin MT_len ((mA.cons (msk_279 hX) mA.nil)) (pE hX (by decide +kernel)) (by decide +kernel)
set_option maxRecDepth 16384 in
def smk_281 : aM := (76, 4, [(1, 55, 0)], [(55, 5, 6, 6), (55, 7, 5, 5), (55, 11, 0, 0), (57, 0, 2, 2)], [(55, 7, 7), (57, 0, 1), (58, 2, 2), (59, 2, 2), (60, 2, 2), (61, 0, 199), (64, 0, 0)], [(some (1, 1), [], [(55, 5, 6, 6), (55, 7, 6, 6), (55, 11, 0, 0), (57, 0, 3, 3)])])
set_option maxRecDepth 16384 in
def lbk_281 : List aLab := []
set_option maxRecDepth 16384 in
theorem msk_281 {Ext : gI → Prop} (hX : pSt Ext) : MSok bT Ext MT smk_281 := achk_ok (nm := 297) (sm := [smk_280]) (labs := lbk_281) (sp := []) (fuel := 11) (rE := [(1000000, (2, 0))]) (maxL := 1) (M := mX5_takes) mt_X5_takes rfl os_X5_takes MT_len ((mA.cons (msk_280 hX) mA.nil)) (pE hX (by decide +kernel)) (by decide +kernel)
set_option maxRecDepth 16384 in
def smk_282 : aM := (59, 1, [(1, 55, 0)], [(55, 5, 6, 6), (55, 7, 5, 5), (55, 11, 0, 0), (57, 0, 3, 3)], [(57, 1, 1), (61, 0, 199), (64, 0, 0)], [(none, [], [(55, 5, 6, 6), (55, 7, 5, 5), (55, 11, 0, 0), (57, 0, 3, 3)])])
set_option maxRecDepth 16384 in
def lbk_282 : List aLab := []
set_option maxRecDepth 16384 in
theorem msk_282 {Ext : gI → Prop} (hX : pSt Ext) : MSok bT Ext MT smk_282 := achk_ok (nm := 297) (sm := [smk_30]) (labs := lbk_282) (sp := []) (fuel := 22) (rE := [(1000000, (2, 0))]) (maxL := 1) (M := mX5_endCondition) mt_X5_endCondition rfl os_X5_endCondition MT_len ((mA.cons (msk_30 hX) mA.nil)) (pE hX (by decide +kernel)) (by decide +kernel)
set_option maxRecDepth 16384 in
def smk_283 : aM := (65, 2, [(1, 55, 0)], [(55, 5, 6, 6), (55, 7, 5, 5), (55, 11, 0, 0), (57, 0, 3, 3)], [(55, 7, 7), (57, 0, 1), (58, 3, 3), (59, 3, 3), (60, 3, 3), (61, 0, 199), (64, 0, 0)], [(some (1, 1), [], [(55, 5, 6, 6), (55, 7, 6, 6), (55, 11, 0, 0), (57, 0, 4, 4)])])
set_option maxRecDepth 16384 in
def lbk_283 : List aLab := []
set_option maxRecDepth 16384 in
theorem msk_283 {Ext : gI → Prop} (hX : pSt Ext) : MSok bT Ext MT smk_283 := achk_ok (nm := 297) (sm := [smk_29, smk_282, smk_47]) (labs := lbk_283) (sp := []) (fuel := 30) (rE := [(1000000, (2, 0))]) (maxL := 1) (M := mX5_takesDo) mt_X5_takesDo rfl os_X5_takesDo MT_len ((mA.cons (msk_29 hX) (mA.cons (msk_282 hX) (mA.cons (msk_47 hX) mA.nil)))) (pE hX (by decide +kernel)) (by decide +kernel)
set_option maxRecDepth 16384 in
def smk_284 : aM := (71, 3, [(1, 55, 0)], [(55, 5, 6, 6), (55, 7, 5, 5), (55, 11, 0, 0), (57, 0, 3, 3)], [(55, 7, 7), (57, 0, 1), (58, 3, 3), (59, 3, 3), (60, 3, 3), (61, 0, 199), (64, 0, 0)], [(some (1, 1), [], [(55, 5, 6, 6), (55, 7, 6, 6), (55, 11, 0, 0), (57, 0, 4, 4)])])
set_option maxRecDepth 16384 in
def lbk_284 : List aLab := []
set_option maxRecDepth 16384 in
theorem msk_284 {Ext : gI → Prop} (hX : pSt Ext) : MSok bT Ext MT smk_284 := achk_ok (nm := 297) (sm := [smk_283]) (labs := lbk_284) (sp := []) (fuel := 20) (rE := [(1000000, (2, 0))]) (maxL := 1) (M := mX5_takesJoin) mt_X5_takesJoin rfl os_X5_takesJoin MT_len ((mA.cons (msk_283 hX) mA.nil)) (pE hX (by decide +kernel)) (by decide +kernel)
set_option maxRecDepth 16384 in
def smk_285 : aM := (76, 4, [(1, 55, 0)], [(55, 5, 6, 6), (55, 7, 5, 5), (55, 11, 0, 0), (57, 0, 3, 3)], [(55, 7, 7), (57, 0, 1), (58, 3, 3), (59, 3, 3), (60, 3, 3), (61, 0, 199), (64, 0, 0)], [(some (1, 1), [], [(55, 5, 6, 6), (55, 7, 6, 6), (55, 11, 0, 0), (57, 0, 4, 4)])])
set_option maxRecDepth 16384 in
def lbk_285 : List aLab := []
set_option maxRecDepth 16384 in
theorem msk_285 {Ext : gI → Prop} (hX : pSt Ext) : MSok bT Ext MT smk_285 := achk_ok (nm := 297) (sm := [smk_284]) (labs := lbk_285) (sp := []) (fuel := 11) (rE := [(1000000, (2, 0))]) (maxL := 1) (M := mX5_takes) mt_X5_takes rfl os_X5_takes MT_len ((mA.cons (msk_284 hX) mA.nil)) (pE hX (by decide +kernel)) (by decide +kernel)
set_option maxRecDepth 16384 in
def smk_286 : aM := (59, 1, [(1, 55, 0)], [(55, 5, 6, 6), (55, 7, 5, 5), (55, 11, 0, 0), (57, 0, 4, 4)], [(57, 1, 1), (61, 0, 199), (64, 0, 0)], [(none, [], [(55, 5, 6, 6), (55, 7, 5, 5), (55, 11, 0, 0), (57, 0, 4, 4)])])
set_option maxRecDepth 16384 in
def lbk_286 : List aLab := []
set_option maxRecDepth 16384 in
theorem msk_286 {Ext : gI → Prop} (hX : pSt Ext) : MSok bT Ext MT smk_286 := achk_ok (nm := 297) (sm := [smk_30]) (labs := lbk_286) (sp := []) (fuel := 22) (rE := [(1000000, (2, 0))]) (maxL := 1) (M := mX5_endCondition) mt_X5_endCondition rfl os_X5_endCondition MT_len ((mA.cons (msk_30 hX) mA.nil)) (pE hX (by decide +kernel)) (by decide +kernel)
set_option maxRecDepth 16384 in
def smk_287 : aM := (65, 2, [(1, 55, 0)], [(55, 5, 6, 6), (55, 7, 5, 5), (55, 11, 0, 0), (57, 0, 4, 4)], [(55, 7, 7), (57, 0, 1), (58, 4, 4), (59, 4, 4), (60, 4, 4), (61, 0, 199), (64, 0, 0)], [(some (1, 1), [], [(55, 5, 6, 6), (55, 7, 6, 6), (55, 11, 0, 0), (57, 0, 5, 5)])])
set_option maxRecDepth 16384 in
def lbk_287 : List aLab := []
set_option maxRecDepth 16384 in
theorem msk_287 {Ext : gI → Prop} (hX : pSt Ext) : MSok bT Ext MT smk_287 := achk_ok (nm := 297) (sm := [smk_29, smk_286, smk_52]) (labs := lbk_287) (sp := []) (fuel := 30) (rE := [(1000000, (2, 0))]) (maxL := 1) (M := mX5_takesDo) mt_X5_takesDo rfl os_X5_takesDo MT_len ((mA.cons (msk_29 hX) (mA.cons (msk_286 hX) (mA.cons (msk_52 hX) mA.nil)))) (pE hX (by decide +kernel)) (by decide +kernel)
set_option maxRecDepth 16384 in
def smk_288 : aM := (71, 3, [(1, 55, 0)], [(55, 5, 6, 6), (55, 7, 5, 5), (55, 11, 0, 0), (57, 0, 4, 4)], [(55, 7, 7), (57, 0, 1), (58, 4, 4), (59, 4, 4), (60, 4, 4), (61, 0, 199), (64, 0, 0)], [(some (1, 1), [], [(55, 5, 6, 6), (55, 7, 6, 6), (55, 11, 0, 0), (57, 0, 5, 5)])])
set_option maxRecDepth 16384 in
def lbk_288 : List aLab := []
set_option maxRecDepth 16384 in
theorem msk_288 {Ext : gI → Prop} (hX : pSt Ext) : MSok bT Ext MT smk_288 := achk_ok (nm := 297) (sm := [smk_287]) (labs := lbk_288) (sp := []) (fuel := 20) (rE := [(1000000, (2, 0))]) (maxL := 1) (M := mX5_takesJoin) mt_X5_takesJoin rfl os_X5_takesJoin MT_len ((mA.cons (msk_287 hX) mA.nil)) (pE hX (by decide +kernel)) (by decide +kernel)
set_option maxRecDepth 16384 in
def smk_289 : aM := (76, 4, [(1, 55, 0)], [(55, 5, 6, 6), (55, 7, 5, 5), (55, 11, 0, 0), (57, 0, 4, 4)], [(55, 7, 7), (57, 0, 1), (58, 4, 4), (59, 4, 4), (60, 4, 4), (61, 0, 199), (64, 0, 0)], [(some (1, 1), [], [(55, 5, 6, 6), (55, 7, 6, 6), (55, 11, 0, 0), (57, 0, 5, 5)])])
set_option maxRecDepth 16384 in
def lbk_289 : List aLab := []
set_option maxRecDepth 16384 in
theorem msk_289 {Ext : gI → Prop} (hX : pSt Ext) : MSok bT Ext MT smk_289 := achk_ok (nm := 297) (sm := [smk_288]) (labs := lbk_289) (sp := []) (fuel := 11) (rE := [(1000000, (2, 0))]) (maxL := 1) (M := mX5_takes) mt_X5_takes rfl os_X5_takes MT_len ((mA.cons (msk_288 hX) mA.nil)) (pE hX (by decide +kernel)) (by decide +kernel)
set_option maxRecDepth 16384 in
def smk_290 : aM := (59, 1, [(1, 55, 0)], [(55, 5, 6, 6), (55, 7, 5, 5), (55, 11, 0, 0), (57, 0, 5, 5)], [(57, 1, 1), (61, 0, 199), (64, 0, 0)], [(none, [], [(55, 5, 6, 6), (55, 7, 5, 5), (55, 11, 0, 0), (57, 0, 5, 5)])])
set_option maxRecDepth 16384 in
def lbk_290 : List aLab := []
set_option maxRecDepth 16384 in
theorem msk_290 {Ext : gI → Prop} (hX : pSt Ext) : MSok bT Ext MT smk_290 := achk_ok (nm := 297) (sm := [smk_30]) (labs := lbk_290) (sp := []) (fuel := 22) (rE := [(1000000, (2, 0))]) (maxL := 1) (M := mX5_endCondition) mt_X5_endCondition rfl os_X5_endCondition MT_len ((mA.cons (msk_30 hX) mA.nil)) (pE hX (by decide +kernel)) (by decide +kernel)
set_option maxRecDepth 16384 in
def smk_291 : aM := (65, 2, [(1, 55, 0)], [(55, 5, 6, 6), (55, 7, 5, 5), (55, 11, 0, 0), (57, 0, 5, 5)], [(55, 7, 7), (57, 0, 1), (58, 5, 5), (59, 5, 5), (60, 5, 5), (61, 0, 199), (64, 0, 0)], [(some (1, 1), [], [(55, 5, 6, 6), (55, 7, 6, 6), (55, 11, 0, 0), (57, 0, 6, 6)])])
set_option maxRecDepth 16384 in
def lbk_291 : List aLab := []
set_option maxRecDepth 16384 in
theorem msk_291 {Ext : gI → Prop} (hX : pSt Ext) : MSok bT Ext MT smk_291 := achk_ok (nm := 297) (sm := [smk_29, smk_290, smk_57]) (labs := lbk_291) (sp := []) (fuel := 30) (rE := [(1000000, (2, 0))]) (maxL := 1) (M := mX5_takesDo) mt_X5_takesDo rfl os_X5_takesDo MT_len ((mA.cons (msk_29 hX) (mA.cons (msk_290 hX) (mA.cons (msk_57 hX) mA.nil)))) (pE hX (by decide +kernel)) (by decide +kernel)
set_option maxRecDepth 16384 in
def smk_292 : aM := (71, 3, [(1, 55, 0)], [(55, 5, 6, 6), (55, 7, 5, 5), (55, 11, 0, 0), (57, 0, 5, 5)], [(55, 7, 7), (57, 0, 1), (58, 5, 5), (59, 5, 5), (60, 5, 5), (61, 0, 199), (64, 0, 0)], [(some (1, 1), [], [(55, 5, 6, 6), (55, 7, 6, 6), (55, 11, 0, 0), (57, 0, 6, 6)])])
set_option maxRecDepth 16384 in
def lbk_292 : List aLab := []
set_option maxRecDepth 16384 in
theorem msk_292 {Ext : gI → Prop} (hX : pSt Ext) : MSok bT Ext MT smk_292 := achk_ok (nm := 297) (sm := [smk_291]) (labs := lbk_292) (sp := []) (fuel := 20) (rE := [(1000000, (2, 0))]) (maxL := 1) (M := mX5_takesJoin) mt_X5_takesJoin rfl os_X5_takesJoin MT_len ((mA.cons (msk_291 hX) mA.nil)) (pE hX (by decide +kernel)) (by decide +kernel)
set_option maxRecDepth 16384 in
def smk_293 : aM := (76, 4, [(1, 55, 0)], [(55, 5, 6, 6), (55, 7, 5, 5), (55, 11, 0, 0), (57, 0, 5, 5)], [(55, 7, 7), (57, 0, 1), (58, 5, 5), (59, 5, 5), (60, 5, 5), (61, 0, 199), (64, 0, 0)], [(some (1, 1), [], [(55, 5, 6, 6), (55, 7, 6, 6), (55, 11, 0, 0), (57, 0, 6, 6)])])
set_option maxRecDepth 16384 in
def lbk_293 : List aLab := []
set_option maxRecDepth 16384 in
theorem msk_293 {Ext : gI → Prop} (hX : pSt Ext) : MSok bT Ext MT smk_293 := achk_ok (nm := 297) (sm := [smk_292]) (labs := lbk_293) (sp := []) (fuel := 11) (rE := [(1000000, (2, 0))]) (maxL := 1) (M := mX5_takes) mt_X5_takes rfl os_X5_takes MT_len ((mA.cons (msk_292 hX) mA.nil)) (pE hX (by decide +kernel)) (by decide +kernel)
set_option maxRecDepth 16384 in
def smk_294 : aM := (59, 1, [(1, 55, 0)], [(55, 5, 6, 6), (55, 7, 5, 5), (55, 11, 0, 0), (57, 0, 6, 6)], [(57, 1, 1), (61, 0, 199), (64, 0, 0)], [(none, [], [(55, 5, 6, 6), (55, 7, 5, 5), (55, 11, 0, 0), (57, 0, 6, 6)])])
set_option maxRecDepth 16384 in
def lbk_294 : List aLab := []
set_option maxRecDepth 16384 in
theorem msk_294 {Ext : gI → Prop} (hX : pSt Ext) : MSok bT Ext MT smk_294 := achk_ok (nm := 297) (sm := [smk_30]) (labs := lbk_294) (sp := []) (fuel := 22) (rE := [(1000000, (2, 0))]) (maxL := 1) (M := mX5_endCondition) mt_X5_endCondition rfl os_X5_endCondition MT_len ((mA.cons (msk_30 hX) mA.nil)) (pE hX (by decide +kernel)) (by decide +kernel)
set_option maxRecDepth 16384 in
def smk_295 : aM := (65, 2, [(1, 55, 0)], [(55, 5, 6, 6), (55, 7, 5, 5), (55, 11, 0, 0), (57, 0, 6, 6)], [(55, 7, 7), (57, 0, 1), (58, 6, 6), (59, 6, 6), (60, 6, 6), (61, 0, 199), (64, 0, 0)], [(some (1, 1), [], [(55, 5, 6, 6), (55, 7, 6, 6), (55, 11, 0, 0), (57, 0, 7, 7)])])
set_option maxRecDepth 16384 in
def lbk_295 : List aLab := []
set_option maxRecDepth 16384 in
theorem msk_295 {Ext : gI → Prop} (hX : pSt Ext) : MSok bT Ext MT smk_295 := achk_ok (nm := 297) (sm := [smk_29, smk_294, smk_62]) (labs := lbk_295) (sp := []) (fuel := 30) (rE := [(1000000, (2, 0))]) (maxL := 1) (M := mX5_takesDo) mt_X5_takesDo rfl os_X5_takesDo MT_len ((mA.cons (msk_29 hX) (mA.cons (msk_294 hX) (mA.cons (msk_62 hX) mA.nil)))) (pE hX (by decide +kernel)) (by decide +kernel)
set_option maxRecDepth 16384 in
def smk_296 : aM := (71, 3, [(1, 55, 0)], [(55, 5, 6, 6), (55, 7, 5, 5), (55, 11, 0, 0), (57, 0, 6, 6)], [(55, 7, 7), (57, 0, 1), (58, 6, 6), (59, 6, 6), (60, 6, 6), (61, 0, 199), (64, 0, 0)], [(some (1, 1), [], [(55, 5, 6, 6), (55, 7, 6, 6), (55, 11, 0, 0), (57, 0, 7, 7)])])
set_option maxRecDepth 16384 in
def lbk_296 : List aLab := []
set_option maxRecDepth 16384 in
theorem msk_296 {Ext : gI → Prop} (hX : pSt Ext) : MSok bT Ext MT smk_296 := achk_ok (nm := 297) (sm := [smk_295]) (labs := lbk_296) (sp := []) (fuel := 20) (rE := [(1000000, (2, 0))]) (maxL := 1) (M := mX5_takesJoin) mt_X5_takesJoin rfl os_X5_takesJoin MT_len ((mA.cons (msk_295 hX) mA.nil)) (pE hX (by decide +kernel)) (by decide +kernel)
set_option maxRecDepth 16384 in
def smk_297 : aM := (76, 4, [(1, 55, 0)], [(55, 5, 6, 6), (55, 7, 5, 5), (55, 11, 0, 0), (57, 0, 6, 6)], [(55, 7, 7), (57, 0, 1), (58, 6, 6), (59, 6, 6), (60, 6, 6), (61, 0, 199), (64, 0, 0)], [(some (1, 1), [], [(55, 5, 6, 6), (55, 7, 6, 6), (55, 11, 0, 0), (57, 0, 7, 7)])])
set_option maxRecDepth 16384 in
def lbk_297 : List aLab := []
set_option maxRecDepth 16384 in
theorem msk_297 {Ext : gI → Prop} (hX : pSt Ext) : MSok bT Ext MT smk_297 := achk_ok (nm := 297) (sm := [smk_296]) (labs := lbk_297) (sp := []) (fuel := 11) (rE := [(1000000, (2, 0))]) (maxL := 1) (M := mX5_takes) mt_X5_takes rfl os_X5_takes MT_len ((mA.cons (msk_296 hX) mA.nil)) (pE hX (by decide +kernel)) (by decide +kernel)
set_option maxRecDepth 16384 in
def smk_298 : aM := (59, 1, [(1, 55, 0)], [(55, 5, 6, 6), (55, 7, 5, 5), (55, 11, 0, 0), (57, 0, 7, 7)], [(57, 1, 1), (61, 0, 199), (64, 0, 0)], [(none, [], [(55, 5, 6, 6), (55, 7, 5, 5), (55, 11, 0, 0), (57, 0, 7, 7)])])
set_option maxRecDepth 16384 in
def lbk_298 : List aLab := []
set_option maxRecDepth 16384 in
theorem msk_298 {Ext : gI → Prop} (hX : pSt Ext) : MSok bT Ext MT smk_298 := achk_ok (nm := 297) (sm := [smk_30]) (labs := lbk_298) (sp := []) (fuel := 22) (rE := [(1000000, (2, 0))]) (maxL := 1) (M := mX5_endCondition) mt_X5_endCondition rfl os_X5_endCondition MT_len ((mA.cons (msk_30 hX) mA.nil)) (pE hX (by decide +kernel)) (by decide +kernel)
set_option maxRecDepth 16384 in
def smk_299 : aM := (65, 2, [(1, 55, 0)], [(55, 5, 6, 6), (55, 7, 5, 5), (55, 11, 0, 0), (57, 0, 7, 7)], [(55, 7, 7), (57, 0, 1), (58, 7, 7), (59, 7, 7), (60, 7, 7), (61, 0, 199), (64, 0, 0)], [(some (1, 1), [], [(55, 5, 6, 6), (55, 7, 6, 6), (55, 11, 0, 0), (57, 0, 8, 8)])])
set_option maxRecDepth 16384 in
def lbk_299 : List aLab := []
set_option maxRecDepth 16384 in
theorem msk_299 {Ext : gI → Prop} (hX : pSt Ext) : MSok bT Ext MT smk_299 := achk_ok (nm := 297) (sm := [smk_29, smk_298, smk_67]) (labs := lbk_299) (sp := []) (fuel := 30) (rE := [(1000000, (2, 0))]) (maxL := 1) (M := mX5_takesDo) mt_X5_takesDo rfl os_X5_takesDo MT_len ((mA.cons (msk_29 hX) (mA.cons (msk_298 hX) (mA.cons (msk_67 hX) mA.nil)))) (pE hX (by decide +kernel)) (by decide +kernel)
set_option maxRecDepth 16384 in
def smk_300 : aM := (71, 3, [(1, 55, 0)], [(55, 5, 6, 6), (55, 7, 5, 5), (55, 11, 0, 0), (57, 0, 7, 7)], [(55, 7, 7), (57, 0, 1), (58, 7, 7), (59, 7, 7), (60, 7, 7), (61, 0, 199), (64, 0, 0)], [(some (1, 1), [], [(55, 5, 6, 6), (55, 7, 6, 6), (55, 11, 0, 0), (57, 0, 8, 8)])])
set_option maxRecDepth 16384 in
def lbk_300 : List aLab := []
set_option maxRecDepth 16384 in
theorem msk_300 {Ext : gI → Prop} (hX : pSt Ext) : MSok bT Ext MT smk_300 := achk_ok (nm := 297) (sm := [smk_299]) (labs := lbk_300) (sp := []) (fuel := 20) (rE := [(1000000, (2, 0))]) (maxL := 1) (M := mX5_takesJoin) mt_X5_takesJoin rfl os_X5_takesJoin MT_len ((mA.cons (msk_299 hX) mA.nil)) (pE hX (by decide +kernel)) (by decide +kernel)
set_option maxRecDepth 16384 in
def smk_301 : aM := (76, 4, [(1, 55, 0)], [(55, 5, 6, 6), (55, 7, 5, 5), (55, 11, 0, 0), (57, 0, 7, 7)], [(55, 7, 7), (57, 0, 1), (58, 7, 7), (59, 7, 7), (60, 7, 7), (61, 0, 199), (64, 0, 0)], [(some (1, 1), [], [(55, 5, 6, 6), (55, 7, 6, 6), (55, 11, 0, 0), (57, 0, 8, 8)])])
set_option maxRecDepth 16384 in
def lbk_301 : List aLab := []
set_option maxRecDepth 16384 in
theorem msk_301 {Ext : gI → Prop} (hX : pSt Ext) : MSok bT Ext MT smk_301 := achk_ok (nm := 297) (sm := [smk_300]) (labs := lbk_301) (sp := []) (fuel := 11) (rE := [(1000000, (2, 0))]) (maxL := 1) (M := mX5_takes) mt_X5_takes rfl os_X5_takes MT_len ((mA.cons (msk_300 hX) mA.nil)) (pE hX (by decide +kernel)) (by decide +kernel)
set_option maxRecDepth 16384 in
def smk_302 : aM := (59, 1, [(1, 55, 0)], [(55, 5, 7, 7), (55, 7, 5, 5), (55, 11, 0, 0), (57, 0, 0, 0)], [(57, 1, 1), (61, 0, 199), (64, 0, 0)], [(none, [], [(55, 5, 7, 7), (55, 7, 5, 5), (55, 11, 0, 0), (57, 0, 0, 0)])])
set_option maxRecDepth 16384 in
def lbk_302 : List aLab := []
set_option maxRecDepth 16384 in
theorem msk_302 {Ext : gI → Prop} (hX : pSt Ext) : MSok bT Ext MT smk_302 := achk_ok (nm := 297) (sm := [smk_30]) (labs := lbk_302) (sp := []) (fuel := 22) (rE := [(1000000, (2, 0))]) (maxL := 1) (M := mX5_endCondition) mt_X5_endCondition rfl os_X5_endCondition MT_len ((mA.cons (msk_30 hX) mA.nil)) (pE hX (by decide +kernel)) (by decide +kernel)
set_option maxRecDepth 16384 in
def smk_303 : aM := (65, 2, [(1, 55, 0)], [(55, 5, 7, 7), (55, 7, 5, 5), (55, 11, 0, 0), (57, 0, 0, 0)], [(55, 7, 7), (57, 0, 1), (58, 0, 0), (59, 0, 0), (60, 0, 0), (61, 0, 199), (64, 0, 0)], [(some (1, 1), [], [(55, 5, 7, 7), (55, 7, 6, 6), (55, 11, 0, 0), (57, 0, 1, 1)])])
set_option maxRecDepth 16384 in
def lbk_303 : List aLab := []
set_option maxRecDepth 16384 in
theorem msk_303 {Ext : gI → Prop} (hX : pSt Ext) : MSok bT Ext MT smk_303 := achk_ok (nm := 297) (sm := [smk_71, smk_302, smk_32]) (labs := lbk_303) (sp := []) (fuel := 30) (rE := [(1000000, (2, 0))]) (maxL := 1) (M := mX5_takesDo) mt_X5_takesDo rfl os_X5_takesDo MT_len ((mA.cons (msk_71 hX) (mA.cons (msk_302 hX) (mA.cons (msk_32 hX) mA.nil)))) (pE hX (by decide +kernel)) (by decide +kernel)
set_option maxRecDepth 16384 in
def smk_304 : aM := (71, 3, [(1, 55, 0)], [(55, 5, 7, 7), (55, 7, 5, 5), (55, 11, 0, 0), (57, 0, 0, 0)], [(55, 7, 7), (57, 0, 1), (58, 0, 0), (59, 0, 0), (60, 0, 0), (61, 0, 199), (64, 0, 0)], [(some (1, 1), [], [(55, 5, 7, 7), (55, 7, 6, 6), (55, 11, 0, 0), (57, 0, 1, 1)])])
set_option maxRecDepth 16384 in
def lbk_304 : List aLab := []
set_option maxRecDepth 16384 in
theorem msk_304 {Ext : gI → Prop} (hX : pSt Ext) : MSok bT Ext MT smk_304 := achk_ok (nm := 297) (sm := [smk_303]) (labs := lbk_304) (sp := []) (fuel := 20) (rE := [(1000000, (2, 0))]) (maxL := 1) (M := mX5_takesJoin) mt_X5_takesJoin rfl os_X5_takesJoin MT_len ((mA.cons (msk_303 hX) mA.nil)) (pE hX (by decide +kernel)) (by decide +kernel)
set_option maxRecDepth 16384 in
def smk_305 : aM := (76, 4, [(1, 55, 0)], [(55, 5, 7, 7), (55, 7, 5, 5), (55, 11, 0, 0), (57, 0, 0, 0)], [(55, 7, 7), (57, 0, 1), (58, 0, 0), (59, 0, 0), (60, 0, 0), (61, 0, 199), (64, 0, 0)], [(some (1, 1), [], [(55, 5, 7, 7), (55, 7, 6, 6), (55, 11, 0, 0), (57, 0, 1, 1)])])
set_option maxRecDepth 16384 in
def lbk_305 : List aLab := []
set_option maxRecDepth 16384 in
theorem msk_305 {Ext : gI → Prop} (hX : pSt Ext) : MSok bT Ext MT smk_305 := achk_ok (nm := 297) (sm := [smk_304]) (labs := lbk_305) (sp := []) (fuel := 11) (rE := [(1000000, (2, 0))]) (maxL := 1) (M := mX5_takes) mt_X5_takes rfl os_X5_takes MT_len ((mA.cons (msk_304 hX) mA.nil)) (pE hX (by decide +kernel)) (by decide +kernel)
set_option maxRecDepth 16384 in
def smk_306 : aM := (59, 1, [(1, 55, 0)], [(55, 5, 7, 7), (55, 7, 5, 5), (55, 11, 0, 0), (57, 0, 1, 1)], [(57, 1, 1), (61, 0, 199), (64, 0, 0)], [(none, [], [(55, 5, 7, 7), (55, 7, 5, 5), (55, 11, 0, 0), (57, 0, 1, 1)])])
set_option maxRecDepth 16384 in
def lbk_306 : List aLab := []
set_option maxRecDepth 16384 in
theorem msk_306 {Ext : gI → Prop} (hX : pSt Ext) : MSok bT Ext MT smk_306 := achk_ok (nm := 297) (sm := [smk_30]) (labs := lbk_306) (sp := []) (fuel := 22) (rE := [(1000000, (2, 0))]) (maxL := 1) (M := mX5_endCondition) mt_X5_endCondition rfl os_X5_endCondition MT_len ((mA.cons (msk_30 hX) mA.nil)) (pE hX (by decide +kernel)) (by decide +kernel)
set_option maxRecDepth 16384 in
def smk_307 : aM := (65, 2, [(1, 55, 0)], [(55, 5, 7, 7), (55, 7, 5, 5), (55, 11, 0, 0), (57, 0, 1, 1)], [(55, 7, 7), (57, 0, 1), (58, 1, 1), (59, 1, 1), (60, 1, 1), (61, 0, 199), (64, 0, 0)], [(some (1, 1), [], [(55, 5, 7, 7), (55, 7, 6, 6), (55, 11, 0, 0), (57, 0, 2, 2)])])
set_option maxRecDepth 16384 in
def lbk_307 : List aLab := []
set_option maxRecDepth 16384 in
theorem msk_307 {Ext : gI → Prop} (hX : pSt Ext) : MSok bT Ext MT smk_307 := achk_ok (nm := 297) (sm := [smk_71, smk_306, smk_37]) (labs := lbk_307) (sp := []) (fuel := 30) (rE := [(1000000, (2, 0))]) (maxL := 1) (M := mX5_takesDo) mt_X5_takesDo rfl os_X5_takesDo MT_len ((mA.cons (msk_71 hX) (mA.cons (msk_306 hX) (mA.cons (msk_37 hX) mA.nil)))) (pE hX (by decide +kernel)) (by decide +kernel)
set_option maxRecDepth 16384 in
def smk_308 : aM := (71, 3, [(1, 55, 0)], [(55, 5, 7, 7), (55, 7, 5, 5), (55, 11, 0, 0), (57, 0, 1, 1)], [(55, 7, 7), (57, 0, 1), (58, 1, 1), (59, 1, 1), (60, 1, 1), (61, 0, 199), (64, 0, 0)], [(some (1, 1), [], [(55, 5, 7, 7), (55, 7, 6, 6), (55, 11, 0, 0), (57, 0, 2, 2)])])
set_option maxRecDepth 16384 in
def lbk_308 : List aLab := []
set_option maxRecDepth 16384 in
theorem msk_308 {Ext : gI → Prop} (hX : pSt Ext) : MSok bT Ext MT smk_308 := achk_ok (nm := 297) (sm := [smk_307]) (labs := lbk_308) (sp := []) (fuel := 20) (rE := [(1000000, (2, 0))]) (maxL := 1) (M := mX5_takesJoin) mt_X5_takesJoin rfl os_X5_takesJoin MT_len ((mA.cons (msk_307 hX) mA.nil)) (pE hX (by decide +kernel)) (by decide +kernel)
set_option maxRecDepth 16384 in
def smk_309 : aM := (76, 4, [(1, 55, 0)], [(55, 5, 7, 7), (55, 7, 5, 5), (55, 11, 0, 0), (57, 0, 1, 1)], [(55, 7, 7), (57, 0, 1), (58, 1, 1), (59, 1, 1), (60, 1, 1), (61, 0, 199), (64, 0, 0)], [(some (1, 1), [], [(55, 5, 7, 7), (55, 7, 6, 6), (55, 11, 0, 0), (57, 0, 2, 2)])])
set_option maxRecDepth 16384 in
def lbk_309 : List aLab := []
set_option maxRecDepth 16384 in
theorem msk_309 {Ext : gI → Prop} (hX : pSt Ext) : MSok bT Ext MT smk_309 := achk_ok (nm := 297) (sm := [smk_308]) (labs := lbk_309) (sp := []) (fuel := 11) (rE := [(1000000, (2, 0))]) (maxL := 1) (M := mX5_takes) mt_X5_takes rfl os_X5_takes MT_len ((mA.cons (msk_308 hX) mA.nil)) (pE hX (by decide +kernel)) (by decide +kernel)
set_option maxRecDepth 16384 in
def smk_310 : aM := (59, 1, [(1, 55, 0)], [(55, 5, 7, 7), (55, 7, 5, 5), (55, 11, 0, 0), (57, 0, 2, 2)], [(57, 1, 1), (61, 0, 199), (64, 0, 0)], [(none, [], [(55, 5, 7, 7), (55, 7, 5, 5), (55, 11, 0, 0), (57, 0, 2, 2)])])
set_option maxRecDepth 16384 in
def lbk_310 : List aLab := []
set_option maxRecDepth 16384 in
theorem msk_310 {Ext : gI → Prop} (hX : pSt Ext) : MSok bT Ext MT smk_310 := achk_ok (nm := 297) (sm := [smk_30]) (labs := lbk_310) (sp := []) (fuel := 22) (rE := [(1000000, (2, 0))]) (maxL := 1) (M := mX5_endCondition) mt_X5_endCondition rfl os_X5_endCondition MT_len ((mA.cons (msk_30 hX) mA.nil)) (pE hX (by decide +kernel)) (by decide +kernel)
set_option maxRecDepth 16384 in
def smk_311 : aM := (65, 2, [(1, 55, 0)], [(55, 5, 7, 7), (55, 7, 5, 5), (55, 11, 0, 0), (57, 0, 2, 2)], [(55, 7, 7), (57, 0, 1), (58, 2, 2), (59, 2, 2), (60, 2, 2), (61, 0, 199), (64, 0, 0)], [(some (1, 1), [], [(55, 5, 7, 7), (55, 7, 6, 6), (55, 11, 0, 0), (57, 0, 3, 3)])])
set_option maxRecDepth 16384 in
def lbk_311 : List aLab := []
set_option maxRecDepth 16384 in
theorem msk_311 {Ext : gI → Prop} (hX : pSt Ext) : MSok bT Ext MT smk_311 := achk_ok (nm := 297) (sm := [smk_71, smk_310, smk_42]) (labs := lbk_311) (sp := []) (fuel := 30) (rE := [(1000000, (2, 0))]) (maxL := 1) (M := mX5_takesDo) mt_X5_takesDo rfl os_X5_takesDo MT_len ((mA.cons (msk_71 hX) (mA.cons (msk_310 hX) (mA.cons (msk_42 hX) mA.nil)))) (pE hX (by decide +kernel)) (by decide +kernel)
set_option maxRecDepth 16384 in
def smk_312 : aM := (71, 3, [(1, 55, 0)], [(55, 5, 7, 7), (55, 7, 5, 5), (55, 11, 0, 0), (57, 0, 2, 2)], [(55, 7, 7), (57, 0, 1), (58, 2, 2), (59, 2, 2), (60, 2, 2), (61, 0, 199), (64, 0, 0)], [(some (1, 1), [], [(55, 5, 7, 7), (55, 7, 6, 6), (55, 11, 0, 0), (57, 0, 3, 3)])])
set_option maxRecDepth 16384 in
def lbk_312 : List aLab := []
set_option maxRecDepth 16384 in
theorem msk_312 {Ext : gI → Prop} (hX : pSt Ext) : MSok bT Ext MT smk_312 := achk_ok (nm := 297) (sm := [smk_311]) (labs := lbk_312) (sp := []) (fuel := 20) (rE := [(1000000, (2, 0))]) (maxL := 1) (M := mX5_takesJoin) mt_X5_takesJoin rfl os_X5_takesJoin MT_len ((mA.cons (msk_311 hX) mA.nil)) (pE hX (by decide +kernel)) (by decide +kernel)
set_option maxRecDepth 16384 in
def smk_313 : aM := (76, 4, [(1, 55, 0)], [(55, 5, 7, 7), (55, 7, 5, 5), (55, 11, 0, 0), (57, 0, 2, 2)], [(55, 7, 7), (57, 0, 1), (58, 2, 2), (59, 2, 2), (60, 2, 2), (61, 0, 199), (64, 0, 0)], [(some (1, 1), [], [(55, 5, 7, 7), (55, 7, 6, 6), (55, 11, 0, 0), (57, 0, 3, 3)])])
set_option maxRecDepth 16384 in
def lbk_313 : List aLab := []
set_option maxRecDepth 16384 in
theorem msk_313 {Ext : gI → Prop} (hX : pSt Ext) : MSok bT Ext MT smk_313 := achk_ok (nm := 297) (sm := [smk_312]) (labs := lbk_313) (sp := []) (fuel := 11) (rE := [(1000000, (2, 0))]) (maxL := 1) (M := mX5_takes) mt_X5_takes rfl os_X5_takes MT_len ((mA.cons (msk_312 hX) mA.nil)) (pE hX (by decide +kernel)) (by decide +kernel)
set_option maxRecDepth 16384 in
def smk_314 : aM := (59, 1, [(1, 55, 0)], [(55, 5, 7, 7), (55, 7, 5, 5), (55, 11, 0, 0), (57, 0, 3, 3)], [(57, 1, 1), (61, 0, 199), (64, 0, 0)], [(none, [], [(55, 5, 7, 7), (55, 7, 5, 5), (55, 11, 0, 0), (57, 0, 3, 3)])])
set_option maxRecDepth 16384 in
def lbk_314 : List aLab := []
set_option maxRecDepth 16384 in
theorem msk_314 {Ext : gI → Prop} (hX : pSt Ext) : MSok bT Ext MT smk_314 := achk_ok (nm := 297) (sm := [smk_30]) (labs := lbk_314) (sp := []) (fuel := 22) (rE := [(1000000, (2, 0))]) (maxL := 1) (M := mX5_endCondition) mt_X5_endCondition rfl os_X5_endCondition MT_len ((mA.cons (msk_30 hX) mA.nil)) (pE hX (by decide +kernel)) (by decide +kernel)
set_option maxRecDepth 16384 in
def smk_315 : aM := (65, 2, [(1, 55, 0)], [(55, 5, 7, 7), (55, 7, 5, 5), (55, 11, 0, 0), (57, 0, 3, 3)], [(55, 7, 7), (57, 0, 1), (58, 3, 3), (59, 3, 3), (60, 3, 3), (61, 0, 199), (64, 0, 0)], [(some (1, 1), [], [(55, 5, 7, 7), (55, 7, 6, 6), (55, 11, 0, 0), (57, 0, 4, 4)])])
set_option maxRecDepth 16384 in
def lbk_315 : List aLab := []
set_option maxRecDepth 16384 in
theorem msk_315 {Ext : gI → Prop} (hX : pSt Ext) : MSok bT Ext MT smk_315 := achk_ok (nm := 297) (sm := [smk_71, smk_314, smk_47]) (labs := lbk_315) (sp := []) (fuel := 30) (rE := [(1000000, (2, 0))]) (maxL := 1) (M := mX5_takesDo) mt_X5_takesDo rfl os_X5_takesDo MT_len ((mA.cons (msk_71 hX) (mA.cons (msk_314 hX) (mA.cons (msk_47 hX) mA.nil)))) (pE hX (by decide +kernel)) (by decide +kernel)
set_option maxRecDepth 16384 in
def smk_316 : aM := (71, 3, [(1, 55, 0)], [(55, 5, 7, 7), (55, 7, 5, 5), (55, 11, 0, 0), (57, 0, 3, 3)], [(55, 7, 7), (57, 0, 1), (58, 3, 3), (59, 3, 3), (60, 3, 3), (61, 0, 199), (64, 0, 0)], [(some (1, 1), [], [(55, 5, 7, 7), (55, 7, 6, 6), (55, 11, 0, 0), (57, 0, 4, 4)])])
set_option maxRecDepth 16384 in
def lbk_316 : List aLab := []
set_option maxRecDepth 16384 in
theorem msk_316 {Ext : gI → Prop} (hX : pSt Ext) : MSok bT Ext MT smk_316 := achk_ok (nm := 297) (sm := [smk_315]) (labs := lbk_316) (sp := []) (fuel := 20) (rE := [(1000000, (2, 0))]) (maxL := 1) (M := mX5_takesJoin) mt_X5_takesJoin rfl os_X5_takesJoin MT_len ((mA.cons (msk_315 hX) mA.nil)) (pE hX (by decide +kernel)) (by decide +kernel)
set_option maxRecDepth 16384 in
def smk_317 : aM := (76, 4, [(1, 55, 0)], [(55, 5, 7, 7), (55, 7, 5, 5), (55, 11, 0, 0), (57, 0, 3, 3)], [(55, 7, 7), (57, 0, 1), (58, 3, 3), (59, 3, 3), (60, 3, 3), (61, 0, 199), (64, 0, 0)], [(some (1, 1), [], [(55, 5, 7, 7), (55, 7, 6, 6), (55, 11, 0, 0), (57, 0, 4, 4)])])
set_option maxRecDepth 16384 in
def lbk_317 : List aLab := []
set_option maxRecDepth 16384 in
theorem msk_317 {Ext : gI → Prop} (hX : pSt Ext) : MSok bT Ext MT smk_317 := achk_ok (nm := 297) (sm := [smk_316]) (labs := lbk_317) (sp := []) (fuel := 11) (rE := [(1000000, (2, 0))]) (maxL := 1) (M := mX5_takes) mt_X5_takes rfl os_X5_takes MT_len ((mA.cons (msk_316 hX) mA.nil)) (pE hX (by decide +kernel)) (by decide +kernel)
set_option maxRecDepth 16384 in
def smk_318 : aM := (59, 1, [(1, 55, 0)], [(55, 5, 7, 7), (55, 7, 5, 5), (55, 11, 0, 0), (57, 0, 4, 4)], [(57, 1, 1), (61, 0, 199), (64, 0, 0)], [(none, [], [(55, 5, 7, 7), (55, 7, 5, 5), (55, 11, 0, 0), (57, 0, 4, 4)])])
set_option maxRecDepth 16384 in
def lbk_318 : List aLab := []
set_option maxRecDepth 16384 in
theorem msk_318 {Ext : gI → Prop} (hX : pSt Ext) : MSok bT Ext MT smk_318 := achk_ok (nm := 297) (sm := [smk_30]) (labs := lbk_318) (sp := []) (fuel := 22) (rE := [(1000000, (2, 0))]) (maxL := 1) (M := mX5_endCondition) mt_X5_endCondition rfl os_X5_endCondition MT_len ((mA.cons (msk_30 hX) mA.nil)) (pE hX (by decide +kernel)) (by decide +kernel)
set_option maxRecDepth 16384 in
def smk_319 : aM := (65, 2, [(1, 55, 0)], [(55, 5, 7, 7), (55, 7, 5, 5), (55, 11, 0, 0), (57, 0, 4, 4)], [(55, 7, 7), (57, 0, 1), (58, 4, 4), (59, 4, 4), (60, 4, 4), (61, 0, 199), (64, 0, 0)], [(some (1, 1), [], [(55, 5, 7, 7), (55, 7, 6, 6), (55, 11, 0, 0), (57, 0, 5, 5)])])
set_option maxRecDepth 16384 in
def lbk_319 : List aLab := []
set_option maxRecDepth 16384 in
theorem msk_319 {Ext : gI → Prop} (hX : pSt Ext) : MSok bT Ext MT smk_319 := achk_ok (nm := 297) (sm := [smk_71, smk_318, smk_52]) (labs := lbk_319) (sp := []) (fuel := 30) (rE := [(1000000, (2, 0))]) (maxL := 1) (M := mX5_takesDo) mt_X5_takesDo rfl os_X5_takesDo MT_len ((mA.cons (msk_71 hX) (mA.cons (msk_318 hX) (mA.cons (msk_52 hX) mA.nil)))) (pE hX (by decide +kernel)) (by decide +kernel)
set_option maxRecDepth 16384 in
def smk_320 : aM := (71, 3, [(1, 55, 0)], [(55, 5, 7, 7), (55, 7, 5, 5), (55, 11, 0, 0), (57, 0, 4, 4)], [(55, 7, 7), (57, 0, 1), (58, 4, 4), (59, 4, 4), (60, 4, 4), (61, 0, 199), (64, 0, 0)], [(some (1, 1), [], [(55, 5, 7, 7), (55, 7, 6, 6), (55, 11, 0, 0), (57, 0, 5, 5)])])
set_option maxRecDepth 16384 in
def lbk_320 : List aLab := []
set_option maxRecDepth 16384 in
theorem msk_320 {Ext : gI → Prop} (hX : pSt Ext) : MSok bT Ext MT smk_320 := achk_ok (nm := 297) (sm := [smk_319]) (labs := lbk_320) (sp := []) (fuel := 20) (rE := [(1000000, (2, 0))]) (maxL := 1) (M := mX5_takesJoin) mt_X5_takesJoin rfl os_X5_takesJoin MT_len ((mA.cons (msk_319 hX) mA.nil)) (pE hX (by decide +kernel)) (by decide +kernel)
set_option maxRecDepth 16384 in
def smk_321 : aM := (76, 4, [(1, 55, 0)], [(55, 5, 7, 7), (55, 7, 5, 5), (55, 11, 0, 0), (57, 0, 4, 4)], [(55, 7, 7), (57, 0, 1), (58, 4, 4), (59, 4, 4), (60, 4, 4), (61, 0, 199), (64, 0, 0)], [(some (1, 1), [], [(55, 5, 7, 7), (55, 7, 6, 6), (55, 11, 0, 0), (57, 0, 5, 5)])])
set_option maxRecDepth 16384 in
def lbk_321 : List aLab := []
set_option maxRecDepth 16384 in
theorem msk_321 {Ext : gI → Prop} (hX : pSt Ext) : MSok bT Ext MT smk_321 := achk_ok (nm := 297) (sm := [smk_320]) (labs := lbk_321) (sp := []) (fuel := 11) (rE := [(1000000, (2, 0))]) (maxL := 1) (M := mX5_takes) mt_X5_takes rfl os_X5_takes MT_len ((mA.cons (msk_320 hX) mA.nil)) (pE hX (by decide +kernel)) (by decide +kernel)
set_option maxRecDepth 16384 in
def smk_322 : aM := (59, 1, [(1, 55, 0)], [(55, 5, 7, 7), (55, 7, 5, 5), (55, 11, 0, 0), (57, 0, 5, 5)], [(57, 1, 1), (61, 0, 199), (64, 0, 0)], [(none, [], [(55, 5, 7, 7), (55, 7, 5, 5), (55, 11, 0, 0), (57, 0, 5, 5)])])
set_option maxRecDepth 16384 in
def lbk_322 : List aLab := []
set_option maxRecDepth 16384 in
theorem msk_322 {Ext : gI → Prop} (hX : pSt Ext) : MSok bT Ext MT smk_322 := achk_ok (nm := 297) (sm := [smk_30]) (labs := lbk_322) (sp := []) (fuel := 22) (rE := [(1000000, (2, 0))]) (maxL := 1) (M := mX5_endCondition) mt_X5_endCondition rfl os_X5_endCondition MT_len ((mA.cons (msk_30 hX) mA.nil)) (pE hX (by decide +kernel)) (by decide +kernel)
set_option maxRecDepth 16384 in
def smk_323 : aM := (65, 2, [(1, 55, 0)], [(55, 5, 7, 7), (55, 7, 5, 5), (55, 11, 0, 0), (57, 0, 5, 5)], [(55, 7, 7), (57, 0, 1), (58, 5, 5), (59, 5, 5), (60, 5, 5), (61, 0, 199), (64, 0, 0)], [(some (1, 1), [], [(55, 5, 7, 7), (55, 7, 6, 6), (55, 11, 0, 0), (57, 0, 6, 6)])])
set_option maxRecDepth 16384 in
def lbk_323 : List aLab := []
set_option maxRecDepth 16384 in
theorem msk_323 {Ext : gI → Prop} (hX : pSt Ext) : MSok bT Ext MT smk_323 := achk_ok (nm := 297) (sm := [smk_71, smk_322, smk_57]) (labs := lbk_323) (sp := []) (fuel := 30) (rE := [(1000000, (2, 0))]) (maxL := 1) (M := mX5_takesDo) mt_X5_takesDo rfl os_X5_takesDo MT_len ((mA.cons (msk_71 hX) (mA.cons (msk_322 hX) (mA.cons (msk_57 hX) mA.nil)))) (pE hX (by decide +kernel)) (by decide +kernel)
set_option maxRecDepth 16384 in
def smk_324 : aM := (71, 3, [(1, 55, 0)], [(55, 5, 7, 7), (55, 7, 5, 5), (55, 11, 0, 0), (57, 0, 5, 5)], [(55, 7, 7), (57, 0, 1), (58, 5, 5), (59, 5, 5), (60, 5, 5), (61, 0, 199), (64, 0, 0)], [(some (1, 1), [], [(55, 5, 7, 7), (55, 7, 6, 6), (55, 11, 0, 0), (57, 0, 6, 6)])])
set_option maxRecDepth 16384 in
def lbk_324 : List aLab := []
set_option maxRecDepth 16384 in
theorem msk_324 {Ext : gI → Prop} (hX : pSt Ext) : MSok bT Ext MT smk_324 := achk_ok (nm := 297) (sm := [smk_323]) (labs := lbk_324) (sp := []) (fuel := 20) (rE := [(1000000, (2, 0))]) (maxL := 1) (M := mX5_takesJoin) mt_X5_takesJoin rfl os_X5_takesJoin MT_len ((mA.cons (msk_323 hX) mA.nil)) (pE hX (by decide +kernel)) (by decide +kernel)
set_option maxRecDepth 16384 in
def smk_325 : aM := (76, 4, [(1, 55, 0)], [(55, 5, 7, 7), (55, 7, 5, 5), (55, 11, 0, 0), (57, 0, 5, 5)], [(55, 7, 7), (57, 0, 1), (58, 5, 5), (59, 5, 5), (60, 5, 5), (61, 0, 199), (64, 0, 0)], [(some (1, 1), [], [(55, 5, 7, 7), (55, 7, 6, 6), (55, 11, 0, 0), (57, 0, 6, 6)])])
set_option maxRecDepth 16384 in
def lbk_325 : List aLab := []
set_option maxRecDepth 16384 in
theorem msk_325 {Ext : gI → Prop} (hX : pSt Ext) : MSok bT Ext MT smk_325 := achk_ok (nm := 297) (sm := [smk_324]) (labs := lbk_325) (sp := []) (fuel := 11) (rE := [(1000000, (2, 0))]) (maxL := 1) (M := mX5_takes) mt_X5_takes rfl os_X5_takes MT_len ((mA.cons (msk_324 hX) mA.nil)) (pE hX (by decide +kernel)) (by decide +kernel)
set_option maxRecDepth 16384 in
def smk_326 : aM := (59, 1, [(1, 55, 0)], [(55, 5, 7, 7), (55, 7, 5, 5), (55, 11, 0, 0), (57, 0, 6, 6)], [(57, 1, 1), (61, 0, 199), (64, 0, 0)], [(none, [], [(55, 5, 7, 7), (55, 7, 5, 5), (55, 11, 0, 0), (57, 0, 6, 6)])])
set_option maxRecDepth 16384 in
def lbk_326 : List aLab := []
set_option maxRecDepth 16384 in
theorem msk_326 {Ext : gI → Prop} (hX : pSt Ext) : MSok bT Ext MT smk_326 := achk_ok (nm := 297) (sm := [smk_30]) (labs := lbk_326) (sp := []) (fuel := 22) (rE := [(1000000, (2, 0))]) (maxL := 1) (M := mX5_endCondition) mt_X5_endCondition rfl os_X5_endCondition MT_len ((mA.cons (msk_30 hX) mA.nil)) (pE hX (by decide +kernel)) (by decide +kernel)
set_option maxRecDepth 16384 in
def smk_327 : aM := (65, 2, [(1, 55, 0)], [(55, 5, 7, 7), (55, 7, 5, 5), (55, 11, 0, 0), (57, 0, 6, 6)], [(55, 7, 7), (57, 0, 1), (58, 6, 6), (59, 6, 6), (60, 6, 6), (61, 0, 199), (64, 0, 0)], [(some (1, 1), [], [(55, 5, 7, 7), (55, 7, 6, 6), (55, 11, 0, 0), (57, 0, 7, 7)])])
set_option maxRecDepth 16384 in
def lbk_327 : List aLab := []
set_option maxRecDepth 16384 in
theorem msk_327 {Ext : gI → Prop} (hX : pSt Ext) : MSok bT Ext MT smk_327 := achk_ok (nm := 297) (sm := [smk_71, smk_326, smk_62]) (labs := lbk_327) (sp := []) (fuel := 30) (rE := [(1000000, (2, 0))]) (maxL := 1) (M := mX5_takesDo) mt_X5_takesDo rfl os_X5_takesDo MT_len ((mA.cons (msk_71 hX) (mA.cons (msk_326 hX) (mA.cons (msk_62 hX) mA.nil)))) (pE hX (by decide +kernel)) (by decide +kernel)
set_option maxRecDepth 16384 in
def smk_328 : aM := (71, 3, [(1, 55, 0)], [(55, 5, 7, 7), (55, 7, 5, 5), (55, 11, 0, 0), (57, 0, 6, 6)], [(55, 7, 7), (57, 0, 1), (58, 6, 6), (59, 6, 6), (60, 6, 6), (61, 0, 199), (64, 0, 0)], [(some (1, 1), [], [(55, 5, 7, 7), (55, 7, 6, 6), (55, 11, 0, 0), (57, 0, 7, 7)])])
set_option maxRecDepth 16384 in
def lbk_328 : List aLab := []
set_option maxRecDepth 16384 in
theorem msk_328 {Ext : gI → Prop} (hX : pSt Ext) : MSok bT Ext MT smk_328 := achk_ok (nm := 297) (sm := [smk_327]) (labs := lbk_328) (sp := []) (fuel := 20) (rE := [(1000000, (2, 0))]) (maxL := 1) (M := mX5_takesJoin) mt_X5_takesJoin rfl os_X5_takesJoin MT_len ((mA.cons (msk_327 hX) mA.nil)) (pE hX (by decide +kernel)) (by decide +kernel)
set_option maxRecDepth 16384 in
def smk_329 : aM := (76, 4, [(1, 55, 0)], [(55, 5, 7, 7), (55, 7, 5, 5), (55, 11, 0, 0), (57, 0, 6, 6)], [(55, 7, 7), (57, 0, 1), (58, 6, 6), (59, 6, 6), (60, 6, 6), (61, 0, 199), (64, 0, 0)], [(some (1, 1), [], [(55, 5, 7, 7), (55, 7, 6, 6), (55, 11, 0, 0), (57, 0, 7, 7)])])
set_option maxRecDepth 16384 in
def lbk_329 : List aLab := []
set_option maxRecDepth 16384 in
theorem msk_329 {Ext : gI → Prop} (hX : pSt Ext) : MSok bT Ext MT smk_329 := achk_ok (nm := 297) (sm := [smk_328]) (labs := lbk_329) (sp := []) (fuel := 11) (rE := [(1000000, (2, 0))]) (maxL := 1) (M := mX5_takes) mt_X5_takes rfl os_X5_takes MT_len ((mA.cons (msk_328 hX) mA.nil)) (pE hX (by decide +kernel)) (by decide +kernel)
set_option maxRecDepth 16384 in
def smk_330 : aM := (59, 1, [(1, 55, 0)], [(55, 5, 7, 7), (55, 7, 5, 5), (55, 11, 0, 0), (57, 0, 7, 7)], [(57, 1, 1), (61, 0, 199), (64, 0, 0)], [(none, [], [(55, 5, 7, 7), (55, 7, 5, 5), (55, 11, 0, 0), (57, 0, 7, 7)])])
set_option maxRecDepth 16384 in
def lbk_330 : List aLab := []
set_option maxRecDepth 16384 in
theorem msk_330 {Ext : gI → Prop} (hX : pSt Ext) : MSok bT Ext MT smk_330 := achk_ok (nm := 297) (sm := [smk_30]) (labs := lbk_330) (sp := []) (fuel := 22) (rE := [(1000000, (2, 0))]) (maxL := 1) (M := mX5_endCondition) mt_X5_endCondition rfl os_X5_endCondition MT_len ((mA.cons (msk_30 hX) mA.nil)) (pE hX (by decide +kernel)) (by decide +kernel)
set_option maxRecDepth 16384 in
def smk_331 : aM := (65, 2, [(1, 55, 0)], [(55, 5, 7, 7), (55, 7, 5, 5), (55, 11, 0, 0), (57, 0, 7, 7)], [(55, 7, 7), (57, 0, 1), (58, 7, 7), (59, 7, 7), (60, 7, 7), (61, 0, 199), (64, 0, 0)], [(some (1, 1), [], [(55, 5, 7, 7), (55, 7, 6, 6), (55, 11, 0, 0), (57, 0, 8, 8)])])
set_option maxRecDepth 16384 in
def lbk_331 : List aLab := []
set_option maxRecDepth 16384 in
theorem msk_331 {Ext : gI → Prop} (hX : pSt Ext) : MSok bT Ext MT smk_331 := achk_ok (nm := 297) (sm := [smk_71, smk_330, smk_67]) (labs := lbk_331) (sp := []) (fuel := 30) (rE := [(1000000, (2, 0))]) (maxL := 1) (M := mX5_takesDo) mt_X5_takesDo rfl os_X5_takesDo MT_len ((mA.cons (msk_71 hX) (mA.cons (msk_330 hX) (mA.cons (msk_67 hX) mA.nil)))) (pE hX (by decide +kernel)) (by decide +kernel)
set_option maxRecDepth 16384 in
def smk_332 : aM := (71, 3, [(1, 55, 0)], [(55, 5, 7, 7), (55, 7, 5, 5), (55, 11, 0, 0), (57, 0, 7, 7)], [(55, 7, 7), (57, 0, 1), (58, 7, 7), (59, 7, 7), (60, 7, 7), (61, 0, 199), (64, 0, 0)], [(some (1, 1), [], [(55, 5, 7, 7), (55, 7, 6, 6), (55, 11, 0, 0), (57, 0, 8, 8)])])
set_option maxRecDepth 16384 in
def lbk_332 : List aLab := []
set_option maxRecDepth 16384 in
theorem msk_332 {Ext : gI → Prop} (hX : pSt Ext) : MSok bT Ext MT smk_332 := achk_ok (nm := 297) (sm := [smk_331]) (labs := lbk_332) (sp := []) (fuel := 20) (rE := [(1000000, (2, 0))]) (maxL := 1) (M := mX5_takesJoin) mt_X5_takesJoin rfl os_X5_takesJoin MT_len ((mA.cons (msk_331 hX) mA.nil)) (pE hX (by decide +kernel)) (by decide +kernel)
set_option maxRecDepth 16384 in
def smk_333 : aM := (76, 4, [(1, 55, 0)], [(55, 5, 7, 7), (55, 7, 5, 5), (55, 11, 0, 0), (57, 0, 7, 7)], [(55, 7, 7), (57, 0, 1), (58, 7, 7), (59, 7, 7), (60, 7, 7), (61, 0, 199), (64, 0, 0)], [(some (1, 1), [], [(55, 5, 7, 7), (55, 7, 6, 6), (55, 11, 0, 0), (57, 0, 8, 8)])])
set_option maxRecDepth 16384 in
def lbk_333 : List aLab := []
set_option maxRecDepth 16384 in
theorem msk_333 {Ext : gI → Prop} (hX : pSt Ext) : MSok bT Ext MT smk_333 := achk_ok (nm := 297) (sm := [smk_332]) (labs := lbk_333) (sp := []) (fuel := 11) (rE := [(1000000, (2, 0))]) (maxL := 1) (M := mX5_takes) mt_X5_takes rfl os_X5_takes MT_len ((mA.cons (msk_332 hX) mA.nil)) (pE hX (by decide +kernel)) (by decide +kernel)
set_option maxRecDepth 16384 in
def smk_334 : aM := (59, 1, [(1, 55, 0)], [(55, 5, 8, 8), (55, 7, 5, 5), (55, 11, 0, 0), (57, 0, 0, 0)], [(57, 1, 1), (61, 0, 199), (64, 0, 0)], [(none, [], [(55, 5, 8, 8), (55, 7, 5, 5), (55, 11, 0, 0), (57, 0, 0, 0)])])
set_option maxRecDepth 16384 in
def lbk_334 : List aLab := []
set_option maxRecDepth 16384 in
theorem msk_334 {Ext : gI → Prop} (hX : pSt Ext) : MSok bT Ext MT smk_334 := achk_ok (nm := 297) (sm := [smk_30]) (labs := lbk_334) (sp := []) (fuel := 22) (rE := [(1000000, (2, 0))]) (maxL := 1) (M := mX5_endCondition) mt_X5_endCondition rfl os_X5_endCondition MT_len ((mA.cons (msk_30 hX) mA.nil)) (pE hX (by decide +kernel)) (by decide +kernel)
set_option maxRecDepth 16384 in
def smk_335 : aM := (65, 2, [(1, 55, 0)], [(55, 5, 8, 8), (55, 7, 5, 5), (55, 11, 0, 0), (57, 0, 0, 0)], [(55, 7, 7), (57, 0, 1), (58, 0, 0), (59, 0, 0), (60, 0, 0), (61, 0, 199), (64, 0, 0)], [(some (1, 1), [], [(55, 5, 8, 8), (55, 7, 6, 6), (55, 11, 0, 0), (57, 0, 1, 1)])])
set_option maxRecDepth 16384 in
def lbk_335 : List aLab := []
set_option maxRecDepth 16384 in
theorem msk_335 {Ext : gI → Prop} (hX : pSt Ext) : MSok bT Ext MT smk_335 := achk_ok (nm := 297) (sm := [smk_104, smk_334, smk_32]) (labs := lbk_335) (sp := []) (fuel := 30) (rE := [(1000000, (2, 0))]) (maxL := 1) (M := mX5_takesDo) mt_X5_takesDo rfl os_X5_takesDo MT_len ((mA.cons (msk_104 hX) (mA.cons (msk_334 hX) (mA.cons (msk_32 hX) mA.nil)))) (pE hX (by decide +kernel)) (by decide +kernel)
set_option maxRecDepth 16384 in
def smk_336 : aM := (71, 3, [(1, 55, 0)], [(55, 5, 8, 8), (55, 7, 5, 5), (55, 11, 0, 0), (57, 0, 0, 0)], [(55, 7, 7), (57, 0, 1), (58, 0, 0), (59, 0, 0), (60, 0, 0), (61, 0, 199), (64, 0, 0)], [(some (1, 1), [], [(55, 5, 8, 8), (55, 7, 6, 6), (55, 11, 0, 0), (57, 0, 1, 1)])])
set_option maxRecDepth 16384 in
def lbk_336 : List aLab := []
set_option maxRecDepth 16384 in
theorem msk_336 {Ext : gI → Prop} (hX : pSt Ext) : MSok bT Ext MT smk_336 := achk_ok (nm := 297) (sm := [smk_335]) (labs := lbk_336) (sp := []) (fuel := 20) (rE := [(1000000, (2, 0))]) (maxL := 1) (M := mX5_takesJoin) mt_X5_takesJoin rfl os_X5_takesJoin MT_len ((mA.cons (msk_335 hX) mA.nil)) (pE hX (by decide +kernel)) (by decide +kernel)
set_option maxRecDepth 16384 in
def smk_337 : aM := (76, 4, [(1, 55, 0)], [(55, 5, 8, 8), (55, 7, 5, 5), (55, 11, 0, 0), (57, 0, 0, 0)], [(55, 7, 7), (57, 0, 1), (58, 0, 0), (59, 0, 0), (60, 0, 0), (61, 0, 199), (64, 0, 0)], [(some (1, 1), [], [(55, 5, 8, 8), (55, 7, 6, 6), (55, 11, 0, 0), (57, 0, 1, 1)])])
set_option maxRecDepth 16384 in
def lbk_337 : List aLab := []
set_option maxRecDepth 16384 in
theorem msk_337 {Ext : gI → Prop} (hX : pSt Ext) : MSok bT Ext MT smk_337 := achk_ok (nm := 297) (sm := [smk_336]) (labs := lbk_337) (sp := []) (fuel := 11) (rE := [(1000000, (2, 0))]) (maxL := 1) (M := mX5_takes) mt_X5_takes rfl os_X5_takes MT_len ((mA.cons (msk_336 hX) mA.nil)) (pE hX (by decide +kernel)) (by decide +kernel)
set_option maxRecDepth 16384 in
def smk_338 : aM := (59, 1, [(1, 55, 0)], [(55, 5, 8, 8), (55, 7, 5, 5), (55, 11, 0, 0), (57, 0, 1, 1)], [(57, 1, 1), (61, 0, 199), (64, 0, 0)], [(none, [], [(55, 5, 8, 8), (55, 7, 5, 5), (55, 11, 0, 0), (57, 0, 1, 1)])])
set_option maxRecDepth 16384 in
def lbk_338 : List aLab := []
set_option maxRecDepth 16384 in
theorem msk_338 {Ext : gI → Prop} (hX : pSt Ext) : MSok bT Ext MT smk_338 := achk_ok (nm := 297) (sm := [smk_30]) (labs := lbk_338) (sp := []) (fuel := 22) (rE := [(1000000, (2, 0))]) (maxL := 1) (M := mX5_endCondition) mt_X5_endCondition rfl os_X5_endCondition MT_len ((mA.cons (msk_30 hX) mA.nil)) (pE hX (by decide +kernel)) (by decide +kernel)
set_option maxRecDepth 16384 in
def smk_339 : aM := (65, 2, [(1, 55, 0)], [(55, 5, 8, 8), (55, 7, 5, 5), (55, 11, 0, 0), (57, 0, 1, 1)], [(55, 7, 7), (57, 0, 1), (58, 1, 1), (59, 1, 1), (60, 1, 1), (61, 0, 199), (64, 0, 0)], [(some (1, 1), [], [(55, 5, 8, 8), (55, 7, 6, 6), (55, 11, 0, 0), (57, 0, 2, 2)])])
set_option maxRecDepth 16384 in
def lbk_339 : List aLab := []
set_option maxRecDepth 16384 in
theorem msk_339 {Ext : gI → Prop} (hX : pSt Ext) : MSok bT Ext MT smk_339 := achk_ok (nm := 297) (sm := [smk_104, smk_338, smk_37]) (labs := lbk_339) (sp := []) (fuel := 30) (rE := [(1000000, (2, 0))]) (maxL := 1) (M := mX5_takesDo) mt_X5_takesDo rfl os_X5_takesDo MT_len ((mA.cons (msk_104 hX) (mA.cons (msk_338 hX) (mA.cons (msk_37 hX) mA.nil)))) (pE hX (by decide +kernel)) (by decide +kernel)
set_option maxRecDepth 16384 in
def smk_340 : aM := (71, 3, [(1, 55, 0)], [(55, 5, 8, 8), (55, 7, 5, 5), (55, 11, 0, 0), (57, 0, 1, 1)], [(55, 7, 7), (57, 0, 1), (58, 1, 1), (59, 1, 1), (60, 1, 1), (61, 0, 199), (64, 0, 0)], [(some (1, 1), [], [(55, 5, 8, 8), (55, 7, 6, 6), (55, 11, 0, 0), (57, 0, 2, 2)])])
set_option maxRecDepth 16384 in
def lbk_340 : List aLab := []
set_option maxRecDepth 16384 in
theorem msk_340 {Ext : gI → Prop} (hX : pSt Ext) : MSok bT Ext MT smk_340 := achk_ok (nm := 297) (sm := [smk_339]) (labs := lbk_340) (sp := []) (fuel := 20) (rE := [(1000000, (2, 0))]) (maxL := 1) (M := mX5_takesJoin) mt_X5_takesJoin rfl os_X5_takesJoin MT_len ((mA.cons (msk_339 hX) mA.nil)) (pE hX (by decide +kernel)) (by decide +kernel)
set_option maxRecDepth 16384 in
def smk_341 : aM := (76, 4, [(1, 55, 0)], [(55, 5, 8, 8), (55, 7, 5, 5), (55, 11, 0, 0), (57, 0, 1, 1)], [(55, 7, 7), (57, 0, 1), (58, 1, 1), (59, 1, 1), (60, 1, 1), (61, 0, 199), (64, 0, 0)], [(some (1, 1), [], [(55, 5, 8, 8), (55, 7, 6, 6), (55, 11, 0, 0), (57, 0, 2, 2)])])
set_option maxRecDepth 16384 in
def lbk_341 : List aLab := []
set_option maxRecDepth 16384 in
theorem msk_341 {Ext : gI → Prop} (hX : pSt Ext) : MSok bT Ext MT smk_341 := achk_ok (nm := 297) (sm := [smk_340]) (labs := lbk_341) (sp := []) (fuel := 11) (rE := [(1000000, (2, 0))]) (maxL := 1) (M := mX5_takes) mt_X5_takes rfl os_X5_takes MT_len ((mA.cons (msk_340 hX) mA.nil)) (pE hX (by decide +kernel)) (by decide +kernel)
set_option maxRecDepth 16384 in
def smk_342 : aM := (59, 1, [(1, 55, 0)], [(55, 5, 8, 8), (55, 7, 5, 5), (55, 11, 0, 0), (57, 0, 2, 2)], [(57, 1, 1), (61, 0, 199), (64, 0, 0)], [(none, [], [(55, 5, 8, 8), (55, 7, 5, 5), (55, 11, 0, 0), (57, 0, 2, 2)])])
set_option maxRecDepth 16384 in
def lbk_342 : List aLab := []
set_option maxRecDepth 16384 in
theorem msk_342 {Ext : gI → Prop} (hX : pSt Ext) : MSok bT Ext MT smk_342 := achk_ok (nm := 297) (sm := [smk_30]) (labs := lbk_342) (sp := []) (fuel := 22) (rE := [(1000000, (2, 0))]) (maxL := 1) (M := mX5_endCondition) mt_X5_endCondition rfl os_X5_endCondition MT_len ((mA.cons (msk_30 hX) mA.nil)) (pE hX (by decide +kernel)) (by decide +kernel)
set_option maxRecDepth 16384 in
def smk_343 : aM := (65, 2, [(1, 55, 0)], [(55, 5, 8, 8), (55, 7, 5, 5), (55, 11, 0, 0), (57, 0, 2, 2)], [(55, 7, 7), (57, 0, 1), (58, 2, 2), (59, 2, 2), (60, 2, 2), (61, 0, 199), (64, 0, 0)], [(some (1, 1), [], [(55, 5, 8, 8), (55, 7, 6, 6), (55, 11, 0, 0), (57, 0, 3, 3)])])
set_option maxRecDepth 16384 in
def lbk_343 : List aLab := []
set_option maxRecDepth 16384 in
theorem msk_343 {Ext : gI → Prop} (hX : pSt Ext) : MSok bT Ext MT smk_343 := achk_ok (nm := 297) (sm := [smk_104, smk_342, smk_42]) (labs := lbk_343) (sp := []) (fuel := 30) (rE := [(1000000, (2, 0))]) (maxL := 1) (M := mX5_takesDo) mt_X5_takesDo rfl os_X5_takesDo MT_len ((mA.cons (msk_104 hX) (mA.cons (msk_342 hX) (mA.cons (msk_42 hX) mA.nil)))) (pE hX (by decide +kernel)) (by decide +kernel)
set_option maxRecDepth 16384 in
def smk_344 : aM := (71, 3, [(1, 55, 0)], [(55, 5, 8, 8), (55, 7, 5, 5), (55, 11, 0, 0), (57, 0, 2, 2)], [(55, 7, 7), (57, 0, 1), (58, 2, 2), (59, 2, 2), (60, 2, 2), (61, 0, 199), (64, 0, 0)], [(some (1, 1), [], [(55, 5, 8, 8), (55, 7, 6, 6), (55, 11, 0, 0), (57, 0, 3, 3)])])
set_option maxRecDepth 16384 in
def lbk_344 : List aLab := []
set_option maxRecDepth 16384 in
theorem msk_344 {Ext : gI → Prop} (hX : pSt Ext) : MSok bT Ext MT smk_344 := achk_ok (nm := 297) (sm := [smk_343]) (labs := lbk_344) (sp := []) (fuel := 20) (rE := [(1000000, (2, 0))]) (maxL := 1) (M := mX5_takesJoin) mt_X5_takesJoin rfl os_X5_takesJoin MT_len ((mA.cons (msk_343 hX) mA.nil)) (pE hX (by decide +kernel)) (by decide +kernel)
set_option maxRecDepth 16384 in
def smk_345 : aM := (76, 4, [(1, 55, 0)], [(55, 5, 8, 8), (55, 7, 5, 5), (55, 11, 0, 0), (57, 0, 2, 2)], [(55, 7, 7), (57, 0, 1), (58, 2, 2), (59, 2, 2), (60, 2, 2), (61, 0, 199), (64, 0, 0)], [(some (1, 1), [], [(55, 5, 8, 8), (55, 7, 6, 6), (55, 11, 0, 0), (57, 0, 3, 3)])])
set_option maxRecDepth 16384 in
def lbk_345 : List aLab := []
set_option maxRecDepth 16384 in
theorem msk_345 {Ext : gI → Prop} (hX : pSt Ext) : MSok bT Ext MT smk_345 := achk_ok (nm := 297) (sm := [smk_344]) (labs := lbk_345) (sp := []) (fuel := 11) (rE := [(1000000, (2, 0))]) (maxL := 1) (M := mX5_takes) mt_X5_takes rfl os_X5_takes MT_len ((mA.cons (msk_344 hX) mA.nil)) (pE hX (by decide +kernel)) (by decide +kernel)
set_option maxRecDepth 16384 in
def smk_346 : aM := (59, 1, [(1, 55, 0)], [(55, 5, 8, 8), (55, 7, 5, 5), (55, 11, 0, 0), (57, 0, 3, 3)], [(57, 1, 1), (61, 0, 199), (64, 0, 0)], [(none, [], [(55, 5, 8, 8), (55, 7, 5, 5), (55, 11, 0, 0), (57, 0, 3, 3)])])
set_option maxRecDepth 16384 in
def lbk_346 : List aLab := []
set_option maxRecDepth 16384 in
theorem msk_346 {Ext : gI → Prop} (hX : pSt Ext) : MSok bT Ext MT smk_346 := achk_ok (nm := 297) (sm := [smk_30]) (labs := lbk_346) (sp := []) (fuel := 22) (rE := [(1000000, (2, 0))]) (maxL := 1) (M := mX5_endCondition) mt_X5_endCondition rfl os_X5_endCondition MT_len ((mA.cons (msk_30 hX) mA.nil)) (pE hX (by decide +kernel)) (by decide +kernel)
set_option maxRecDepth 16384 in
def smk_347 : aM := (65, 2, [(1, 55, 0)], [(55, 5, 8, 8), (55, 7, 5, 5), (55, 11, 0, 0), (57, 0, 3, 3)], [(55, 7, 7), (57, 0, 1), (58, 3, 3), (59, 3, 3), (60, 3, 3), (61, 0, 199), (64, 0, 0)], [(some (1, 1), [], [(55, 5, 8, 8), (55, 7, 6, 6), (55, 11, 0, 0), (57, 0, 4, 4)])])
set_option maxRecDepth 16384 in
def lbk_347 : List aLab := []
set_option maxRecDepth 16384 in
theorem msk_347 {Ext : gI → Prop} (hX : pSt Ext) : MSok bT Ext MT smk_347 := achk_ok (nm := 297) (sm := [smk_104, smk_346, smk_47]) (labs := lbk_347) (sp := []) (fuel := 30) (rE := [(1000000, (2, 0))]) (maxL := 1) (M := mX5_takesDo) mt_X5_takesDo rfl os_X5_takesDo MT_len ((mA.cons (msk_104 hX) (mA.cons (msk_346 hX) (mA.cons (msk_47 hX) mA.nil)))) (pE hX (by decide +kernel)) (by decide +kernel)
set_option maxRecDepth 16384 in
def smk_348 : aM := (71, 3, [(1, 55, 0)], [(55, 5, 8, 8), (55, 7, 5, 5), (55, 11, 0, 0), (57, 0, 3, 3)], [(55, 7, 7), (57, 0, 1), (58, 3, 3), (59, 3, 3), (60, 3, 3), (61, 0, 199), (64, 0, 0)], [(some (1, 1), [], [(55, 5, 8, 8), (55, 7, 6, 6), (55, 11, 0, 0), (57, 0, 4, 4)])])
set_option maxRecDepth 16384 in
def lbk_348 : List aLab := []
set_option maxRecDepth 16384 in
theorem msk_348 {Ext : gI → Prop} (hX : pSt Ext) : MSok bT Ext MT smk_348 := achk_ok (nm := 297) (sm := [smk_347]) (labs := lbk_348) (sp := []) (fuel := 20) (rE := [(1000000, (2, 0))]) (maxL := 1) (M := mX5_takesJoin) mt_X5_takesJoin rfl os_X5_takesJoin MT_len ((mA.cons (msk_347 hX) mA.nil)) (pE hX (by decide +kernel)) (by decide +kernel)
set_option maxRecDepth 16384 in
def smk_349 : aM := (76, 4, [(1, 55, 0)], [(55, 5, 8, 8), (55, 7, 5, 5), (55, 11, 0, 0), (57, 0, 3, 3)], [(55, 7, 7), (57, 0, 1), (58, 3, 3), (59, 3, 3), (60, 3, 3), (61, 0, 199), (64, 0, 0)], [(some (1, 1), [], [(55, 5, 8, 8), (55, 7, 6, 6), (55, 11, 0, 0), (57, 0, 4, 4)])])
set_option maxRecDepth 16384 in
def lbk_349 : List aLab := []
set_option maxRecDepth 16384 in
theorem msk_349 {Ext : gI → Prop} (hX : pSt Ext) : MSok bT Ext MT smk_349 := achk_ok (nm := 297) (sm := [smk_348]) (labs := lbk_349) (sp := []) (fuel := 11) (rE := [(1000000, (2, 0))]) (maxL := 1) (M := mX5_takes) mt_X5_takes rfl os_X5_takes MT_len ((mA.cons (msk_348 hX) mA.nil)) (pE hX (by decide +kernel)) (by decide +kernel)
set_option maxRecDepth 16384 in
def smk_350 : aM := (59, 1, [(1, 55, 0)], [(55, 5, 8, 8), (55, 7, 5, 5), (55, 11, 0, 0), (57, 0, 4, 4)], [(57, 1, 1), (61, 0, 199), (64, 0, 0)], [(none, [], [(55, 5, 8, 8), (55, 7, 5, 5), (55, 11, 0, 0), (57, 0, 4, 4)])])
set_option maxRecDepth 16384 in
def lbk_350 : List aLab := []
set_option maxRecDepth 16384 in
theorem msk_350 {Ext : gI → Prop} (hX : pSt Ext) : MSok bT Ext MT smk_350 := achk_ok (nm := 297) (sm := [smk_30]) (labs := lbk_350) (sp := []) (fuel := 22) (rE := [(1000000, (2, 0))]) (maxL := 1) (M := mX5_endCondition) mt_X5_endCondition rfl os_X5_endCondition MT_len ((mA.cons (msk_30 hX) mA.nil)) (pE hX (by decide +kernel)) (by decide +kernel)
set_option maxRecDepth 16384 in
def smk_351 : aM := (65, 2, [(1, 55, 0)], [(55, 5, 8, 8), (55, 7, 5, 5), (55, 11, 0, 0), (57, 0, 4, 4)], [(55, 7, 7), (57, 0, 1), (58, 4, 4), (59, 4, 4), (60, 4, 4), (61, 0, 199), (64, 0, 0)], [(some (1, 1), [], [(55, 5, 8, 8), (55, 7, 6, 6), (55, 11, 0, 0), (57, 0, 5, 5)])])
set_option maxRecDepth 16384 in
def lbk_351 : List aLab := []
set_option maxRecDepth 16384 in
theorem msk_351 {Ext : gI → Prop} (hX : pSt Ext) : MSok bT Ext MT smk_351 := achk_ok (nm := 297) (sm := [smk_104, smk_350, smk_52]) (labs := lbk_351) (sp := []) (fuel := 30) (rE := [(1000000, (2, 0))]) (maxL := 1) (M := mX5_takesDo) mt_X5_takesDo rfl os_X5_takesDo MT_len ((mA.cons (msk_104 hX) (mA.cons (msk_350 hX) (mA.cons (msk_52 hX) mA.nil)))) (pE hX (by decide +kernel)) (by decide +kernel)
set_option maxRecDepth 16384 in
def smk_352 : aM := (71, 3, [(1, 55, 0)], [(55, 5, 8, 8), (55, 7, 5, 5), (55, 11, 0, 0), (57, 0, 4, 4)], [(55, 7, 7), (57, 0, 1), (58, 4, 4), (59, 4, 4), (60, 4, 4), (61, 0, 199), (64, 0, 0)], [(some (1, 1), [], [(55, 5, 8, 8), (55, 7, 6, 6), (55, 11, 0, 0), (57, 0, 5, 5)])])
set_option maxRecDepth 16384 in
def lbk_352 : List aLab := []
set_option maxRecDepth 16384 in
theorem msk_352 {Ext : gI → Prop} (hX : pSt Ext) : MSok bT Ext MT smk_352 := achk_ok (nm := 297) (sm := [smk_351]) (labs := lbk_352) (sp := []) (fuel := 20) (rE := [(1000000, (2, 0))]) (maxL := 1) (M := mX5_takesJoin) mt_X5_takesJoin rfl os_X5_takesJoin MT_len ((mA.cons (msk_351 hX) mA.nil)) (pE hX (by decide +kernel)) (by decide +kernel)
set_option maxRecDepth 16384 in
def smk_353 : aM := (76, 4, [(1, 55, 0)], [(55, 5, 8, 8), (55, 7, 5, 5), (55, 11, 0, 0), (57, 0, 4, 4)], [(55, 7, 7), (57, 0, 1), (58, 4, 4), (59, 4, 4), (60, 4, 4), (61, 0, 199), (64, 0, 0)], [(some (1, 1), [], [(55, 5, 8, 8), (55, 7, 6, 6), (55, 11, 0, 0), (57, 0, 5, 5)])])
set_option maxRecDepth 16384 in
def lbk_353 : List aLab := []
set_option maxRecDepth 16384 in
theorem msk_353 {Ext : gI → Prop} (hX : pSt Ext) : MSok bT Ext MT smk_353 := achk_ok (nm := 297) (sm := [smk_352]) (labs := lbk_353) (sp := []) (fuel := 11) (rE := [(1000000, (2, 0))]) (maxL := 1) (M := mX5_takes) mt_X5_takes rfl os_X5_takes MT_len ((mA.cons (msk_352 hX) mA.nil)) (pE hX (by decide +kernel)) (by decide +kernel)
set_option maxRecDepth 16384 in
def smk_354 : aM := (59, 1, [(1, 55, 0)], [(55, 5, 8, 8), (55, 7, 5, 5), (55, 11, 0, 0), (57, 0, 5, 5)], [(57, 1, 1), (61, 0, 199), (64, 0, 0)], [(none, [], [(55, 5, 8, 8), (55, 7, 5, 5), (55, 11, 0, 0), (57, 0, 5, 5)])])
set_option maxRecDepth 16384 in
def lbk_354 : List aLab := []
set_option maxRecDepth 16384 in
theorem msk_354 {Ext : gI → Prop} (hX : pSt Ext) : MSok bT Ext MT smk_354 := achk_ok (nm := 297) (sm := [smk_30]) (labs := lbk_354) (sp := []) (fuel := 22) (rE := [(1000000, (2, 0))]) (maxL := 1) (M := mX5_endCondition) mt_X5_endCondition rfl os_X5_endCondition MT_len ((mA.cons (msk_30 hX) mA.nil)) (pE hX (by decide +kernel)) (by decide +kernel)
set_option maxRecDepth 16384 in
def smk_355 : aM := (65, 2, [(1, 55, 0)], [(55, 5, 8, 8), (55, 7, 5, 5), (55, 11, 0, 0), (57, 0, 5, 5)], [(55, 7, 7), (57, 0, 1), (58, 5, 5), (59, 5, 5), (60, 5, 5), (61, 0, 199), (64, 0, 0)], [(some (1, 1), [], [(55, 5, 8, 8), (55, 7, 6, 6), (55, 11, 0, 0), (57, 0, 6, 6)])])
set_option maxRecDepth 16384 in
def lbk_355 : List aLab := []
set_option maxRecDepth 16384 in
theorem msk_355 {Ext : gI → Prop} (hX : pSt Ext) : MSok bT Ext MT smk_355 := achk_ok (nm := 297) (sm := [smk_104, smk_354, smk_57]) (labs := lbk_355) (sp := []) (fuel := 30) (rE := [(1000000, (2, 0))]) (maxL := 1) (M := mX5_takesDo) mt_X5_takesDo rfl os_X5_takesDo MT_len ((mA.cons (msk_104 hX) (mA.cons (msk_354 hX) (mA.cons (msk_57 hX) mA.nil)))) (pE hX (by decide +kernel)) (by decide +kernel)
set_option maxRecDepth 16384 in
def smk_356 : aM := (71, 3, [(1, 55, 0)], [(55, 5, 8, 8), (55, 7, 5, 5), (55, 11, 0, 0), (57, 0, 5, 5)], [(55, 7, 7), (57, 0, 1), (58, 5, 5), (59, 5, 5), (60, 5, 5), (61, 0, 199), (64, 0, 0)], [(some (1, 1), [], [(55, 5, 8, 8), (55, 7, 6, 6), (55, 11, 0, 0), (57, 0, 6, 6)])])
set_option maxRecDepth 16384 in
def lbk_356 : List aLab := []
set_option maxRecDepth 16384 in
theorem msk_356 {Ext : gI → Prop} (hX : pSt Ext) : MSok bT Ext MT smk_356 := achk_ok (nm := 297) (sm := [smk_355]) (labs := lbk_356) (sp := []) (fuel := 20) (rE := [(1000000, (2, 0))]) (maxL := 1) (M := mX5_takesJoin) mt_X5_takesJoin rfl os_X5_takesJoin MT_len ((mA.cons (msk_355 hX) mA.nil)) (pE hX (by decide +kernel)) (by decide +kernel)
set_option maxRecDepth 16384 in
def smk_357 : aM := (76, 4, [(1, 55, 0)], [(55, 5, 8, 8), (55, 7, 5, 5), (55, 11, 0, 0), (57, 0, 5, 5)], [(55, 7, 7), (57, 0, 1), (58, 5, 5), (59, 5, 5), (60, 5, 5), (61, 0, 199), (64, 0, 0)], [(some (1, 1), [], [(55, 5, 8, 8), (55, 7, 6, 6), (55, 11, 0, 0), (57, 0, 6, 6)])])
set_option maxRecDepth 16384 in
def lbk_357 : List aLab := []
set_option maxRecDepth 16384 in
theorem msk_357 {Ext : gI → Prop} (hX : pSt Ext) : MSok bT Ext MT smk_357 := achk_ok (nm := 297) (sm := [smk_356]) (labs := lbk_357) (sp := []) (fuel := 11) (rE := [(1000000, (2, 0))]) (maxL := 1) (M := mX5_takes) mt_X5_takes rfl os_X5_takes MT_len ((mA.cons (msk_356 hX) mA.nil)) (pE hX (by decide +kernel)) (by decide +kernel)
set_option maxRecDepth 16384 in
def smk_358 : aM := (59, 1, [(1, 55, 0)], [(55, 5, 8, 8), (55, 7, 5, 5), (55, 11, 0, 0), (57, 0, 6, 6)], [(57, 1, 1), (61, 0, 199), (64, 0, 0)], [(none, [], [(55, 5, 8, 8), (55, 7, 5, 5), (55, 11, 0, 0), (57, 0, 6, 6)])])
set_option maxRecDepth 16384 in
def lbk_358 : List aLab := []
set_option maxRecDepth 16384 in
theorem msk_358 {Ext : gI → Prop} (hX : pSt Ext) : MSok bT Ext MT smk_358 := achk_ok (nm := 297) (sm := [smk_30]) (labs := lbk_358) (sp := []) (fuel := 22) (rE := [(1000000, (2, 0))]) (maxL := 1) (M := mX5_endCondition) mt_X5_endCondition rfl os_X5_endCondition MT_len ((mA.cons (msk_30 hX) mA.nil)) (pE hX (by decide +kernel)) (by decide +kernel)
set_option maxRecDepth 16384 in
def smk_359 : aM := (65, 2, [(1, 55, 0)], [(55, 5, 8, 8), (55, 7, 5, 5), (55, 11, 0, 0), (57, 0, 6, 6)], [(55, 7, 7), (57, 0, 1), (58, 6, 6), (59, 6, 6), (60, 6, 6), (61, 0, 199), (64, 0, 0)], [(some (1, 1), [], [(55, 5, 8, 8), (55, 7, 6, 6), (55, 11, 0, 0), (57, 0, 7, 7)])])
set_option maxRecDepth 16384 in
def lbk_359 : List aLab := []
set_option maxRecDepth 16384 in
theorem msk_359 {Ext : gI → Prop} (hX : pSt Ext) : MSok bT Ext MT smk_359 := achk_ok (nm := 297) (sm := [smk_104, smk_358, smk_62]) (labs := lbk_359) (sp := []) (fuel := 30) (rE := [(1000000, (2, 0))]) (maxL := 1) (M := mX5_takesDo) mt_X5_takesDo rfl os_X5_takesDo MT_len ((mA.cons (msk_104 hX) (mA.cons (msk_358 hX) (mA.cons (msk_62 hX) mA.nil)))) (pE hX (by decide +kernel)) (by decide +kernel)
set_option maxRecDepth 16384 in
def smk_360 : aM := (71, 3, [(1, 55, 0)], [(55, 5, 8, 8), (55, 7, 5, 5), (55, 11, 0, 0), (57, 0, 6, 6)], [(55, 7, 7), (57, 0, 1), (58, 6, 6), (59, 6, 6), (60, 6, 6), (61, 0, 199), (64, 0, 0)], [(some (1, 1), [], [(55, 5, 8, 8), (55, 7, 6, 6), (55, 11, 0, 0), (57, 0, 7, 7)])])
set_option maxRecDepth 16384 in
def lbk_360 : List aLab := []
set_option maxRecDepth 16384 in
theorem msk_360 {Ext : gI → Prop} (hX : pSt Ext) : MSok bT Ext MT smk_360 := achk_ok (nm := 297) (sm := [smk_359]) (labs := lbk_360) (sp := []) (fuel := 20) (rE := [(1000000, (2, 0))]) (maxL := 1) (M := mX5_takesJoin) mt_X5_takesJoin rfl os_X5_takesJoin MT_len ((mA.cons (msk_359 hX) mA.nil)) (pE hX (by decide +kernel)) (by decide +kernel)
set_option maxRecDepth 16384 in
def smk_361 : aM := (76, 4, [(1, 55, 0)], [(55, 5, 8, 8), (55, 7, 5, 5), (55, 11, 0, 0), (57, 0, 6, 6)], [(55, 7, 7), (57, 0, 1), (58, 6, 6), (59, 6, 6), (60, 6, 6), (61, 0, 199), (64, 0, 0)], [(some (1, 1), [], [(55, 5, 8, 8), (55, 7, 6, 6), (55, 11, 0, 0), (57, 0, 7, 7)])])
set_option maxRecDepth 16384 in
def lbk_361 : List aLab := []
set_option maxRecDepth 16384 in
theorem msk_361 {Ext : gI → Prop} (hX : pSt Ext) : MSok bT Ext MT smk_361 := achk_ok (nm := 297) (sm := [smk_360]) (labs := lbk_361) (sp := []) (fuel := 11) (rE := [(1000000, (2, 0))]) (maxL := 1) (M := mX5_takes) mt_X5_takes rfl os_X5_takes MT_len ((mA.cons (msk_360 hX) mA.nil)) (pE hX (by decide +kernel)) (by decide +kernel)
set_option maxRecDepth 16384 in
def smk_362 : aM := (59, 1, [(1, 55, 0)], [(55, 5, 8, 8), (55, 7, 5, 5), (55, 11, 0, 0), (57, 0, 7, 7)], [(57, 1, 1), (61, 0, 199), (64, 0, 0)], [(none, [], [(55, 5, 8, 8), (55, 7, 5, 5), (55, 11, 0, 0), (57, 0, 7, 7)])])
set_option maxRecDepth 16384 in
def lbk_362 : List aLab := []
set_option maxRecDepth 16384 in
theorem msk_362 {Ext : gI → Prop} (hX : pSt Ext) : MSok bT Ext MT smk_362 := achk_ok (nm := 297) (sm := [smk_30]) (labs := lbk_362) (sp := []) (fuel := 22) (rE := [(1000000, (2, 0))]) (maxL := 1) (M := mX5_endCondition) mt_X5_endCondition rfl os_X5_endCondition MT_len ((mA.cons (msk_30 hX) mA.nil)) (pE hX (by decide +kernel)) (by decide +kernel)
set_option maxRecDepth 16384 in
def smk_363 : aM := (65, 2, [(1, 55, 0)], [(55, 5, 8, 8), (55, 7, 5, 5), (55, 11, 0, 0), (57, 0, 7, 7)], [(55, 7, 7), (57, 0, 1), (58, 7, 7), (59, 7, 7), (60, 7, 7), (61, 0, 199), (64, 0, 0)], [(some (1, 1), [], [(55, 5, 8, 8), (55, 7, 6, 6), (55, 11, 0, 0), (57, 0, 8, 8)])])
set_option maxRecDepth 16384 in
def lbk_363 : List aLab := []
set_option maxRecDepth 16384 in
theorem msk_363 {Ext : gI → Prop} (hX : pSt Ext) : MSok bT Ext MT smk_363 := achk_ok (nm := 297) (sm := [smk_104, smk_362, smk_67]) (labs := lbk_363) (sp := []) (fuel := 30) (rE := [(1000000, (2, 0))]) (maxL := 1) (M := mX5_takesDo) mt_X5_takesDo rfl os_X5_takesDo MT_len ((mA.cons (msk_104 hX) (mA.cons (msk_362 hX) (mA.cons (msk_67 hX) mA.nil)))) (pE hX (by decide +kernel)) (by decide +kernel)
set_option maxRecDepth 16384 in
def smk_364 : aM := (71, 3, [(1, 55, 0)], [(55, 5, 8, 8), (55, 7, 5, 5), (55, 11, 0, 0), (57, 0, 7, 7)], [(55, 7, 7), (57, 0, 1), (58, 7, 7), (59, 7, 7), (60, 7, 7), (61, 0, 199), (64, 0, 0)], [(some (1, 1), [], [(55, 5, 8, 8), (55, 7, 6, 6), (55, 11, 0, 0), (57, 0, 8, 8)])])
set_option maxRecDepth 16384 in
def lbk_364 : List aLab := []
set_option maxRecDepth 16384 in
theorem msk_364 {Ext : gI → Prop} (hX : pSt Ext) : MSok bT Ext MT smk_364 := achk_ok (nm := 297) (sm := [smk_363]) (labs := lbk_364) (sp := []) (fuel := 20) (rE := [(1000000, (2, 0))]) (maxL := 1) (M := mX5_takesJoin) mt_X5_takesJoin rfl os_X5_takesJoin MT_len ((mA.cons (msk_363 hX) mA.nil)) (pE hX (by decide +kernel)) (by decide +kernel)
set_option maxRecDepth 16384 in
def smk_365 : aM := (76, 4, [(1, 55, 0)], [(55, 5, 8, 8), (55, 7, 5, 5), (55, 11, 0, 0), (57, 0, 7, 7)], [(55, 7, 7), (57, 0, 1), (58, 7, 7), (59, 7, 7), (60, 7, 7), (61, 0, 199), (64, 0, 0)], [(some (1, 1), [], [(55, 5, 8, 8), (55, 7, 6, 6), (55, 11, 0, 0), (57, 0, 8, 8)])])
set_option maxRecDepth 16384 in
def lbk_365 : List aLab := []
set_option maxRecDepth 16384 in
theorem msk_365 {Ext : gI → Prop} (hX : pSt Ext) : MSok bT Ext MT smk_365 := achk_ok (nm := 297) (sm := [smk_364]) (labs := lbk_365) (sp := []) (fuel := 11) (rE := [(1000000, (2, 0))]) (maxL := 1) (M := mX5_takes) mt_X5_takes rfl os_X5_takes MT_len ((mA.cons (msk_364 hX) mA.nil)) (pE hX (by decide +kernel)) (by decide +kernel)
set_option maxRecDepth 16384 in
def smk_366 : aM := (65, 0, [(1, 55, 0)], [(55, 5, 6, 8), (55, 7, 5, 5), (55, 11, 1, 3), (57, 0, 0, 8)], [], [(some (0, 0), [], [(55, 5, 6, 8), (55, 7, 5, 5), (55, 11, 1, 3)])])
set_option maxRecDepth 16384 in
def lbk_366 : List aLab := []
set_option maxRecDepth 16384 in
theorem msk_366 {Ext : gI → Prop} (hX : pSt Ext) : MSok bT Ext MT smk_366 := achk_ok (nm := 297) (sm := []) (labs := lbk_366) (sp := []) (fuel := 10) (rE := [(1000000, (2, 0))]) (maxL := 1) (M := mX5_takesDo) mt_X5_takesDo rfl os_X5_takesDo MT_len ( mA.nil) (pE hX (by decide +kernel)) (by decide +kernel)
set_option maxRecDepth 16384 in
def smk_367 : aM := (71, 1, [(1, 55, 0)], [(55, 5, 6, 8), (55, 7, 5, 5), (55, 11, 1, 3), (57, 0, 0, 8)], [], [(some (0, 0), [], [(55, 5, 6, 8), (55, 7, 5, 5), (55, 11, 1, 3)])])
set_option maxRecDepth 16384 in
def lbk_367 : List aLab := []
set_option maxRecDepth 16384 in
theorem msk_367 {Ext : gI → Prop} (hX : pSt Ext) : MSok bT Ext MT smk_367 := achk_ok (nm := 297) (sm := [smk_366]) (labs := lbk_367) (sp := []) (fuel := 20) (rE := [(1000000, (2, 0))]) (maxL := 1) (M := mX5_takesJoin) mt_X5_takesJoin rfl os_X5_takesJoin MT_len ((mA.cons (msk_366 hX) mA.nil)) (pE hX (by decide +kernel)) (by decide +kernel)
set_option maxRecDepth 16384 in
def smk_368 : aM := (76, 2, [(1, 55, 0)], [(55, 5, 6, 8), (55, 7, 5, 5), (55, 11, 1, 3), (57, 0, 0, 8)], [], [(some (0, 0), [], [(55, 5, 6, 8), (55, 7, 5, 5), (55, 11, 1, 3)])])
set_option maxRecDepth 16384 in
def lbk_368 : List aLab := []
set_option maxRecDepth 16384 in
theorem msk_368 {Ext : gI → Prop} (hX : pSt Ext) : MSok bT Ext MT smk_368 := achk_ok (nm := 297) (sm := [smk_367]) (labs := lbk_368) (sp := []) (fuel := 11) (rE := [(1000000, (2, 0))]) (maxL := 1) (M := mX5_takes) mt_X5_takes rfl os_X5_takes MT_len ((mA.cons (msk_367 hX) mA.nil)) (pE hX (by decide +kernel)) (by decide +kernel)
set_option maxRecDepth 16384 in
def smk_369 : aM := (65, 1, [(1, 55, 0)], [(55, 5, (-1), 5), (55, 7, 5, 5), (55, 11, 0, 3), (57, 0, 0, 8)], [], [(some (0, 0), [], [(55, 5, (-1), 5), (55, 7, 5, 5)])])
set_option maxRecDepth 16384 in
def lbk_369 : List aLab := []
set_option maxRecDepth 16384 in
theorem msk_369 {Ext : gI → Prop} (hX : pSt Ext) : MSok bT Ext MT smk_369 := achk_ok (nm := 297) (sm := [smk_140]) (labs := lbk_369) (sp := []) (fuel := 16) (rE := [(1000000, (2, 0))]) (maxL := 1) (M := mX5_takesDo) mt_X5_takesDo rfl os_X5_takesDo MT_len ((mA.cons (msk_140 hX) mA.nil)) (pE hX (by decide +kernel)) (by decide +kernel)
set_option maxRecDepth 16384 in
def smk_370 : aM := (71, 2, [(1, 55, 0)], [(55, 5, (-1), 5), (55, 7, 5, 5), (55, 11, 0, 3), (57, 0, 0, 8)], [], [(some (0, 0), [], [(55, 5, (-1), 5), (55, 7, 5, 5)])])
set_option maxRecDepth 16384 in
def lbk_370 : List aLab := []
set_option maxRecDepth 16384 in
theorem msk_370 {Ext : gI → Prop} (hX : pSt Ext) : MSok bT Ext MT smk_370 := achk_ok (nm := 297) (sm := [smk_369]) (labs := lbk_370) (sp := []) (fuel := 20) (rE := [(1000000, (2, 0))]) (maxL := 1) (M := mX5_takesJoin) mt_X5_takesJoin rfl os_X5_takesJoin MT_len ((mA.cons (msk_369 hX) mA.nil)) (pE hX (by decide +kernel)) (by decide +kernel)
set_option maxRecDepth 16384 in
def smk_371 : aM := (76, 3, [(1, 55, 0)], [(55, 5, (-1), 5), (55, 7, 5, 5), (55, 11, 0, 3), (57, 0, 0, 8)], [], [(some (0, 0), [], [(55, 5, (-1), 5), (55, 7, 5, 5)])])
set_option maxRecDepth 16384 in
def lbk_371 : List aLab := []
set_option maxRecDepth 16384 in
theorem msk_371 {Ext : gI → Prop} (hX : pSt Ext) : MSok bT Ext MT smk_371 := achk_ok (nm := 297) (sm := [smk_370]) (labs := lbk_371) (sp := []) (fuel := 11) (rE := [(1000000, (2, 0))]) (maxL := 1) (M := mX5_takes) mt_X5_takes rfl os_X5_takes MT_len ((mA.cons (msk_370 hX) mA.nil)) (pE hX (by decide +kernel)) (by decide +kernel)
set_option maxRecDepth 16384 in
def smk_372 : aM := (37, 0, [(0, 9, 14), (0, 6, 6), (0, 8, 8)], [], [], [(some (0, 0), [], [])])
set_option maxRecDepth 16384 in
def lbk_372 : List aLab := []
set_option maxRecDepth 16384 in
theorem msk_372 {Ext : gI → Prop} (hX : pSt Ext) : MSok bT Ext MT smk_372 := achk_ok (nm := 297) (sm := []) (labs := lbk_372) (sp := []) (fuel := 13) (rE := [(1000000, (2, 0))]) (maxL := 3) (M := mX11_isIn) mt_X11_isIn rfl os_X11_isIn MT_len ( mA.nil) (pE hX (by decide +kernel)) (by decide +kernel)
set_option maxRecDepth 16384 in
def smk_373 : aM := (65, 1, [(1, 55, 0)], [(55, 5, 9, 14), (55, 7, 5, 5), (55, 11, 0, 3), (57, 0, 0, 8)], [], [(some (0, 0), [], [(55, 5, 9, 14), (55, 7, 5, 5)])])
set_option maxRecDepth 16384 in
def lbk_373 : List aLab := []
set_option maxRecDepth 16384 in
theorem msk_373 {Ext : gI → Prop} (hX : pSt Ext) : MSok bT Ext MT smk_373 := achk_ok (nm := 297) (sm := [smk_372]) (labs := lbk_373) (sp := []) (fuel := 16) (rE := [(1000000, (2, 0))]) (maxL := 1) (M := mX5_takesDo) mt_X5_takesDo rfl os_X5_takesDo MT_len ((mA.cons (msk_372 hX) mA.nil)) (pE hX (by decide +kernel)) (by decide +kernel)
set_option maxRecDepth 16384 in
def smk_374 : aM := (71, 2, [(1, 55, 0)], [(55, 5, 9, 14), (55, 7, 5, 5), (55, 11, 0, 3), (57, 0, 0, 8)], [], [(some (0, 0), [], [(55, 5, 9, 14), (55, 7, 5, 5)])])
set_option maxRecDepth 16384 in
def lbk_374 : List aLab := []
set_option maxRecDepth 16384 in
theorem msk_374 {Ext : gI → Prop} (hX : pSt Ext) : MSok bT Ext MT smk_374 := achk_ok (nm := 297) (sm := [smk_373]) (labs := lbk_374) (sp := []) (fuel := 20) (rE := [(1000000, (2, 0))]) (maxL := 1) (M := mX5_takesJoin) mt_X5_takesJoin rfl os_X5_takesJoin MT_len ((mA.cons (msk_373 hX) mA.nil)) (pE hX (by decide +kernel)) (by decide +kernel)
set_option maxRecDepth 16384 in
def smk_375 : aM := (76, 3, [(1, 55, 0)], [(55, 5, 9, 14), (55, 7, 5, 5), (55, 11, 0, 3), (57, 0, 0, 8)], [], [(some (0, 0), [], [(55, 5, 9, 14), (55, 7, 5, 5)])])
set_option maxRecDepth 16384 in
def lbk_375 : List aLab := []
set_option maxRecDepth 16384 in
theorem msk_375 {Ext : gI → Prop} (hX : pSt Ext) : MSok bT Ext MT smk_375 := achk_ok (nm := 297) (sm := [smk_374]) (labs := lbk_375) (sp := []) (fuel := 11) (rE := [(1000000, (2, 0))]) (maxL := 1) (M := mX5_takes) mt_X5_takes rfl os_X5_takes MT_len ((mA.cons (msk_374 hX) mA.nil)) (pE hX (by decide +kernel)) (by decide +kernel)
set_option maxRecDepth 16384 in
def smk_376 : aM := (37, 0, [(0, 17, 40), (0, 6, 6), (0, 8, 8)], [], [], [(some (0, 0), [], [])])
set_option maxRecDepth 16384 in
def lbk_376 : List aLab := []
set_option maxRecDepth 16384 in
theorem msk_376 {Ext : gI → Prop} (hX : pSt Ext) : MSok bT Ext MT smk_376 := achk_ok (nm := 297) (sm := []) (labs := lbk_376) (sp := []) (fuel := 13) (rE := [(1000000, (2, 0))]) (maxL := 3) (M := mX11_isIn) mt_X11_isIn rfl os_X11_isIn MT_len ( mA.nil) (pE hX (by decide +kernel)) (by decide +kernel)
set_option maxRecDepth 16384 in
def smk_377 : aM := (65, 1, [(1, 55, 0)], [(55, 5, 17, 40), (55, 7, 5, 5), (55, 11, 0, 3), (57, 0, 0, 8)], [], [(some (0, 0), [], [(55, 5, 17, 40), (55, 7, 5, 5)])])
set_option maxRecDepth 16384 in
def lbk_377 : List aLab := []
set_option maxRecDepth 16384 in
theorem msk_377 {Ext : gI → Prop} (hX : pSt Ext) : MSok bT Ext MT smk_377 := achk_ok (nm := 297) (sm := [smk_376]) (labs := lbk_377) (sp := []) (fuel := 16) (rE := [(1000000, (2, 0))]) (maxL := 1) (M := mX5_takesDo) mt_X5_takesDo rfl os_X5_takesDo MT_len ((mA.cons (msk_376 hX) mA.nil)) (pE hX (by decide +kernel)) (by decide +kernel)
set_option maxRecDepth 16384 in
def smk_378 : aM := (71, 2, [(1, 55, 0)], [(55, 5, 17, 40), (55, 7, 5, 5), (55, 11, 0, 3), (57, 0, 0, 8)], [], [(some (0, 0), [], [(55, 5, 17, 40), (55, 7, 5, 5)])])
set_option maxRecDepth 16384 in
def lbk_378 : List aLab := []
set_option maxRecDepth 16384 in
theorem msk_378 {Ext : gI → Prop} (hX : pSt Ext) : MSok bT Ext MT smk_378 := achk_ok (nm := 297) (sm := [smk_377]) (labs := lbk_378) (sp := []) (fuel := 20) (rE := [(1000000, (2, 0))]) (maxL := 1) (M := mX5_takesJoin) mt_X5_takesJoin rfl os_X5_takesJoin MT_len ((mA.cons (msk_377 hX) mA.nil)) (pE hX (by decide +kernel)) (by decide +kernel)
set_option maxRecDepth 16384 in
def smk_379 : aM := (76, 3, [(1, 55, 0)], [(55, 5, 17, 40), (55, 7, 5, 5), (55, 11, 0, 3), (57, 0, 0, 8)], [], [(some (0, 0), [], [(55, 5, 17, 40), (55, 7, 5, 5)])])
set_option maxRecDepth 16384 in
def lbk_379 : List aLab := []
set_option maxRecDepth 16384 in
theorem msk_379 {Ext : gI → Prop} (hX : pSt Ext) : MSok bT Ext MT smk_379 := achk_ok (nm := 297) (sm := [smk_378]) (labs := lbk_379) (sp := []) (fuel := 11) (rE := [(1000000, (2, 0))]) (maxL := 1) (M := mX5_takes) mt_X5_takes rfl os_X5_takes MT_len ((mA.cons (msk_378 hX) mA.nil)) (pE hX (by decide +kernel)) (by decide +kernel)
set_option maxRecDepth 16384 in
def smk_380 : aM := (37, 0, [(0, 42, 62), (0, 6, 6), (0, 8, 8)], [], [], [(some (0, 0), [], [])])
set_option maxRecDepth 16384 in
def lbk_380 : List aLab := []
set_option maxRecDepth 16384 in
theorem msk_380 {Ext : gI → Prop} (hX : pSt Ext) : MSok bT Ext MT smk_380 := achk_ok (nm := 297) (sm := []) (labs := lbk_380) (sp := []) (fuel := 13) (rE := [(1000000, (2, 0))]) (maxL := 3) (M := mX11_isIn) mt_X11_isIn rfl os_X11_isIn MT_len ( mA.nil) (pE hX (by decide +kernel)) (by decide +kernel)
set_option maxRecDepth 16384 in
def smk_381 : aM := (65, 1, [(1, 55, 0)], [(55, 5, 42, 62), (55, 7, 5, 5), (55, 11, 0, 3), (57, 0, 0, 8)], [], [(some (0, 0), [], [(55, 5, 42, 62), (55, 7, 5, 5)])])
set_option maxRecDepth 16384 in
def lbk_381 : List aLab := []
set_option maxRecDepth 16384 in
theorem msk_381 {Ext : gI → Prop} (hX : pSt Ext) : MSok bT Ext MT smk_381 := achk_ok (nm := 297) (sm := [smk_380]) (labs := lbk_381) (sp := []) (fuel := 16) (rE := [(1000000, (2, 0))]) (maxL := 1) (M := mX5_takesDo) mt_X5_takesDo rfl os_X5_takesDo MT_len ((mA.cons (msk_380 hX) mA.nil)) (pE hX (by decide +kernel)) (by decide +kernel)
set_option maxRecDepth 16384 in
def smk_382 : aM := (71, 2, [(1, 55, 0)], [(55, 5, 42, 62), (55, 7, 5, 5), (55, 11, 0, 3), (57, 0, 0, 8)], [], [(some (0, 0), [], [(55, 5, 42, 62), (55, 7, 5, 5)])])
set_option maxRecDepth 16384 in
def lbk_382 : List aLab := []
set_option maxRecDepth 16384 in
theorem msk_382 {Ext : gI → Prop} (hX : pSt Ext) : MSok bT Ext MT smk_382 := achk_ok (nm := 297) (sm := [smk_381]) (labs := lbk_382) (sp := []) (fuel := 20) (rE := [(1000000, (2, 0))]) (maxL := 1) (M := mX5_takesJoin) mt_X5_takesJoin rfl os_X5_takesJoin MT_len ((mA.cons (msk_381 hX) mA.nil)) (pE hX (by decide +kernel)) (by decide +kernel)
set_option maxRecDepth 16384 in
def smk_383 : aM := (76, 3, [(1, 55, 0)], [(55, 5, 42, 62), (55, 7, 5, 5), (55, 11, 0, 3), (57, 0, 0, 8)], [], [(some (0, 0), [], [(55, 5, 42, 62), (55, 7, 5, 5)])])
set_option maxRecDepth 16384 in
def lbk_383 : List aLab := []
set_option maxRecDepth 16384 in
theorem msk_383 {Ext : gI → Prop} (hX : pSt Ext) : MSok bT Ext MT smk_383 := achk_ok (nm := 297) (sm := [smk_382]) (labs := lbk_383) (sp := []) (fuel := 11) (rE := [(1000000, (2, 0))]) (maxL := 1) (M := mX5_takes) mt_X5_takes rfl os_X5_takes MT_len ((mA.cons (msk_382 hX) mA.nil)) (pE hX (by decide +kernel)) (by decide +kernel)
set_option maxRecDepth 16384 in
def smk_384 : aM := (72, 0, [(1, 55, 0)], [(55, 5, 59, 59), (55, 7, 6, 6), (55, 11, 0, 3), (57, 0, 0, 8)], [(55, 7, 7)], [(some (1, 1), [], [(55, 5, 59, 59), (55, 7, 0, 0)])])
set_option maxRecDepth 16384 in
def lbk_384 : List aLab := []
set_option maxRecDepth 16384 in
theorem msk_384 {Ext : gI → Prop} (hX : pSt Ext) : MSok bT Ext MT smk_384 := achk_ok (nm := 297) (sm := []) (labs := lbk_384) (sp := []) (fuel := 14) (rE := [(1000000, (2, 0))]) (maxL := 1) (M := mX5_takesRuleEnd) mt_X5_takesRuleEnd rfl os_X5_takesRuleEnd MT_len ( mA.nil) (pE hX (by decide +kernel)) (by decide +kernel)
set_option maxRecDepth 16384 in
def smk_385 : aM := (76, 1, [(1, 55, 0)], [(55, 5, 59, 59), (55, 7, 6, 6), (55, 11, 0, 3), (57, 0, 0, 8)], [(55, 7, 7)], [(some (1, 1), [], [(55, 5, 59, 59), (55, 7, 0, 0)])])
set_option maxRecDepth 16384 in
def lbk_385 : List aLab := []
set_option maxRecDepth 16384 in
theorem msk_385 {Ext : gI → Prop} (hX : pSt Ext) : MSok bT Ext MT smk_385 := achk_ok (nm := 297) (sm := [smk_384]) (labs := lbk_385) (sp := []) (fuel := 11) (rE := [(1000000, (2, 0))]) (maxL := 1) (M := mX5_takes) mt_X5_takes rfl os_X5_takes MT_len ((mA.cons (msk_384 hX) mA.nil)) (pE hX (by decide +kernel)) (by decide +kernel)
set_option maxRecDepth 16384 in
def smk_386 : aM := (72, 0, [(1, 55, 0)], [(55, 5, (-1), 58), (55, 7, 6, 6), (55, 11, 0, 3), (57, 0, 0, 8)], [], [(some (0, 0), [], [(55, 5, (-1), 58), (55, 7, 6, 6)])])
set_option maxRecDepth 16384 in
def lbk_386 : List aLab := []
set_option maxRecDepth 16384 in
theorem msk_386 {Ext : gI → Prop} (hX : pSt Ext) : MSok bT Ext MT smk_386 := achk_ok (nm := 297) (sm := []) (labs := lbk_386) (sp := []) (fuel := 11) (rE := [(1000000, (2, 0))]) (maxL := 1) (M := mX5_takesRuleEnd) mt_X5_takesRuleEnd rfl os_X5_takesRuleEnd MT_len ( mA.nil) (pE hX (by decide +kernel)) (by decide +kernel)
set_option maxRecDepth 16384 in
def smk_387 : aM := (76, 1, [(1, 55, 0)], [(55, 5, (-1), 58), (55, 7, 6, 6), (55, 11, 0, 3), (57, 0, 0, 8)], [], [(some (0, 0), [], [(55, 5, (-1), 58), (55, 7, 6, 6)])])
set_option maxRecDepth 16384 in
def lbk_387 : List aLab := []
set_option maxRecDepth 16384 in
theorem msk_387 {Ext : gI → Prop} (hX : pSt Ext) : MSok bT Ext MT smk_387 := achk_ok (nm := 297) (sm := [smk_386]) (labs := lbk_387) (sp := []) (fuel := 11) (rE := [(1000000, (2, 0))]) (maxL := 1) (M := mX5_takes) mt_X5_takes rfl os_X5_takes MT_len ((mA.cons (msk_386 hX) mA.nil)) (pE hX (by decide +kernel)) (by decide +kernel)
set_option maxRecDepth 16384 in
def smk_388 : aM := (72, 0, [(1, 55, 0)], [(55, 5, 60, 62), (55, 7, 6, 6), (55, 11, 0, 3), (57, 0, 0, 8)], [], [(some (0, 0), [], [(55, 5, 60, 62), (55, 7, 6, 6)])])
set_option maxRecDepth 16384 in
def lbk_388 : List aLab := []
set_option maxRecDepth 16384 in
theorem msk_388 {Ext : gI → Prop} (hX : pSt Ext) : MSok bT Ext MT smk_388 := achk_ok (nm := 297) (sm := []) (labs := lbk_388) (sp := []) (fuel := 11) (rE := [(1000000, (2, 0))]) (maxL := 1) (M := mX5_takesRuleEnd) mt_X5_takesRuleEnd rfl os_X5_takesRuleEnd MT_len ( mA.nil) (pE hX (by decide +kernel)) (by decide +kernel)
set_option maxRecDepth 16384 in
def smk_389 : aM := (76, 1, [(1, 55, 0)], [(55, 5, 60, 62), (55, 7, 6, 6), (55, 11, 0, 3), (57, 0, 0, 8)], [], [(some (0, 0), [], [(55, 5, 60, 62), (55, 7, 6, 6)])])
set_option maxRecDepth 16384 in
def lbk_389 : List aLab := []
set_option maxRecDepth 16384 in
theorem msk_389 {Ext : gI → Prop} (hX : pSt Ext) : MSok bT Ext MT smk_389 := achk_ok (nm := 297) (sm := [smk_388]) (labs := lbk_389) (sp := []) (fuel := 11) (rE := [(1000000, (2, 0))]) (maxL := 1) (M := mX5_takes) mt_X5_takes rfl os_X5_takes MT_len ((mA.cons (msk_388 hX) mA.nil)) (pE hX (by decide +kernel)) (by decide +kernel)
set_option maxRecDepth 16384 in
def smk_390 : aM := (74, 0, [(1, 57, 0)], [], [(57, 0, 1)], [(none, [], [(57, 0, 0, 0)])])
set_option maxRecDepth 16384 in
def lbk_390 : List aLab := []
set_option maxRecDepth 16384 in
theorem msk_390 {Ext : gI → Prop} (hX : pSt Ext) : MSok bT Ext MT smk_390 := achk_ok (nm := 297) (sm := []) (labs := lbk_390) (sp := []) (fuel := 12) (rE := [(1000000, (2, 0))]) (maxL := 1) (M := mX6_clear) mt_X6_clear rfl os_X6_clear MT_len ( mA.nil) (pE hX (by decide +kernel)) (by decide +kernel)
set_option maxRecDepth 16384 in
def smk_391 : aM := (73, 1, [(1, 55, 0)], [], [(55, 3, 3), (55, 7, 7), (57, 0, 1), (62, 0, 3), (63, 0, 3), (64, 0, 3)], [(none, [], [(55, 3, 0, 0), (55, 7, 0, 0), (57, 0, 0, 0)])])
set_option maxRecDepth 16384 in
def lbk_391 : List aLab := [(19, [some (1, 55), some (0, 0)], [], [(0, 4, none)], [(55, 3, (2, 0)), (55, 7, (2, 0)), (57, 0, (2, 0))], [(99981, (2, 0)), (4, (0, 0)), (99981, (2, 0))])]
set_option maxRecDepth 16384 in
theorem msk_391 {Ext : gI → Prop} (hX : pSt Ext) : MSok bT Ext MT smk_391 := achk_ok (nm := 297) (sm := [smk_390]) (labs := lbk_391) (sp := []) (fuel := 26) (rE := [(1000000, (2, 0)), (0, (2, 0)), (0, (2, 0))]) (maxL := 2) (M := mX5_begin) mt_X5_begin rfl os_X5_begin MT_len ((mA.cons (msk_390 hX) mA.nil)) (pE hX (by decide +kernel)) (by decide +kernel)
set_option maxRecDepth 16384 in
def smk_392 : aM := (0, 1, [(1, 27, 0), (1, 57, 0)], [(57, 0, 0, 0)], [(27, 0, 1), (28, 0, 7), (29, 0, 7), (30, 0, 7), (31, 0, 199)], [(none, [], [(27, 0, 0, 0), (57, 0, 0, 0)])])
set_option maxRecDepth 16384 in
def lbk_392 : List aLab := []
set_option maxRecDepth 16384 in
theorem msk_392 {Ext : gI → Prop} (hX : pSt Ext) : MSok bT Ext MT smk_392 := achk_ok (nm := 297) (sm := []) (labs := lbk_392) (sp := []) (fuel := 47) (rE := [(1000000, (2, 0))]) (maxL := 2) (M := mX6_copyFrom) mt_X6_copyFrom rfl os_X6_copyFrom MT_len ( mA.nil) (pE hX (by decide +kernel)) (by decide +kernel)
set_option maxRecDepth 16384 in
def smk_393 : aM := (0, 1, [(1, 27, 0), (1, 57, 0)], [(57, 0, 1, 1)], [(27, 0, 1), (28, 0, 7), (29, 0, 7), (30, 0, 7), (31, 0, 199)], [(none, [], [(27, 0, 1, 1), (57, 0, 1, 1)])])
set_option maxRecDepth 16384 in
def lbk_393 : List aLab := []
set_option maxRecDepth 16384 in
theorem msk_393 {Ext : gI → Prop} (hX : pSt Ext) : MSok bT Ext MT smk_393 := achk_ok (nm := 297) (sm := []) (labs := lbk_393) (sp := []) (fuel := 47) (rE := [(1000000, (2, 0))]) (maxL := 2) (M := mX6_copyFrom) mt_X6_copyFrom rfl os_X6_copyFrom MT_len ( mA.nil) (pE hX (by decide +kernel)) (by decide +kernel)
set_option maxRecDepth 16384 in
def smk_394 : aM := (0, 1, [(1, 27, 0), (1, 57, 0)], [(57, 0, 2, 2)], [(27, 0, 1), (28, 0, 7), (29, 0, 7), (30, 0, 7), (31, 0, 199)], [(none, [], [(27, 0, 2, 2), (57, 0, 2, 2)])])
set_option maxRecDepth 16384 in
def lbk_394 : List aLab := []
set_option maxRecDepth 16384 in
theorem msk_394 {Ext : gI → Prop} (hX : pSt Ext) : MSok bT Ext MT smk_394 := achk_ok (nm := 297) (sm := []) (labs := lbk_394) (sp := []) (fuel := 47) (rE := [(1000000, (2, 0))]) (maxL := 2) (M := mX6_copyFrom) mt_X6_copyFrom rfl os_X6_copyFrom MT_len ( mA.nil) (pE hX (by decide +kernel)) (by decide +kernel)
set_option maxRecDepth 16384 in
def smk_395 : aM := (0, 1, [(1, 27, 0), (1, 57, 0)], [(57, 0, 3, 3)], [(27, 0, 1), (28, 0, 7), (29, 0, 7), (30, 0, 7), (31, 0, 199)], [(none, [], [(27, 0, 3, 3), (57, 0, 3, 3)])])
set_option maxRecDepth 16384 in
def lbk_395 : List aLab := []
set_option maxRecDepth 16384 in
theorem msk_395 {Ext : gI → Prop} (hX : pSt Ext) : MSok bT Ext MT smk_395 := achk_ok (nm := 297) (sm := []) (labs := lbk_395) (sp := []) (fuel := 47) (rE := [(1000000, (2, 0))]) (maxL := 2) (M := mX6_copyFrom) mt_X6_copyFrom rfl os_X6_copyFrom MT_len ( mA.nil) (pE hX (by decide +kernel)) (by decide +kernel)
set_option maxRecDepth 16384 in
def smk_396 : aM := (0, 1, [(1, 27, 0), (1, 57, 0)], [(57, 0, 4, 4)], [(27, 0, 1), (28, 0, 7), (29, 0, 7), (30, 0, 7), (31, 0, 199)], [(none, [], [(27, 0, 4, 4), (57, 0, 4, 4)])])
set_option maxRecDepth 16384 in
def lbk_396 : List aLab := []
set_option maxRecDepth 16384 in
theorem msk_396 {Ext : gI → Prop} (hX : pSt Ext) : MSok bT Ext MT smk_396 := achk_ok (nm := 297) (sm := []) (labs := lbk_396) (sp := []) (fuel := 47) (rE := [(1000000, (2, 0))]) (maxL := 2) (M := mX6_copyFrom) mt_X6_copyFrom rfl os_X6_copyFrom MT_len ( mA.nil) (pE hX (by decide +kernel)) (by decide +kernel)
set_option maxRecDepth 16384 in
def smk_397 : aM := (0, 1, [(1, 27, 0), (1, 57, 0)], [(57, 0, 5, 5)], [(27, 0, 1), (28, 0, 7), (29, 0, 7), (30, 0, 7), (31, 0, 199)], [(none, [], [(27, 0, 5, 5), (57, 0, 5, 5)])])
set_option maxRecDepth 16384 in
def lbk_397 : List aLab := []
set_option maxRecDepth 16384 in
theorem msk_397 {Ext : gI → Prop} (hX : pSt Ext) : MSok bT Ext MT smk_397 := achk_ok (nm := 297) (sm := []) (labs := lbk_397) (sp := []) (fuel := 47) (rE := [(1000000, (2, 0))]) (maxL := 2) (M := mX6_copyFrom) mt_X6_copyFrom rfl os_X6_copyFrom MT_len ( mA.nil) (pE hX (by decide +kernel)) (by decide +kernel)
set_option maxRecDepth 16384 in
def smk_398 : aM := (0, 1, [(1, 27, 0), (1, 57, 0)], [(57, 0, 6, 6)], [(27, 0, 1), (28, 0, 7), (29, 0, 7), (30, 0, 7), (31, 0, 199)], [(none, [], [(27, 0, 6, 6), (57, 0, 6, 6)])])
set_option maxRecDepth 16384 in
def lbk_398 : List aLab := []
set_option maxRecDepth 16384 in
theorem msk_398 {Ext : gI → Prop} (hX : pSt Ext) : MSok bT Ext MT smk_398 := achk_ok (nm := 297) (sm := []) (labs := lbk_398) (sp := []) (fuel := 47) (rE := [(1000000, (2, 0))]) (maxL := 2) (M := mX6_copyFrom) mt_X6_copyFrom rfl os_X6_copyFrom MT_len ( mA.nil) (pE hX (by decide +kernel)) (by decide +kernel)
set_option maxRecDepth 16384 in
def smk_399 : aM := (0, 1, [(1, 27, 0), (1, 57, 0)], [(57, 0, 7, 7)], [(27, 0, 1), (28, 0, 7), (29, 0, 7), (30, 0, 7), (31, 0, 199)], [(none, [], [(27, 0, 7, 7), (57, 0, 7, 7)])])
set_option maxRecDepth 16384 in
def lbk_399 : List aLab := []
set_option maxRecDepth 16384 in
theorem msk_399 {Ext : gI → Prop} (hX : pSt Ext) : MSok bT Ext MT smk_399 := achk_ok (nm := 297) (sm := []) (labs := lbk_399) (sp := []) (fuel := 47) (rE := [(1000000, (2, 0))]) (maxL := 2) (M := mX6_copyFrom) mt_X6_copyFrom rfl os_X6_copyFrom MT_len ( mA.nil) (pE hX (by decide +kernel)) (by decide +kernel)
set_option maxRecDepth 16384 in
def smk_400 : aM := (0, 1, [(1, 27, 0), (1, 57, 0)], [(57, 0, 8, 8)], [(27, 0, 1), (28, 0, 7), (29, 0, 7), (30, 0, 7), (31, 0, 199)], [(none, [], [(27, 0, 8, 8), (57, 0, 8, 8)])])
set_option maxRecDepth 16384 in
def lbk_400 : List aLab := []
set_option maxRecDepth 16384 in
theorem msk_400 {Ext : gI → Prop} (hX : pSt Ext) : MSok bT Ext MT smk_400 := achk_ok (nm := 297) (sm := []) (labs := lbk_400) (sp := []) (fuel := 47) (rE := [(1000000, (2, 0))]) (maxL := 2) (M := mX6_copyFrom) mt_X6_copyFrom rfl os_X6_copyFrom MT_len ( mA.nil) (pE hX (by decide +kernel)) (by decide +kernel)
set_option maxRecDepth 16384 in
/-- lists by state -/
def TK0 : List aM := [smk_2, smk_5, smk_8, smk_11, smk_14, smk_17, smk_20, smk_23, smk_25]
set_option maxRecDepth 16384 in
theorem TK0_ok : mA (fun _ => True) TK0 := mA.cons (msk_2 tr_st) (mA.cons (msk_5 tr_st) (mA.cons (msk_8 tr_st) (mA.cons (msk_11 tr_st) (mA.cons (msk_14 tr_st) (mA.cons (msk_17 tr_st) (mA.cons (msk_20 tr_st) (mA.cons (msk_23 tr_st) (mA.cons (msk_25 tr_st) (mA.nil)))))))))
set_option maxRecDepth 16384 in
def TK1 : List aM := [smk_27, smk_34, smk_39, smk_44, smk_49, smk_54, smk_59, smk_64, smk_69, smk_74, smk_78, smk_82, smk_86, smk_90, smk_94, smk_98, smk_102, smk_107, smk_111, smk_115, smk_119, smk_123, smk_127, smk_131, smk_135, smk_138, smk_142, smk_146, smk_150]
set_option maxRecDepth 16384 in
theorem TK1_ok : mA (fun _ => True) TK1 := mA.cons (msk_27 tr_st) (mA.cons (msk_34 tr_st) (mA.cons (msk_39 tr_st) (mA.cons (msk_44 tr_st) (mA.cons (msk_49 tr_st) (mA.cons (msk_54 tr_st) (mA.cons (msk_59 tr_st) (mA.cons (msk_64 tr_st) (mA.cons (msk_69 tr_st) (mA.cons (msk_74 tr_st) (mA.cons (msk_78 tr_st) (mA.cons (msk_82 tr_st) (mA.cons (msk_86 tr_st) (mA.cons (msk_90 tr_st) (mA.cons (msk_94 tr_st) (mA.cons (msk_98 tr_st) (mA.cons (msk_102 tr_st) (mA.cons (msk_107 tr_st) (mA.cons (msk_111 tr_st) (mA.cons (msk_115 tr_st) (mA.cons (msk_119 tr_st) (mA.cons (msk_123 tr_st) (mA.cons (msk_127 tr_st) (mA.cons (msk_131 tr_st) (mA.cons (msk_135 tr_st) (mA.cons (msk_138 tr_st) (mA.cons (msk_142 tr_st) (mA.cons (msk_146 tr_st) (mA.cons (msk_150 tr_st) (mA.nil)))))))))))))))))))))))))))))
set_option maxRecDepth 16384 in
def TK2 : List aM := [smk_152, smk_154, smk_156, smk_158, smk_162, smk_167, smk_172, smk_177, smk_182, smk_187, smk_191, smk_195, smk_199, smk_203]
set_option maxRecDepth 16384 in
theorem TK2_ok : mA (fun _ => True) TK2 := mA.cons (msk_152 tr_st) (mA.cons (msk_154 tr_st) (mA.cons (msk_156 tr_st) (mA.cons (msk_158 tr_st) (mA.cons (msk_162 tr_st) (mA.cons (msk_167 tr_st) (mA.cons (msk_172 tr_st) (mA.cons (msk_177 tr_st) (mA.cons (msk_182 tr_st) (mA.cons (msk_187 tr_st) (mA.cons (msk_191 tr_st) (mA.cons (msk_195 tr_st) (mA.cons (msk_199 tr_st) (mA.cons (msk_203 tr_st) (mA.nil))))))))))))))
set_option maxRecDepth 16384 in
def TK3 : List aM := [smk_205, smk_207]
set_option maxRecDepth 16384 in
theorem TK3_ok : mA (fun _ => True) TK3 := mA.cons (msk_205 tr_st) (mA.cons (msk_207 tr_st) (mA.nil))
set_option maxRecDepth 16384 in
def TK4 : List aM := [smk_212, smk_217, smk_222, smk_227, smk_232, smk_237, smk_240, smk_244, smk_248]
set_option maxRecDepth 16384 in
theorem TK4_ok : mA (fun _ => True) TK4 := mA.cons (msk_212 tr_st) (mA.cons (msk_217 tr_st) (mA.cons (msk_222 tr_st) (mA.cons (msk_227 tr_st) (mA.cons (msk_232 tr_st) (mA.cons (msk_237 tr_st) (mA.cons (msk_240 tr_st) (mA.cons (msk_244 tr_st) (mA.cons (msk_248 tr_st) (mA.nil)))))))))
set_option maxRecDepth 16384 in
def TK5 : List aM := [smk_250, smk_253, smk_257, smk_261, smk_265, smk_269, smk_273, smk_277, smk_281, smk_285, smk_289, smk_293, smk_297, smk_301, smk_305, smk_309, smk_313, smk_317, smk_321, smk_325, smk_329, smk_333, smk_337, smk_341, smk_345, smk_349, smk_353, smk_357, smk_361, smk_365, smk_368, smk_371, smk_375, smk_379, smk_383]
set_option maxRecDepth 16384 in
theorem TK5_ok : mA (fun _ => True) TK5 := mA.cons (msk_250 tr_st) (mA.cons (msk_253 tr_st) (mA.cons (msk_257 tr_st) (mA.cons (msk_261 tr_st) (mA.cons (msk_265 tr_st) (mA.cons (msk_269 tr_st) (mA.cons (msk_273 tr_st) (mA.cons (msk_277 tr_st) (mA.cons (msk_281 tr_st) (mA.cons (msk_285 tr_st) (mA.cons (msk_289 tr_st) (mA.cons (msk_293 tr_st) (mA.cons (msk_297 tr_st) (mA.cons (msk_301 tr_st) (mA.cons (msk_305 tr_st) (mA.cons (msk_309 tr_st) (mA.cons (msk_313 tr_st) (mA.cons (msk_317 tr_st) (mA.cons (msk_321 tr_st) (mA.cons (msk_325 tr_st) (mA.cons (msk_329 tr_st) (mA.cons (msk_333 tr_st) (mA.cons (msk_337 tr_st) (mA.cons (msk_341 tr_st) (mA.cons (msk_345 tr_st) (mA.cons (msk_349 tr_st) (mA.cons (msk_353 tr_st) (mA.cons (msk_357 tr_st) (mA.cons (msk_361 tr_st) (mA.cons (msk_365 tr_st) (mA.cons (msk_368 tr_st) (mA.cons (msk_371 tr_st) (mA.cons (msk_375 tr_st) (mA.cons (msk_379 tr_st) (mA.cons (msk_383 tr_st) (mA.nil)))))))))))))))))))))))))))))))))))
set_option maxRecDepth 16384 in
def TK6 : List aM := [smk_385, smk_387, smk_389]
set_option maxRecDepth 16384 in
theorem TK6_ok : mA (fun _ => True) TK6 := mA.cons (msk_385 tr_st) (mA.cons (msk_387 tr_st) (mA.cons (msk_389 tr_st) (mA.nil)))
set_option maxRecDepth 16384 in
def TKS (st : Nat) : List aM := match st with
  | 0 => TK0
  | 1 => TK1
  | 2 => TK2
  | 3 => TK3
  | 4 => TK4
  | 5 => TK5
  | _ => TK6
set_option maxRecDepth 16384 in
theorem TKS_ok {st : Nat} : mA (fun _ => True) (TKS st) := by
  match st with
  | 0 => exact TK0_ok
  | 1 => exact TK1_ok
  | 2 => exact TK2_ok
  | 3 => exact TK3_ok
  | 4 => exact TK4_ok
  | 5 => exact TK5_ok
  | _ + 6 => exact TK6_ok
set_option maxRecDepth 16384 in
def sm_bg : aM := smk_391
set_option maxRecDepth 16384 in
theorem ms_bg : MSok bT (fun _ => True) MT sm_bg := msk_391 tr_st
set_option maxRecDepth 16384 in
def TKC : List aM := [smk_392, smk_393, smk_394, smk_395, smk_396, smk_397, smk_398, smk_399, smk_400]
set_option maxRecDepth 16384 in
theorem TKC_ok : mA (fun _ => True) TKC := mA.cons (msk_392 tr_st) (mA.cons (msk_393 tr_st) (mA.cons (msk_394 tr_st) (mA.cons (msk_395 tr_st) (mA.cons (msk_396 tr_st) (mA.cons (msk_397 tr_st) (mA.cons (msk_398 tr_st) (mA.cons (msk_399 tr_st) (mA.cons (msk_400 tr_st) (mA.nil)))))))))
