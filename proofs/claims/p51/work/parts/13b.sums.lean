def sm_0 : aM := (37, 0, [(0, (-2147483648), 2147483647), (0, 1, 1), (0, 5, 5)], [], [], [(some (1, 1), [(0, 1, 5)], []), (some (0, 0), [], [])])
def lb_0 : List aLab := []
theorem ms_0 {Ext : gI → Prop} (hX : pSt Ext) : MSok bT Ext MT sm_0 := achk_ok (nm := 297) (sm := []) (labs := lb_0) (sp := []) (fuel := 14) (rE := [(1000000, (2, 0))]) (maxL := 3) (M := mX11_isIn) mt_X11_isIn rfl os_X11_isIn MT_len ( mA.nil) (pE hX (by decide +kernel)) (by decide +kernel)
def sm_1 : aM := (184, 1, [(0, (-2147483648), 2147483647)], [], [], [(some (0, 0), [], []), (some (1, 1), [(0, 1, 5)], [])])
def lb_1 : List aLab := []
theorem ms_1 {Ext : gI → Prop} (hX : pSt Ext) : MSok bT Ext MT sm_1 := achk_ok (nm := 297) (sm := [sm_0]) (labs := lb_1) (sp := []) (fuel := 10) (rE := [(1000000, (2, 0))]) (maxL := 1) (M := mX11_isKeyKind) mt_X11_isKeyKind rfl os_X11_isKeyKind MT_len ((mA.cons (ms_0 hX) mA.nil)) (pE hX (by decide +kernel)) (by decide +kernel)
def sm_2 : aM := (37, 0, [(0, (-2147483648), 2147483647), (0, 0, 0), (0, 99, 99)], [], [], [(some (1, 1), [(0, 0, 99)], []), (some (0, 0), [], [])])
def lb_2 : List aLab := []
theorem ms_2 {Ext : gI → Prop} (hX : pSt Ext) : MSok bT Ext MT sm_2 := achk_ok (nm := 297) (sm := []) (labs := lb_2) (sp := []) (fuel := 14) (rE := [(1000000, (2, 0))]) (maxL := 3) (M := mX11_isIn) mt_X11_isIn rfl os_X11_isIn MT_len ( mA.nil) (pE hX (by decide +kernel)) (by decide +kernel)
def sm_3 : aM := (37, 0, [(0, (-2147483648), 2147483647), (0, 0, 0), (0, 9, 9)], [], [], [(some (1, 1), [(0, 0, 9)], []), (some (0, 0), [], [])])
def lb_3 : List aLab := []
theorem ms_3 {Ext : gI → Prop} (hX : pSt Ext) : MSok bT Ext MT sm_3 := achk_ok (nm := 297) (sm := []) (labs := lb_3) (sp := []) (fuel := 14) (rE := [(1000000, (2, 0))]) (maxL := 3) (M := mX11_isIn) mt_X11_isIn rfl os_X11_isIn MT_len ( mA.nil) (pE hX (by decide +kernel)) (by decide +kernel)
def sm_4 : aM := (37, 0, [(0, (-2147483648), 2147483647), (0, 0, 0), (0, 5, 5)], [], [], [(some (1, 1), [(0, 0, 5)], []), (some (0, 0), [], [])])
def lb_4 : List aLab := []
theorem ms_4 {Ext : gI → Prop} (hX : pSt Ext) : MSok bT Ext MT sm_4 := achk_ok (nm := 297) (sm := []) (labs := lb_4) (sp := []) (fuel := 14) (rE := [(1000000, (2, 0))]) (maxL := 3) (M := mX11_isIn) mt_X11_isIn rfl os_X11_isIn MT_len ( mA.nil) (pE hX (by decide +kernel)) (by decide +kernel)
def sm_5 : aM := (185, 1, [(0, (-2147483648), 2147483647)], [], [], [(some (0, 0), [], []), (some (1, 1), [(0, 0, 5)], [])])
def lb_5 : List aLab := []
theorem ms_5 {Ext : gI → Prop} (hX : pSt Ext) : MSok bT Ext MT sm_5 := achk_ok (nm := 297) (sm := [sm_4]) (labs := lb_5) (sp := []) (fuel := 10) (rE := [(1000000, (2, 0))]) (maxL := 1) (M := mX11_isGate) mt_X11_isGate rfl os_X11_isGate MT_len ((mA.cons (ms_4 hX) mA.nil)) (pE hX (by decide +kernel)) (by decide +kernel)
def sm_6 : aM := (183, 2, [(1, 0, 0), (0, (-2147483648), 2147483647), (0, (-2147483648), 2147483647), (0, (-2147483648), 2147483647), (0, (-2147483648), 2147483647)], [], [(19, 8, 8), (23, 0, 5), (24, 0, 5), (25, 0, 5), (26, 0, 5)], [(some ((-2), 5), [], [])])
def lb_6 : List aLab := []
theorem ms_6 {Ext : gI → Prop} (hX : pSt Ext) : MSok bT Ext MT sm_6 := achk_ok (nm := 297) (sm := [sm_1, sm_2, sm_3, sm_5]) (labs := lb_6) (sp := []) (fuel := 62) (rE := [(1000000, (2, 0))]) (maxL := 6) (M := mX11_key) mt_X11_key rfl os_X11_key MT_len ((mA.cons (ms_1 hX) (mA.cons (ms_2 hX) (mA.cons (ms_3 hX) (mA.cons (ms_5 hX) mA.nil))))) (pE hX (by decide +kernel)) (by decide +kernel)
def sm_7 : aM := (26, 0, [(1, 19, 0), (0, (-2147483648), 2147483647)], [], [], [(some (1, 1), [(1, 0, 5)], [(19, 8, 1, 6)]), (some (0, 0), [], [])])
def lb_7 : List aLab := []
theorem ms_7 {Ext : gI → Prop} (hX : pSt Ext) : MSok bT Ext MT sm_7 := achk_ok (nm := 297) (sm := []) (labs := lb_7) (sp := []) (fuel := 14) (rE := [(1000000, (2, 0))]) (maxL := 2) (M := mX1_isKey) mt_X1_isKey rfl os_X1_isKey MT_len ( mA.nil) (pE hX (by decide +kernel)) (by decide +kernel)
def sm_8 : aM := (194, 2, [(1, 0, 0), (0, (-2147483648), 2147483647), (0, (-2147483648), 2147483647)], [], [(23, 0, 5)], [(some ((-1), 5), [], [])])
def lb_8 : List aLab := []
theorem ms_8 {Ext : gI → Prop} (hX : pSt Ext) : MSok bT Ext MT sm_8 := achk_ok (nm := 297) (sm := [sm_7, sm_1]) (labs := lb_8) (sp := []) (fuel := 27) (rE := [(1000000, (2, 0))]) (maxL := 4) (M := mX11_remake) mt_X11_remake rfl os_X11_remake MT_len ((mA.cons (ms_7 hX) (mA.cons (ms_1 hX) mA.nil))) (pE hX (by decide +kernel)) (by decide +kernel)
def sm_9 : aM := (37, 0, [(0, (-2147483648), 2147483647), (0, 0, 0), (0, 15, 15)], [], [], [(some (1, 1), [(0, 0, 15)], []), (some (0, 0), [], [])])
def lb_9 : List aLab := []
theorem ms_9 {Ext : gI → Prop} (hX : pSt Ext) : MSok bT Ext MT sm_9 := achk_ok (nm := 297) (sm := []) (labs := lb_9) (sp := []) (fuel := 14) (rE := [(1000000, (2, 0))]) (maxL := 3) (M := mX11_isIn) mt_X11_isIn rfl os_X11_isIn MT_len ( mA.nil) (pE hX (by decide +kernel)) (by decide +kernel)
def sm_10 : aM := (37, 0, [(0, (-2147483648), 2147483647), (0, 0, 0), (0, (-2147483648), 2147483647)], [], [], [(some (1, 1), [(0, 0, 2147483647), (2, 0, 2147483647)], []), (some (0, 0), [], [])])
def lb_10 : List aLab := []
theorem ms_10 {Ext : gI → Prop} (hX : pSt Ext) : MSok bT Ext MT sm_10 := achk_ok (nm := 297) (sm := []) (labs := lb_10) (sp := []) (fuel := 14) (rE := [(1000000, (2, 0))]) (maxL := 3) (M := mX11_isIn) mt_X11_isIn rfl os_X11_isIn MT_len ( mA.nil) (pE hX (by decide +kernel)) (by decide +kernel)
def sm_11 : aM := (78, 1, [(1, 20, 0), (0, (-2147483648), 2147483647), (0, (-2147483648), 2147483647), (0, (-2147483648), 2147483647)], [], [(20, 0, 15)], [(some ((-2147483648), 2147483647), [], [])])
def lb_11 : List aLab := []
theorem ms_11 {Ext : gI → Prop} (hX : pSt Ext) : MSok bT Ext MT sm_11 := achk_ok (nm := 297) (sm := [sm_9, sm_10]) (labs := lb_11) (sp := []) (fuel := 28) (rE := [(1000000, (2, 0))]) (maxL := 5) (M := mX11_put) mt_X11_put rfl os_X11_put MT_len ((mA.cons (ms_9 hX) (mA.cons (ms_10 hX) mA.nil))) (pE hX (by decide +kernel)) (by decide +kernel)
def sm_12 : aM := (196, 2, [(1, 0, 0), (0, (-2147483648), 2147483647), (0, (-2147483648), 2147483647)], [], [(20, 0, 15)], [(some ((-2147483648), 2147483647), [], [])])
def lb_12 : List aLab := []
theorem ms_12 {Ext : gI → Prop} (hX : pSt Ext) : MSok bT Ext MT sm_12 := achk_ok (nm := 297) (sm := [sm_11]) (labs := lb_12) (sp := []) (fuel := 13) (rE := [(1000000, (2, 0))]) (maxL := 3) (M := mX11_sun) mt_X11_sun rfl os_X11_sun MT_len ((mA.cons (ms_11 hX) mA.nil)) (pE hX (by decide +kernel)) (by decide +kernel)
def sm_13 : aM := (78, 1, [(1, 22, 0), (0, (-2147483648), 2147483647), (0, (-2147483648), 2147483647), (0, (-2147483648), 2147483647)], [], [(22, 0, 5)], [(some ((-2147483648), 2147483647), [], [])])
def lb_13 : List aLab := []
theorem ms_13 {Ext : gI → Prop} (hX : pSt Ext) : MSok bT Ext MT sm_13 := achk_ok (nm := 297) (sm := [sm_4, sm_10]) (labs := lb_13) (sp := []) (fuel := 28) (rE := [(1000000, (2, 0))]) (maxL := 5) (M := mX11_put) mt_X11_put rfl os_X11_put MT_len ((mA.cons (ms_4 hX) (mA.cons (ms_10 hX) mA.nil))) (pE hX (by decide +kernel)) (by decide +kernel)
def sm_14 : aM := (78, 1, [(1, 21, 0), (0, (-2147483648), 2147483647), (0, (-2147483648), 2147483647), (0, (-2147483648), 2147483647)], [], [(21, 0, 5)], [(some ((-2147483648), 2147483647), [], [])])
def lb_14 : List aLab := []
theorem ms_14 {Ext : gI → Prop} (hX : pSt Ext) : MSok bT Ext MT sm_14 := achk_ok (nm := 297) (sm := [sm_4, sm_10]) (labs := lb_14) (sp := []) (fuel := 28) (rE := [(1000000, (2, 0))]) (maxL := 5) (M := mX11_put) mt_X11_put rfl os_X11_put MT_len ((mA.cons (ms_4 hX) (mA.cons (ms_10 hX) mA.nil))) (pE hX (by decide +kernel)) (by decide +kernel)
def sm_15 : aM := (198, 2, [(1, 0, 0), (0, (-2147483648), 2147483647), (0, (-2147483648), 2147483647), (0, (-2147483648), 2147483647)], [], [(21, 0, 5), (22, 0, 5)], [(some ((-2147483648), 2147483647), [], [])])
def lb_15 : List aLab := []
theorem ms_15 {Ext : gI → Prop} (hX : pSt Ext) : MSok bT Ext MT sm_15 := achk_ok (nm := 297) (sm := [sm_13, sm_14]) (labs := lb_15) (sp := []) (fuel := 15) (rE := [(1000000, (2, 0))]) (maxL := 4) (M := mX11_gate) mt_X11_gate rfl os_X11_gate MT_len ((mA.cons (ms_13 hX) (mA.cons (ms_14 hX) mA.nil))) (pE hX (by decide +kernel)) (by decide +kernel)
def sm_16 : aM := (200, 2, [(1, 0, 0), (0, (-2147483648), 2147483647), (0, (-2147483648), 2147483647)], [], [], [(some ((-2147483648), 2147483647), [], [])])
def lb_16 : List aLab := []
theorem ms_16 {Ext : gI → Prop} (hX : pSt Ext) : MSok bT Ext MT sm_16 := achk_ok (nm := 297) (sm := [sm_5]) (labs := lb_16) (sp := []) (fuel := 16) (rE := [(1000000, (2, 0))]) (maxL := 3) (M := mX11_gateOf) mt_X11_gateOf rfl os_X11_gateOf MT_len ((mA.cons (ms_5 hX) mA.nil)) (pE hX (by decide +kernel)) (by decide +kernel)
def sm_17 : aM := (37, 0, [(0, (-2147483648), 2147483647), (0, 1, 1), (0, 16, 16)], [], [], [(some (1, 1), [(0, 1, 16)], []), (some (0, 0), [], [])])
def lb_17 : List aLab := []
theorem ms_17 {Ext : gI → Prop} (hX : pSt Ext) : MSok bT Ext MT sm_17 := achk_ok (nm := 297) (sm := []) (labs := lb_17) (sp := []) (fuel := 14) (rE := [(1000000, (2, 0))]) (maxL := 3) (M := mX11_isIn) mt_X11_isIn rfl os_X11_isIn MT_len ( mA.nil) (pE hX (by decide +kernel)) (by decide +kernel)
def sm_18 : aM := (202, 1, [(1, 0, 0), (0, (-2147483648), 2147483647)], [], [(19, 2, 2)], [(some ((-2147483648), 2147483647), [], [])])
def lb_18 : List aLab := []
theorem ms_18 {Ext : gI → Prop} (hX : pSt Ext) : MSok bT Ext MT sm_18 := achk_ok (nm := 297) (sm := [sm_17]) (labs := lb_18) (sp := []) (fuel := 25) (rE := [(1000000, (2, 0))]) (maxL := 3) (M := mX11_ends) mt_X11_ends rfl os_X11_ends MT_len ((mA.cons (ms_17 hX) mA.nil)) (pE hX (by decide +kernel)) (by decide +kernel)
def sm_19 : aM := (204, 0, [(1, 0, 0)], [], [(19, 1, 1), (19, 3, 3), (19, 9, 9)], [(some ((-2147483648), 2147483647), [], [])])
def lb_19 : List aLab := []
theorem ms_19 {Ext : gI → Prop} (hX : pSt Ext) : MSok bT Ext MT sm_19 := achk_ok (nm := 297) (sm := []) (labs := lb_19) (sp := []) (fuel := 23) (rE := [(1000000, (2, 0))]) (maxL := 2) (M := mX11_anew) mt_X11_anew rfl os_X11_anew MT_len ( mA.nil) (pE hX (by decide +kernel)) (by decide +kernel)
def sm_20 : aM := (13, 0, [(1, 13, 0), (0, (-2147483648), 2147483647), (0, (-2147483648), 2147483647), (0, (-2147483648), 2147483647)], [], [], [(some ((-2147483648), 2147483647), [], [])])
def lb_20 : List aLab := []
theorem ms_20 {Ext : gI → Prop} (hX : pSt Ext) : MSok bT Ext MT sm_20 := achk_ok (nm := 297) (sm := []) (labs := lb_20) (sp := []) (fuel := 9) (rE := [(1000000, (2, 0))]) (maxL := 4) (M := mX3_shape) mt_X3_shape rfl os_X3_shape MT_len ( mA.nil) (pE hX (by decide +kernel)) (by decide +kernel)
def sm_21 : aM := (12, 0, [(1, 14, 0), (0, (-2147483648), 2147483647), (0, (-2147483648), 2147483647), (0, (-2147483648), 2147483647)], [], [], [(some (5, 5), [], [])])
def lb_21 : List aLab := []
theorem ms_21 {Ext : gI → Prop} (hX : pSt Ext) : MSok bT Ext MT sm_21 := achk_ok (nm := 297) (sm := []) (labs := lb_21) (sp := []) (fuel := 7) (rE := [(1000000, (2, 0))]) (maxL := 4) (M := mX2_shape) mt_X2_shape rfl os_X2_shape MT_len ( mA.nil) (pE hX (by decide +kernel)) (by decide +kernel)
def sm_22 : aM := (15, 0, [(1, 15, 0), (0, (-2147483648), 2147483647), (0, (-2147483648), 2147483647), (0, (-2147483648), 2147483647)], [], [], [(some ((-2147483648), 2147483647), [], [])])
def lb_22 : List aLab := []
theorem ms_22 {Ext : gI → Prop} (hX : pSt Ext) : MSok bT Ext MT sm_22 := achk_ok (nm := 297) (sm := []) (labs := lb_22) (sp := []) (fuel := 13) (rE := [(1000000, (2, 0))]) (maxL := 4) (M := mX8_shape) mt_X8_shape rfl os_X8_shape MT_len ( mA.nil) (pE hX (by decide +kernel)) (by decide +kernel)
def sm_23 : aM := (15, 0, [(1, 16, 0), (0, (-2147483648), 2147483647), (0, (-2147483648), 2147483647), (0, (-2147483648), 2147483647)], [], [], [(some ((-2147483648), 2147483647), [], [])])
def lb_23 : List aLab := []
theorem ms_23 {Ext : gI → Prop} (hX : pSt Ext) : MSok bT Ext MT sm_23 := achk_ok (nm := 297) (sm := []) (labs := lb_23) (sp := []) (fuel := 13) (rE := [(1000000, (2, 0))]) (maxL := 4) (M := mX8_shape) mt_X8_shape rfl os_X8_shape MT_len ( mA.nil) (pE hX (by decide +kernel)) (by decide +kernel)
def sm_24 : aM := (17, 1, [(1, 16, 0), (0, (-2147483648), 2147483647), (0, (-2147483648), 2147483647), (0, (-2147483648), 2147483647)], [], [], [(some (0, 2147483647), [], [])])
def lb_24 : List aLab := []
theorem ms_24 {Ext : gI → Prop} (hX : pSt Ext) : MSok bT Ext MT sm_24 := achk_ok (nm := 297) (sm := [sm_23]) (labs := lb_24) (sp := []) (fuel := 17) (rE := [(1000000, (2, 0))]) (maxL := 4) (M := mX10_shape) mt_X10_shape rfl os_X10_shape MT_len ((mA.cons (ms_23 hX) mA.nil)) (pE hX (by decide +kernel)) (by decide +kernel)
def sm_25 : aM := (14, 0, [(1, 17, 0), (0, (-2147483648), 2147483647), (0, (-2147483648), 2147483647), (0, (-2147483648), 2147483647)], [], [], [(some ((-2147483648), 2147483647), [], [])])
def lb_25 : List aLab := []
theorem ms_25 {Ext : gI → Prop} (hX : pSt Ext) : MSok bT Ext MT sm_25 := achk_ok (nm := 297) (sm := []) (labs := lb_25) (sp := []) (fuel := 9) (rE := [(1000000, (2, 0))]) (maxL := 4) (M := mX7_shape) mt_X7_shape rfl os_X7_shape MT_len ( mA.nil) (pE hX (by decide +kernel)) (by decide +kernel)
def sm_26 : aM := (14, 0, [(1, 18, 0), (0, (-2147483648), 2147483647), (0, (-2147483648), 2147483647), (0, (-2147483648), 2147483647)], [], [], [(some ((-2147483648), 2147483647), [], [])])
def lb_26 : List aLab := []
theorem ms_26 {Ext : gI → Prop} (hX : pSt Ext) : MSok bT Ext MT sm_26 := achk_ok (nm := 297) (sm := []) (labs := lb_26) (sp := []) (fuel := 9) (rE := [(1000000, (2, 0))]) (maxL := 4) (M := mX7_shape) mt_X7_shape rfl os_X7_shape MT_len ( mA.nil) (pE hX (by decide +kernel)) (by decide +kernel)
def sm_27 : aM := (16, 1, [(1, 18, 0), (0, (-2147483648), 2147483647), (0, (-2147483648), 2147483647), (0, (-2147483648), 2147483647)], [], [], [(some ((-2147483648), 9), [], [])])
def lb_27 : List aLab := []
theorem ms_27 {Ext : gI → Prop} (hX : pSt Ext) : MSok bT Ext MT sm_27 := achk_ok (nm := 297) (sm := [sm_26]) (labs := lb_27) (sp := []) (fuel := 15) (rE := [(1000000, (2, 0))]) (maxL := 4) (M := mX9_shape) mt_X9_shape rfl os_X9_shape MT_len ((mA.cons (ms_26 hX) mA.nil)) (pE hX (by decide +kernel)) (by decide +kernel)
def sm_36 : aM := (18, 2, [(1, 19, 0), (0, 0, 5), (0, 0, 9)], [], [], [(some (1, 1), [], []), (some (0, 0), [], [])])
def lb_36 : List aLab := []
theorem ms_36 {Ext : gI → Prop} (hX : pSt Ext) : MSok bT Ext MT sm_36 := achk_ok (nm := 297) (sm := [sm_20, sm_21, sm_22, sm_24, sm_25, sm_27]) (labs := lb_36) (sp := []) (fuel := 45) (rE := [(1000000, (2, 0))]) (maxL := 4) (M := mX1_fitsWard) mt_X1_fitsWard rfl os_X1_fitsWard MT_len ((mA.cons (ms_20 hX) (mA.cons (ms_21 hX) (mA.cons (ms_22 hX) (mA.cons (ms_24 hX) (mA.cons (ms_25 hX) (mA.cons (ms_27 hX) mA.nil))))))) (pE hX (by decide +kernel)) (by decide +kernel)
def sm_37 : aM := (225, 3, [(1, 0, 0), (0, (-2147483648), 2147483647)], [], [], [(some ((-2147483648), 2147483647), [], [])])
def lb_37 : List aLab := [(17, [some (1, 0), some (0, 0), some (0, 1), some (0, 2)], [], [(0, 5, none), ((-2147483648), 2147483647, none), (0, 10, none), (1, 6, none)], [(19, 8, (0, 3))], [(99983, (2, 0)), (10, (0, 2)), (99983, (2, 0))])]
theorem ms_37 {Ext : gI → Prop} (hX : pSt Ext) : MSok bT Ext MT sm_37 := achk_ok (nm := 297) (sm := [sm_36, sm_7]) (labs := lb_37) (sp := []) (fuel := 23) (rE := [(1000000, (2, 0)), (0, (2, 0)), (0, (2, 0))]) (maxL := 4) (M := mX11_opens) mt_X11_opens rfl os_X11_opens MT_len ((mA.cons (ms_36 hX) (mA.cons (ms_7 hX) mA.nil))) (pE hX (by decide +kernel)) (by decide +kernel)
def sm_38 : aM := (37, 0, [(0, (-2147483648), 2147483647), (0, 0, 0), (0, 3, 3)], [], [], [(some (1, 1), [(0, 0, 3)], []), (some (0, 0), [], [])])
def lb_38 : List aLab := []
theorem ms_38 {Ext : gI → Prop} (hX : pSt Ext) : MSok bT Ext MT sm_38 := achk_ok (nm := 297) (sm := []) (labs := lb_38) (sp := []) (fuel := 14) (rE := [(1000000, (2, 0))]) (maxL := 3) (M := mX11_isIn) mt_X11_isIn rfl os_X11_isIn MT_len ( mA.nil) (pE hX (by decide +kernel)) (by decide +kernel)
def sm_39 : aM := (103, 1, [(0, (-2147483648), 2147483647)], [], [], [(some (0, 0), [], []), (some (1, 1), [(0, 0, 3)], [])])
def lb_39 : List aLab := []
theorem ms_39 {Ext : gI → Prop} (hX : pSt Ext) : MSok bT Ext MT sm_39 := achk_ok (nm := 297) (sm := [sm_38]) (labs := lb_39) (sp := []) (fuel := 10) (rE := [(1000000, (2, 0))]) (maxL := 1) (M := mX11_isPlace) mt_X11_isPlace rfl os_X11_isPlace MT_len ((mA.cons (ms_38 hX) mA.nil)) (pE hX (by decide +kernel)) (by decide +kernel)
def sm_40 : aM := (37, 0, [(0, (-2147483648), 2147483647), (0, (-1), (-1)), (0, 4, 4)], [], [], [(some (1, 1), [(0, (-1), 4)], []), (some (0, 0), [], [])])
def lb_40 : List aLab := []
theorem ms_40 {Ext : gI → Prop} (hX : pSt Ext) : MSok bT Ext MT sm_40 := achk_ok (nm := 297) (sm := []) (labs := lb_40) (sp := []) (fuel := 14) (rE := [(1000000, (2, 0))]) (maxL := 3) (M := mX11_isIn) mt_X11_isIn rfl os_X11_isIn MT_len ( mA.nil) (pE hX (by decide +kernel)) (by decide +kernel)
def sm_41 : aM := (269, 2, [(1, 0, 0), (0, (-2147483648), 2147483647), (0, (-2147483648), 2147483647), (0, (-2147483648), 2147483647)], [], [(2, 0, 3), (3, 0, 3), (5, 0, 39), (6, 0, 39), (7, 0, 39), (8, 0, 39)], [(some ((-14), 1), [], [])])
def lb_41 : List aLab := [(48, [some (1, 0), some (0, 0), some (0, 1), some (0, 2), some (0, 3)], [], [(0, 3, none), (0, 4, none), (0, 40, none), (0, 40, none)], [], [(99952, (2, 0)), (40, (0, 3)), (99952, (2, 0))])]
theorem ms_41 {Ext : gI → Prop} (hX : pSt Ext) : MSok bT Ext MT sm_41 := achk_ok (nm := 297) (sm := [sm_39, sm_40]) (labs := lb_41) (sp := []) (fuel := 29) (rE := [(1000000, (2, 0)), (0, (2, 0)), (0, (2, 0))]) (maxL := 5) (M := mX11_sheet) mt_X11_sheet rfl os_X11_sheet MT_len ((mA.cons (ms_39 hX) (mA.cons (ms_40 hX) mA.nil))) (pE hX (by decide +kernel)) (by decide +kernel)
def sm_42 : aM := (127, 0, [(0, (-2147483648), 2147483647), (0, 1, 1), (0, 5, 5)], [], [], [(some (1, 1), [(0, 1, 5)], []), (some (0, 0), [], [])])
def lb_42 : List aLab := []
theorem ms_42 {Ext : gI → Prop} (hX : pSt Ext) : MSok bT Ext MT sm_42 := achk_ok (nm := 297) (sm := []) (labs := lb_42) (sp := []) (fuel := 14) (rE := [(1000000, (2, 0))]) (maxL := 3) (M := mX12_in1) mt_X12_in1 rfl os_X12_in1 MT_len ( mA.nil) (pE hX (by decide +kernel)) (by decide +kernel)
def sm_43 : aM := (127, 0, [(0, (-2147483648), 2147483647), (0, 0, 0), (0, 99, 99)], [], [], [(some (1, 1), [(0, 0, 99)], []), (some (0, 0), [], [])])
def lb_43 : List aLab := []
theorem ms_43 {Ext : gI → Prop} (hX : pSt Ext) : MSok bT Ext MT sm_43 := achk_ok (nm := 297) (sm := []) (labs := lb_43) (sp := []) (fuel := 14) (rE := [(1000000, (2, 0))]) (maxL := 3) (M := mX12_in1) mt_X12_in1 rfl os_X12_in1 MT_len ( mA.nil) (pE hX (by decide +kernel)) (by decide +kernel)
def sm_44 : aM := (127, 0, [(0, (-2147483648), 2147483647), (0, 0, 0), (0, 9, 9)], [], [], [(some (1, 1), [(0, 0, 9)], []), (some (0, 0), [], [])])
def lb_44 : List aLab := []
theorem ms_44 {Ext : gI → Prop} (hX : pSt Ext) : MSok bT Ext MT sm_44 := achk_ok (nm := 297) (sm := []) (labs := lb_44) (sp := []) (fuel := 14) (rE := [(1000000, (2, 0))]) (maxL := 3) (M := mX12_in1) mt_X12_in1 rfl os_X12_in1 MT_len ( mA.nil) (pE hX (by decide +kernel)) (by decide +kernel)
def sm_45 : aM := (187, 1, [(0, (-2147483648), 2147483647)], [], [], [(some (0, 0), [], []), (some (1, 1), [(0, 0, 9)], [])])
def lb_45 : List aLab := []
theorem ms_45 {Ext : gI → Prop} (hX : pSt Ext) : MSok bT Ext MT sm_45 := achk_ok (nm := 297) (sm := [sm_44]) (labs := lb_45) (sp := []) (fuel := 10) (rE := [(1000000, (2, 0))]) (maxL := 1) (M := mX12_isDigit) mt_X12_isDigit rfl os_X12_isDigit MT_len ((mA.cons (ms_44 hX) mA.nil)) (pE hX (by decide +kernel)) (by decide +kernel)
def sm_46 : aM := (127, 0, [(0, (-2147483648), 2147483647), (0, 0, 0), (0, 5, 5)], [], [], [(some (1, 1), [(0, 0, 5)], []), (some (0, 0), [], [])])
def lb_46 : List aLab := []
theorem ms_46 {Ext : gI → Prop} (hX : pSt Ext) : MSok bT Ext MT sm_46 := achk_ok (nm := 297) (sm := []) (labs := lb_46) (sp := []) (fuel := 14) (rE := [(1000000, (2, 0))]) (maxL := 3) (M := mX12_in1) mt_X12_in1 rfl os_X12_in1 MT_len ( mA.nil) (pE hX (by decide +kernel)) (by decide +kernel)
def sm_47 : aM := (188, 1, [(0, (-2147483648), 2147483647)], [], [], [(some (0, 0), [], []), (some (1, 1), [(0, 0, 5)], [])])
def lb_47 : List aLab := []
theorem ms_47 {Ext : gI → Prop} (hX : pSt Ext) : MSok bT Ext MT sm_47 := achk_ok (nm := 297) (sm := [sm_46]) (labs := lb_47) (sp := []) (fuel := 10) (rE := [(1000000, (2, 0))]) (maxL := 1) (M := mX12_isGate) mt_X12_isGate rfl os_X12_isGate MT_len ((mA.cons (ms_46 hX) mA.nil)) (pE hX (by decide +kernel)) (by decide +kernel)
def sm_48 : aM := (141, 0, [(1, 67, 0), (0, 0, 5), (0, 0, 0), (0, 1, 5)], [], [(68, 35, 35), (68, 40, 40), (68, 45, 45), (68, 50, 50), (68, 55, 55), (68, 60, 60)], [(none, [], [])])
def lb_48 : List aLab := []
theorem ms_48 {Ext : gI → Prop} (hX : pSt Ext) : MSok bT Ext MT sm_48 := achk_ok (nm := 297) (sm := []) (labs := lb_48) (sp := [(0, 0, 1, [])]) (fuel := 18) (rE := [(1000000, (2, 0))]) (maxL := 4) (M := mX12_puts) mt_X12_puts rfl os_X12_puts MT_len ( mA.nil) (pE hX (by decide +kernel)) (by decide +kernel)
def sm_49 : aM := (141, 0, [(1, 67, 0), (0, 0, 5), (0, 1, 1), (0, 0, 99)], [], [(68, 36, 36), (68, 41, 41), (68, 46, 46), (68, 51, 51), (68, 56, 56), (68, 61, 61)], [(none, [], [])])
def lb_49 : List aLab := []
theorem ms_49 {Ext : gI → Prop} (hX : pSt Ext) : MSok bT Ext MT sm_49 := achk_ok (nm := 297) (sm := []) (labs := lb_49) (sp := [(0, 0, 1, [])]) (fuel := 18) (rE := [(1000000, (2, 0))]) (maxL := 4) (M := mX12_puts) mt_X12_puts rfl os_X12_puts MT_len ( mA.nil) (pE hX (by decide +kernel)) (by decide +kernel)
def sm_50 : aM := (141, 0, [(1, 67, 0), (0, 0, 5), (0, 2, 2), (0, 0, 9)], [], [(68, 37, 37), (68, 42, 42), (68, 47, 47), (68, 52, 52), (68, 57, 57), (68, 62, 62)], [(none, [], [])])
def lb_50 : List aLab := []
theorem ms_50 {Ext : gI → Prop} (hX : pSt Ext) : MSok bT Ext MT sm_50 := achk_ok (nm := 297) (sm := []) (labs := lb_50) (sp := [(0, 0, 1, [])]) (fuel := 18) (rE := [(1000000, (2, 0))]) (maxL := 4) (M := mX12_puts) mt_X12_puts rfl os_X12_puts MT_len ( mA.nil) (pE hX (by decide +kernel)) (by decide +kernel)
def sm_51 : aM := (141, 0, [(1, 67, 0), (0, 0, 5), (0, 3, 3), (0, 0, 5)], [], [(68, 38, 38), (68, 43, 43), (68, 48, 48), (68, 53, 53), (68, 58, 58), (68, 63, 63)], [(none, [], [])])
def lb_51 : List aLab := []
theorem ms_51 {Ext : gI → Prop} (hX : pSt Ext) : MSok bT Ext MT sm_51 := achk_ok (nm := 297) (sm := []) (labs := lb_51) (sp := [(0, 0, 1, [])]) (fuel := 18) (rE := [(1000000, (2, 0))]) (maxL := 4) (M := mX12_puts) mt_X12_puts rfl os_X12_puts MT_len ( mA.nil) (pE hX (by decide +kernel)) (by decide +kernel)
def sm_52 : aM := (141, 0, [(1, 67, 0), (0, 0, 5), (0, 4, 4), (0, 0, 0)], [], [(68, 39, 39), (68, 44, 44), (68, 49, 49), (68, 54, 54), (68, 59, 59), (68, 64, 64)], [(none, [], [])])
def lb_52 : List aLab := []
theorem ms_52 {Ext : gI → Prop} (hX : pSt Ext) : MSok bT Ext MT sm_52 := achk_ok (nm := 297) (sm := []) (labs := lb_52) (sp := [(0, 0, 1, [])]) (fuel := 18) (rE := [(1000000, (2, 0))]) (maxL := 4) (M := mX12_puts) mt_X12_puts rfl os_X12_puts MT_len ( mA.nil) (pE hX (by decide +kernel)) (by decide +kernel)
def sm_53 : aM := (186, 2, [(1, 67, 0), (0, (-2147483648), 2147483647), (0, (-2147483648), 2147483647), (0, (-2147483648), 2147483647), (0, (-2147483648), 2147483647)], [], [(68, 4, 4), (68, 35, 64)], [(some ((-2), 5), [], [])])
def lb_53 : List aLab := []
theorem ms_53 {Ext : gI → Prop} (hX : pSt Ext) : MSok bT Ext MT sm_53 := achk_ok (nm := 297) (sm := [sm_52, sm_48, sm_51, sm_50, sm_49, sm_42, sm_43, sm_45, sm_47]) (labs := lb_53) (sp := []) (fuel := 67) (rE := [(1000000, (2, 0))]) (maxL := 6) (M := mX12_key) mt_X12_key rfl os_X12_key MT_len ((mA.cons (ms_52 hX) (mA.cons (ms_48 hX) (mA.cons (ms_51 hX) (mA.cons (ms_50 hX) (mA.cons (ms_49 hX) (mA.cons (ms_42 hX) (mA.cons (ms_43 hX) (mA.cons (ms_45 hX) (mA.cons (ms_47 hX) mA.nil)))))))))) (pE hX (by decide +kernel)) (by decide +kernel)
def sm_54 : aM := (127, 0, [(0, (-2147483648), 2147483647), (0, 0, 0), (0, 15, 15)], [], [], [(some (1, 1), [(0, 0, 15)], []), (some (0, 0), [], [])])
def lb_54 : List aLab := []
theorem ms_54 {Ext : gI → Prop} (hX : pSt Ext) : MSok bT Ext MT sm_54 := achk_ok (nm := 297) (sm := []) (labs := lb_54) (sp := []) (fuel := 14) (rE := [(1000000, (2, 0))]) (maxL := 3) (M := mX12_in1) mt_X12_in1 rfl os_X12_in1 MT_len ( mA.nil) (pE hX (by decide +kernel)) (by decide +kernel)
def sm_55 : aM := (193, 0, [(1, 67, 0), (0, 7, 22), (0, 0, 15)], [], [(68, 7, 22)], [(some (0, 15), [], [])])
def lb_55 : List aLab := []
theorem ms_55 {Ext : gI → Prop} (hX : pSt Ext) : MSok bT Ext MT sm_55 := achk_ok (nm := 297) (sm := []) (labs := lb_55) (sp := []) (fuel := 17) (rE := [(1000000, (2, 0))]) (maxL := 4) (M := mX12_becomes) mt_X12_becomes rfl os_X12_becomes MT_len ( mA.nil) (pE hX (by decide +kernel)) (by decide +kernel)
def sm_56 : aM := (197, 1, [(1, 67, 0), (0, (-2147483648), 2147483647), (0, (-2147483648), 2147483647)], [], [(68, 7, 22)], [(some ((-1), 15), [], [])])
def lb_56 : List aLab := []
theorem ms_56 {Ext : gI → Prop} (hX : pSt Ext) : MSok bT Ext MT sm_56 := achk_ok (nm := 297) (sm := [sm_55, sm_54]) (labs := lb_56) (sp := []) (fuel := 23) (rE := [(1000000, (2, 0))]) (maxL := 3) (M := mX12_sun) mt_X12_sun rfl os_X12_sun MT_len ((mA.cons (ms_55 hX) (mA.cons (ms_54 hX) mA.nil))) (pE hX (by decide +kernel)) (by decide +kernel)
def sm_57 : aM := (127, 0, [(0, (-2147483648), 2147483647), (0, 0, 0), (0, (-1), 5)], [], [], [(some (1, 1), [(0, 0, 5), (2, 0, 5)], []), (some (0, 0), [], [])])
def lb_57 : List aLab := []
theorem ms_57 {Ext : gI → Prop} (hX : pSt Ext) : MSok bT Ext MT sm_57 := achk_ok (nm := 297) (sm := []) (labs := lb_57) (sp := []) (fuel := 14) (rE := [(1000000, (2, 0))]) (maxL := 3) (M := mX12_in1) mt_X12_in1 rfl os_X12_in1 MT_len ( mA.nil) (pE hX (by decide +kernel)) (by decide +kernel)
def sm_58 : aM := (149, 1, [(1, 67, 0), (0, (-2147483648), 2147483647)], [], [], [(some (0, 0), [], []), (some (1, 1), [(1, 0, 5)], [])])
def lb_58 : List aLab := []
theorem ms_58 {Ext : gI → Prop} (hX : pSt Ext) : MSok bT Ext MT sm_58 := achk_ok (nm := 297) (sm := [sm_57]) (labs := lb_58) (sp := []) (fuel := 15) (rE := [(1000000, (2, 0))]) (maxL := 2) (M := mX12_isKey) mt_X12_isKey rfl os_X12_isKey MT_len ((mA.cons (ms_57 hX) mA.nil)) (pE hX (by decide +kernel)) (by decide +kernel)
def sm_59 : aM := (112, 0, [(1, 67, 0), (0, 0, 5), (0, 4, 4)], [], [], [(some (0, 1), [], [])])
def lb_59 : List aLab := []
theorem ms_59 {Ext : gI → Prop} (hX : pSt Ext) : MSok bT Ext MT sm_59 := achk_ok (nm := 297) (sm := []) (labs := lb_59) (sp := [(0, 0, 1, [])]) (fuel := 17) (rE := [(1000000, (2, 0))]) (maxL := 3) (M := mX12_get) mt_X12_get rfl os_X12_get MT_len ( mA.nil) (pE hX (by decide +kernel)) (by decide +kernel)
def sm_64 : aM := (124, 0, [(0, (-2147483648), 2147483647), (0, (-2147483648), 2147483647), (0, (-2147483648), 2147483647), (0, (-2147483648), 2147483647)], [], [], [(some ((-2147483648), 2147483647), [], [])])
def lb_64 : List aLab := []
theorem ms_64 {Ext : gI → Prop} (hX : pSt Ext) : MSok bT Ext MT sm_64 := achk_ok (nm := 297) (sm := []) (labs := lb_64) (sp := []) (fuel := 31) (rE := [(1000000, (2, 0))]) (maxL := 6) (M := mX12_shapeBy) mt_X12_shapeBy rfl os_X12_shapeBy MT_len ( mA.nil) (pE hX (by decide +kernel)) (by decide +kernel)
def sm_96 : aM := (112, 0, [(1, 67, 0), (0, 0, 5), (0, 3, 3)], [], [], [(some (0, 5), [], [])])
def lb_96 : List aLab := []
theorem ms_96 {Ext : gI → Prop} (hX : pSt Ext) : MSok bT Ext MT sm_96 := achk_ok (nm := 297) (sm := []) (labs := lb_96) (sp := [(0, 0, 1, [])]) (fuel := 17) (rE := [(1000000, (2, 0))]) (maxL := 3) (M := mX12_get) mt_X12_get rfl os_X12_get MT_len ( mA.nil) (pE hX (by decide +kernel)) (by decide +kernel)
def sm_97 : aM := (112, 0, [(1, 67, 0), (0, 0, 5), (0, 0, 0)], [], [], [(some (0, 5), [], [])])
def lb_97 : List aLab := []
theorem ms_97 {Ext : gI → Prop} (hX : pSt Ext) : MSok bT Ext MT sm_97 := achk_ok (nm := 297) (sm := []) (labs := lb_97) (sp := [(0, 0, 1, [])]) (fuel := 17) (rE := [(1000000, (2, 0))]) (maxL := 3) (M := mX12_get) mt_X12_get rfl os_X12_get MT_len ( mA.nil) (pE hX (by decide +kernel)) (by decide +kernel)
def sm_98 : aM := (112, 0, [(1, 67, 0), (0, 0, 5), (0, 1, 1)], [], [], [(some (0, 99), [], [])])
def lb_98 : List aLab := []
theorem ms_98 {Ext : gI → Prop} (hX : pSt Ext) : MSok bT Ext MT sm_98 := achk_ok (nm := 297) (sm := []) (labs := lb_98) (sp := [(0, 0, 1, [])]) (fuel := 17) (rE := [(1000000, (2, 0))]) (maxL := 3) (M := mX12_get) mt_X12_get rfl os_X12_get MT_len ( mA.nil) (pE hX (by decide +kernel)) (by decide +kernel)
def sm_99 : aM := (112, 0, [(1, 67, 0), (0, 0, 5), (0, 2, 2)], [], [], [(some (0, 9), [], [])])
def lb_99 : List aLab := []
theorem ms_99 {Ext : gI → Prop} (hX : pSt Ext) : MSok bT Ext MT sm_99 := achk_ok (nm := 297) (sm := []) (labs := lb_99) (sp := [(0, 0, 1, [])]) (fuel := 17) (rE := [(1000000, (2, 0))]) (maxL := 3) (M := mX12_get) mt_X12_get rfl os_X12_get MT_len ( mA.nil) (pE hX (by decide +kernel)) (by decide +kernel)
def sm_100 : aM := (123, 1, [(1, 67, 0), (0, 0, 5)], [], [], [(some ((-2147483648), 2147483647), [], [])])
def lb_100 : List aLab := []
theorem ms_100 {Ext : gI → Prop} (hX : pSt Ext) : MSok bT Ext MT sm_100 := achk_ok (nm := 297) (sm := [sm_97, sm_98, sm_99, sm_64]) (labs := lb_100) (sp := []) (fuel := 20) (rE := [(1000000, (2, 0))]) (maxL := 2) (M := mX12_shapeOf) mt_X12_shapeOf rfl os_X12_shapeOf MT_len ((mA.cons (ms_97 hX) (mA.cons (ms_98 hX) (mA.cons (ms_99 hX) (mA.cons (ms_64 hX) mA.nil))))) (pE hX (by decide +kernel)) (by decide +kernel)
def sm_104 : aM := (159, 2, [(1, 67, 0), (0, 0, 5), (0, 0, 5)], [], [], [(some (1, 1), [], []), (some (0, 0), [], [])])
def lb_104 : List aLab := []
theorem ms_104 {Ext : gI → Prop} (hX : pSt Ext) : MSok bT Ext MT sm_104 := achk_ok (nm := 297) (sm := [sm_96, sm_100, sm_59]) (labs := lb_104) (sp := []) (fuel := 39) (rE := [(1000000, (2, 0))]) (maxL := 4) (M := mX12_areClose) mt_X12_areClose rfl os_X12_areClose MT_len ((mA.cons (ms_96 hX) (mA.cons (ms_100 hX) (mA.cons (ms_59 hX) mA.nil)))) (pE hX (by decide +kernel)) (by decide +kernel)
def sm_105 : aM := (158, 3, [(1, 67, 0), (0, 0, 5)], [], [], [(some ((-2147483648), 2147483647), [], [])])
def lb_105 : List aLab := [(6, [some (1, 67), some (0, 0), some (0, 1), some (0, 2), none, none], [], [(0, 5, none), ((-2147483648), 2147483647, none), (0, 6, none)], [], [(99994, (2, 0)), (6, (0, 2)), (99994, (2, 0)), (0, (2, 0)), (0, (2, 0)), (0, (2, 0)), (0, (2, 0))]), (19, [some (1, 67), some (0, 0), some (0, 1), some (0, 2), some (0, 3), none], [], [(0, 5, none), ((-2147483648), 2147483647, none), (0, 5, none), (0, 6, none), (1, 6, none)], [(68, 4, (0, 4))], [(99994, (2, 0)), (6, (0, 2)), (99981, (2, 0)), (6, (0, 3)), (99981, (2, 0)), (0, (2, 0)), (0, (2, 0))]), (33, [some (1, 67), some (0, 0), some (0, 1), some (0, 2), some (0, 3), some (0, 4)], [], [(0, 5, none), ((-2147483648), 2147483647, none), (0, 5, none), (0, 5, none), (0, 6, none), (1, 6, none)], [(68, 4, (0, 5))], [(99994, (2, 0)), (6, (0, 2)), (99981, (2, 0)), (6, (0, 3)), (99967, (2, 0)), (6, (0, 4)), (99967, (2, 0))])]
theorem ms_105 {Ext : gI → Prop} (hX : pSt Ext) : MSok bT Ext MT sm_105 := achk_ok (nm := 297) (sm := [sm_59, sm_104]) (labs := lb_105) (sp := []) (fuel := 33) (rE := [(1000000, (2, 0)), (0, (2, 0)), (0, (2, 0)), (0, (2, 0)), (0, (2, 0)), (0, (2, 0)), (0, (2, 0))]) (maxL := 6) (M := mX12_bunchOf) mt_X12_bunchOf rfl os_X12_bunchOf MT_len ((mA.cons (ms_59 hX) (mA.cons (ms_104 hX) mA.nil))) (pE hX (by decide +kernel)) (by decide +kernel)
def sm_106 : aM := (230, 4, [(1, 67, 0), (0, (-2147483648), 2147483647)], [], [], [(some ((-2147483648), 2147483647), [], [])])
def lb_106 : List aLab := [(29, [some (1, 67), some (2, (-1)), some (0, 0), some (0, 1), none], [], [((-2147483648), 2147483647, none), (0, 6, none)], [], [(99971, (2, 0)), (6, (0, 1)), (99971, (2, 0))])]
theorem ms_106 {Ext : gI → Prop} (hX : pSt Ext) : MSok bT Ext MT sm_106 := achk_ok (nm := 297) (sm := [sm_105, sm_58]) (labs := lb_106) (sp := []) (fuel := 31) (rE := [(1000000, (2, 0)), (0, (2, 0)), (0, (2, 0))]) (maxL := 5) (M := mX12_bunches) mt_X12_bunches rfl os_X12_bunches MT_len ((mA.cons (ms_105 hX) (mA.cons (ms_58 hX) mA.nil))) (pE hX (by decide +kernel)) (by decide +kernel)
def sm_107 : aM := (127, 0, [(0, (-2147483648), 2147483647), (0, 0, 0), (0, 3, 3)], [], [], [(some (1, 1), [(0, 0, 3)], []), (some (0, 0), [], [])])
def lb_107 : List aLab := []
theorem ms_107 {Ext : gI → Prop} (hX : pSt Ext) : MSok bT Ext MT sm_107 := achk_ok (nm := 297) (sm := []) (labs := lb_107) (sp := []) (fuel := 14) (rE := [(1000000, (2, 0))]) (maxL := 3) (M := mX12_in1) mt_X12_in1 rfl os_X12_in1 MT_len ( mA.nil) (pE hX (by decide +kernel)) (by decide +kernel)
def sm_108 : aM := (174, 1, [(0, (-2147483648), 2147483647)], [], [], [(some (0, 0), [], []), (some (1, 1), [(0, 0, 3)], [])])
def lb_108 : List aLab := []
theorem ms_108 {Ext : gI → Prop} (hX : pSt Ext) : MSok bT Ext MT sm_108 := achk_ok (nm := 297) (sm := [sm_107]) (labs := lb_108) (sp := []) (fuel := 10) (rE := [(1000000, (2, 0))]) (maxL := 1) (M := mX12_isSheet) mt_X12_isSheet rfl os_X12_isSheet MT_len ((mA.cons (ms_107 hX) mA.nil)) (pE hX (by decide +kernel)) (by decide +kernel)
def sm_109 : aM := (127, 0, [(0, (-2147483648), 2147483647), (0, 0, 0), (0, 4, 4)], [], [], [(some (1, 1), [(0, 0, 4)], []), (some (0, 0), [], [])])
def lb_109 : List aLab := []
theorem ms_109 {Ext : gI → Prop} (hX : pSt Ext) : MSok bT Ext MT sm_109 := achk_ok (nm := 297) (sm := []) (labs := lb_109) (sp := []) (fuel := 14) (rE := [(1000000, (2, 0))]) (maxL := 3) (M := mX12_in1) mt_X12_in1 rfl os_X12_in1 MT_len ( mA.nil) (pE hX (by decide +kernel)) (by decide +kernel)
def sm_110 : aM := (175, 0, [(1, 67, 0), (0, 0, 3), (0, 0, 4)], [], [], [(some ((-13), 0), [], [])])
def lb_110 : List aLab := []
theorem ms_110 {Ext : gI → Prop} (hX : pSt Ext) : MSok bT Ext MT sm_110 := achk_ok (nm := 297) (sm := []) (labs := lb_110) (sp := []) (fuel := 19) (rE := [(1000000, (2, 0))]) (maxL := 3) (M := mX12_lacks) mt_X12_lacks rfl os_X12_lacks MT_len ( mA.nil) (pE hX (by decide +kernel)) (by decide +kernel)
def sm_111 : aM := (127, 0, [(0, (-2147483648), 2147483647), (0, 0, 0), (0, (-1), 39)], [], [], [(some (1, 1), [(0, 0, 39), (2, 0, 39)], []), (some (0, 0), [], [])])
def lb_111 : List aLab := []
theorem ms_111 {Ext : gI → Prop} (hX : pSt Ext) : MSok bT Ext MT sm_111 := achk_ok (nm := 297) (sm := []) (labs := lb_111) (sp := []) (fuel := 14) (rE := [(1000000, (2, 0))]) (maxL := 3) (M := mX12_in1) mt_X12_in1 rfl os_X12_in1 MT_len ( mA.nil) (pE hX (by decide +kernel)) (by decide +kernel)
def sm_112 : aM := (276, 2, [(1, 67, 0), (0, (-2147483648), 2147483647), (0, (-2147483648), 2147483647), (0, (-2147483648), 2147483647)], [], [], [(some ((-2147483648), 2147483647), [], [])])
def lb_112 : List aLab := []
theorem ms_112 {Ext : gI → Prop} (hX : pSt Ext) : MSok bT Ext MT sm_112 := achk_ok (nm := 297) (sm := [sm_110, sm_108, sm_109, sm_111]) (labs := lb_112) (sp := []) (fuel := 40) (rE := [(1000000, (2, 0))]) (maxL := 5) (M := mX12_item) mt_X12_item rfl os_X12_item MT_len ((mA.cons (ms_110 hX) (mA.cons (ms_108 hX) (mA.cons (ms_109 hX) (mA.cons (ms_111 hX) mA.nil))))) (pE hX (by decide +kernel)) (by decide +kernel)
