def sm_164 : aM := (247, 0, [(1, 0, 0)], [], [(19, 16, 16)], [(some (0, 6), [], [])])
def lb_164 : List aLab := []
theorem ms_164 {Ext : gI → Prop} (hX : pSt Ext) : MSok bT Ext MT sm_164 := achk_ok (nm := 297) (sm := []) (labs := lb_164) (sp := []) (fuel := 15) (rE := [(1000000, (2, 0))]) (maxL := 2) (M := mX11_forget) mt_X11_forget rfl os_X11_forget MT_len ( mA.nil) (pE hX (by decide +kernel)) (by decide +kernel)
def sm_168 : aM := (37, 0, [(0, (-2147483648), 2147483647), (0, (-2147483648), 2147483647), (0, (-2147483648), 2147483647)], [], [], [(some (1, 1), [], []), (some (0, 0), [], [])])
def lb_168 : List aLab := []
theorem ms_168 {Ext : gI → Prop} (hX : pSt Ext) : MSok bT Ext MT sm_168 := achk_ok (nm := 297) (sm := []) (labs := lb_168) (sp := []) (fuel := 14) (rE := [(1000000, (2, 0))]) (maxL := 3) (M := mX11_isIn) mt_X11_isIn rfl os_X11_isIn MT_len ( mA.nil) (pE hX (by decide +kernel)) (by decide +kernel)
def sm_169 : aM := (36, 1, [(1, 19, 0), (0, (-2147483648), 2147483647), (0, (-2147483648), 2147483647), (0, (-2147483648), 2147483647)], [], [], [(some ((-2147483648), 2147483647), [], [])])
def lb_169 : List aLab := [(6, [some (1, 19), some (0, 0), some (0, 1), some (0, 2), some (0, 3), some (0, 4), none, none], [], [((-2147483648), 2147483647, none), ((-2147483648), 2147483647, none), ((-2147483648), 2147483647, none), ((-2147483648), 2147483647, none), (0, 6, none)], [], [(99994, (2, 0)), (6, (0, 4)), (99994, (2, 0))])]
theorem ms_169 {Ext : gI → Prop} (hX : pSt Ext) : MSok bT Ext MT sm_169 := achk_ok (nm := 297) (sm := [sm_168]) (labs := lb_169) (sp := []) (fuel := 53) (rE := [(1000000, (2, 0)), (0, (2, 0)), (0, (2, 0))]) (maxL := 8) (M := mX1_misfitsAt) mt_X1_misfitsAt rfl os_X1_misfitsAt MT_len ((mA.cons (ms_168 hX) mA.nil)) (pE hX (by decide +kernel)) (by decide +kernel)
def sm_192 : aM := (96, 0, [(0, 0, 499)], [], [], [(some (1, 5), [], [])])
def lb_192 : List aLab := []
theorem ms_192 {Ext : gI → Prop} (hX : pSt Ext) : MSok bT Ext MT sm_192 := achk_ok (nm := 297) (sm := []) (labs := lb_192) (sp := []) (fuel := 11) (rE := [(1000000, (2, 0))]) (maxL := 1) (M := mX11_loneKind) mt_X11_loneKind rfl os_X11_loneKind MT_len ( mA.nil) (pE hX (by decide +kernel)) (by decide +kernel)
def sm_193 : aM := (97, 0, [(0, 0, 499)], [], [], [(some (0, 9), [], [])])
def lb_193 : List aLab := []
theorem ms_193 {Ext : gI → Prop} (hX : pSt Ext) : MSok bT Ext MT sm_193 := achk_ok (nm := 297) (sm := []) (labs := lb_193) (sp := []) (fuel := 11) (rE := [(1000000, (2, 0))]) (maxL := 1) (M := mX11_loneStraw) mt_X11_loneStraw rfl os_X11_loneStraw MT_len ( mA.nil) (pE hX (by decide +kernel)) (by decide +kernel)
def sm_194 : aM := (98, 0, [(0, 0, 499)], [], [], [(some (9, 99), [], [])])
def lb_194 : List aLab := []
theorem ms_194 {Ext : gI → Prop} (hX : pSt Ext) : MSok bT Ext MT sm_194 := achk_ok (nm := 297) (sm := []) (labs := lb_194) (sp := []) (fuel := 13) (rE := [(1000000, (2, 0))]) (maxL := 1) (M := mX11_loneTeeth) mt_X11_loneTeeth rfl os_X11_loneTeeth MT_len ( mA.nil) (pE hX (by decide +kernel)) (by decide +kernel)
def sm_195 : aM := (99, 3, [(1, 19, 0), (0, 1, 5), (0, (-2147483648), 2147483647), (0, (-2147483648), 2147483647)], [], [], [(some ((-2147483648), 2147483647), [], [])])
def lb_195 : List aLab := [(9, [some (1, 19), some (0, 0), some (0, 1), some (0, 2), some (0, 3), some (0, 4), some (0, 5), none, none], [], [(1, 5, none), ((-2147483648), 2147483647, none), ((-2147483648), 2147483647, none), ((-2147483648), 2147483647, none), ((-2147483648), 2147483647, none), (0, 16, none)], [], [(99991, (2, 0)), (16, (0, 5)), (99991, (2, 0))])]
theorem ms_195 {Ext : gI → Prop} (hX : pSt Ext) : MSok bT Ext MT sm_195 := achk_ok (nm := 297) (sm := [sm_8, sm_29, sm_18, sm_169, sm_32, sm_19, sm_34, sm_21, sm_37, sm_22, sm_38, sm_24, sm_40]) (labs := lb_195) (sp := []) (fuel := 53) (rE := [(1000000, (2, 0)), (0, (2, 0)), (0, (2, 0))]) (maxL := 9) (M := mX1_misfits) mt_X1_misfits rfl os_X1_misfits MT_len ((mA.cons (ms_8 hX) (mA.cons (ms_29 hX) (mA.cons (ms_18 hX) (mA.cons (ms_169 hX) (mA.cons (ms_32 hX) (mA.cons (ms_19 hX) (mA.cons (ms_34 hX) (mA.cons (ms_21 hX) (mA.cons (ms_37 hX) (mA.cons (ms_22 hX) (mA.cons (ms_38 hX) (mA.cons (ms_24 hX) (mA.cons (ms_40 hX) mA.nil)))))))))))))) (pE hX (by decide +kernel)) (by decide +kernel)
def sm_196 : aM := (249, 4, [(1, 0, 0), (0, (-2147483648), 2147483647)], [], [], [(some ((-2147483648), 2147483647), [], [])])
def lb_196 : List aLab := [(15, [some (1, 0), some (0, 0), some (0, 1), some (0, 2)], [], [(0, 3, none), ((-2147483648), 2147483647, none), (0, 500, none)], [], [(99985, (2, 0)), (500, (0, 2)), (99985, (2, 0))])]
theorem ms_196 {Ext : gI → Prop} (hX : pSt Ext) : MSok bT Ext MT sm_196 := achk_ok (nm := 297) (sm := [sm_192, sm_193, sm_194, sm_135, sm_195]) (labs := lb_196) (sp := []) (fuel := 30) (rE := [(1000000, (2, 0)), (0, (2, 0)), (0, (2, 0))]) (maxL := 4) (M := mX11_lone) mt_X11_lone rfl os_X11_lone MT_len ((mA.cons (ms_192 hX) (mA.cons (ms_193 hX) (mA.cons (ms_194 hX) (mA.cons (ms_135 hX) (mA.cons (ms_195 hX) mA.nil)))))) (pE hX (by decide +kernel)) (by decide +kernel)
def sm_200 : aM := (251, 4, [(1, 0, 0)], [], [], [(some ((-3), 5), [], [])])
def lb_200 : List aLab := [(5, [some (1, 0), some (0, 0), some (0, 1), none], [], [(0, 6, none), (0, 500, none)], [], [(99995, (2, 0)), (500, (0, 1)), (99995, (2, 0))])]
theorem ms_200 {Ext : gI → Prop} (hX : pSt Ext) : MSok bT Ext MT sm_200 := achk_ok (nm := 297) (sm := [sm_192, sm_193, sm_194, sm_112, sm_113, sm_195]) (labs := lb_200) (sp := []) (fuel := 32) (rE := [(1000000, (2, 0)), (0, (2, 0)), (0, (2, 0))]) (maxL := 4) (M := mX11_liar) mt_X11_liar rfl os_X11_liar MT_len ((mA.cons (ms_192 hX) (mA.cons (ms_193 hX) (mA.cons (ms_194 hX) (mA.cons (ms_112 hX) (mA.cons (ms_113 hX) (mA.cons (ms_195 hX) mA.nil))))))) (pE hX (by decide +kernel)) (by decide +kernel)
def sm_201 : aM := (253, 0, [(1, 0, 0), (0, (-2147483648), 2147483647)], [], [(19, 4, 4)], [(some ((-2147483648), 2147483647), [], [])])
def lb_201 : List aLab := []
theorem ms_201 {Ext : gI → Prop} (hX : pSt Ext) : MSok bT Ext MT sm_201 := achk_ok (nm := 297) (sm := []) (labs := lb_201) (sp := []) (fuel := 15) (rE := [(1000000, (2, 0))]) (maxL := 3) (M := mX11_seed) mt_X11_seed rfl os_X11_seed MT_len ( mA.nil) (pE hX (by decide +kernel)) (by decide +kernel)
def sm_202 : aM := (33, 0, [(1, 19, 0)], [], [(19, 4, 4)], [(some (0, 6), [], [])])
def lb_202 : List aLab := []
theorem ms_202 {Ext : gI → Prop} (hX : pSt Ext) : MSok bT Ext MT sm_202 := achk_ok (nm := 297) (sm := []) (labs := lb_202) (sp := []) (fuel := 23) (rE := [(1000000, (2, 0))]) (maxL := 1) (M := mX1_drawAct) mt_X1_drawAct rfl os_X1_drawAct MT_len ( mA.nil) (pE hX (by decide +kernel)) (by decide +kernel)
def sm_203 : aM := (255, 6, [(1, 0, 0)], [], [(19, 1, 1), (19, 3, 4), (19, 9, 9), (24, 0, 5), (33, 0, 4)], [(some ((-2147483648), 2147483647), [], [])])
def lb_203 : List aLab := []
theorem ms_203 {Ext : gI → Prop} (hX : pSt Ext) : MSok bT Ext MT sm_203 := achk_ok (nm := 297) (sm := [sm_62, sm_202, sm_73, sm_74]) (labs := lb_203) (sp := []) (fuel := 18) (rE := [(1000000, (2, 0))]) (maxL := 1) (M := mX11_lot) mt_X11_lot rfl os_X11_lot MT_len ((mA.cons (ms_62 hX) (mA.cons (ms_202 hX) (mA.cons (ms_73 hX) (mA.cons (ms_74 hX) mA.nil))))) (pE hX (by decide +kernel)) (by decide +kernel)
def sm_204 : aM := (37, 0, [(0, (-2147483648), 2147483647), (0, 1, 1), (0, 40, 40)], [], [], [(some (1, 1), [(0, 1, 40)], []), (some (0, 0), [], [])])
def lb_204 : List aLab := []
theorem ms_204 {Ext : gI → Prop} (hX : pSt Ext) : MSok bT Ext MT sm_204 := achk_ok (nm := 297) (sm := []) (labs := lb_204) (sp := []) (fuel := 14) (rE := [(1000000, (2, 0))]) (maxL := 3) (M := mX11_isIn) mt_X11_isIn rfl os_X11_isIn MT_len ( mA.nil) (pE hX (by decide +kernel)) (by decide +kernel)
def sm_205 : aM := (37, 0, [(0, (-2147483648), 2147483647), (0, 0, 0), (0, 999, 999)], [], [], [(some (1, 1), [(0, 0, 999)], []), (some (0, 0), [], [])])
def lb_205 : List aLab := []
theorem ms_205 {Ext : gI → Prop} (hX : pSt Ext) : MSok bT Ext MT sm_205 := achk_ok (nm := 297) (sm := []) (labs := lb_205) (sp := []) (fuel := 14) (rE := [(1000000, (2, 0))]) (maxL := 3) (M := mX11_isIn) mt_X11_isIn rfl os_X11_isIn MT_len ( mA.nil) (pE hX (by decide +kernel)) (by decide +kernel)
def sm_206 : aM := (100, 5, [(1, 19, 0)], [(68, 38, 0, 5), (26, 0, 10000000068, 38), (68, 43, 0, 5), (26, 1, 10000000068, 43), (68, 48, 0, 5), (26, 2, 10000000068, 48), (68, 53, 0, 5), (26, 3, 10000000068, 53), (68, 58, 0, 5), (26, 4, 10000000068, 58), (68, 63, 0, 5), (26, 5, 10000000068, 63)], [(19, 1, 1), (19, 4, 4), (19, 9, 9), (24, 0, 5), (33, 0, 4)], [(some ((-2147483648), 2147483647), [], [(26, 0, 10000000068, 38), (26, 1, 10000000068, 43), (26, 2, 10000000068, 48), (26, 3, 10000000068, 53), (26, 4, 10000000068, 58), (26, 5, 10000000068, 63)])])
def lb_206 : List aLab := [(4, [some (1, 19), some (0, 0), some (0, 1)], [], [((-2147483648), 2147483647, none), (0, 16, none), (0, 5, none), (0, 5, none), (0, 5, none), (0, 5, none), (0, 5, none), (0, 5, none)], [(26, 0, (0, 2)), (26, 1, (0, 3)), (26, 2, (0, 4)), (26, 3, (0, 5)), (26, 4, (0, 6)), (26, 5, (0, 7)), (68, 38, (0, 2)), (68, 43, (0, 3)), (68, 48, (0, 4)), (68, 53, (0, 5)), (68, 58, (0, 6)), (68, 63, (0, 7))], [(99996, (2, 0)), (16, (0, 1)), (99996, (2, 0))])]
theorem ms_206 {Ext : gI → Prop} (hX : pSt Ext) : MSok bT Ext MT sm_206 := achk_ok (nm := 297) (sm := [sm_62, sm_202, sm_72, sm_71]) (labs := lb_206) (sp := []) (fuel := 24) (rE := [(1000000, (2, 0)), (0, (2, 0)), (0, (2, 0))]) (maxL := 3) (M := mX1_goLots) mt_X1_goLots rfl os_X1_goLots MT_len ((mA.cons (ms_62 hX) (mA.cons (ms_202 hX) (mA.cons (ms_72 hX) (mA.cons (ms_71 hX) mA.nil))))) (pE hX (by decide +kernel)) (by decide +kernel)
def sm_207 : aM := (257, 6, [(1, 0, 0), (0, (-2147483648), 2147483647), (0, (-2147483648), 2147483647)], [(68, 38, 0, 5), (26, 0, 10000000068, 38), (68, 43, 0, 5), (26, 1, 10000000068, 43), (68, 48, 0, 5), (26, 2, 10000000068, 48), (68, 53, 0, 5), (26, 3, 10000000068, 53), (68, 58, 0, 5), (26, 4, 10000000068, 58), (68, 63, 0, 5), (26, 5, 10000000068, 63)], [(19, 1, 1), (19, 4, 4), (19, 9, 9), (24, 0, 5), (33, 0, 4), (34, 0, 7)], [(some ((-2147483648), 2147483647), [], [(26, 0, 10000000068, 38), (26, 1, 10000000068, 43), (26, 2, 10000000068, 48), (26, 3, 10000000068, 53), (26, 4, 10000000068, 58), (26, 5, 10000000068, 63)])])
def lb_207 : List aLab := [(45, [some (1, 0), some (0, 0), some (0, 1), some (0, 2), some (0, 3), some (0, 4)], [], [(1, 40, none), (0, 999, none), ((-2147483648), 2147483647, none), ((-2147483648), 2147483647, none), (0, 40, none), (0, 5, none), (0, 5, none), (0, 5, none), (0, 5, none), (0, 5, none), (0, 5, none)], [(26, 0, (0, 5)), (26, 1, (0, 6)), (26, 2, (0, 7)), (26, 3, (0, 8)), (26, 4, (0, 9)), (26, 5, (0, 10)), (68, 38, (0, 5)), (68, 43, (0, 6)), (68, 48, (0, 7)), (68, 53, (0, 8)), (68, 58, (0, 9)), (68, 63, (0, 10))], [(99955, (2, 0)), (40, (0, 4)), (99955, (2, 0))])]
theorem ms_207 {Ext : gI → Prop} (hX : pSt Ext) : MSok bT Ext MT sm_207 := achk_ok (nm := 297) (sm := [sm_79, sm_77, sm_206, sm_204, sm_205]) (labs := lb_207) (sp := []) (fuel := 28) (rE := [(1000000, (2, 0)), (0, (2, 0)), (0, (2, 0))]) (maxL := 6) (M := mX11_times) mt_X11_times rfl os_X11_times MT_len ((mA.cons (ms_79 hX) (mA.cons (ms_77 hX) (mA.cons (ms_206 hX) (mA.cons (ms_204 hX) (mA.cons (ms_205 hX) mA.nil)))))) (pE hX (by decide +kernel)) (by decide +kernel)
def sm_208 : aM := (259, 9, [(1, 0, 0), (0, (-2147483648), 2147483647)], [(68, 38, 0, 5), (26, 0, 10000000068, 38), (68, 43, 0, 5), (26, 1, 10000000068, 43), (68, 48, 0, 5), (26, 2, 10000000068, 48), (68, 53, 0, 5), (26, 3, 10000000068, 53), (68, 58, 0, 5), (26, 4, 10000000068, 58), (68, 63, 0, 5), (26, 5, 10000000068, 63)], [(0, 7, 7), (1, 0, 11), (19, 1, 1), (19, 9, 9), (24, 0, 5), (33, 0, 4), (34, 0, 31), (52, 0, 4), (53, 0, 4), (54, 0, 4)], [(some ((-1), 4), [], [(26, 0, 10000000068, 38), (26, 1, 10000000068, 43), (26, 2, 10000000068, 48), (26, 3, 10000000068, 53), (26, 4, 10000000068, 58), (26, 5, 10000000068, 63)])])
def lb_208 : List aLab := [(50, [some (1, 0), some (0, 0), some (0, 1), some (0, 2), none], [], [(0, 4, none), ((-2147483648), 2147483647, none), (0, 4, none), (0, 5, none), (0, 5, none), (0, 5, none), (0, 5, none), (0, 5, none), (0, 5, none)], [(26, 0, (0, 3)), (26, 1, (0, 4)), (26, 2, (0, 5)), (26, 3, (0, 6)), (26, 4, (0, 7)), (26, 5, (0, 8)), (68, 38, (0, 3)), (68, 43, (0, 4)), (68, 48, (0, 5)), (68, 53, (0, 6)), (68, 58, (0, 7)), (68, 63, (0, 8))], [(99950, (2, 0)), (4, (0, 2)), (99950, (2, 0))])]
theorem ms_208 {Ext : gI → Prop} (hX : pSt Ext) : MSok bT Ext MT sm_208 := achk_ok (nm := 297) (sm := [sm_79, sm_136, sm_77, sm_133, sm_117, sm_73]) (labs := lb_208) (sp := []) (fuel := 50) (rE := [(1000000, (2, 0)), (0, (2, 0)), (0, (2, 0))]) (maxL := 5) (M := mX11_prove) mt_X11_prove rfl os_X11_prove MT_len ((mA.cons (ms_79 hX) (mA.cons (ms_136 hX) (mA.cons (ms_77 hX) (mA.cons (ms_133 hX) (mA.cons (ms_117 hX) (mA.cons (ms_73 hX) mA.nil))))))) (pE hX (by decide +kernel)) (by decide +kernel)
def sm_209 : aM := (37, 0, [(0, (-2147483648), 2147483647), (0, 0, 0), (0, (-1), 3)], [], [], [(some (1, 1), [(0, 0, 3), (2, 0, 3)], []), (some (0, 0), [], [])])
def lb_209 : List aLab := []
theorem ms_209 {Ext : gI → Prop} (hX : pSt Ext) : MSok bT Ext MT sm_209 := achk_ok (nm := 297) (sm := []) (labs := lb_209) (sp := []) (fuel := 14) (rE := [(1000000, (2, 0))]) (maxL := 3) (M := mX11_isIn) mt_X11_isIn rfl os_X11_isIn MT_len ( mA.nil) (pE hX (by decide +kernel)) (by decide +kernel)
def sm_210 : aM := (37, 0, [(0, (-2147483648), 2147483647), (0, 0, 0), (0, 2, 2)], [], [], [(some (1, 1), [(0, 0, 2)], []), (some (0, 0), [], [])])
def lb_210 : List aLab := []
theorem ms_210 {Ext : gI → Prop} (hX : pSt Ext) : MSok bT Ext MT sm_210 := achk_ok (nm := 297) (sm := []) (labs := lb_210) (sp := []) (fuel := 14) (rE := [(1000000, (2, 0))]) (maxL := 3) (M := mX11_isIn) mt_X11_isIn rfl os_X11_isIn MT_len ( mA.nil) (pE hX (by decide +kernel)) (by decide +kernel)
def sm_211 : aM := (262, 1, [(1, 0, 0), (0, (-2147483648), 2147483647), (0, (-2147483648), 2147483647)], [], [], [(some (0, 0), [], []), (some (1, 1), [(1, 0, 3), (2, 0, 2)], [])])
def lb_211 : List aLab := []
theorem ms_211 {Ext : gI → Prop} (hX : pSt Ext) : MSok bT Ext MT sm_211 := achk_ok (nm := 297) (sm := [sm_210, sm_209]) (labs := lb_211) (sp := []) (fuel := 21) (rE := [(1000000, (2, 0))]) (maxL := 3) (M := mX11_isRowField) mt_X11_isRowField rfl os_X11_isRowField MT_len ((mA.cons (ms_210 hX) (mA.cons (ms_209 hX) mA.nil))) (pE hX (by decide +kernel)) (by decide +kernel)
def sm_212 : aM := (261, 2, [(1, 0, 0), (0, (-2147483648), 2147483647), (0, (-2147483648), 2147483647)], [], [], [(some ((-2147483648), 2147483647), [], [])])
def lb_212 : List aLab := []
theorem ms_212 {Ext : gI → Prop} (hX : pSt Ext) : MSok bT Ext MT sm_212 := achk_ok (nm := 297) (sm := [sm_211]) (labs := lb_212) (sp := []) (fuel := 20) (rE := [(1000000, (2, 0))]) (maxL := 3) (M := mX11_row) mt_X11_row rfl os_X11_row MT_len ((mA.cons (ms_211 hX) mA.nil)) (pE hX (by decide +kernel)) (by decide +kernel)
def sm_213 : aM := (265, 2, [(1, 0, 0), (0, (-2147483648), 2147483647), (0, (-2147483648), 2147483647), (0, (-2147483648), 2147483647)], [], [(1, 0, 11)], [(some ((-2147483648), 2147483647), [], [])])
def lb_213 : List aLab := []
theorem ms_213 {Ext : gI → Prop} (hX : pSt Ext) : MSok bT Ext MT sm_213 := achk_ok (nm := 297) (sm := [sm_211]) (labs := lb_213) (sp := []) (fuel := 30) (rE := [(1000000, (2, 0))]) (maxL := 5) (M := mX11_alterRow) mt_X11_alterRow rfl os_X11_alterRow MT_len ((mA.cons (ms_211 hX) mA.nil)) (pE hX (by decide +kernel)) (by decide +kernel)
def sm_214 : aM := (101, 0, [(1, 19, 0), (0, (-2147483648), 2147483647)], [], [], [(some (1, 1), [(1, 0, 6)], []), (some (0, 0), [], [])])
def lb_214 : List aLab := []
theorem ms_214 {Ext : gI → Prop} (hX : pSt Ext) : MSok bT Ext MT sm_214 := achk_ok (nm := 297) (sm := []) (labs := lb_214) (sp := []) (fuel := 14) (rE := [(1000000, (2, 0))]) (maxL := 2) (M := mX1_isAct) mt_X1_isAct rfl os_X1_isAct MT_len ( mA.nil) (pE hX (by decide +kernel)) (by decide +kernel)
def sm_218 : aM := (102, 6, [(1, 0, 0), (0, 0, 9)], [(68, 38, 0, 5), (26, 0, 10000000068, 38), (68, 43, 0, 5), (26, 1, 10000000068, 43), (68, 48, 0, 5), (26, 2, 10000000068, 48), (68, 53, 0, 5), (26, 3, 10000000068, 53), (68, 58, 0, 5), (26, 4, 10000000068, 58), (68, 63, 0, 5), (26, 5, 10000000068, 63)], [(19, 1, 1), (19, 9, 9), (24, 0, 5), (33, 0, 4)], [(some (0, 0), [], [(26, 0, 10000000068, 38), (26, 1, 10000000068, 43), (26, 2, 10000000068, 48), (26, 3, 10000000068, 53), (26, 4, 10000000068, 58), (26, 5, 10000000068, 63)]), (some (1, 1), [], [(19, 2, (-2147483647), 2147483647), (26, 0, 10000000068, 38), (26, 1, 10000000068, 43), (26, 2, 10000000068, 48), (26, 3, 10000000068, 53), (26, 4, 10000000068, 58), (26, 5, 10000000068, 63)])])
def lb_218 : List aLab := []
theorem ms_218 {Ext : gI → Prop} (hX : pSt Ext) : MSok bT Ext MT sm_218 := achk_ok (nm := 297) (sm := [sm_62, sm_214, sm_73]) (labs := lb_218) (sp := []) (fuel := 46) (rE := [(1000000, (2, 0))]) (maxL := 3) (M := mX11_isRowRight) mt_X11_isRowRight rfl os_X11_isRowRight MT_len ((mA.cons (ms_62 hX) (mA.cons (ms_214 hX) (mA.cons (ms_73 hX) mA.nil)))) (pE hX (by decide +kernel)) (by decide +kernel)
def sm_219 : aM := (267, 7, [(1, 0, 0)], [(68, 38, 0, 5), (26, 0, 10000000068, 38), (68, 43, 0, 5), (26, 1, 10000000068, 43), (68, 48, 0, 5), (26, 2, 10000000068, 48), (68, 53, 0, 5), (26, 3, 10000000068, 53), (68, 58, 0, 5), (26, 4, 10000000068, 58), (68, 63, 0, 5), (26, 5, 10000000068, 63)], [(19, 1, 1), (19, 9, 9), (24, 0, 5), (33, 0, 4), (34, 0, 7)], [(some (0, 4), [], [(26, 0, 10000000068, 38), (26, 1, 10000000068, 43), (26, 2, 10000000068, 48), (26, 3, 10000000068, 53), (26, 4, 10000000068, 58), (26, 5, 10000000068, 63)])])
def lb_219 : List aLab := [(12, [some (1, 0), some (0, 0), some (0, 1)], [], [(0, 4, none), (0, 4, none), (0, 5, none), (0, 5, none), (0, 5, none), (0, 5, none), (0, 5, none), (0, 5, none)], [(26, 0, (0, 2)), (26, 1, (0, 3)), (26, 2, (0, 4)), (26, 3, (0, 5)), (26, 4, (0, 6)), (26, 5, (0, 7)), (68, 38, (0, 2)), (68, 43, (0, 3)), (68, 48, (0, 4)), (68, 53, (0, 5)), (68, 58, (0, 6)), (68, 63, (0, 7))], [(99988, (2, 0)), (4, (0, 1)), (99988, (2, 0))])]
theorem ms_219 {Ext : gI → Prop} (hX : pSt Ext) : MSok bT Ext MT sm_219 := achk_ok (nm := 297) (sm := [sm_79, sm_77, sm_218]) (labs := lb_219) (sp := []) (fuel := 24) (rE := [(1000000, (2, 0)), (0, (2, 0)), (0, (2, 0))]) (maxL := 3) (M := mX11_judge) mt_X11_judge rfl os_X11_judge MT_len ((mA.cons (ms_79 hX) (mA.cons (ms_77 hX) (mA.cons (ms_218 hX) mA.nil)))) (pE hX (by decide +kernel)) (by decide +kernel)
def sm_220 : aM := (103, 1, [(0, (-2147483648), 2147483647)], [], [], [(some (0, 0), [], []), (some (1, 1), [(0, 0, 3)], [])])
def lb_220 : List aLab := []
theorem ms_220 {Ext : gI → Prop} (hX : pSt Ext) : MSok bT Ext MT sm_220 := achk_ok (nm := 297) (sm := [sm_135]) (labs := lb_220) (sp := []) (fuel := 10) (rE := [(1000000, (2, 0))]) (maxL := 1) (M := mX11_isPlace) mt_X11_isPlace rfl os_X11_isPlace MT_len ((mA.cons (ms_135 hX) mA.nil)) (pE hX (by decide +kernel)) (by decide +kernel)
def sm_221 : aM := (37, 0, [(0, (-2147483648), 2147483647), (0, (-1), (-1)), (0, 4, 4)], [], [], [(some (1, 1), [(0, (-1), 4)], []), (some (0, 0), [], [])])
def lb_221 : List aLab := []
theorem ms_221 {Ext : gI → Prop} (hX : pSt Ext) : MSok bT Ext MT sm_221 := achk_ok (nm := 297) (sm := []) (labs := lb_221) (sp := []) (fuel := 14) (rE := [(1000000, (2, 0))]) (maxL := 3) (M := mX11_isIn) mt_X11_isIn rfl os_X11_isIn MT_len ( mA.nil) (pE hX (by decide +kernel)) (by decide +kernel)
def sm_222 : aM := (269, 2, [(1, 0, 0), (0, (-2147483648), 2147483647), (0, (-2147483648), 2147483647), (0, (-2147483648), 2147483647)], [], [(2, 0, 3), (3, 0, 3), (5, 0, 39), (6, 0, 39), (7, 0, 39), (8, 0, 39)], [(some ((-14), 1), [], [])])
def lb_222 : List aLab := [(48, [some (1, 0), some (0, 0), some (0, 1), some (0, 2), some (0, 3)], [], [(0, 3, none), (0, 4, none), (0, 40, none), (0, 40, none)], [], [(99952, (2, 0)), (40, (0, 3)), (99952, (2, 0))])]
theorem ms_222 {Ext : gI → Prop} (hX : pSt Ext) : MSok bT Ext MT sm_222 := achk_ok (nm := 297) (sm := [sm_220, sm_221]) (labs := lb_222) (sp := []) (fuel := 29) (rE := [(1000000, (2, 0)), (0, (2, 0)), (0, (2, 0))]) (maxL := 5) (M := mX11_sheet) mt_X11_sheet rfl os_X11_sheet MT_len ((mA.cons (ms_220 hX) (mA.cons (ms_221 hX) mA.nil))) (pE hX (by decide +kernel)) (by decide +kernel)
def sm_223 : aM := (37, 0, [(0, (-2147483648), 2147483647), (0, 0, 0), (0, (-1), 39)], [], [], [(some (1, 1), [(0, 0, 39), (2, 0, 39)], []), (some (0, 0), [], [])])
def lb_223 : List aLab := []
theorem ms_223 {Ext : gI → Prop} (hX : pSt Ext) : MSok bT Ext MT sm_223 := achk_ok (nm := 297) (sm := []) (labs := lb_223) (sp := []) (fuel := 14) (rE := [(1000000, (2, 0))]) (maxL := 3) (M := mX11_isIn) mt_X11_isIn rfl os_X11_isIn MT_len ( mA.nil) (pE hX (by decide +kernel)) (by decide +kernel)
def sm_224 : aM := (105, 1, [(1, 0, 0), (0, 0, 3), (0, (-2147483648), 2147483647)], [], [], [(some (0, 0), [], []), (some (1, 1), [(2, 0, 39)], [])])
def lb_224 : List aLab := []
theorem ms_224 {Ext : gI → Prop} (hX : pSt Ext) : MSok bT Ext MT sm_224 := achk_ok (nm := 297) (sm := [sm_223]) (labs := lb_224) (sp := []) (fuel := 15) (rE := [(1000000, (2, 0))]) (maxL := 3) (M := mX11_isItem) mt_X11_isItem rfl os_X11_isItem MT_len ((mA.cons (ms_223 hX) mA.nil)) (pE hX (by decide +kernel)) (by decide +kernel)
def sm_225 : aM := (272, 0, [(0, (-2147483648), 2147483647), (0, (-2147483648), 2147483647)], [], [], [(some ((-2147483648), 2147483647), [], [])])
def lb_225 : List aLab := []
theorem ms_225 {Ext : gI → Prop} (hX : pSt Ext) : MSok bT Ext MT sm_225 := achk_ok (nm := 297) (sm := []) (labs := lb_225) (sp := []) (fuel := 12) (rE := [(1000000, (2, 0))]) (maxL := 2) (M := mX11_narrowed) mt_X11_narrowed rfl os_X11_narrowed MT_len ( mA.nil) (pE hX (by decide +kernel)) (by decide +kernel)
def sm_226 : aM := (271, 2, [(1, 0, 0), (0, (-2147483648), 2147483647), (0, (-2147483648), 2147483647), (0, (-2147483648), 2147483647)], [], [(5, 0, 39), (6, 0, 39), (7, 0, 39), (8, 0, 39)], [(some ((-12), 1), [], [])])
def lb_226 : List aLab := []
theorem ms_226 {Ext : gI → Prop} (hX : pSt Ext) : MSok bT Ext MT sm_226 := achk_ok (nm := 297) (sm := [sm_220, sm_224, sm_225]) (labs := lb_226) (sp := []) (fuel := 33) (rE := [(1000000, (2, 0))]) (maxL := 4) (M := mX11_write) mt_X11_write rfl os_X11_write MT_len ((mA.cons (ms_220 hX) (mA.cons (ms_224 hX) (mA.cons (ms_225 hX) mA.nil)))) (pE hX (by decide +kernel)) (by decide +kernel)
def sm_227 : aM := (104, 0, [(1, 0, 0), (0, 0, 3), (0, 0, 4)], [], [], [(some ((-13), 0), [], [])])
def lb_227 : List aLab := []
theorem ms_227 {Ext : gI → Prop} (hX : pSt Ext) : MSok bT Ext MT sm_227 := achk_ok (nm := 297) (sm := []) (labs := lb_227) (sp := []) (fuel := 20) (rE := [(1000000, (2, 0))]) (maxL := 3) (M := mX11_refusalOf) mt_X11_refusalOf rfl os_X11_refusalOf MT_len ( mA.nil) (pE hX (by decide +kernel)) (by decide +kernel)
def sm_228 : aM := (275, 2, [(1, 0, 0), (0, (-2147483648), 2147483647), (0, (-2147483648), 2147483647), (0, (-2147483648), 2147483647)], [], [], [(some ((-2147483648), 2147483647), [], [])])
def lb_228 : List aLab := []
theorem ms_228 {Ext : gI → Prop} (hX : pSt Ext) : MSok bT Ext MT sm_228 := achk_ok (nm := 297) (sm := [sm_227, sm_220, sm_116, sm_224]) (labs := lb_228) (sp := []) (fuel := 33) (rE := [(1000000, (2, 0))]) (maxL := 5) (M := mX11_item) mt_X11_item rfl os_X11_item MT_len ((mA.cons (ms_227 hX) (mA.cons (ms_220 hX) (mA.cons (ms_116 hX) (mA.cons (ms_224 hX) mA.nil))))) (pE hX (by decide +kernel)) (by decide +kernel)
def sm_229 : aM := (37, 0, [(0, (-2147483648), 2147483647), (0, 0, 0), (0, 20, 20)], [], [], [(some (1, 1), [(0, 0, 20)], []), (some (0, 0), [], [])])
def lb_229 : List aLab := []
theorem ms_229 {Ext : gI → Prop} (hX : pSt Ext) : MSok bT Ext MT sm_229 := achk_ok (nm := 297) (sm := []) (labs := lb_229) (sp := []) (fuel := 14) (rE := [(1000000, (2, 0))]) (maxL := 3) (M := mX11_isIn) mt_X11_isIn rfl os_X11_isIn MT_len ( mA.nil) (pE hX (by decide +kernel)) (by decide +kernel)
def sm_230 : aM := (277, 6, [(1, 0, 0), (0, (-2147483648), 2147483647), (0, (-2147483648), 2147483647), (0, (-2147483648), 2147483647)], [], [(19, 1, 1), (19, 3, 3), (19, 9, 9), (24, 0, 5), (33, 0, 4)], [(some ((-2147483648), 2147483647), [], [])])
def lb_230 : List aLab := [(41, [some (1, 0), some (0, 0), some (0, 1), some (0, 2), some (2, 0), some (0, 3), some (0, 4), none], [], [(0, 3, none), ((-2147483648), 2147483647, none), (0, 20, none), ((-2147483648), 2147483647, none), (0, 20, none)], [], [(99959, (2, 0)), (20, (0, 4)), (99959, (2, 0))])]
theorem ms_230 {Ext : gI → Prop} (hX : pSt Ext) : MSok bT Ext MT sm_230 := achk_ok (nm := 297) (sm := [sm_62, sm_227, sm_220, sm_229, sm_214, sm_73, sm_74, sm_224]) (labs := lb_230) (sp := []) (fuel := 45) (rE := [(1000000, (2, 0)), (0, (2, 0)), (0, (2, 0))]) (maxL := 8) (M := mX11_goAll) mt_X11_goAll rfl os_X11_goAll MT_len ((mA.cons (ms_62 hX) (mA.cons (ms_227 hX) (mA.cons (ms_220 hX) (mA.cons (ms_229 hX) (mA.cons (ms_214 hX) (mA.cons (ms_73 hX) (mA.cons (ms_74 hX) (mA.cons (ms_224 hX) mA.nil))))))))) (pE hX (by decide +kernel)) (by decide +kernel)
def sm_231 : aM := (106, 6, [(1, 0, 0), (0, 0, 3), (0, (-2147483648), 2147483647), (0, 0, 20)], [(68, 38, 0, 5), (26, 0, 10000000068, 38), (68, 43, 0, 5), (26, 1, 10000000068, 43), (68, 48, 0, 5), (26, 2, 10000000068, 48), (68, 53, 0, 5), (26, 3, 10000000068, 53), (68, 58, 0, 5), (26, 4, 10000000068, 58), (68, 63, 0, 5), (26, 5, 10000000068, 63)], [(19, 1, 1), (19, 9, 9), (24, 0, 5), (33, 0, 4)], [(some ((-2147483648), 2147483647), [], [(26, 0, 10000000068, 38), (26, 1, 10000000068, 43), (26, 2, 10000000068, 48), (26, 3, 10000000068, 53), (26, 4, 10000000068, 58), (26, 5, 10000000068, 63)])])
def lb_231 : List aLab := [(6, [some (1, 0), some (0, 0), some (0, 1), some (0, 2), some (0, 3), some (0, 4), none], [], [(0, 3, none), ((-2147483648), 2147483647, none), (0, 20, none), ((-2147483648), 2147483647, none), (0, 2147483647, none), (0, 5, none), (0, 5, none), (0, 5, none), (0, 5, none), (0, 5, none), (0, 5, none)], [(26, 0, (0, 5)), (26, 1, (0, 6)), (26, 2, (0, 7)), (26, 3, (0, 8)), (26, 4, (0, 9)), (26, 5, (0, 10)), (68, 38, (0, 5)), (68, 43, (0, 6)), (68, 48, (0, 7)), (68, 53, (0, 8)), (68, 58, (0, 9)), (68, 63, (0, 10))], [(99994, (2, 0)), (20, (0, 4)), (99994, (2, 0))])]
theorem ms_231 {Ext : gI → Prop} (hX : pSt Ext) : MSok bT Ext MT sm_231 := achk_ok (nm := 297) (sm := [sm_62, sm_214, sm_73, sm_224]) (labs := lb_231) (sp := []) (fuel := 43) (rE := [(1000000, (2, 0)), (0, (2, 0)), (0, (2, 0))]) (maxL := 7) (M := mX11_goItems) mt_X11_goItems rfl os_X11_goItems MT_len ((mA.cons (ms_62 hX) (mA.cons (ms_214 hX) (mA.cons (ms_73 hX) (mA.cons (ms_224 hX) mA.nil))))) (pE hX (by decide +kernel)) (by decide +kernel)
def sm_232 : aM := (279, 7, [(1, 0, 0), (0, (-2147483648), 2147483647), (0, (-2147483648), 2147483647), (0, (-2147483648), 2147483647)], [(68, 38, 0, 5), (26, 0, 10000000068, 38), (68, 43, 0, 5), (26, 1, 10000000068, 43), (68, 48, 0, 5), (26, 2, 10000000068, 48), (68, 53, 0, 5), (26, 3, 10000000068, 53), (68, 58, 0, 5), (26, 4, 10000000068, 58), (68, 63, 0, 5), (26, 5, 10000000068, 63)], [(19, 1, 1), (19, 9, 9), (24, 0, 5), (33, 0, 4), (34, 0, 7)], [(some ((-2147483648), 2147483647), [], [(26, 0, 10000000068, 38), (26, 1, 10000000068, 43), (26, 2, 10000000068, 48), (26, 3, 10000000068, 53), (26, 4, 10000000068, 58), (26, 5, 10000000068, 63)])])
def lb_232 : List aLab := []
theorem ms_232 {Ext : gI → Prop} (hX : pSt Ext) : MSok bT Ext MT sm_232 := achk_ok (nm := 297) (sm := [sm_79, sm_227, sm_77, sm_220, sm_229, sm_231]) (labs := lb_232) (sp := []) (fuel := 36) (rE := [(1000000, (2, 0))]) (maxL := 6) (M := mX11_wouldBe) mt_X11_wouldBe rfl os_X11_wouldBe MT_len ((mA.cons (ms_79 hX) (mA.cons (ms_227 hX) (mA.cons (ms_77 hX) (mA.cons (ms_220 hX) (mA.cons (ms_229 hX) (mA.cons (ms_231 hX) mA.nil))))))) (pE hX (by decide +kernel)) (by decide +kernel)
def sm_233 : aM := (37, 0, [(0, (-2147483648), 2147483647), (0, 10, 10), (0, 14, 14)], [], [], [(some (1, 1), [(0, 10, 14)], []), (some (0, 0), [], [])])
def lb_233 : List aLab := []
theorem ms_233 {Ext : gI → Prop} (hX : pSt Ext) : MSok bT Ext MT sm_233 := achk_ok (nm := 297) (sm := []) (labs := lb_233) (sp := []) (fuel := 14) (rE := [(1000000, (2, 0))]) (maxL := 3) (M := mX11_isIn) mt_X11_isIn rfl os_X11_isIn MT_len ( mA.nil) (pE hX (by decide +kernel)) (by decide +kernel)
def sm_234 : aM := (107, 1, [(1, 0, 0), (0, 3, 3)], [], [], [(some (0, 0), [], []), (some (1, 1), [], [(9, 3, 0, 0), (10, 3, 0, 5), (19, 8, 1, 6)])])
def lb_234 : List aLab := []
theorem ms_234 {Ext : gI → Prop} (hX : pSt Ext) : MSok bT Ext MT sm_234 := achk_ok (nm := 297) (sm := [sm_6]) (labs := lb_234) (sp := []) (fuel := 21) (rE := [(1000000, (2, 0))]) (maxL := 2) (M := mX11_holdsKey) mt_X11_holdsKey rfl os_X11_holdsKey MT_len ((mA.cons (ms_6 hX) mA.nil)) (pE hX (by decide +kernel)) (by decide +kernel)
def sm_235 : aM := (107, 1, [(1, 0, 0), (0, 2, 2)], [], [], [(some (0, 0), [], []), (some (1, 1), [], [(9, 2, 0, 0), (10, 2, 0, 5), (19, 8, 1, 6)])])
def lb_235 : List aLab := []
theorem ms_235 {Ext : gI → Prop} (hX : pSt Ext) : MSok bT Ext MT sm_235 := achk_ok (nm := 297) (sm := [sm_6]) (labs := lb_235) (sp := []) (fuel := 21) (rE := [(1000000, (2, 0))]) (maxL := 2) (M := mX11_holdsKey) mt_X11_holdsKey rfl os_X11_holdsKey MT_len ((mA.cons (ms_6 hX) mA.nil)) (pE hX (by decide +kernel)) (by decide +kernel)
def sm_236 : aM := (107, 1, [(1, 0, 0), (0, 1, 1)], [], [], [(some (0, 0), [], []), (some (1, 1), [], [(9, 1, 0, 0), (10, 1, 0, 5), (19, 8, 1, 6)])])
def lb_236 : List aLab := []
theorem ms_236 {Ext : gI → Prop} (hX : pSt Ext) : MSok bT Ext MT sm_236 := achk_ok (nm := 297) (sm := [sm_6]) (labs := lb_236) (sp := []) (fuel := 21) (rE := [(1000000, (2, 0))]) (maxL := 2) (M := mX11_holdsKey) mt_X11_holdsKey rfl os_X11_holdsKey MT_len ((mA.cons (ms_6 hX) mA.nil)) (pE hX (by decide +kernel)) (by decide +kernel)
def sm_237 : aM := (107, 1, [(1, 0, 0), (0, 0, 0)], [], [], [(some (0, 0), [], []), (some (1, 1), [], [(9, 0, 0, 0), (10, 0, 0, 5), (19, 8, 1, 6)])])
def lb_237 : List aLab := []
theorem ms_237 {Ext : gI → Prop} (hX : pSt Ext) : MSok bT Ext MT sm_237 := achk_ok (nm := 297) (sm := [sm_6]) (labs := lb_237) (sp := []) (fuel := 21) (rE := [(1000000, (2, 0))]) (maxL := 2) (M := mX11_holdsKey) mt_X11_holdsKey rfl os_X11_holdsKey MT_len ((mA.cons (ms_6 hX) mA.nil)) (pE hX (by decide +kernel)) (by decide +kernel)
def sm_238 : aM := (283, 2, [(1, 0, 0), (0, (-2147483648), 2147483647), (0, (-2147483648), 2147483647)], [], [], [(some ((-2147483648), 2147483647), [], [])])
def lb_238 : List aLab := []
theorem ms_238 {Ext : gI → Prop} (hX : pSt Ext) : MSok bT Ext MT sm_238 := achk_ok (nm := 297) (sm := [sm_234, sm_235, sm_236, sm_237, sm_4, sm_220, sm_233, sm_9]) (labs := lb_238) (sp := [(31, 0, 1, [])]) (fuel := 47) (rE := [(1000000, (2, 0))]) (maxL := 5) (M := mX11_taken) mt_X11_taken rfl os_X11_taken MT_len ((mA.cons (ms_234 hX) (mA.cons (ms_235 hX) (mA.cons (ms_236 hX) (mA.cons (ms_237 hX) (mA.cons (ms_4 hX) (mA.cons (ms_220 hX) (mA.cons (ms_233 hX) (mA.cons (ms_9 hX) mA.nil))))))))) (pE hX (by decide +kernel)) (by decide +kernel)
def sm_239 : aM := (37, 0, [(0, (-2147483648), 2147483647), (0, 0, 0), (0, (-1), 29)], [], [], [(some (1, 1), [(0, 0, 29), (2, 0, 29)], []), (some (0, 0), [], [])])
def lb_239 : List aLab := []
theorem ms_239 {Ext : gI → Prop} (hX : pSt Ext) : MSok bT Ext MT sm_239 := achk_ok (nm := 297) (sm := []) (labs := lb_239) (sp := []) (fuel := 14) (rE := [(1000000, (2, 0))]) (maxL := 3) (M := mX11_isIn) mt_X11_isIn rfl os_X11_isIn MT_len ( mA.nil) (pE hX (by decide +kernel)) (by decide +kernel)
def sm_240 : aM := (287, 1, [(1, 0, 0), (0, (-2147483648), 2147483647)], [], [], [(some ((-2147483648), 2147483647), [], [])])
def lb_240 : List aLab := []
theorem ms_240 {Ext : gI → Prop} (hX : pSt Ext) : MSok bT Ext MT sm_240 := achk_ok (nm := 297) (sm := [sm_239]) (labs := lb_240) (sp := []) (fuel := 21) (rE := [(1000000, (2, 0))]) (maxL := 2) (M := mX11_trace) mt_X11_trace rfl os_X11_trace MT_len ((mA.cons (ms_239 hX) mA.nil)) (pE hX (by decide +kernel)) (by decide +kernel)
def sm_241 : aM := (289, 1, [(1, 0, 0), (0, (-2147483648), 2147483647)], [], [], [(some ((-1), 200), [], [])])
def lb_241 : List aLab := []
theorem ms_241 {Ext : gI → Prop} (hX : pSt Ext) : MSok bT Ext MT sm_241 := achk_ok (nm := 297) (sm := [sm_112]) (labs := lb_241) (sp := []) (fuel := 12) (rE := [(1000000, (2, 0))]) (maxL := 2) (M := mX11_many) mt_X11_many rfl os_X11_many MT_len ((mA.cons (ms_112 hX) mA.nil)) (pE hX (by decide +kernel)) (by decide +kernel)
def sm_243 : aM := (127, 0, [(0, (-2147483648), 2147483647), (0, 0, 0), (0, 99, 99)], [], [], [(some (1, 1), [(0, 0, 99)], []), (some (0, 0), [], [])])
def lb_243 : List aLab := []
theorem ms_243 {Ext : gI → Prop} (hX : pSt Ext) : MSok bT Ext MT sm_243 := achk_ok (nm := 297) (sm := []) (labs := lb_243) (sp := []) (fuel := 14) (rE := [(1000000, (2, 0))]) (maxL := 3) (M := mX12_in1) mt_X12_in1 rfl os_X12_in1 MT_len ( mA.nil) (pE hX (by decide +kernel)) (by decide +kernel)
def sm_244 : aM := (127, 0, [(0, (-2147483648), 2147483647), (0, 0, 0), (0, 9, 9)], [], [], [(some (1, 1), [(0, 0, 9)], []), (some (0, 0), [], [])])
def lb_244 : List aLab := []
theorem ms_244 {Ext : gI → Prop} (hX : pSt Ext) : MSok bT Ext MT sm_244 := achk_ok (nm := 297) (sm := []) (labs := lb_244) (sp := []) (fuel := 14) (rE := [(1000000, (2, 0))]) (maxL := 3) (M := mX12_in1) mt_X12_in1 rfl os_X12_in1 MT_len ( mA.nil) (pE hX (by decide +kernel)) (by decide +kernel)
def sm_245 : aM := (187, 1, [(0, (-2147483648), 2147483647)], [], [], [(some (0, 0), [], []), (some (1, 1), [(0, 0, 9)], [])])
def lb_245 : List aLab := []
theorem ms_245 {Ext : gI → Prop} (hX : pSt Ext) : MSok bT Ext MT sm_245 := achk_ok (nm := 297) (sm := [sm_244]) (labs := lb_245) (sp := []) (fuel := 10) (rE := [(1000000, (2, 0))]) (maxL := 1) (M := mX12_isDigit) mt_X12_isDigit rfl os_X12_isDigit MT_len ((mA.cons (ms_244 hX) mA.nil)) (pE hX (by decide +kernel)) (by decide +kernel)
def sm_246 : aM := (127, 0, [(0, (-2147483648), 2147483647), (0, 0, 0), (0, 5, 5)], [], [], [(some (1, 1), [(0, 0, 5)], []), (some (0, 0), [], [])])
def lb_246 : List aLab := []
theorem ms_246 {Ext : gI → Prop} (hX : pSt Ext) : MSok bT Ext MT sm_246 := achk_ok (nm := 297) (sm := []) (labs := lb_246) (sp := []) (fuel := 14) (rE := [(1000000, (2, 0))]) (maxL := 3) (M := mX12_in1) mt_X12_in1 rfl os_X12_in1 MT_len ( mA.nil) (pE hX (by decide +kernel)) (by decide +kernel)
def sm_247 : aM := (188, 1, [(0, (-2147483648), 2147483647)], [], [], [(some (0, 0), [], []), (some (1, 1), [(0, 0, 5)], [])])
def lb_247 : List aLab := []
theorem ms_247 {Ext : gI → Prop} (hX : pSt Ext) : MSok bT Ext MT sm_247 := achk_ok (nm := 297) (sm := [sm_246]) (labs := lb_247) (sp := []) (fuel := 10) (rE := [(1000000, (2, 0))]) (maxL := 1) (M := mX12_isGate) mt_X12_isGate rfl os_X12_isGate MT_len ((mA.cons (ms_246 hX) mA.nil)) (pE hX (by decide +kernel)) (by decide +kernel)
def sm_248 : aM := (127, 0, [(0, (-2147483648), 2147483647), (0, 0, 0), (0, (-1), 5)], [], [], [(some (1, 1), [(0, 0, 5), (2, 0, 5)], []), (some (0, 0), [], [])])
def lb_248 : List aLab := []
theorem ms_248 {Ext : gI → Prop} (hX : pSt Ext) : MSok bT Ext MT sm_248 := achk_ok (nm := 297) (sm := []) (labs := lb_248) (sp := []) (fuel := 14) (rE := [(1000000, (2, 0))]) (maxL := 3) (M := mX12_in1) mt_X12_in1 rfl os_X12_in1 MT_len ( mA.nil) (pE hX (by decide +kernel)) (by decide +kernel)
def sm_249 : aM := (149, 1, [(1, 67, 0), (0, (-2147483648), 2147483647)], [], [], [(some (0, 0), [], []), (some (1, 1), [(1, 0, 5)], [])])
def lb_249 : List aLab := []
theorem ms_249 {Ext : gI → Prop} (hX : pSt Ext) : MSok bT Ext MT sm_249 := achk_ok (nm := 297) (sm := [sm_248]) (labs := lb_249) (sp := []) (fuel := 15) (rE := [(1000000, (2, 0))]) (maxL := 2) (M := mX12_isKey) mt_X12_isKey rfl os_X12_isKey MT_len ((mA.cons (ms_248 hX) mA.nil)) (pE hX (by decide +kernel)) (by decide +kernel)
def sm_250 : aM := (112, 0, [(1, 67, 0), (0, 0, 5), (0, 0, 9)], [], [], [(some ((-2147483648), 2147483647), [], [])])
def lb_250 : List aLab := []
theorem ms_250 {Ext : gI → Prop} (hX : pSt Ext) : MSok bT Ext MT sm_250 := achk_ok (nm := 297) (sm := []) (labs := lb_250) (sp := [(0, 0, 1, [])]) (fuel := 17) (rE := [(1000000, (2, 0))]) (maxL := 3) (M := mX12_get) mt_X12_get rfl os_X12_get MT_len ( mA.nil) (pE hX (by decide +kernel)) (by decide +kernel)
def sm_251 : aM := (112, 0, [(1, 67, 0), (0, 0, 5), (0, 0, 0)], [], [], [(some (0, 5), [], [])])
def lb_251 : List aLab := []
theorem ms_251 {Ext : gI → Prop} (hX : pSt Ext) : MSok bT Ext MT sm_251 := achk_ok (nm := 297) (sm := []) (labs := lb_251) (sp := [(0, 0, 1, [])]) (fuel := 17) (rE := [(1000000, (2, 0))]) (maxL := 3) (M := mX12_get) mt_X12_get rfl os_X12_get MT_len ( mA.nil) (pE hX (by decide +kernel)) (by decide +kernel)
def sm_252 : aM := (113, 0, [(1, 67, 0), (0, 0, 0), (0, 0, 0)], [], [], [(some ((-2147483648), 2147483647), [], [])])
def lb_252 : List aLab := []
theorem ms_252 {Ext : gI → Prop} (hX : pSt Ext) : MSok bT Ext MT sm_252 := achk_ok (nm := 297) (sm := []) (labs := lb_252) (sp := []) (fuel := 16) (rE := [(1000000, (2, 0))]) (maxL := 3) (M := mX12_ruleOf) mt_X12_ruleOf rfl os_X12_ruleOf MT_len ( mA.nil) (pE hX (by decide +kernel)) (by decide +kernel)
def sm_253 : aM := (115, 0, [(0, 5, 5)], [], [], [(some (4, 4), [], [])])
def lb_253 : List aLab := []
theorem ms_253 {Ext : gI → Prop} (hX : pSt Ext) : MSok bT Ext MT sm_253 := achk_ok (nm := 297) (sm := []) (labs := lb_253) (sp := []) (fuel := 14) (rE := [(1000000, (2, 0))]) (maxL := 1) (M := mX12_above) mt_X12_above rfl os_X12_above MT_len ( mA.nil) (pE hX (by decide +kernel)) (by decide +kernel)
def sm_254 : aM := (115, 0, [(0, 4, 4)], [], [], [(some (0, 0), [], [])])
def lb_254 : List aLab := []
theorem ms_254 {Ext : gI → Prop} (hX : pSt Ext) : MSok bT Ext MT sm_254 := achk_ok (nm := 297) (sm := []) (labs := lb_254) (sp := []) (fuel := 13) (rE := [(1000000, (2, 0))]) (maxL := 1) (M := mX12_above) mt_X12_above rfl os_X12_above MT_len ( mA.nil) (pE hX (by decide +kernel)) (by decide +kernel)
def sm_255 : aM := (115, 0, [(0, 3, 3)], [], [], [(some (2, 2), [], [])])
def lb_255 : List aLab := []
theorem ms_255 {Ext : gI → Prop} (hX : pSt Ext) : MSok bT Ext MT sm_255 := achk_ok (nm := 297) (sm := []) (labs := lb_255) (sp := []) (fuel := 11) (rE := [(1000000, (2, 0))]) (maxL := 1) (M := mX12_above) mt_X12_above rfl os_X12_above MT_len ( mA.nil) (pE hX (by decide +kernel)) (by decide +kernel)
def sm_256 : aM := (115, 0, [(0, 2, 2)], [], [], [(some (0, 0), [], [])])
def lb_256 : List aLab := []
theorem ms_256 {Ext : gI → Prop} (hX : pSt Ext) : MSok bT Ext MT sm_256 := achk_ok (nm := 297) (sm := []) (labs := lb_256) (sp := []) (fuel := 13) (rE := [(1000000, (2, 0))]) (maxL := 1) (M := mX12_above) mt_X12_above rfl os_X12_above MT_len ( mA.nil) (pE hX (by decide +kernel)) (by decide +kernel)
def sm_257 : aM := (115, 0, [(0, 1, 1)], [], [], [(some (0, 0), [], [])])
def lb_257 : List aLab := []
theorem ms_257 {Ext : gI → Prop} (hX : pSt Ext) : MSok bT Ext MT sm_257 := achk_ok (nm := 297) (sm := []) (labs := lb_257) (sp := []) (fuel := 13) (rE := [(1000000, (2, 0))]) (maxL := 1) (M := mX12_above) mt_X12_above rfl os_X12_above MT_len ( mA.nil) (pE hX (by decide +kernel)) (by decide +kernel)
def sm_258 : aM := (114, 1, [(0, 0, 5), (0, (-2147483648), 2147483647)], [], [], [(some (1, 1), [(1, 0, 5)], []), (some (0, 0), [], [])])
def lb_258 : List aLab := []
theorem ms_258 {Ext : gI → Prop} (hX : pSt Ext) : MSok bT Ext MT sm_258 := achk_ok (nm := 297) (sm := [sm_253, sm_254, sm_255, sm_256, sm_257]) (labs := lb_258) (sp := [(0, 0, 0, [])]) (fuel := 37) (rE := [(1000000, (2, 0))]) (maxL := 3) (M := mX12_isUnder) mt_X12_isUnder rfl os_X12_isUnder MT_len ((mA.cons (ms_253 hX) (mA.cons (ms_254 hX) (mA.cons (ms_255 hX) (mA.cons (ms_256 hX) (mA.cons (ms_257 hX) mA.nil)))))) (pE hX (by decide +kernel)) (by decide +kernel)
def sm_260 : aM := (113, 0, [(1, 67, 0), (0, 0, 0), (0, 1, 1)], [], [], [(some ((-2147483648), 2147483647), [], [])])
def lb_260 : List aLab := []
theorem ms_260 {Ext : gI → Prop} (hX : pSt Ext) : MSok bT Ext MT sm_260 := achk_ok (nm := 297) (sm := []) (labs := lb_260) (sp := []) (fuel := 16) (rE := [(1000000, (2, 0))]) (maxL := 3) (M := mX12_ruleOf) mt_X12_ruleOf rfl os_X12_ruleOf MT_len ( mA.nil) (pE hX (by decide +kernel)) (by decide +kernel)
def sm_268 : aM := (113, 0, [(1, 67, 0), (0, 0, 1), (0, 0, 0)], [], [], [(some ((-2147483648), 2147483647), [], [])])
def lb_268 : List aLab := []
theorem ms_268 {Ext : gI → Prop} (hX : pSt Ext) : MSok bT Ext MT sm_268 := achk_ok (nm := 297) (sm := []) (labs := lb_268) (sp := []) (fuel := 16) (rE := [(1000000, (2, 0))]) (maxL := 3) (M := mX12_ruleOf) mt_X12_ruleOf rfl os_X12_ruleOf MT_len ( mA.nil) (pE hX (by decide +kernel)) (by decide +kernel)
def sm_269 : aM := (113, 0, [(1, 67, 0), (0, 0, 1), (0, 1, 1)], [], [], [(some ((-2147483648), 2147483647), [], [])])
def lb_269 : List aLab := []
theorem ms_269 {Ext : gI → Prop} (hX : pSt Ext) : MSok bT Ext MT sm_269 := achk_ok (nm := 297) (sm := []) (labs := lb_269) (sp := []) (fuel := 16) (rE := [(1000000, (2, 0))]) (maxL := 3) (M := mX12_ruleOf) mt_X12_ruleOf rfl os_X12_ruleOf MT_len ( mA.nil) (pE hX (by decide +kernel)) (by decide +kernel)
def sm_270 : aM := (113, 0, [(1, 67, 0), (0, 0, 2), (0, 0, 0)], [], [], [(some ((-2147483648), 2147483647), [], [])])
def lb_270 : List aLab := []
theorem ms_270 {Ext : gI → Prop} (hX : pSt Ext) : MSok bT Ext MT sm_270 := achk_ok (nm := 297) (sm := []) (labs := lb_270) (sp := []) (fuel := 16) (rE := [(1000000, (2, 0))]) (maxL := 3) (M := mX12_ruleOf) mt_X12_ruleOf rfl os_X12_ruleOf MT_len ( mA.nil) (pE hX (by decide +kernel)) (by decide +kernel)
def sm_271 : aM := (113, 0, [(1, 67, 0), (0, 0, 2), (0, 1, 1)], [], [], [(some ((-2147483648), 2147483647), [], [])])
def lb_271 : List aLab := []
theorem ms_271 {Ext : gI → Prop} (hX : pSt Ext) : MSok bT Ext MT sm_271 := achk_ok (nm := 297) (sm := []) (labs := lb_271) (sp := []) (fuel := 16) (rE := [(1000000, (2, 0))]) (maxL := 3) (M := mX12_ruleOf) mt_X12_ruleOf rfl os_X12_ruleOf MT_len ( mA.nil) (pE hX (by decide +kernel)) (by decide +kernel)
def sm_272 : aM := (113, 0, [(1, 67, 0), (0, 0, 4), (0, 0, 0)], [], [], [(some ((-2147483648), 2147483647), [], [])])
def lb_272 : List aLab := []
theorem ms_272 {Ext : gI → Prop} (hX : pSt Ext) : MSok bT Ext MT sm_272 := achk_ok (nm := 297) (sm := []) (labs := lb_272) (sp := []) (fuel := 16) (rE := [(1000000, (2, 0))]) (maxL := 3) (M := mX12_ruleOf) mt_X12_ruleOf rfl os_X12_ruleOf MT_len ( mA.nil) (pE hX (by decide +kernel)) (by decide +kernel)
def sm_273 : aM := (113, 0, [(1, 67, 0), (0, 0, 4), (0, 1, 1)], [], [], [(some ((-2147483648), 2147483647), [], [])])
def lb_273 : List aLab := []
theorem ms_273 {Ext : gI → Prop} (hX : pSt Ext) : MSok bT Ext MT sm_273 := achk_ok (nm := 297) (sm := []) (labs := lb_273) (sp := []) (fuel := 16) (rE := [(1000000, (2, 0))]) (maxL := 3) (M := mX12_ruleOf) mt_X12_ruleOf rfl os_X12_ruleOf MT_len ( mA.nil) (pE hX (by decide +kernel)) (by decide +kernel)
def sm_274 : aM := (113, 0, [(1, 67, 0), (0, 0, 5), (0, 0, 0)], [], [], [(some ((-2147483648), 2147483647), [], [])])
def lb_274 : List aLab := []
theorem ms_274 {Ext : gI → Prop} (hX : pSt Ext) : MSok bT Ext MT sm_274 := achk_ok (nm := 297) (sm := []) (labs := lb_274) (sp := []) (fuel := 16) (rE := [(1000000, (2, 0))]) (maxL := 3) (M := mX12_ruleOf) mt_X12_ruleOf rfl os_X12_ruleOf MT_len ( mA.nil) (pE hX (by decide +kernel)) (by decide +kernel)
def sm_275 : aM := (113, 0, [(1, 67, 0), (0, 0, 5), (0, 1, 1)], [], [], [(some ((-2147483648), 2147483647), [], [])])
def lb_275 : List aLab := []
theorem ms_275 {Ext : gI → Prop} (hX : pSt Ext) : MSok bT Ext MT sm_275 := achk_ok (nm := 297) (sm := []) (labs := lb_275) (sp := []) (fuel := 16) (rE := [(1000000, (2, 0))]) (maxL := 3) (M := mX12_ruleOf) mt_X12_ruleOf rfl os_X12_ruleOf MT_len ( mA.nil) (pE hX (by decide +kernel)) (by decide +kernel)
def sm_276 : aM := (113, 0, [(1, 67, 0), (0, 0, 6), (0, 0, 0)], [], [], [(some ((-2147483648), 2147483647), [], [])])
def lb_276 : List aLab := []
theorem ms_276 {Ext : gI → Prop} (hX : pSt Ext) : MSok bT Ext MT sm_276 := achk_ok (nm := 297) (sm := []) (labs := lb_276) (sp := []) (fuel := 16) (rE := [(1000000, (2, 0))]) (maxL := 3) (M := mX12_ruleOf) mt_X12_ruleOf rfl os_X12_ruleOf MT_len ( mA.nil) (pE hX (by decide +kernel)) (by decide +kernel)
def sm_277 : aM := (113, 0, [(1, 67, 0), (0, 0, 6), (0, 1, 1)], [], [], [(some ((-2147483648), 2147483647), [], [])])
def lb_277 : List aLab := []
theorem ms_277 {Ext : gI → Prop} (hX : pSt Ext) : MSok bT Ext MT sm_277 := achk_ok (nm := 297) (sm := []) (labs := lb_277) (sp := []) (fuel := 16) (rE := [(1000000, (2, 0))]) (maxL := 3) (M := mX12_ruleOf) mt_X12_ruleOf rfl os_X12_ruleOf MT_len ( mA.nil) (pE hX (by decide +kernel)) (by decide +kernel)
def sm_278 : aM := (113, 0, [(1, 67, 0), (0, 0, 7), (0, 0, 0)], [], [], [(some ((-2147483648), 2147483647), [], [])])
def lb_278 : List aLab := []
theorem ms_278 {Ext : gI → Prop} (hX : pSt Ext) : MSok bT Ext MT sm_278 := achk_ok (nm := 297) (sm := []) (labs := lb_278) (sp := []) (fuel := 16) (rE := [(1000000, (2, 0))]) (maxL := 3) (M := mX12_ruleOf) mt_X12_ruleOf rfl os_X12_ruleOf MT_len ( mA.nil) (pE hX (by decide +kernel)) (by decide +kernel)
def sm_279 : aM := (113, 0, [(1, 67, 0), (0, 0, 7), (0, 1, 1)], [], [], [(some ((-2147483648), 2147483647), [], [])])
def lb_279 : List aLab := []
theorem ms_279 {Ext : gI → Prop} (hX : pSt Ext) : MSok bT Ext MT sm_279 := achk_ok (nm := 297) (sm := []) (labs := lb_279) (sp := []) (fuel := 16) (rE := [(1000000, (2, 0))]) (maxL := 3) (M := mX12_ruleOf) mt_X12_ruleOf rfl os_X12_ruleOf MT_len ( mA.nil) (pE hX (by decide +kernel)) (by decide +kernel)
def sm_281 : aM := (112, 0, [(1, 67, 0), (0, 0, 5), (0, 4, 4)], [], [], [(some (0, 1), [], [])])
def lb_281 : List aLab := []
theorem ms_281 {Ext : gI → Prop} (hX : pSt Ext) : MSok bT Ext MT sm_281 := achk_ok (nm := 297) (sm := []) (labs := lb_281) (sp := [(0, 0, 1, [])]) (fuel := 17) (rE := [(1000000, (2, 0))]) (maxL := 3) (M := mX12_get) mt_X12_get rfl os_X12_get MT_len ( mA.nil) (pE hX (by decide +kernel)) (by decide +kernel)
def sm_282 : aM := (112, 0, [(1, 67, 0), (0, 0, 5), (0, 3, 3)], [], [], [(some (0, 5), [], [])])
def lb_282 : List aLab := []
theorem ms_282 {Ext : gI → Prop} (hX : pSt Ext) : MSok bT Ext MT sm_282 := achk_ok (nm := 297) (sm := []) (labs := lb_282) (sp := [(0, 0, 1, [])]) (fuel := 17) (rE := [(1000000, (2, 0))]) (maxL := 3) (M := mX12_get) mt_X12_get rfl os_X12_get MT_len ( mA.nil) (pE hX (by decide +kernel)) (by decide +kernel)
def sm_283 : aM := (112, 0, [(1, 67, 0), (0, 0, 5), (0, 1, 1)], [], [], [(some (0, 99), [], [])])
def lb_283 : List aLab := []
theorem ms_283 {Ext : gI → Prop} (hX : pSt Ext) : MSok bT Ext MT sm_283 := achk_ok (nm := 297) (sm := []) (labs := lb_283) (sp := [(0, 0, 1, [])]) (fuel := 17) (rE := [(1000000, (2, 0))]) (maxL := 3) (M := mX12_get) mt_X12_get rfl os_X12_get MT_len ( mA.nil) (pE hX (by decide +kernel)) (by decide +kernel)
def sm_284 : aM := (112, 0, [(1, 67, 0), (0, 0, 5), (0, 2, 2)], [], [], [(some (0, 9), [], [])])
def lb_284 : List aLab := []
theorem ms_284 {Ext : gI → Prop} (hX : pSt Ext) : MSok bT Ext MT sm_284 := achk_ok (nm := 297) (sm := []) (labs := lb_284) (sp := [(0, 0, 1, [])]) (fuel := 17) (rE := [(1000000, (2, 0))]) (maxL := 3) (M := mX12_get) mt_X12_get rfl os_X12_get MT_len ( mA.nil) (pE hX (by decide +kernel)) (by decide +kernel)
def sm_285 : aM := (124, 0, [(0, (-2147483648), 2147483647), (0, (-2147483648), 2147483647), (0, (-2147483648), 2147483647), (0, (-2147483648), 2147483647)], [], [], [(some ((-2147483648), 2147483647), [], [])])
def lb_285 : List aLab := []
theorem ms_285 {Ext : gI → Prop} (hX : pSt Ext) : MSok bT Ext MT sm_285 := achk_ok (nm := 297) (sm := []) (labs := lb_285) (sp := []) (fuel := 31) (rE := [(1000000, (2, 0))]) (maxL := 6) (M := mX12_shapeBy) mt_X12_shapeBy rfl os_X12_shapeBy MT_len ( mA.nil) (pE hX (by decide +kernel)) (by decide +kernel)
def sm_286 : aM := (123, 1, [(1, 67, 0), (0, 0, 5)], [], [], [(some ((-2147483648), 2147483647), [], [])])
def lb_286 : List aLab := []
theorem ms_286 {Ext : gI → Prop} (hX : pSt Ext) : MSok bT Ext MT sm_286 := achk_ok (nm := 297) (sm := [sm_251, sm_283, sm_284, sm_285]) (labs := lb_286) (sp := []) (fuel := 20) (rE := [(1000000, (2, 0))]) (maxL := 2) (M := mX12_shapeOf) mt_X12_shapeOf rfl os_X12_shapeOf MT_len ((mA.cons (ms_251 hX) (mA.cons (ms_283 hX) (mA.cons (ms_284 hX) (mA.cons (ms_285 hX) mA.nil))))) (pE hX (by decide +kernel)) (by decide +kernel)
def sm_287 : aM := (125, 0, [(0, (-2147483648), 2147483647), (0, (-2147483648), 2147483647)], [], [], [(some ((-2147483648), 2147483647), [], [])])
def lb_287 : List aLab := []
theorem ms_287 {Ext : gI → Prop} (hX : pSt Ext) : MSok bT Ext MT sm_287 := achk_ok (nm := 297) (sm := []) (labs := lb_287) (sp := []) (fuel := 13) (rE := [(1000000, (2, 0))]) (maxL := 2) (M := mX12_apart) mt_X12_apart rfl os_X12_apart MT_len ( mA.nil) (pE hX (by decide +kernel)) (by decide +kernel)
def sm_288 : aM := (122, 2, [(1, 67, 0), (0, 0, 5), (0, (-2147483648), 2147483647)], [], [], [(some (1, 1), [], []), (some (0, 0), [], [])])
def lb_288 : List aLab := []
theorem ms_288 {Ext : gI → Prop} (hX : pSt Ext) : MSok bT Ext MT sm_288 := achk_ok (nm := 297) (sm := [sm_283, sm_286, sm_282, sm_287]) (labs := lb_288) (sp := []) (fuel := 30) (rE := [(1000000, (2, 0))]) (maxL := 3) (M := mX12_doesFit) mt_X12_doesFit rfl os_X12_doesFit MT_len ((mA.cons (ms_283 hX) (mA.cons (ms_286 hX) (mA.cons (ms_282 hX) (mA.cons (ms_287 hX) mA.nil))))) (pE hX (by decide +kernel)) (by decide +kernel)
def sm_289 : aM := (121, 3, [(1, 67, 0), (0, 0, 5)], [], [], [(some (0, 9), [], [])])
def lb_289 : List aLab := []
theorem ms_289 {Ext : gI → Prop} (hX : pSt Ext) : MSok bT Ext MT sm_289 := achk_ok (nm := 297) (sm := [sm_281, sm_282, sm_283, sm_288]) (labs := lb_289) (sp := []) (fuel := 33) (rE := [(1000000, (2, 0))]) (maxL := 2) (M := mX12_paysOf) mt_X12_paysOf rfl os_X12_paysOf MT_len ((mA.cons (ms_281 hX) (mA.cons (ms_282 hX) (mA.cons (ms_283 hX) (mA.cons (ms_288 hX) mA.nil))))) (pE hX (by decide +kernel)) (by decide +kernel)
def sm_291 : aM := (118, 0, [(1, 67, 0)], [], [], [(some (0, 15), [], [])])
def lb_291 : List aLab := []
theorem ms_291 {Ext : gI → Prop} (hX : pSt Ext) : MSok bT Ext MT sm_291 := achk_ok (nm := 297) (sm := []) (labs := lb_291) (sp := []) (fuel := 22) (rE := [(1000000, (2, 0))]) (maxL := 1) (M := mX12_sunNow) mt_X12_sunNow rfl os_X12_sunNow MT_len ( mA.nil) (pE hX (by decide +kernel)) (by decide +kernel)
def sm_292 : aM := (148, 0, [(0, (-2147483648), 2147483647), (0, (-2147483648), 2147483647), (0, (-2147483648), 2147483647), (0, (-2147483648), 2147483647)], [], [], [(some ((-2147483648), 2147483647), [], [])])
def lb_292 : List aLab := []
theorem ms_292 {Ext : gI → Prop} (hX : pSt Ext) : MSok bT Ext MT sm_292 := achk_ok (nm := 297) (sm := []) (labs := lb_292) (sp := []) (fuel := 27) (rE := [(1000000, (2, 0))]) (maxL := 6) (M := mX12_meltsBy) mt_X12_meltsBy rfl os_X12_meltsBy MT_len ( mA.nil) (pE hX (by decide +kernel)) (by decide +kernel)
def sm_303 : aM := (147, 1, [(1, 67, 0), (0, 0, 5)], [], [], [(some (0, 2147483647), [], [])])
def lb_303 : List aLab := [(39, [some (1, 67), some (0, 0), some (0, 1), some (0, 2)], [], [(0, 5, none), ((-2147483648), 2147483647, none), (0, 6, none)], [], [(99961, (2, 0)), (6, (0, 2)), (99961, (2, 0))])]
theorem ms_303 {Ext : gI → Prop} (hX : pSt Ext) : MSok bT Ext MT sm_303 := achk_ok (nm := 297) (sm := [sm_291, sm_251, sm_284, sm_281, sm_282, sm_292]) (labs := lb_303) (sp := []) (fuel := 36) (rE := [(1000000, (2, 0)), (0, (2, 0)), (0, (2, 0))]) (maxL := 4) (M := mX12_meltsOf) mt_X12_meltsOf rfl os_X12_meltsOf MT_len ((mA.cons (ms_291 hX) (mA.cons (ms_251 hX) (mA.cons (ms_284 hX) (mA.cons (ms_281 hX) (mA.cons (ms_282 hX) (mA.cons (ms_292 hX) mA.nil))))))) (pE hX (by decide +kernel)) (by decide +kernel)
def sm_305 : aM := (127, 0, [(0, (-2147483648), 2147483647), (0, 1, 1), (0, 4, 4)], [], [], [(some (1, 1), [(0, 1, 4)], []), (some (0, 0), [], [])])
def lb_305 : List aLab := []
theorem ms_305 {Ext : gI → Prop} (hX : pSt Ext) : MSok bT Ext MT sm_305 := achk_ok (nm := 297) (sm := []) (labs := lb_305) (sp := []) (fuel := 14) (rE := [(1000000, (2, 0))]) (maxL := 3) (M := mX12_in1) mt_X12_in1 rfl os_X12_in1 MT_len ( mA.nil) (pE hX (by decide +kernel)) (by decide +kernel)
def sm_306 : aM := (127, 0, [(0, (-2147483648), 2147483647), (0, 0, 0), (0, 1, 1)], [], [], [(some (1, 1), [(0, 0, 1)], []), (some (0, 0), [], [])])
def lb_306 : List aLab := []
theorem ms_306 {Ext : gI → Prop} (hX : pSt Ext) : MSok bT Ext MT sm_306 := achk_ok (nm := 297) (sm := []) (labs := lb_306) (sp := []) (fuel := 14) (rE := [(1000000, (2, 0))]) (maxL := 3) (M := mX12_in1) mt_X12_in1 rfl os_X12_in1 MT_len ( mA.nil) (pE hX (by decide +kernel)) (by decide +kernel)
def sm_307 : aM := (193, 0, [(1, 67, 0), (0, 64, 64), (0, 0, 1)], [], [(68, 64, 64)], [(some (0, 1), [], [])])
def lb_307 : List aLab := []
theorem ms_307 {Ext : gI → Prop} (hX : pSt Ext) : MSok bT Ext MT sm_307 := achk_ok (nm := 297) (sm := []) (labs := lb_307) (sp := []) (fuel := 17) (rE := [(1000000, (2, 0))]) (maxL := 4) (M := mX12_becomes) mt_X12_becomes rfl os_X12_becomes MT_len ( mA.nil) (pE hX (by decide +kernel)) (by decide +kernel)
def sm_308 : aM := (193, 0, [(1, 67, 0), (0, 59, 59), (0, 0, 1)], [], [(68, 59, 59)], [(some (0, 1), [], [])])
def lb_308 : List aLab := []
theorem ms_308 {Ext : gI → Prop} (hX : pSt Ext) : MSok bT Ext MT sm_308 := achk_ok (nm := 297) (sm := []) (labs := lb_308) (sp := []) (fuel := 17) (rE := [(1000000, (2, 0))]) (maxL := 4) (M := mX12_becomes) mt_X12_becomes rfl os_X12_becomes MT_len ( mA.nil) (pE hX (by decide +kernel)) (by decide +kernel)
def sm_309 : aM := (193, 0, [(1, 67, 0), (0, 54, 54), (0, 0, 1)], [], [(68, 54, 54)], [(some (0, 1), [], [])])
def lb_309 : List aLab := []
theorem ms_309 {Ext : gI → Prop} (hX : pSt Ext) : MSok bT Ext MT sm_309 := achk_ok (nm := 297) (sm := []) (labs := lb_309) (sp := []) (fuel := 17) (rE := [(1000000, (2, 0))]) (maxL := 4) (M := mX12_becomes) mt_X12_becomes rfl os_X12_becomes MT_len ( mA.nil) (pE hX (by decide +kernel)) (by decide +kernel)
def sm_310 : aM := (193, 0, [(1, 67, 0), (0, 49, 49), (0, 0, 1)], [], [(68, 49, 49)], [(some (0, 1), [], [])])
def lb_310 : List aLab := []
theorem ms_310 {Ext : gI → Prop} (hX : pSt Ext) : MSok bT Ext MT sm_310 := achk_ok (nm := 297) (sm := []) (labs := lb_310) (sp := []) (fuel := 17) (rE := [(1000000, (2, 0))]) (maxL := 4) (M := mX12_becomes) mt_X12_becomes rfl os_X12_becomes MT_len ( mA.nil) (pE hX (by decide +kernel)) (by decide +kernel)
def sm_311 : aM := (193, 0, [(1, 67, 0), (0, 44, 44), (0, 0, 1)], [], [(68, 44, 44)], [(some (0, 1), [], [])])
def lb_311 : List aLab := []
theorem ms_311 {Ext : gI → Prop} (hX : pSt Ext) : MSok bT Ext MT sm_311 := achk_ok (nm := 297) (sm := []) (labs := lb_311) (sp := []) (fuel := 17) (rE := [(1000000, (2, 0))]) (maxL := 4) (M := mX12_becomes) mt_X12_becomes rfl os_X12_becomes MT_len ( mA.nil) (pE hX (by decide +kernel)) (by decide +kernel)
def sm_312 : aM := (193, 0, [(1, 67, 0), (0, 39, 39), (0, 0, 1)], [], [(68, 39, 39)], [(some (0, 1), [], [])])
def lb_312 : List aLab := []
theorem ms_312 {Ext : gI → Prop} (hX : pSt Ext) : MSok bT Ext MT sm_312 := achk_ok (nm := 297) (sm := []) (labs := lb_312) (sp := []) (fuel := 17) (rE := [(1000000, (2, 0))]) (maxL := 4) (M := mX12_becomes) mt_X12_becomes rfl os_X12_becomes MT_len ( mA.nil) (pE hX (by decide +kernel)) (by decide +kernel)
def sm_313 : aM := (193, 0, [(1, 67, 0), (0, 63, 63), (0, 0, 5)], [], [(68, 63, 63)], [(some (0, 5), [], [])])
def lb_313 : List aLab := []
theorem ms_313 {Ext : gI → Prop} (hX : pSt Ext) : MSok bT Ext MT sm_313 := achk_ok (nm := 297) (sm := []) (labs := lb_313) (sp := []) (fuel := 17) (rE := [(1000000, (2, 0))]) (maxL := 4) (M := mX12_becomes) mt_X12_becomes rfl os_X12_becomes MT_len ( mA.nil) (pE hX (by decide +kernel)) (by decide +kernel)
def sm_314 : aM := (193, 0, [(1, 67, 0), (0, 58, 58), (0, 0, 5)], [], [(68, 58, 58)], [(some (0, 5), [], [])])
def lb_314 : List aLab := []
theorem ms_314 {Ext : gI → Prop} (hX : pSt Ext) : MSok bT Ext MT sm_314 := achk_ok (nm := 297) (sm := []) (labs := lb_314) (sp := []) (fuel := 17) (rE := [(1000000, (2, 0))]) (maxL := 4) (M := mX12_becomes) mt_X12_becomes rfl os_X12_becomes MT_len ( mA.nil) (pE hX (by decide +kernel)) (by decide +kernel)
def sm_315 : aM := (193, 0, [(1, 67, 0), (0, 53, 53), (0, 0, 5)], [], [(68, 53, 53)], [(some (0, 5), [], [])])
def lb_315 : List aLab := []
theorem ms_315 {Ext : gI → Prop} (hX : pSt Ext) : MSok bT Ext MT sm_315 := achk_ok (nm := 297) (sm := []) (labs := lb_315) (sp := []) (fuel := 17) (rE := [(1000000, (2, 0))]) (maxL := 4) (M := mX12_becomes) mt_X12_becomes rfl os_X12_becomes MT_len ( mA.nil) (pE hX (by decide +kernel)) (by decide +kernel)
def sm_316 : aM := (193, 0, [(1, 67, 0), (0, 48, 48), (0, 0, 5)], [], [(68, 48, 48)], [(some (0, 5), [], [])])
def lb_316 : List aLab := []
theorem ms_316 {Ext : gI → Prop} (hX : pSt Ext) : MSok bT Ext MT sm_316 := achk_ok (nm := 297) (sm := []) (labs := lb_316) (sp := []) (fuel := 17) (rE := [(1000000, (2, 0))]) (maxL := 4) (M := mX12_becomes) mt_X12_becomes rfl os_X12_becomes MT_len ( mA.nil) (pE hX (by decide +kernel)) (by decide +kernel)
def sm_317 : aM := (193, 0, [(1, 67, 0), (0, 43, 43), (0, 0, 5)], [], [(68, 43, 43)], [(some (0, 5), [], [])])
def lb_317 : List aLab := []
theorem ms_317 {Ext : gI → Prop} (hX : pSt Ext) : MSok bT Ext MT sm_317 := achk_ok (nm := 297) (sm := []) (labs := lb_317) (sp := []) (fuel := 17) (rE := [(1000000, (2, 0))]) (maxL := 4) (M := mX12_becomes) mt_X12_becomes rfl os_X12_becomes MT_len ( mA.nil) (pE hX (by decide +kernel)) (by decide +kernel)
def sm_318 : aM := (193, 0, [(1, 67, 0), (0, 38, 38), (0, 0, 5)], [], [(68, 38, 38)], [(some (0, 5), [], [])])
def lb_318 : List aLab := []
theorem ms_318 {Ext : gI → Prop} (hX : pSt Ext) : MSok bT Ext MT sm_318 := achk_ok (nm := 297) (sm := []) (labs := lb_318) (sp := []) (fuel := 17) (rE := [(1000000, (2, 0))]) (maxL := 4) (M := mX12_becomes) mt_X12_becomes rfl os_X12_becomes MT_len ( mA.nil) (pE hX (by decide +kernel)) (by decide +kernel)
def sm_319 : aM := (193, 0, [(1, 67, 0), (0, 62, 62), (0, 0, 9)], [], [(68, 62, 62)], [(some (0, 9), [], [])])
def lb_319 : List aLab := []
theorem ms_319 {Ext : gI → Prop} (hX : pSt Ext) : MSok bT Ext MT sm_319 := achk_ok (nm := 297) (sm := []) (labs := lb_319) (sp := []) (fuel := 17) (rE := [(1000000, (2, 0))]) (maxL := 4) (M := mX12_becomes) mt_X12_becomes rfl os_X12_becomes MT_len ( mA.nil) (pE hX (by decide +kernel)) (by decide +kernel)
def sm_320 : aM := (193, 0, [(1, 67, 0), (0, 57, 57), (0, 0, 9)], [], [(68, 57, 57)], [(some (0, 9), [], [])])
def lb_320 : List aLab := []
theorem ms_320 {Ext : gI → Prop} (hX : pSt Ext) : MSok bT Ext MT sm_320 := achk_ok (nm := 297) (sm := []) (labs := lb_320) (sp := []) (fuel := 17) (rE := [(1000000, (2, 0))]) (maxL := 4) (M := mX12_becomes) mt_X12_becomes rfl os_X12_becomes MT_len ( mA.nil) (pE hX (by decide +kernel)) (by decide +kernel)
def sm_321 : aM := (193, 0, [(1, 67, 0), (0, 52, 52), (0, 0, 9)], [], [(68, 52, 52)], [(some (0, 9), [], [])])
def lb_321 : List aLab := []
theorem ms_321 {Ext : gI → Prop} (hX : pSt Ext) : MSok bT Ext MT sm_321 := achk_ok (nm := 297) (sm := []) (labs := lb_321) (sp := []) (fuel := 17) (rE := [(1000000, (2, 0))]) (maxL := 4) (M := mX12_becomes) mt_X12_becomes rfl os_X12_becomes MT_len ( mA.nil) (pE hX (by decide +kernel)) (by decide +kernel)
def sm_322 : aM := (193, 0, [(1, 67, 0), (0, 47, 47), (0, 0, 9)], [], [(68, 47, 47)], [(some (0, 9), [], [])])
def lb_322 : List aLab := []
theorem ms_322 {Ext : gI → Prop} (hX : pSt Ext) : MSok bT Ext MT sm_322 := achk_ok (nm := 297) (sm := []) (labs := lb_322) (sp := []) (fuel := 17) (rE := [(1000000, (2, 0))]) (maxL := 4) (M := mX12_becomes) mt_X12_becomes rfl os_X12_becomes MT_len ( mA.nil) (pE hX (by decide +kernel)) (by decide +kernel)
def sm_323 : aM := (193, 0, [(1, 67, 0), (0, 42, 42), (0, 0, 9)], [], [(68, 42, 42)], [(some (0, 9), [], [])])
def lb_323 : List aLab := []
theorem ms_323 {Ext : gI → Prop} (hX : pSt Ext) : MSok bT Ext MT sm_323 := achk_ok (nm := 297) (sm := []) (labs := lb_323) (sp := []) (fuel := 17) (rE := [(1000000, (2, 0))]) (maxL := 4) (M := mX12_becomes) mt_X12_becomes rfl os_X12_becomes MT_len ( mA.nil) (pE hX (by decide +kernel)) (by decide +kernel)
def sm_324 : aM := (193, 0, [(1, 67, 0), (0, 37, 37), (0, 0, 9)], [], [(68, 37, 37)], [(some (0, 9), [], [])])
def lb_324 : List aLab := []
theorem ms_324 {Ext : gI → Prop} (hX : pSt Ext) : MSok bT Ext MT sm_324 := achk_ok (nm := 297) (sm := []) (labs := lb_324) (sp := []) (fuel := 17) (rE := [(1000000, (2, 0))]) (maxL := 4) (M := mX12_becomes) mt_X12_becomes rfl os_X12_becomes MT_len ( mA.nil) (pE hX (by decide +kernel)) (by decide +kernel)
def sm_325 : aM := (193, 0, [(1, 67, 0), (0, 61, 61), (0, 0, 99)], [], [(68, 61, 61)], [(some (0, 99), [], [])])
def lb_325 : List aLab := []
theorem ms_325 {Ext : gI → Prop} (hX : pSt Ext) : MSok bT Ext MT sm_325 := achk_ok (nm := 297) (sm := []) (labs := lb_325) (sp := []) (fuel := 17) (rE := [(1000000, (2, 0))]) (maxL := 4) (M := mX12_becomes) mt_X12_becomes rfl os_X12_becomes MT_len ( mA.nil) (pE hX (by decide +kernel)) (by decide +kernel)
def sm_326 : aM := (193, 0, [(1, 67, 0), (0, 56, 56), (0, 0, 99)], [], [(68, 56, 56)], [(some (0, 99), [], [])])
def lb_326 : List aLab := []
theorem ms_326 {Ext : gI → Prop} (hX : pSt Ext) : MSok bT Ext MT sm_326 := achk_ok (nm := 297) (sm := []) (labs := lb_326) (sp := []) (fuel := 17) (rE := [(1000000, (2, 0))]) (maxL := 4) (M := mX12_becomes) mt_X12_becomes rfl os_X12_becomes MT_len ( mA.nil) (pE hX (by decide +kernel)) (by decide +kernel)
def sm_327 : aM := (193, 0, [(1, 67, 0), (0, 51, 51), (0, 0, 99)], [], [(68, 51, 51)], [(some (0, 99), [], [])])
def lb_327 : List aLab := []
theorem ms_327 {Ext : gI → Prop} (hX : pSt Ext) : MSok bT Ext MT sm_327 := achk_ok (nm := 297) (sm := []) (labs := lb_327) (sp := []) (fuel := 17) (rE := [(1000000, (2, 0))]) (maxL := 4) (M := mX12_becomes) mt_X12_becomes rfl os_X12_becomes MT_len ( mA.nil) (pE hX (by decide +kernel)) (by decide +kernel)
def sm_328 : aM := (193, 0, [(1, 67, 0), (0, 46, 46), (0, 0, 99)], [], [(68, 46, 46)], [(some (0, 99), [], [])])
def lb_328 : List aLab := []
theorem ms_328 {Ext : gI → Prop} (hX : pSt Ext) : MSok bT Ext MT sm_328 := achk_ok (nm := 297) (sm := []) (labs := lb_328) (sp := []) (fuel := 17) (rE := [(1000000, (2, 0))]) (maxL := 4) (M := mX12_becomes) mt_X12_becomes rfl os_X12_becomes MT_len ( mA.nil) (pE hX (by decide +kernel)) (by decide +kernel)
def sm_329 : aM := (193, 0, [(1, 67, 0), (0, 41, 41), (0, 0, 99)], [], [(68, 41, 41)], [(some (0, 99), [], [])])
def lb_329 : List aLab := []
theorem ms_329 {Ext : gI → Prop} (hX : pSt Ext) : MSok bT Ext MT sm_329 := achk_ok (nm := 297) (sm := []) (labs := lb_329) (sp := []) (fuel := 17) (rE := [(1000000, (2, 0))]) (maxL := 4) (M := mX12_becomes) mt_X12_becomes rfl os_X12_becomes MT_len ( mA.nil) (pE hX (by decide +kernel)) (by decide +kernel)
def sm_330 : aM := (193, 0, [(1, 67, 0), (0, 36, 36), (0, 0, 99)], [], [(68, 36, 36)], [(some (0, 99), [], [])])
def lb_330 : List aLab := []
theorem ms_330 {Ext : gI → Prop} (hX : pSt Ext) : MSok bT Ext MT sm_330 := achk_ok (nm := 297) (sm := []) (labs := lb_330) (sp := []) (fuel := 17) (rE := [(1000000, (2, 0))]) (maxL := 4) (M := mX12_becomes) mt_X12_becomes rfl os_X12_becomes MT_len ( mA.nil) (pE hX (by decide +kernel)) (by decide +kernel)
def sm_331 : aM := (192, 2, [(1, 67, 0), (0, (-2147483648), 2147483647), (0, (-2147483648), 2147483647), (0, (-2147483648), 2147483647)], [], [(68, 36, 39), (68, 41, 44), (68, 46, 49), (68, 51, 54), (68, 56, 59), (68, 61, 64)], [(some ((-1), 99), [], [])])
def lb_331 : List aLab := []
theorem ms_331 {Ext : gI → Prop} (hX : pSt Ext) : MSok bT Ext MT sm_331 := achk_ok (nm := 297) (sm := [sm_307, sm_308, sm_309, sm_310, sm_311, sm_312, sm_313, sm_314, sm_315, sm_316, sm_317, sm_318, sm_319, sm_320, sm_321, sm_322, sm_323, sm_324, sm_325, sm_326, sm_327, sm_328, sm_329, sm_330, sm_249, sm_305, sm_306, sm_246, sm_244, sm_243]) (labs := lb_331) (sp := [(0, 0, 2, [1, 2, 3, 4, 5]), (59, 0, 1, [])]) (fuel := 45) (rE := [(1000000, (2, 0))]) (maxL := 5) (M := mX12_change) mt_X12_change rfl os_X12_change MT_len ((mA.cons (ms_307 hX) (mA.cons (ms_308 hX) (mA.cons (ms_309 hX) (mA.cons (ms_310 hX) (mA.cons (ms_311 hX) (mA.cons (ms_312 hX) (mA.cons (ms_313 hX) (mA.cons (ms_314 hX) (mA.cons (ms_315 hX) (mA.cons (ms_316 hX) (mA.cons (ms_317 hX) (mA.cons (ms_318 hX) (mA.cons (ms_319 hX) (mA.cons (ms_320 hX) (mA.cons (ms_321 hX) (mA.cons (ms_322 hX) (mA.cons (ms_323 hX) (mA.cons (ms_324 hX) (mA.cons (ms_325 hX) (mA.cons (ms_326 hX) (mA.cons (ms_327 hX) (mA.cons (ms_328 hX) (mA.cons (ms_329 hX) (mA.cons (ms_330 hX) (mA.cons (ms_249 hX) (mA.cons (ms_305 hX) (mA.cons (ms_306 hX) (mA.cons (ms_246 hX) (mA.cons (ms_244 hX) (mA.cons (ms_243 hX) mA.nil))))))))))))))))))))))))))))))) (pE hX (by decide +kernel)) (by decide +kernel)
def sm_332 : aM := (127, 0, [(0, (-2147483648), 2147483647), (0, 0, 0), (0, 15, 15)], [], [], [(some (1, 1), [(0, 0, 15)], []), (some (0, 0), [], [])])
def lb_332 : List aLab := []
theorem ms_332 {Ext : gI → Prop} (hX : pSt Ext) : MSok bT Ext MT sm_332 := achk_ok (nm := 297) (sm := []) (labs := lb_332) (sp := []) (fuel := 14) (rE := [(1000000, (2, 0))]) (maxL := 3) (M := mX12_in1) mt_X12_in1 rfl os_X12_in1 MT_len ( mA.nil) (pE hX (by decide +kernel)) (by decide +kernel)
def sm_333 : aM := (193, 0, [(1, 67, 0), (0, 7, 22), (0, 0, 15)], [], [(68, 7, 22)], [(some (0, 15), [], [])])
def lb_333 : List aLab := []
theorem ms_333 {Ext : gI → Prop} (hX : pSt Ext) : MSok bT Ext MT sm_333 := achk_ok (nm := 297) (sm := []) (labs := lb_333) (sp := []) (fuel := 17) (rE := [(1000000, (2, 0))]) (maxL := 4) (M := mX12_becomes) mt_X12_becomes rfl os_X12_becomes MT_len ( mA.nil) (pE hX (by decide +kernel)) (by decide +kernel)
def sm_334 : aM := (197, 1, [(1, 67, 0), (0, (-2147483648), 2147483647), (0, (-2147483648), 2147483647)], [], [(68, 7, 22)], [(some ((-1), 15), [], [])])
def lb_334 : List aLab := []
theorem ms_334 {Ext : gI → Prop} (hX : pSt Ext) : MSok bT Ext MT sm_334 := achk_ok (nm := 297) (sm := [sm_333, sm_332]) (labs := lb_334) (sp := []) (fuel := 23) (rE := [(1000000, (2, 0))]) (maxL := 3) (M := mX12_sun) mt_X12_sun rfl os_X12_sun MT_len ((mA.cons (ms_333 hX) (mA.cons (ms_332 hX) mA.nil))) (pE hX (by decide +kernel)) (by decide +kernel)
def sm_335 : aM := (193, 0, [(1, 67, 0), (0, 23, 28), (0, 0, 9)], [], [(68, 23, 28)], [(some ((-2147483648), 2147483647), [], [])])
def lb_335 : List aLab := []
theorem ms_335 {Ext : gI → Prop} (hX : pSt Ext) : MSok bT Ext MT sm_335 := achk_ok (nm := 297) (sm := []) (labs := lb_335) (sp := []) (fuel := 17) (rE := [(1000000, (2, 0))]) (maxL := 4) (M := mX12_becomes) mt_X12_becomes rfl os_X12_becomes MT_len ( mA.nil) (pE hX (by decide +kernel)) (by decide +kernel)
def sm_336 : aM := (193, 0, [(1, 67, 0), (0, 29, 34), (0, 0, 9)], [], [(68, 29, 34)], [(some ((-2147483648), 2147483647), [], [])])
def lb_336 : List aLab := []
theorem ms_336 {Ext : gI → Prop} (hX : pSt Ext) : MSok bT Ext MT sm_336 := achk_ok (nm := 297) (sm := []) (labs := lb_336) (sp := []) (fuel := 17) (rE := [(1000000, (2, 0))]) (maxL := 4) (M := mX12_becomes) mt_X12_becomes rfl os_X12_becomes MT_len ( mA.nil) (pE hX (by decide +kernel)) (by decide +kernel)
def sm_337 : aM := (199, 2, [(1, 67, 0), (0, (-2147483648), 2147483647), (0, (-2147483648), 2147483647), (0, (-2147483648), 2147483647)], [], [(68, 23, 34)], [(some ((-2147483648), 2147483647), [], [])])
def lb_337 : List aLab := []
theorem ms_337 {Ext : gI → Prop} (hX : pSt Ext) : MSok bT Ext MT sm_337 := achk_ok (nm := 297) (sm := [sm_335, sm_336, sm_247, sm_306, sm_245]) (labs := lb_337) (sp := []) (fuel := 27) (rE := [(1000000, (2, 0))]) (maxL := 4) (M := mX12_gate) mt_X12_gate rfl os_X12_gate MT_len ((mA.cons (ms_335 hX) (mA.cons (ms_336 hX) (mA.cons (ms_247 hX) (mA.cons (ms_306 hX) (mA.cons (ms_245 hX) mA.nil)))))) (pE hX (by decide +kernel)) (by decide +kernel)
def sm_338 : aM := (201, 2, [(1, 67, 0), (0, (-2147483648), 2147483647), (0, (-2147483648), 2147483647)], [], [], [(some ((-2147483648), 2147483647), [], [])])
def lb_338 : List aLab := []
theorem ms_338 {Ext : gI → Prop} (hX : pSt Ext) : MSok bT Ext MT sm_338 := achk_ok (nm := 297) (sm := [sm_247, sm_306]) (labs := lb_338) (sp := []) (fuel := 24) (rE := [(1000000, (2, 0))]) (maxL := 3) (M := mX12_gateOf) mt_X12_gateOf rfl os_X12_gateOf MT_len ((mA.cons (ms_247 hX) (mA.cons (ms_306 hX) mA.nil))) (pE hX (by decide +kernel)) (by decide +kernel)
def sm_339 : aM := (127, 0, [(0, (-2147483648), 2147483647), (0, 1, 1), (0, 16, 16)], [], [], [(some (1, 1), [(0, 1, 16)], []), (some (0, 0), [], [])])
def lb_339 : List aLab := []
theorem ms_339 {Ext : gI → Prop} (hX : pSt Ext) : MSok bT Ext MT sm_339 := achk_ok (nm := 297) (sm := []) (labs := lb_339) (sp := []) (fuel := 14) (rE := [(1000000, (2, 0))]) (maxL := 3) (M := mX12_in1) mt_X12_in1 rfl os_X12_in1 MT_len ( mA.nil) (pE hX (by decide +kernel)) (by decide +kernel)
def sm_340 : aM := (193, 0, [(1, 67, 0), (0, 1, 1), (0, 1, 16)], [], [(68, 1, 1)], [(some (0, 16), [], [])])
def lb_340 : List aLab := []
theorem ms_340 {Ext : gI → Prop} (hX : pSt Ext) : MSok bT Ext MT sm_340 := achk_ok (nm := 297) (sm := []) (labs := lb_340) (sp := []) (fuel := 17) (rE := [(1000000, (2, 0))]) (maxL := 4) (M := mX12_becomes) mt_X12_becomes rfl os_X12_becomes MT_len ( mA.nil) (pE hX (by decide +kernel)) (by decide +kernel)
def sm_341 : aM := (203, 1, [(1, 67, 0), (0, (-2147483648), 2147483647)], [], [(68, 1, 1)], [(some ((-4), 16), [], [])])
def lb_341 : List aLab := []
theorem ms_341 {Ext : gI → Prop} (hX : pSt Ext) : MSok bT Ext MT sm_341 := achk_ok (nm := 297) (sm := [sm_340, sm_339]) (labs := lb_341) (sp := []) (fuel := 21) (rE := [(1000000, (2, 0))]) (maxL := 2) (M := mX12_ends) mt_X12_ends rfl os_X12_ends MT_len ((mA.cons (ms_340 hX) (mA.cons (ms_339 hX) mA.nil))) (pE hX (by decide +kernel)) (by decide +kernel)
def sm_343 : aM := (193, 0, [(1, 67, 0), (0, 0, 0), (0, 0, 0)], [], [(68, 0, 0)], [(some (0, 16), [], [])])
def lb_343 : List aLab := []
theorem ms_343 {Ext : gI → Prop} (hX : pSt Ext) : MSok bT Ext MT sm_343 := achk_ok (nm := 297) (sm := []) (labs := lb_343) (sp := []) (fuel := 17) (rE := [(1000000, (2, 0))]) (maxL := 4) (M := mX12_becomes) mt_X12_becomes rfl os_X12_becomes MT_len ( mA.nil) (pE hX (by decide +kernel)) (by decide +kernel)
def sm_348 : aM := (141, 0, [(1, 67, 0), (0, 0, 5), (0, 4, 4), (0, 0, 0)], [], [(68, 39, 39), (68, 44, 44), (68, 49, 49), (68, 54, 54), (68, 59, 59), (68, 64, 64)], [(none, [], [])])
def lb_348 : List aLab := []
theorem ms_348 {Ext : gI → Prop} (hX : pSt Ext) : MSok bT Ext MT sm_348 := achk_ok (nm := 297) (sm := []) (labs := lb_348) (sp := [(0, 0, 1, [])]) (fuel := 18) (rE := [(1000000, (2, 0))]) (maxL := 4) (M := mX12_puts) mt_X12_puts rfl os_X12_puts MT_len ( mA.nil) (pE hX (by decide +kernel)) (by decide +kernel)
def sm_349 : aM := (205, 1, [(1, 67, 0)], [], [(68, 0, 0), (68, 2, 2), (68, 39, 39), (68, 44, 44), (68, 49, 49), (68, 54, 54), (68, 59, 59), (68, 64, 64)], [(some (0, 16), [], [])])
def lb_349 : List aLab := [(9, [some (1, 67), some (0, 0)], [], [(0, 6, none)], [(68, 2, (2, 0))], [(99991, (2, 0)), (6, (0, 0)), (99991, (2, 0))])]
theorem ms_349 {Ext : gI → Prop} (hX : pSt Ext) : MSok bT Ext MT sm_349 := achk_ok (nm := 297) (sm := [sm_343, sm_348]) (labs := lb_349) (sp := []) (fuel := 19) (rE := [(1000000, (2, 0)), (0, (2, 0)), (0, (2, 0))]) (maxL := 2) (M := mX12_anew) mt_X12_anew rfl os_X12_anew MT_len ((mA.cons (ms_343 hX) (mA.cons (ms_348 hX) mA.nil))) (pE hX (by decide +kernel)) (by decide +kernel)
def sm_355 : aM := (156, 1, [(1, 67, 0)], [], [], [(some ((-2147483648), 2147483647), [], [])])
def lb_355 : List aLab := [(4, [some (1, 67), some (0, 0), some (0, 1)], [], [((-2147483648), 2147483647, none), (0, 6, none)], [], [(99996, (2, 0)), (6, (0, 1)), (99996, (2, 0))])]
theorem ms_355 {Ext : gI → Prop} (hX : pSt Ext) : MSok bT Ext MT sm_355 := achk_ok (nm := 297) (sm := [sm_283]) (labs := lb_355) (sp := []) (fuel := 21) (rE := [(1000000, (2, 0)), (0, (2, 0)), (0, (2, 0))]) (maxL := 3) (M := mX12_teethAll) mt_X12_teethAll rfl os_X12_teethAll MT_len ((mA.cons (ms_283 hX) mA.nil)) (pE hX (by decide +kernel)) (by decide +kernel)
def sm_356 : aM := (157, 1, [(1, 67, 0), (0, 4, 4)], [], [], [(some ((-2147483648), 2147483647), [], [])])
def lb_356 : List aLab := [(4, [some (1, 67), some (2, 4), some (0, 0), some (0, 1)], [], [((-2147483648), 2147483647, none), (0, 6, none)], [], [(99996, (2, 0)), (6, (0, 1)), (99996, (2, 0))])]
theorem ms_356 {Ext : gI → Prop} (hX : pSt Ext) : MSok bT Ext MT sm_356 := achk_ok (nm := 297) (sm := [sm_281]) (labs := lb_356) (sp := []) (fuel := 26) (rE := [(1000000, (2, 0)), (0, (2, 0)), (0, (2, 0))]) (maxL := 4) (M := mX12_those) mt_X12_those rfl os_X12_those MT_len ((mA.cons (ms_281 hX) mA.nil)) (pE hX (by decide +kernel)) (by decide +kernel)
def sm_357 : aM := (150, 0, [(1, 67, 0)], [(68, 0, 0, 16)], [], [(some (1, 1), [], []), (some (0, 0), [], [(68, 0, 0, 15), (68, 1, 1, 16)])])
def lb_357 : List aLab := []
theorem ms_357 {Ext : gI → Prop} (hX : pSt Ext) : MSok bT Ext MT sm_357 := achk_ok (nm := 297) (sm := []) (labs := lb_357) (sp := []) (fuel := 17) (rE := [(1000000, (2, 0))]) (maxL := 1) (M := mX12_isOver) mt_X12_isOver rfl os_X12_isOver MT_len ( mA.nil) (pE hX (by decide +kernel)) (by decide +kernel)
def sm_358 : aM := (207, 2, [(1, 67, 0), (0, (-2147483648), 2147483647)], [], [], [(some ((-2147483648), 2147483647), [], [])])
def lb_358 : List aLab := []
theorem ms_358 {Ext : gI → Prop} (hX : pSt Ext) : MSok bT Ext MT sm_358 := achk_ok (nm := 297) (sm := [sm_355, sm_291, sm_356, sm_357]) (labs := lb_358) (sp := []) (fuel := 13) (rE := [(1000000, (2, 0))]) (maxL := 2) (M := mX12_state) mt_X12_state rfl os_X12_state MT_len ((mA.cons (ms_355 hX) (mA.cons (ms_291 hX) (mA.cons (ms_356 hX) (mA.cons (ms_357 hX) mA.nil))))) (pE hX (by decide +kernel)) (by decide +kernel)
def sm_363 : aM := (141, 0, [(1, 67, 0), (0, 0, 5), (0, 4, 4), (0, 1, 1)], [], [(68, 39, 39), (68, 44, 44), (68, 49, 49), (68, 54, 54), (68, 59, 59), (68, 64, 64)], [(none, [], [])])
def lb_363 : List aLab := []
theorem ms_363 {Ext : gI → Prop} (hX : pSt Ext) : MSok bT Ext MT sm_363 := achk_ok (nm := 297) (sm := []) (labs := lb_363) (sp := [(0, 0, 1, [])]) (fuel := 18) (rE := [(1000000, (2, 0))]) (maxL := 4) (M := mX12_puts) mt_X12_puts rfl os_X12_puts MT_len ( mA.nil) (pE hX (by decide +kernel)) (by decide +kernel)
def sm_364 : aM := (142, 4, [(1, 67, 0), (0, 0, 5)], [], [(68, 39, 39), (68, 44, 44), (68, 49, 49), (68, 54, 54), (68, 59, 59), (68, 64, 64)], [(some (0, 9), [], [])])
def lb_364 : List aLab := []
theorem ms_364 {Ext : gI → Prop} (hX : pSt Ext) : MSok bT Ext MT sm_364 := achk_ok (nm := 297) (sm := [sm_289, sm_363, sm_348]) (labs := lb_364) (sp := []) (fuel := 19) (rE := [(1000000, (2, 0))]) (maxL := 3) (M := mX12_turnsNow) mt_X12_turnsNow rfl os_X12_turnsNow MT_len ((mA.cons (ms_289 hX) (mA.cons (ms_363 hX) (mA.cons (ms_348 hX) mA.nil)))) (pE hX (by decide +kernel)) (by decide +kernel)
def sm_365 : aM := (143, 0, [(0, (-2147483648), 2147483647), (0, 99, 99)], [], [], [(some (0, 99), [], [])])
def lb_365 : List aLab := []
theorem ms_365 {Ext : gI → Prop} (hX : pSt Ext) : MSok bT Ext MT sm_365 := achk_ok (nm := 297) (sm := []) (labs := lb_365) (sp := []) (fuel := 13) (rE := [(1000000, (2, 0))]) (maxL := 2) (M := mX12_held) mt_X12_held rfl os_X12_held MT_len ( mA.nil) (pE hX (by decide +kernel)) (by decide +kernel)
def sm_366 : aM := (141, 0, [(1, 67, 0), (0, 0, 5), (0, 1, 1), (0, 0, 99)], [], [(68, 36, 36), (68, 41, 41), (68, 46, 46), (68, 51, 51), (68, 56, 56), (68, 61, 61)], [(none, [], [])])
def lb_366 : List aLab := []
theorem ms_366 {Ext : gI → Prop} (hX : pSt Ext) : MSok bT Ext MT sm_366 := achk_ok (nm := 297) (sm := []) (labs := lb_366) (sp := [(0, 0, 1, [])]) (fuel := 18) (rE := [(1000000, (2, 0))]) (maxL := 4) (M := mX12_puts) mt_X12_puts rfl os_X12_puts MT_len ( mA.nil) (pE hX (by decide +kernel)) (by decide +kernel)
def sm_375 : aM := (127, 0, [(0, (-2147483648), 2147483647), (0, 0, 0), (0, 16, 16)], [], [], [(some (1, 1), [(0, 0, 16)], []), (some (0, 0), [], [])])
def lb_375 : List aLab := []
theorem ms_375 {Ext : gI → Prop} (hX : pSt Ext) : MSok bT Ext MT sm_375 := achk_ok (nm := 297) (sm := []) (labs := lb_375) (sp := []) (fuel := 14) (rE := [(1000000, (2, 0))]) (maxL := 3) (M := mX12_in1) mt_X12_in1 rfl os_X12_in1 MT_len ( mA.nil) (pE hX (by decide +kernel)) (by decide +kernel)
def sm_376 : aM := (152, 0, [(1, 67, 0)], [], [(70, 0, 64)], [(none, [], [(70, 4, 10000000068, 4), (70, 5, 10000000068, 5), (70, 35, 10000000068, 35), (70, 40, 10000000068, 40), (70, 45, 10000000068, 45), (70, 50, 10000000068, 50), (70, 55, 10000000068, 55), (70, 60, 10000000068, 60), (70, 38, 10000000068, 38), (70, 43, 10000000068, 43), (70, 48, 10000000068, 48), (70, 53, 10000000068, 53), (70, 58, 10000000068, 58), (70, 63, 10000000068, 63)])])
theorem ms_376 {Ext : gI → Prop} (_hX : pSt Ext) : MSok bT Ext MT sm_376 := ms_cp (x := 68) (y := 70) (sp := 0) (dp := 0) (N := 65) mt_X12_layDown g_layDown (by decide +kernel) (by decide +kernel) (by decide +kernel)
def sm_378 : aM := (154, 0, [(1, 67, 0)], [(68, 4, 10000000070, 4), (68, 5, 10000000070, 5), (68, 35, 10000000070, 35), (68, 40, 10000000070, 40), (68, 45, 10000000070, 45), (68, 50, 10000000070, 50), (68, 55, 10000000070, 55), (68, 60, 10000000070, 60)], [(68, 0, 3), (68, 6, 34), (68, 36, 39), (68, 41, 44), (68, 46, 49), (68, 51, 54), (68, 56, 59), (68, 61, 64)], [(none, [], [(68, 38, 10000000070, 38), (68, 43, 10000000070, 43), (68, 48, 10000000070, 48), (68, 53, 10000000070, 53), (68, 58, 10000000070, 58), (68, 63, 10000000070, 63)])])
theorem ms_378 {Ext : gI → Prop} (_hX : pSt Ext) : MSok bT Ext MT sm_378 := ms_cp (x := 70) (y := 68) (sp := 0) (dp := 0) (N := 65) mt_X12_layBack g_layBack (by decide +kernel) (by decide +kernel) (by decide +kernel)
def sm_380 : aM := (150, 0, [(1, 67, 0)], [(68, 0, 16, 16)], [], [(some (1, 1), [], [(68, 0, 16, 16)])])
def lb_380 : List aLab := []
theorem ms_380 {Ext : gI → Prop} (hX : pSt Ext) : MSok bT Ext MT sm_380 := achk_ok (nm := 297) (sm := []) (labs := lb_380) (sp := []) (fuel := 17) (rE := [(1000000, (2, 0))]) (maxL := 1) (M := mX12_isOver) mt_X12_isOver rfl os_X12_isOver MT_len ( mA.nil) (pE hX (by decide +kernel)) (by decide +kernel)
def sm_381 : aM := (150, 0, [(1, 67, 0)], [(68, 0, 15, 15)], [], [(some (1, 1), [], [(68, 0, 15, 15), (68, 1, 0, 15)]), (some (0, 0), [], [(68, 0, 15, 15), (68, 1, 16, 16)])])
def lb_381 : List aLab := []
theorem ms_381 {Ext : gI → Prop} (hX : pSt Ext) : MSok bT Ext MT sm_381 := achk_ok (nm := 297) (sm := []) (labs := lb_381) (sp := []) (fuel := 17) (rE := [(1000000, (2, 0))]) (maxL := 1) (M := mX12_isOver) mt_X12_isOver rfl os_X12_isOver MT_len ( mA.nil) (pE hX (by decide +kernel)) (by decide +kernel)
def sm_383 : aM := (150, 0, [(1, 67, 0)], [(68, 0, 14, 14)], [], [(some (1, 1), [], [(68, 0, 14, 14), (68, 1, 0, 14)]), (some (0, 0), [], [(68, 0, 14, 14), (68, 1, 15, 16)])])
def lb_383 : List aLab := []
theorem ms_383 {Ext : gI → Prop} (hX : pSt Ext) : MSok bT Ext MT sm_383 := achk_ok (nm := 297) (sm := []) (labs := lb_383) (sp := []) (fuel := 17) (rE := [(1000000, (2, 0))]) (maxL := 1) (M := mX12_isOver) mt_X12_isOver rfl os_X12_isOver MT_len ( mA.nil) (pE hX (by decide +kernel)) (by decide +kernel)
def sm_385 : aM := (150, 0, [(1, 67, 0)], [(68, 0, 13, 13)], [], [(some (1, 1), [], [(68, 0, 13, 13), (68, 1, 0, 13)]), (some (0, 0), [], [(68, 0, 13, 13), (68, 1, 14, 16)])])
def lb_385 : List aLab := []
theorem ms_385 {Ext : gI → Prop} (hX : pSt Ext) : MSok bT Ext MT sm_385 := achk_ok (nm := 297) (sm := []) (labs := lb_385) (sp := []) (fuel := 17) (rE := [(1000000, (2, 0))]) (maxL := 1) (M := mX12_isOver) mt_X12_isOver rfl os_X12_isOver MT_len ( mA.nil) (pE hX (by decide +kernel)) (by decide +kernel)
def sm_387 : aM := (150, 0, [(1, 67, 0)], [(68, 0, 12, 12)], [], [(some (1, 1), [], [(68, 0, 12, 12), (68, 1, 0, 12)]), (some (0, 0), [], [(68, 0, 12, 12), (68, 1, 13, 16)])])
def lb_387 : List aLab := []
theorem ms_387 {Ext : gI → Prop} (hX : pSt Ext) : MSok bT Ext MT sm_387 := achk_ok (nm := 297) (sm := []) (labs := lb_387) (sp := []) (fuel := 17) (rE := [(1000000, (2, 0))]) (maxL := 1) (M := mX12_isOver) mt_X12_isOver rfl os_X12_isOver MT_len ( mA.nil) (pE hX (by decide +kernel)) (by decide +kernel)
def sm_389 : aM := (150, 0, [(1, 67, 0)], [(68, 0, 11, 11)], [], [(some (1, 1), [], [(68, 0, 11, 11), (68, 1, 0, 11)]), (some (0, 0), [], [(68, 0, 11, 11), (68, 1, 12, 16)])])
def lb_389 : List aLab := []
theorem ms_389 {Ext : gI → Prop} (hX : pSt Ext) : MSok bT Ext MT sm_389 := achk_ok (nm := 297) (sm := []) (labs := lb_389) (sp := []) (fuel := 17) (rE := [(1000000, (2, 0))]) (maxL := 1) (M := mX12_isOver) mt_X12_isOver rfl os_X12_isOver MT_len ( mA.nil) (pE hX (by decide +kernel)) (by decide +kernel)
def sm_391 : aM := (150, 0, [(1, 67, 0)], [(68, 0, 10, 10)], [], [(some (1, 1), [], [(68, 0, 10, 10), (68, 1, 0, 10)]), (some (0, 0), [], [(68, 0, 10, 10), (68, 1, 11, 16)])])
def lb_391 : List aLab := []
theorem ms_391 {Ext : gI → Prop} (hX : pSt Ext) : MSok bT Ext MT sm_391 := achk_ok (nm := 297) (sm := []) (labs := lb_391) (sp := []) (fuel := 17) (rE := [(1000000, (2, 0))]) (maxL := 1) (M := mX12_isOver) mt_X12_isOver rfl os_X12_isOver MT_len ( mA.nil) (pE hX (by decide +kernel)) (by decide +kernel)
def sm_393 : aM := (150, 0, [(1, 67, 0)], [(68, 0, 9, 9)], [], [(some (1, 1), [], [(68, 0, 9, 9), (68, 1, 0, 9)]), (some (0, 0), [], [(68, 0, 9, 9), (68, 1, 10, 16)])])
def lb_393 : List aLab := []
theorem ms_393 {Ext : gI → Prop} (hX : pSt Ext) : MSok bT Ext MT sm_393 := achk_ok (nm := 297) (sm := []) (labs := lb_393) (sp := []) (fuel := 17) (rE := [(1000000, (2, 0))]) (maxL := 1) (M := mX12_isOver) mt_X12_isOver rfl os_X12_isOver MT_len ( mA.nil) (pE hX (by decide +kernel)) (by decide +kernel)
def sm_395 : aM := (150, 0, [(1, 67, 0)], [(68, 0, 8, 8)], [], [(some (1, 1), [], [(68, 0, 8, 8), (68, 1, 0, 8)]), (some (0, 0), [], [(68, 0, 8, 8), (68, 1, 9, 16)])])
def lb_395 : List aLab := []
theorem ms_395 {Ext : gI → Prop} (hX : pSt Ext) : MSok bT Ext MT sm_395 := achk_ok (nm := 297) (sm := []) (labs := lb_395) (sp := []) (fuel := 17) (rE := [(1000000, (2, 0))]) (maxL := 1) (M := mX12_isOver) mt_X12_isOver rfl os_X12_isOver MT_len ( mA.nil) (pE hX (by decide +kernel)) (by decide +kernel)
def sm_397 : aM := (150, 0, [(1, 67, 0)], [(68, 0, 7, 7)], [], [(some (1, 1), [], [(68, 0, 7, 7), (68, 1, 0, 7)]), (some (0, 0), [], [(68, 0, 7, 7), (68, 1, 8, 16)])])
def lb_397 : List aLab := []
theorem ms_397 {Ext : gI → Prop} (hX : pSt Ext) : MSok bT Ext MT sm_397 := achk_ok (nm := 297) (sm := []) (labs := lb_397) (sp := []) (fuel := 17) (rE := [(1000000, (2, 0))]) (maxL := 1) (M := mX12_isOver) mt_X12_isOver rfl os_X12_isOver MT_len ( mA.nil) (pE hX (by decide +kernel)) (by decide +kernel)
def sm_399 : aM := (150, 0, [(1, 67, 0)], [(68, 0, 6, 6)], [], [(some (1, 1), [], [(68, 0, 6, 6), (68, 1, 0, 6)]), (some (0, 0), [], [(68, 0, 6, 6), (68, 1, 7, 16)])])
def lb_399 : List aLab := []
theorem ms_399 {Ext : gI → Prop} (hX : pSt Ext) : MSok bT Ext MT sm_399 := achk_ok (nm := 297) (sm := []) (labs := lb_399) (sp := []) (fuel := 17) (rE := [(1000000, (2, 0))]) (maxL := 1) (M := mX12_isOver) mt_X12_isOver rfl os_X12_isOver MT_len ( mA.nil) (pE hX (by decide +kernel)) (by decide +kernel)
def sm_401 : aM := (150, 0, [(1, 67, 0)], [(68, 0, 5, 5)], [], [(some (1, 1), [], [(68, 0, 5, 5), (68, 1, 0, 5)]), (some (0, 0), [], [(68, 0, 5, 5), (68, 1, 6, 16)])])
def lb_401 : List aLab := []
theorem ms_401 {Ext : gI → Prop} (hX : pSt Ext) : MSok bT Ext MT sm_401 := achk_ok (nm := 297) (sm := []) (labs := lb_401) (sp := []) (fuel := 17) (rE := [(1000000, (2, 0))]) (maxL := 1) (M := mX12_isOver) mt_X12_isOver rfl os_X12_isOver MT_len ( mA.nil) (pE hX (by decide +kernel)) (by decide +kernel)
def sm_403 : aM := (150, 0, [(1, 67, 0)], [(68, 0, 4, 4)], [], [(some (1, 1), [], [(68, 0, 4, 4), (68, 1, 0, 4)]), (some (0, 0), [], [(68, 0, 4, 4), (68, 1, 5, 16)])])
def lb_403 : List aLab := []
theorem ms_403 {Ext : gI → Prop} (hX : pSt Ext) : MSok bT Ext MT sm_403 := achk_ok (nm := 297) (sm := []) (labs := lb_403) (sp := []) (fuel := 17) (rE := [(1000000, (2, 0))]) (maxL := 1) (M := mX12_isOver) mt_X12_isOver rfl os_X12_isOver MT_len ( mA.nil) (pE hX (by decide +kernel)) (by decide +kernel)
def sm_405 : aM := (150, 0, [(1, 67, 0)], [(68, 0, 3, 3)], [], [(some (1, 1), [], [(68, 0, 3, 3), (68, 1, 0, 3)]), (some (0, 0), [], [(68, 0, 3, 3), (68, 1, 4, 16)])])
def lb_405 : List aLab := []
theorem ms_405 {Ext : gI → Prop} (hX : pSt Ext) : MSok bT Ext MT sm_405 := achk_ok (nm := 297) (sm := []) (labs := lb_405) (sp := []) (fuel := 17) (rE := [(1000000, (2, 0))]) (maxL := 1) (M := mX12_isOver) mt_X12_isOver rfl os_X12_isOver MT_len ( mA.nil) (pE hX (by decide +kernel)) (by decide +kernel)
def sm_407 : aM := (150, 0, [(1, 67, 0)], [(68, 0, 2, 2)], [], [(some (1, 1), [], [(68, 0, 2, 2), (68, 1, 0, 2)]), (some (0, 0), [], [(68, 0, 2, 2), (68, 1, 3, 16)])])
def lb_407 : List aLab := []
theorem ms_407 {Ext : gI → Prop} (hX : pSt Ext) : MSok bT Ext MT sm_407 := achk_ok (nm := 297) (sm := []) (labs := lb_407) (sp := []) (fuel := 17) (rE := [(1000000, (2, 0))]) (maxL := 1) (M := mX12_isOver) mt_X12_isOver rfl os_X12_isOver MT_len ( mA.nil) (pE hX (by decide +kernel)) (by decide +kernel)
def sm_409 : aM := (150, 0, [(1, 67, 0)], [(68, 0, 1, 1)], [], [(some (1, 1), [], [(68, 0, 1, 1), (68, 1, 0, 1)]), (some (0, 0), [], [(68, 0, 1, 1), (68, 1, 2, 16)])])
def lb_409 : List aLab := []
theorem ms_409 {Ext : gI → Prop} (hX : pSt Ext) : MSok bT Ext MT sm_409 := achk_ok (nm := 297) (sm := []) (labs := lb_409) (sp := []) (fuel := 17) (rE := [(1000000, (2, 0))]) (maxL := 1) (M := mX12_isOver) mt_X12_isOver rfl os_X12_isOver MT_len ( mA.nil) (pE hX (by decide +kernel)) (by decide +kernel)
def sm_411 : aM := (150, 0, [(1, 67, 0)], [(68, 0, 0, 0)], [], [(some (1, 1), [], [(68, 0, 0, 0), (68, 1, 0, 0)]), (some (0, 0), [], [(68, 0, 0, 0), (68, 1, 1, 16)])])
def lb_411 : List aLab := []
theorem ms_411 {Ext : gI → Prop} (hX : pSt Ext) : MSok bT Ext MT sm_411 := achk_ok (nm := 297) (sm := []) (labs := lb_411) (sp := []) (fuel := 17) (rE := [(1000000, (2, 0))]) (maxL := 1) (M := mX12_isOver) mt_X12_isOver rfl os_X12_isOver MT_len ( mA.nil) (pE hX (by decide +kernel)) (by decide +kernel)
def sm_420 : aM := (141, 0, [(1, 67, 0), (0, 0, 5), (0, 2, 2), (0, 0, 9)], [], [(68, 37, 37), (68, 42, 42), (68, 47, 47), (68, 52, 52), (68, 57, 57), (68, 62, 62)], [(none, [], [])])
def lb_420 : List aLab := []
theorem ms_420 {Ext : gI → Prop} (hX : pSt Ext) : MSok bT Ext MT sm_420 := achk_ok (nm := 297) (sm := []) (labs := lb_420) (sp := [(0, 0, 1, [])]) (fuel := 18) (rE := [(1000000, (2, 0))]) (maxL := 4) (M := mX12_puts) mt_X12_puts rfl os_X12_puts MT_len ( mA.nil) (pE hX (by decide +kernel)) (by decide +kernel)
def sm_428 : aM := (141, 0, [(1, 67, 0), (0, 0, 5), (0, 3, 3), (0, 0, 5)], [], [(68, 38, 38), (68, 43, 43), (68, 48, 48), (68, 53, 53), (68, 58, 58), (68, 63, 63)], [(none, [], [])])
def lb_428 : List aLab := []
theorem ms_428 {Ext : gI → Prop} (hX : pSt Ext) : MSok bT Ext MT sm_428 := achk_ok (nm := 297) (sm := []) (labs := lb_428) (sp := [(0, 0, 1, [])]) (fuel := 18) (rE := [(1000000, (2, 0))]) (maxL := 4) (M := mX12_puts) mt_X12_puts rfl os_X12_puts MT_len ( mA.nil) (pE hX (by decide +kernel)) (by decide +kernel)
def sm_432 : aM := (226, 3, [(1, 67, 0), (0, (-2147483648), 2147483647)], [], [], [(some ((-2147483648), 2147483647), [], [])])
def lb_432 : List aLab := [(14, [some (1, 67), some (0, 0), some (0, 1), some (0, 2)], [], [(0, 5, none), ((-2147483648), 2147483647, none), (0, 10, none)], [], [(99986, (2, 0)), (10, (0, 2)), (99986, (2, 0))])]
theorem ms_432 {Ext : gI → Prop} (hX : pSt Ext) : MSok bT Ext MT sm_432 := achk_ok (nm := 297) (sm := [sm_249, sm_288]) (labs := lb_432) (sp := []) (fuel := 23) (rE := [(1000000, (2, 0)), (0, (2, 0)), (0, (2, 0))]) (maxL := 4) (M := mX12_opens) mt_X12_opens rfl os_X12_opens MT_len ((mA.cons (ms_249 hX) (mA.cons (ms_288 hX) mA.nil))) (pE hX (by decide +kernel)) (by decide +kernel)
def sm_442 : aM := (159, 2, [(1, 67, 0), (0, 0, 5), (0, 0, 5)], [], [], [(some (1, 1), [], []), (some (0, 0), [], [])])
def lb_442 : List aLab := []
theorem ms_442 {Ext : gI → Prop} (hX : pSt Ext) : MSok bT Ext MT sm_442 := achk_ok (nm := 297) (sm := [sm_282, sm_286, sm_281]) (labs := lb_442) (sp := []) (fuel := 39) (rE := [(1000000, (2, 0))]) (maxL := 4) (M := mX12_areClose) mt_X12_areClose rfl os_X12_areClose MT_len ((mA.cons (ms_282 hX) (mA.cons (ms_286 hX) (mA.cons (ms_281 hX) mA.nil)))) (pE hX (by decide +kernel)) (by decide +kernel)
def sm_443 : aM := (158, 3, [(1, 67, 0), (0, 0, 5)], [], [], [(some ((-2147483648), 2147483647), [], [])])
def lb_443 : List aLab := [(6, [some (1, 67), some (0, 0), some (0, 1), some (0, 2), none, none], [], [(0, 5, none), ((-2147483648), 2147483647, none), (0, 6, none)], [], [(99994, (2, 0)), (6, (0, 2)), (99994, (2, 0)), (0, (2, 0)), (0, (2, 0)), (0, (2, 0)), (0, (2, 0))]), (19, [some (1, 67), some (0, 0), some (0, 1), some (0, 2), some (0, 3), none], [], [(0, 5, none), ((-2147483648), 2147483647, none), (0, 5, none), (0, 6, none), (1, 6, none)], [(68, 4, (0, 4))], [(99994, (2, 0)), (6, (0, 2)), (99981, (2, 0)), (6, (0, 3)), (99981, (2, 0)), (0, (2, 0)), (0, (2, 0))]), (33, [some (1, 67), some (0, 0), some (0, 1), some (0, 2), some (0, 3), some (0, 4)], [], [(0, 5, none), ((-2147483648), 2147483647, none), (0, 5, none), (0, 5, none), (0, 6, none), (1, 6, none)], [(68, 4, (0, 5))], [(99994, (2, 0)), (6, (0, 2)), (99981, (2, 0)), (6, (0, 3)), (99967, (2, 0)), (6, (0, 4)), (99967, (2, 0))])]
theorem ms_443 {Ext : gI → Prop} (hX : pSt Ext) : MSok bT Ext MT sm_443 := achk_ok (nm := 297) (sm := [sm_281, sm_442]) (labs := lb_443) (sp := []) (fuel := 33) (rE := [(1000000, (2, 0)), (0, (2, 0)), (0, (2, 0)), (0, (2, 0)), (0, (2, 0)), (0, (2, 0)), (0, (2, 0))]) (maxL := 6) (M := mX12_bunchOf) mt_X12_bunchOf rfl os_X12_bunchOf MT_len ((mA.cons (ms_281 hX) (mA.cons (ms_442 hX) mA.nil))) (pE hX (by decide +kernel)) (by decide +kernel)
def sm_444 : aM := (230, 4, [(1, 67, 0), (0, (-2147483648), 2147483647)], [], [], [(some ((-2147483648), 2147483647), [], [])])
def lb_444 : List aLab := [(29, [some (1, 67), some (2, (-1)), some (0, 0), some (0, 1), none], [], [((-2147483648), 2147483647, none), (0, 6, none)], [], [(99971, (2, 0)), (6, (0, 1)), (99971, (2, 0))])]
theorem ms_444 {Ext : gI → Prop} (hX : pSt Ext) : MSok bT Ext MT sm_444 := achk_ok (nm := 297) (sm := [sm_443, sm_249]) (labs := lb_444) (sp := []) (fuel := 31) (rE := [(1000000, (2, 0)), (0, (2, 0)), (0, (2, 0))]) (maxL := 5) (M := mX12_bunches) mt_X12_bunches rfl os_X12_bunches MT_len ((mA.cons (ms_443 hX) (mA.cons (ms_249 hX) mA.nil))) (pE hX (by decide +kernel)) (by decide +kernel)
def sm_445 : aM := (127, 0, [(0, (-2147483648), 2147483647), (0, 0, 0), (0, 4, 4)], [], [], [(some (1, 1), [(0, 0, 4)], []), (some (0, 0), [], [])])
def lb_445 : List aLab := []
theorem ms_445 {Ext : gI → Prop} (hX : pSt Ext) : MSok bT Ext MT sm_445 := achk_ok (nm := 297) (sm := []) (labs := lb_445) (sp := []) (fuel := 14) (rE := [(1000000, (2, 0))]) (maxL := 3) (M := mX12_in1) mt_X12_in1 rfl os_X12_in1 MT_len ( mA.nil) (pE hX (by decide +kernel)) (by decide +kernel)
def sm_446 : aM := (165, 1, [(0, (-2147483648), 2147483647)], [], [], [(some (0, 0), [], []), (some (1, 1), [(0, 0, 4)], [])])
def lb_446 : List aLab := []
theorem ms_446 {Ext : gI → Prop} (hX : pSt Ext) : MSok bT Ext MT sm_446 := achk_ok (nm := 297) (sm := [sm_445]) (labs := lb_446) (sp := []) (fuel := 10) (rE := [(1000000, (2, 0))]) (maxL := 1) (M := mX12_isPlan) mt_X12_isPlan rfl os_X12_isPlan MT_len ((mA.cons (ms_445 hX) mA.nil)) (pE hX (by decide +kernel)) (by decide +kernel)
def sm_447 : aM := (163, 1, [(1, 67, 0), (0, 0, 4)], [(68, 0, 0, 16), (26, 0, 0, 5), (68, 38, 10000000026, 0), (26, 1, 0, 5), (68, 43, 10000000026, 1), (26, 2, 0, 5), (68, 48, 10000000026, 2), (26, 3, 0, 5), (68, 53, 10000000026, 3), (26, 4, 0, 5), (68, 58, 10000000026, 4), (26, 5, 0, 5), (68, 63, 10000000026, 5)], [], [(some (0, 0), [], [(68, 38, 10000000026, 0), (68, 43, 10000000026, 1), (68, 48, 10000000026, 2), (68, 53, 10000000026, 3), (68, 58, 10000000026, 4), (68, 63, 10000000026, 5)]), (some (1, 1), [(1, 1, 4)], [(68, 0, 0, 15), (68, 1, 1, 16), (68, 38, 10000000026, 0), (68, 43, 10000000026, 1), (68, 48, 10000000026, 2), (68, 53, 10000000026, 3), (68, 58, 10000000026, 4), (68, 63, 10000000026, 5)]), (some (2, 2), [(1, 2, 4)], [(68, 0, 0, 14), (68, 1, 1, 16), (68, 38, 10000000026, 0), (68, 43, 10000000026, 1), (68, 48, 10000000026, 2), (68, 53, 10000000026, 3), (68, 58, 10000000026, 4), (68, 63, 10000000026, 5)]), (some (3, 3), [(1, 3, 4)], [(68, 0, 0, 13), (68, 1, 1, 16), (68, 38, 10000000026, 0), (68, 43, 10000000026, 1), (68, 48, 10000000026, 2), (68, 53, 10000000026, 3), (68, 58, 10000000026, 4), (68, 63, 10000000026, 5)]), (some (4, 4), [(1, 4, 4)], [(68, 0, 0, 12), (68, 1, 1, 16), (68, 38, 10000000026, 0), (68, 43, 10000000026, 1), (68, 48, 10000000026, 2), (68, 53, 10000000026, 3), (68, 58, 10000000026, 4), (68, 63, 10000000026, 5)])])
def lb_447 : List aLab := []
theorem ms_447 {Ext : gI → Prop} (hX : pSt Ext) : MSok bT Ext MT sm_447 := achk_ok (nm := 297) (sm := [sm_380, sm_381, sm_383, sm_385, sm_387, sm_389, sm_391, sm_393, sm_395, sm_397, sm_399, sm_401, sm_403, sm_405, sm_407, sm_409, sm_411]) (labs := lb_447) (sp := [(0, 69, 0, []), (0, 0, 1, []), (25, 0, 2, [])]) (fuel := 27) (rE := [(1000000, (2, 0))]) (maxL := 3) (M := mX12_daysOf) mt_X12_daysOf rfl os_X12_daysOf MT_len ((mA.cons (ms_380 hX) (mA.cons (ms_381 hX) (mA.cons (ms_383 hX) (mA.cons (ms_385 hX) (mA.cons (ms_387 hX) (mA.cons (ms_389 hX) (mA.cons (ms_391 hX) (mA.cons (ms_393 hX) (mA.cons (ms_395 hX) (mA.cons (ms_397 hX) (mA.cons (ms_399 hX) (mA.cons (ms_401 hX) (mA.cons (ms_403 hX) (mA.cons (ms_405 hX) (mA.cons (ms_407 hX) (mA.cons (ms_409 hX) (mA.cons (ms_411 hX) mA.nil)))))))))))))))))) (pE hX (by decide +kernel)) (by decide +kernel)
