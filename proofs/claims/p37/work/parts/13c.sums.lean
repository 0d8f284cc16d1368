def sm_194 : aM := (259, 9, [(1, 0, 0), (0, (-2147483648), 2147483647)], [(68, 0, 0, 16), (19, 1, 10000000068, 0), (68, 3, (-2147483648), 2147483647), (19, 4, 10000000068, 3)], [(0, 7, 7), (1, 0, 11), (19, 1, 1), (19, 9, 9), (24, 0, 5), (33, 0, 4), (34, 0, 31), (52, 0, 4), (53, 0, 4), (54, 0, 4)], [(some ((-1), 4), [], [(19, 1, 10000000068, 0), (19, 4, 10000000068, 3)])])
def lb_194 : List aLab := [(50, [some (1, 0), some (0, 0), some (0, 1), some (0, 2), none], [], [(0, 4, none), ((-2147483648), 2147483647, none), (0, 4, none), ((-2147483648), 2147483647, none), ((-2147483648), 2147483647, none), (0, 16, none)], [(19, 1, (0, 3)), (19, 4, (0, 4)), (34, 7, (0, 5)), (68, 0, (0, 5)), (68, 3, (0, 4))], [(99950, (2, 0)), (4, (0, 2)), (99950, (2, 0))])]
theorem ms_194 {Ext : gI → Prop} (hX : pSt Ext) : MSok bT Ext MT sm_194 := achk_ok (nm := 297) (sm := [sm_120, sm_101, sm_73, sm_77, sm_79, sm_117]) (labs := lb_194) (sp := []) (fuel := 50) (rE := [(1000000, (2, 0)), (0, (2, 0)), (0, (2, 0))]) (maxL := 5) (M := mX11_prove) mt_X11_prove rfl os_X11_prove MT_len ((mA.cons (ms_120 hX) (mA.cons (ms_101 hX) (mA.cons (ms_73 hX) (mA.cons (ms_77 hX) (mA.cons (ms_79 hX) (mA.cons (ms_117 hX) mA.nil))))))) (pE hX (by decide +kernel)) (by decide +kernel)
def sm_195 : aM := (37, 0, [(0, (-2147483648), 2147483647), (0, 0, 0), (0, (-1), 3)], [], [], [(some (1, 1), [(0, 0, 3), (2, 0, 3)], []), (some (0, 0), [], [])])
def lb_195 : List aLab := []
theorem ms_195 {Ext : gI → Prop} (hX : pSt Ext) : MSok bT Ext MT sm_195 := achk_ok (nm := 297) (sm := []) (labs := lb_195) (sp := []) (fuel := 14) (rE := [(1000000, (2, 0))]) (maxL := 3) (M := mX11_isIn) mt_X11_isIn rfl os_X11_isIn MT_len ( mA.nil) (pE hX (by decide +kernel)) (by decide +kernel)
def sm_196 : aM := (37, 0, [(0, (-2147483648), 2147483647), (0, 0, 0), (0, 2, 2)], [], [], [(some (1, 1), [(0, 0, 2)], []), (some (0, 0), [], [])])
def lb_196 : List aLab := []
theorem ms_196 {Ext : gI → Prop} (hX : pSt Ext) : MSok bT Ext MT sm_196 := achk_ok (nm := 297) (sm := []) (labs := lb_196) (sp := []) (fuel := 14) (rE := [(1000000, (2, 0))]) (maxL := 3) (M := mX11_isIn) mt_X11_isIn rfl os_X11_isIn MT_len ( mA.nil) (pE hX (by decide +kernel)) (by decide +kernel)
def sm_197 : aM := (262, 1, [(1, 0, 0), (0, (-2147483648), 2147483647), (0, (-2147483648), 2147483647)], [], [], [(some (0, 0), [], []), (some (1, 1), [(1, 0, 3), (2, 0, 2)], [])])
def lb_197 : List aLab := []
theorem ms_197 {Ext : gI → Prop} (hX : pSt Ext) : MSok bT Ext MT sm_197 := achk_ok (nm := 297) (sm := [sm_196, sm_195]) (labs := lb_197) (sp := []) (fuel := 21) (rE := [(1000000, (2, 0))]) (maxL := 3) (M := mX11_isRowField) mt_X11_isRowField rfl os_X11_isRowField MT_len ((mA.cons (ms_196 hX) (mA.cons (ms_195 hX) mA.nil))) (pE hX (by decide +kernel)) (by decide +kernel)
def sm_198 : aM := (261, 2, [(1, 0, 0), (0, (-2147483648), 2147483647), (0, (-2147483648), 2147483647)], [], [], [(some ((-2147483648), 2147483647), [], [])])
def lb_198 : List aLab := []
theorem ms_198 {Ext : gI → Prop} (hX : pSt Ext) : MSok bT Ext MT sm_198 := achk_ok (nm := 297) (sm := [sm_197]) (labs := lb_198) (sp := []) (fuel := 20) (rE := [(1000000, (2, 0))]) (maxL := 3) (M := mX11_row) mt_X11_row rfl os_X11_row MT_len ((mA.cons (ms_197 hX) mA.nil)) (pE hX (by decide +kernel)) (by decide +kernel)
def sm_199 : aM := (265, 2, [(1, 0, 0), (0, (-2147483648), 2147483647), (0, (-2147483648), 2147483647), (0, (-2147483648), 2147483647)], [], [(1, 0, 11)], [(some ((-2147483648), 2147483647), [], [])])
def lb_199 : List aLab := []
theorem ms_199 {Ext : gI → Prop} (hX : pSt Ext) : MSok bT Ext MT sm_199 := achk_ok (nm := 297) (sm := [sm_197]) (labs := lb_199) (sp := []) (fuel := 30) (rE := [(1000000, (2, 0))]) (maxL := 5) (M := mX11_alterRow) mt_X11_alterRow rfl os_X11_alterRow MT_len ((mA.cons (ms_197 hX) mA.nil)) (pE hX (by decide +kernel)) (by decide +kernel)
def sm_200 : aM := (101, 0, [(1, 19, 0), (0, (-2147483648), 2147483647)], [], [], [(some (1, 1), [(1, 0, 6)], []), (some (0, 0), [], [])])
def lb_200 : List aLab := []
theorem ms_200 {Ext : gI → Prop} (hX : pSt Ext) : MSok bT Ext MT sm_200 := achk_ok (nm := 297) (sm := []) (labs := lb_200) (sp := []) (fuel := 14) (rE := [(1000000, (2, 0))]) (maxL := 2) (M := mX1_isAct) mt_X1_isAct rfl os_X1_isAct MT_len ( mA.nil) (pE hX (by decide +kernel)) (by decide +kernel)
def sm_204 : aM := (102, 6, [(1, 0, 0), (0, 0, 9)], [(68, 3, (-2147483648), 2147483647), (19, 4, 10000000068, 3)], [(19, 1, 1), (19, 9, 9), (24, 0, 5), (33, 0, 4)], [(some (0, 0), [], [(19, 4, 10000000068, 3)]), (some (1, 1), [], [(19, 2, (-2147483647), 2147483647), (19, 4, 10000000068, 3)])])
def lb_204 : List aLab := []
theorem ms_204 {Ext : gI → Prop} (hX : pSt Ext) : MSok bT Ext MT sm_204 := achk_ok (nm := 297) (sm := [sm_62, sm_200, sm_73]) (labs := lb_204) (sp := []) (fuel := 46) (rE := [(1000000, (2, 0))]) (maxL := 3) (M := mX11_isRowRight) mt_X11_isRowRight rfl os_X11_isRowRight MT_len ((mA.cons (ms_62 hX) (mA.cons (ms_200 hX) (mA.cons (ms_73 hX) mA.nil)))) (pE hX (by decide +kernel)) (by decide +kernel)
def sm_205 : aM := (267, 7, [(1, 0, 0)], [(68, 0, 0, 16), (19, 1, 10000000068, 0), (68, 3, (-2147483648), 2147483647), (19, 4, 10000000068, 3)], [(19, 1, 1), (19, 9, 9), (24, 0, 5), (33, 0, 4), (34, 0, 7)], [(some (0, 4), [], [(19, 1, 10000000068, 0), (19, 4, 10000000068, 3)])])
def lb_205 : List aLab := [(12, [some (1, 0), some (0, 0), some (0, 1)], [], [(0, 4, none), (0, 4, none), ((-2147483648), 2147483647, none), ((-2147483648), 2147483647, none), (0, 16, none)], [(19, 1, (0, 2)), (19, 4, (0, 3)), (34, 7, (0, 4)), (68, 0, (0, 4)), (68, 3, (0, 3))], [(99988, (2, 0)), (4, (0, 1)), (99988, (2, 0))])]
theorem ms_205 {Ext : gI → Prop} (hX : pSt Ext) : MSok bT Ext MT sm_205 := achk_ok (nm := 297) (sm := [sm_204, sm_77, sm_79]) (labs := lb_205) (sp := []) (fuel := 24) (rE := [(1000000, (2, 0)), (0, (2, 0)), (0, (2, 0))]) (maxL := 3) (M := mX11_judge) mt_X11_judge rfl os_X11_judge MT_len ((mA.cons (ms_204 hX) (mA.cons (ms_77 hX) (mA.cons (ms_79 hX) mA.nil)))) (pE hX (by decide +kernel)) (by decide +kernel)
def sm_206 : aM := (103, 1, [(0, (-2147483648), 2147483647)], [], [], [(some (0, 0), [], []), (some (1, 1), [(0, 0, 3)], [])])
def lb_206 : List aLab := []
theorem ms_206 {Ext : gI → Prop} (hX : pSt Ext) : MSok bT Ext MT sm_206 := achk_ok (nm := 297) (sm := [sm_119]) (labs := lb_206) (sp := []) (fuel := 10) (rE := [(1000000, (2, 0))]) (maxL := 1) (M := mX11_isPlace) mt_X11_isPlace rfl os_X11_isPlace MT_len ((mA.cons (ms_119 hX) mA.nil)) (pE hX (by decide +kernel)) (by decide +kernel)
def sm_208 : aM := (37, 0, [(0, (-2147483648), 2147483647), (0, 0, 0), (0, (-1), 39)], [], [], [(some (1, 1), [(0, 0, 39), (2, 0, 39)], []), (some (0, 0), [], [])])
def lb_208 : List aLab := []
theorem ms_208 {Ext : gI → Prop} (hX : pSt Ext) : MSok bT Ext MT sm_208 := achk_ok (nm := 297) (sm := []) (labs := lb_208) (sp := []) (fuel := 14) (rE := [(1000000, (2, 0))]) (maxL := 3) (M := mX11_isIn) mt_X11_isIn rfl os_X11_isIn MT_len ( mA.nil) (pE hX (by decide +kernel)) (by decide +kernel)
def sm_209 : aM := (105, 1, [(1, 0, 0), (0, 0, 3), (0, (-2147483648), 2147483647)], [], [], [(some (0, 0), [], []), (some (1, 1), [(2, 0, 39)], [])])
def lb_209 : List aLab := []
theorem ms_209 {Ext : gI → Prop} (hX : pSt Ext) : MSok bT Ext MT sm_209 := achk_ok (nm := 297) (sm := [sm_208]) (labs := lb_209) (sp := []) (fuel := 15) (rE := [(1000000, (2, 0))]) (maxL := 3) (M := mX11_isItem) mt_X11_isItem rfl os_X11_isItem MT_len ((mA.cons (ms_208 hX) mA.nil)) (pE hX (by decide +kernel)) (by decide +kernel)
def sm_211 : aM := (104, 0, [(1, 0, 0), (0, 0, 3), (0, 0, 4)], [], [], [(some ((-13), 0), [], [])])
def lb_211 : List aLab := []
theorem ms_211 {Ext : gI → Prop} (hX : pSt Ext) : MSok bT Ext MT sm_211 := achk_ok (nm := 297) (sm := []) (labs := lb_211) (sp := []) (fuel := 20) (rE := [(1000000, (2, 0))]) (maxL := 3) (M := mX11_refusalOf) mt_X11_refusalOf rfl os_X11_refusalOf MT_len ( mA.nil) (pE hX (by decide +kernel)) (by decide +kernel)
def sm_212 : aM := (275, 2, [(1, 0, 0), (0, (-2147483648), 2147483647), (0, (-2147483648), 2147483647), (0, (-2147483648), 2147483647)], [], [], [(some ((-2147483648), 2147483647), [], [])])
def lb_212 : List aLab := []
theorem ms_212 {Ext : gI → Prop} (hX : pSt Ext) : MSok bT Ext MT sm_212 := achk_ok (nm := 297) (sm := [sm_211, sm_206, sm_100, sm_209]) (labs := lb_212) (sp := []) (fuel := 33) (rE := [(1000000, (2, 0))]) (maxL := 5) (M := mX11_item) mt_X11_item rfl os_X11_item MT_len ((mA.cons (ms_211 hX) (mA.cons (ms_206 hX) (mA.cons (ms_100 hX) (mA.cons (ms_209 hX) mA.nil))))) (pE hX (by decide +kernel)) (by decide +kernel)
def sm_213 : aM := (37, 0, [(0, (-2147483648), 2147483647), (0, 0, 0), (0, 20, 20)], [], [], [(some (1, 1), [(0, 0, 20)], []), (some (0, 0), [], [])])
def lb_213 : List aLab := []
theorem ms_213 {Ext : gI → Prop} (hX : pSt Ext) : MSok bT Ext MT sm_213 := achk_ok (nm := 297) (sm := []) (labs := lb_213) (sp := []) (fuel := 14) (rE := [(1000000, (2, 0))]) (maxL := 3) (M := mX11_isIn) mt_X11_isIn rfl os_X11_isIn MT_len ( mA.nil) (pE hX (by decide +kernel)) (by decide +kernel)
def sm_214 : aM := (277, 6, [(1, 0, 0), (0, (-2147483648), 2147483647), (0, (-2147483648), 2147483647), (0, (-2147483648), 2147483647)], [], [(19, 1, 1), (19, 3, 3), (19, 9, 9), (24, 0, 5), (33, 0, 4)], [(some ((-2147483648), 2147483647), [], [])])
def lb_214 : List aLab := [(41, [some (1, 0), some (0, 0), some (0, 1), some (0, 2), some (2, 0), some (0, 3), some (0, 4), none], [], [(0, 3, none), ((-2147483648), 2147483647, none), (0, 20, none), ((-2147483648), 2147483647, none), (0, 20, none)], [], [(99959, (2, 0)), (20, (0, 4)), (99959, (2, 0))])]
theorem ms_214 {Ext : gI → Prop} (hX : pSt Ext) : MSok bT Ext MT sm_214 := achk_ok (nm := 297) (sm := [sm_62, sm_211, sm_206, sm_213, sm_200, sm_73, sm_74, sm_209]) (labs := lb_214) (sp := []) (fuel := 45) (rE := [(1000000, (2, 0)), (0, (2, 0)), (0, (2, 0))]) (maxL := 8) (M := mX11_goAll) mt_X11_goAll rfl os_X11_goAll MT_len ((mA.cons (ms_62 hX) (mA.cons (ms_211 hX) (mA.cons (ms_206 hX) (mA.cons (ms_213 hX) (mA.cons (ms_200 hX) (mA.cons (ms_73 hX) (mA.cons (ms_74 hX) (mA.cons (ms_209 hX) mA.nil))))))))) (pE hX (by decide +kernel)) (by decide +kernel)
def sm_215 : aM := (106, 6, [(1, 0, 0), (0, 0, 3), (0, (-2147483648), 2147483647), (0, 0, 20)], [(68, 0, 0, 16), (19, 1, 10000000068, 0), (68, 3, (-2147483648), 2147483647), (19, 4, 10000000068, 3)], [(19, 1, 1), (19, 9, 9), (24, 0, 5), (33, 0, 4)], [(some ((-2147483648), 2147483647), [], [(19, 4, 10000000068, 3)])])
def lb_215 : List aLab := [(6, [some (1, 0), some (0, 0), some (0, 1), some (0, 2), some (0, 3), some (0, 4), none], [], [(0, 3, none), ((-2147483648), 2147483647, none), (0, 20, none), ((-2147483648), 2147483647, none), (0, 2147483647, none), ((-2147483648), 2147483647, none), ((-2147483648), 2147483647, none), (0, 16, none)], [(19, 1, (0, 5)), (19, 4, (0, 6)), (68, 0, (0, 7)), (68, 3, (0, 6))], [(99994, (2, 0)), (20, (0, 4)), (99994, (2, 0))])]
theorem ms_215 {Ext : gI → Prop} (hX : pSt Ext) : MSok bT Ext MT sm_215 := achk_ok (nm := 297) (sm := [sm_62, sm_200, sm_73, sm_209]) (labs := lb_215) (sp := []) (fuel := 43) (rE := [(1000000, (2, 0)), (0, (2, 0)), (0, (2, 0))]) (maxL := 7) (M := mX11_goItems) mt_X11_goItems rfl os_X11_goItems MT_len ((mA.cons (ms_62 hX) (mA.cons (ms_200 hX) (mA.cons (ms_73 hX) (mA.cons (ms_209 hX) mA.nil))))) (pE hX (by decide +kernel)) (by decide +kernel)
def sm_216 : aM := (279, 7, [(1, 0, 0), (0, (-2147483648), 2147483647), (0, (-2147483648), 2147483647), (0, (-2147483648), 2147483647)], [(68, 0, 0, 16), (19, 1, 10000000068, 0), (68, 3, (-2147483648), 2147483647), (19, 4, 10000000068, 3)], [(19, 1, 1), (19, 9, 9), (24, 0, 5), (33, 0, 4), (34, 0, 7)], [(some ((-2147483648), 2147483647), [], [(19, 1, 10000000068, 0), (19, 4, 10000000068, 3)])])
def lb_216 : List aLab := []
theorem ms_216 {Ext : gI → Prop} (hX : pSt Ext) : MSok bT Ext MT sm_216 := achk_ok (nm := 297) (sm := [sm_211, sm_206, sm_213, sm_77, sm_79, sm_215]) (labs := lb_216) (sp := []) (fuel := 36) (rE := [(1000000, (2, 0))]) (maxL := 6) (M := mX11_wouldBe) mt_X11_wouldBe rfl os_X11_wouldBe MT_len ((mA.cons (ms_211 hX) (mA.cons (ms_206 hX) (mA.cons (ms_213 hX) (mA.cons (ms_77 hX) (mA.cons (ms_79 hX) (mA.cons (ms_215 hX) mA.nil))))))) (pE hX (by decide +kernel)) (by decide +kernel)
def sm_217 : aM := (281, 2, [(1, 0, 0), (0, (-2147483648), 2147483647), (0, (-2147483648), 2147483647), (0, (-2147483648), 2147483647)], [], [(9, 0, 3), (10, 0, 3), (11, 0, 3)], [(some ((-1), 1), [], [])])
def lb_217 : List aLab := []
theorem ms_217 {Ext : gI → Prop} (hX : pSt Ext) : MSok bT Ext MT sm_217 := achk_ok (nm := 297) (sm := [sm_206, sm_196, sm_6]) (labs := lb_217) (sp := []) (fuel := 64) (rE := [(1000000, (2, 0))]) (maxL := 4) (M := mX11_shelf) mt_X11_shelf rfl os_X11_shelf MT_len ((mA.cons (ms_206 hX) (mA.cons (ms_196 hX) (mA.cons (ms_6 hX) mA.nil)))) (pE hX (by decide +kernel)) (by decide +kernel)
def sm_218 : aM := (37, 0, [(0, (-2147483648), 2147483647), (0, 10, 10), (0, 14, 14)], [], [], [(some (1, 1), [(0, 10, 14)], []), (some (0, 0), [], [])])
def lb_218 : List aLab := []
theorem ms_218 {Ext : gI → Prop} (hX : pSt Ext) : MSok bT Ext MT sm_218 := achk_ok (nm := 297) (sm := []) (labs := lb_218) (sp := []) (fuel := 14) (rE := [(1000000, (2, 0))]) (maxL := 3) (M := mX11_isIn) mt_X11_isIn rfl os_X11_isIn MT_len ( mA.nil) (pE hX (by decide +kernel)) (by decide +kernel)
def sm_219 : aM := (107, 1, [(1, 0, 0), (0, 3, 3)], [], [], [(some (0, 0), [], []), (some (1, 1), [], [(9, 3, 0, 0), (10, 3, 0, 5), (19, 8, 1, 6)])])
def lb_219 : List aLab := []
theorem ms_219 {Ext : gI → Prop} (hX : pSt Ext) : MSok bT Ext MT sm_219 := achk_ok (nm := 297) (sm := [sm_6]) (labs := lb_219) (sp := []) (fuel := 21) (rE := [(1000000, (2, 0))]) (maxL := 2) (M := mX11_holdsKey) mt_X11_holdsKey rfl os_X11_holdsKey MT_len ((mA.cons (ms_6 hX) mA.nil)) (pE hX (by decide +kernel)) (by decide +kernel)
def sm_220 : aM := (107, 1, [(1, 0, 0), (0, 2, 2)], [], [], [(some (0, 0), [], []), (some (1, 1), [], [(9, 2, 0, 0), (10, 2, 0, 5), (19, 8, 1, 6)])])
def lb_220 : List aLab := []
theorem ms_220 {Ext : gI → Prop} (hX : pSt Ext) : MSok bT Ext MT sm_220 := achk_ok (nm := 297) (sm := [sm_6]) (labs := lb_220) (sp := []) (fuel := 21) (rE := [(1000000, (2, 0))]) (maxL := 2) (M := mX11_holdsKey) mt_X11_holdsKey rfl os_X11_holdsKey MT_len ((mA.cons (ms_6 hX) mA.nil)) (pE hX (by decide +kernel)) (by decide +kernel)
def sm_221 : aM := (107, 1, [(1, 0, 0), (0, 1, 1)], [], [], [(some (0, 0), [], []), (some (1, 1), [], [(9, 1, 0, 0), (10, 1, 0, 5), (19, 8, 1, 6)])])
def lb_221 : List aLab := []
theorem ms_221 {Ext : gI → Prop} (hX : pSt Ext) : MSok bT Ext MT sm_221 := achk_ok (nm := 297) (sm := [sm_6]) (labs := lb_221) (sp := []) (fuel := 21) (rE := [(1000000, (2, 0))]) (maxL := 2) (M := mX11_holdsKey) mt_X11_holdsKey rfl os_X11_holdsKey MT_len ((mA.cons (ms_6 hX) mA.nil)) (pE hX (by decide +kernel)) (by decide +kernel)
def sm_222 : aM := (107, 1, [(1, 0, 0), (0, 0, 0)], [], [], [(some (0, 0), [], []), (some (1, 1), [], [(9, 0, 0, 0), (10, 0, 0, 5), (19, 8, 1, 6)])])
def lb_222 : List aLab := []
theorem ms_222 {Ext : gI → Prop} (hX : pSt Ext) : MSok bT Ext MT sm_222 := achk_ok (nm := 297) (sm := [sm_6]) (labs := lb_222) (sp := []) (fuel := 21) (rE := [(1000000, (2, 0))]) (maxL := 2) (M := mX11_holdsKey) mt_X11_holdsKey rfl os_X11_holdsKey MT_len ((mA.cons (ms_6 hX) mA.nil)) (pE hX (by decide +kernel)) (by decide +kernel)
def sm_223 : aM := (283, 2, [(1, 0, 0), (0, (-2147483648), 2147483647), (0, (-2147483648), 2147483647)], [], [], [(some ((-2147483648), 2147483647), [], [])])
def lb_223 : List aLab := []
theorem ms_223 {Ext : gI → Prop} (hX : pSt Ext) : MSok bT Ext MT sm_223 := achk_ok (nm := 297) (sm := [sm_219, sm_220, sm_221, sm_222, sm_4, sm_206, sm_218, sm_9]) (labs := lb_223) (sp := [(31, 0, 1, [])]) (fuel := 47) (rE := [(1000000, (2, 0))]) (maxL := 5) (M := mX11_taken) mt_X11_taken rfl os_X11_taken MT_len ((mA.cons (ms_219 hX) (mA.cons (ms_220 hX) (mA.cons (ms_221 hX) (mA.cons (ms_222 hX) (mA.cons (ms_4 hX) (mA.cons (ms_206 hX) (mA.cons (ms_218 hX) (mA.cons (ms_9 hX) mA.nil))))))))) (pE hX (by decide +kernel)) (by decide +kernel)
def sm_224 : aM := (108, 0, [(1, 65, 0), (0, 0, 5), (0, 0, 5)], [], [(65, 0, 3)], [(none, [], [])])
def lb_224 : List aLab := []
theorem ms_224 {Ext : gI → Prop} (hX : pSt Ext) : MSok bT Ext MT sm_224 := achk_ok (nm := 297) (sm := []) (labs := lb_224) (sp := []) (fuel := 18) (rE := [(1000000, (2, 0))]) (maxL := 3) (M := mX0_begin) mt_X0_begin rfl os_X0_begin MT_len ( mA.nil) (pE hX (by decide +kernel)) (by decide +kernel)
def sm_225 : aM := (38, 0, [(1, 65, 0), (0, (-2147483648), 2147483647)], [], [(65, 3, 3), (66, 0, 29)], [(none, [], [])])
def lb_225 : List aLab := []
theorem ms_225 {Ext : gI → Prop} (hX : pSt Ext) : MSok bT Ext MT sm_225 := achk_ok (nm := 297) (sm := []) (labs := lb_225) (sp := []) (fuel := 25) (rE := [(1000000, (2, 0))]) (maxL := 2) (M := mX0_ran) mt_X0_ran rfl os_X0_ran MT_len ( mA.nil) (pE hX (by decide +kernel)) (by decide +kernel)
def sm_226 : aM := (40, 1, [(1, 13, 0), (0, (-2147483648), 2147483647), (1, 65, 0)], [], [(65, 3, 3), (66, 0, 29)], [(some ((-2147483648), 2147483647), [], [])])
def lb_226 : List aLab := []
theorem ms_226 {Ext : gI → Prop} (hX : pSt Ext) : MSok bT Ext MT sm_226 := achk_ok (nm := 297) (sm := [sm_225]) (labs := lb_226) (sp := []) (fuel := 15) (rE := [(1000000, (2, 0))]) (maxL := 3) (M := mX3_drips) mt_X3_drips rfl os_X3_drips MT_len ((mA.cons (ms_225 hX) mA.nil)) (pE hX (by decide +kernel)) (by decide +kernel)
def sm_227 : aM := (42, 2, [(1, 13, 0), (0, (-2147483648), 2147483647), (1, 65, 0)], [], [(65, 3, 3), (66, 0, 29)], [(some ((-2147483648), 2147483647), [], [])])
def lb_227 : List aLab := []
theorem ms_227 {Ext : gI → Prop} (hX : pSt Ext) : MSok bT Ext MT sm_227 := achk_ok (nm := 297) (sm := [sm_225, sm_226]) (labs := lb_227) (sp := []) (fuel := 18) (rE := [(1000000, (2, 0))]) (maxL := 3) (M := mX3_turns) mt_X3_turns rfl os_X3_turns MT_len ((mA.cons (ms_225 hX) (mA.cons (ms_226 hX) mA.nil))) (pE hX (by decide +kernel)) (by decide +kernel)
def sm_228 : aM := (45, 0, [(1, 65, 0), (0, (-2147483648), 2147483647), (0, (-2), 8)], [], [(65, 2, 2)], [(some ((-2147483648), 2147483647), [], [])])
def lb_228 : List aLab := []
theorem ms_228 {Ext : gI → Prop} (hX : pSt Ext) : MSok bT Ext MT sm_228 := achk_ok (nm := 297) (sm := []) (labs := lb_228) (sp := [(0, 0, 2, [])]) (fuel := 13) (rE := [(1000000, (2, 0))]) (maxL := 3) (M := mX0_leave) mt_X0_leave rfl os_X0_leave MT_len ( mA.nil) (pE hX (by decide +kernel)) (by decide +kernel)
def sm_229 : aM := (44, 1, [(1, 13, 0), (0, (-2147483648), 2147483647), (1, 65, 0)], [], [(65, 2, 3), (66, 0, 29)], [(some ((-2147483648), 2147483647), [], [])])
def lb_229 : List aLab := []
theorem ms_229 {Ext : gI → Prop} (hX : pSt Ext) : MSok bT Ext MT sm_229 := achk_ok (nm := 297) (sm := [sm_225, sm_228]) (labs := lb_229) (sp := []) (fuel := 19) (rE := [(1000000, (2, 0))]) (maxL := 3) (M := mX3_halves) mt_X3_halves rfl os_X3_halves MT_len ((mA.cons (ms_225 hX) (mA.cons (ms_228 hX) mA.nil))) (pE hX (by decide +kernel)) (by decide +kernel)
def sm_230 : aM := (109, 3, [(1, 13, 0), (0, (-2147483648), 2147483647), (1, 65, 0)], [], [(65, 2, 3), (66, 0, 29)], [(some ((-2147483648), 2147483647), [], [])])
def lb_230 : List aLab := []
theorem ms_230 {Ext : gI → Prop} (hX : pSt Ext) : MSok bT Ext MT sm_230 := achk_ok (nm := 297) (sm := [sm_225, sm_227, sm_229]) (labs := lb_230) (sp := []) (fuel := 20) (rE := [(1000000, (2, 0))]) (maxL := 4) (M := mX3_fits) mt_X3_fits rfl os_X3_fits MT_len ((mA.cons (ms_225 hX) (mA.cons (ms_227 hX) (mA.cons (ms_229 hX) mA.nil)))) (pE hX (by decide +kernel)) (by decide +kernel)
def sm_231 : aM := (40, 1, [(1, 14, 0), (0, (-2147483648), 2147483647), (1, 65, 0)], [], [(65, 3, 3), (66, 0, 29)], [(some ((-2147483648), 2147483647), [], [])])
def lb_231 : List aLab := []
theorem ms_231 {Ext : gI → Prop} (hX : pSt Ext) : MSok bT Ext MT sm_231 := achk_ok (nm := 297) (sm := [sm_225]) (labs := lb_231) (sp := []) (fuel := 15) (rE := [(1000000, (2, 0))]) (maxL := 3) (M := mX3_drips) mt_X3_drips rfl os_X3_drips MT_len ((mA.cons (ms_225 hX) mA.nil)) (pE hX (by decide +kernel)) (by decide +kernel)
def sm_232 : aM := (39, 2, [(1, 14, 0), (0, (-2147483648), 2147483647), (1, 65, 0)], [], [(65, 3, 3), (66, 0, 29)], [(some ((-2147483648), 2147483647), [], [])])
def lb_232 : List aLab := []
theorem ms_232 {Ext : gI → Prop} (hX : pSt Ext) : MSok bT Ext MT sm_232 := achk_ok (nm := 297) (sm := [sm_225, sm_231]) (labs := lb_232) (sp := []) (fuel := 15) (rE := [(1000000, (2, 0))]) (maxL := 3) (M := mX2_drips) mt_X2_drips rfl os_X2_drips MT_len ((mA.cons (ms_225 hX) (mA.cons (ms_231 hX) mA.nil))) (pE hX (by decide +kernel)) (by decide +kernel)
def sm_233 : aM := (42, 3, [(1, 14, 0), (0, (-2147483648), 2147483647), (1, 65, 0)], [], [(65, 3, 3), (66, 0, 29)], [(some ((-2147483648), 2147483647), [], [])])
def lb_233 : List aLab := []
theorem ms_233 {Ext : gI → Prop} (hX : pSt Ext) : MSok bT Ext MT sm_233 := achk_ok (nm := 297) (sm := [sm_225, sm_232]) (labs := lb_233) (sp := []) (fuel := 18) (rE := [(1000000, (2, 0))]) (maxL := 3) (M := mX3_turns) mt_X3_turns rfl os_X3_turns MT_len ((mA.cons (ms_225 hX) (mA.cons (ms_232 hX) mA.nil))) (pE hX (by decide +kernel)) (by decide +kernel)
def sm_234 : aM := (44, 1, [(1, 14, 0), (0, (-2147483648), 2147483647), (1, 65, 0)], [], [(65, 2, 3), (66, 0, 29)], [(some ((-2147483648), 2147483647), [], [])])
def lb_234 : List aLab := []
theorem ms_234 {Ext : gI → Prop} (hX : pSt Ext) : MSok bT Ext MT sm_234 := achk_ok (nm := 297) (sm := [sm_225, sm_228]) (labs := lb_234) (sp := []) (fuel := 19) (rE := [(1000000, (2, 0))]) (maxL := 3) (M := mX3_halves) mt_X3_halves rfl os_X3_halves MT_len ((mA.cons (ms_225 hX) (mA.cons (ms_228 hX) mA.nil))) (pE hX (by decide +kernel)) (by decide +kernel)
def sm_235 : aM := (109, 4, [(1, 14, 0), (0, (-2147483648), 2147483647), (1, 65, 0)], [], [(65, 2, 3), (66, 0, 29)], [(some ((-2147483648), 2147483647), [], [])])
def lb_235 : List aLab := []
theorem ms_235 {Ext : gI → Prop} (hX : pSt Ext) : MSok bT Ext MT sm_235 := achk_ok (nm := 297) (sm := [sm_225, sm_233, sm_234]) (labs := lb_235) (sp := []) (fuel := 20) (rE := [(1000000, (2, 0))]) (maxL := 4) (M := mX3_fits) mt_X3_fits rfl os_X3_fits MT_len ((mA.cons (ms_225 hX) (mA.cons (ms_233 hX) (mA.cons (ms_234 hX) mA.nil)))) (pE hX (by decide +kernel)) (by decide +kernel)
def sm_236 : aM := (40, 1, [(1, 15, 0), (0, (-2147483648), 2147483647), (1, 65, 0)], [], [(65, 3, 3), (66, 0, 29)], [(some ((-2147483648), 2147483647), [], [])])
def lb_236 : List aLab := []
theorem ms_236 {Ext : gI → Prop} (hX : pSt Ext) : MSok bT Ext MT sm_236 := achk_ok (nm := 297) (sm := [sm_225]) (labs := lb_236) (sp := []) (fuel := 15) (rE := [(1000000, (2, 0))]) (maxL := 3) (M := mX3_drips) mt_X3_drips rfl os_X3_drips MT_len ((mA.cons (ms_225 hX) mA.nil)) (pE hX (by decide +kernel)) (by decide +kernel)
def sm_237 : aM := (42, 2, [(1, 15, 0), (0, (-2147483648), 2147483647), (1, 65, 0)], [], [(65, 3, 3), (66, 0, 29)], [(some ((-2147483648), 2147483647), [], [])])
def lb_237 : List aLab := []
theorem ms_237 {Ext : gI → Prop} (hX : pSt Ext) : MSok bT Ext MT sm_237 := achk_ok (nm := 297) (sm := [sm_225, sm_236]) (labs := lb_237) (sp := []) (fuel := 18) (rE := [(1000000, (2, 0))]) (maxL := 3) (M := mX3_turns) mt_X3_turns rfl os_X3_turns MT_len ((mA.cons (ms_225 hX) (mA.cons (ms_236 hX) mA.nil))) (pE hX (by decide +kernel)) (by decide +kernel)
def sm_238 : aM := (46, 3, [(1, 15, 0), (0, (-2147483648), 2147483647), (1, 65, 0)], [], [(65, 3, 3), (66, 0, 29)], [(some ((-2147483648), 2147483647), [], [])])
def lb_238 : List aLab := []
theorem ms_238 {Ext : gI → Prop} (hX : pSt Ext) : MSok bT Ext MT sm_238 := achk_ok (nm := 297) (sm := [sm_225, sm_237]) (labs := lb_238) (sp := []) (fuel := 15) (rE := [(1000000, (2, 0))]) (maxL := 3) (M := mX8_turns) mt_X8_turns rfl os_X8_turns MT_len ((mA.cons (ms_225 hX) (mA.cons (ms_237 hX) mA.nil))) (pE hX (by decide +kernel)) (by decide +kernel)
def sm_239 : aM := (44, 1, [(1, 15, 0), (0, (-2147483648), 2147483647), (1, 65, 0)], [], [(65, 2, 3), (66, 0, 29)], [(some ((-2147483648), 2147483647), [], [])])
def lb_239 : List aLab := []
theorem ms_239 {Ext : gI → Prop} (hX : pSt Ext) : MSok bT Ext MT sm_239 := achk_ok (nm := 297) (sm := [sm_225, sm_228]) (labs := lb_239) (sp := []) (fuel := 19) (rE := [(1000000, (2, 0))]) (maxL := 3) (M := mX3_halves) mt_X3_halves rfl os_X3_halves MT_len ((mA.cons (ms_225 hX) (mA.cons (ms_228 hX) mA.nil))) (pE hX (by decide +kernel)) (by decide +kernel)
def sm_240 : aM := (109, 4, [(1, 15, 0), (0, (-2147483648), 2147483647), (1, 65, 0)], [], [(65, 2, 3), (66, 0, 29)], [(some ((-2147483648), 2147483647), [], [])])
def lb_240 : List aLab := []
theorem ms_240 {Ext : gI → Prop} (hX : pSt Ext) : MSok bT Ext MT sm_240 := achk_ok (nm := 297) (sm := [sm_225, sm_238, sm_239]) (labs := lb_240) (sp := []) (fuel := 20) (rE := [(1000000, (2, 0))]) (maxL := 4) (M := mX3_fits) mt_X3_fits rfl os_X3_fits MT_len ((mA.cons (ms_225 hX) (mA.cons (ms_238 hX) (mA.cons (ms_239 hX) mA.nil)))) (pE hX (by decide +kernel)) (by decide +kernel)
def sm_241 : aM := (40, 1, [(1, 16, 0), (0, (-2147483648), 2147483647), (1, 65, 0)], [], [(65, 3, 3), (66, 0, 29)], [(some ((-2147483648), 2147483647), [], [])])
def lb_241 : List aLab := []
theorem ms_241 {Ext : gI → Prop} (hX : pSt Ext) : MSok bT Ext MT sm_241 := achk_ok (nm := 297) (sm := [sm_225]) (labs := lb_241) (sp := []) (fuel := 15) (rE := [(1000000, (2, 0))]) (maxL := 3) (M := mX3_drips) mt_X3_drips rfl os_X3_drips MT_len ((mA.cons (ms_225 hX) mA.nil)) (pE hX (by decide +kernel)) (by decide +kernel)
def sm_242 : aM := (41, 2, [(1, 16, 0), (0, (-2147483648), 2147483647), (1, 65, 0)], [], [(65, 3, 3), (66, 0, 29)], [(some ((-2147483648), 2147483647), [], [])])
def lb_242 : List aLab := []
theorem ms_242 {Ext : gI → Prop} (hX : pSt Ext) : MSok bT Ext MT sm_242 := achk_ok (nm := 297) (sm := [sm_225, sm_241]) (labs := lb_242) (sp := []) (fuel := 15) (rE := [(1000000, (2, 0))]) (maxL := 3) (M := mX10_drips) mt_X10_drips rfl os_X10_drips MT_len ((mA.cons (ms_225 hX) (mA.cons (ms_241 hX) mA.nil))) (pE hX (by decide +kernel)) (by decide +kernel)
def sm_243 : aM := (42, 3, [(1, 16, 0), (0, (-2147483648), 2147483647), (1, 65, 0)], [], [(65, 3, 3), (66, 0, 29)], [(some ((-2147483648), 2147483647), [], [])])
def lb_243 : List aLab := []
theorem ms_243 {Ext : gI → Prop} (hX : pSt Ext) : MSok bT Ext MT sm_243 := achk_ok (nm := 297) (sm := [sm_225, sm_242]) (labs := lb_243) (sp := []) (fuel := 18) (rE := [(1000000, (2, 0))]) (maxL := 3) (M := mX3_turns) mt_X3_turns rfl os_X3_turns MT_len ((mA.cons (ms_225 hX) (mA.cons (ms_242 hX) mA.nil))) (pE hX (by decide +kernel)) (by decide +kernel)
def sm_244 : aM := (46, 4, [(1, 16, 0), (0, (-2147483648), 2147483647), (1, 65, 0)], [], [(65, 3, 3), (66, 0, 29)], [(some ((-2147483648), 2147483647), [], [])])
def lb_244 : List aLab := []
theorem ms_244 {Ext : gI → Prop} (hX : pSt Ext) : MSok bT Ext MT sm_244 := achk_ok (nm := 297) (sm := [sm_225, sm_243]) (labs := lb_244) (sp := []) (fuel := 15) (rE := [(1000000, (2, 0))]) (maxL := 3) (M := mX8_turns) mt_X8_turns rfl os_X8_turns MT_len ((mA.cons (ms_225 hX) (mA.cons (ms_243 hX) mA.nil))) (pE hX (by decide +kernel)) (by decide +kernel)
def sm_245 : aM := (44, 1, [(1, 16, 0), (0, (-2147483648), 2147483647), (1, 65, 0)], [], [(65, 2, 3), (66, 0, 29)], [(some ((-2147483648), 2147483647), [], [])])
def lb_245 : List aLab := []
theorem ms_245 {Ext : gI → Prop} (hX : pSt Ext) : MSok bT Ext MT sm_245 := achk_ok (nm := 297) (sm := [sm_225, sm_228]) (labs := lb_245) (sp := []) (fuel := 19) (rE := [(1000000, (2, 0))]) (maxL := 3) (M := mX3_halves) mt_X3_halves rfl os_X3_halves MT_len ((mA.cons (ms_225 hX) (mA.cons (ms_228 hX) mA.nil))) (pE hX (by decide +kernel)) (by decide +kernel)
def sm_246 : aM := (109, 5, [(1, 16, 0), (0, (-2147483648), 2147483647), (1, 65, 0)], [], [(65, 2, 3), (66, 0, 29)], [(some ((-2147483648), 2147483647), [], [])])
def lb_246 : List aLab := []
theorem ms_246 {Ext : gI → Prop} (hX : pSt Ext) : MSok bT Ext MT sm_246 := achk_ok (nm := 297) (sm := [sm_225, sm_244, sm_245]) (labs := lb_246) (sp := []) (fuel := 20) (rE := [(1000000, (2, 0))]) (maxL := 4) (M := mX3_fits) mt_X3_fits rfl os_X3_fits MT_len ((mA.cons (ms_225 hX) (mA.cons (ms_244 hX) (mA.cons (ms_245 hX) mA.nil)))) (pE hX (by decide +kernel)) (by decide +kernel)
def sm_247 : aM := (110, 6, [(1, 16, 0), (0, (-2147483648), 2147483647), (1, 65, 0)], [], [(65, 2, 3), (66, 0, 29)], [(some ((-2147483648), 2147483647), [], [])])
def lb_247 : List aLab := []
theorem ms_247 {Ext : gI → Prop} (hX : pSt Ext) : MSok bT Ext MT sm_247 := achk_ok (nm := 297) (sm := [sm_225, sm_246, sm_244]) (labs := lb_247) (sp := []) (fuel := 21) (rE := [(1000000, (2, 0))]) (maxL := 4) (M := mX10_fits) mt_X10_fits rfl os_X10_fits MT_len ((mA.cons (ms_225 hX) (mA.cons (ms_246 hX) (mA.cons (ms_244 hX) mA.nil)))) (pE hX (by decide +kernel)) (by decide +kernel)
def sm_248 : aM := (40, 1, [(1, 17, 0), (0, (-2147483648), 2147483647), (1, 65, 0)], [], [(65, 3, 3), (66, 0, 29)], [(some ((-2147483648), 2147483647), [], [])])
def lb_248 : List aLab := []
theorem ms_248 {Ext : gI → Prop} (hX : pSt Ext) : MSok bT Ext MT sm_248 := achk_ok (nm := 297) (sm := [sm_225]) (labs := lb_248) (sp := []) (fuel := 15) (rE := [(1000000, (2, 0))]) (maxL := 3) (M := mX3_drips) mt_X3_drips rfl os_X3_drips MT_len ((mA.cons (ms_225 hX) mA.nil)) (pE hX (by decide +kernel)) (by decide +kernel)
def sm_249 : aM := (42, 2, [(1, 17, 0), (0, (-2147483648), 2147483647), (1, 65, 0)], [], [(65, 3, 3), (66, 0, 29)], [(some ((-2147483648), 2147483647), [], [])])
def lb_249 : List aLab := []
theorem ms_249 {Ext : gI → Prop} (hX : pSt Ext) : MSok bT Ext MT sm_249 := achk_ok (nm := 297) (sm := [sm_225, sm_248]) (labs := lb_249) (sp := []) (fuel := 18) (rE := [(1000000, (2, 0))]) (maxL := 3) (M := mX3_turns) mt_X3_turns rfl os_X3_turns MT_len ((mA.cons (ms_225 hX) (mA.cons (ms_248 hX) mA.nil))) (pE hX (by decide +kernel)) (by decide +kernel)
def sm_250 : aM := (44, 1, [(1, 17, 0), (0, (-2147483648), 2147483647), (1, 65, 0)], [], [(65, 2, 3), (66, 0, 29)], [(some ((-2147483648), 2147483647), [], [])])
def lb_250 : List aLab := []
theorem ms_250 {Ext : gI → Prop} (hX : pSt Ext) : MSok bT Ext MT sm_250 := achk_ok (nm := 297) (sm := [sm_225, sm_228]) (labs := lb_250) (sp := []) (fuel := 19) (rE := [(1000000, (2, 0))]) (maxL := 3) (M := mX3_halves) mt_X3_halves rfl os_X3_halves MT_len ((mA.cons (ms_225 hX) (mA.cons (ms_228 hX) mA.nil))) (pE hX (by decide +kernel)) (by decide +kernel)
def sm_251 : aM := (43, 2, [(1, 17, 0), (0, (-2147483648), 2147483647), (1, 65, 0)], [], [(65, 2, 3), (66, 0, 29)], [(some ((-2147483648), 2147483647), [], [])])
def lb_251 : List aLab := []
theorem ms_251 {Ext : gI → Prop} (hX : pSt Ext) : MSok bT Ext MT sm_251 := achk_ok (nm := 297) (sm := [sm_225, sm_250]) (labs := lb_251) (sp := []) (fuel := 15) (rE := [(1000000, (2, 0))]) (maxL := 3) (M := mX7_halves) mt_X7_halves rfl os_X7_halves MT_len ((mA.cons (ms_225 hX) (mA.cons (ms_250 hX) mA.nil))) (pE hX (by decide +kernel)) (by decide +kernel)
def sm_252 : aM := (109, 3, [(1, 17, 0), (0, (-2147483648), 2147483647), (1, 65, 0)], [], [(65, 2, 3), (66, 0, 29)], [(some ((-2147483648), 2147483647), [], [])])
def lb_252 : List aLab := []
theorem ms_252 {Ext : gI → Prop} (hX : pSt Ext) : MSok bT Ext MT sm_252 := achk_ok (nm := 297) (sm := [sm_225, sm_249, sm_251]) (labs := lb_252) (sp := []) (fuel := 20) (rE := [(1000000, (2, 0))]) (maxL := 4) (M := mX3_fits) mt_X3_fits rfl os_X3_fits MT_len ((mA.cons (ms_225 hX) (mA.cons (ms_249 hX) (mA.cons (ms_251 hX) mA.nil)))) (pE hX (by decide +kernel)) (by decide +kernel)
def sm_253 : aM := (40, 1, [(1, 18, 0), (0, (-2147483648), 2147483647), (1, 65, 0)], [], [(65, 3, 3), (66, 0, 29)], [(some ((-2147483648), 2147483647), [], [])])
def lb_253 : List aLab := []
theorem ms_253 {Ext : gI → Prop} (hX : pSt Ext) : MSok bT Ext MT sm_253 := achk_ok (nm := 297) (sm := [sm_225]) (labs := lb_253) (sp := []) (fuel := 15) (rE := [(1000000, (2, 0))]) (maxL := 3) (M := mX3_drips) mt_X3_drips rfl os_X3_drips MT_len ((mA.cons (ms_225 hX) mA.nil)) (pE hX (by decide +kernel)) (by decide +kernel)
def sm_254 : aM := (42, 2, [(1, 18, 0), (0, (-2147483648), 2147483647), (1, 65, 0)], [], [(65, 3, 3), (66, 0, 29)], [(some ((-2147483648), 2147483647), [], [])])
def lb_254 : List aLab := []
theorem ms_254 {Ext : gI → Prop} (hX : pSt Ext) : MSok bT Ext MT sm_254 := achk_ok (nm := 297) (sm := [sm_225, sm_253]) (labs := lb_254) (sp := []) (fuel := 18) (rE := [(1000000, (2, 0))]) (maxL := 3) (M := mX3_turns) mt_X3_turns rfl os_X3_turns MT_len ((mA.cons (ms_225 hX) (mA.cons (ms_253 hX) mA.nil))) (pE hX (by decide +kernel)) (by decide +kernel)
def sm_255 : aM := (47, 3, [(1, 18, 0), (0, (-2147483648), 2147483647), (1, 65, 0)], [], [(65, 3, 3), (66, 0, 29)], [(some ((-2147483648), 2147483647), [], [])])
def lb_255 : List aLab := []
theorem ms_255 {Ext : gI → Prop} (hX : pSt Ext) : MSok bT Ext MT sm_255 := achk_ok (nm := 297) (sm := [sm_225, sm_254]) (labs := lb_255) (sp := []) (fuel := 15) (rE := [(1000000, (2, 0))]) (maxL := 3) (M := mX9_turns) mt_X9_turns rfl os_X9_turns MT_len ((mA.cons (ms_225 hX) (mA.cons (ms_254 hX) mA.nil))) (pE hX (by decide +kernel)) (by decide +kernel)
def sm_256 : aM := (44, 1, [(1, 18, 0), (0, (-2147483648), 2147483647), (1, 65, 0)], [], [(65, 2, 3), (66, 0, 29)], [(some ((-2147483648), 2147483647), [], [])])
def lb_256 : List aLab := []
theorem ms_256 {Ext : gI → Prop} (hX : pSt Ext) : MSok bT Ext MT sm_256 := achk_ok (nm := 297) (sm := [sm_225, sm_228]) (labs := lb_256) (sp := []) (fuel := 19) (rE := [(1000000, (2, 0))]) (maxL := 3) (M := mX3_halves) mt_X3_halves rfl os_X3_halves MT_len ((mA.cons (ms_225 hX) (mA.cons (ms_228 hX) mA.nil))) (pE hX (by decide +kernel)) (by decide +kernel)
def sm_257 : aM := (43, 2, [(1, 18, 0), (0, (-2147483648), 2147483647), (1, 65, 0)], [], [(65, 2, 3), (66, 0, 29)], [(some ((-2147483648), 2147483647), [], [])])
def lb_257 : List aLab := []
theorem ms_257 {Ext : gI → Prop} (hX : pSt Ext) : MSok bT Ext MT sm_257 := achk_ok (nm := 297) (sm := [sm_225, sm_256]) (labs := lb_257) (sp := []) (fuel := 15) (rE := [(1000000, (2, 0))]) (maxL := 3) (M := mX7_halves) mt_X7_halves rfl os_X7_halves MT_len ((mA.cons (ms_225 hX) (mA.cons (ms_256 hX) mA.nil))) (pE hX (by decide +kernel)) (by decide +kernel)
def sm_258 : aM := (48, 3, [(1, 18, 0), (0, (-2147483648), 2147483647), (1, 65, 0)], [], [(65, 2, 3), (66, 0, 29)], [(some ((-2147483648), 2147483647), [], [])])
def lb_258 : List aLab := []
theorem ms_258 {Ext : gI → Prop} (hX : pSt Ext) : MSok bT Ext MT sm_258 := achk_ok (nm := 297) (sm := [sm_225, sm_257, sm_253]) (labs := lb_258) (sp := []) (fuel := 21) (rE := [(1000000, (2, 0))]) (maxL := 4) (M := mX9_halves) mt_X9_halves rfl os_X9_halves MT_len ((mA.cons (ms_225 hX) (mA.cons (ms_257 hX) (mA.cons (ms_253 hX) mA.nil)))) (pE hX (by decide +kernel)) (by decide +kernel)
def sm_259 : aM := (109, 4, [(1, 18, 0), (0, (-2147483648), 2147483647), (1, 65, 0)], [], [(65, 2, 3), (66, 0, 29)], [(some ((-2147483648), 2147483647), [], [])])
def lb_259 : List aLab := []
theorem ms_259 {Ext : gI → Prop} (hX : pSt Ext) : MSok bT Ext MT sm_259 := achk_ok (nm := 297) (sm := [sm_225, sm_255, sm_258]) (labs := lb_259) (sp := []) (fuel := 20) (rE := [(1000000, (2, 0))]) (maxL := 4) (M := mX3_fits) mt_X3_fits rfl os_X3_fits MT_len ((mA.cons (ms_225 hX) (mA.cons (ms_255 hX) (mA.cons (ms_258 hX) mA.nil)))) (pE hX (by decide +kernel)) (by decide +kernel)
def sm_260 : aM := (285, 7, [(1, 0, 0), (0, (-2147483648), 2147483647), (0, (-2147483648), 2147483647), (0, (-2147483648), 2147483647)], [], [(65, 0, 3), (66, 0, 29)], [(some ((-2147483648), 2147483647), [], [])])
def lb_260 : List aLab := []
theorem ms_260 {Ext : gI → Prop} (hX : pSt Ext) : MSok bT Ext MT sm_260 := achk_ok (nm := 297) (sm := [sm_219, sm_220, sm_221, sm_222, sm_224, sm_206, sm_119, sm_230, sm_229, sm_227, sm_226, sm_235, sm_234, sm_233, sm_232, sm_240, sm_239, sm_238, sm_236, sm_247, sm_245, sm_244, sm_242, sm_252, sm_251, sm_249, sm_248, sm_259, sm_258, sm_255, sm_253]) (labs := lb_260) (sp := [(16, 0, 1, [])]) (fuel := 58) (rE := [(1000000, (2, 0))]) (maxL := 7) (M := mX11_act) mt_X11_act rfl os_X11_act MT_len ((mA.cons (ms_219 hX) (mA.cons (ms_220 hX) (mA.cons (ms_221 hX) (mA.cons (ms_222 hX) (mA.cons (ms_224 hX) (mA.cons (ms_206 hX) (mA.cons (ms_119 hX) (mA.cons (ms_230 hX) (mA.cons (ms_229 hX) (mA.cons (ms_227 hX) (mA.cons (ms_226 hX) (mA.cons (ms_235 hX) (mA.cons (ms_234 hX) (mA.cons (ms_233 hX) (mA.cons (ms_232 hX) (mA.cons (ms_240 hX) (mA.cons (ms_239 hX) (mA.cons (ms_238 hX) (mA.cons (ms_236 hX) (mA.cons (ms_247 hX) (mA.cons (ms_245 hX) (mA.cons (ms_244 hX) (mA.cons (ms_242 hX) (mA.cons (ms_252 hX) (mA.cons (ms_251 hX) (mA.cons (ms_249 hX) (mA.cons (ms_248 hX) (mA.cons (ms_259 hX) (mA.cons (ms_258 hX) (mA.cons (ms_255 hX) (mA.cons (ms_253 hX) mA.nil)))))))))))))))))))))))))))))))) (pE hX (by decide +kernel)) (by decide +kernel)
def sm_261 : aM := (37, 0, [(0, (-2147483648), 2147483647), (0, 0, 0), (0, (-1), 29)], [], [], [(some (1, 1), [(0, 0, 29), (2, 0, 29)], []), (some (0, 0), [], [])])
def lb_261 : List aLab := []
theorem ms_261 {Ext : gI → Prop} (hX : pSt Ext) : MSok bT Ext MT sm_261 := achk_ok (nm := 297) (sm := []) (labs := lb_261) (sp := []) (fuel := 14) (rE := [(1000000, (2, 0))]) (maxL := 3) (M := mX11_isIn) mt_X11_isIn rfl os_X11_isIn MT_len ( mA.nil) (pE hX (by decide +kernel)) (by decide +kernel)
def sm_262 : aM := (287, 1, [(1, 0, 0), (0, (-2147483648), 2147483647)], [], [], [(some ((-2147483648), 2147483647), [], [])])
def lb_262 : List aLab := []
theorem ms_262 {Ext : gI → Prop} (hX : pSt Ext) : MSok bT Ext MT sm_262 := achk_ok (nm := 297) (sm := [sm_261]) (labs := lb_262) (sp := []) (fuel := 21) (rE := [(1000000, (2, 0))]) (maxL := 2) (M := mX11_trace) mt_X11_trace rfl os_X11_trace MT_len ((mA.cons (ms_261 hX) mA.nil)) (pE hX (by decide +kernel)) (by decide +kernel)
def sm_263 : aM := (289, 1, [(1, 0, 0), (0, (-2147483648), 2147483647)], [], [], [(some ((-1), 200), [], [])])
def lb_263 : List aLab := []
theorem ms_263 {Ext : gI → Prop} (hX : pSt Ext) : MSok bT Ext MT sm_263 := achk_ok (nm := 297) (sm := [sm_96]) (labs := lb_263) (sp := []) (fuel := 12) (rE := [(1000000, (2, 0))]) (maxL := 2) (M := mX11_many) mt_X11_many rfl os_X11_many MT_len ((mA.cons (ms_96 hX) mA.nil)) (pE hX (by decide +kernel)) (by decide +kernel)
def sm_264 : aM := (127, 0, [(0, (-2147483648), 2147483647), (0, 1, 1), (0, 5, 5)], [], [], [(some (1, 1), [(0, 1, 5)], []), (some (0, 0), [], [])])
def lb_264 : List aLab := []
theorem ms_264 {Ext : gI → Prop} (hX : pSt Ext) : MSok bT Ext MT sm_264 := achk_ok (nm := 297) (sm := []) (labs := lb_264) (sp := []) (fuel := 14) (rE := [(1000000, (2, 0))]) (maxL := 3) (M := mX12_in1) mt_X12_in1 rfl os_X12_in1 MT_len ( mA.nil) (pE hX (by decide +kernel)) (by decide +kernel)
def sm_265 : aM := (127, 0, [(0, (-2147483648), 2147483647), (0, 0, 0), (0, 99, 99)], [], [], [(some (1, 1), [(0, 0, 99)], []), (some (0, 0), [], [])])
def lb_265 : List aLab := []
theorem ms_265 {Ext : gI → Prop} (hX : pSt Ext) : MSok bT Ext MT sm_265 := achk_ok (nm := 297) (sm := []) (labs := lb_265) (sp := []) (fuel := 14) (rE := [(1000000, (2, 0))]) (maxL := 3) (M := mX12_in1) mt_X12_in1 rfl os_X12_in1 MT_len ( mA.nil) (pE hX (by decide +kernel)) (by decide +kernel)
def sm_266 : aM := (127, 0, [(0, (-2147483648), 2147483647), (0, 0, 0), (0, 9, 9)], [], [], [(some (1, 1), [(0, 0, 9)], []), (some (0, 0), [], [])])
def lb_266 : List aLab := []
theorem ms_266 {Ext : gI → Prop} (hX : pSt Ext) : MSok bT Ext MT sm_266 := achk_ok (nm := 297) (sm := []) (labs := lb_266) (sp := []) (fuel := 14) (rE := [(1000000, (2, 0))]) (maxL := 3) (M := mX12_in1) mt_X12_in1 rfl os_X12_in1 MT_len ( mA.nil) (pE hX (by decide +kernel)) (by decide +kernel)
def sm_267 : aM := (187, 1, [(0, (-2147483648), 2147483647)], [], [], [(some (0, 0), [], []), (some (1, 1), [(0, 0, 9)], [])])
def lb_267 : List aLab := []
theorem ms_267 {Ext : gI → Prop} (hX : pSt Ext) : MSok bT Ext MT sm_267 := achk_ok (nm := 297) (sm := [sm_266]) (labs := lb_267) (sp := []) (fuel := 10) (rE := [(1000000, (2, 0))]) (maxL := 1) (M := mX12_isDigit) mt_X12_isDigit rfl os_X12_isDigit MT_len ((mA.cons (ms_266 hX) mA.nil)) (pE hX (by decide +kernel)) (by decide +kernel)
def sm_268 : aM := (127, 0, [(0, (-2147483648), 2147483647), (0, 0, 0), (0, 5, 5)], [], [], [(some (1, 1), [(0, 0, 5)], []), (some (0, 0), [], [])])
def lb_268 : List aLab := []
theorem ms_268 {Ext : gI → Prop} (hX : pSt Ext) : MSok bT Ext MT sm_268 := achk_ok (nm := 297) (sm := []) (labs := lb_268) (sp := []) (fuel := 14) (rE := [(1000000, (2, 0))]) (maxL := 3) (M := mX12_in1) mt_X12_in1 rfl os_X12_in1 MT_len ( mA.nil) (pE hX (by decide +kernel)) (by decide +kernel)
def sm_269 : aM := (188, 1, [(0, (-2147483648), 2147483647)], [], [], [(some (0, 0), [], []), (some (1, 1), [(0, 0, 5)], [])])
def lb_269 : List aLab := []
theorem ms_269 {Ext : gI → Prop} (hX : pSt Ext) : MSok bT Ext MT sm_269 := achk_ok (nm := 297) (sm := [sm_268]) (labs := lb_269) (sp := []) (fuel := 10) (rE := [(1000000, (2, 0))]) (maxL := 1) (M := mX12_isGate) mt_X12_isGate rfl os_X12_isGate MT_len ((mA.cons (ms_268 hX) mA.nil)) (pE hX (by decide +kernel)) (by decide +kernel)
def sm_271 : aM := (141, 0, [(1, 67, 0), (0, 0, 5), (0, 1, 1), (0, 0, 99)], [], [(68, 36, 36), (68, 41, 41), (68, 46, 46), (68, 51, 51), (68, 56, 56), (68, 61, 61)], [(none, [], [])])
def lb_271 : List aLab := []
theorem ms_271 {Ext : gI → Prop} (hX : pSt Ext) : MSok bT Ext MT sm_271 := achk_ok (nm := 297) (sm := []) (labs := lb_271) (sp := [(0, 0, 1, [])]) (fuel := 18) (rE := [(1000000, (2, 0))]) (maxL := 4) (M := mX12_puts) mt_X12_puts rfl os_X12_puts MT_len ( mA.nil) (pE hX (by decide +kernel)) (by decide +kernel)
def sm_272 : aM := (141, 0, [(1, 67, 0), (0, 0, 5), (0, 2, 2), (0, 0, 9)], [], [(68, 37, 37), (68, 42, 42), (68, 47, 47), (68, 52, 52), (68, 57, 57), (68, 62, 62)], [(none, [], [])])
def lb_272 : List aLab := []
theorem ms_272 {Ext : gI → Prop} (hX : pSt Ext) : MSok bT Ext MT sm_272 := achk_ok (nm := 297) (sm := []) (labs := lb_272) (sp := [(0, 0, 1, [])]) (fuel := 18) (rE := [(1000000, (2, 0))]) (maxL := 4) (M := mX12_puts) mt_X12_puts rfl os_X12_puts MT_len ( mA.nil) (pE hX (by decide +kernel)) (by decide +kernel)
def sm_273 : aM := (141, 0, [(1, 67, 0), (0, 0, 5), (0, 3, 3), (0, 0, 5)], [], [(68, 38, 38), (68, 43, 43), (68, 48, 48), (68, 53, 53), (68, 58, 58), (68, 63, 63)], [(none, [], [])])
def lb_273 : List aLab := []
theorem ms_273 {Ext : gI → Prop} (hX : pSt Ext) : MSok bT Ext MT sm_273 := achk_ok (nm := 297) (sm := []) (labs := lb_273) (sp := [(0, 0, 1, [])]) (fuel := 18) (rE := [(1000000, (2, 0))]) (maxL := 4) (M := mX12_puts) mt_X12_puts rfl os_X12_puts MT_len ( mA.nil) (pE hX (by decide +kernel)) (by decide +kernel)
def sm_274 : aM := (141, 0, [(1, 67, 0), (0, 0, 5), (0, 4, 4), (0, 0, 0)], [], [(68, 39, 39), (68, 44, 44), (68, 49, 49), (68, 54, 54), (68, 59, 59), (68, 64, 64)], [(none, [], [])])
def lb_274 : List aLab := []
theorem ms_274 {Ext : gI → Prop} (hX : pSt Ext) : MSok bT Ext MT sm_274 := achk_ok (nm := 297) (sm := []) (labs := lb_274) (sp := [(0, 0, 1, [])]) (fuel := 18) (rE := [(1000000, (2, 0))]) (maxL := 4) (M := mX12_puts) mt_X12_puts rfl os_X12_puts MT_len ( mA.nil) (pE hX (by decide +kernel)) (by decide +kernel)
def sm_275 : aM := (127, 0, [(0, (-2147483648), 2147483647), (0, 0, 0), (0, (-1), 5)], [], [], [(some (1, 1), [(0, 0, 5), (2, 0, 5)], []), (some (0, 0), [], [])])
def lb_275 : List aLab := []
theorem ms_275 {Ext : gI → Prop} (hX : pSt Ext) : MSok bT Ext MT sm_275 := achk_ok (nm := 297) (sm := []) (labs := lb_275) (sp := []) (fuel := 14) (rE := [(1000000, (2, 0))]) (maxL := 3) (M := mX12_in1) mt_X12_in1 rfl os_X12_in1 MT_len ( mA.nil) (pE hX (by decide +kernel)) (by decide +kernel)
def sm_276 : aM := (149, 1, [(1, 67, 0), (0, (-2147483648), 2147483647)], [], [], [(some (0, 0), [], []), (some (1, 1), [(1, 0, 5)], [])])
def lb_276 : List aLab := []
theorem ms_276 {Ext : gI → Prop} (hX : pSt Ext) : MSok bT Ext MT sm_276 := achk_ok (nm := 297) (sm := [sm_275]) (labs := lb_276) (sp := []) (fuel := 15) (rE := [(1000000, (2, 0))]) (maxL := 2) (M := mX12_isKey) mt_X12_isKey rfl os_X12_isKey MT_len ((mA.cons (ms_275 hX) mA.nil)) (pE hX (by decide +kernel)) (by decide +kernel)
def sm_277 : aM := (112, 0, [(1, 67, 0), (0, 0, 5), (0, 0, 9)], [], [], [(some ((-2147483648), 2147483647), [], [])])
def lb_277 : List aLab := []
theorem ms_277 {Ext : gI → Prop} (hX : pSt Ext) : MSok bT Ext MT sm_277 := achk_ok (nm := 297) (sm := []) (labs := lb_277) (sp := [(0, 0, 1, [])]) (fuel := 17) (rE := [(1000000, (2, 0))]) (maxL := 3) (M := mX12_get) mt_X12_get rfl os_X12_get MT_len ( mA.nil) (pE hX (by decide +kernel)) (by decide +kernel)
def sm_278 : aM := (112, 0, [(1, 67, 0), (0, 0, 5), (0, 0, 0)], [], [], [(some (0, 5), [], [])])
def lb_278 : List aLab := []
theorem ms_278 {Ext : gI → Prop} (hX : pSt Ext) : MSok bT Ext MT sm_278 := achk_ok (nm := 297) (sm := []) (labs := lb_278) (sp := [(0, 0, 1, [])]) (fuel := 17) (rE := [(1000000, (2, 0))]) (maxL := 3) (M := mX12_get) mt_X12_get rfl os_X12_get MT_len ( mA.nil) (pE hX (by decide +kernel)) (by decide +kernel)
def sm_279 : aM := (113, 0, [(1, 67, 0), (0, 0, 0), (0, 0, 0)], [], [], [(some ((-2147483648), 2147483647), [], [])])
def lb_279 : List aLab := []
theorem ms_279 {Ext : gI → Prop} (hX : pSt Ext) : MSok bT Ext MT sm_279 := achk_ok (nm := 297) (sm := []) (labs := lb_279) (sp := []) (fuel := 16) (rE := [(1000000, (2, 0))]) (maxL := 3) (M := mX12_ruleOf) mt_X12_ruleOf rfl os_X12_ruleOf MT_len ( mA.nil) (pE hX (by decide +kernel)) (by decide +kernel)
def sm_280 : aM := (115, 0, [(0, 5, 5)], [], [], [(some (4, 4), [], [])])
def lb_280 : List aLab := []
theorem ms_280 {Ext : gI → Prop} (hX : pSt Ext) : MSok bT Ext MT sm_280 := achk_ok (nm := 297) (sm := []) (labs := lb_280) (sp := []) (fuel := 14) (rE := [(1000000, (2, 0))]) (maxL := 1) (M := mX12_above) mt_X12_above rfl os_X12_above MT_len ( mA.nil) (pE hX (by decide +kernel)) (by decide +kernel)
def sm_281 : aM := (115, 0, [(0, 4, 4)], [], [], [(some (0, 0), [], [])])
def lb_281 : List aLab := []
theorem ms_281 {Ext : gI → Prop} (hX : pSt Ext) : MSok bT Ext MT sm_281 := achk_ok (nm := 297) (sm := []) (labs := lb_281) (sp := []) (fuel := 13) (rE := [(1000000, (2, 0))]) (maxL := 1) (M := mX12_above) mt_X12_above rfl os_X12_above MT_len ( mA.nil) (pE hX (by decide +kernel)) (by decide +kernel)
def sm_282 : aM := (115, 0, [(0, 3, 3)], [], [], [(some (2, 2), [], [])])
def lb_282 : List aLab := []
theorem ms_282 {Ext : gI → Prop} (hX : pSt Ext) : MSok bT Ext MT sm_282 := achk_ok (nm := 297) (sm := []) (labs := lb_282) (sp := []) (fuel := 11) (rE := [(1000000, (2, 0))]) (maxL := 1) (M := mX12_above) mt_X12_above rfl os_X12_above MT_len ( mA.nil) (pE hX (by decide +kernel)) (by decide +kernel)
def sm_283 : aM := (115, 0, [(0, 2, 2)], [], [], [(some (0, 0), [], [])])
def lb_283 : List aLab := []
theorem ms_283 {Ext : gI → Prop} (hX : pSt Ext) : MSok bT Ext MT sm_283 := achk_ok (nm := 297) (sm := []) (labs := lb_283) (sp := []) (fuel := 13) (rE := [(1000000, (2, 0))]) (maxL := 1) (M := mX12_above) mt_X12_above rfl os_X12_above MT_len ( mA.nil) (pE hX (by decide +kernel)) (by decide +kernel)
def sm_284 : aM := (115, 0, [(0, 1, 1)], [], [], [(some (0, 0), [], [])])
def lb_284 : List aLab := []
theorem ms_284 {Ext : gI → Prop} (hX : pSt Ext) : MSok bT Ext MT sm_284 := achk_ok (nm := 297) (sm := []) (labs := lb_284) (sp := []) (fuel := 13) (rE := [(1000000, (2, 0))]) (maxL := 1) (M := mX12_above) mt_X12_above rfl os_X12_above MT_len ( mA.nil) (pE hX (by decide +kernel)) (by decide +kernel)
def sm_285 : aM := (114, 1, [(0, 0, 5), (0, (-2147483648), 2147483647)], [], [], [(some (1, 1), [(1, 0, 5)], []), (some (0, 0), [], [])])
def lb_285 : List aLab := []
theorem ms_285 {Ext : gI → Prop} (hX : pSt Ext) : MSok bT Ext MT sm_285 := achk_ok (nm := 297) (sm := [sm_280, sm_281, sm_282, sm_283, sm_284]) (labs := lb_285) (sp := [(0, 0, 0, [])]) (fuel := 37) (rE := [(1000000, (2, 0))]) (maxL := 3) (M := mX12_isUnder) mt_X12_isUnder rfl os_X12_isUnder MT_len ((mA.cons (ms_280 hX) (mA.cons (ms_281 hX) (mA.cons (ms_282 hX) (mA.cons (ms_283 hX) (mA.cons (ms_284 hX) mA.nil)))))) (pE hX (by decide +kernel)) (by decide +kernel)
def sm_287 : aM := (113, 0, [(1, 67, 0), (0, 0, 0), (0, 1, 1)], [], [], [(some ((-2147483648), 2147483647), [], [])])
def lb_287 : List aLab := []
theorem ms_287 {Ext : gI → Prop} (hX : pSt Ext) : MSok bT Ext MT sm_287 := achk_ok (nm := 297) (sm := []) (labs := lb_287) (sp := []) (fuel := 16) (rE := [(1000000, (2, 0))]) (maxL := 3) (M := mX12_ruleOf) mt_X12_ruleOf rfl os_X12_ruleOf MT_len ( mA.nil) (pE hX (by decide +kernel)) (by decide +kernel)
def sm_295 : aM := (113, 0, [(1, 67, 0), (0, 0, 1), (0, 0, 0)], [], [], [(some ((-2147483648), 2147483647), [], [])])
def lb_295 : List aLab := []
theorem ms_295 {Ext : gI → Prop} (hX : pSt Ext) : MSok bT Ext MT sm_295 := achk_ok (nm := 297) (sm := []) (labs := lb_295) (sp := []) (fuel := 16) (rE := [(1000000, (2, 0))]) (maxL := 3) (M := mX12_ruleOf) mt_X12_ruleOf rfl os_X12_ruleOf MT_len ( mA.nil) (pE hX (by decide +kernel)) (by decide +kernel)
def sm_296 : aM := (113, 0, [(1, 67, 0), (0, 0, 1), (0, 1, 1)], [], [], [(some ((-2147483648), 2147483647), [], [])])
def lb_296 : List aLab := []
theorem ms_296 {Ext : gI → Prop} (hX : pSt Ext) : MSok bT Ext MT sm_296 := achk_ok (nm := 297) (sm := []) (labs := lb_296) (sp := []) (fuel := 16) (rE := [(1000000, (2, 0))]) (maxL := 3) (M := mX12_ruleOf) mt_X12_ruleOf rfl os_X12_ruleOf MT_len ( mA.nil) (pE hX (by decide +kernel)) (by decide +kernel)
def sm_297 : aM := (113, 0, [(1, 67, 0), (0, 0, 2), (0, 0, 0)], [], [], [(some ((-2147483648), 2147483647), [], [])])
def lb_297 : List aLab := []
theorem ms_297 {Ext : gI → Prop} (hX : pSt Ext) : MSok bT Ext MT sm_297 := achk_ok (nm := 297) (sm := []) (labs := lb_297) (sp := []) (fuel := 16) (rE := [(1000000, (2, 0))]) (maxL := 3) (M := mX12_ruleOf) mt_X12_ruleOf rfl os_X12_ruleOf MT_len ( mA.nil) (pE hX (by decide +kernel)) (by decide +kernel)
def sm_298 : aM := (113, 0, [(1, 67, 0), (0, 0, 2), (0, 1, 1)], [], [], [(some ((-2147483648), 2147483647), [], [])])
def lb_298 : List aLab := []
theorem ms_298 {Ext : gI → Prop} (hX : pSt Ext) : MSok bT Ext MT sm_298 := achk_ok (nm := 297) (sm := []) (labs := lb_298) (sp := []) (fuel := 16) (rE := [(1000000, (2, 0))]) (maxL := 3) (M := mX12_ruleOf) mt_X12_ruleOf rfl os_X12_ruleOf MT_len ( mA.nil) (pE hX (by decide +kernel)) (by decide +kernel)
def sm_299 : aM := (113, 0, [(1, 67, 0), (0, 0, 4), (0, 0, 0)], [], [], [(some ((-2147483648), 2147483647), [], [])])
def lb_299 : List aLab := []
theorem ms_299 {Ext : gI → Prop} (hX : pSt Ext) : MSok bT Ext MT sm_299 := achk_ok (nm := 297) (sm := []) (labs := lb_299) (sp := []) (fuel := 16) (rE := [(1000000, (2, 0))]) (maxL := 3) (M := mX12_ruleOf) mt_X12_ruleOf rfl os_X12_ruleOf MT_len ( mA.nil) (pE hX (by decide +kernel)) (by decide +kernel)
def sm_300 : aM := (113, 0, [(1, 67, 0), (0, 0, 4), (0, 1, 1)], [], [], [(some ((-2147483648), 2147483647), [], [])])
def lb_300 : List aLab := []
theorem ms_300 {Ext : gI → Prop} (hX : pSt Ext) : MSok bT Ext MT sm_300 := achk_ok (nm := 297) (sm := []) (labs := lb_300) (sp := []) (fuel := 16) (rE := [(1000000, (2, 0))]) (maxL := 3) (M := mX12_ruleOf) mt_X12_ruleOf rfl os_X12_ruleOf MT_len ( mA.nil) (pE hX (by decide +kernel)) (by decide +kernel)
def sm_301 : aM := (113, 0, [(1, 67, 0), (0, 0, 5), (0, 0, 0)], [], [], [(some ((-2147483648), 2147483647), [], [])])
def lb_301 : List aLab := []
theorem ms_301 {Ext : gI → Prop} (hX : pSt Ext) : MSok bT Ext MT sm_301 := achk_ok (nm := 297) (sm := []) (labs := lb_301) (sp := []) (fuel := 16) (rE := [(1000000, (2, 0))]) (maxL := 3) (M := mX12_ruleOf) mt_X12_ruleOf rfl os_X12_ruleOf MT_len ( mA.nil) (pE hX (by decide +kernel)) (by decide +kernel)
def sm_302 : aM := (113, 0, [(1, 67, 0), (0, 0, 5), (0, 1, 1)], [], [], [(some ((-2147483648), 2147483647), [], [])])
def lb_302 : List aLab := []
theorem ms_302 {Ext : gI → Prop} (hX : pSt Ext) : MSok bT Ext MT sm_302 := achk_ok (nm := 297) (sm := []) (labs := lb_302) (sp := []) (fuel := 16) (rE := [(1000000, (2, 0))]) (maxL := 3) (M := mX12_ruleOf) mt_X12_ruleOf rfl os_X12_ruleOf MT_len ( mA.nil) (pE hX (by decide +kernel)) (by decide +kernel)
def sm_303 : aM := (113, 0, [(1, 67, 0), (0, 0, 6), (0, 0, 0)], [], [], [(some ((-2147483648), 2147483647), [], [])])
def lb_303 : List aLab := []
theorem ms_303 {Ext : gI → Prop} (hX : pSt Ext) : MSok bT Ext MT sm_303 := achk_ok (nm := 297) (sm := []) (labs := lb_303) (sp := []) (fuel := 16) (rE := [(1000000, (2, 0))]) (maxL := 3) (M := mX12_ruleOf) mt_X12_ruleOf rfl os_X12_ruleOf MT_len ( mA.nil) (pE hX (by decide +kernel)) (by decide +kernel)
def sm_304 : aM := (113, 0, [(1, 67, 0), (0, 0, 6), (0, 1, 1)], [], [], [(some ((-2147483648), 2147483647), [], [])])
def lb_304 : List aLab := []
theorem ms_304 {Ext : gI → Prop} (hX : pSt Ext) : MSok bT Ext MT sm_304 := achk_ok (nm := 297) (sm := []) (labs := lb_304) (sp := []) (fuel := 16) (rE := [(1000000, (2, 0))]) (maxL := 3) (M := mX12_ruleOf) mt_X12_ruleOf rfl os_X12_ruleOf MT_len ( mA.nil) (pE hX (by decide +kernel)) (by decide +kernel)
def sm_305 : aM := (113, 0, [(1, 67, 0), (0, 0, 7), (0, 0, 0)], [], [], [(some ((-2147483648), 2147483647), [], [])])
def lb_305 : List aLab := []
theorem ms_305 {Ext : gI → Prop} (hX : pSt Ext) : MSok bT Ext MT sm_305 := achk_ok (nm := 297) (sm := []) (labs := lb_305) (sp := []) (fuel := 16) (rE := [(1000000, (2, 0))]) (maxL := 3) (M := mX12_ruleOf) mt_X12_ruleOf rfl os_X12_ruleOf MT_len ( mA.nil) (pE hX (by decide +kernel)) (by decide +kernel)
def sm_306 : aM := (113, 0, [(1, 67, 0), (0, 0, 7), (0, 1, 1)], [], [], [(some ((-2147483648), 2147483647), [], [])])
def lb_306 : List aLab := []
theorem ms_306 {Ext : gI → Prop} (hX : pSt Ext) : MSok bT Ext MT sm_306 := achk_ok (nm := 297) (sm := []) (labs := lb_306) (sp := []) (fuel := 16) (rE := [(1000000, (2, 0))]) (maxL := 3) (M := mX12_ruleOf) mt_X12_ruleOf rfl os_X12_ruleOf MT_len ( mA.nil) (pE hX (by decide +kernel)) (by decide +kernel)
def sm_308 : aM := (112, 0, [(1, 67, 0), (0, 0, 5), (0, 4, 4)], [], [], [(some (0, 1), [], [])])
def lb_308 : List aLab := []
theorem ms_308 {Ext : gI → Prop} (hX : pSt Ext) : MSok bT Ext MT sm_308 := achk_ok (nm := 297) (sm := []) (labs := lb_308) (sp := [(0, 0, 1, [])]) (fuel := 17) (rE := [(1000000, (2, 0))]) (maxL := 3) (M := mX12_get) mt_X12_get rfl os_X12_get MT_len ( mA.nil) (pE hX (by decide +kernel)) (by decide +kernel)
def sm_309 : aM := (112, 0, [(1, 67, 0), (0, 0, 5), (0, 3, 3)], [], [], [(some (0, 5), [], [])])
def lb_309 : List aLab := []
theorem ms_309 {Ext : gI → Prop} (hX : pSt Ext) : MSok bT Ext MT sm_309 := achk_ok (nm := 297) (sm := []) (labs := lb_309) (sp := [(0, 0, 1, [])]) (fuel := 17) (rE := [(1000000, (2, 0))]) (maxL := 3) (M := mX12_get) mt_X12_get rfl os_X12_get MT_len ( mA.nil) (pE hX (by decide +kernel)) (by decide +kernel)
def sm_310 : aM := (112, 0, [(1, 67, 0), (0, 0, 5), (0, 1, 1)], [], [], [(some (0, 99), [], [])])
def lb_310 : List aLab := []
theorem ms_310 {Ext : gI → Prop} (hX : pSt Ext) : MSok bT Ext MT sm_310 := achk_ok (nm := 297) (sm := []) (labs := lb_310) (sp := [(0, 0, 1, [])]) (fuel := 17) (rE := [(1000000, (2, 0))]) (maxL := 3) (M := mX12_get) mt_X12_get rfl os_X12_get MT_len ( mA.nil) (pE hX (by decide +kernel)) (by decide +kernel)
def sm_311 : aM := (112, 0, [(1, 67, 0), (0, 0, 5), (0, 2, 2)], [], [], [(some (0, 9), [], [])])
def lb_311 : List aLab := []
theorem ms_311 {Ext : gI → Prop} (hX : pSt Ext) : MSok bT Ext MT sm_311 := achk_ok (nm := 297) (sm := []) (labs := lb_311) (sp := [(0, 0, 1, [])]) (fuel := 17) (rE := [(1000000, (2, 0))]) (maxL := 3) (M := mX12_get) mt_X12_get rfl os_X12_get MT_len ( mA.nil) (pE hX (by decide +kernel)) (by decide +kernel)
def sm_312 : aM := (124, 0, [(0, (-2147483648), 2147483647), (0, (-2147483648), 2147483647), (0, (-2147483648), 2147483647), (0, (-2147483648), 2147483647)], [], [], [(some ((-2147483648), 2147483647), [], [])])
def lb_312 : List aLab := []
theorem ms_312 {Ext : gI → Prop} (hX : pSt Ext) : MSok bT Ext MT sm_312 := achk_ok (nm := 297) (sm := []) (labs := lb_312) (sp := []) (fuel := 31) (rE := [(1000000, (2, 0))]) (maxL := 6) (M := mX12_shapeBy) mt_X12_shapeBy rfl os_X12_shapeBy MT_len ( mA.nil) (pE hX (by decide +kernel)) (by decide +kernel)
def sm_313 : aM := (123, 1, [(1, 67, 0), (0, 0, 5)], [], [], [(some ((-2147483648), 2147483647), [], [])])
def lb_313 : List aLab := []
theorem ms_313 {Ext : gI → Prop} (hX : pSt Ext) : MSok bT Ext MT sm_313 := achk_ok (nm := 297) (sm := [sm_278, sm_310, sm_311, sm_312]) (labs := lb_313) (sp := []) (fuel := 20) (rE := [(1000000, (2, 0))]) (maxL := 2) (M := mX12_shapeOf) mt_X12_shapeOf rfl os_X12_shapeOf MT_len ((mA.cons (ms_278 hX) (mA.cons (ms_310 hX) (mA.cons (ms_311 hX) (mA.cons (ms_312 hX) mA.nil))))) (pE hX (by decide +kernel)) (by decide +kernel)
def sm_314 : aM := (125, 0, [(0, (-2147483648), 2147483647), (0, (-2147483648), 2147483647)], [], [], [(some ((-2147483648), 2147483647), [], [])])
def lb_314 : List aLab := []
theorem ms_314 {Ext : gI → Prop} (hX : pSt Ext) : MSok bT Ext MT sm_314 := achk_ok (nm := 297) (sm := []) (labs := lb_314) (sp := []) (fuel := 13) (rE := [(1000000, (2, 0))]) (maxL := 2) (M := mX12_apart) mt_X12_apart rfl os_X12_apart MT_len ( mA.nil) (pE hX (by decide +kernel)) (by decide +kernel)
def sm_315 : aM := (122, 2, [(1, 67, 0), (0, 0, 5), (0, (-2147483648), 2147483647)], [], [], [(some (1, 1), [], []), (some (0, 0), [], [])])
def lb_315 : List aLab := []
theorem ms_315 {Ext : gI → Prop} (hX : pSt Ext) : MSok bT Ext MT sm_315 := achk_ok (nm := 297) (sm := [sm_310, sm_313, sm_309, sm_314]) (labs := lb_315) (sp := []) (fuel := 30) (rE := [(1000000, (2, 0))]) (maxL := 3) (M := mX12_doesFit) mt_X12_doesFit rfl os_X12_doesFit MT_len ((mA.cons (ms_310 hX) (mA.cons (ms_313 hX) (mA.cons (ms_309 hX) (mA.cons (ms_314 hX) mA.nil))))) (pE hX (by decide +kernel)) (by decide +kernel)
def sm_316 : aM := (121, 3, [(1, 67, 0), (0, 0, 5)], [], [], [(some (0, 9), [], [])])
def lb_316 : List aLab := []
theorem ms_316 {Ext : gI → Prop} (hX : pSt Ext) : MSok bT Ext MT sm_316 := achk_ok (nm := 297) (sm := [sm_308, sm_309, sm_310, sm_315]) (labs := lb_316) (sp := []) (fuel := 33) (rE := [(1000000, (2, 0))]) (maxL := 2) (M := mX12_paysOf) mt_X12_paysOf rfl os_X12_paysOf MT_len ((mA.cons (ms_308 hX) (mA.cons (ms_309 hX) (mA.cons (ms_310 hX) (mA.cons (ms_315 hX) mA.nil))))) (pE hX (by decide +kernel)) (by decide +kernel)
def sm_318 : aM := (118, 0, [(1, 67, 0)], [], [], [(some (0, 15), [], [])])
def lb_318 : List aLab := []
theorem ms_318 {Ext : gI → Prop} (hX : pSt Ext) : MSok bT Ext MT sm_318 := achk_ok (nm := 297) (sm := []) (labs := lb_318) (sp := []) (fuel := 22) (rE := [(1000000, (2, 0))]) (maxL := 1) (M := mX12_sunNow) mt_X12_sunNow rfl os_X12_sunNow MT_len ( mA.nil) (pE hX (by decide +kernel)) (by decide +kernel)
def sm_319 : aM := (148, 0, [(0, (-2147483648), 2147483647), (0, (-2147483648), 2147483647), (0, (-2147483648), 2147483647), (0, (-2147483648), 2147483647)], [], [], [(some ((-2147483648), 2147483647), [], [])])
def lb_319 : List aLab := []
theorem ms_319 {Ext : gI → Prop} (hX : pSt Ext) : MSok bT Ext MT sm_319 := achk_ok (nm := 297) (sm := []) (labs := lb_319) (sp := []) (fuel := 27) (rE := [(1000000, (2, 0))]) (maxL := 6) (M := mX12_meltsBy) mt_X12_meltsBy rfl os_X12_meltsBy MT_len ( mA.nil) (pE hX (by decide +kernel)) (by decide +kernel)
def sm_330 : aM := (147, 1, [(1, 67, 0), (0, 0, 5)], [], [], [(some (0, 2147483647), [], [])])
def lb_330 : List aLab := [(39, [some (1, 67), some (0, 0), some (0, 1), some (0, 2)], [], [(0, 5, none), ((-2147483648), 2147483647, none), (0, 6, none)], [], [(99961, (2, 0)), (6, (0, 2)), (99961, (2, 0))])]
theorem ms_330 {Ext : gI → Prop} (hX : pSt Ext) : MSok bT Ext MT sm_330 := achk_ok (nm := 297) (sm := [sm_318, sm_278, sm_311, sm_308, sm_309, sm_319]) (labs := lb_330) (sp := []) (fuel := 36) (rE := [(1000000, (2, 0)), (0, (2, 0)), (0, (2, 0))]) (maxL := 4) (M := mX12_meltsOf) mt_X12_meltsOf rfl os_X12_meltsOf MT_len ((mA.cons (ms_318 hX) (mA.cons (ms_278 hX) (mA.cons (ms_311 hX) (mA.cons (ms_308 hX) (mA.cons (ms_309 hX) (mA.cons (ms_319 hX) mA.nil))))))) (pE hX (by decide +kernel)) (by decide +kernel)
def sm_332 : aM := (127, 0, [(0, (-2147483648), 2147483647), (0, 1, 1), (0, 4, 4)], [], [], [(some (1, 1), [(0, 1, 4)], []), (some (0, 0), [], [])])
def lb_332 : List aLab := []
theorem ms_332 {Ext : gI → Prop} (hX : pSt Ext) : MSok bT Ext MT sm_332 := achk_ok (nm := 297) (sm := []) (labs := lb_332) (sp := []) (fuel := 14) (rE := [(1000000, (2, 0))]) (maxL := 3) (M := mX12_in1) mt_X12_in1 rfl os_X12_in1 MT_len ( mA.nil) (pE hX (by decide +kernel)) (by decide +kernel)
def sm_333 : aM := (127, 0, [(0, (-2147483648), 2147483647), (0, 0, 0), (0, 1, 1)], [], [], [(some (1, 1), [(0, 0, 1)], []), (some (0, 0), [], [])])
def lb_333 : List aLab := []
theorem ms_333 {Ext : gI → Prop} (hX : pSt Ext) : MSok bT Ext MT sm_333 := achk_ok (nm := 297) (sm := []) (labs := lb_333) (sp := []) (fuel := 14) (rE := [(1000000, (2, 0))]) (maxL := 3) (M := mX12_in1) mt_X12_in1 rfl os_X12_in1 MT_len ( mA.nil) (pE hX (by decide +kernel)) (by decide +kernel)
def sm_334 : aM := (193, 0, [(1, 67, 0), (0, 64, 64), (0, 0, 1)], [], [(68, 64, 64)], [(some (0, 1), [], [])])
def lb_334 : List aLab := []
theorem ms_334 {Ext : gI → Prop} (hX : pSt Ext) : MSok bT Ext MT sm_334 := achk_ok (nm := 297) (sm := []) (labs := lb_334) (sp := []) (fuel := 17) (rE := [(1000000, (2, 0))]) (maxL := 4) (M := mX12_becomes) mt_X12_becomes rfl os_X12_becomes MT_len ( mA.nil) (pE hX (by decide +kernel)) (by decide +kernel)
def sm_335 : aM := (193, 0, [(1, 67, 0), (0, 59, 59), (0, 0, 1)], [], [(68, 59, 59)], [(some (0, 1), [], [])])
def lb_335 : List aLab := []
theorem ms_335 {Ext : gI → Prop} (hX : pSt Ext) : MSok bT Ext MT sm_335 := achk_ok (nm := 297) (sm := []) (labs := lb_335) (sp := []) (fuel := 17) (rE := [(1000000, (2, 0))]) (maxL := 4) (M := mX12_becomes) mt_X12_becomes rfl os_X12_becomes MT_len ( mA.nil) (pE hX (by decide +kernel)) (by decide +kernel)
def sm_336 : aM := (193, 0, [(1, 67, 0), (0, 54, 54), (0, 0, 1)], [], [(68, 54, 54)], [(some (0, 1), [], [])])
def lb_336 : List aLab := []
theorem ms_336 {Ext : gI → Prop} (hX : pSt Ext) : MSok bT Ext MT sm_336 := achk_ok (nm := 297) (sm := []) (labs := lb_336) (sp := []) (fuel := 17) (rE := [(1000000, (2, 0))]) (maxL := 4) (M := mX12_becomes) mt_X12_becomes rfl os_X12_becomes MT_len ( mA.nil) (pE hX (by decide +kernel)) (by decide +kernel)
def sm_337 : aM := (193, 0, [(1, 67, 0), (0, 49, 49), (0, 0, 1)], [], [(68, 49, 49)], [(some (0, 1), [], [])])
def lb_337 : List aLab := []
theorem ms_337 {Ext : gI → Prop} (hX : pSt Ext) : MSok bT Ext MT sm_337 := achk_ok (nm := 297) (sm := []) (labs := lb_337) (sp := []) (fuel := 17) (rE := [(1000000, (2, 0))]) (maxL := 4) (M := mX12_becomes) mt_X12_becomes rfl os_X12_becomes MT_len ( mA.nil) (pE hX (by decide +kernel)) (by decide +kernel)
def sm_338 : aM := (193, 0, [(1, 67, 0), (0, 44, 44), (0, 0, 1)], [], [(68, 44, 44)], [(some (0, 1), [], [])])
def lb_338 : List aLab := []
theorem ms_338 {Ext : gI → Prop} (hX : pSt Ext) : MSok bT Ext MT sm_338 := achk_ok (nm := 297) (sm := []) (labs := lb_338) (sp := []) (fuel := 17) (rE := [(1000000, (2, 0))]) (maxL := 4) (M := mX12_becomes) mt_X12_becomes rfl os_X12_becomes MT_len ( mA.nil) (pE hX (by decide +kernel)) (by decide +kernel)
def sm_339 : aM := (193, 0, [(1, 67, 0), (0, 39, 39), (0, 0, 1)], [], [(68, 39, 39)], [(some (0, 1), [], [])])
def lb_339 : List aLab := []
theorem ms_339 {Ext : gI → Prop} (hX : pSt Ext) : MSok bT Ext MT sm_339 := achk_ok (nm := 297) (sm := []) (labs := lb_339) (sp := []) (fuel := 17) (rE := [(1000000, (2, 0))]) (maxL := 4) (M := mX12_becomes) mt_X12_becomes rfl os_X12_becomes MT_len ( mA.nil) (pE hX (by decide +kernel)) (by decide +kernel)
def sm_340 : aM := (193, 0, [(1, 67, 0), (0, 63, 63), (0, 0, 5)], [], [(68, 63, 63)], [(some (0, 5), [], [])])
def lb_340 : List aLab := []
theorem ms_340 {Ext : gI → Prop} (hX : pSt Ext) : MSok bT Ext MT sm_340 := achk_ok (nm := 297) (sm := []) (labs := lb_340) (sp := []) (fuel := 17) (rE := [(1000000, (2, 0))]) (maxL := 4) (M := mX12_becomes) mt_X12_becomes rfl os_X12_becomes MT_len ( mA.nil) (pE hX (by decide +kernel)) (by decide +kernel)
def sm_341 : aM := (193, 0, [(1, 67, 0), (0, 58, 58), (0, 0, 5)], [], [(68, 58, 58)], [(some (0, 5), [], [])])
def lb_341 : List aLab := []
theorem ms_341 {Ext : gI → Prop} (hX : pSt Ext) : MSok bT Ext MT sm_341 := achk_ok (nm := 297) (sm := []) (labs := lb_341) (sp := []) (fuel := 17) (rE := [(1000000, (2, 0))]) (maxL := 4) (M := mX12_becomes) mt_X12_becomes rfl os_X12_becomes MT_len ( mA.nil) (pE hX (by decide +kernel)) (by decide +kernel)
def sm_342 : aM := (193, 0, [(1, 67, 0), (0, 53, 53), (0, 0, 5)], [], [(68, 53, 53)], [(some (0, 5), [], [])])
def lb_342 : List aLab := []
theorem ms_342 {Ext : gI → Prop} (hX : pSt Ext) : MSok bT Ext MT sm_342 := achk_ok (nm := 297) (sm := []) (labs := lb_342) (sp := []) (fuel := 17) (rE := [(1000000, (2, 0))]) (maxL := 4) (M := mX12_becomes) mt_X12_becomes rfl os_X12_becomes MT_len ( mA.nil) (pE hX (by decide +kernel)) (by decide +kernel)
def sm_343 : aM := (193, 0, [(1, 67, 0), (0, 48, 48), (0, 0, 5)], [], [(68, 48, 48)], [(some (0, 5), [], [])])
def lb_343 : List aLab := []
theorem ms_343 {Ext : gI → Prop} (hX : pSt Ext) : MSok bT Ext MT sm_343 := achk_ok (nm := 297) (sm := []) (labs := lb_343) (sp := []) (fuel := 17) (rE := [(1000000, (2, 0))]) (maxL := 4) (M := mX12_becomes) mt_X12_becomes rfl os_X12_becomes MT_len ( mA.nil) (pE hX (by decide +kernel)) (by decide +kernel)
def sm_344 : aM := (193, 0, [(1, 67, 0), (0, 43, 43), (0, 0, 5)], [], [(68, 43, 43)], [(some (0, 5), [], [])])
def lb_344 : List aLab := []
theorem ms_344 {Ext : gI → Prop} (hX : pSt Ext) : MSok bT Ext MT sm_344 := achk_ok (nm := 297) (sm := []) (labs := lb_344) (sp := []) (fuel := 17) (rE := [(1000000, (2, 0))]) (maxL := 4) (M := mX12_becomes) mt_X12_becomes rfl os_X12_becomes MT_len ( mA.nil) (pE hX (by decide +kernel)) (by decide +kernel)
def sm_345 : aM := (193, 0, [(1, 67, 0), (0, 38, 38), (0, 0, 5)], [], [(68, 38, 38)], [(some (0, 5), [], [])])
def lb_345 : List aLab := []
theorem ms_345 {Ext : gI → Prop} (hX : pSt Ext) : MSok bT Ext MT sm_345 := achk_ok (nm := 297) (sm := []) (labs := lb_345) (sp := []) (fuel := 17) (rE := [(1000000, (2, 0))]) (maxL := 4) (M := mX12_becomes) mt_X12_becomes rfl os_X12_becomes MT_len ( mA.nil) (pE hX (by decide +kernel)) (by decide +kernel)
def sm_346 : aM := (193, 0, [(1, 67, 0), (0, 62, 62), (0, 0, 9)], [], [(68, 62, 62)], [(some (0, 9), [], [])])
def lb_346 : List aLab := []
theorem ms_346 {Ext : gI → Prop} (hX : pSt Ext) : MSok bT Ext MT sm_346 := achk_ok (nm := 297) (sm := []) (labs := lb_346) (sp := []) (fuel := 17) (rE := [(1000000, (2, 0))]) (maxL := 4) (M := mX12_becomes) mt_X12_becomes rfl os_X12_becomes MT_len ( mA.nil) (pE hX (by decide +kernel)) (by decide +kernel)
def sm_347 : aM := (193, 0, [(1, 67, 0), (0, 57, 57), (0, 0, 9)], [], [(68, 57, 57)], [(some (0, 9), [], [])])
def lb_347 : List aLab := []
theorem ms_347 {Ext : gI → Prop} (hX : pSt Ext) : MSok bT Ext MT sm_347 := achk_ok (nm := 297) (sm := []) (labs := lb_347) (sp := []) (fuel := 17) (rE := [(1000000, (2, 0))]) (maxL := 4) (M := mX12_becomes) mt_X12_becomes rfl os_X12_becomes MT_len ( mA.nil) (pE hX (by decide +kernel)) (by decide +kernel)
def sm_348 : aM := (193, 0, [(1, 67, 0), (0, 52, 52), (0, 0, 9)], [], [(68, 52, 52)], [(some (0, 9), [], [])])
def lb_348 : List aLab := []
theorem ms_348 {Ext : gI → Prop} (hX : pSt Ext) : MSok bT Ext MT sm_348 := achk_ok (nm := 297) (sm := []) (labs := lb_348) (sp := []) (fuel := 17) (rE := [(1000000, (2, 0))]) (maxL := 4) (M := mX12_becomes) mt_X12_becomes rfl os_X12_becomes MT_len ( mA.nil) (pE hX (by decide +kernel)) (by decide +kernel)
def sm_349 : aM := (193, 0, [(1, 67, 0), (0, 47, 47), (0, 0, 9)], [], [(68, 47, 47)], [(some (0, 9), [], [])])
def lb_349 : List aLab := []
theorem ms_349 {Ext : gI → Prop} (hX : pSt Ext) : MSok bT Ext MT sm_349 := achk_ok (nm := 297) (sm := []) (labs := lb_349) (sp := []) (fuel := 17) (rE := [(1000000, (2, 0))]) (maxL := 4) (M := mX12_becomes) mt_X12_becomes rfl os_X12_becomes MT_len ( mA.nil) (pE hX (by decide +kernel)) (by decide +kernel)
def sm_350 : aM := (193, 0, [(1, 67, 0), (0, 42, 42), (0, 0, 9)], [], [(68, 42, 42)], [(some (0, 9), [], [])])
def lb_350 : List aLab := []
theorem ms_350 {Ext : gI → Prop} (hX : pSt Ext) : MSok bT Ext MT sm_350 := achk_ok (nm := 297) (sm := []) (labs := lb_350) (sp := []) (fuel := 17) (rE := [(1000000, (2, 0))]) (maxL := 4) (M := mX12_becomes) mt_X12_becomes rfl os_X12_becomes MT_len ( mA.nil) (pE hX (by decide +kernel)) (by decide +kernel)
def sm_351 : aM := (193, 0, [(1, 67, 0), (0, 37, 37), (0, 0, 9)], [], [(68, 37, 37)], [(some (0, 9), [], [])])
def lb_351 : List aLab := []
theorem ms_351 {Ext : gI → Prop} (hX : pSt Ext) : MSok bT Ext MT sm_351 := achk_ok (nm := 297) (sm := []) (labs := lb_351) (sp := []) (fuel := 17) (rE := [(1000000, (2, 0))]) (maxL := 4) (M := mX12_becomes) mt_X12_becomes rfl os_X12_becomes MT_len ( mA.nil) (pE hX (by decide +kernel)) (by decide +kernel)
def sm_352 : aM := (193, 0, [(1, 67, 0), (0, 61, 61), (0, 0, 99)], [], [(68, 61, 61)], [(some (0, 99), [], [])])
def lb_352 : List aLab := []
theorem ms_352 {Ext : gI → Prop} (hX : pSt Ext) : MSok bT Ext MT sm_352 := achk_ok (nm := 297) (sm := []) (labs := lb_352) (sp := []) (fuel := 17) (rE := [(1000000, (2, 0))]) (maxL := 4) (M := mX12_becomes) mt_X12_becomes rfl os_X12_becomes MT_len ( mA.nil) (pE hX (by decide +kernel)) (by decide +kernel)
def sm_353 : aM := (193, 0, [(1, 67, 0), (0, 56, 56), (0, 0, 99)], [], [(68, 56, 56)], [(some (0, 99), [], [])])
def lb_353 : List aLab := []
theorem ms_353 {Ext : gI → Prop} (hX : pSt Ext) : MSok bT Ext MT sm_353 := achk_ok (nm := 297) (sm := []) (labs := lb_353) (sp := []) (fuel := 17) (rE := [(1000000, (2, 0))]) (maxL := 4) (M := mX12_becomes) mt_X12_becomes rfl os_X12_becomes MT_len ( mA.nil) (pE hX (by decide +kernel)) (by decide +kernel)
def sm_354 : aM := (193, 0, [(1, 67, 0), (0, 51, 51), (0, 0, 99)], [], [(68, 51, 51)], [(some (0, 99), [], [])])
def lb_354 : List aLab := []
theorem ms_354 {Ext : gI → Prop} (hX : pSt Ext) : MSok bT Ext MT sm_354 := achk_ok (nm := 297) (sm := []) (labs := lb_354) (sp := []) (fuel := 17) (rE := [(1000000, (2, 0))]) (maxL := 4) (M := mX12_becomes) mt_X12_becomes rfl os_X12_becomes MT_len ( mA.nil) (pE hX (by decide +kernel)) (by decide +kernel)
def sm_355 : aM := (193, 0, [(1, 67, 0), (0, 46, 46), (0, 0, 99)], [], [(68, 46, 46)], [(some (0, 99), [], [])])
def lb_355 : List aLab := []
theorem ms_355 {Ext : gI → Prop} (hX : pSt Ext) : MSok bT Ext MT sm_355 := achk_ok (nm := 297) (sm := []) (labs := lb_355) (sp := []) (fuel := 17) (rE := [(1000000, (2, 0))]) (maxL := 4) (M := mX12_becomes) mt_X12_becomes rfl os_X12_becomes MT_len ( mA.nil) (pE hX (by decide +kernel)) (by decide +kernel)
def sm_356 : aM := (193, 0, [(1, 67, 0), (0, 41, 41), (0, 0, 99)], [], [(68, 41, 41)], [(some (0, 99), [], [])])
def lb_356 : List aLab := []
theorem ms_356 {Ext : gI → Prop} (hX : pSt Ext) : MSok bT Ext MT sm_356 := achk_ok (nm := 297) (sm := []) (labs := lb_356) (sp := []) (fuel := 17) (rE := [(1000000, (2, 0))]) (maxL := 4) (M := mX12_becomes) mt_X12_becomes rfl os_X12_becomes MT_len ( mA.nil) (pE hX (by decide +kernel)) (by decide +kernel)
def sm_357 : aM := (193, 0, [(1, 67, 0), (0, 36, 36), (0, 0, 99)], [], [(68, 36, 36)], [(some (0, 99), [], [])])
def lb_357 : List aLab := []
theorem ms_357 {Ext : gI → Prop} (hX : pSt Ext) : MSok bT Ext MT sm_357 := achk_ok (nm := 297) (sm := []) (labs := lb_357) (sp := []) (fuel := 17) (rE := [(1000000, (2, 0))]) (maxL := 4) (M := mX12_becomes) mt_X12_becomes rfl os_X12_becomes MT_len ( mA.nil) (pE hX (by decide +kernel)) (by decide +kernel)
def sm_358 : aM := (192, 2, [(1, 67, 0), (0, (-2147483648), 2147483647), (0, (-2147483648), 2147483647), (0, (-2147483648), 2147483647)], [], [(68, 36, 39), (68, 41, 44), (68, 46, 49), (68, 51, 54), (68, 56, 59), (68, 61, 64)], [(some ((-1), 99), [], [])])
def lb_358 : List aLab := []
theorem ms_358 {Ext : gI → Prop} (hX : pSt Ext) : MSok bT Ext MT sm_358 := achk_ok (nm := 297) (sm := [sm_334, sm_335, sm_336, sm_337, sm_338, sm_339, sm_340, sm_341, sm_342, sm_343, sm_344, sm_345, sm_346, sm_347, sm_348, sm_349, sm_350, sm_351, sm_352, sm_353, sm_354, sm_355, sm_356, sm_357, sm_276, sm_332, sm_333, sm_268, sm_266, sm_265]) (labs := lb_358) (sp := [(0, 0, 2, [1, 2, 3, 4, 5]), (59, 0, 1, [])]) (fuel := 45) (rE := [(1000000, (2, 0))]) (maxL := 5) (M := mX12_change) mt_X12_change rfl os_X12_change MT_len ((mA.cons (ms_334 hX) (mA.cons (ms_335 hX) (mA.cons (ms_336 hX) (mA.cons (ms_337 hX) (mA.cons (ms_338 hX) (mA.cons (ms_339 hX) (mA.cons (ms_340 hX) (mA.cons (ms_341 hX) (mA.cons (ms_342 hX) (mA.cons (ms_343 hX) (mA.cons (ms_344 hX) (mA.cons (ms_345 hX) (mA.cons (ms_346 hX) (mA.cons (ms_347 hX) (mA.cons (ms_348 hX) (mA.cons (ms_349 hX) (mA.cons (ms_350 hX) (mA.cons (ms_351 hX) (mA.cons (ms_352 hX) (mA.cons (ms_353 hX) (mA.cons (ms_354 hX) (mA.cons (ms_355 hX) (mA.cons (ms_356 hX) (mA.cons (ms_357 hX) (mA.cons (ms_276 hX) (mA.cons (ms_332 hX) (mA.cons (ms_333 hX) (mA.cons (ms_268 hX) (mA.cons (ms_266 hX) (mA.cons (ms_265 hX) mA.nil))))))))))))))))))))))))))))))) (pE hX (by decide +kernel)) (by decide +kernel)
