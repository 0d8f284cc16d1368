def sm_357 : aM := (193, 0, [(1, 67, 0), (0, 23, 28), (0, 0, 9)], [], [(68, 23, 28)], [(some ((-2147483648), 2147483647), [], [])])
def lb_357 : List aLab := []
theorem ms_357 {Ext : gI → Prop} (hX : pSt Ext) : MSok bT Ext MT sm_357 := achk_ok (nm := 297) (sm := []) (labs := lb_357) (sp := []) (fuel := 17) (rE := [(1000000, (2, 0))]) (maxL := 4) (M := mX12_becomes) mt_X12_becomes rfl os_X12_becomes MT_len ( mA.nil) (pE hX (by decide +kernel)) (by decide +kernel)
def sm_358 : aM := (193, 0, [(1, 67, 0), (0, 29, 34), (0, 0, 9)], [], [(68, 29, 34)], [(some ((-2147483648), 2147483647), [], [])])
def lb_358 : List aLab := []
theorem ms_358 {Ext : gI → Prop} (hX : pSt Ext) : MSok bT Ext MT sm_358 := achk_ok (nm := 297) (sm := []) (labs := lb_358) (sp := []) (fuel := 17) (rE := [(1000000, (2, 0))]) (maxL := 4) (M := mX12_becomes) mt_X12_becomes rfl os_X12_becomes MT_len ( mA.nil) (pE hX (by decide +kernel)) (by decide +kernel)
def sm_359 : aM := (199, 2, [(1, 67, 0), (0, (-2147483648), 2147483647), (0, (-2147483648), 2147483647), (0, (-2147483648), 2147483647)], [], [(68, 23, 34)], [(some ((-2147483648), 2147483647), [], [])])
def lb_359 : List aLab := []
theorem ms_359 {Ext : gI → Prop} (hX : pSt Ext) : MSok bT Ext MT sm_359 := achk_ok (nm := 297) (sm := [sm_357, sm_358, sm_269, sm_328, sm_267]) (labs := lb_359) (sp := []) (fuel := 27) (rE := [(1000000, (2, 0))]) (maxL := 4) (M := mX12_gate) mt_X12_gate rfl os_X12_gate MT_len ((mA.cons (ms_357 hX) (mA.cons (ms_358 hX) (mA.cons (ms_269 hX) (mA.cons (ms_328 hX) (mA.cons (ms_267 hX) mA.nil)))))) (pE hX (by decide +kernel)) (by decide +kernel)
def sm_360 : aM := (201, 2, [(1, 67, 0), (0, (-2147483648), 2147483647), (0, (-2147483648), 2147483647)], [], [], [(some ((-2147483648), 2147483647), [], [])])
def lb_360 : List aLab := []
theorem ms_360 {Ext : gI → Prop} (hX : pSt Ext) : MSok bT Ext MT sm_360 := achk_ok (nm := 297) (sm := [sm_269, sm_328]) (labs := lb_360) (sp := []) (fuel := 24) (rE := [(1000000, (2, 0))]) (maxL := 3) (M := mX12_gateOf) mt_X12_gateOf rfl os_X12_gateOf MT_len ((mA.cons (ms_269 hX) (mA.cons (ms_328 hX) mA.nil))) (pE hX (by decide +kernel)) (by decide +kernel)
def sm_361 : aM := (127, 0, [(0, (-2147483648), 2147483647), (0, 1, 1), (0, 16, 16)], [], [], [(some (1, 1), [(0, 1, 16)], []), (some (0, 0), [], [])])
def lb_361 : List aLab := []
theorem ms_361 {Ext : gI → Prop} (hX : pSt Ext) : MSok bT Ext MT sm_361 := achk_ok (nm := 297) (sm := []) (labs := lb_361) (sp := []) (fuel := 14) (rE := [(1000000, (2, 0))]) (maxL := 3) (M := mX12_in1) mt_X12_in1 rfl os_X12_in1 MT_len ( mA.nil) (pE hX (by decide +kernel)) (by decide +kernel)
def sm_362 : aM := (193, 0, [(1, 67, 0), (0, 1, 1), (0, 1, 16)], [], [(68, 1, 1)], [(some (0, 16), [], [])])
def lb_362 : List aLab := []
theorem ms_362 {Ext : gI → Prop} (hX : pSt Ext) : MSok bT Ext MT sm_362 := achk_ok (nm := 297) (sm := []) (labs := lb_362) (sp := []) (fuel := 17) (rE := [(1000000, (2, 0))]) (maxL := 4) (M := mX12_becomes) mt_X12_becomes rfl os_X12_becomes MT_len ( mA.nil) (pE hX (by decide +kernel)) (by decide +kernel)
def sm_363 : aM := (203, 1, [(1, 67, 0), (0, (-2147483648), 2147483647)], [], [(68, 1, 1)], [(some ((-4), 16), [], [])])
def lb_363 : List aLab := []
theorem ms_363 {Ext : gI → Prop} (hX : pSt Ext) : MSok bT Ext MT sm_363 := achk_ok (nm := 297) (sm := [sm_362, sm_361]) (labs := lb_363) (sp := []) (fuel := 21) (rE := [(1000000, (2, 0))]) (maxL := 2) (M := mX12_ends) mt_X12_ends rfl os_X12_ends MT_len ((mA.cons (ms_362 hX) (mA.cons (ms_361 hX) mA.nil))) (pE hX (by decide +kernel)) (by decide +kernel)
def sm_365 : aM := (193, 0, [(1, 67, 0), (0, 0, 0), (0, 0, 0)], [], [(68, 0, 0)], [(some (0, 16), [], [])])
def lb_365 : List aLab := []
theorem ms_365 {Ext : gI → Prop} (hX : pSt Ext) : MSok bT Ext MT sm_365 := achk_ok (nm := 297) (sm := []) (labs := lb_365) (sp := []) (fuel := 17) (rE := [(1000000, (2, 0))]) (maxL := 4) (M := mX12_becomes) mt_X12_becomes rfl os_X12_becomes MT_len ( mA.nil) (pE hX (by decide +kernel)) (by decide +kernel)
def sm_370 : aM := (141, 0, [(1, 67, 0), (0, 0, 5), (0, 4, 4), (0, 0, 0)], [], [(68, 39, 39), (68, 44, 44), (68, 49, 49), (68, 54, 54), (68, 59, 59), (68, 64, 64)], [(none, [], [])])
def lb_370 : List aLab := []
theorem ms_370 {Ext : gI → Prop} (hX : pSt Ext) : MSok bT Ext MT sm_370 := achk_ok (nm := 297) (sm := []) (labs := lb_370) (sp := [(0, 0, 1, [])]) (fuel := 18) (rE := [(1000000, (2, 0))]) (maxL := 4) (M := mX12_puts) mt_X12_puts rfl os_X12_puts MT_len ( mA.nil) (pE hX (by decide +kernel)) (by decide +kernel)
def sm_371 : aM := (205, 1, [(1, 67, 0)], [], [(68, 0, 0), (68, 2, 2), (68, 39, 39), (68, 44, 44), (68, 49, 49), (68, 54, 54), (68, 59, 59), (68, 64, 64)], [(some (0, 16), [], [])])
def lb_371 : List aLab := [(9, [some (1, 67), some (0, 0)], [], [(0, 6, none)], [(68, 2, (2, 0))], [(99991, (2, 0)), (6, (0, 0)), (99991, (2, 0))])]
theorem ms_371 {Ext : gI → Prop} (hX : pSt Ext) : MSok bT Ext MT sm_371 := achk_ok (nm := 297) (sm := [sm_365, sm_370]) (labs := lb_371) (sp := []) (fuel := 19) (rE := [(1000000, (2, 0)), (0, (2, 0)), (0, (2, 0))]) (maxL := 2) (M := mX12_anew) mt_X12_anew rfl os_X12_anew MT_len ((mA.cons (ms_365 hX) (mA.cons (ms_370 hX) mA.nil))) (pE hX (by decide +kernel)) (by decide +kernel)
def sm_377 : aM := (156, 1, [(1, 67, 0)], [], [], [(some ((-2147483648), 2147483647), [], [])])
def lb_377 : List aLab := [(4, [some (1, 67), some (0, 0), some (0, 1)], [], [((-2147483648), 2147483647, none), (0, 6, none)], [], [(99996, (2, 0)), (6, (0, 1)), (99996, (2, 0))])]
theorem ms_377 {Ext : gI → Prop} (hX : pSt Ext) : MSok bT Ext MT sm_377 := achk_ok (nm := 297) (sm := [sm_305]) (labs := lb_377) (sp := []) (fuel := 21) (rE := [(1000000, (2, 0)), (0, (2, 0)), (0, (2, 0))]) (maxL := 3) (M := mX12_teethAll) mt_X12_teethAll rfl os_X12_teethAll MT_len ((mA.cons (ms_305 hX) mA.nil)) (pE hX (by decide +kernel)) (by decide +kernel)
def sm_378 : aM := (157, 1, [(1, 67, 0), (0, 4, 4)], [], [], [(some ((-2147483648), 2147483647), [], [])])
def lb_378 : List aLab := [(4, [some (1, 67), some (2, 4), some (0, 0), some (0, 1)], [], [((-2147483648), 2147483647, none), (0, 6, none)], [], [(99996, (2, 0)), (6, (0, 1)), (99996, (2, 0))])]
theorem ms_378 {Ext : gI → Prop} (hX : pSt Ext) : MSok bT Ext MT sm_378 := achk_ok (nm := 297) (sm := [sm_303]) (labs := lb_378) (sp := []) (fuel := 26) (rE := [(1000000, (2, 0)), (0, (2, 0)), (0, (2, 0))]) (maxL := 4) (M := mX12_those) mt_X12_those rfl os_X12_those MT_len ((mA.cons (ms_303 hX) mA.nil)) (pE hX (by decide +kernel)) (by decide +kernel)
def sm_379 : aM := (150, 0, [(1, 67, 0)], [(68, 0, 0, 16)], [], [(some (1, 1), [], []), (some (0, 0), [], [(68, 0, 0, 15), (68, 1, 1, 16)])])
def lb_379 : List aLab := []
theorem ms_379 {Ext : gI → Prop} (hX : pSt Ext) : MSok bT Ext MT sm_379 := achk_ok (nm := 297) (sm := []) (labs := lb_379) (sp := []) (fuel := 17) (rE := [(1000000, (2, 0))]) (maxL := 1) (M := mX12_isOver) mt_X12_isOver rfl os_X12_isOver MT_len ( mA.nil) (pE hX (by decide +kernel)) (by decide +kernel)
def sm_380 : aM := (207, 2, [(1, 67, 0), (0, (-2147483648), 2147483647)], [], [], [(some ((-2147483648), 2147483647), [], [])])
def lb_380 : List aLab := []
theorem ms_380 {Ext : gI → Prop} (hX : pSt Ext) : MSok bT Ext MT sm_380 := achk_ok (nm := 297) (sm := [sm_377, sm_313, sm_378, sm_379]) (labs := lb_380) (sp := []) (fuel := 13) (rE := [(1000000, (2, 0))]) (maxL := 2) (M := mX12_state) mt_X12_state rfl os_X12_state MT_len ((mA.cons (ms_377 hX) (mA.cons (ms_313 hX) (mA.cons (ms_378 hX) (mA.cons (ms_379 hX) mA.nil))))) (pE hX (by decide +kernel)) (by decide +kernel)
def sm_385 : aM := (141, 0, [(1, 67, 0), (0, 0, 5), (0, 4, 4), (0, 1, 1)], [], [(68, 39, 39), (68, 44, 44), (68, 49, 49), (68, 54, 54), (68, 59, 59), (68, 64, 64)], [(none, [], [])])
def lb_385 : List aLab := []
theorem ms_385 {Ext : gI → Prop} (hX : pSt Ext) : MSok bT Ext MT sm_385 := achk_ok (nm := 297) (sm := []) (labs := lb_385) (sp := [(0, 0, 1, [])]) (fuel := 18) (rE := [(1000000, (2, 0))]) (maxL := 4) (M := mX12_puts) mt_X12_puts rfl os_X12_puts MT_len ( mA.nil) (pE hX (by decide +kernel)) (by decide +kernel)
def sm_386 : aM := (142, 4, [(1, 67, 0), (0, 0, 5)], [], [(68, 39, 39), (68, 44, 44), (68, 49, 49), (68, 54, 54), (68, 59, 59), (68, 64, 64)], [(some (0, 9), [], [])])
def lb_386 : List aLab := []
theorem ms_386 {Ext : gI → Prop} (hX : pSt Ext) : MSok bT Ext MT sm_386 := achk_ok (nm := 297) (sm := [sm_311, sm_385, sm_370]) (labs := lb_386) (sp := []) (fuel := 19) (rE := [(1000000, (2, 0))]) (maxL := 3) (M := mX12_turnsNow) mt_X12_turnsNow rfl os_X12_turnsNow MT_len ((mA.cons (ms_311 hX) (mA.cons (ms_385 hX) (mA.cons (ms_370 hX) mA.nil)))) (pE hX (by decide +kernel)) (by decide +kernel)
def sm_387 : aM := (143, 0, [(0, (-2147483648), 2147483647), (0, 99, 99)], [], [], [(some (0, 99), [], [])])
def lb_387 : List aLab := []
theorem ms_387 {Ext : gI → Prop} (hX : pSt Ext) : MSok bT Ext MT sm_387 := achk_ok (nm := 297) (sm := []) (labs := lb_387) (sp := []) (fuel := 13) (rE := [(1000000, (2, 0))]) (maxL := 2) (M := mX12_held) mt_X12_held rfl os_X12_held MT_len ( mA.nil) (pE hX (by decide +kernel)) (by decide +kernel)
def sm_388 : aM := (141, 0, [(1, 67, 0), (0, 0, 5), (0, 1, 1), (0, 0, 99)], [], [(68, 36, 36), (68, 41, 41), (68, 46, 46), (68, 51, 51), (68, 56, 56), (68, 61, 61)], [(none, [], [])])
def lb_388 : List aLab := []
theorem ms_388 {Ext : gI → Prop} (hX : pSt Ext) : MSok bT Ext MT sm_388 := achk_ok (nm := 297) (sm := []) (labs := lb_388) (sp := [(0, 0, 1, [])]) (fuel := 18) (rE := [(1000000, (2, 0))]) (maxL := 4) (M := mX12_puts) mt_X12_puts rfl os_X12_puts MT_len ( mA.nil) (pE hX (by decide +kernel)) (by decide +kernel)
def sm_397 : aM := (127, 0, [(0, (-2147483648), 2147483647), (0, 0, 0), (0, 16, 16)], [], [], [(some (1, 1), [(0, 0, 16)], []), (some (0, 0), [], [])])
def lb_397 : List aLab := []
theorem ms_397 {Ext : gI → Prop} (hX : pSt Ext) : MSok bT Ext MT sm_397 := achk_ok (nm := 297) (sm := []) (labs := lb_397) (sp := []) (fuel := 14) (rE := [(1000000, (2, 0))]) (maxL := 3) (M := mX12_in1) mt_X12_in1 rfl os_X12_in1 MT_len ( mA.nil) (pE hX (by decide +kernel)) (by decide +kernel)
def sm_398 : aM := (152, 0, [(1, 67, 0)], [], [(70, 0, 64)], [(none, [], [(70, 4, 10000000068, 4), (70, 5, 10000000068, 5), (70, 35, 10000000068, 35), (70, 40, 10000000068, 40), (70, 45, 10000000068, 45), (70, 50, 10000000068, 50), (70, 55, 10000000068, 55), (70, 60, 10000000068, 60)])])
theorem ms_398 {Ext : gI → Prop} (_hX : pSt Ext) : MSok bT Ext MT sm_398 := ms_cp (x := 68) (y := 70) (sp := 0) (dp := 0) (N := 65) mt_X12_layDown g_layDown (by decide +kernel) (by decide +kernel) (by decide +kernel)
def sm_400 : aM := (154, 0, [(1, 67, 0)], [(68, 4, 10000000070, 4), (68, 5, 10000000070, 5), (68, 35, 10000000070, 35), (68, 40, 10000000070, 40), (68, 45, 10000000070, 45), (68, 50, 10000000070, 50), (68, 55, 10000000070, 55), (68, 60, 10000000070, 60)], [(68, 0, 3), (68, 6, 34), (68, 36, 39), (68, 41, 44), (68, 46, 49), (68, 51, 54), (68, 56, 59), (68, 61, 64)], [(none, [], [])])
theorem ms_400 {Ext : gI → Prop} (_hX : pSt Ext) : MSok bT Ext MT sm_400 := ms_cp (x := 70) (y := 68) (sp := 0) (dp := 0) (N := 65) mt_X12_layBack g_layBack (by decide +kernel) (by decide +kernel) (by decide +kernel)
def sm_402 : aM := (150, 0, [(1, 67, 0)], [(68, 0, 16, 16)], [], [(some (1, 1), [], [(68, 0, 16, 16)])])
def lb_402 : List aLab := []
theorem ms_402 {Ext : gI → Prop} (hX : pSt Ext) : MSok bT Ext MT sm_402 := achk_ok (nm := 297) (sm := []) (labs := lb_402) (sp := []) (fuel := 17) (rE := [(1000000, (2, 0))]) (maxL := 1) (M := mX12_isOver) mt_X12_isOver rfl os_X12_isOver MT_len ( mA.nil) (pE hX (by decide +kernel)) (by decide +kernel)
def sm_403 : aM := (150, 0, [(1, 67, 0)], [(68, 0, 15, 15)], [], [(some (1, 1), [], [(68, 0, 15, 15), (68, 1, 0, 15)]), (some (0, 0), [], [(68, 0, 15, 15), (68, 1, 16, 16)])])
def lb_403 : List aLab := []
theorem ms_403 {Ext : gI → Prop} (hX : pSt Ext) : MSok bT Ext MT sm_403 := achk_ok (nm := 297) (sm := []) (labs := lb_403) (sp := []) (fuel := 17) (rE := [(1000000, (2, 0))]) (maxL := 1) (M := mX12_isOver) mt_X12_isOver rfl os_X12_isOver MT_len ( mA.nil) (pE hX (by decide +kernel)) (by decide +kernel)
def sm_405 : aM := (150, 0, [(1, 67, 0)], [(68, 0, 14, 14)], [], [(some (1, 1), [], [(68, 0, 14, 14), (68, 1, 0, 14)]), (some (0, 0), [], [(68, 0, 14, 14), (68, 1, 15, 16)])])
def lb_405 : List aLab := []
theorem ms_405 {Ext : gI → Prop} (hX : pSt Ext) : MSok bT Ext MT sm_405 := achk_ok (nm := 297) (sm := []) (labs := lb_405) (sp := []) (fuel := 17) (rE := [(1000000, (2, 0))]) (maxL := 1) (M := mX12_isOver) mt_X12_isOver rfl os_X12_isOver MT_len ( mA.nil) (pE hX (by decide +kernel)) (by decide +kernel)
def sm_407 : aM := (150, 0, [(1, 67, 0)], [(68, 0, 13, 13)], [], [(some (1, 1), [], [(68, 0, 13, 13), (68, 1, 0, 13)]), (some (0, 0), [], [(68, 0, 13, 13), (68, 1, 14, 16)])])
def lb_407 : List aLab := []
theorem ms_407 {Ext : gI → Prop} (hX : pSt Ext) : MSok bT Ext MT sm_407 := achk_ok (nm := 297) (sm := []) (labs := lb_407) (sp := []) (fuel := 17) (rE := [(1000000, (2, 0))]) (maxL := 1) (M := mX12_isOver) mt_X12_isOver rfl os_X12_isOver MT_len ( mA.nil) (pE hX (by decide +kernel)) (by decide +kernel)
def sm_409 : aM := (150, 0, [(1, 67, 0)], [(68, 0, 12, 12)], [], [(some (1, 1), [], [(68, 0, 12, 12), (68, 1, 0, 12)]), (some (0, 0), [], [(68, 0, 12, 12), (68, 1, 13, 16)])])
def lb_409 : List aLab := []
theorem ms_409 {Ext : gI → Prop} (hX : pSt Ext) : MSok bT Ext MT sm_409 := achk_ok (nm := 297) (sm := []) (labs := lb_409) (sp := []) (fuel := 17) (rE := [(1000000, (2, 0))]) (maxL := 1) (M := mX12_isOver) mt_X12_isOver rfl os_X12_isOver MT_len ( mA.nil) (pE hX (by decide +kernel)) (by decide +kernel)
def sm_411 : aM := (150, 0, [(1, 67, 0)], [(68, 0, 11, 11)], [], [(some (1, 1), [], [(68, 0, 11, 11), (68, 1, 0, 11)]), (some (0, 0), [], [(68, 0, 11, 11), (68, 1, 12, 16)])])
def lb_411 : List aLab := []
theorem ms_411 {Ext : gI → Prop} (hX : pSt Ext) : MSok bT Ext MT sm_411 := achk_ok (nm := 297) (sm := []) (labs := lb_411) (sp := []) (fuel := 17) (rE := [(1000000, (2, 0))]) (maxL := 1) (M := mX12_isOver) mt_X12_isOver rfl os_X12_isOver MT_len ( mA.nil) (pE hX (by decide +kernel)) (by decide +kernel)
def sm_413 : aM := (150, 0, [(1, 67, 0)], [(68, 0, 10, 10)], [], [(some (1, 1), [], [(68, 0, 10, 10), (68, 1, 0, 10)]), (some (0, 0), [], [(68, 0, 10, 10), (68, 1, 11, 16)])])
def lb_413 : List aLab := []
theorem ms_413 {Ext : gI → Prop} (hX : pSt Ext) : MSok bT Ext MT sm_413 := achk_ok (nm := 297) (sm := []) (labs := lb_413) (sp := []) (fuel := 17) (rE := [(1000000, (2, 0))]) (maxL := 1) (M := mX12_isOver) mt_X12_isOver rfl os_X12_isOver MT_len ( mA.nil) (pE hX (by decide +kernel)) (by decide +kernel)
def sm_415 : aM := (150, 0, [(1, 67, 0)], [(68, 0, 9, 9)], [], [(some (1, 1), [], [(68, 0, 9, 9), (68, 1, 0, 9)]), (some (0, 0), [], [(68, 0, 9, 9), (68, 1, 10, 16)])])
def lb_415 : List aLab := []
theorem ms_415 {Ext : gI → Prop} (hX : pSt Ext) : MSok bT Ext MT sm_415 := achk_ok (nm := 297) (sm := []) (labs := lb_415) (sp := []) (fuel := 17) (rE := [(1000000, (2, 0))]) (maxL := 1) (M := mX12_isOver) mt_X12_isOver rfl os_X12_isOver MT_len ( mA.nil) (pE hX (by decide +kernel)) (by decide +kernel)
def sm_417 : aM := (150, 0, [(1, 67, 0)], [(68, 0, 8, 8)], [], [(some (1, 1), [], [(68, 0, 8, 8), (68, 1, 0, 8)]), (some (0, 0), [], [(68, 0, 8, 8), (68, 1, 9, 16)])])
def lb_417 : List aLab := []
theorem ms_417 {Ext : gI → Prop} (hX : pSt Ext) : MSok bT Ext MT sm_417 := achk_ok (nm := 297) (sm := []) (labs := lb_417) (sp := []) (fuel := 17) (rE := [(1000000, (2, 0))]) (maxL := 1) (M := mX12_isOver) mt_X12_isOver rfl os_X12_isOver MT_len ( mA.nil) (pE hX (by decide +kernel)) (by decide +kernel)
def sm_419 : aM := (150, 0, [(1, 67, 0)], [(68, 0, 7, 7)], [], [(some (1, 1), [], [(68, 0, 7, 7), (68, 1, 0, 7)]), (some (0, 0), [], [(68, 0, 7, 7), (68, 1, 8, 16)])])
def lb_419 : List aLab := []
theorem ms_419 {Ext : gI → Prop} (hX : pSt Ext) : MSok bT Ext MT sm_419 := achk_ok (nm := 297) (sm := []) (labs := lb_419) (sp := []) (fuel := 17) (rE := [(1000000, (2, 0))]) (maxL := 1) (M := mX12_isOver) mt_X12_isOver rfl os_X12_isOver MT_len ( mA.nil) (pE hX (by decide +kernel)) (by decide +kernel)
def sm_421 : aM := (150, 0, [(1, 67, 0)], [(68, 0, 6, 6)], [], [(some (1, 1), [], [(68, 0, 6, 6), (68, 1, 0, 6)]), (some (0, 0), [], [(68, 0, 6, 6), (68, 1, 7, 16)])])
def lb_421 : List aLab := []
theorem ms_421 {Ext : gI → Prop} (hX : pSt Ext) : MSok bT Ext MT sm_421 := achk_ok (nm := 297) (sm := []) (labs := lb_421) (sp := []) (fuel := 17) (rE := [(1000000, (2, 0))]) (maxL := 1) (M := mX12_isOver) mt_X12_isOver rfl os_X12_isOver MT_len ( mA.nil) (pE hX (by decide +kernel)) (by decide +kernel)
def sm_423 : aM := (150, 0, [(1, 67, 0)], [(68, 0, 5, 5)], [], [(some (1, 1), [], [(68, 0, 5, 5), (68, 1, 0, 5)]), (some (0, 0), [], [(68, 0, 5, 5), (68, 1, 6, 16)])])
def lb_423 : List aLab := []
theorem ms_423 {Ext : gI → Prop} (hX : pSt Ext) : MSok bT Ext MT sm_423 := achk_ok (nm := 297) (sm := []) (labs := lb_423) (sp := []) (fuel := 17) (rE := [(1000000, (2, 0))]) (maxL := 1) (M := mX12_isOver) mt_X12_isOver rfl os_X12_isOver MT_len ( mA.nil) (pE hX (by decide +kernel)) (by decide +kernel)
def sm_425 : aM := (150, 0, [(1, 67, 0)], [(68, 0, 4, 4)], [], [(some (1, 1), [], [(68, 0, 4, 4), (68, 1, 0, 4)]), (some (0, 0), [], [(68, 0, 4, 4), (68, 1, 5, 16)])])
def lb_425 : List aLab := []
theorem ms_425 {Ext : gI → Prop} (hX : pSt Ext) : MSok bT Ext MT sm_425 := achk_ok (nm := 297) (sm := []) (labs := lb_425) (sp := []) (fuel := 17) (rE := [(1000000, (2, 0))]) (maxL := 1) (M := mX12_isOver) mt_X12_isOver rfl os_X12_isOver MT_len ( mA.nil) (pE hX (by decide +kernel)) (by decide +kernel)
def sm_427 : aM := (150, 0, [(1, 67, 0)], [(68, 0, 3, 3)], [], [(some (1, 1), [], [(68, 0, 3, 3), (68, 1, 0, 3)]), (some (0, 0), [], [(68, 0, 3, 3), (68, 1, 4, 16)])])
def lb_427 : List aLab := []
theorem ms_427 {Ext : gI → Prop} (hX : pSt Ext) : MSok bT Ext MT sm_427 := achk_ok (nm := 297) (sm := []) (labs := lb_427) (sp := []) (fuel := 17) (rE := [(1000000, (2, 0))]) (maxL := 1) (M := mX12_isOver) mt_X12_isOver rfl os_X12_isOver MT_len ( mA.nil) (pE hX (by decide +kernel)) (by decide +kernel)
def sm_429 : aM := (150, 0, [(1, 67, 0)], [(68, 0, 2, 2)], [], [(some (1, 1), [], [(68, 0, 2, 2), (68, 1, 0, 2)]), (some (0, 0), [], [(68, 0, 2, 2), (68, 1, 3, 16)])])
def lb_429 : List aLab := []
theorem ms_429 {Ext : gI → Prop} (hX : pSt Ext) : MSok bT Ext MT sm_429 := achk_ok (nm := 297) (sm := []) (labs := lb_429) (sp := []) (fuel := 17) (rE := [(1000000, (2, 0))]) (maxL := 1) (M := mX12_isOver) mt_X12_isOver rfl os_X12_isOver MT_len ( mA.nil) (pE hX (by decide +kernel)) (by decide +kernel)
def sm_431 : aM := (150, 0, [(1, 67, 0)], [(68, 0, 1, 1)], [], [(some (1, 1), [], [(68, 0, 1, 1), (68, 1, 0, 1)]), (some (0, 0), [], [(68, 0, 1, 1), (68, 1, 2, 16)])])
def lb_431 : List aLab := []
theorem ms_431 {Ext : gI → Prop} (hX : pSt Ext) : MSok bT Ext MT sm_431 := achk_ok (nm := 297) (sm := []) (labs := lb_431) (sp := []) (fuel := 17) (rE := [(1000000, (2, 0))]) (maxL := 1) (M := mX12_isOver) mt_X12_isOver rfl os_X12_isOver MT_len ( mA.nil) (pE hX (by decide +kernel)) (by decide +kernel)
def sm_433 : aM := (150, 0, [(1, 67, 0)], [(68, 0, 0, 0)], [], [(some (1, 1), [], [(68, 0, 0, 0), (68, 1, 0, 0)]), (some (0, 0), [], [(68, 0, 0, 0), (68, 1, 1, 16)])])
def lb_433 : List aLab := []
theorem ms_433 {Ext : gI → Prop} (hX : pSt Ext) : MSok bT Ext MT sm_433 := achk_ok (nm := 297) (sm := []) (labs := lb_433) (sp := []) (fuel := 17) (rE := [(1000000, (2, 0))]) (maxL := 1) (M := mX12_isOver) mt_X12_isOver rfl os_X12_isOver MT_len ( mA.nil) (pE hX (by decide +kernel)) (by decide +kernel)
def sm_442 : aM := (141, 0, [(1, 67, 0), (0, 0, 5), (0, 2, 2), (0, 0, 9)], [], [(68, 37, 37), (68, 42, 42), (68, 47, 47), (68, 52, 52), (68, 57, 57), (68, 62, 62)], [(none, [], [])])
def lb_442 : List aLab := []
theorem ms_442 {Ext : gI → Prop} (hX : pSt Ext) : MSok bT Ext MT sm_442 := achk_ok (nm := 297) (sm := []) (labs := lb_442) (sp := [(0, 0, 1, [])]) (fuel := 18) (rE := [(1000000, (2, 0))]) (maxL := 4) (M := mX12_puts) mt_X12_puts rfl os_X12_puts MT_len ( mA.nil) (pE hX (by decide +kernel)) (by decide +kernel)
def sm_450 : aM := (141, 0, [(1, 67, 0), (0, 0, 5), (0, 3, 3), (0, 0, 5)], [], [(68, 38, 38), (68, 43, 43), (68, 48, 48), (68, 53, 53), (68, 58, 58), (68, 63, 63)], [(none, [], [])])
def lb_450 : List aLab := []
theorem ms_450 {Ext : gI → Prop} (hX : pSt Ext) : MSok bT Ext MT sm_450 := achk_ok (nm := 297) (sm := []) (labs := lb_450) (sp := [(0, 0, 1, [])]) (fuel := 18) (rE := [(1000000, (2, 0))]) (maxL := 4) (M := mX12_puts) mt_X12_puts rfl os_X12_puts MT_len ( mA.nil) (pE hX (by decide +kernel)) (by decide +kernel)
def sm_454 : aM := (226, 3, [(1, 67, 0), (0, (-2147483648), 2147483647)], [], [], [(some ((-2147483648), 2147483647), [], [])])
def lb_454 : List aLab := [(14, [some (1, 67), some (0, 0), some (0, 1), some (0, 2)], [], [(0, 5, none), ((-2147483648), 2147483647, none), (0, 10, none)], [], [(99986, (2, 0)), (10, (0, 2)), (99986, (2, 0))])]
theorem ms_454 {Ext : gI → Prop} (hX : pSt Ext) : MSok bT Ext MT sm_454 := achk_ok (nm := 297) (sm := [sm_271, sm_310]) (labs := lb_454) (sp := []) (fuel := 23) (rE := [(1000000, (2, 0)), (0, (2, 0)), (0, (2, 0))]) (maxL := 4) (M := mX12_opens) mt_X12_opens rfl os_X12_opens MT_len ((mA.cons (ms_271 hX) (mA.cons (ms_310 hX) mA.nil))) (pE hX (by decide +kernel)) (by decide +kernel)
def sm_464 : aM := (159, 2, [(1, 67, 0), (0, 0, 5), (0, 0, 5)], [], [], [(some (1, 1), [], []), (some (0, 0), [], [])])
def lb_464 : List aLab := []
theorem ms_464 {Ext : gI → Prop} (hX : pSt Ext) : MSok bT Ext MT sm_464 := achk_ok (nm := 297) (sm := [sm_304, sm_308, sm_303]) (labs := lb_464) (sp := []) (fuel := 39) (rE := [(1000000, (2, 0))]) (maxL := 4) (M := mX12_areClose) mt_X12_areClose rfl os_X12_areClose MT_len ((mA.cons (ms_304 hX) (mA.cons (ms_308 hX) (mA.cons (ms_303 hX) mA.nil)))) (pE hX (by decide +kernel)) (by decide +kernel)
def sm_465 : aM := (158, 3, [(1, 67, 0), (0, 0, 5)], [], [], [(some ((-2147483648), 2147483647), [], [])])
def lb_465 : List aLab := [(6, [some (1, 67), some (0, 0), some (0, 1), some (0, 2), none, none], [], [(0, 5, none), ((-2147483648), 2147483647, none), (0, 6, none)], [], [(99994, (2, 0)), (6, (0, 2)), (99994, (2, 0)), (0, (2, 0)), (0, (2, 0)), (0, (2, 0)), (0, (2, 0))]), (19, [some (1, 67), some (0, 0), some (0, 1), some (0, 2), some (0, 3), none], [], [(0, 5, none), ((-2147483648), 2147483647, none), (0, 5, none), (0, 6, none), (1, 6, none)], [(68, 4, (0, 4))], [(99994, (2, 0)), (6, (0, 2)), (99981, (2, 0)), (6, (0, 3)), (99981, (2, 0)), (0, (2, 0)), (0, (2, 0))]), (33, [some (1, 67), some (0, 0), some (0, 1), some (0, 2), some (0, 3), some (0, 4)], [], [(0, 5, none), ((-2147483648), 2147483647, none), (0, 5, none), (0, 5, none), (0, 6, none), (1, 6, none)], [(68, 4, (0, 5))], [(99994, (2, 0)), (6, (0, 2)), (99981, (2, 0)), (6, (0, 3)), (99967, (2, 0)), (6, (0, 4)), (99967, (2, 0))])]
theorem ms_465 {Ext : gI → Prop} (hX : pSt Ext) : MSok bT Ext MT sm_465 := achk_ok (nm := 297) (sm := [sm_303, sm_464]) (labs := lb_465) (sp := []) (fuel := 33) (rE := [(1000000, (2, 0)), (0, (2, 0)), (0, (2, 0)), (0, (2, 0)), (0, (2, 0)), (0, (2, 0)), (0, (2, 0))]) (maxL := 6) (M := mX12_bunchOf) mt_X12_bunchOf rfl os_X12_bunchOf MT_len ((mA.cons (ms_303 hX) (mA.cons (ms_464 hX) mA.nil))) (pE hX (by decide +kernel)) (by decide +kernel)
def sm_466 : aM := (230, 4, [(1, 67, 0), (0, (-2147483648), 2147483647)], [], [], [(some ((-2147483648), 2147483647), [], [])])
def lb_466 : List aLab := [(29, [some (1, 67), some (2, (-1)), some (0, 0), some (0, 1), none], [], [((-2147483648), 2147483647, none), (0, 6, none)], [], [(99971, (2, 0)), (6, (0, 1)), (99971, (2, 0))])]
theorem ms_466 {Ext : gI → Prop} (hX : pSt Ext) : MSok bT Ext MT sm_466 := achk_ok (nm := 297) (sm := [sm_465, sm_271]) (labs := lb_466) (sp := []) (fuel := 31) (rE := [(1000000, (2, 0)), (0, (2, 0)), (0, (2, 0))]) (maxL := 5) (M := mX12_bunches) mt_X12_bunches rfl os_X12_bunches MT_len ((mA.cons (ms_465 hX) (mA.cons (ms_271 hX) mA.nil))) (pE hX (by decide +kernel)) (by decide +kernel)
def sm_467 : aM := (127, 0, [(0, (-2147483648), 2147483647), (0, 0, 0), (0, 4, 4)], [], [], [(some (1, 1), [(0, 0, 4)], []), (some (0, 0), [], [])])
def lb_467 : List aLab := []
theorem ms_467 {Ext : gI → Prop} (hX : pSt Ext) : MSok bT Ext MT sm_467 := achk_ok (nm := 297) (sm := []) (labs := lb_467) (sp := []) (fuel := 14) (rE := [(1000000, (2, 0))]) (maxL := 3) (M := mX12_in1) mt_X12_in1 rfl os_X12_in1 MT_len ( mA.nil) (pE hX (by decide +kernel)) (by decide +kernel)
def sm_468 : aM := (165, 1, [(0, (-2147483648), 2147483647)], [], [], [(some (0, 0), [], []), (some (1, 1), [(0, 0, 4)], [])])
def lb_468 : List aLab := []
theorem ms_468 {Ext : gI → Prop} (hX : pSt Ext) : MSok bT Ext MT sm_468 := achk_ok (nm := 297) (sm := [sm_467]) (labs := lb_468) (sp := []) (fuel := 10) (rE := [(1000000, (2, 0))]) (maxL := 1) (M := mX12_isPlan) mt_X12_isPlan rfl os_X12_isPlan MT_len ((mA.cons (ms_467 hX) mA.nil)) (pE hX (by decide +kernel)) (by decide +kernel)
def sm_469 : aM := (163, 1, [(1, 67, 0), (0, 0, 4)], [(68, 0, 0, 16)], [], [(some (0, 0), [], []), (some (1, 1), [(1, 1, 4)], [(68, 0, 0, 15), (68, 1, 1, 16)]), (some (2, 2), [(1, 2, 4)], [(68, 0, 0, 14), (68, 1, 1, 16)]), (some (3, 3), [(1, 3, 4)], [(68, 0, 0, 13), (68, 1, 1, 16)]), (some (4, 4), [(1, 4, 4)], [(68, 0, 0, 12), (68, 1, 1, 16)])])
def lb_469 : List aLab := []
theorem ms_469 {Ext : gI → Prop} (hX : pSt Ext) : MSok bT Ext MT sm_469 := achk_ok (nm := 297) (sm := [sm_402, sm_403, sm_405, sm_407, sm_409, sm_411, sm_413, sm_415, sm_417, sm_419, sm_421, sm_423, sm_425, sm_427, sm_429, sm_431, sm_433]) (labs := lb_469) (sp := [(0, 69, 0, []), (0, 0, 1, []), (25, 0, 2, [])]) (fuel := 27) (rE := [(1000000, (2, 0))]) (maxL := 3) (M := mX12_daysOf) mt_X12_daysOf rfl os_X12_daysOf MT_len ((mA.cons (ms_402 hX) (mA.cons (ms_403 hX) (mA.cons (ms_405 hX) (mA.cons (ms_407 hX) (mA.cons (ms_409 hX) (mA.cons (ms_411 hX) (mA.cons (ms_413 hX) (mA.cons (ms_415 hX) (mA.cons (ms_417 hX) (mA.cons (ms_419 hX) (mA.cons (ms_421 hX) (mA.cons (ms_423 hX) (mA.cons (ms_425 hX) (mA.cons (ms_427 hX) (mA.cons (ms_429 hX) (mA.cons (ms_431 hX) (mA.cons (ms_433 hX) mA.nil)))))))))))))))))) (pE hX (by decide +kernel)) (by decide +kernel)
