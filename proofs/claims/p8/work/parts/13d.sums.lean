def sm_359 : aM := (193, 0, [(1, 67, 0), (0, 60, 60), (0, 1, 5)], [], [(68, 60, 60)], [(some (0, 5), [], [])])
def lb_359 : List aLab := []
theorem ms_359 {Ext : gI → Prop} (hX : pSt Ext) : MSok bT Ext MT sm_359 := achk_ok (nm := 297) (sm := []) (labs := lb_359) (sp := []) (fuel := 17) (rE := [(1000000, (2, 0))]) (maxL := 4) (M := mX12_becomes) mt_X12_becomes rfl os_X12_becomes MT_len ( mA.nil) (pE hX (by decide +kernel)) (by decide +kernel)
def sm_360 : aM := (193, 0, [(1, 67, 0), (0, 55, 55), (0, 1, 5)], [], [(68, 55, 55)], [(some (0, 5), [], [])])
def lb_360 : List aLab := []
theorem ms_360 {Ext : gI → Prop} (hX : pSt Ext) : MSok bT Ext MT sm_360 := achk_ok (nm := 297) (sm := []) (labs := lb_360) (sp := []) (fuel := 17) (rE := [(1000000, (2, 0))]) (maxL := 4) (M := mX12_becomes) mt_X12_becomes rfl os_X12_becomes MT_len ( mA.nil) (pE hX (by decide +kernel)) (by decide +kernel)
def sm_361 : aM := (193, 0, [(1, 67, 0), (0, 50, 50), (0, 1, 5)], [], [(68, 50, 50)], [(some (0, 5), [], [])])
def lb_361 : List aLab := []
theorem ms_361 {Ext : gI → Prop} (hX : pSt Ext) : MSok bT Ext MT sm_361 := achk_ok (nm := 297) (sm := []) (labs := lb_361) (sp := []) (fuel := 17) (rE := [(1000000, (2, 0))]) (maxL := 4) (M := mX12_becomes) mt_X12_becomes rfl os_X12_becomes MT_len ( mA.nil) (pE hX (by decide +kernel)) (by decide +kernel)
def sm_362 : aM := (193, 0, [(1, 67, 0), (0, 45, 45), (0, 1, 5)], [], [(68, 45, 45)], [(some (0, 5), [], [])])
def lb_362 : List aLab := []
theorem ms_362 {Ext : gI → Prop} (hX : pSt Ext) : MSok bT Ext MT sm_362 := achk_ok (nm := 297) (sm := []) (labs := lb_362) (sp := []) (fuel := 17) (rE := [(1000000, (2, 0))]) (maxL := 4) (M := mX12_becomes) mt_X12_becomes rfl os_X12_becomes MT_len ( mA.nil) (pE hX (by decide +kernel)) (by decide +kernel)
def sm_363 : aM := (193, 0, [(1, 67, 0), (0, 40, 40), (0, 1, 5)], [], [(68, 40, 40)], [(some (0, 5), [], [])])
def lb_363 : List aLab := []
theorem ms_363 {Ext : gI → Prop} (hX : pSt Ext) : MSok bT Ext MT sm_363 := achk_ok (nm := 297) (sm := []) (labs := lb_363) (sp := []) (fuel := 17) (rE := [(1000000, (2, 0))]) (maxL := 4) (M := mX12_becomes) mt_X12_becomes rfl os_X12_becomes MT_len ( mA.nil) (pE hX (by decide +kernel)) (by decide +kernel)
def sm_364 : aM := (193, 0, [(1, 67, 0), (0, 35, 35), (0, 1, 5)], [], [(68, 35, 35)], [(some (0, 5), [], [])])
def lb_364 : List aLab := []
theorem ms_364 {Ext : gI → Prop} (hX : pSt Ext) : MSok bT Ext MT sm_364 := achk_ok (nm := 297) (sm := []) (labs := lb_364) (sp := []) (fuel := 17) (rE := [(1000000, (2, 0))]) (maxL := 4) (M := mX12_becomes) mt_X12_becomes rfl os_X12_becomes MT_len ( mA.nil) (pE hX (by decide +kernel)) (by decide +kernel)
def sm_365 : aM := (195, 2, [(1, 67, 0), (0, (-2147483648), 2147483647), (0, (-2147483648), 2147483647)], [], [(68, 35, 35), (68, 40, 40), (68, 45, 45), (68, 50, 50), (68, 55, 55), (68, 60, 60)], [(some ((-1), 5), [], [])])
def lb_365 : List aLab := []
theorem ms_365 {Ext : gI → Prop} (hX : pSt Ext) : MSok bT Ext MT sm_365 := achk_ok (nm := 297) (sm := [sm_359, sm_360, sm_361, sm_362, sm_363, sm_364, sm_276, sm_263]) (labs := lb_365) (sp := [(17, 0, 1, [])]) (fuel := 25) (rE := [(1000000, (2, 0))]) (maxL := 3) (M := mX12_remake) mt_X12_remake rfl os_X12_remake MT_len ((mA.cons (ms_359 hX) (mA.cons (ms_360 hX) (mA.cons (ms_361 hX) (mA.cons (ms_362 hX) (mA.cons (ms_363 hX) (mA.cons (ms_364 hX) (mA.cons (ms_276 hX) (mA.cons (ms_263 hX) mA.nil))))))))) (pE hX (by decide +kernel)) (by decide +kernel)
def sm_366 : aM := (127, 0, [(0, (-2147483648), 2147483647), (0, 0, 0), (0, 15, 15)], [], [], [(some (1, 1), [(0, 0, 15)], []), (some (0, 0), [], [])])
def lb_366 : List aLab := []
theorem ms_366 {Ext : gI → Prop} (hX : pSt Ext) : MSok bT Ext MT sm_366 := achk_ok (nm := 297) (sm := []) (labs := lb_366) (sp := []) (fuel := 14) (rE := [(1000000, (2, 0))]) (maxL := 3) (M := mX12_in1) mt_X12_in1 rfl os_X12_in1 MT_len ( mA.nil) (pE hX (by decide +kernel)) (by decide +kernel)
def sm_367 : aM := (193, 0, [(1, 67, 0), (0, 7, 22), (0, 0, 15)], [], [(68, 7, 22)], [(some (0, 15), [], [])])
def lb_367 : List aLab := []
theorem ms_367 {Ext : gI → Prop} (hX : pSt Ext) : MSok bT Ext MT sm_367 := achk_ok (nm := 297) (sm := []) (labs := lb_367) (sp := []) (fuel := 17) (rE := [(1000000, (2, 0))]) (maxL := 4) (M := mX12_becomes) mt_X12_becomes rfl os_X12_becomes MT_len ( mA.nil) (pE hX (by decide +kernel)) (by decide +kernel)
def sm_368 : aM := (197, 1, [(1, 67, 0), (0, (-2147483648), 2147483647), (0, (-2147483648), 2147483647)], [], [(68, 7, 22)], [(some ((-1), 15), [], [])])
def lb_368 : List aLab := []
theorem ms_368 {Ext : gI → Prop} (hX : pSt Ext) : MSok bT Ext MT sm_368 := achk_ok (nm := 297) (sm := [sm_367, sm_366]) (labs := lb_368) (sp := []) (fuel := 23) (rE := [(1000000, (2, 0))]) (maxL := 3) (M := mX12_sun) mt_X12_sun rfl os_X12_sun MT_len ((mA.cons (ms_367 hX) (mA.cons (ms_366 hX) mA.nil))) (pE hX (by decide +kernel)) (by decide +kernel)
def sm_369 : aM := (201, 2, [(1, 67, 0), (0, (-2147483648), 2147483647), (0, (-2147483648), 2147483647)], [], [], [(some ((-2147483648), 2147483647), [], [])])
def lb_369 : List aLab := []
theorem ms_369 {Ext : gI → Prop} (hX : pSt Ext) : MSok bT Ext MT sm_369 := achk_ok (nm := 297) (sm := [sm_268, sm_333]) (labs := lb_369) (sp := []) (fuel := 24) (rE := [(1000000, (2, 0))]) (maxL := 3) (M := mX12_gateOf) mt_X12_gateOf rfl os_X12_gateOf MT_len ((mA.cons (ms_268 hX) (mA.cons (ms_333 hX) mA.nil))) (pE hX (by decide +kernel)) (by decide +kernel)
def sm_370 : aM := (127, 0, [(0, (-2147483648), 2147483647), (0, 1, 1), (0, 16, 16)], [], [], [(some (1, 1), [(0, 1, 16)], []), (some (0, 0), [], [])])
def lb_370 : List aLab := []
theorem ms_370 {Ext : gI → Prop} (hX : pSt Ext) : MSok bT Ext MT sm_370 := achk_ok (nm := 297) (sm := []) (labs := lb_370) (sp := []) (fuel := 14) (rE := [(1000000, (2, 0))]) (maxL := 3) (M := mX12_in1) mt_X12_in1 rfl os_X12_in1 MT_len ( mA.nil) (pE hX (by decide +kernel)) (by decide +kernel)
def sm_371 : aM := (193, 0, [(1, 67, 0), (0, 1, 1), (0, 1, 16)], [], [(68, 1, 1)], [(some (0, 16), [], [])])
def lb_371 : List aLab := []
theorem ms_371 {Ext : gI → Prop} (hX : pSt Ext) : MSok bT Ext MT sm_371 := achk_ok (nm := 297) (sm := []) (labs := lb_371) (sp := []) (fuel := 17) (rE := [(1000000, (2, 0))]) (maxL := 4) (M := mX12_becomes) mt_X12_becomes rfl os_X12_becomes MT_len ( mA.nil) (pE hX (by decide +kernel)) (by decide +kernel)
def sm_372 : aM := (203, 1, [(1, 67, 0), (0, (-2147483648), 2147483647)], [], [(68, 1, 1)], [(some ((-4), 16), [], [])])
def lb_372 : List aLab := []
theorem ms_372 {Ext : gI → Prop} (hX : pSt Ext) : MSok bT Ext MT sm_372 := achk_ok (nm := 297) (sm := [sm_371, sm_370]) (labs := lb_372) (sp := []) (fuel := 21) (rE := [(1000000, (2, 0))]) (maxL := 2) (M := mX12_ends) mt_X12_ends rfl os_X12_ends MT_len ((mA.cons (ms_371 hX) (mA.cons (ms_370 hX) mA.nil))) (pE hX (by decide +kernel)) (by decide +kernel)
def sm_374 : aM := (193, 0, [(1, 67, 0), (0, 0, 0), (0, 0, 0)], [], [(68, 0, 0)], [(some (0, 16), [], [])])
def lb_374 : List aLab := []
theorem ms_374 {Ext : gI → Prop} (hX : pSt Ext) : MSok bT Ext MT sm_374 := achk_ok (nm := 297) (sm := []) (labs := lb_374) (sp := []) (fuel := 17) (rE := [(1000000, (2, 0))]) (maxL := 4) (M := mX12_becomes) mt_X12_becomes rfl os_X12_becomes MT_len ( mA.nil) (pE hX (by decide +kernel)) (by decide +kernel)
def sm_379 : aM := (205, 1, [(1, 67, 0)], [], [(68, 0, 0), (68, 2, 2), (68, 39, 39), (68, 44, 44), (68, 49, 49), (68, 54, 54), (68, 59, 59), (68, 64, 64)], [(some (0, 16), [], [])])
def lb_379 : List aLab := [(9, [some (1, 67), some (0, 0)], [], [(0, 6, none)], [(68, 2, (2, 0))], [(99991, (2, 0)), (6, (0, 0)), (99991, (2, 0))])]
theorem ms_379 {Ext : gI → Prop} (hX : pSt Ext) : MSok bT Ext MT sm_379 := achk_ok (nm := 297) (sm := [sm_374, sm_273]) (labs := lb_379) (sp := []) (fuel := 19) (rE := [(1000000, (2, 0)), (0, (2, 0)), (0, (2, 0))]) (maxL := 2) (M := mX12_anew) mt_X12_anew rfl os_X12_anew MT_len ((mA.cons (ms_374 hX) (mA.cons (ms_273 hX) mA.nil))) (pE hX (by decide +kernel)) (by decide +kernel)
def sm_385 : aM := (156, 1, [(1, 67, 0)], [], [], [(some ((-2147483648), 2147483647), [], [])])
def lb_385 : List aLab := [(4, [some (1, 67), some (0, 0), some (0, 1)], [], [((-2147483648), 2147483647, none), (0, 6, none)], [], [(99996, (2, 0)), (6, (0, 1)), (99996, (2, 0))])]
theorem ms_385 {Ext : gI → Prop} (hX : pSt Ext) : MSok bT Ext MT sm_385 := achk_ok (nm := 297) (sm := [sm_310]) (labs := lb_385) (sp := []) (fuel := 21) (rE := [(1000000, (2, 0)), (0, (2, 0)), (0, (2, 0))]) (maxL := 3) (M := mX12_teethAll) mt_X12_teethAll rfl os_X12_teethAll MT_len ((mA.cons (ms_310 hX) mA.nil)) (pE hX (by decide +kernel)) (by decide +kernel)
def sm_386 : aM := (157, 1, [(1, 67, 0), (0, 4, 4)], [], [], [(some ((-2147483648), 2147483647), [], [])])
def lb_386 : List aLab := [(4, [some (1, 67), some (2, 4), some (0, 0), some (0, 1)], [], [((-2147483648), 2147483647, none), (0, 6, none)], [], [(99996, (2, 0)), (6, (0, 1)), (99996, (2, 0))])]
theorem ms_386 {Ext : gI → Prop} (hX : pSt Ext) : MSok bT Ext MT sm_386 := achk_ok (nm := 297) (sm := [sm_308]) (labs := lb_386) (sp := []) (fuel := 26) (rE := [(1000000, (2, 0)), (0, (2, 0)), (0, (2, 0))]) (maxL := 4) (M := mX12_those) mt_X12_those rfl os_X12_those MT_len ((mA.cons (ms_308 hX) mA.nil)) (pE hX (by decide +kernel)) (by decide +kernel)
def sm_387 : aM := (150, 0, [(1, 67, 0)], [(68, 0, 0, 16)], [], [(some (1, 1), [], []), (some (0, 0), [], [(68, 0, 0, 15), (68, 1, 1, 16)])])
def lb_387 : List aLab := []
theorem ms_387 {Ext : gI → Prop} (hX : pSt Ext) : MSok bT Ext MT sm_387 := achk_ok (nm := 297) (sm := []) (labs := lb_387) (sp := []) (fuel := 17) (rE := [(1000000, (2, 0))]) (maxL := 1) (M := mX12_isOver) mt_X12_isOver rfl os_X12_isOver MT_len ( mA.nil) (pE hX (by decide +kernel)) (by decide +kernel)
def sm_388 : aM := (207, 2, [(1, 67, 0), (0, (-2147483648), 2147483647)], [], [], [(some ((-2147483648), 2147483647), [], [])])
def lb_388 : List aLab := []
theorem ms_388 {Ext : gI → Prop} (hX : pSt Ext) : MSok bT Ext MT sm_388 := achk_ok (nm := 297) (sm := [sm_385, sm_318, sm_386, sm_387]) (labs := lb_388) (sp := []) (fuel := 13) (rE := [(1000000, (2, 0))]) (maxL := 2) (M := mX12_state) mt_X12_state rfl os_X12_state MT_len ((mA.cons (ms_385 hX) (mA.cons (ms_318 hX) (mA.cons (ms_386 hX) (mA.cons (ms_387 hX) mA.nil))))) (pE hX (by decide +kernel)) (by decide +kernel)
def sm_393 : aM := (141, 0, [(1, 67, 0), (0, 0, 5), (0, 4, 4), (0, 1, 1)], [], [(68, 39, 39), (68, 44, 44), (68, 49, 49), (68, 54, 54), (68, 59, 59), (68, 64, 64)], [(none, [], [])])
def lb_393 : List aLab := []
theorem ms_393 {Ext : gI → Prop} (hX : pSt Ext) : MSok bT Ext MT sm_393 := achk_ok (nm := 297) (sm := []) (labs := lb_393) (sp := [(0, 0, 1, [])]) (fuel := 18) (rE := [(1000000, (2, 0))]) (maxL := 4) (M := mX12_puts) mt_X12_puts rfl os_X12_puts MT_len ( mA.nil) (pE hX (by decide +kernel)) (by decide +kernel)
def sm_394 : aM := (142, 4, [(1, 67, 0), (0, 0, 5)], [], [(68, 39, 39), (68, 44, 44), (68, 49, 49), (68, 54, 54), (68, 59, 59), (68, 64, 64)], [(some (0, 9), [], [])])
def lb_394 : List aLab := []
theorem ms_394 {Ext : gI → Prop} (hX : pSt Ext) : MSok bT Ext MT sm_394 := achk_ok (nm := 297) (sm := [sm_316, sm_393, sm_273]) (labs := lb_394) (sp := []) (fuel := 19) (rE := [(1000000, (2, 0))]) (maxL := 3) (M := mX12_turnsNow) mt_X12_turnsNow rfl os_X12_turnsNow MT_len ((mA.cons (ms_316 hX) (mA.cons (ms_393 hX) (mA.cons (ms_273 hX) mA.nil)))) (pE hX (by decide +kernel)) (by decide +kernel)
def sm_395 : aM := (143, 0, [(0, (-2147483648), 2147483647), (0, 99, 99)], [], [], [(some (0, 99), [], [])])
def lb_395 : List aLab := []
theorem ms_395 {Ext : gI → Prop} (hX : pSt Ext) : MSok bT Ext MT sm_395 := achk_ok (nm := 297) (sm := []) (labs := lb_395) (sp := []) (fuel := 13) (rE := [(1000000, (2, 0))]) (maxL := 2) (M := mX12_held) mt_X12_held rfl os_X12_held MT_len ( mA.nil) (pE hX (by decide +kernel)) (by decide +kernel)
def sm_404 : aM := (127, 0, [(0, (-2147483648), 2147483647), (0, 0, 0), (0, 16, 16)], [], [], [(some (1, 1), [(0, 0, 16)], []), (some (0, 0), [], [])])
def lb_404 : List aLab := []
theorem ms_404 {Ext : gI → Prop} (hX : pSt Ext) : MSok bT Ext MT sm_404 := achk_ok (nm := 297) (sm := []) (labs := lb_404) (sp := []) (fuel := 14) (rE := [(1000000, (2, 0))]) (maxL := 3) (M := mX12_in1) mt_X12_in1 rfl os_X12_in1 MT_len ( mA.nil) (pE hX (by decide +kernel)) (by decide +kernel)
def sm_405 : aM := (152, 0, [(1, 67, 0)], [], [(70, 0, 64)], [(none, [], [(70, 5, 10000000068, 5), (70, 23, 10000000068, 23), (70, 24, 10000000068, 24), (70, 25, 10000000068, 25), (70, 26, 10000000068, 26), (70, 27, 10000000068, 27), (70, 28, 10000000068, 28), (70, 29, 10000000068, 29), (70, 30, 10000000068, 30), (70, 31, 10000000068, 31), (70, 32, 10000000068, 32), (70, 33, 10000000068, 33), (70, 34, 10000000068, 34)])])
theorem ms_405 {Ext : gI → Prop} (_hX : pSt Ext) : MSok bT Ext MT sm_405 := ms_cp (x := 68) (y := 70) (sp := 0) (dp := 0) (N := 65) mt_X12_layDown g_layDown (by decide +kernel) (by decide +kernel) (by decide +kernel)
def sm_407 : aM := (154, 0, [(1, 67, 0)], [(68, 5, 10000000070, 5), (68, 23, 10000000070, 23), (68, 24, 10000000070, 24), (68, 25, 10000000070, 25), (68, 26, 10000000070, 26), (68, 27, 10000000070, 27), (68, 28, 10000000070, 28), (68, 29, 10000000070, 29), (68, 30, 10000000070, 30), (68, 31, 10000000070, 31), (68, 32, 10000000070, 32), (68, 33, 10000000070, 33), (68, 34, 10000000070, 34)], [(68, 0, 4), (68, 6, 22), (68, 35, 64)], [(none, [], [])])
theorem ms_407 {Ext : gI → Prop} (_hX : pSt Ext) : MSok bT Ext MT sm_407 := ms_cp (x := 70) (y := 68) (sp := 0) (dp := 0) (N := 65) mt_X12_layBack g_layBack (by decide +kernel) (by decide +kernel) (by decide +kernel)
def sm_409 : aM := (150, 0, [(1, 67, 0)], [(68, 0, 16, 16)], [], [(some (1, 1), [], [(68, 0, 16, 16)])])
def lb_409 : List aLab := []
theorem ms_409 {Ext : gI → Prop} (hX : pSt Ext) : MSok bT Ext MT sm_409 := achk_ok (nm := 297) (sm := []) (labs := lb_409) (sp := []) (fuel := 17) (rE := [(1000000, (2, 0))]) (maxL := 1) (M := mX12_isOver) mt_X12_isOver rfl os_X12_isOver MT_len ( mA.nil) (pE hX (by decide +kernel)) (by decide +kernel)
def sm_410 : aM := (150, 0, [(1, 67, 0)], [(68, 0, 15, 15)], [], [(some (1, 1), [], [(68, 0, 15, 15), (68, 1, 0, 15)]), (some (0, 0), [], [(68, 0, 15, 15), (68, 1, 16, 16)])])
def lb_410 : List aLab := []
theorem ms_410 {Ext : gI → Prop} (hX : pSt Ext) : MSok bT Ext MT sm_410 := achk_ok (nm := 297) (sm := []) (labs := lb_410) (sp := []) (fuel := 17) (rE := [(1000000, (2, 0))]) (maxL := 1) (M := mX12_isOver) mt_X12_isOver rfl os_X12_isOver MT_len ( mA.nil) (pE hX (by decide +kernel)) (by decide +kernel)
def sm_412 : aM := (150, 0, [(1, 67, 0)], [(68, 0, 14, 14)], [], [(some (1, 1), [], [(68, 0, 14, 14), (68, 1, 0, 14)]), (some (0, 0), [], [(68, 0, 14, 14), (68, 1, 15, 16)])])
def lb_412 : List aLab := []
theorem ms_412 {Ext : gI → Prop} (hX : pSt Ext) : MSok bT Ext MT sm_412 := achk_ok (nm := 297) (sm := []) (labs := lb_412) (sp := []) (fuel := 17) (rE := [(1000000, (2, 0))]) (maxL := 1) (M := mX12_isOver) mt_X12_isOver rfl os_X12_isOver MT_len ( mA.nil) (pE hX (by decide +kernel)) (by decide +kernel)
def sm_414 : aM := (150, 0, [(1, 67, 0)], [(68, 0, 13, 13)], [], [(some (1, 1), [], [(68, 0, 13, 13), (68, 1, 0, 13)]), (some (0, 0), [], [(68, 0, 13, 13), (68, 1, 14, 16)])])
def lb_414 : List aLab := []
theorem ms_414 {Ext : gI → Prop} (hX : pSt Ext) : MSok bT Ext MT sm_414 := achk_ok (nm := 297) (sm := []) (labs := lb_414) (sp := []) (fuel := 17) (rE := [(1000000, (2, 0))]) (maxL := 1) (M := mX12_isOver) mt_X12_isOver rfl os_X12_isOver MT_len ( mA.nil) (pE hX (by decide +kernel)) (by decide +kernel)
def sm_416 : aM := (150, 0, [(1, 67, 0)], [(68, 0, 12, 12)], [], [(some (1, 1), [], [(68, 0, 12, 12), (68, 1, 0, 12)]), (some (0, 0), [], [(68, 0, 12, 12), (68, 1, 13, 16)])])
def lb_416 : List aLab := []
theorem ms_416 {Ext : gI → Prop} (hX : pSt Ext) : MSok bT Ext MT sm_416 := achk_ok (nm := 297) (sm := []) (labs := lb_416) (sp := []) (fuel := 17) (rE := [(1000000, (2, 0))]) (maxL := 1) (M := mX12_isOver) mt_X12_isOver rfl os_X12_isOver MT_len ( mA.nil) (pE hX (by decide +kernel)) (by decide +kernel)
def sm_418 : aM := (150, 0, [(1, 67, 0)], [(68, 0, 11, 11)], [], [(some (1, 1), [], [(68, 0, 11, 11), (68, 1, 0, 11)]), (some (0, 0), [], [(68, 0, 11, 11), (68, 1, 12, 16)])])
def lb_418 : List aLab := []
theorem ms_418 {Ext : gI → Prop} (hX : pSt Ext) : MSok bT Ext MT sm_418 := achk_ok (nm := 297) (sm := []) (labs := lb_418) (sp := []) (fuel := 17) (rE := [(1000000, (2, 0))]) (maxL := 1) (M := mX12_isOver) mt_X12_isOver rfl os_X12_isOver MT_len ( mA.nil) (pE hX (by decide +kernel)) (by decide +kernel)
def sm_420 : aM := (150, 0, [(1, 67, 0)], [(68, 0, 10, 10)], [], [(some (1, 1), [], [(68, 0, 10, 10), (68, 1, 0, 10)]), (some (0, 0), [], [(68, 0, 10, 10), (68, 1, 11, 16)])])
def lb_420 : List aLab := []
theorem ms_420 {Ext : gI → Prop} (hX : pSt Ext) : MSok bT Ext MT sm_420 := achk_ok (nm := 297) (sm := []) (labs := lb_420) (sp := []) (fuel := 17) (rE := [(1000000, (2, 0))]) (maxL := 1) (M := mX12_isOver) mt_X12_isOver rfl os_X12_isOver MT_len ( mA.nil) (pE hX (by decide +kernel)) (by decide +kernel)
def sm_422 : aM := (150, 0, [(1, 67, 0)], [(68, 0, 9, 9)], [], [(some (1, 1), [], [(68, 0, 9, 9), (68, 1, 0, 9)]), (some (0, 0), [], [(68, 0, 9, 9), (68, 1, 10, 16)])])
def lb_422 : List aLab := []
theorem ms_422 {Ext : gI → Prop} (hX : pSt Ext) : MSok bT Ext MT sm_422 := achk_ok (nm := 297) (sm := []) (labs := lb_422) (sp := []) (fuel := 17) (rE := [(1000000, (2, 0))]) (maxL := 1) (M := mX12_isOver) mt_X12_isOver rfl os_X12_isOver MT_len ( mA.nil) (pE hX (by decide +kernel)) (by decide +kernel)
def sm_424 : aM := (150, 0, [(1, 67, 0)], [(68, 0, 8, 8)], [], [(some (1, 1), [], [(68, 0, 8, 8), (68, 1, 0, 8)]), (some (0, 0), [], [(68, 0, 8, 8), (68, 1, 9, 16)])])
def lb_424 : List aLab := []
theorem ms_424 {Ext : gI → Prop} (hX : pSt Ext) : MSok bT Ext MT sm_424 := achk_ok (nm := 297) (sm := []) (labs := lb_424) (sp := []) (fuel := 17) (rE := [(1000000, (2, 0))]) (maxL := 1) (M := mX12_isOver) mt_X12_isOver rfl os_X12_isOver MT_len ( mA.nil) (pE hX (by decide +kernel)) (by decide +kernel)
def sm_426 : aM := (150, 0, [(1, 67, 0)], [(68, 0, 7, 7)], [], [(some (1, 1), [], [(68, 0, 7, 7), (68, 1, 0, 7)]), (some (0, 0), [], [(68, 0, 7, 7), (68, 1, 8, 16)])])
def lb_426 : List aLab := []
theorem ms_426 {Ext : gI → Prop} (hX : pSt Ext) : MSok bT Ext MT sm_426 := achk_ok (nm := 297) (sm := []) (labs := lb_426) (sp := []) (fuel := 17) (rE := [(1000000, (2, 0))]) (maxL := 1) (M := mX12_isOver) mt_X12_isOver rfl os_X12_isOver MT_len ( mA.nil) (pE hX (by decide +kernel)) (by decide +kernel)
def sm_428 : aM := (150, 0, [(1, 67, 0)], [(68, 0, 6, 6)], [], [(some (1, 1), [], [(68, 0, 6, 6), (68, 1, 0, 6)]), (some (0, 0), [], [(68, 0, 6, 6), (68, 1, 7, 16)])])
def lb_428 : List aLab := []
theorem ms_428 {Ext : gI → Prop} (hX : pSt Ext) : MSok bT Ext MT sm_428 := achk_ok (nm := 297) (sm := []) (labs := lb_428) (sp := []) (fuel := 17) (rE := [(1000000, (2, 0))]) (maxL := 1) (M := mX12_isOver) mt_X12_isOver rfl os_X12_isOver MT_len ( mA.nil) (pE hX (by decide +kernel)) (by decide +kernel)
def sm_430 : aM := (150, 0, [(1, 67, 0)], [(68, 0, 5, 5)], [], [(some (1, 1), [], [(68, 0, 5, 5), (68, 1, 0, 5)]), (some (0, 0), [], [(68, 0, 5, 5), (68, 1, 6, 16)])])
def lb_430 : List aLab := []
theorem ms_430 {Ext : gI → Prop} (hX : pSt Ext) : MSok bT Ext MT sm_430 := achk_ok (nm := 297) (sm := []) (labs := lb_430) (sp := []) (fuel := 17) (rE := [(1000000, (2, 0))]) (maxL := 1) (M := mX12_isOver) mt_X12_isOver rfl os_X12_isOver MT_len ( mA.nil) (pE hX (by decide +kernel)) (by decide +kernel)
def sm_432 : aM := (150, 0, [(1, 67, 0)], [(68, 0, 4, 4)], [], [(some (1, 1), [], [(68, 0, 4, 4), (68, 1, 0, 4)]), (some (0, 0), [], [(68, 0, 4, 4), (68, 1, 5, 16)])])
def lb_432 : List aLab := []
theorem ms_432 {Ext : gI → Prop} (hX : pSt Ext) : MSok bT Ext MT sm_432 := achk_ok (nm := 297) (sm := []) (labs := lb_432) (sp := []) (fuel := 17) (rE := [(1000000, (2, 0))]) (maxL := 1) (M := mX12_isOver) mt_X12_isOver rfl os_X12_isOver MT_len ( mA.nil) (pE hX (by decide +kernel)) (by decide +kernel)
def sm_434 : aM := (150, 0, [(1, 67, 0)], [(68, 0, 3, 3)], [], [(some (1, 1), [], [(68, 0, 3, 3), (68, 1, 0, 3)]), (some (0, 0), [], [(68, 0, 3, 3), (68, 1, 4, 16)])])
def lb_434 : List aLab := []
theorem ms_434 {Ext : gI → Prop} (hX : pSt Ext) : MSok bT Ext MT sm_434 := achk_ok (nm := 297) (sm := []) (labs := lb_434) (sp := []) (fuel := 17) (rE := [(1000000, (2, 0))]) (maxL := 1) (M := mX12_isOver) mt_X12_isOver rfl os_X12_isOver MT_len ( mA.nil) (pE hX (by decide +kernel)) (by decide +kernel)
def sm_436 : aM := (150, 0, [(1, 67, 0)], [(68, 0, 2, 2)], [], [(some (1, 1), [], [(68, 0, 2, 2), (68, 1, 0, 2)]), (some (0, 0), [], [(68, 0, 2, 2), (68, 1, 3, 16)])])
def lb_436 : List aLab := []
theorem ms_436 {Ext : gI → Prop} (hX : pSt Ext) : MSok bT Ext MT sm_436 := achk_ok (nm := 297) (sm := []) (labs := lb_436) (sp := []) (fuel := 17) (rE := [(1000000, (2, 0))]) (maxL := 1) (M := mX12_isOver) mt_X12_isOver rfl os_X12_isOver MT_len ( mA.nil) (pE hX (by decide +kernel)) (by decide +kernel)
def sm_438 : aM := (150, 0, [(1, 67, 0)], [(68, 0, 1, 1)], [], [(some (1, 1), [], [(68, 0, 1, 1), (68, 1, 0, 1)]), (some (0, 0), [], [(68, 0, 1, 1), (68, 1, 2, 16)])])
def lb_438 : List aLab := []
theorem ms_438 {Ext : gI → Prop} (hX : pSt Ext) : MSok bT Ext MT sm_438 := achk_ok (nm := 297) (sm := []) (labs := lb_438) (sp := []) (fuel := 17) (rE := [(1000000, (2, 0))]) (maxL := 1) (M := mX12_isOver) mt_X12_isOver rfl os_X12_isOver MT_len ( mA.nil) (pE hX (by decide +kernel)) (by decide +kernel)
def sm_440 : aM := (150, 0, [(1, 67, 0)], [(68, 0, 0, 0)], [], [(some (1, 1), [], [(68, 0, 0, 0), (68, 1, 0, 0)]), (some (0, 0), [], [(68, 0, 0, 0), (68, 1, 1, 16)])])
def lb_440 : List aLab := []
theorem ms_440 {Ext : gI → Prop} (hX : pSt Ext) : MSok bT Ext MT sm_440 := achk_ok (nm := 297) (sm := []) (labs := lb_440) (sp := []) (fuel := 17) (rE := [(1000000, (2, 0))]) (maxL := 1) (M := mX12_isOver) mt_X12_isOver rfl os_X12_isOver MT_len ( mA.nil) (pE hX (by decide +kernel)) (by decide +kernel)
def sm_459 : aM := (226, 3, [(1, 67, 0), (0, (-2147483648), 2147483647)], [], [], [(some ((-2147483648), 2147483647), [], [])])
def lb_459 : List aLab := [(14, [some (1, 67), some (0, 0), some (0, 1), some (0, 2)], [], [(0, 5, none), ((-2147483648), 2147483647, none), (0, 10, none)], [], [(99986, (2, 0)), (10, (0, 2)), (99986, (2, 0))])]
theorem ms_459 {Ext : gI → Prop} (hX : pSt Ext) : MSok bT Ext MT sm_459 := achk_ok (nm := 297) (sm := [sm_276, sm_315]) (labs := lb_459) (sp := []) (fuel := 23) (rE := [(1000000, (2, 0)), (0, (2, 0)), (0, (2, 0))]) (maxL := 4) (M := mX12_opens) mt_X12_opens rfl os_X12_opens MT_len ((mA.cons (ms_276 hX) (mA.cons (ms_315 hX) mA.nil))) (pE hX (by decide +kernel)) (by decide +kernel)
def sm_469 : aM := (159, 2, [(1, 67, 0), (0, 0, 5), (0, 0, 5)], [], [], [(some (1, 1), [], []), (some (0, 0), [], [])])
def lb_469 : List aLab := []
theorem ms_469 {Ext : gI → Prop} (hX : pSt Ext) : MSok bT Ext MT sm_469 := achk_ok (nm := 297) (sm := [sm_309, sm_313, sm_308]) (labs := lb_469) (sp := []) (fuel := 39) (rE := [(1000000, (2, 0))]) (maxL := 4) (M := mX12_areClose) mt_X12_areClose rfl os_X12_areClose MT_len ((mA.cons (ms_309 hX) (mA.cons (ms_313 hX) (mA.cons (ms_308 hX) mA.nil)))) (pE hX (by decide +kernel)) (by decide +kernel)
def sm_470 : aM := (158, 3, [(1, 67, 0), (0, 0, 5)], [], [], [(some ((-2147483648), 2147483647), [], [])])
def lb_470 : List aLab := [(6, [some (1, 67), some (0, 0), some (0, 1), some (0, 2), none, none], [], [(0, 5, none), ((-2147483648), 2147483647, none), (0, 6, none)], [], [(99994, (2, 0)), (6, (0, 2)), (99994, (2, 0)), (0, (2, 0)), (0, (2, 0)), (0, (2, 0)), (0, (2, 0))]), (19, [some (1, 67), some (0, 0), some (0, 1), some (0, 2), some (0, 3), none], [], [(0, 5, none), ((-2147483648), 2147483647, none), (0, 5, none), (0, 6, none), (1, 6, none)], [(68, 4, (0, 4))], [(99994, (2, 0)), (6, (0, 2)), (99981, (2, 0)), (6, (0, 3)), (99981, (2, 0)), (0, (2, 0)), (0, (2, 0))]), (33, [some (1, 67), some (0, 0), some (0, 1), some (0, 2), some (0, 3), some (0, 4)], [], [(0, 5, none), ((-2147483648), 2147483647, none), (0, 5, none), (0, 5, none), (0, 6, none), (1, 6, none)], [(68, 4, (0, 5))], [(99994, (2, 0)), (6, (0, 2)), (99981, (2, 0)), (6, (0, 3)), (99967, (2, 0)), (6, (0, 4)), (99967, (2, 0))])]
theorem ms_470 {Ext : gI → Prop} (hX : pSt Ext) : MSok bT Ext MT sm_470 := achk_ok (nm := 297) (sm := [sm_308, sm_469]) (labs := lb_470) (sp := []) (fuel := 33) (rE := [(1000000, (2, 0)), (0, (2, 0)), (0, (2, 0)), (0, (2, 0)), (0, (2, 0)), (0, (2, 0)), (0, (2, 0))]) (maxL := 6) (M := mX12_bunchOf) mt_X12_bunchOf rfl os_X12_bunchOf MT_len ((mA.cons (ms_308 hX) (mA.cons (ms_469 hX) mA.nil))) (pE hX (by decide +kernel)) (by decide +kernel)
def sm_471 : aM := (230, 4, [(1, 67, 0), (0, (-2147483648), 2147483647)], [], [], [(some ((-2147483648), 2147483647), [], [])])
def lb_471 : List aLab := [(29, [some (1, 67), some (2, (-1)), some (0, 0), some (0, 1), none], [], [((-2147483648), 2147483647, none), (0, 6, none)], [], [(99971, (2, 0)), (6, (0, 1)), (99971, (2, 0))])]
theorem ms_471 {Ext : gI → Prop} (hX : pSt Ext) : MSok bT Ext MT sm_471 := achk_ok (nm := 297) (sm := [sm_470, sm_276]) (labs := lb_471) (sp := []) (fuel := 31) (rE := [(1000000, (2, 0)), (0, (2, 0)), (0, (2, 0))]) (maxL := 5) (M := mX12_bunches) mt_X12_bunches rfl os_X12_bunches MT_len ((mA.cons (ms_470 hX) (mA.cons (ms_276 hX) mA.nil))) (pE hX (by decide +kernel)) (by decide +kernel)
def sm_472 : aM := (127, 0, [(0, (-2147483648), 2147483647), (0, 0, 0), (0, 4, 4)], [], [], [(some (1, 1), [(0, 0, 4)], []), (some (0, 0), [], [])])
def lb_472 : List aLab := []
theorem ms_472 {Ext : gI → Prop} (hX : pSt Ext) : MSok bT Ext MT sm_472 := achk_ok (nm := 297) (sm := []) (labs := lb_472) (sp := []) (fuel := 14) (rE := [(1000000, (2, 0))]) (maxL := 3) (M := mX12_in1) mt_X12_in1 rfl os_X12_in1 MT_len ( mA.nil) (pE hX (by decide +kernel)) (by decide +kernel)
def sm_473 : aM := (165, 1, [(0, (-2147483648), 2147483647)], [], [], [(some (0, 0), [], []), (some (1, 1), [(0, 0, 4)], [])])
def lb_473 : List aLab := []
theorem ms_473 {Ext : gI → Prop} (hX : pSt Ext) : MSok bT Ext MT sm_473 := achk_ok (nm := 297) (sm := [sm_472]) (labs := lb_473) (sp := []) (fuel := 10) (rE := [(1000000, (2, 0))]) (maxL := 1) (M := mX12_isPlan) mt_X12_isPlan rfl os_X12_isPlan MT_len ((mA.cons (ms_472 hX) mA.nil)) (pE hX (by decide +kernel)) (by decide +kernel)
def sm_474 : aM := (163, 1, [(1, 67, 0), (0, 0, 4)], [(68, 0, 0, 16)], [], [(some (0, 0), [], []), (some (1, 1), [(1, 1, 4)], [(68, 0, 0, 15), (68, 1, 1, 16)]), (some (2, 2), [(1, 2, 4)], [(68, 0, 0, 14), (68, 1, 1, 16)]), (some (3, 3), [(1, 3, 4)], [(68, 0, 0, 13), (68, 1, 1, 16)]), (some (4, 4), [(1, 4, 4)], [(68, 0, 0, 12), (68, 1, 1, 16)])])
def lb_474 : List aLab := []
theorem ms_474 {Ext : gI → Prop} (hX : pSt Ext) : MSok bT Ext MT sm_474 := achk_ok (nm := 297) (sm := [sm_409, sm_410, sm_412, sm_414, sm_416, sm_418, sm_420, sm_422, sm_424, sm_426, sm_428, sm_430, sm_432, sm_434, sm_436, sm_438, sm_440]) (labs := lb_474) (sp := [(0, 69, 0, []), (0, 0, 1, []), (25, 0, 2, [])]) (fuel := 27) (rE := [(1000000, (2, 0))]) (maxL := 3) (M := mX12_daysOf) mt_X12_daysOf rfl os_X12_daysOf MT_len ((mA.cons (ms_409 hX) (mA.cons (ms_410 hX) (mA.cons (ms_412 hX) (mA.cons (ms_414 hX) (mA.cons (ms_416 hX) (mA.cons (ms_418 hX) (mA.cons (ms_420 hX) (mA.cons (ms_422 hX) (mA.cons (ms_424 hX) (mA.cons (ms_426 hX) (mA.cons (ms_428 hX) (mA.cons (ms_430 hX) (mA.cons (ms_432 hX) (mA.cons (ms_434 hX) (mA.cons (ms_436 hX) (mA.cons (ms_438 hX) (mA.cons (ms_440 hX) mA.nil)))))))))))))))))) (pE hX (by decide +kernel)) (by decide +kernel)
