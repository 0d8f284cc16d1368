def sm_359 : aM := (193, 0, [(1, 67, 0), (0, 60, 60), (0, 1, 5)], [], [(68, 60, 60)], [(some (0, 5), [], [])])
def lb_359 : List aLab := []
theorem ms_359 {Ext : gI → Prop} (hX : pSt Ext) : MSok bT Ext MT sm_359 := achk_ok (nm := 297) (sm := []) (labs := lb_359) (sp := []) (fuel := 17) (rE := [(1000000, (2, 0))]) (maxL := 4) (M := mX12_becomes) mt_X12_becomes rfl os_X12_becomes MT_len ( mA.nil) (pE hX (by decide +kernel)) (by decide +kernel)
def sm_360 : aM := (193, 0, [(1, 67, 0), (0, 55, 55), (0, 1, 5)], [], [(68, 55, 55)], [(some (0, 5), [], [])])
def lb_360 : List aLab := []
theorem ms_360 {Ext : gI → Prop} (hX : pSt Ext) : MSok bT Ext MT sm_360 := achk_ok (nm := 297) (sm := []) (labs := lb_360) (sp := []) (fuel := 17) (rE := [(1000000, (2, 0))]) (maxL := 4) (M := mX12_becomes) mt_X12_becomes rfl os_X12_becomes MT_len ( mA.nil) (pE hX (by decide +kernel)) (by decide +kernel)
def sm_361 : aM := (193, 0, [(1, 67, 0), (0, 50, 50), (0, 1, 5)], [], [(68, 50, 50)], [(some (0, 5), [], [])])
def lb_361 : List aLab := []
theorem ms_361 {Ext : gI → Prop} (hX : pSt Ext) : MSok bT Ext MT sm_361 := achk_ok (nm := 297) (sm := []) (labs := lb_361) (sp := []) (fuel := 17) (rE := [(1000000, (2, 0))]) (maxL := 4) (M := mX12_becomes) mt_X12_becomes rfl os_X12_becomes MT_len ( mA.nil) (pE hX (by decide +kernel)) (by decide +kernel)
def sm_362 : aM := (193, 0, [(1, 67, 0), (0, 45, 45), (0, 1, 5)], [], [(68, 45, 45)], [(some (0, 5), [], [])])
def lb_362 : List aLab := []
theorem ms_362 {Ext : gI → Prop} (hX : pSt Ext) : MSok bT Ext MT sm_362 := achk_ok (nm := 297) (sm := []) (labs := lb_362) (sp := []) (fuel := 17) (rE := [(1000000, (2, 0))]) (maxL := 4) (M := mX12_becomes) mt_X12_becomes rfl os_X12_becomes MT_len ( mA.nil) (pE hX (by decide +kernel)) (by decide +kernel)
def sm_363 : aM := (193, 0, [(1, 67, 0), (0, 40, 40), (0, 1, 5)], [], [(68, 40, 40)], [(some (0, 5), [], [])])
def lb_363 : List aLab := []
theorem ms_363 {Ext : gI → Prop} (hX : pSt Ext) : MSok bT Ext MT sm_363 := achk_ok (nm := 297) (sm := []) (labs := lb_363) (sp := []) (fuel := 17) (rE := [(1000000, (2, 0))]) (maxL := 4) (M := mX12_becomes) mt_X12_becomes rfl os_X12_becomes MT_len ( mA.nil) (pE hX (by decide +kernel)) (by decide +kernel)
def sm_364 : aM := (193, 0, [(1, 67, 0), (0, 35, 35), (0, 1, 5)], [], [(68, 35, 35)], [(some (0, 5), [], [])])
def lb_364 : List aLab := []
theorem ms_364 {Ext : gI → Prop} (hX : pSt Ext) : MSok bT Ext MT sm_364 := achk_ok (nm := 297) (sm := []) (labs := lb_364) (sp := []) (fuel := 17) (rE := [(1000000, (2, 0))]) (maxL := 4) (M := mX12_becomes) mt_X12_becomes rfl os_X12_becomes MT_len ( mA.nil) (pE hX (by decide +kernel)) (by decide +kernel)
def sm_365 : aM := (195, 2, [(1, 67, 0), (0, (-2147483648), 2147483647), (0, (-2147483648), 2147483647)], [], [(68, 35, 35), (68, 40, 40), (68, 45, 45), (68, 50, 50), (68, 55, 55), (68, 60, 60)], [(some ((-1), 5), [], [])])
def lb_365 : List aLab := []
theorem ms_365 {Ext : gI → Prop} (hX : pSt Ext) : MSok bT Ext MT sm_365 := achk_ok (nm := 297) (sm := [sm_359, sm_360, sm_361, sm_362, sm_363, sm_364, sm_276, sm_264]) (labs := lb_365) (sp := [(17, 0, 1, [])]) (fuel := 25) (rE := [(1000000, (2, 0))]) (maxL := 3) (M := mX12_remake) mt_X12_remake rfl os_X12_remake MT_len ((mA.cons (ms_359 hX) (mA.cons (ms_360 hX) (mA.cons (ms_361 hX) (mA.cons (ms_362 hX) (mA.cons (ms_363 hX) (mA.cons (ms_364 hX) (mA.cons (ms_276 hX) (mA.cons (ms_264 hX) mA.nil))))))))) (pE hX (by decide +kernel)) (by decide +kernel)
def sm_366 : aM := (127, 0, [(0, (-2147483648), 2147483647), (0, 0, 0), (0, 15, 15)], [], [], [(some (1, 1), [(0, 0, 15)], []), (some (0, 0), [], [])])
def lb_366 : List aLab := []
theorem ms_366 {Ext : gI → Prop} (hX : pSt Ext) : MSok bT Ext MT sm_366 := achk_ok (nm := 297) (sm := []) (labs := lb_366) (sp := []) (fuel := 14) (rE := [(1000000, (2, 0))]) (maxL := 3) (M := mX12_in1) mt_X12_in1 rfl os_X12_in1 MT_len ( mA.nil) (pE hX (by decide +kernel)) (by decide +kernel)
def sm_367 : aM := (193, 0, [(1, 67, 0), (0, 7, 22), (0, 0, 15)], [], [(68, 7, 22)], [(some (0, 15), [], [])])
def lb_367 : List aLab := []
theorem ms_367 {Ext : gI → Prop} (hX : pSt Ext) : MSok bT Ext MT sm_367 := achk_ok (nm := 297) (sm := []) (labs := lb_367) (sp := []) (fuel := 17) (rE := [(1000000, (2, 0))]) (maxL := 4) (M := mX12_becomes) mt_X12_becomes rfl os_X12_becomes MT_len ( mA.nil) (pE hX (by decide +kernel)) (by decide +kernel)
def sm_368 : aM := (197, 1, [(1, 67, 0), (0, (-2147483648), 2147483647), (0, (-2147483648), 2147483647)], [], [(68, 7, 22)], [(some ((-1), 15), [], [])])
def lb_368 : List aLab := []
theorem ms_368 {Ext : gI → Prop} (hX : pSt Ext) : MSok bT Ext MT sm_368 := achk_ok (nm := 297) (sm := [sm_367, sm_366]) (labs := lb_368) (sp := []) (fuel := 23) (rE := [(1000000, (2, 0))]) (maxL := 3) (M := mX12_sun) mt_X12_sun rfl os_X12_sun MT_len ((mA.cons (ms_367 hX) (mA.cons (ms_366 hX) mA.nil))) (pE hX (by decide +kernel)) (by decide +kernel)
def sm_369 : aM := (193, 0, [(1, 67, 0), (0, 23, 28), (0, 0, 9)], [], [(68, 23, 28)], [(some ((-2147483648), 2147483647), [], [])])
def lb_369 : List aLab := []
theorem ms_369 {Ext : gI → Prop} (hX : pSt Ext) : MSok bT Ext MT sm_369 := achk_ok (nm := 297) (sm := []) (labs := lb_369) (sp := []) (fuel := 17) (rE := [(1000000, (2, 0))]) (maxL := 4) (M := mX12_becomes) mt_X12_becomes rfl os_X12_becomes MT_len ( mA.nil) (pE hX (by decide +kernel)) (by decide +kernel)
def sm_370 : aM := (193, 0, [(1, 67, 0), (0, 29, 34), (0, 0, 9)], [], [(68, 29, 34)], [(some ((-2147483648), 2147483647), [], [])])
def lb_370 : List aLab := []
theorem ms_370 {Ext : gI → Prop} (hX : pSt Ext) : MSok bT Ext MT sm_370 := achk_ok (nm := 297) (sm := []) (labs := lb_370) (sp := []) (fuel := 17) (rE := [(1000000, (2, 0))]) (maxL := 4) (M := mX12_becomes) mt_X12_becomes rfl os_X12_becomes MT_len ( mA.nil) (pE hX (by decide +kernel)) (by decide +kernel)
def sm_371 : aM := (199, 2, [(1, 67, 0), (0, (-2147483648), 2147483647), (0, (-2147483648), 2147483647), (0, (-2147483648), 2147483647)], [], [(68, 23, 34)], [(some ((-2147483648), 2147483647), [], [])])
def lb_371 : List aLab := []
theorem ms_371 {Ext : gI → Prop} (hX : pSt Ext) : MSok bT Ext MT sm_371 := achk_ok (nm := 297) (sm := [sm_369, sm_370, sm_269, sm_333, sm_267]) (labs := lb_371) (sp := []) (fuel := 27) (rE := [(1000000, (2, 0))]) (maxL := 4) (M := mX12_gate) mt_X12_gate rfl os_X12_gate MT_len ((mA.cons (ms_369 hX) (mA.cons (ms_370 hX) (mA.cons (ms_269 hX) (mA.cons (ms_333 hX) (mA.cons (ms_267 hX) mA.nil)))))) (pE hX (by decide +kernel)) (by decide +kernel)
def sm_372 : aM := (201, 2, [(1, 67, 0), (0, (-2147483648), 2147483647), (0, (-2147483648), 2147483647)], [], [], [(some ((-2147483648), 2147483647), [], [])])
def lb_372 : List aLab := []
theorem ms_372 {Ext : gI → Prop} (hX : pSt Ext) : MSok bT Ext MT sm_372 := achk_ok (nm := 297) (sm := [sm_269, sm_333]) (labs := lb_372) (sp := []) (fuel := 24) (rE := [(1000000, (2, 0))]) (maxL := 3) (M := mX12_gateOf) mt_X12_gateOf rfl os_X12_gateOf MT_len ((mA.cons (ms_269 hX) (mA.cons (ms_333 hX) mA.nil))) (pE hX (by decide +kernel)) (by decide +kernel)
def sm_375 : aM := (193, 0, [(1, 67, 0), (0, 0, 0), (0, 0, 0)], [], [(68, 0, 0)], [(some (0, 16), [], [])])
def lb_375 : List aLab := []
theorem ms_375 {Ext : gI → Prop} (hX : pSt Ext) : MSok bT Ext MT sm_375 := achk_ok (nm := 297) (sm := []) (labs := lb_375) (sp := []) (fuel := 17) (rE := [(1000000, (2, 0))]) (maxL := 4) (M := mX12_becomes) mt_X12_becomes rfl os_X12_becomes MT_len ( mA.nil) (pE hX (by decide +kernel)) (by decide +kernel)
def sm_380 : aM := (205, 1, [(1, 67, 0)], [], [(68, 0, 0), (68, 2, 2), (68, 39, 39), (68, 44, 44), (68, 49, 49), (68, 54, 54), (68, 59, 59), (68, 64, 64)], [(some (0, 16), [], [])])
def lb_380 : List aLab := [(9, [some (1, 67), some (0, 0)], [], [(0, 6, none)], [(68, 2, (2, 0))], [(99991, (2, 0)), (6, (0, 0)), (99991, (2, 0))])]
theorem ms_380 {Ext : gI → Prop} (hX : pSt Ext) : MSok bT Ext MT sm_380 := achk_ok (nm := 297) (sm := [sm_375, sm_274]) (labs := lb_380) (sp := []) (fuel := 19) (rE := [(1000000, (2, 0)), (0, (2, 0)), (0, (2, 0))]) (maxL := 2) (M := mX12_anew) mt_X12_anew rfl os_X12_anew MT_len ((mA.cons (ms_375 hX) (mA.cons (ms_274 hX) mA.nil))) (pE hX (by decide +kernel)) (by decide +kernel)
def sm_386 : aM := (156, 1, [(1, 67, 0)], [], [], [(some ((-2147483648), 2147483647), [], [])])
def lb_386 : List aLab := [(4, [some (1, 67), some (0, 0), some (0, 1)], [], [((-2147483648), 2147483647, none), (0, 6, none)], [], [(99996, (2, 0)), (6, (0, 1)), (99996, (2, 0))])]
theorem ms_386 {Ext : gI → Prop} (hX : pSt Ext) : MSok bT Ext MT sm_386 := achk_ok (nm := 297) (sm := [sm_310]) (labs := lb_386) (sp := []) (fuel := 21) (rE := [(1000000, (2, 0)), (0, (2, 0)), (0, (2, 0))]) (maxL := 3) (M := mX12_teethAll) mt_X12_teethAll rfl os_X12_teethAll MT_len ((mA.cons (ms_310 hX) mA.nil)) (pE hX (by decide +kernel)) (by decide +kernel)
def sm_387 : aM := (157, 1, [(1, 67, 0), (0, 4, 4)], [], [], [(some ((-2147483648), 2147483647), [], [])])
def lb_387 : List aLab := [(4, [some (1, 67), some (2, 4), some (0, 0), some (0, 1)], [], [((-2147483648), 2147483647, none), (0, 6, none)], [], [(99996, (2, 0)), (6, (0, 1)), (99996, (2, 0))])]
theorem ms_387 {Ext : gI → Prop} (hX : pSt Ext) : MSok bT Ext MT sm_387 := achk_ok (nm := 297) (sm := [sm_308]) (labs := lb_387) (sp := []) (fuel := 26) (rE := [(1000000, (2, 0)), (0, (2, 0)), (0, (2, 0))]) (maxL := 4) (M := mX12_those) mt_X12_those rfl os_X12_those MT_len ((mA.cons (ms_308 hX) mA.nil)) (pE hX (by decide +kernel)) (by decide +kernel)
def sm_388 : aM := (150, 0, [(1, 67, 0)], [(68, 0, 0, 16)], [], [(some (1, 1), [], []), (some (0, 0), [], [(68, 0, 0, 15), (68, 1, 1, 16)])])
def lb_388 : List aLab := []
theorem ms_388 {Ext : gI → Prop} (hX : pSt Ext) : MSok bT Ext MT sm_388 := achk_ok (nm := 297) (sm := []) (labs := lb_388) (sp := []) (fuel := 17) (rE := [(1000000, (2, 0))]) (maxL := 1) (M := mX12_isOver) mt_X12_isOver rfl os_X12_isOver MT_len ( mA.nil) (pE hX (by decide +kernel)) (by decide +kernel)
def sm_389 : aM := (207, 2, [(1, 67, 0), (0, (-2147483648), 2147483647)], [], [], [(some ((-2147483648), 2147483647), [], [])])
def lb_389 : List aLab := []
theorem ms_389 {Ext : gI → Prop} (hX : pSt Ext) : MSok bT Ext MT sm_389 := achk_ok (nm := 297) (sm := [sm_386, sm_318, sm_387, sm_388]) (labs := lb_389) (sp := []) (fuel := 13) (rE := [(1000000, (2, 0))]) (maxL := 2) (M := mX12_state) mt_X12_state rfl os_X12_state MT_len ((mA.cons (ms_386 hX) (mA.cons (ms_318 hX) (mA.cons (ms_387 hX) (mA.cons (ms_388 hX) mA.nil))))) (pE hX (by decide +kernel)) (by decide +kernel)
def sm_394 : aM := (141, 0, [(1, 67, 0), (0, 0, 5), (0, 4, 4), (0, 1, 1)], [], [(68, 39, 39), (68, 44, 44), (68, 49, 49), (68, 54, 54), (68, 59, 59), (68, 64, 64)], [(none, [], [])])
def lb_394 : List aLab := []
theorem ms_394 {Ext : gI → Prop} (hX : pSt Ext) : MSok bT Ext MT sm_394 := achk_ok (nm := 297) (sm := []) (labs := lb_394) (sp := [(0, 0, 1, [])]) (fuel := 18) (rE := [(1000000, (2, 0))]) (maxL := 4) (M := mX12_puts) mt_X12_puts rfl os_X12_puts MT_len ( mA.nil) (pE hX (by decide +kernel)) (by decide +kernel)
def sm_395 : aM := (142, 4, [(1, 67, 0), (0, 0, 5)], [], [(68, 39, 39), (68, 44, 44), (68, 49, 49), (68, 54, 54), (68, 59, 59), (68, 64, 64)], [(some (0, 9), [], [])])
def lb_395 : List aLab := []
theorem ms_395 {Ext : gI → Prop} (hX : pSt Ext) : MSok bT Ext MT sm_395 := achk_ok (nm := 297) (sm := [sm_316, sm_394, sm_274]) (labs := lb_395) (sp := []) (fuel := 19) (rE := [(1000000, (2, 0))]) (maxL := 3) (M := mX12_turnsNow) mt_X12_turnsNow rfl os_X12_turnsNow MT_len ((mA.cons (ms_316 hX) (mA.cons (ms_394 hX) (mA.cons (ms_274 hX) mA.nil)))) (pE hX (by decide +kernel)) (by decide +kernel)
def sm_396 : aM := (143, 0, [(0, (-2147483648), 2147483647), (0, 99, 99)], [], [], [(some (0, 99), [], [])])
def lb_396 : List aLab := []
theorem ms_396 {Ext : gI → Prop} (hX : pSt Ext) : MSok bT Ext MT sm_396 := achk_ok (nm := 297) (sm := []) (labs := lb_396) (sp := []) (fuel := 13) (rE := [(1000000, (2, 0))]) (maxL := 2) (M := mX12_held) mt_X12_held rfl os_X12_held MT_len ( mA.nil) (pE hX (by decide +kernel)) (by decide +kernel)
def sm_405 : aM := (127, 0, [(0, (-2147483648), 2147483647), (0, 0, 0), (0, 16, 16)], [], [], [(some (1, 1), [(0, 0, 16)], []), (some (0, 0), [], [])])
def lb_405 : List aLab := []
theorem ms_405 {Ext : gI → Prop} (hX : pSt Ext) : MSok bT Ext MT sm_405 := achk_ok (nm := 297) (sm := []) (labs := lb_405) (sp := []) (fuel := 14) (rE := [(1000000, (2, 0))]) (maxL := 3) (M := mX12_in1) mt_X12_in1 rfl os_X12_in1 MT_len ( mA.nil) (pE hX (by decide +kernel)) (by decide +kernel)
def sm_406 : aM := (152, 0, [(1, 67, 0)], [], [(70, 0, 64)], [(none, [], [(70, 1, 10000000068, 1), (70, 4, 10000000068, 4), (70, 5, 10000000068, 5), (70, 0, 10000000068, 0), (70, 3, 10000000068, 3)])])
theorem ms_406 {Ext : gI → Prop} (_hX : pSt Ext) : MSok bT Ext MT sm_406 := ms_cp (x := 68) (y := 70) (sp := 0) (dp := 0) (N := 65) mt_X12_layDown g_layDown (by decide +kernel) (by decide +kernel) (by decide +kernel)
def sm_408 : aM := (154, 0, [(1, 67, 0)], [(68, 1, 10000000070, 1), (68, 4, 10000000070, 4), (68, 5, 10000000070, 5)], [(68, 0, 0), (68, 2, 3), (68, 6, 64)], [(none, [], [(68, 0, 10000000070, 0), (68, 3, 10000000070, 3)])])
theorem ms_408 {Ext : gI → Prop} (_hX : pSt Ext) : MSok bT Ext MT sm_408 := ms_cp (x := 70) (y := 68) (sp := 0) (dp := 0) (N := 65) mt_X12_layBack g_layBack (by decide +kernel) (by decide +kernel) (by decide +kernel)
def sm_410 : aM := (150, 0, [(1, 67, 0)], [(68, 0, 16, 16)], [], [(some (1, 1), [], [(68, 0, 16, 16)])])
def lb_410 : List aLab := []
theorem ms_410 {Ext : gI → Prop} (hX : pSt Ext) : MSok bT Ext MT sm_410 := achk_ok (nm := 297) (sm := []) (labs := lb_410) (sp := []) (fuel := 17) (rE := [(1000000, (2, 0))]) (maxL := 1) (M := mX12_isOver) mt_X12_isOver rfl os_X12_isOver MT_len ( mA.nil) (pE hX (by decide +kernel)) (by decide +kernel)
def sm_411 : aM := (150, 0, [(1, 67, 0)], [(68, 0, 15, 15)], [], [(some (1, 1), [], [(68, 0, 15, 15), (68, 1, 0, 15)]), (some (0, 0), [], [(68, 0, 15, 15), (68, 1, 16, 16)])])
def lb_411 : List aLab := []
theorem ms_411 {Ext : gI → Prop} (hX : pSt Ext) : MSok bT Ext MT sm_411 := achk_ok (nm := 297) (sm := []) (labs := lb_411) (sp := []) (fuel := 17) (rE := [(1000000, (2, 0))]) (maxL := 1) (M := mX12_isOver) mt_X12_isOver rfl os_X12_isOver MT_len ( mA.nil) (pE hX (by decide +kernel)) (by decide +kernel)
def sm_413 : aM := (150, 0, [(1, 67, 0)], [(68, 0, 14, 14)], [], [(some (1, 1), [], [(68, 0, 14, 14), (68, 1, 0, 14)]), (some (0, 0), [], [(68, 0, 14, 14), (68, 1, 15, 16)])])
def lb_413 : List aLab := []
theorem ms_413 {Ext : gI → Prop} (hX : pSt Ext) : MSok bT Ext MT sm_413 := achk_ok (nm := 297) (sm := []) (labs := lb_413) (sp := []) (fuel := 17) (rE := [(1000000, (2, 0))]) (maxL := 1) (M := mX12_isOver) mt_X12_isOver rfl os_X12_isOver MT_len ( mA.nil) (pE hX (by decide +kernel)) (by decide +kernel)
def sm_415 : aM := (150, 0, [(1, 67, 0)], [(68, 0, 13, 13)], [], [(some (1, 1), [], [(68, 0, 13, 13), (68, 1, 0, 13)]), (some (0, 0), [], [(68, 0, 13, 13), (68, 1, 14, 16)])])
def lb_415 : List aLab := []
theorem ms_415 {Ext : gI → Prop} (hX : pSt Ext) : MSok bT Ext MT sm_415 := achk_ok (nm := 297) (sm := []) (labs := lb_415) (sp := []) (fuel := 17) (rE := [(1000000, (2, 0))]) (maxL := 1) (M := mX12_isOver) mt_X12_isOver rfl os_X12_isOver MT_len ( mA.nil) (pE hX (by decide +kernel)) (by decide +kernel)
def sm_417 : aM := (150, 0, [(1, 67, 0)], [(68, 0, 12, 12)], [], [(some (1, 1), [], [(68, 0, 12, 12), (68, 1, 0, 12)]), (some (0, 0), [], [(68, 0, 12, 12), (68, 1, 13, 16)])])
def lb_417 : List aLab := []
theorem ms_417 {Ext : gI → Prop} (hX : pSt Ext) : MSok bT Ext MT sm_417 := achk_ok (nm := 297) (sm := []) (labs := lb_417) (sp := []) (fuel := 17) (rE := [(1000000, (2, 0))]) (maxL := 1) (M := mX12_isOver) mt_X12_isOver rfl os_X12_isOver MT_len ( mA.nil) (pE hX (by decide +kernel)) (by decide +kernel)
def sm_419 : aM := (150, 0, [(1, 67, 0)], [(68, 0, 11, 11)], [], [(some (1, 1), [], [(68, 0, 11, 11), (68, 1, 0, 11)]), (some (0, 0), [], [(68, 0, 11, 11), (68, 1, 12, 16)])])
def lb_419 : List aLab := []
theorem ms_419 {Ext : gI → Prop} (hX : pSt Ext) : MSok bT Ext MT sm_419 := achk_ok (nm := 297) (sm := []) (labs := lb_419) (sp := []) (fuel := 17) (rE := [(1000000, (2, 0))]) (maxL := 1) (M := mX12_isOver) mt_X12_isOver rfl os_X12_isOver MT_len ( mA.nil) (pE hX (by decide +kernel)) (by decide +kernel)
def sm_421 : aM := (150, 0, [(1, 67, 0)], [(68, 0, 10, 10)], [], [(some (1, 1), [], [(68, 0, 10, 10), (68, 1, 0, 10)]), (some (0, 0), [], [(68, 0, 10, 10), (68, 1, 11, 16)])])
def lb_421 : List aLab := []
theorem ms_421 {Ext : gI → Prop} (hX : pSt Ext) : MSok bT Ext MT sm_421 := achk_ok (nm := 297) (sm := []) (labs := lb_421) (sp := []) (fuel := 17) (rE := [(1000000, (2, 0))]) (maxL := 1) (M := mX12_isOver) mt_X12_isOver rfl os_X12_isOver MT_len ( mA.nil) (pE hX (by decide +kernel)) (by decide +kernel)
def sm_423 : aM := (150, 0, [(1, 67, 0)], [(68, 0, 9, 9)], [], [(some (1, 1), [], [(68, 0, 9, 9), (68, 1, 0, 9)]), (some (0, 0), [], [(68, 0, 9, 9), (68, 1, 10, 16)])])
def lb_423 : List aLab := []
theorem ms_423 {Ext : gI → Prop} (hX : pSt Ext) : MSok bT Ext MT sm_423 := achk_ok (nm := 297) (sm := []) (labs := lb_423) (sp := []) (fuel := 17) (rE := [(1000000, (2, 0))]) (maxL := 1) (M := mX12_isOver) mt_X12_isOver rfl os_X12_isOver MT_len ( mA.nil) (pE hX (by decide +kernel)) (by decide +kernel)
def sm_425 : aM := (150, 0, [(1, 67, 0)], [(68, 0, 8, 8)], [], [(some (1, 1), [], [(68, 0, 8, 8), (68, 1, 0, 8)]), (some (0, 0), [], [(68, 0, 8, 8), (68, 1, 9, 16)])])
def lb_425 : List aLab := []
theorem ms_425 {Ext : gI → Prop} (hX : pSt Ext) : MSok bT Ext MT sm_425 := achk_ok (nm := 297) (sm := []) (labs := lb_425) (sp := []) (fuel := 17) (rE := [(1000000, (2, 0))]) (maxL := 1) (M := mX12_isOver) mt_X12_isOver rfl os_X12_isOver MT_len ( mA.nil) (pE hX (by decide +kernel)) (by decide +kernel)
def sm_427 : aM := (150, 0, [(1, 67, 0)], [(68, 0, 7, 7)], [], [(some (1, 1), [], [(68, 0, 7, 7), (68, 1, 0, 7)]), (some (0, 0), [], [(68, 0, 7, 7), (68, 1, 8, 16)])])
def lb_427 : List aLab := []
theorem ms_427 {Ext : gI → Prop} (hX : pSt Ext) : MSok bT Ext MT sm_427 := achk_ok (nm := 297) (sm := []) (labs := lb_427) (sp := []) (fuel := 17) (rE := [(1000000, (2, 0))]) (maxL := 1) (M := mX12_isOver) mt_X12_isOver rfl os_X12_isOver MT_len ( mA.nil) (pE hX (by decide +kernel)) (by decide +kernel)
def sm_429 : aM := (150, 0, [(1, 67, 0)], [(68, 0, 6, 6)], [], [(some (1, 1), [], [(68, 0, 6, 6), (68, 1, 0, 6)]), (some (0, 0), [], [(68, 0, 6, 6), (68, 1, 7, 16)])])
def lb_429 : List aLab := []
theorem ms_429 {Ext : gI → Prop} (hX : pSt Ext) : MSok bT Ext MT sm_429 := achk_ok (nm := 297) (sm := []) (labs := lb_429) (sp := []) (fuel := 17) (rE := [(1000000, (2, 0))]) (maxL := 1) (M := mX12_isOver) mt_X12_isOver rfl os_X12_isOver MT_len ( mA.nil) (pE hX (by decide +kernel)) (by decide +kernel)
def sm_431 : aM := (150, 0, [(1, 67, 0)], [(68, 0, 5, 5)], [], [(some (1, 1), [], [(68, 0, 5, 5), (68, 1, 0, 5)]), (some (0, 0), [], [(68, 0, 5, 5), (68, 1, 6, 16)])])
def lb_431 : List aLab := []
theorem ms_431 {Ext : gI → Prop} (hX : pSt Ext) : MSok bT Ext MT sm_431 := achk_ok (nm := 297) (sm := []) (labs := lb_431) (sp := []) (fuel := 17) (rE := [(1000000, (2, 0))]) (maxL := 1) (M := mX12_isOver) mt_X12_isOver rfl os_X12_isOver MT_len ( mA.nil) (pE hX (by decide +kernel)) (by decide +kernel)
def sm_433 : aM := (150, 0, [(1, 67, 0)], [(68, 0, 4, 4)], [], [(some (1, 1), [], [(68, 0, 4, 4), (68, 1, 0, 4)]), (some (0, 0), [], [(68, 0, 4, 4), (68, 1, 5, 16)])])
def lb_433 : List aLab := []
theorem ms_433 {Ext : gI → Prop} (hX : pSt Ext) : MSok bT Ext MT sm_433 := achk_ok (nm := 297) (sm := []) (labs := lb_433) (sp := []) (fuel := 17) (rE := [(1000000, (2, 0))]) (maxL := 1) (M := mX12_isOver) mt_X12_isOver rfl os_X12_isOver MT_len ( mA.nil) (pE hX (by decide +kernel)) (by decide +kernel)
def sm_435 : aM := (150, 0, [(1, 67, 0)], [(68, 0, 3, 3)], [], [(some (1, 1), [], [(68, 0, 3, 3), (68, 1, 0, 3)]), (some (0, 0), [], [(68, 0, 3, 3), (68, 1, 4, 16)])])
def lb_435 : List aLab := []
theorem ms_435 {Ext : gI → Prop} (hX : pSt Ext) : MSok bT Ext MT sm_435 := achk_ok (nm := 297) (sm := []) (labs := lb_435) (sp := []) (fuel := 17) (rE := [(1000000, (2, 0))]) (maxL := 1) (M := mX12_isOver) mt_X12_isOver rfl os_X12_isOver MT_len ( mA.nil) (pE hX (by decide +kernel)) (by decide +kernel)
def sm_437 : aM := (150, 0, [(1, 67, 0)], [(68, 0, 2, 2)], [], [(some (1, 1), [], [(68, 0, 2, 2), (68, 1, 0, 2)]), (some (0, 0), [], [(68, 0, 2, 2), (68, 1, 3, 16)])])
def lb_437 : List aLab := []
theorem ms_437 {Ext : gI → Prop} (hX : pSt Ext) : MSok bT Ext MT sm_437 := achk_ok (nm := 297) (sm := []) (labs := lb_437) (sp := []) (fuel := 17) (rE := [(1000000, (2, 0))]) (maxL := 1) (M := mX12_isOver) mt_X12_isOver rfl os_X12_isOver MT_len ( mA.nil) (pE hX (by decide +kernel)) (by decide +kernel)
def sm_439 : aM := (150, 0, [(1, 67, 0)], [(68, 0, 1, 1)], [], [(some (1, 1), [], [(68, 0, 1, 1), (68, 1, 0, 1)]), (some (0, 0), [], [(68, 0, 1, 1), (68, 1, 2, 16)])])
def lb_439 : List aLab := []
theorem ms_439 {Ext : gI → Prop} (hX : pSt Ext) : MSok bT Ext MT sm_439 := achk_ok (nm := 297) (sm := []) (labs := lb_439) (sp := []) (fuel := 17) (rE := [(1000000, (2, 0))]) (maxL := 1) (M := mX12_isOver) mt_X12_isOver rfl os_X12_isOver MT_len ( mA.nil) (pE hX (by decide +kernel)) (by decide +kernel)
def sm_441 : aM := (150, 0, [(1, 67, 0)], [(68, 0, 0, 0)], [], [(some (1, 1), [], [(68, 0, 0, 0), (68, 1, 0, 0)]), (some (0, 0), [], [(68, 0, 0, 0), (68, 1, 1, 16)])])
def lb_441 : List aLab := []
theorem ms_441 {Ext : gI → Prop} (hX : pSt Ext) : MSok bT Ext MT sm_441 := achk_ok (nm := 297) (sm := []) (labs := lb_441) (sp := []) (fuel := 17) (rE := [(1000000, (2, 0))]) (maxL := 1) (M := mX12_isOver) mt_X12_isOver rfl os_X12_isOver MT_len ( mA.nil) (pE hX (by decide +kernel)) (by decide +kernel)
def sm_460 : aM := (226, 3, [(1, 67, 0), (0, (-2147483648), 2147483647)], [], [], [(some ((-2147483648), 2147483647), [], [])])
def lb_460 : List aLab := [(14, [some (1, 67), some (0, 0), some (0, 1), some (0, 2)], [], [(0, 5, none), ((-2147483648), 2147483647, none), (0, 10, none)], [], [(99986, (2, 0)), (10, (0, 2)), (99986, (2, 0))])]
theorem ms_460 {Ext : gI → Prop} (hX : pSt Ext) : MSok bT Ext MT sm_460 := achk_ok (nm := 297) (sm := [sm_276, sm_315]) (labs := lb_460) (sp := []) (fuel := 23) (rE := [(1000000, (2, 0)), (0, (2, 0)), (0, (2, 0))]) (maxL := 4) (M := mX12_opens) mt_X12_opens rfl os_X12_opens MT_len ((mA.cons (ms_276 hX) (mA.cons (ms_315 hX) mA.nil))) (pE hX (by decide +kernel)) (by decide +kernel)
def sm_470 : aM := (159, 2, [(1, 67, 0), (0, 0, 5), (0, 0, 5)], [], [], [(some (1, 1), [], []), (some (0, 0), [], [])])
def lb_470 : List aLab := []
theorem ms_470 {Ext : gI → Prop} (hX : pSt Ext) : MSok bT Ext MT sm_470 := achk_ok (nm := 297) (sm := [sm_309, sm_313, sm_308]) (labs := lb_470) (sp := []) (fuel := 39) (rE := [(1000000, (2, 0))]) (maxL := 4) (M := mX12_areClose) mt_X12_areClose rfl os_X12_areClose MT_len ((mA.cons (ms_309 hX) (mA.cons (ms_313 hX) (mA.cons (ms_308 hX) mA.nil)))) (pE hX (by decide +kernel)) (by decide +kernel)
def sm_471 : aM := (158, 3, [(1, 67, 0), (0, 0, 5)], [], [], [(some ((-2147483648), 2147483647), [], [])])
def lb_471 : List aLab := [(6, [some (1, 67), some (0, 0), some (0, 1), some (0, 2), none, none], [], [(0, 5, none), ((-2147483648), 2147483647, none), (0, 6, none)], [], [(99994, (2, 0)), (6, (0, 2)), (99994, (2, 0)), (0, (2, 0)), (0, (2, 0)), (0, (2, 0)), (0, (2, 0))]), (19, [some (1, 67), some (0, 0), some (0, 1), some (0, 2), some (0, 3), none], [], [(0, 5, none), ((-2147483648), 2147483647, none), (0, 5, none), (0, 6, none), (1, 6, none)], [(68, 4, (0, 4))], [(99994, (2, 0)), (6, (0, 2)), (99981, (2, 0)), (6, (0, 3)), (99981, (2, 0)), (0, (2, 0)), (0, (2, 0))]), (33, [some (1, 67), some (0, 0), some (0, 1), some (0, 2), some (0, 3), some (0, 4)], [], [(0, 5, none), ((-2147483648), 2147483647, none), (0, 5, none), (0, 5, none), (0, 6, none), (1, 6, none)], [(68, 4, (0, 5))], [(99994, (2, 0)), (6, (0, 2)), (99981, (2, 0)), (6, (0, 3)), (99967, (2, 0)), (6, (0, 4)), (99967, (2, 0))])]
theorem ms_471 {Ext : gI → Prop} (hX : pSt Ext) : MSok bT Ext MT sm_471 := achk_ok (nm := 297) (sm := [sm_308, sm_470]) (labs := lb_471) (sp := []) (fuel := 33) (rE := [(1000000, (2, 0)), (0, (2, 0)), (0, (2, 0)), (0, (2, 0)), (0, (2, 0)), (0, (2, 0)), (0, (2, 0))]) (maxL := 6) (M := mX12_bunchOf) mt_X12_bunchOf rfl os_X12_bunchOf MT_len ((mA.cons (ms_308 hX) (mA.cons (ms_470 hX) mA.nil))) (pE hX (by decide +kernel)) (by decide +kernel)
def sm_472 : aM := (230, 4, [(1, 67, 0), (0, (-2147483648), 2147483647)], [], [], [(some ((-2147483648), 2147483647), [], [])])
def lb_472 : List aLab := [(29, [some (1, 67), some (2, (-1)), some (0, 0), some (0, 1), none], [], [((-2147483648), 2147483647, none), (0, 6, none)], [], [(99971, (2, 0)), (6, (0, 1)), (99971, (2, 0))])]
theorem ms_472 {Ext : gI → Prop} (hX : pSt Ext) : MSok bT Ext MT sm_472 := achk_ok (nm := 297) (sm := [sm_471, sm_276]) (labs := lb_472) (sp := []) (fuel := 31) (rE := [(1000000, (2, 0)), (0, (2, 0)), (0, (2, 0))]) (maxL := 5) (M := mX12_bunches) mt_X12_bunches rfl os_X12_bunches MT_len ((mA.cons (ms_471 hX) (mA.cons (ms_276 hX) mA.nil))) (pE hX (by decide +kernel)) (by decide +kernel)
def sm_473 : aM := (127, 0, [(0, (-2147483648), 2147483647), (0, 0, 0), (0, 4, 4)], [], [], [(some (1, 1), [(0, 0, 4)], []), (some (0, 0), [], [])])
def lb_473 : List aLab := []
theorem ms_473 {Ext : gI → Prop} (hX : pSt Ext) : MSok bT Ext MT sm_473 := achk_ok (nm := 297) (sm := []) (labs := lb_473) (sp := []) (fuel := 14) (rE := [(1000000, (2, 0))]) (maxL := 3) (M := mX12_in1) mt_X12_in1 rfl os_X12_in1 MT_len ( mA.nil) (pE hX (by decide +kernel)) (by decide +kernel)
def sm_474 : aM := (165, 1, [(0, (-2147483648), 2147483647)], [], [], [(some (0, 0), [], []), (some (1, 1), [(0, 0, 4)], [])])
def lb_474 : List aLab := []
theorem ms_474 {Ext : gI → Prop} (hX : pSt Ext) : MSok bT Ext MT sm_474 := achk_ok (nm := 297) (sm := [sm_473]) (labs := lb_474) (sp := []) (fuel := 10) (rE := [(1000000, (2, 0))]) (maxL := 1) (M := mX12_isPlan) mt_X12_isPlan rfl os_X12_isPlan MT_len ((mA.cons (ms_473 hX) mA.nil)) (pE hX (by decide +kernel)) (by decide +kernel)
def sm_475 : aM := (163, 1, [(1, 67, 0), (0, 0, 4)], [(19, 1, 0, 16), (68, 0, 10000000019, 1), (19, 4, (-2147483648), 2147483647), (68, 3, 10000000019, 4)], [], [(some (0, 0), [], [(19, 1, 0, 16), (68, 0, 10000000019, 1), (68, 3, 10000000019, 4)]), (some (1, 1), [(1, 1, 4)], [(19, 1, 0, 15), (68, 0, 0, 15), (68, 1, 1, 16), (68, 0, 10000000019, 1), (68, 3, 10000000019, 4)]), (some (2, 2), [(1, 2, 4)], [(19, 1, 0, 14), (68, 0, 0, 14), (68, 1, 1, 16), (68, 0, 10000000019, 1), (68, 3, 10000000019, 4)]), (some (3, 3), [(1, 3, 4)], [(19, 1, 0, 13), (68, 0, 0, 13), (68, 1, 1, 16), (68, 0, 10000000019, 1), (68, 3, 10000000019, 4)]), (some (4, 4), [(1, 4, 4)], [(19, 1, 0, 12), (68, 0, 0, 12), (68, 1, 1, 16), (68, 0, 10000000019, 1), (68, 3, 10000000019, 4)])])
def lb_475 : List aLab := []
theorem ms_475 {Ext : gI → Prop} (hX : pSt Ext) : MSok bT Ext MT sm_475 := achk_ok (nm := 297) (sm := [sm_410, sm_411, sm_413, sm_415, sm_417, sm_419, sm_421, sm_423, sm_425, sm_427, sm_429, sm_431, sm_433, sm_435, sm_437, sm_439, sm_441]) (labs := lb_475) (sp := [(0, 69, 0, []), (0, 0, 1, []), (25, 0, 2, [])]) (fuel := 27) (rE := [(1000000, (2, 0))]) (maxL := 3) (M := mX12_daysOf) mt_X12_daysOf rfl os_X12_daysOf MT_len ((mA.cons (ms_410 hX) (mA.cons (ms_411 hX) (mA.cons (ms_413 hX) (mA.cons (ms_415 hX) (mA.cons (ms_417 hX) (mA.cons (ms_419 hX) (mA.cons (ms_421 hX) (mA.cons (ms_423 hX) (mA.cons (ms_425 hX) (mA.cons (ms_427 hX) (mA.cons (ms_429 hX) (mA.cons (ms_431 hX) (mA.cons (ms_433 hX) (mA.cons (ms_435 hX) (mA.cons (ms_437 hX) (mA.cons (ms_439 hX) (mA.cons (ms_441 hX) mA.nil)))))))))))))))))) (pE hX (by decide +kernel)) (by decide +kernel)
