def sm_360 : aM := (193, 0, [(1, 67, 0), (0, 60, 60), (0, 1, 5)], [], [(68, 60, 60)], [(some (0, 5), [], [])])
def lb_360 : List aLab := []
theorem ms_360 {Ext : gI → Prop} (hX : pSt Ext) : MSok bT Ext MT sm_360 := achk_ok (nm := 297) (sm := []) (labs := lb_360) (sp := []) (fuel := 17) (rE := [(1000000, (2, 0))]) (maxL := 4) (M := mX12_becomes) mt_X12_becomes rfl os_X12_becomes MT_len ( mA.nil) (pE hX (by decide +kernel)) (by decide +kernel)
def sm_361 : aM := (193, 0, [(1, 67, 0), (0, 55, 55), (0, 1, 5)], [], [(68, 55, 55)], [(some (0, 5), [], [])])
def lb_361 : List aLab := []
theorem ms_361 {Ext : gI → Prop} (hX : pSt Ext) : MSok bT Ext MT sm_361 := achk_ok (nm := 297) (sm := []) (labs := lb_361) (sp := []) (fuel := 17) (rE := [(1000000, (2, 0))]) (maxL := 4) (M := mX12_becomes) mt_X12_becomes rfl os_X12_becomes MT_len ( mA.nil) (pE hX (by decide +kernel)) (by decide +kernel)
def sm_362 : aM := (193, 0, [(1, 67, 0), (0, 50, 50), (0, 1, 5)], [], [(68, 50, 50)], [(some (0, 5), [], [])])
def lb_362 : List aLab := []
theorem ms_362 {Ext : gI → Prop} (hX : pSt Ext) : MSok bT Ext MT sm_362 := achk_ok (nm := 297) (sm := []) (labs := lb_362) (sp := []) (fuel := 17) (rE := [(1000000, (2, 0))]) (maxL := 4) (M := mX12_becomes) mt_X12_becomes rfl os_X12_becomes MT_len ( mA.nil) (pE hX (by decide +kernel)) (by decide +kernel)
def sm_363 : aM := (193, 0, [(1, 67, 0), (0, 45, 45), (0, 1, 5)], [], [(68, 45, 45)], [(some (0, 5), [], [])])
def lb_363 : List aLab := []
theorem ms_363 {Ext : gI → Prop} (hX : pSt Ext) : MSok bT Ext MT sm_363 := achk_ok (nm := 297) (sm := []) (labs := lb_363) (sp := []) (fuel := 17) (rE := [(1000000, (2, 0))]) (maxL := 4) (M := mX12_becomes) mt_X12_becomes rfl os_X12_becomes MT_len ( mA.nil) (pE hX (by decide +kernel)) (by decide +kernel)
def sm_364 : aM := (193, 0, [(1, 67, 0), (0, 40, 40), (0, 1, 5)], [], [(68, 40, 40)], [(some (0, 5), [], [])])
def lb_364 : List aLab := []
theorem ms_364 {Ext : gI → Prop} (hX : pSt Ext) : MSok bT Ext MT sm_364 := achk_ok (nm := 297) (sm := []) (labs := lb_364) (sp := []) (fuel := 17) (rE := [(1000000, (2, 0))]) (maxL := 4) (M := mX12_becomes) mt_X12_becomes rfl os_X12_becomes MT_len ( mA.nil) (pE hX (by decide +kernel)) (by decide +kernel)
def sm_365 : aM := (193, 0, [(1, 67, 0), (0, 35, 35), (0, 1, 5)], [], [(68, 35, 35)], [(some (0, 5), [], [])])
def lb_365 : List aLab := []
theorem ms_365 {Ext : gI → Prop} (hX : pSt Ext) : MSok bT Ext MT sm_365 := achk_ok (nm := 297) (sm := []) (labs := lb_365) (sp := []) (fuel := 17) (rE := [(1000000, (2, 0))]) (maxL := 4) (M := mX12_becomes) mt_X12_becomes rfl os_X12_becomes MT_len ( mA.nil) (pE hX (by decide +kernel)) (by decide +kernel)
def sm_366 : aM := (195, 2, [(1, 67, 0), (0, (-2147483648), 2147483647), (0, (-2147483648), 2147483647)], [], [(68, 35, 35), (68, 40, 40), (68, 45, 45), (68, 50, 50), (68, 55, 55), (68, 60, 60)], [(some ((-1), 5), [], [])])
def lb_366 : List aLab := []
theorem ms_366 {Ext : gI → Prop} (hX : pSt Ext) : MSok bT Ext MT sm_366 := achk_ok (nm := 297) (sm := [sm_360, sm_361, sm_362, sm_363, sm_364, sm_365, sm_277, sm_265]) (labs := lb_366) (sp := [(17, 0, 1, [])]) (fuel := 25) (rE := [(1000000, (2, 0))]) (maxL := 3) (M := mX12_remake) mt_X12_remake rfl os_X12_remake MT_len ((mA.cons (ms_360 hX) (mA.cons (ms_361 hX) (mA.cons (ms_362 hX) (mA.cons (ms_363 hX) (mA.cons (ms_364 hX) (mA.cons (ms_365 hX) (mA.cons (ms_277 hX) (mA.cons (ms_265 hX) mA.nil))))))))) (pE hX (by decide +kernel)) (by decide +kernel)
def sm_367 : aM := (127, 0, [(0, (-2147483648), 2147483647), (0, 0, 0), (0, 15, 15)], [], [], [(some (1, 1), [(0, 0, 15)], []), (some (0, 0), [], [])])
def lb_367 : List aLab := []
theorem ms_367 {Ext : gI → Prop} (hX : pSt Ext) : MSok bT Ext MT sm_367 := achk_ok (nm := 297) (sm := []) (labs := lb_367) (sp := []) (fuel := 14) (rE := [(1000000, (2, 0))]) (maxL := 3) (M := mX12_in1) mt_X12_in1 rfl os_X12_in1 MT_len ( mA.nil) (pE hX (by decide +kernel)) (by decide +kernel)
def sm_368 : aM := (193, 0, [(1, 67, 0), (0, 7, 22), (0, 0, 15)], [], [(68, 7, 22)], [(some (0, 15), [], [])])
def lb_368 : List aLab := []
theorem ms_368 {Ext : gI → Prop} (hX : pSt Ext) : MSok bT Ext MT sm_368 := achk_ok (nm := 297) (sm := []) (labs := lb_368) (sp := []) (fuel := 17) (rE := [(1000000, (2, 0))]) (maxL := 4) (M := mX12_becomes) mt_X12_becomes rfl os_X12_becomes MT_len ( mA.nil) (pE hX (by decide +kernel)) (by decide +kernel)
def sm_369 : aM := (197, 1, [(1, 67, 0), (0, (-2147483648), 2147483647), (0, (-2147483648), 2147483647)], [], [(68, 7, 22)], [(some ((-1), 15), [], [])])
def lb_369 : List aLab := []
theorem ms_369 {Ext : gI → Prop} (hX : pSt Ext) : MSok bT Ext MT sm_369 := achk_ok (nm := 297) (sm := [sm_368, sm_367]) (labs := lb_369) (sp := []) (fuel := 23) (rE := [(1000000, (2, 0))]) (maxL := 3) (M := mX12_sun) mt_X12_sun rfl os_X12_sun MT_len ((mA.cons (ms_368 hX) (mA.cons (ms_367 hX) mA.nil))) (pE hX (by decide +kernel)) (by decide +kernel)
def sm_370 : aM := (193, 0, [(1, 67, 0), (0, 23, 28), (0, 0, 9)], [], [(68, 23, 28)], [(some ((-2147483648), 2147483647), [], [])])
def lb_370 : List aLab := []
theorem ms_370 {Ext : gI → Prop} (hX : pSt Ext) : MSok bT Ext MT sm_370 := achk_ok (nm := 297) (sm := []) (labs := lb_370) (sp := []) (fuel := 17) (rE := [(1000000, (2, 0))]) (maxL := 4) (M := mX12_becomes) mt_X12_becomes rfl os_X12_becomes MT_len ( mA.nil) (pE hX (by decide +kernel)) (by decide +kernel)
def sm_371 : aM := (193, 0, [(1, 67, 0), (0, 29, 34), (0, 0, 9)], [], [(68, 29, 34)], [(some ((-2147483648), 2147483647), [], [])])
def lb_371 : List aLab := []
theorem ms_371 {Ext : gI → Prop} (hX : pSt Ext) : MSok bT Ext MT sm_371 := achk_ok (nm := 297) (sm := []) (labs := lb_371) (sp := []) (fuel := 17) (rE := [(1000000, (2, 0))]) (maxL := 4) (M := mX12_becomes) mt_X12_becomes rfl os_X12_becomes MT_len ( mA.nil) (pE hX (by decide +kernel)) (by decide +kernel)
def sm_372 : aM := (199, 2, [(1, 67, 0), (0, (-2147483648), 2147483647), (0, (-2147483648), 2147483647), (0, (-2147483648), 2147483647)], [], [(68, 23, 34)], [(some ((-2147483648), 2147483647), [], [])])
def lb_372 : List aLab := []
theorem ms_372 {Ext : gI → Prop} (hX : pSt Ext) : MSok bT Ext MT sm_372 := achk_ok (nm := 297) (sm := [sm_370, sm_371, sm_270, sm_334, sm_268]) (labs := lb_372) (sp := []) (fuel := 27) (rE := [(1000000, (2, 0))]) (maxL := 4) (M := mX12_gate) mt_X12_gate rfl os_X12_gate MT_len ((mA.cons (ms_370 hX) (mA.cons (ms_371 hX) (mA.cons (ms_270 hX) (mA.cons (ms_334 hX) (mA.cons (ms_268 hX) mA.nil)))))) (pE hX (by decide +kernel)) (by decide +kernel)
def sm_373 : aM := (201, 2, [(1, 67, 0), (0, (-2147483648), 2147483647), (0, (-2147483648), 2147483647)], [], [], [(some ((-2147483648), 2147483647), [], [])])
def lb_373 : List aLab := []
theorem ms_373 {Ext : gI → Prop} (hX : pSt Ext) : MSok bT Ext MT sm_373 := achk_ok (nm := 297) (sm := [sm_270, sm_334]) (labs := lb_373) (sp := []) (fuel := 24) (rE := [(1000000, (2, 0))]) (maxL := 3) (M := mX12_gateOf) mt_X12_gateOf rfl os_X12_gateOf MT_len ((mA.cons (ms_270 hX) (mA.cons (ms_334 hX) mA.nil))) (pE hX (by decide +kernel)) (by decide +kernel)
def sm_374 : aM := (127, 0, [(0, (-2147483648), 2147483647), (0, 1, 1), (0, 16, 16)], [], [], [(some (1, 1), [(0, 1, 16)], []), (some (0, 0), [], [])])
def lb_374 : List aLab := []
theorem ms_374 {Ext : gI → Prop} (hX : pSt Ext) : MSok bT Ext MT sm_374 := achk_ok (nm := 297) (sm := []) (labs := lb_374) (sp := []) (fuel := 14) (rE := [(1000000, (2, 0))]) (maxL := 3) (M := mX12_in1) mt_X12_in1 rfl os_X12_in1 MT_len ( mA.nil) (pE hX (by decide +kernel)) (by decide +kernel)
def sm_375 : aM := (193, 0, [(1, 67, 0), (0, 1, 1), (0, 1, 16)], [], [(68, 1, 1)], [(some (0, 16), [], [])])
def lb_375 : List aLab := []
theorem ms_375 {Ext : gI → Prop} (hX : pSt Ext) : MSok bT Ext MT sm_375 := achk_ok (nm := 297) (sm := []) (labs := lb_375) (sp := []) (fuel := 17) (rE := [(1000000, (2, 0))]) (maxL := 4) (M := mX12_becomes) mt_X12_becomes rfl os_X12_becomes MT_len ( mA.nil) (pE hX (by decide +kernel)) (by decide +kernel)
def sm_376 : aM := (203, 1, [(1, 67, 0), (0, (-2147483648), 2147483647)], [], [(68, 1, 1)], [(some ((-4), 16), [], [])])
def lb_376 : List aLab := []
theorem ms_376 {Ext : gI → Prop} (hX : pSt Ext) : MSok bT Ext MT sm_376 := achk_ok (nm := 297) (sm := [sm_375, sm_374]) (labs := lb_376) (sp := []) (fuel := 21) (rE := [(1000000, (2, 0))]) (maxL := 2) (M := mX12_ends) mt_X12_ends rfl os_X12_ends MT_len ((mA.cons (ms_375 hX) (mA.cons (ms_374 hX) mA.nil))) (pE hX (by decide +kernel)) (by decide +kernel)
def sm_378 : aM := (193, 0, [(1, 67, 0), (0, 0, 0), (0, 0, 0)], [], [(68, 0, 0)], [(some (0, 16), [], [])])
def lb_378 : List aLab := []
theorem ms_378 {Ext : gI → Prop} (hX : pSt Ext) : MSok bT Ext MT sm_378 := achk_ok (nm := 297) (sm := []) (labs := lb_378) (sp := []) (fuel := 17) (rE := [(1000000, (2, 0))]) (maxL := 4) (M := mX12_becomes) mt_X12_becomes rfl os_X12_becomes MT_len ( mA.nil) (pE hX (by decide +kernel)) (by decide +kernel)
def sm_383 : aM := (205, 1, [(1, 67, 0)], [], [(68, 0, 0), (68, 2, 2), (68, 39, 39), (68, 44, 44), (68, 49, 49), (68, 54, 54), (68, 59, 59), (68, 64, 64)], [(some (0, 16), [], [])])
def lb_383 : List aLab := [(9, [some (1, 67), some (0, 0)], [], [(0, 6, none)], [(68, 2, (2, 0))], [(99991, (2, 0)), (6, (0, 0)), (99991, (2, 0))])]
theorem ms_383 {Ext : gI → Prop} (hX : pSt Ext) : MSok bT Ext MT sm_383 := achk_ok (nm := 297) (sm := [sm_378, sm_275]) (labs := lb_383) (sp := []) (fuel := 19) (rE := [(1000000, (2, 0)), (0, (2, 0)), (0, (2, 0))]) (maxL := 2) (M := mX12_anew) mt_X12_anew rfl os_X12_anew MT_len ((mA.cons (ms_378 hX) (mA.cons (ms_275 hX) mA.nil))) (pE hX (by decide +kernel)) (by decide +kernel)
def sm_389 : aM := (156, 1, [(1, 67, 0)], [], [], [(some ((-2147483648), 2147483647), [], [])])
def lb_389 : List aLab := [(4, [some (1, 67), some (0, 0), some (0, 1)], [], [((-2147483648), 2147483647, none), (0, 6, none)], [], [(99996, (2, 0)), (6, (0, 1)), (99996, (2, 0))])]
theorem ms_389 {Ext : gI → Prop} (hX : pSt Ext) : MSok bT Ext MT sm_389 := achk_ok (nm := 297) (sm := [sm_311]) (labs := lb_389) (sp := []) (fuel := 21) (rE := [(1000000, (2, 0)), (0, (2, 0)), (0, (2, 0))]) (maxL := 3) (M := mX12_teethAll) mt_X12_teethAll rfl os_X12_teethAll MT_len ((mA.cons (ms_311 hX) mA.nil)) (pE hX (by decide +kernel)) (by decide +kernel)
def sm_390 : aM := (157, 1, [(1, 67, 0), (0, 4, 4)], [], [], [(some ((-2147483648), 2147483647), [], [])])
def lb_390 : List aLab := [(4, [some (1, 67), some (2, 4), some (0, 0), some (0, 1)], [], [((-2147483648), 2147483647, none), (0, 6, none)], [], [(99996, (2, 0)), (6, (0, 1)), (99996, (2, 0))])]
theorem ms_390 {Ext : gI → Prop} (hX : pSt Ext) : MSok bT Ext MT sm_390 := achk_ok (nm := 297) (sm := [sm_309]) (labs := lb_390) (sp := []) (fuel := 26) (rE := [(1000000, (2, 0)), (0, (2, 0)), (0, (2, 0))]) (maxL := 4) (M := mX12_those) mt_X12_those rfl os_X12_those MT_len ((mA.cons (ms_309 hX) mA.nil)) (pE hX (by decide +kernel)) (by decide +kernel)
def sm_391 : aM := (150, 0, [(1, 67, 0)], [(68, 0, 0, 16)], [], [(some (1, 1), [], []), (some (0, 0), [], [(68, 0, 0, 15), (68, 1, 1, 16)])])
def lb_391 : List aLab := []
theorem ms_391 {Ext : gI → Prop} (hX : pSt Ext) : MSok bT Ext MT sm_391 := achk_ok (nm := 297) (sm := []) (labs := lb_391) (sp := []) (fuel := 17) (rE := [(1000000, (2, 0))]) (maxL := 1) (M := mX12_isOver) mt_X12_isOver rfl os_X12_isOver MT_len ( mA.nil) (pE hX (by decide +kernel)) (by decide +kernel)
def sm_392 : aM := (207, 2, [(1, 67, 0), (0, (-2147483648), 2147483647)], [], [], [(some ((-2147483648), 2147483647), [], [])])
def lb_392 : List aLab := []
theorem ms_392 {Ext : gI → Prop} (hX : pSt Ext) : MSok bT Ext MT sm_392 := achk_ok (nm := 297) (sm := [sm_389, sm_319, sm_390, sm_391]) (labs := lb_392) (sp := []) (fuel := 13) (rE := [(1000000, (2, 0))]) (maxL := 2) (M := mX12_state) mt_X12_state rfl os_X12_state MT_len ((mA.cons (ms_389 hX) (mA.cons (ms_319 hX) (mA.cons (ms_390 hX) (mA.cons (ms_391 hX) mA.nil))))) (pE hX (by decide +kernel)) (by decide +kernel)
def sm_397 : aM := (141, 0, [(1, 67, 0), (0, 0, 5), (0, 4, 4), (0, 1, 1)], [], [(68, 39, 39), (68, 44, 44), (68, 49, 49), (68, 54, 54), (68, 59, 59), (68, 64, 64)], [(none, [], [])])
def lb_397 : List aLab := []
theorem ms_397 {Ext : gI → Prop} (hX : pSt Ext) : MSok bT Ext MT sm_397 := achk_ok (nm := 297) (sm := []) (labs := lb_397) (sp := [(0, 0, 1, [])]) (fuel := 18) (rE := [(1000000, (2, 0))]) (maxL := 4) (M := mX12_puts) mt_X12_puts rfl os_X12_puts MT_len ( mA.nil) (pE hX (by decide +kernel)) (by decide +kernel)
def sm_398 : aM := (142, 4, [(1, 67, 0), (0, 0, 5)], [], [(68, 39, 39), (68, 44, 44), (68, 49, 49), (68, 54, 54), (68, 59, 59), (68, 64, 64)], [(some (0, 9), [], [])])
def lb_398 : List aLab := []
theorem ms_398 {Ext : gI → Prop} (hX : pSt Ext) : MSok bT Ext MT sm_398 := achk_ok (nm := 297) (sm := [sm_317, sm_397, sm_275]) (labs := lb_398) (sp := []) (fuel := 19) (rE := [(1000000, (2, 0))]) (maxL := 3) (M := mX12_turnsNow) mt_X12_turnsNow rfl os_X12_turnsNow MT_len ((mA.cons (ms_317 hX) (mA.cons (ms_397 hX) (mA.cons (ms_275 hX) mA.nil)))) (pE hX (by decide +kernel)) (by decide +kernel)
def sm_399 : aM := (143, 0, [(0, (-2147483648), 2147483647), (0, 99, 99)], [], [], [(some (0, 99), [], [])])
def lb_399 : List aLab := []
theorem ms_399 {Ext : gI → Prop} (hX : pSt Ext) : MSok bT Ext MT sm_399 := achk_ok (nm := 297) (sm := []) (labs := lb_399) (sp := []) (fuel := 13) (rE := [(1000000, (2, 0))]) (maxL := 2) (M := mX12_held) mt_X12_held rfl os_X12_held MT_len ( mA.nil) (pE hX (by decide +kernel)) (by decide +kernel)
def sm_408 : aM := (127, 0, [(0, (-2147483648), 2147483647), (0, 0, 0), (0, 16, 16)], [], [], [(some (1, 1), [(0, 0, 16)], []), (some (0, 0), [], [])])
def lb_408 : List aLab := []
theorem ms_408 {Ext : gI → Prop} (hX : pSt Ext) : MSok bT Ext MT sm_408 := achk_ok (nm := 297) (sm := []) (labs := lb_408) (sp := []) (fuel := 14) (rE := [(1000000, (2, 0))]) (maxL := 3) (M := mX12_in1) mt_X12_in1 rfl os_X12_in1 MT_len ( mA.nil) (pE hX (by decide +kernel)) (by decide +kernel)
def sm_409 : aM := (152, 0, [(1, 67, 0)], [], [(70, 0, 64)], [(none, [], [(70, 4, 10000000068, 4), (70, 5, 10000000068, 5)])])
theorem ms_409 {Ext : gI → Prop} (_hX : pSt Ext) : MSok bT Ext MT sm_409 := ms_cp (x := 68) (y := 70) (sp := 0) (dp := 0) (N := 65) mt_X12_layDown g_layDown (by decide +kernel) (by decide +kernel) (by decide +kernel)
def sm_411 : aM := (154, 0, [(1, 67, 0)], [(68, 4, 10000000070, 4), (68, 5, 10000000070, 5)], [(68, 0, 3), (68, 6, 64)], [(none, [], [])])
theorem ms_411 {Ext : gI → Prop} (_hX : pSt Ext) : MSok bT Ext MT sm_411 := ms_cp (x := 70) (y := 68) (sp := 0) (dp := 0) (N := 65) mt_X12_layBack g_layBack (by decide +kernel) (by decide +kernel) (by decide +kernel)
def sm_413 : aM := (150, 0, [(1, 67, 0)], [(68, 0, 16, 16)], [], [(some (1, 1), [], [(68, 0, 16, 16)])])
def lb_413 : List aLab := []
theorem ms_413 {Ext : gI → Prop} (hX : pSt Ext) : MSok bT Ext MT sm_413 := achk_ok (nm := 297) (sm := []) (labs := lb_413) (sp := []) (fuel := 17) (rE := [(1000000, (2, 0))]) (maxL := 1) (M := mX12_isOver) mt_X12_isOver rfl os_X12_isOver MT_len ( mA.nil) (pE hX (by decide +kernel)) (by decide +kernel)
def sm_414 : aM := (150, 0, [(1, 67, 0)], [(68, 0, 15, 15)], [], [(some (1, 1), [], [(68, 0, 15, 15), (68, 1, 0, 15)]), (some (0, 0), [], [(68, 0, 15, 15), (68, 1, 16, 16)])])
def lb_414 : List aLab := []
theorem ms_414 {Ext : gI → Prop} (hX : pSt Ext) : MSok bT Ext MT sm_414 := achk_ok (nm := 297) (sm := []) (labs := lb_414) (sp := []) (fuel := 17) (rE := [(1000000, (2, 0))]) (maxL := 1) (M := mX12_isOver) mt_X12_isOver rfl os_X12_isOver MT_len ( mA.nil) (pE hX (by decide +kernel)) (by decide +kernel)
def sm_416 : aM := (150, 0, [(1, 67, 0)], [(68, 0, 14, 14)], [], [(some (1, 1), [], [(68, 0, 14, 14), (68, 1, 0, 14)]), (some (0, 0), [], [(68, 0, 14, 14), (68, 1, 15, 16)])])
def lb_416 : List aLab := []
theorem ms_416 {Ext : gI → Prop} (hX : pSt Ext) : MSok bT Ext MT sm_416 := achk_ok (nm := 297) (sm := []) (labs := lb_416) (sp := []) (fuel := 17) (rE := [(1000000, (2, 0))]) (maxL := 1) (M := mX12_isOver) mt_X12_isOver rfl os_X12_isOver MT_len ( mA.nil) (pE hX (by decide +kernel)) (by decide +kernel)
def sm_418 : aM := (150, 0, [(1, 67, 0)], [(68, 0, 13, 13)], [], [(some (1, 1), [], [(68, 0, 13, 13), (68, 1, 0, 13)]), (some (0, 0), [], [(68, 0, 13, 13), (68, 1, 14, 16)])])
def lb_418 : List aLab := []
theorem ms_418 {Ext : gI → Prop} (hX : pSt Ext) : MSok bT Ext MT sm_418 := achk_ok (nm := 297) (sm := []) (labs := lb_418) (sp := []) (fuel := 17) (rE := [(1000000, (2, 0))]) (maxL := 1) (M := mX12_isOver) mt_X12_isOver rfl os_X12_isOver MT_len ( mA.nil) (pE hX (by decide +kernel)) (by decide +kernel)
def sm_420 : aM := (150, 0, [(1, 67, 0)], [(68, 0, 12, 12)], [], [(some (1, 1), [], [(68, 0, 12, 12), (68, 1, 0, 12)]), (some (0, 0), [], [(68, 0, 12, 12), (68, 1, 13, 16)])])
def lb_420 : List aLab := []
theorem ms_420 {Ext : gI → Prop} (hX : pSt Ext) : MSok bT Ext MT sm_420 := achk_ok (nm := 297) (sm := []) (labs := lb_420) (sp := []) (fuel := 17) (rE := [(1000000, (2, 0))]) (maxL := 1) (M := mX12_isOver) mt_X12_isOver rfl os_X12_isOver MT_len ( mA.nil) (pE hX (by decide +kernel)) (by decide +kernel)
def sm_422 : aM := (150, 0, [(1, 67, 0)], [(68, 0, 11, 11)], [], [(some (1, 1), [], [(68, 0, 11, 11), (68, 1, 0, 11)]), (some (0, 0), [], [(68, 0, 11, 11), (68, 1, 12, 16)])])
def lb_422 : List aLab := []
theorem ms_422 {Ext : gI → Prop} (hX : pSt Ext) : MSok bT Ext MT sm_422 := achk_ok (nm := 297) (sm := []) (labs := lb_422) (sp := []) (fuel := 17) (rE := [(1000000, (2, 0))]) (maxL := 1) (M := mX12_isOver) mt_X12_isOver rfl os_X12_isOver MT_len ( mA.nil) (pE hX (by decide +kernel)) (by decide +kernel)
def sm_424 : aM := (150, 0, [(1, 67, 0)], [(68, 0, 10, 10)], [], [(some (1, 1), [], [(68, 0, 10, 10), (68, 1, 0, 10)]), (some (0, 0), [], [(68, 0, 10, 10), (68, 1, 11, 16)])])
def lb_424 : List aLab := []
theorem ms_424 {Ext : gI → Prop} (hX : pSt Ext) : MSok bT Ext MT sm_424 := achk_ok (nm := 297) (sm := []) (labs := lb_424) (sp := []) (fuel := 17) (rE := [(1000000, (2, 0))]) (maxL := 1) (M := mX12_isOver) mt_X12_isOver rfl os_X12_isOver MT_len ( mA.nil) (pE hX (by decide +kernel)) (by decide +kernel)
def sm_426 : aM := (150, 0, [(1, 67, 0)], [(68, 0, 9, 9)], [], [(some (1, 1), [], [(68, 0, 9, 9), (68, 1, 0, 9)]), (some (0, 0), [], [(68, 0, 9, 9), (68, 1, 10, 16)])])
def lb_426 : List aLab := []
theorem ms_426 {Ext : gI → Prop} (hX : pSt Ext) : MSok bT Ext MT sm_426 := achk_ok (nm := 297) (sm := []) (labs := lb_426) (sp := []) (fuel := 17) (rE := [(1000000, (2, 0))]) (maxL := 1) (M := mX12_isOver) mt_X12_isOver rfl os_X12_isOver MT_len ( mA.nil) (pE hX (by decide +kernel)) (by decide +kernel)
def sm_428 : aM := (150, 0, [(1, 67, 0)], [(68, 0, 8, 8)], [], [(some (1, 1), [], [(68, 0, 8, 8), (68, 1, 0, 8)]), (some (0, 0), [], [(68, 0, 8, 8), (68, 1, 9, 16)])])
def lb_428 : List aLab := []
theorem ms_428 {Ext : gI → Prop} (hX : pSt Ext) : MSok bT Ext MT sm_428 := achk_ok (nm := 297) (sm := []) (labs := lb_428) (sp := []) (fuel := 17) (rE := [(1000000, (2, 0))]) (maxL := 1) (M := mX12_isOver) mt_X12_isOver rfl os_X12_isOver MT_len ( mA.nil) (pE hX (by decide +kernel)) (by decide +kernel)
def sm_430 : aM := (150, 0, [(1, 67, 0)], [(68, 0, 7, 7)], [], [(some (1, 1), [], [(68, 0, 7, 7), (68, 1, 0, 7)]), (some (0, 0), [], [(68, 0, 7, 7), (68, 1, 8, 16)])])
def lb_430 : List aLab := []
theorem ms_430 {Ext : gI → Prop} (hX : pSt Ext) : MSok bT Ext MT sm_430 := achk_ok (nm := 297) (sm := []) (labs := lb_430) (sp := []) (fuel := 17) (rE := [(1000000, (2, 0))]) (maxL := 1) (M := mX12_isOver) mt_X12_isOver rfl os_X12_isOver MT_len ( mA.nil) (pE hX (by decide +kernel)) (by decide +kernel)
def sm_432 : aM := (150, 0, [(1, 67, 0)], [(68, 0, 6, 6)], [], [(some (1, 1), [], [(68, 0, 6, 6), (68, 1, 0, 6)]), (some (0, 0), [], [(68, 0, 6, 6), (68, 1, 7, 16)])])
def lb_432 : List aLab := []
theorem ms_432 {Ext : gI → Prop} (hX : pSt Ext) : MSok bT Ext MT sm_432 := achk_ok (nm := 297) (sm := []) (labs := lb_432) (sp := []) (fuel := 17) (rE := [(1000000, (2, 0))]) (maxL := 1) (M := mX12_isOver) mt_X12_isOver rfl os_X12_isOver MT_len ( mA.nil) (pE hX (by decide +kernel)) (by decide +kernel)
def sm_434 : aM := (150, 0, [(1, 67, 0)], [(68, 0, 5, 5)], [], [(some (1, 1), [], [(68, 0, 5, 5), (68, 1, 0, 5)]), (some (0, 0), [], [(68, 0, 5, 5), (68, 1, 6, 16)])])
def lb_434 : List aLab := []
theorem ms_434 {Ext : gI → Prop} (hX : pSt Ext) : MSok bT Ext MT sm_434 := achk_ok (nm := 297) (sm := []) (labs := lb_434) (sp := []) (fuel := 17) (rE := [(1000000, (2, 0))]) (maxL := 1) (M := mX12_isOver) mt_X12_isOver rfl os_X12_isOver MT_len ( mA.nil) (pE hX (by decide +kernel)) (by decide +kernel)
def sm_436 : aM := (150, 0, [(1, 67, 0)], [(68, 0, 4, 4)], [], [(some (1, 1), [], [(68, 0, 4, 4), (68, 1, 0, 4)]), (some (0, 0), [], [(68, 0, 4, 4), (68, 1, 5, 16)])])
def lb_436 : List aLab := []
theorem ms_436 {Ext : gI → Prop} (hX : pSt Ext) : MSok bT Ext MT sm_436 := achk_ok (nm := 297) (sm := []) (labs := lb_436) (sp := []) (fuel := 17) (rE := [(1000000, (2, 0))]) (maxL := 1) (M := mX12_isOver) mt_X12_isOver rfl os_X12_isOver MT_len ( mA.nil) (pE hX (by decide +kernel)) (by decide +kernel)
def sm_438 : aM := (150, 0, [(1, 67, 0)], [(68, 0, 3, 3)], [], [(some (1, 1), [], [(68, 0, 3, 3), (68, 1, 0, 3)]), (some (0, 0), [], [(68, 0, 3, 3), (68, 1, 4, 16)])])
def lb_438 : List aLab := []
theorem ms_438 {Ext : gI → Prop} (hX : pSt Ext) : MSok bT Ext MT sm_438 := achk_ok (nm := 297) (sm := []) (labs := lb_438) (sp := []) (fuel := 17) (rE := [(1000000, (2, 0))]) (maxL := 1) (M := mX12_isOver) mt_X12_isOver rfl os_X12_isOver MT_len ( mA.nil) (pE hX (by decide +kernel)) (by decide +kernel)
def sm_440 : aM := (150, 0, [(1, 67, 0)], [(68, 0, 2, 2)], [], [(some (1, 1), [], [(68, 0, 2, 2), (68, 1, 0, 2)]), (some (0, 0), [], [(68, 0, 2, 2), (68, 1, 3, 16)])])
def lb_440 : List aLab := []
theorem ms_440 {Ext : gI → Prop} (hX : pSt Ext) : MSok bT Ext MT sm_440 := achk_ok (nm := 297) (sm := []) (labs := lb_440) (sp := []) (fuel := 17) (rE := [(1000000, (2, 0))]) (maxL := 1) (M := mX12_isOver) mt_X12_isOver rfl os_X12_isOver MT_len ( mA.nil) (pE hX (by decide +kernel)) (by decide +kernel)
def sm_442 : aM := (150, 0, [(1, 67, 0)], [(68, 0, 1, 1)], [], [(some (1, 1), [], [(68, 0, 1, 1), (68, 1, 0, 1)]), (some (0, 0), [], [(68, 0, 1, 1), (68, 1, 2, 16)])])
def lb_442 : List aLab := []
theorem ms_442 {Ext : gI → Prop} (hX : pSt Ext) : MSok bT Ext MT sm_442 := achk_ok (nm := 297) (sm := []) (labs := lb_442) (sp := []) (fuel := 17) (rE := [(1000000, (2, 0))]) (maxL := 1) (M := mX12_isOver) mt_X12_isOver rfl os_X12_isOver MT_len ( mA.nil) (pE hX (by decide +kernel)) (by decide +kernel)
def sm_444 : aM := (150, 0, [(1, 67, 0)], [(68, 0, 0, 0)], [], [(some (1, 1), [], [(68, 0, 0, 0), (68, 1, 0, 0)]), (some (0, 0), [], [(68, 0, 0, 0), (68, 1, 1, 16)])])
def lb_444 : List aLab := []
theorem ms_444 {Ext : gI → Prop} (hX : pSt Ext) : MSok bT Ext MT sm_444 := achk_ok (nm := 297) (sm := []) (labs := lb_444) (sp := []) (fuel := 17) (rE := [(1000000, (2, 0))]) (maxL := 1) (M := mX12_isOver) mt_X12_isOver rfl os_X12_isOver MT_len ( mA.nil) (pE hX (by decide +kernel)) (by decide +kernel)
def sm_463 : aM := (226, 3, [(1, 67, 0), (0, (-2147483648), 2147483647)], [], [], [(some ((-2147483648), 2147483647), [], [])])
def lb_463 : List aLab := [(14, [some (1, 67), some (0, 0), some (0, 1), some (0, 2)], [], [(0, 5, none), ((-2147483648), 2147483647, none), (0, 10, none)], [], [(99986, (2, 0)), (10, (0, 2)), (99986, (2, 0))])]
theorem ms_463 {Ext : gI → Prop} (hX : pSt Ext) : MSok bT Ext MT sm_463 := achk_ok (nm := 297) (sm := [sm_277, sm_316]) (labs := lb_463) (sp := []) (fuel := 23) (rE := [(1000000, (2, 0)), (0, (2, 0)), (0, (2, 0))]) (maxL := 4) (M := mX12_opens) mt_X12_opens rfl os_X12_opens MT_len ((mA.cons (ms_277 hX) (mA.cons (ms_316 hX) mA.nil))) (pE hX (by decide +kernel)) (by decide +kernel)
def sm_473 : aM := (159, 2, [(1, 67, 0), (0, 0, 5), (0, 0, 5)], [], [], [(some (1, 1), [], []), (some (0, 0), [], [])])
def lb_473 : List aLab := []
theorem ms_473 {Ext : gI → Prop} (hX : pSt Ext) : MSok bT Ext MT sm_473 := achk_ok (nm := 297) (sm := [sm_310, sm_314, sm_309]) (labs := lb_473) (sp := []) (fuel := 39) (rE := [(1000000, (2, 0))]) (maxL := 4) (M := mX12_areClose) mt_X12_areClose rfl os_X12_areClose MT_len ((mA.cons (ms_310 hX) (mA.cons (ms_314 hX) (mA.cons (ms_309 hX) mA.nil)))) (pE hX (by decide +kernel)) (by decide +kernel)
def sm_474 : aM := (158, 3, [(1, 67, 0), (0, 0, 5)], [], [], [(some ((-2147483648), 2147483647), [], [])])
def lb_474 : List aLab := [(6, [some (1, 67), some (0, 0), some (0, 1), some (0, 2), none, none], [], [(0, 5, none), ((-2147483648), 2147483647, none), (0, 6, none)], [], [(99994, (2, 0)), (6, (0, 2)), (99994, (2, 0)), (0, (2, 0)), (0, (2, 0)), (0, (2, 0)), (0, (2, 0))]), (19, [some (1, 67), some (0, 0), some (0, 1), some (0, 2), some (0, 3), none], [], [(0, 5, none), ((-2147483648), 2147483647, none), (0, 5, none), (0, 6, none), (1, 6, none)], [(68, 4, (0, 4))], [(99994, (2, 0)), (6, (0, 2)), (99981, (2, 0)), (6, (0, 3)), (99981, (2, 0)), (0, (2, 0)), (0, (2, 0))]), (33, [some (1, 67), some (0, 0), some (0, 1), some (0, 2), some (0, 3), some (0, 4)], [], [(0, 5, none), ((-2147483648), 2147483647, none), (0, 5, none), (0, 5, none), (0, 6, none), (1, 6, none)], [(68, 4, (0, 5))], [(99994, (2, 0)), (6, (0, 2)), (99981, (2, 0)), (6, (0, 3)), (99967, (2, 0)), (6, (0, 4)), (99967, (2, 0))])]
theorem ms_474 {Ext : gI → Prop} (hX : pSt Ext) : MSok bT Ext MT sm_474 := achk_ok (nm := 297) (sm := [sm_309, sm_473]) (labs := lb_474) (sp := []) (fuel := 33) (rE := [(1000000, (2, 0)), (0, (2, 0)), (0, (2, 0)), (0, (2, 0)), (0, (2, 0)), (0, (2, 0)), (0, (2, 0))]) (maxL := 6) (M := mX12_bunchOf) mt_X12_bunchOf rfl os_X12_bunchOf MT_len ((mA.cons (ms_309 hX) (mA.cons (ms_473 hX) mA.nil))) (pE hX (by decide +kernel)) (by decide +kernel)
def sm_475 : aM := (230, 4, [(1, 67, 0), (0, (-2147483648), 2147483647)], [], [], [(some ((-2147483648), 2147483647), [], [])])
def lb_475 : List aLab := [(29, [some (1, 67), some (2, (-1)), some (0, 0), some (0, 1), none], [], [((-2147483648), 2147483647, none), (0, 6, none)], [], [(99971, (2, 0)), (6, (0, 1)), (99971, (2, 0))])]
theorem ms_475 {Ext : gI → Prop} (hX : pSt Ext) : MSok bT Ext MT sm_475 := achk_ok (nm := 297) (sm := [sm_474, sm_277]) (labs := lb_475) (sp := []) (fuel := 31) (rE := [(1000000, (2, 0)), (0, (2, 0)), (0, (2, 0))]) (maxL := 5) (M := mX12_bunches) mt_X12_bunches rfl os_X12_bunches MT_len ((mA.cons (ms_474 hX) (mA.cons (ms_277 hX) mA.nil))) (pE hX (by decide +kernel)) (by decide +kernel)
def sm_476 : aM := (127, 0, [(0, (-2147483648), 2147483647), (0, 0, 0), (0, 4, 4)], [], [], [(some (1, 1), [(0, 0, 4)], []), (some (0, 0), [], [])])
def lb_476 : List aLab := []
theorem ms_476 {Ext : gI → Prop} (hX : pSt Ext) : MSok bT Ext MT sm_476 := achk_ok (nm := 297) (sm := []) (labs := lb_476) (sp := []) (fuel := 14) (rE := [(1000000, (2, 0))]) (maxL := 3) (M := mX12_in1) mt_X12_in1 rfl os_X12_in1 MT_len ( mA.nil) (pE hX (by decide +kernel)) (by decide +kernel)
def sm_477 : aM := (165, 1, [(0, (-2147483648), 2147483647)], [], [], [(some (0, 0), [], []), (some (1, 1), [(0, 0, 4)], [])])
def lb_477 : List aLab := []
theorem ms_477 {Ext : gI → Prop} (hX : pSt Ext) : MSok bT Ext MT sm_477 := achk_ok (nm := 297) (sm := [sm_476]) (labs := lb_477) (sp := []) (fuel := 10) (rE := [(1000000, (2, 0))]) (maxL := 1) (M := mX12_isPlan) mt_X12_isPlan rfl os_X12_isPlan MT_len ((mA.cons (ms_476 hX) mA.nil)) (pE hX (by decide +kernel)) (by decide +kernel)
def sm_478 : aM := (163, 1, [(1, 67, 0), (0, 0, 4)], [(68, 0, 0, 16)], [], [(some (0, 0), [], []), (some (1, 1), [(1, 1, 4)], [(68, 0, 0, 15), (68, 1, 1, 16)]), (some (2, 2), [(1, 2, 4)], [(68, 0, 0, 14), (68, 1, 1, 16)]), (some (3, 3), [(1, 3, 4)], [(68, 0, 0, 13), (68, 1, 1, 16)]), (some (4, 4), [(1, 4, 4)], [(68, 0, 0, 12), (68, 1, 1, 16)])])
def lb_478 : List aLab := []
theorem ms_478 {Ext : gI → Prop} (hX : pSt Ext) : MSok bT Ext MT sm_478 := achk_ok (nm := 297) (sm := [sm_413, sm_414, sm_416, sm_418, sm_420, sm_422, sm_424, sm_426, sm_428, sm_430, sm_432, sm_434, sm_436, sm_438, sm_440, sm_442, sm_444]) (labs := lb_478) (sp := [(0, 69, 0, []), (0, 0, 1, []), (25, 0, 2, [])]) (fuel := 27) (rE := [(1000000, (2, 0))]) (maxL := 3) (M := mX12_daysOf) mt_X12_daysOf rfl os_X12_daysOf MT_len ((mA.cons (ms_413 hX) (mA.cons (ms_414 hX) (mA.cons (ms_416 hX) (mA.cons (ms_418 hX) (mA.cons (ms_420 hX) (mA.cons (ms_422 hX) (mA.cons (ms_424 hX) (mA.cons (ms_426 hX) (mA.cons (ms_428 hX) (mA.cons (ms_430 hX) (mA.cons (ms_432 hX) (mA.cons (ms_434 hX) (mA.cons (ms_436 hX) (mA.cons (ms_438 hX) (mA.cons (ms_440 hX) (mA.cons (ms_442 hX) (mA.cons (ms_444 hX) mA.nil)))))))))))))))))) (pE hX (by decide +kernel)) (by decide +kernel)
